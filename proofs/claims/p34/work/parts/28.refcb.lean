abbrev tX11_goesToNextOrder : List (Nat × Instr × Nat) := [(0, .aload_n 0, 1), (1, .getfield 445, 3), (4, .iconst 2, 1), (5, .isub, 1), (6, .istore_n 1, 1), (7, .iload_n 1, 1), (8, .ifCond .lt 27, 3), (11, .aload_n 0, 1), (12, .getfield 111, 3), (15, .iload_n 1, 1), (16, .iaload, 1), (17, .aload_n 0, 1), (18, .getfield 111, 3), (21, .iload_n 1, 1), (22, .iconst 1, 1), (23, .iadd, 1), (24, .iaload, 1), (25, .if_icmp .le 10, 3), (28, .iload_n 1, 1), (29, .iconst 1, 1), (30, .isub, 1), (31, .istore_n 1, 1), (32, .goto (-25), 3), (35, .iload_n 1, 1), (36, .ifCond .ge 5, 3), (39, .iconst 0, 1), (40, .ireturn, 1), (41, .aload_n 0, 1), (42, .getfield 445, 3), (45, .iconst 1, 1), (46, .isub, 1), (47, .istore_n 2, 1), (48, .aload_n 0, 1), (49, .getfield 111, 3), (52, .iload_n 2, 1), (53, .iaload, 1), (54, .aload_n 0, 1), (55, .getfield 111, 3), (58, .iload_n 1, 1), (59, .iaload, 1), (60, .if_icmp .ge 10, 3), (63, .iload_n 2, 1), (64, .iconst 1, 1), (65, .isub, 1), (66, .istore_n 2, 1), (67, .goto (-19), 3), (70, .aload_n 0, 1), (71, .getfield 111, 3), (74, .iload_n 1, 1), (75, .iaload, 1), (76, .istore_n 3, 1), (77, .aload_n 0, 1), (78, .getfield 111, 3), (81, .iload_n 1, 1), (82, .aload_n 0, 1), (83, .getfield 111, 3), (86, .iload_n 2, 1), (87, .iaload, 1), (88, .iastore, 1), (89, .aload_n 0, 1), (90, .getfield 111, 3), (93, .iload_n 2, 1), (94, .iload_n 3, 1), (95, .iastore, 1), (96, .aload_n 0, 1), (97, .getfield 445, 3), (100, .iconst 1, 1), (101, .isub, 1), (102, .istore 4, 2), (104, .iload_n 1, 1), (105, .iconst 1, 1), (106, .iadd, 1), (107, .istore 5, 2), (109, .iload 5, 2), (111, .iload 4, 2), (113, .if_icmp .ge 45, 3), (116, .aload_n 0, 1), (117, .getfield 111, 3), (120, .iload 5, 2), (122, .iaload, 1), (123, .istore_n 3, 1), (124, .aload_n 0, 1), (125, .getfield 111, 3), (128, .iload 5, 2), (130, .aload_n 0, 1), (131, .getfield 111, 3), (134, .iload 4, 2), (136, .iaload, 1), (137, .iastore, 1), (138, .aload_n 0, 1), (139, .getfield 111, 3), (142, .iload 4, 2), (144, .iload_n 3, 1), (145, .iastore, 1), (146, .iload 4, 2), (148, .iconst 1, 1), (149, .isub, 1), (150, .istore 4, 2), (152, .iinc 5 1, 3), (155, .goto (-46), 3), (158, .iconst 1, 1), (159, .ireturn, 1)]
theorem ttX11_goesToNextOrder : zdt cX11_goesToNextOrder tX11_goesToNextOrder = true := by decide +kernel
abbrev q_X11_goesToNextOrder (h : zM) : Option zV → zM → Prop := zqi fun v h' => (0 ≤ v ∧ v ≤ 1) ∧ okM h' ∧ zfr [] [33] h h' ∧ (zinj (h.2 0 53) (h'.2 33)) ∧ (v = 1 → zord (h.2 33) < zord (h'.2 33))
set_option maxRecDepth 100000 in
set_option maxHeartbeats 4000000 in
theorem s_X11_goesToNextOrder (l : Launch) (h : zM) (s0 : okM h) (u_0 : zinj (h.2 0 53) (h.2 33)) (u_1 : 1 ≤ h.2 0 53) : zT shM l yX11_goesToNextOrder cX11_goesToNextOrder 6 (some .boolean) (rmL 1) 0 0 [.inr 0] h (q_X11_goesToNextOrder h) := by
  refine zT_of (by decide +kernel) (L0 := [some (.inr 0), none, none, none, none, none]) rfl (Nat.le_of_ble_eq_true rfl) ?_
  refine zj_aload_n (zdk ttX11_goesToNextOrder 0 rfl rfl) rfl (by decide) ?_
  have b1 : 0 ≤ (h.2 0 53) ∧ (h.2 0 53) ≤ 6 := fM_53 s0
  refine zj_geti (v := (h.2 0 53)) (zdk ttX11_goesToNextOrder 1 rfl rfl) zf_RX11_445 rfl (k_M s0) rfl ?_
  refine zj_iconst (zdk ttX11_goesToNextOrder 2 rfl rfl) ?_
  refine zj_isub (zdk ttX11_goesToNextOrder 3 rfl rfl) ?_
  refine zj_istore_n (L' := [some (.inr 0), some (.inl ((h.2 0 53) - 2)), none, none, none, none]) (zdk ttX11_goesToNextOrder 4 rfl rfl) (by decide) rfl ?_
  have lp7 : ∀ (n7 : Nat) (x2 : Int), (-1 ≤ x2 ∧ x2 ≤ 4) → (x2 ≤ h.2 0 53 - 2) → (x2 - -2).toNat < n7 → zJ shM l yX11_goesToNextOrder cX11_goesToNextOrder 6 (some .boolean) (rmL 1) 0 0 (q_X11_goesToNextOrder h) 0 0 7 [some (.inr 0), some (.inl x2), none, none, none, none] [] h := by
    intro n7
    induction n7 with
    | zero => intro x2 b8 u9 m10; exact absurd m10 (Nat.not_lt_zero _)
    | succ n7 ih11 =>
      intro x2 b8 u9 m10
      refine zj_iload_n (zdk ttX11_goesToNextOrder 5 rfl rfl) rfl ?_
      refine zj_if_lt (t := 35) (zdk ttX11_goesToNextOrder 6 rfl rfl) (by decide) (by omega) (fun c12 => ?_) (fun c12 => ?_)
      · refine zj_iload_n (zdk ttX11_goesToNextOrder 23 rfl rfl) rfl ?_
        refine zj_if_ge (t := 41) (zdk ttX11_goesToNextOrder 24 rfl rfl) (by decide) (by omega) (fun c13 => ?_) (fun c13 => ?_)
        · exact absurd c13 (by omega)
        · refine zj_iconst (zdk ttX11_goesToNextOrder 25 rfl rfl) ?_
          exact zj_zret rfl (zdk ttX11_goesToNextOrder 26 rfl rfl) (Nat.le_refl _) (Nat.le_refl _) (by omega) ⟨0, rfl, by omega, s0, (zfr_r _ _ _), u_0, (fun q => absurd q (by decide))⟩
      · refine zj_aload_n (zdk ttX11_goesToNextOrder 7 rfl rfl) rfl (by decide) ?_
        refine zj_getr (r := 33) (zdk ttX11_goesToNextOrder 8 rfl rfl) zf_RX11_111 rfl (k_M s0) (rfM_56 s0) ?_
        refine zj_iload_n (zdk ttX11_goesToNextOrder 9 rfl rfl) rfl ?_
        have b14 : 0 ≤ (h.2 33 x2) ∧ (h.2 33 x2) ≤ 5 := abM_33 s0 x2
        refine zj_iald (v := (h.2 33 x2)) (zdk ttX11_goesToNextOrder 10 rfl rfl) (kaM_33 s0) (by decide) (by omega) rfl ?_
        refine zj_aload_n (zdk ttX11_goesToNextOrder 11 rfl rfl) rfl (by decide) ?_
        refine zj_getr (r := 33) (zdk ttX11_goesToNextOrder 12 rfl rfl) zf_RX11_111 rfl (k_M s0) (rfM_56 s0) ?_
        refine zj_iload_n (zdk ttX11_goesToNextOrder 13 rfl rfl) rfl ?_
        refine zj_iconst (zdk ttX11_goesToNextOrder 14 rfl rfl) ?_
        refine zj_iadd (zdk ttX11_goesToNextOrder 15 rfl rfl) ?_
        have b15 : 0 ≤ (h.2 33 (x2 + 1)) ∧ (h.2 33 (x2 + 1)) ≤ 5 := abM_33 s0 (x2 + 1)
        refine zj_iald (v := (h.2 33 (x2 + 1))) (zdk ttX11_goesToNextOrder 16 rfl rfl) (kaM_33 s0) (by decide) (by omega) rfl ?_
        refine zj_icmp_le (t := 35) (zdk ttX11_goesToNextOrder 17 rfl rfl) (by decide) (by omega) (by omega) (fun c16 => ?_) (fun c16 => ?_)
        · refine zj_iload_n (zdk ttX11_goesToNextOrder 23 rfl rfl) rfl ?_
          refine zj_if_ge (t := 41) (zdk ttX11_goesToNextOrder 24 rfl rfl) (by decide) (by omega) (fun c17 => ?_) (fun c17 => ?_)
          · refine zj_aload_n (zdk ttX11_goesToNextOrder 27 rfl rfl) rfl (by decide) ?_
            refine zj_geti (v := (h.2 0 53)) (zdk ttX11_goesToNextOrder 28 rfl rfl) zf_RX11_445 rfl (k_M s0) rfl ?_
            refine zj_iconst (zdk ttX11_goesToNextOrder 29 rfl rfl) ?_
            refine zj_isub (zdk ttX11_goesToNextOrder 30 rfl rfl) ?_
            refine zj_istore_n (L' := [some (.inr 0), some (.inl x2), some (.inl ((h.2 0 53) - 1)), none, none, none]) (zdk ttX11_goesToNextOrder 31 rfl rfl) (by decide) rfl ?_
            have lp21 : ∀ (n48 : Nat) (x18 : Int), (0 ≤ x18 ∧ x18 ≤ 5) → (x2 + 1 ≤ x18 ∧ x18 < h.2 0 53) → (x18 + 1).toNat < n48 → zJ shM l yX11_goesToNextOrder cX11_goesToNextOrder 6 (some .boolean) (rmL 1) 0 0 (q_X11_goesToNextOrder h) 0 0 48 [some (.inr 0), some (.inl x2), some (.inl x18), none, none, none] [] h := by
              intro n48
              induction n48 with
              | zero => intro x18 b22 u23 m24; exact absurd m24 (Nat.not_lt_zero _)
              | succ n48 ih25 =>
                intro x18 b22 u23 m24
                refine zj_aload_n (zdk ttX11_goesToNextOrder 32 rfl rfl) rfl (by decide) ?_
                refine zj_getr (r := 33) (zdk ttX11_goesToNextOrder 33 rfl rfl) zf_RX11_111 rfl (k_M s0) (rfM_56 s0) ?_
                refine zj_iload_n (zdk ttX11_goesToNextOrder 34 rfl rfl) rfl ?_
                have b26 : 0 ≤ (h.2 33 x18) ∧ (h.2 33 x18) ≤ 5 := abM_33 s0 x18
                refine zj_iald (v := (h.2 33 x18)) (zdk ttX11_goesToNextOrder 35 rfl rfl) (kaM_33 s0) (by decide) (by omega) rfl ?_
                refine zj_aload_n (zdk ttX11_goesToNextOrder 36 rfl rfl) rfl (by decide) ?_
                refine zj_getr (r := 33) (zdk ttX11_goesToNextOrder 37 rfl rfl) zf_RX11_111 rfl (k_M s0) (rfM_56 s0) ?_
                refine zj_iload_n (zdk ttX11_goesToNextOrder 38 rfl rfl) rfl ?_
                refine zj_iald (v := (h.2 33 x2)) (zdk ttX11_goesToNextOrder 39 rfl rfl) (kaM_33 s0) (by decide) (by omega) rfl ?_
                refine zj_icmp_ge (t := 70) (zdk ttX11_goesToNextOrder 40 rfl rfl) (by decide) (by omega) (by omega) (fun c27 => ?_) (fun c27 => ?_)
                · refine zj_aload_n (zdk ttX11_goesToNextOrder 46 rfl rfl) rfl (by decide) ?_
                  refine zj_getr (r := 33) (zdk ttX11_goesToNextOrder 47 rfl rfl) zf_RX11_111 rfl (k_M s0) (rfM_56 s0) ?_
                  refine zj_iload_n (zdk ttX11_goesToNextOrder 48 rfl rfl) rfl ?_
                  refine zj_iald (v := (h.2 33 x2)) (zdk ttX11_goesToNextOrder 49 rfl rfl) (kaM_33 s0) (by decide) (by omega) rfl ?_
                  refine zj_istore_n (L' := [some (.inr 0), some (.inl x2), some (.inl x18), some (.inl (h.2 33 x2)), none, none]) (zdk ttX11_goesToNextOrder 50 rfl rfl) (by decide) rfl ?_
                  refine zj_aload_n (zdk ttX11_goesToNextOrder 51 rfl rfl) rfl (by decide) ?_
                  refine zj_getr (r := 33) (zdk ttX11_goesToNextOrder 52 rfl rfl) zf_RX11_111 rfl (k_M s0) (rfM_56 s0) ?_
                  refine zj_iload_n (zdk ttX11_goesToNextOrder 53 rfl rfl) rfl ?_
                  refine zj_aload_n (zdk ttX11_goesToNextOrder 54 rfl rfl) rfl (by decide) ?_
                  refine zj_getr (r := 33) (zdk ttX11_goesToNextOrder 55 rfl rfl) zf_RX11_111 rfl (k_M s0) (rfM_56 s0) ?_
                  refine zj_iload_n (zdk ttX11_goesToNextOrder 56 rfl rfl) rfl ?_
                  refine zj_iald (v := (h.2 33 x18)) (zdk ttX11_goesToNextOrder 57 rfl rfl) (kaM_33 s0) (by decide) (by omega) rfl ?_
                  refine zj_iast (zdk ttX11_goesToNextOrder 58 rfl rfl) (kaM_33 s0) (by decide) (by omega) (fun h28 e29 => ?_)
                  refine zj_aload_n (zdk ttX11_goesToNextOrder 59 rfl rfl) rfl (by decide) ?_
                  have s30 : okM h28 := awM_33 s0 e29 (by omega) (by unfold nsp; omega)
                  refine zj_getr (r := 33) (zdk ttX11_goesToNextOrder 60 rfl rfl) zf_RX11_111 rfl (k_M s30) (rfM_56 s30) ?_
                  refine zj_iload_n (zdk ttX11_goesToNextOrder 61 rfl rfl) rfl ?_
                  refine zj_iload_n (zdk ttX11_goesToNextOrder 62 rfl rfl) rfl ?_
                  refine zj_iast (zdk ttX11_goesToNextOrder 63 rfl rfl) (kaM_33 s30) (by decide) (by omega) (fun h31 e32 => ?_)
                  refine zj_aload_n (zdk ttX11_goesToNextOrder 64 rfl rfl) rfl (by decide) ?_
                  have s33 : okM h31 := awM_33 s30 e32 (by omega) (by unfold nsp; omega)
                  refine zj_geti (v := (h.2 0 53)) (zdk ttX11_goesToNextOrder 65 rfl rfl) zf_RX11_445 rfl (k_M s33) ((zwr_r e32 (by first | decide | exact (absurd ·.1 (by decide)) | exact (absurd ·.2 (by decide)) | omega)).trans (zwr_r e29 (by first | decide | exact (absurd ·.1 (by decide)) | exact (absurd ·.2 (by decide)) | omega))) ?_
                  refine zj_iconst (zdk ttX11_goesToNextOrder 66 rfl rfl) ?_
                  refine zj_isub (zdk ttX11_goesToNextOrder 67 rfl rfl) ?_
                  refine zj_istore (L' := [some (.inr 0), some (.inl x2), some (.inl x18), some (.inl (h.2 33 x2)), some (.inl ((h.2 0 53) - 1)), none]) (zdk ttX11_goesToNextOrder 68 rfl rfl) (by decide) rfl ?_
                  refine zj_iload_n (zdk ttX11_goesToNextOrder 69 rfl rfl) rfl ?_
                  refine zj_iconst (zdk ttX11_goesToNextOrder 70 rfl rfl) ?_
                  refine zj_iadd (zdk ttX11_goesToNextOrder 71 rfl rfl) ?_
                  refine zj_istore (L' := [some (.inr 0), some (.inl x2), some (.inl x18), some (.inl (h.2 33 x2)), some (.inl ((h.2 0 53) - 1)), some (.inl (x2 + 1))]) (zdk ttX11_goesToNextOrder 72 rfl rfl) (by decide) rfl ?_
                  have lp48 : ∀ (n109 : Nat) (x34 x35 x36 : Int) (h37 : zM), (0 ≤ x34 ∧ x34 ≤ 5) → (-1 ≤ x35 ∧ x35 ≤ 5) → (0 ≤ x36 ∧ x36 ≤ 6) → okM h37 → zfr [] [33] h h37 → (zinj (h.2 0 53) (h37.2 33)) → (∀ j, 0 ≤ j → j < x2 → h37.2 33 j = h.2 33 j) → (h.2 33 x2 < h37.2 33 x2) → (x2 < x36 ∧ x35 < h.2 0 53 ∧ 0 ≤ x2) → (x35 - -2).toNat < n109 → zJ shM l yX11_goesToNextOrder cX11_goesToNextOrder 6 (some .boolean) (rmL 1) 0 0 (q_X11_goesToNextOrder h) 0 0 109 [some (.inr 0), some (.inl x2), some (.inl x18), some (.inl x34), some (.inl x35), some (.inl x36)] [] h37 := by
                    intro n109
                    induction n109 with
                    | zero => intro x34 x35 x36 h37 b49 b50 b51 s38 f39 u52 u53 u54 u55 m56; exact absurd m56 (Nat.not_lt_zero _)
                    | succ n109 ih57 =>
                      intro x34 x35 x36 h37 b49 b50 b51 s38 f39 u52 u53 u54 u55 m56
                      refine zj_iload (zdk ttX11_goesToNextOrder 73 rfl rfl) rfl ?_
                      refine zj_iload (zdk ttX11_goesToNextOrder 74 rfl rfl) rfl ?_
                      refine zj_icmp_ge (t := 158) (zdk ttX11_goesToNextOrder 75 rfl rfl) (by decide) (by omega) (by omega) (fun c58 => ?_) (fun c58 => ?_)
                      · refine zj_iconst (zdk ttX11_goesToNextOrder 100 rfl rfl) ?_
                        exact zj_zret rfl (zdk ttX11_goesToNextOrder 101 rfl rfl) (Nat.le_refl _) (Nat.le_refl _) (by omega) ⟨1, rfl, by omega, s38, f39, u52, (fun _ => zord_lt (i := x2) (fun j => abM_33 s0 j) (fun j => abM_33 s38 j) (by omega) u53 u54)⟩
                      · refine zj_aload_n (zdk ttX11_goesToNextOrder 76 rfl rfl) rfl (by decide) ?_
                        refine zj_getr (r := 33) (zdk ttX11_goesToNextOrder 77 rfl rfl) zf_RX11_111 rfl (k_M s38) (rfM_56 s38) ?_
                        refine zj_iload (zdk ttX11_goesToNextOrder 78 rfl rfl) rfl ?_
                        have b59 : 0 ≤ (h37.2 33 x36) ∧ (h37.2 33 x36) ≤ 5 := abM_33 s38 x36
                        refine zj_iald (v := (h37.2 33 x36)) (zdk ttX11_goesToNextOrder 79 rfl rfl) (kaM_33 s38) (by decide) (by omega) rfl ?_
                        refine zj_istore_n (L' := [some (.inr 0), some (.inl x2), some (.inl x18), some (.inl (h37.2 33 x36)), some (.inl x35), some (.inl x36)]) (zdk ttX11_goesToNextOrder 80 rfl rfl) (by decide) rfl ?_
                        refine zj_aload_n (zdk ttX11_goesToNextOrder 81 rfl rfl) rfl (by decide) ?_
                        refine zj_getr (r := 33) (zdk ttX11_goesToNextOrder 82 rfl rfl) zf_RX11_111 rfl (k_M s38) (rfM_56 s38) ?_
                        refine zj_iload (zdk ttX11_goesToNextOrder 83 rfl rfl) rfl ?_
                        refine zj_aload_n (zdk ttX11_goesToNextOrder 84 rfl rfl) rfl (by decide) ?_
                        refine zj_getr (r := 33) (zdk ttX11_goesToNextOrder 85 rfl rfl) zf_RX11_111 rfl (k_M s38) (rfM_56 s38) ?_
                        refine zj_iload (zdk ttX11_goesToNextOrder 86 rfl rfl) rfl ?_
                        have b60 : 0 ≤ (h37.2 33 x35) ∧ (h37.2 33 x35) ≤ 5 := abM_33 s38 x35
                        refine zj_iald (v := (h37.2 33 x35)) (zdk ttX11_goesToNextOrder 87 rfl rfl) (kaM_33 s38) (by decide) (by omega) rfl ?_
                        refine zj_iast (zdk ttX11_goesToNextOrder 88 rfl rfl) (kaM_33 s38) (by decide) (by omega) (fun h61 e62 => ?_)
                        refine zj_aload_n (zdk ttX11_goesToNextOrder 89 rfl rfl) rfl (by decide) ?_
                        have s63 : okM h61 := awM_33 s38 e62 (by omega) (by unfold nsp; omega)
                        refine zj_getr (r := 33) (zdk ttX11_goesToNextOrder 90 rfl rfl) zf_RX11_111 rfl (k_M s63) (rfM_56 s63) ?_
                        refine zj_iload (zdk ttX11_goesToNextOrder 91 rfl rfl) rfl ?_
                        refine zj_iload_n (zdk ttX11_goesToNextOrder 92 rfl rfl) rfl ?_
                        refine zj_iast (zdk ttX11_goesToNextOrder 93 rfl rfl) (kaM_33 s63) (by decide) (by omega) (fun h64 e65 => ?_)
                        refine zj_iload (zdk ttX11_goesToNextOrder 94 rfl rfl) rfl ?_
                        refine zj_iconst (zdk ttX11_goesToNextOrder 95 rfl rfl) ?_
                        refine zj_isub (zdk ttX11_goesToNextOrder 96 rfl rfl) ?_
                        refine zj_istore (L' := [some (.inr 0), some (.inl x2), some (.inl x18), some (.inl (h37.2 33 x36)), some (.inl (x35 - 1)), some (.inl x36)]) (zdk ttX11_goesToNextOrder 97 rfl rfl) (by decide) rfl ?_
                        refine zj_iinc (L' := [some (.inr 0), some (.inl x2), some (.inl x18), some (.inl (h37.2 33 x36)), some (.inl (x35 - 1)), some (.inl (x36 + 1))]) (zdk ttX11_goesToNextOrder 98 rfl rfl) rfl (by decide) rfl ?_
                        refine zj_goto (t := 109) (zdk ttX11_goesToNextOrder 99 rfl rfl) (by decide) ?_
                        have s66 : okM h64 := awM_33 s63 e65 (by omega) (by unfold nsp; omega)
                        have f68 : zfr [] [33] h h61 := zfr_wa f39 e62 rfl
                        have f67 : zfr [] [33] h h64 := zfr_wa f68 e65 rfl
                        have z69 : zinj (h.2 0 53) (h64.2 33) := zinj_swap (i := x36) (k := x35) u52 e62 e65 (by omega) (by omega)
                        exact ih57  (h37.2 33 x36) (x35 - 1) (x36 + 1) h64 (by omega) (by omega) (by omega) s66 f67 z69 (fun j q1 q2 => by rw [zwr_r e65 (by first | decide | exact (absurd ·.1 (by decide)) | exact (absurd ·.2 (by decide)) | omega), zwr_r e62 (by first | decide | exact (absurd ·.1 (by decide)) | exact (absurd ·.2 (by decide)) | omega)]; exact u53 j q1 q2) (by rw [zwr_r e65 (by first | decide | exact (absurd ·.1 (by decide)) | exact (absurd ·.2 (by decide)) | omega), zwr_r e62 (by first | decide | exact (absurd ·.1 (by decide)) | exact (absurd ·.2 (by decide)) | omega)]; exact u54) (by omega) (by omega)
                  have f71 : zfr [] [33] h h28 := zfr_wa (zfr_r _ _ _) e29 rfl
                  have f70 : zfr [] [33] h h31 := zfr_wa f71 e32 rfl
                  have z72 : zinj (h.2 0 53) (h31.2 33) := zinj_swap (i := x2) (k := x18) u_0 e29 e32 (by omega) (by omega)
                  exact lp48 _ (h.2 33 x2) ((h.2 0 53) - 1) (x2 + 1) h31 (by omega) (by omega) (by omega) s33 f70 z72 (fun j q1 q2 => by rw [zwr_r e32 (by first | decide | exact (absurd ·.1 (by decide)) | exact (absurd ·.2 (by decide)) | omega), zwr_r e29 (by first | decide | exact (absurd ·.1 (by decide)) | exact (absurd ·.2 (by decide)) | omega)]) (by rw [zwr_r e32 (by first | decide | exact (absurd ·.1 (by decide)) | exact (absurd ·.2 (by decide)) | omega), zwr_v e29]; have q0 := u_0 x2 x18 (by omega) (by omega) (by omega) (by omega); omega) (by omega) (Nat.lt_succ_self _)
                · refine zj_iload_n (zdk ttX11_goesToNextOrder 41 rfl rfl) rfl ?_
                  refine zj_iconst (zdk ttX11_goesToNextOrder 42 rfl rfl) ?_
                  refine zj_isub (zdk ttX11_goesToNextOrder 43 rfl rfl) ?_
                  refine zj_istore_n (L' := [some (.inr 0), some (.inl x2), some (.inl (x18 - 1)), none, none, none]) (zdk ttX11_goesToNextOrder 44 rfl rfl) (by decide) rfl ?_
                  refine zj_goto (t := 48) (zdk ttX11_goesToNextOrder 45 rfl rfl) (by decide) ?_
                  have b73 : x18 = x2 + 1 → h.2 33 x18 = h.2 33 (x2 + 1) := fun q => by rw [q]
                  exact ih25  (x18 - 1) (by omega) (by omega) (by omega)
            exact lp21 _ ((h.2 0 53) - 1) (by omega) (by omega) (Nat.lt_succ_self _)
          · exact absurd c17 (by omega)
        · refine zj_iload_n (zdk ttX11_goesToNextOrder 18 rfl rfl) rfl ?_
          refine zj_iconst (zdk ttX11_goesToNextOrder 19 rfl rfl) ?_
          refine zj_isub (zdk ttX11_goesToNextOrder 20 rfl rfl) ?_
          refine zj_istore_n (L' := [some (.inr 0), some (.inl (x2 - 1)), none, none, none, none]) (zdk ttX11_goesToNextOrder 21 rfl rfl) (by decide) rfl ?_
          refine zj_goto (t := 7) (zdk ttX11_goesToNextOrder 22 rfl rfl) (by decide) ?_
          exact ih11  (x2 - 1) (by omega) (by omega) (by omega)
  exact lp7 _ ((h.2 0 53) - 2) (by omega) (by omega) (Nat.lt_succ_self _)

abbrev tX11_hung : List (Nat × Instr × Nat) := [(0, .aload_n 0, 1), (1, .iconst 0, 1), (2, .putfield 120, 3), (5, .aload_n 0, 1), (6, .iload_n 1, 1), (7, .iconst 0, 1), (8, .iconst 1, 1), (9, .invokevirtual 139, 3), (12, .ifCond .ne 5, 3), (15, .iconst (-1), 1), (16, .ireturn, 1), (17, .aload_n 0, 1), (18, .getfield 445, 3), (21, .ifCond .ne 5, 3), (24, .iconst 0, 1), (25, .ireturn, 1), (26, .iconst 0, 1), (27, .istore_n 2, 1), (28, .iload_n 2, 1), (29, .aload_n 0, 1), (30, .getfield 445, 3), (33, .if_icmp .ge 16, 3), (36, .aload_n 0, 1), (37, .getfield 111, 3), (40, .iload_n 2, 1), (41, .iload_n 2, 1), (42, .iastore, 1), (43, .iinc 2 1, 3), (46, .goto (-18), 3), (49, .ldc_w 411, 3), (52, .istore_n 2, 1), (53, .iconst 0, 1), (54, .istore_n 3, 1), (55, .iconst 1, 1), (56, .istore 4, 2), (58, .iload 4, 2), (60, .ifCond .eq 101, 3), (63, .iconst 0, 1), (64, .istore 5, 2), (66, .iconst 0, 1), (67, .istore 6, 2), (69, .iconst 0, 1), (70, .istore 7, 2), (72, .iload 7, 2), (74, .aload_n 0, 1), (75, .getfield 445, 3), (78, .if_icmp .ge 49, 3), (81, .iload 5, 2), (83, .aload_n 0, 1), (84, .getfield 108, 3), (87, .iload 7, 2), (89, .iaload, 1), (90, .aload_n 0, 1), (91, .getfield 105, 3), (94, .aload_n 0, 1), (95, .getfield 111, 3), (98, .iload 7, 2), (100, .iaload, 1), (101, .iaload, 1), (102, .imul, 1), (103, .iadd, 1), (104, .istore 5, 2), (106, .bipush 10, 2), (108, .iload 6, 2), (110, .imul, 1), (111, .aload_n 0, 1), (112, .getfield 111, 3), (115, .iload 7, 2), (117, .iaload, 1), (118, .iadd, 1), (119, .istore 6, 2), (121, .iinc 7 1, 3), (124, .goto (-52), 3), (127, .aload_n 0, 1), (128, .iload 5, 2), (130, .invokevirtual 368, 3), (133, .iload_n 2, 1), (134, .if_icmp .ge 6, 3), (137, .iload 6, 2), (139, .istore_n 3, 1), (140, .aload_n 0, 1), (141, .iload_n 2, 1), (142, .aload_n 0, 1), (143, .iload 5, 2), (145, .invokevirtual 368, 3), (148, .invokevirtual 371, 3), (151, .istore_n 2, 1), (152, .aload_n 0, 1), (153, .invokevirtual 448, 3), (156, .istore 4, 2), (158, .goto (-100), 3), (161, .iload_n 1, 1), (162, .ifCond .ne 7, 3), (165, .iload_n 2, 1), (166, .goto 4, 3), (169, .iload_n 3, 1), (170, .ireturn, 1)]
theorem ttX11_hung : zdt cX11_hung tX11_hung = true := by decide +kernel
abbrev q_X11_hung (h : zM) (p1 : Int) : Option zV → zM → Prop := zqi fun v h' => ((-2147483648) ≤ v ∧ v ≤ 2147483647) ∧ okM h' ∧ zfr [0] [33] h h'
set_option maxRecDepth 100000 in
set_option maxHeartbeats 4000000 in
theorem s_X11_hung (l : Launch) (h : zM) (p1 : Int) (s0 : okM h) (b_p1 : (-2147483648) ≤ p1 ∧ p1 ≤ 2147483647) : zT shM l yX11_hung cX11_hung 8 (some .int) (rmL 2) 0 0 [.inr 0, .inl p1] h (q_X11_hung h p1) := by
  refine zT_of (by decide +kernel) (L0 := [some (.inr 0), some (.inl p1), none, none, none, none, none, none]) rfl (Nat.le_of_ble_eq_true rfl) ?_
  refine zj_aload_n (zdk ttX11_hung 0 rfl rfl) rfl (by decide) ?_
  refine zj_iconst (zdk ttX11_hung 1 rfl rfl) ?_
  refine zj_puti (zdk ttX11_hung 2 rfl rfl) zf_RX11_120 rfl (k_M s0) (Or.inl zw_RX11_120) (k2 := 0) rfl (fun h1 e2 => ?_)
  refine zj_aload_n (zdk ttX11_hung 3 rfl rfl) rfl (by decide) ?_
  refine zj_iload_n (zdk ttX11_hung 4 rfl rfl) rfl ?_
  refine zj_iconst (zdk ttX11_hung 5 rfl rfl) ?_
  refine zj_iconst (zdk ttX11_hung 6 rfl rfl) ?_
  have s3 : okM h1 := fwM_0 s0 e2 (by omega)
  refine zj_callV (av := [.inl p1, .inl 0, .inl 1]) (st := []) (zdk ttX11_hung 7 rfl rfl) mb_X11_isIn mv_RX11_139 (ci := 11) rfl rfl (k_M s3) rfl rfl (Nat.le_of_ble_eq_true rfl) (s_X11_isIn l h1 p1 0 1 s3 (by omega) (by omega) (by omega)) (rm_ok (by decide) (by decide)) (zq_i fun v5 h6 q4 => ?_)
  obtain ⟨rfl, ⟨rfl, b7⟩ | ⟨rfl, b7⟩⟩ := q4
  · refine zj_if_ne (t := 17) (zdk ttX11_hung 8 rfl rfl) (by decide) (by decide) (fun c8 => ?_) (fun c8 => ?_)
    · exact absurd c8 (by omega)
    · refine zj_iconst (zdk ttX11_hung 9 rfl rfl) ?_
      have f9 : zfr [0] [33] h h1 := zfr_wf (zfr_r _ _ _) e2 rfl
      exact zj_iret rfl (zdk ttX11_hung 10 rfl rfl) (Nat.le_refl _) (Nat.le_refl _) ⟨(-1), rfl, by omega, s3, f9⟩
  · refine zj_if_ne (t := 17) (zdk ttX11_hung 8 rfl rfl) (by decide) (by decide) (fun c10 => ?_) (fun c10 => ?_)
    · refine zj_aload_n (zdk ttX11_hung 11 rfl rfl) rfl (by decide) ?_
      have b11 : 0 ≤ (h.2 0 53) ∧ (h.2 0 53) ≤ 6 := fM_53 s0
      refine zj_geti (v := (h.2 0 53)) (zdk ttX11_hung 12 rfl rfl) zf_RX11_445 rfl (k_M s3) (zwr_r e2 (by first | decide | exact (absurd ·.1 (by decide)) | exact (absurd ·.2 (by decide)) | omega)) ?_
      refine zj_if_ne (t := 26) (zdk ttX11_hung 13 rfl rfl) (by decide) (by omega) (fun c12 => ?_) (fun c12 => ?_)
      · refine zj_iconst (zdk ttX11_hung 16 rfl rfl) ?_
        refine zj_istore_n (L' := [some (.inr 0), some (.inl p1), some (.inl 0), none, none, none, none, none]) (zdk ttX11_hung 17 rfl rfl) (by decide) rfl ?_
        have lp32 : ∀ (n28 : Nat) (x13 : Int) (h14 : zM), (0 ≤ x13 ∧ x13 ≤ 6) → okM h14 → zfr [0] [33] h h14 → (∀ j, 0 ≤ j → j < x13 → h14.2 33 j = j) → (7 - x13).toNat < n28 → zJ shM l yX11_hung cX11_hung 8 (some .int) (rmL 2) 0 0 (q_X11_hung h p1) 0 0 28 [some (.inr 0), some (.inl p1), some (.inl x13), none, none, none, none, none] [] h14 := by
          intro n28
          induction n28 with
          | zero => intro x13 h14 b33 s15 f16 u34 m35; exact absurd m35 (Nat.not_lt_zero _)
          | succ n28 ih36 =>
            intro x13 h14 b33 s15 f16 u34 m35
            refine zj_iload_n (zdk ttX11_hung 18 rfl rfl) rfl ?_
            refine zj_aload_n (zdk ttX11_hung 19 rfl rfl) rfl (by decide) ?_
            refine zj_geti (v := (h.2 0 53)) (zdk ttX11_hung 20 rfl rfl) zf_RX11_445 rfl (k_M s15) (zfr_f f16 rfl rfl) ?_
            refine zj_icmp_ge (t := 49) (zdk ttX11_hung 21 rfl rfl) (by decide) (by omega) (by omega) (fun c37 => ?_) (fun c37 => ?_)
            · refine zj_ldc_w (z := 100000000) (zdk ttX11_hung 29 rfl rfl) wc_RX11_411 ?_
              refine zj_istore_n (L' := [some (.inr 0), some (.inl p1), some (.inl 100000000), none, none, none, none, none]) (zdk ttX11_hung 30 rfl rfl) (by decide) rfl ?_
              refine zj_iconst (zdk ttX11_hung 31 rfl rfl) ?_
              refine zj_istore_n (L' := [some (.inr 0), some (.inl p1), some (.inl 100000000), some (.inl 0), none, none, none, none]) (zdk ttX11_hung 32 rfl rfl) (by decide) rfl ?_
              refine zj_iconst (zdk ttX11_hung 33 rfl rfl) ?_
              refine zj_istore (L' := [some (.inr 0), some (.inl p1), some (.inl 100000000), some (.inl 0), some (.inl 1), none, none, none]) (zdk ttX11_hung 34 rfl rfl) (by decide) rfl ?_
              have lp254 : ∀ (n58 : Nat) (x38 x39 x40 : Int) (h41 : zM), (-2147483648 ≤ x38 ∧ x38 ≤ 100000000) → (-2147483648 ≤ x39 ∧ x39 ≤ 2147483647) → (0 ≤ x40 ∧ x40 ≤ 1) → okM h41 → zfr [0] [33] h h41 → (zinj (h.2 0 53) (h41.2 33)) → (x40 * 50000 + 46656 - zord (h41.2 33)).toNat < n58 → zJ shM l yX11_hung cX11_hung 8 (some .int) (rmL 2) 0 0 (q_X11_hung h p1) 0 0 58 [some (.inr 0), some (.inl p1), some (.inl x38), some (.inl x39), some (.inl x40), none, none, none] [] h41 := by
                intro n58
                induction n58 with
                | zero => intro x38 x39 x40 h41 b255 b256 b257 s42 f43 u258 m259; exact absurd m259 (Nat.not_lt_zero _)
                | succ n58 ih260 =>
                  intro x38 x39 x40 h41 b255 b256 b257 s42 f43 u258 m259
                  refine zj_iload (zdk ttX11_hung 35 rfl rfl) rfl ?_
                  refine zj_if_eq (t := 161) (zdk ttX11_hung 36 rfl rfl) (by decide) (by omega) (fun c261 => ?_) (fun c261 => ?_)
                  · refine zj_iload_n (zdk ttX11_hung 91 rfl rfl) rfl ?_
                    refine zj_if_ne (t := 169) (zdk ttX11_hung 92 rfl rfl) (by decide) (by omega) (fun c262 => ?_) (fun c262 => ?_)
                    · refine zj_iload_n (zdk ttX11_hung 95 rfl rfl) rfl ?_
                      exact zj_iret rfl (zdk ttX11_hung 96 rfl rfl) (Nat.le_refl _) (Nat.le_refl _) ⟨x39, rfl, by omega, s42, f43⟩
                    · refine zj_iload_n (zdk ttX11_hung 93 rfl rfl) rfl ?_
                      refine zj_goto (t := 170) (zdk ttX11_hung 94 rfl rfl) (by decide) ?_
                      exact zj_iret rfl (zdk ttX11_hung 96 rfl rfl) (Nat.le_refl _) (Nat.le_refl _) ⟨x38, rfl, by omega, s42, f43⟩
                  · refine zj_iconst (zdk ttX11_hung 37 rfl rfl) ?_
                    refine zj_istore (L' := [some (.inr 0), some (.inl p1), some (.inl x38), some (.inl x39), some (.inl x40), some (.inl 0), none, none]) (zdk ttX11_hung 38 rfl rfl) (by decide) rfl ?_
                    refine zj_iconst (zdk ttX11_hung 39 rfl rfl) ?_
                    refine zj_istore (L' := [some (.inr 0), some (.inl p1), some (.inl x38), some (.inl x39), some (.inl x40), some (.inl 0), some (.inl 0), none]) (zdk ttX11_hung 40 rfl rfl) (by decide) rfl ?_
                    refine zj_iconst (zdk ttX11_hung 41 rfl rfl) ?_
                    refine zj_istore (L' := [some (.inr 0), some (.inl p1), some (.inl x38), some (.inl x39), some (.inl x40), some (.inl 0), some (.inl 0), some (.inl 0)]) (zdk ttX11_hung 42 rfl rfl) (by decide) rfl ?_
                    have lp307 : ∀ (n72 : Nat) (x263 x264 x265 : Int), (-2147483648 ≤ x263 ∧ x263 ≤ 2147483647) → (-2147483648 ≤ x264 ∧ x264 ≤ 2147483647) → (0 ≤ x265 ∧ x265 ≤ 6) → (7 - x265).toNat < n72 → zJ shM l yX11_hung cX11_hung 8 (some .int) (rmL 2) 0 0 (q_X11_hung h p1) 0 0 72 [some (.inr 0), some (.inl p1), some (.inl x38), some (.inl x39), some (.inl x40), some (.inl x263), some (.inl x264), some (.inl x265)] [] h41 := by
                      intro n72
                      induction n72 with
                      | zero => intro x263 x264 x265 b308 b309 b310 m311; exact absurd m311 (Nat.not_lt_zero _)
                      | succ n72 ih312 =>
                        intro x263 x264 x265 b308 b309 b310 m311
                        refine zj_iload (zdk ttX11_hung 43 rfl rfl) rfl ?_
                        refine zj_aload_n (zdk ttX11_hung 44 rfl rfl) rfl (by decide) ?_
                        refine zj_geti (v := (h.2 0 53)) (zdk ttX11_hung 45 rfl rfl) zf_RX11_445 rfl (k_M s42) (zfr_f f43 rfl rfl) ?_
                        refine zj_icmp_ge (t := 127) (zdk ttX11_hung 46 rfl rfl) (by decide) (by omega) (by omega) (fun c313 => ?_) (fun c313 => ?_)
                        · refine zj_aload_n (zdk ttX11_hung 73 rfl rfl) rfl (by decide) ?_
                          refine zj_iload (zdk ttX11_hung 74 rfl rfl) rfl ?_
                          refine zj_callV (av := [.inl x263]) (st := []) (zdk ttX11_hung 75 rfl rfl) mb_X11_plain mv_RX11_368 (ci := 11) rfl rfl (k_M s42) rfl rfl (Nat.le_of_ble_eq_true rfl) (s_X11_plain l h41 x263 s42 (by omega)) (rm_ok (by decide) (by decide)) (zq_i fun v315 h316 q314 => ?_)
                          obtain ⟨rfl, b317⟩ := q314
                          have b318 : -2147483648 ≤ v315 ∧ v315 ≤ 2147483647 := by omega
                          refine zj_iload_n (zdk ttX11_hung 76 rfl rfl) rfl ?_
                          refine zj_icmp_ge (t := 140) (zdk ttX11_hung 77 rfl rfl) (by decide) (by omega) (by omega) (fun c319 => ?_) (fun c319 => ?_)
                          · refine zj_aload_n (zdk ttX11_hung 80 rfl rfl) rfl (by decide) ?_
                            refine zj_iload_n (zdk ttX11_hung 81 rfl rfl) rfl ?_
                            refine zj_aload_n (zdk ttX11_hung 82 rfl rfl) rfl (by decide) ?_
                            refine zj_iload (zdk ttX11_hung 83 rfl rfl) rfl ?_
                            refine zj_callV (av := [.inl x263]) (st := [.inl x38, .inr 0]) (zdk ttX11_hung 84 rfl rfl) mb_X11_plain mv_RX11_368 (ci := 11) rfl rfl (k_M s42) rfl rfl (Nat.le_of_ble_eq_true rfl) (s_X11_plain l h41 x263 s42 (by omega)) (rm_ok (by decide) (by decide)) (zq_i fun v321 h322 q320 => ?_)
                            obtain ⟨rfl, b323⟩ := q320
                            have b324 : -2147483648 ≤ v321 ∧ v321 ≤ 2147483647 := by omega
                            refine zj_callV (av := [.inl x38, .inl v321]) (st := []) (zdk ttX11_hung 85 rfl rfl) mb_X11_lesser mv_RX11_371 (ci := 11) rfl rfl (k_M s42) rfl rfl (Nat.le_of_ble_eq_true rfl) (s_X11_lesser l h41 x38 v321 s42 (by omega) (by omega)) (rm_ok (by decide) (by decide)) (zq_i fun v326 h327 q325 => ?_)
                            obtain ⟨rfl, b328⟩ := q325
                            have b329 : -2147483648 ≤ v326 ∧ v326 ≤ 100000000 := by omega
                            refine zj_istore_n (L' := [some (.inr 0), some (.inl p1), some (.inl v326), some (.inl x39), some (.inl x40), some (.inl x263), some (.inl x264), some (.inl x265)]) (zdk ttX11_hung 86 rfl rfl) (by decide) rfl ?_
                            refine zj_aload_n (zdk ttX11_hung 87 rfl rfl) rfl (by decide) ?_
                            have b330 : h41.2 0 53 = (h.2 0 53) := (zfr_f f43 rfl rfl)
                            refine zj_callV (av := []) (st := []) (zdk ttX11_hung 88 rfl rfl) mb_X11_goesToNextOrder mv_RX11_448 (ci := 11) rfl rfl (k_M s42) rfl rfl (Nat.le_of_ble_eq_true rfl) (s_X11_goesToNextOrder l h41 s42 (by rw [show h41.2 0 53 = h.2 0 53 from (zfr_f f43 rfl rfl)]; exact u258) (by omega)) (rm_ok (by decide) (by decide)) (zq_i fun v332 h333 q331 => ?_)
                            obtain ⟨b334, s335, f338, u336, u337⟩ := q331
                            have b339 := zord_b (fun j => abM_33 s335 j)
                            have b339o := zord_b (fun j => abM_33 s42 j)
                            rw [show h41.2 0 53 = h.2 0 53 from (zfr_f f43 rfl rfl)] at u336
                            refine zj_istore (L' := [some (.inr 0), some (.inl p1), some (.inl v326), some (.inl x39), some (.inl v332), some (.inl x263), some (.inl x264), some (.inl x265)]) (zdk ttX11_hung 89 rfl rfl) (by decide) rfl ?_
                            refine zj_goto (t := 58) (zdk ttX11_hung 90 rfl rfl) (by decide) ?_
                            refine zj_kill (k := 5) (L' := [some (.inr 0), some (.inl p1), some (.inl v326), some (.inl x39), some (.inl v332), none, some (.inl x264), some (.inl x265)]) rfl ?_
                            refine zj_kill (k := 6) (L' := [some (.inr 0), some (.inl p1), some (.inl v326), some (.inl x39), some (.inl v332), none, none, some (.inl x265)]) rfl ?_
                            refine zj_kill (k := 7) (L' := [some (.inr 0), some (.inl p1), some (.inl v326), some (.inl x39), some (.inl v332), none, none, none]) rfl ?_
                            have f340 : zfr [0] [33] h h333 := zfr_t f43 f338 rfl rfl
                            exact ih260  v326 x39 v332 h333 (by omega) (by omega) (by omega) s335 f340 u336 (by omega)
                          · refine zj_iload (zdk ttX11_hung 78 rfl rfl) rfl ?_
                            refine zj_istore_n (L' := [some (.inr 0), some (.inl p1), some (.inl x38), some (.inl x264), some (.inl x40), some (.inl x263), some (.inl x264), some (.inl x265)]) (zdk ttX11_hung 79 rfl rfl) (by decide) rfl ?_
                            refine zj_aload_n (zdk ttX11_hung 80 rfl rfl) rfl (by decide) ?_
                            refine zj_iload_n (zdk ttX11_hung 81 rfl rfl) rfl ?_
                            refine zj_aload_n (zdk ttX11_hung 82 rfl rfl) rfl (by decide) ?_
                            refine zj_iload (zdk ttX11_hung 83 rfl rfl) rfl ?_
                            refine zj_callV (av := [.inl x263]) (st := [.inl x38, .inr 0]) (zdk ttX11_hung 84 rfl rfl) mb_X11_plain mv_RX11_368 (ci := 11) rfl rfl (k_M s42) rfl rfl (Nat.le_of_ble_eq_true rfl) (s_X11_plain l h41 x263 s42 (by omega)) (rm_ok (by decide) (by decide)) (zq_i fun v342 h343 q341 => ?_)
                            obtain ⟨rfl, b344⟩ := q341
                            have b345 : -2147483648 ≤ v342 ∧ v342 ≤ 2147483647 := by omega
                            refine zj_callV (av := [.inl x38, .inl v342]) (st := []) (zdk ttX11_hung 85 rfl rfl) mb_X11_lesser mv_RX11_371 (ci := 11) rfl rfl (k_M s42) rfl rfl (Nat.le_of_ble_eq_true rfl) (s_X11_lesser l h41 x38 v342 s42 (by omega) (by omega)) (rm_ok (by decide) (by decide)) (zq_i fun v347 h348 q346 => ?_)
                            obtain ⟨rfl, b349⟩ := q346
                            have b350 : -2147483648 ≤ v347 ∧ v347 ≤ 100000000 := by omega
                            refine zj_istore_n (L' := [some (.inr 0), some (.inl p1), some (.inl v347), some (.inl x264), some (.inl x40), some (.inl x263), some (.inl x264), some (.inl x265)]) (zdk ttX11_hung 86 rfl rfl) (by decide) rfl ?_
                            refine zj_aload_n (zdk ttX11_hung 87 rfl rfl) rfl (by decide) ?_
                            have b351 : h41.2 0 53 = (h.2 0 53) := (zfr_f f43 rfl rfl)
                            refine zj_callV (av := []) (st := []) (zdk ttX11_hung 88 rfl rfl) mb_X11_goesToNextOrder mv_RX11_448 (ci := 11) rfl rfl (k_M s42) rfl rfl (Nat.le_of_ble_eq_true rfl) (s_X11_goesToNextOrder l h41 s42 (by rw [show h41.2 0 53 = h.2 0 53 from (zfr_f f43 rfl rfl)]; exact u258) (by omega)) (rm_ok (by decide) (by decide)) (zq_i fun v353 h354 q352 => ?_)
                            obtain ⟨b355, s356, f359, u357, u358⟩ := q352
                            have b360 := zord_b (fun j => abM_33 s356 j)
                            have b360o := zord_b (fun j => abM_33 s42 j)
                            rw [show h41.2 0 53 = h.2 0 53 from (zfr_f f43 rfl rfl)] at u357
                            refine zj_istore (L' := [some (.inr 0), some (.inl p1), some (.inl v347), some (.inl x264), some (.inl v353), some (.inl x263), some (.inl x264), some (.inl x265)]) (zdk ttX11_hung 89 rfl rfl) (by decide) rfl ?_
                            refine zj_goto (t := 58) (zdk ttX11_hung 90 rfl rfl) (by decide) ?_
                            refine zj_kill (k := 5) (L' := [some (.inr 0), some (.inl p1), some (.inl v347), some (.inl x264), some (.inl v353), none, some (.inl x264), some (.inl x265)]) rfl ?_
                            refine zj_kill (k := 6) (L' := [some (.inr 0), some (.inl p1), some (.inl v347), some (.inl x264), some (.inl v353), none, none, some (.inl x265)]) rfl ?_
                            refine zj_kill (k := 7) (L' := [some (.inr 0), some (.inl p1), some (.inl v347), some (.inl x264), some (.inl v353), none, none, none]) rfl ?_
                            have f361 : zfr [0] [33] h h354 := zfr_t f43 f359 rfl rfl
                            exact ih260  v347 x264 v353 h354 (by omega) (by omega) (by omega) s356 f361 u357 (by omega)
                        · refine zj_iload (zdk ttX11_hung 47 rfl rfl) rfl ?_
                          refine zj_aload_n (zdk ttX11_hung 48 rfl rfl) rfl (by decide) ?_
                          refine zj_getr (r := 32) (zdk ttX11_hung 49 rfl rfl) zf_RX11_108 rfl (k_M s42) (rfM_55 s42) ?_
                          refine zj_iload (zdk ttX11_hung 50 rfl rfl) rfl ?_
                          have b362 : -2147483648 ≤ (h.2 32 x265) ∧ (h.2 32 x265) ≤ 2147483647 := abM_32 s0 x265
                          refine zj_iald (v := (h.2 32 x265)) (zdk ttX11_hung 51 rfl rfl) (kaM_32 s42) (by decide) (by omega) (zfr_a f43 rfl (by decide)) ?_
                          refine zj_aload_n (zdk ttX11_hung 52 rfl rfl) rfl (by decide) ?_
                          refine zj_getr (r := 31) (zdk ttX11_hung 53 rfl rfl) zf_RX11_105 rfl (k_M s42) (rfM_54 s42) ?_
                          refine zj_aload_n (zdk ttX11_hung 54 rfl rfl) rfl (by decide) ?_
                          refine zj_getr (r := 33) (zdk ttX11_hung 55 rfl rfl) zf_RX11_111 rfl (k_M s42) (rfM_56 s42) ?_
                          refine zj_iload (zdk ttX11_hung 56 rfl rfl) rfl ?_
                          have b363 : 0 ≤ (h41.2 33 x265) ∧ (h41.2 33 x265) ≤ 5 := abM_33 s42 x265
                          refine zj_iald (v := (h41.2 33 x265)) (zdk ttX11_hung 57 rfl rfl) (kaM_33 s42) (by decide) (by omega) rfl ?_
                          have b364 : -2147483648 ≤ (h.2 31 (h41.2 33 x265)) ∧ (h.2 31 (h41.2 33 x265)) ≤ 2147483647 := abM_31 s0 (h41.2 33 x265)
                          refine zj_iald (v := (h.2 31 (h41.2 33 x265))) (zdk ttX11_hung 58 rfl rfl) (kaM_31 s42) (by decide) (by omega) (zfr_a f43 rfl (by decide)) ?_
                          refine zj_imul (zdk ttX11_hung 59 rfl rfl) ?_
                          refine zj_wrap ?_
                          have b365 := zwp_in ((h.2 32 x265) * (h.2 31 (h41.2 33 x265)))
                          refine zj_iadd (zdk ttX11_hung 60 rfl rfl) ?_
                          refine zj_wrap ?_
                          have b366 := zwp_in (x263 + (zwp ((h.2 32 x265) * (h.2 31 (h41.2 33 x265)))))
                          refine zj_istore (L' := [some (.inr 0), some (.inl p1), some (.inl x38), some (.inl x39), some (.inl x40), some (.inl (zwp (x263 + (zwp ((h.2 32 x265) * (h.2 31 (h41.2 33 x265))))))), some (.inl x264), some (.inl x265)]) (zdk ttX11_hung 61 rfl rfl) (by decide) rfl ?_
                          refine zj_bipush (zdk ttX11_hung 62 rfl rfl) (by decide) ?_
                          refine zj_iload (zdk ttX11_hung 63 rfl rfl) rfl ?_
                          refine zj_imul (zdk ttX11_hung 64 rfl rfl) ?_
                          refine zj_wrap ?_
                          have b367 := zwp_in (10 * x264)
                          refine zj_aload_n (zdk ttX11_hung 65 rfl rfl) rfl (by decide) ?_
                          refine zj_getr (r := 33) (zdk ttX11_hung 66 rfl rfl) zf_RX11_111 rfl (k_M s42) (rfM_56 s42) ?_
                          refine zj_iload (zdk ttX11_hung 67 rfl rfl) rfl ?_
                          refine zj_iald (v := (h41.2 33 x265)) (zdk ttX11_hung 68 rfl rfl) (kaM_33 s42) (by decide) (by omega) rfl ?_
                          refine zj_iadd (zdk ttX11_hung 69 rfl rfl) ?_
                          refine zj_wrap ?_
                          have b368 := zwp_in ((zwp (10 * x264)) + (h41.2 33 x265))
                          refine zj_istore (L' := [some (.inr 0), some (.inl p1), some (.inl x38), some (.inl x39), some (.inl x40), some (.inl (zwp (x263 + (zwp ((h.2 32 x265) * (h.2 31 (h41.2 33 x265))))))), some (.inl (zwp ((zwp (10 * x264)) + (h41.2 33 x265)))), some (.inl x265)]) (zdk ttX11_hung 70 rfl rfl) (by decide) rfl ?_
                          refine zj_iinc (L' := [some (.inr 0), some (.inl p1), some (.inl x38), some (.inl x39), some (.inl x40), some (.inl (zwp (x263 + (zwp ((h.2 32 x265) * (h.2 31 (h41.2 33 x265))))))), some (.inl (zwp ((zwp (10 * x264)) + (h41.2 33 x265)))), some (.inl (x265 + 1))]) (zdk ttX11_hung 71 rfl rfl) rfl (by decide) rfl ?_
                          refine zj_goto (t := 72) (zdk ttX11_hung 72 rfl rfl) (by decide) ?_
                          exact ih312  (zwp (x263 + (zwp ((h.2 32 x265) * (h.2 31 (h41.2 33 x265)))))) (zwp ((zwp (10 * x264)) + (h41.2 33 x265))) (x265 + 1) (by omega) (by omega) (by omega) (by omega)
                    exact lp307 _ 0 0 0 (by omega) (by omega) (by omega) (Nat.lt_succ_self _)
              exact lp254 _ 100000000 0 1 h14 (by omega) (by omega) (by omega) s15 f16 (fun a b a1 a2 b1 b2 q => by rw [u34 a a1 (by omega), u34 b b1 (by omega)] at q; exact q) (Nat.lt_succ_self _)
            · refine zj_aload_n (zdk ttX11_hung 22 rfl rfl) rfl (by decide) ?_
              refine zj_getr (r := 33) (zdk ttX11_hung 23 rfl rfl) zf_RX11_111 rfl (k_M s15) (rfM_56 s15) ?_
              refine zj_iload_n (zdk ttX11_hung 24 rfl rfl) rfl ?_
              refine zj_iload_n (zdk ttX11_hung 25 rfl rfl) rfl ?_
              refine zj_iast (zdk ttX11_hung 26 rfl rfl) (kaM_33 s15) (by decide) (by omega) (fun h369 e370 => ?_)
              refine zj_iinc (L' := [some (.inr 0), some (.inl p1), some (.inl (x13 + 1)), none, none, none, none, none]) (zdk ttX11_hung 27 rfl rfl) rfl (by decide) rfl ?_
              refine zj_goto (t := 28) (zdk ttX11_hung 28 rfl rfl) (by decide) ?_
              have s371 : okM h369 := awM_33 s15 e370 (by omega) (by unfold nsp; omega)
              have f372 : zfr [0] [33] h h369 := zfr_wa f16 e370 rfl
              exact ih36  (x13 + 1) h369 (by omega) s371 f372 (fun j q1 q2 => (Classical.em (j = x13)).elim (fun q => by rw [q, zwr_v e370]) (fun q => by rw [zwr_r e370 (by first | decide | exact (absurd ·.1 (by decide)) | exact (absurd ·.2 (by decide)) | omega)]; exact u34 j q1 (by omega))) (by omega)
        have f373 : zfr [0] [33] h h1 := zfr_wf (zfr_r _ _ _) e2 rfl
        exact lp32 _ 0 h1 (by omega) s3 f373 (fun j q1 q2 => absurd q1 (by omega)) (Nat.lt_succ_self _)
      · refine zj_iconst (zdk ttX11_hung 14 rfl rfl) ?_
        have f374 : zfr [0] [33] h h1 := zfr_wf (zfr_r _ _ _) e2 rfl
        exact zj_iret rfl (zdk ttX11_hung 15 rfl rfl) (Nat.le_refl _) (Nat.le_refl _) ⟨0, rfl, by omega, s3, f374⟩
    · exact absurd c10 (by omega)

abbrev q2_X11_endOf (h : zM) (p1 : Int) (p2 : Int) (p3 : Int) : Option zV → zM → Prop := zqi fun v h' => h = h' ∧ ((-1) ≤ v ∧ v ≤ 1) ∧ (v = zeo (h.2 34) p1 p2 p3 10 1 (if p2 = 0 then 0 else 1))
set_option maxRecDepth 100000 in
set_option maxHeartbeats 4000000 in
theorem s2_X11_endOf (l : Launch) (h : zM) (p1 : Int) (p2 : Int) (p3 : Int) (s0 : okM h) (b_p1 : 2 ≤ p1 ∧ p1 ≤ 60) (b_p2 : (-2147483648) ≤ p2 ∧ p2 ≤ 2147483647) (b_p3 : 0 ≤ p3 ∧ p3 ≤ 59) : zT shM l yX11_endOf cX11_endOf 7 (some .int) (rmL 2) 0 0 [.inr 0, .inl p1, .inl p2, .inl p3] h (q2_X11_endOf h p1 p2 p3) := by
  refine zT_of (by decide +kernel) (L0 := [some (.inr 0), some (.inl p1), some (.inl p2), some (.inl p3), none, none, none]) rfl (Nat.le_of_ble_eq_true rfl) ?_
  refine zj_iload_n (zdk ttX11_endOf 0 rfl rfl) rfl ?_
  refine zj_if_eq (t := 8) (zdk ttX11_endOf 1 rfl rfl) (by decide) (by omega) (fun c1 => ?_) (fun c1 => ?_)
  · refine zj_iconst (zdk ttX11_endOf 4 rfl rfl) ?_
    refine zj_istore (L' := [some (.inr 0), some (.inl p1), some (.inl p2), some (.inl p3), some (.inl 0), none, none]) (zdk ttX11_endOf 5 rfl rfl) (by decide) rfl ?_
    refine zj_iconst (zdk ttX11_endOf 6 rfl rfl) ?_
    refine zj_istore (L' := [some (.inr 0), some (.inl p1), some (.inl p2), some (.inl p3), some (.inl 0), some (.inl 1), none]) (zdk ttX11_endOf 7 rfl rfl) (by decide) rfl ?_
    have lp79 : ∀ (n14 : Nat) (x2 x3 : Int), (0 ≤ x2 ∧ x2 ≤ 0) → (1 ≤ x3 ∧ x3 ≤ 11) → (zeo (h.2 34) p1 p2 p3 10 1 (if p2 = 0 then 0 else 1) = zeo (h.2 34) p1 p2 p3 (11 - x3).toNat x3 x2) → (12 - x3).toNat < n14 → zJ shM l yX11_endOf cX11_endOf 7 (some .int) (rmL 2) 0 0 (q2_X11_endOf h p1 p2 p3) 0 0 14 [some (.inr 0), some (.inl p1), some (.inl p2), some (.inl p3), some (.inl x2), some (.inl x3), none] [] h := by
      intro n14
      induction n14 with
      | zero => intro x2 x3 b80 b81 u82 m83; exact absurd m83 (Nat.not_lt_zero _)
      | succ n14 ih84 =>
        intro x2 x3 b80 b81 u82 m83
        refine zj_iload (zdk ttX11_endOf 8 rfl rfl) rfl ?_
        refine zj_bipush (zdk ttX11_endOf 9 rfl rfl) (by decide) ?_
        refine zj_icmp_ge (t := 83) (zdk ttX11_endOf 10 rfl rfl) (by decide) (by omega) (by decide) (fun c85 => ?_) (fun c85 => ?_)
        · refine zj_iload (zdk ttX11_endOf 44 rfl rfl) rfl ?_
          refine zj_if_eq (t := 92) (zdk ttX11_endOf 45 rfl rfl) (by decide) (by omega) (fun c86 => ?_) (fun c86 => ?_)
          · refine zj_iconst (zdk ttX11_endOf 48 rfl rfl) ?_
            exact zj_iret rfl (zdk ttX11_endOf 49 rfl rfl) (Nat.le_refl _) (Nat.le_refl _) ⟨0, rfl, rfl, by omega, (by first | exact (u82.trans (zeo_win (by omega) (by omega) (by omega))).symm | exact (u82.trans ((zeo_end (by omega)).trans (by first | rw [if_neg (by omega)] | rw [if_pos (by omega)]))).symm)⟩
          · exact absurd c86 (by omega)
        · refine zj_aload_n (zdk ttX11_endOf 11 rfl rfl) rfl (by decide) ?_
          refine zj_iload_n (zdk ttX11_endOf 12 rfl rfl) rfl ?_
          refine zj_iload (zdk ttX11_endOf 13 rfl rfl) rfl ?_
          refine zj_iconst (zdk ttX11_endOf 14 rfl rfl) ?_
          refine zj_isub (zdk ttX11_endOf 15 rfl rfl) ?_
          refine zj_callV (av := [.inl p2, .inl (x3 - 1)]) (st := []) (zdk ttX11_endOf 16 rfl rfl) mb_X11_has mv_RX11_309 (ci := 11) rfl rfl (k_M s0) rfl rfl (Nat.le_of_ble_eq_true rfl) (s_X11_has l h p2 (x3 - 1) s0 (by omega) (by omega)) (rm_ok (by decide) (by decide)) (zq_i fun v88 h89 q87 => ?_)
          obtain ⟨rfl, ⟨rfl, b90⟩ | ⟨rfl, b90⟩⟩ := q87
          · refine zj_if_ne (t := 36) (zdk ttX11_endOf 17 rfl rfl) (by decide) (by decide) (fun c91 => ?_) (fun c91 => ?_)
            · exact absurd c91 (by omega)
            · refine zj_goto (t := 77) (zdk ttX11_endOf 18 rfl rfl) (by decide) ?_
              refine zj_iinc (L' := [some (.inr 0), some (.inl p1), some (.inl p2), some (.inl p3), some (.inl x2), some (.inl (x3 + 1)), none]) (zdk ttX11_endOf 42 rfl rfl) rfl (by decide) rfl ?_
              refine zj_goto (t := 14) (zdk ttX11_endOf 43 rfl rfl) (by decide) ?_
              exact ih84  x2 (x3 + 1) (by omega) (by omega) (by first | exact u82.trans (zeo_no (by omega) (by omega)) | exact u82.trans ((zeo_go (by omega) (by omega) (by omega)).trans (by rw [if_neg (by omega)])) | exact u82.trans ((zeo_go (by omega) (by omega) (by omega)).trans (by rw [if_pos (by omega)]))) (by omega)
          · refine zj_if_ne (t := 36) (zdk ttX11_endOf 17 rfl rfl) (by decide) (by decide) (fun c92 => ?_) (fun c92 => ?_)
            · refine zj_aload_n (zdk ttX11_endOf 19 rfl rfl) rfl (by decide) ?_
              refine zj_iload_n (zdk ttX11_endOf 20 rfl rfl) rfl ?_
              refine zj_iload_n (zdk ttX11_endOf 21 rfl rfl) rfl ?_
              refine zj_iload (zdk ttX11_endOf 22 rfl rfl) rfl ?_
              refine zj_callV (av := [.inl p1, .inl p3, .inl x3]) (st := []) (zdk ttX11_endOf 23 rfl rfl) mb_X11_leadsTo mv_RX11_451 (ci := 11) rfl rfl (k_M s0) rfl rfl (Nat.le_of_ble_eq_true rfl) (s_X11_leadsTo l h p1 p3 x3 s0 (by omega) (by omega) (by omega)) (rm_ok (by decide) (by decide)) (zq_i fun v94 h95 q93 => ?_)
              obtain ⟨rfl, rfl, b96⟩ := q93
              refine zj_istore (L' := [some (.inr 0), some (.inl p1), some (.inl p2), some (.inl p3), some (.inl x2), some (.inl x3), some (.inl ((p3 + x3) % p1))]) (zdk ttX11_endOf 24 rfl rfl) (by decide) rfl ?_
              refine zj_iload (zdk ttX11_endOf 25 rfl rfl) rfl ?_
              refine zj_if_eq (t := 62) (zdk ttX11_endOf 26 rfl rfl) (by decide) (by omega) (fun c97 => ?_) (fun c97 => ?_)
              · refine zj_iconst (zdk ttX11_endOf 33 rfl rfl) ?_
                exact zj_iret rfl (zdk ttX11_endOf 34 rfl rfl) (Nat.le_refl _) (Nat.le_refl _) ⟨1, rfl, rfl, by omega, (by first | exact (u82.trans (zeo_win (by omega) (by omega) (by omega))).symm | exact (u82.trans ((zeo_end (by omega)).trans (by first | rw [if_neg (by omega)] | rw [if_pos (by omega)]))).symm)⟩
              · refine zj_aload_n (zdk ttX11_endOf 27 rfl rfl) rfl (by decide) ?_
                refine zj_getr (r := 34) (zdk ttX11_endOf 28 rfl rfl) zf_RX11_114 rfl (k_M s0) (rfM_57 s0) ?_
                refine zj_iload (zdk ttX11_endOf 29 rfl rfl) rfl ?_
                have b98 : -2147483648 ≤ (h.2 34 ((p3 + x3) % p1)) ∧ (h.2 34 ((p3 + x3) % p1)) ≤ 2147483647 := abM_34 s0 ((p3 + x3) % p1)
                refine zj_iald (v := (h.2 34 ((p3 + x3) % p1))) (zdk ttX11_endOf 30 rfl rfl) (kaM_34 s0) (by decide) (by omega) rfl ?_
                refine zj_iconst (zdk ttX11_endOf 31 rfl rfl) ?_
                refine zj_icmp_ne (t := 64) (zdk ttX11_endOf 32 rfl rfl) (by decide) (by omega) (by decide) (fun c99 => ?_) (fun c99 => ?_)
                · refine zj_aload_n (zdk ttX11_endOf 35 rfl rfl) rfl (by decide) ?_
                  refine zj_getr (r := 34) (zdk ttX11_endOf 36 rfl rfl) zf_RX11_114 rfl (k_M s0) (rfM_57 s0) ?_
                  refine zj_iload (zdk ttX11_endOf 37 rfl rfl) rfl ?_
                  refine zj_iald (v := (h.2 34 ((p3 + x3) % p1))) (zdk ttX11_endOf 38 rfl rfl) (kaM_34 s0) (by decide) (by omega) rfl ?_
                  refine zj_if_ne (t := 77) (zdk ttX11_endOf 39 rfl rfl) (by decide) (by omega) (fun c100 => ?_) (fun c100 => ?_)
                  · refine zj_iinc (L' := [some (.inr 0), some (.inl p1), some (.inl p2), some (.inl p3), some (.inl x2), some (.inl (x3 + 1)), some (.inl ((p3 + x3) % p1))]) (zdk ttX11_endOf 42 rfl rfl) rfl (by decide) rfl ?_
                    refine zj_goto (t := 14) (zdk ttX11_endOf 43 rfl rfl) (by decide) ?_
                    refine zj_kill (k := 6) (L' := [some (.inr 0), some (.inl p1), some (.inl p2), some (.inl p3), some (.inl x2), some (.inl (x3 + 1)), none]) rfl ?_
                    exact ih84  x2 (x3 + 1) (by omega) (by omega) (by first | exact u82.trans (zeo_no (by omega) (by omega)) | exact u82.trans ((zeo_go (by omega) (by omega) (by omega)).trans (by rw [if_neg (by omega)])) | exact u82.trans ((zeo_go (by omega) (by omega) (by omega)).trans (by rw [if_pos (by omega)]))) (by omega)
                  · refine zj_iconst (zdk ttX11_endOf 40 rfl rfl) ?_
                    refine zj_istore (L' := [some (.inr 0), some (.inl p1), some (.inl p2), some (.inl p3), some (.inl 0), some (.inl x3), some (.inl ((p3 + x3) % p1))]) (zdk ttX11_endOf 41 rfl rfl) (by decide) rfl ?_
                    refine zj_iinc (L' := [some (.inr 0), some (.inl p1), some (.inl p2), some (.inl p3), some (.inl 0), some (.inl (x3 + 1)), some (.inl ((p3 + x3) % p1))]) (zdk ttX11_endOf 42 rfl rfl) rfl (by decide) rfl ?_
                    refine zj_goto (t := 14) (zdk ttX11_endOf 43 rfl rfl) (by decide) ?_
                    refine zj_kill (k := 6) (L' := [some (.inr 0), some (.inl p1), some (.inl p2), some (.inl p3), some (.inl 0), some (.inl (x3 + 1)), none]) rfl ?_
                    exact ih84  0 (x3 + 1) (by omega) (by omega) (by first | exact u82.trans (zeo_no (by omega) (by omega)) | exact u82.trans ((zeo_go (by omega) (by omega) (by omega)).trans (by rw [if_neg (by omega)])) | exact u82.trans ((zeo_go (by omega) (by omega) (by omega)).trans (by rw [if_pos (by omega)]))) (by omega)
                · refine zj_iconst (zdk ttX11_endOf 33 rfl rfl) ?_
                  exact zj_iret rfl (zdk ttX11_endOf 34 rfl rfl) (Nat.le_refl _) (Nat.le_refl _) ⟨1, rfl, rfl, by omega, (by first | exact (u82.trans (zeo_win (by omega) (by omega) (by omega))).symm | exact (u82.trans ((zeo_end (by omega)).trans (by first | rw [if_neg (by omega)] | rw [if_pos (by omega)]))).symm)⟩
            · exact absurd c92 (by omega)
    exact lp79 _ 0 1 (by omega) (by omega) (by first | (rw [if_neg (by omega)]; rfl) | (rw [if_pos (by omega)]; rfl)) (Nat.lt_succ_self _)
  · refine zj_iconst (zdk ttX11_endOf 2 rfl rfl) ?_
    refine zj_goto (t := 9) (zdk ttX11_endOf 3 rfl rfl) (by decide) ?_
    refine zj_istore (L' := [some (.inr 0), some (.inl p1), some (.inl p2), some (.inl p3), some (.inl 1), none, none]) (zdk ttX11_endOf 5 rfl rfl) (by decide) rfl ?_
    refine zj_iconst (zdk ttX11_endOf 6 rfl rfl) ?_
    refine zj_istore (L' := [some (.inr 0), some (.inl p1), some (.inl p2), some (.inl p3), some (.inl 1), some (.inl 1), none]) (zdk ttX11_endOf 7 rfl rfl) (by decide) rfl ?_
    have lp178 : ∀ (n14 : Nat) (x101 x102 : Int), (0 ≤ x101 ∧ x101 ≤ 1) → (1 ≤ x102 ∧ x102 ≤ 11) → (zeo (h.2 34) p1 p2 p3 10 1 (if p2 = 0 then 0 else 1) = zeo (h.2 34) p1 p2 p3 (11 - x102).toNat x102 x101) → (12 - x102).toNat < n14 → zJ shM l yX11_endOf cX11_endOf 7 (some .int) (rmL 2) 0 0 (q2_X11_endOf h p1 p2 p3) 0 0 14 [some (.inr 0), some (.inl p1), some (.inl p2), some (.inl p3), some (.inl x101), some (.inl x102), none] [] h := by
      intro n14
      induction n14 with
      | zero => intro x101 x102 b179 b180 u181 m182; exact absurd m182 (Nat.not_lt_zero _)
      | succ n14 ih183 =>
        intro x101 x102 b179 b180 u181 m182
        refine zj_iload (zdk ttX11_endOf 8 rfl rfl) rfl ?_
        refine zj_bipush (zdk ttX11_endOf 9 rfl rfl) (by decide) ?_
        refine zj_icmp_ge (t := 83) (zdk ttX11_endOf 10 rfl rfl) (by decide) (by omega) (by decide) (fun c184 => ?_) (fun c184 => ?_)
        · refine zj_iload (zdk ttX11_endOf 44 rfl rfl) rfl ?_
          refine zj_if_eq (t := 92) (zdk ttX11_endOf 45 rfl rfl) (by decide) (by omega) (fun c185 => ?_) (fun c185 => ?_)
          · refine zj_iconst (zdk ttX11_endOf 48 rfl rfl) ?_
            exact zj_iret rfl (zdk ttX11_endOf 49 rfl rfl) (Nat.le_refl _) (Nat.le_refl _) ⟨0, rfl, rfl, by omega, (by first | exact (u181.trans (zeo_win (by omega) (by omega) (by omega))).symm | exact (u181.trans ((zeo_end (by omega)).trans (by first | rw [if_neg (by omega)] | rw [if_pos (by omega)]))).symm)⟩
          · refine zj_iconst (zdk ttX11_endOf 46 rfl rfl) ?_
            refine zj_goto (t := 93) (zdk ttX11_endOf 47 rfl rfl) (by decide) ?_
            exact zj_iret rfl (zdk ttX11_endOf 49 rfl rfl) (Nat.le_refl _) (Nat.le_refl _) ⟨(-1), rfl, rfl, by omega, (by first | exact (u181.trans (zeo_win (by omega) (by omega) (by omega))).symm | exact (u181.trans ((zeo_end (by omega)).trans (by first | rw [if_neg (by omega)] | rw [if_pos (by omega)]))).symm)⟩
        · refine zj_aload_n (zdk ttX11_endOf 11 rfl rfl) rfl (by decide) ?_
          refine zj_iload_n (zdk ttX11_endOf 12 rfl rfl) rfl ?_
          refine zj_iload (zdk ttX11_endOf 13 rfl rfl) rfl ?_
          refine zj_iconst (zdk ttX11_endOf 14 rfl rfl) ?_
          refine zj_isub (zdk ttX11_endOf 15 rfl rfl) ?_
          refine zj_callV (av := [.inl p2, .inl (x102 - 1)]) (st := []) (zdk ttX11_endOf 16 rfl rfl) mb_X11_has mv_RX11_309 (ci := 11) rfl rfl (k_M s0) rfl rfl (Nat.le_of_ble_eq_true rfl) (s_X11_has l h p2 (x102 - 1) s0 (by omega) (by omega)) (rm_ok (by decide) (by decide)) (zq_i fun v187 h188 q186 => ?_)
          obtain ⟨rfl, ⟨rfl, b189⟩ | ⟨rfl, b189⟩⟩ := q186
          · refine zj_if_ne (t := 36) (zdk ttX11_endOf 17 rfl rfl) (by decide) (by decide) (fun c190 => ?_) (fun c190 => ?_)
            · exact absurd c190 (by omega)
            · refine zj_goto (t := 77) (zdk ttX11_endOf 18 rfl rfl) (by decide) ?_
              refine zj_iinc (L' := [some (.inr 0), some (.inl p1), some (.inl p2), some (.inl p3), some (.inl x101), some (.inl (x102 + 1)), none]) (zdk ttX11_endOf 42 rfl rfl) rfl (by decide) rfl ?_
              refine zj_goto (t := 14) (zdk ttX11_endOf 43 rfl rfl) (by decide) ?_
              exact ih183  x101 (x102 + 1) (by omega) (by omega) (by first | exact u181.trans (zeo_no (by omega) (by omega)) | exact u181.trans ((zeo_go (by omega) (by omega) (by omega)).trans (by rw [if_neg (by omega)])) | exact u181.trans ((zeo_go (by omega) (by omega) (by omega)).trans (by rw [if_pos (by omega)]))) (by omega)
          · refine zj_if_ne (t := 36) (zdk ttX11_endOf 17 rfl rfl) (by decide) (by decide) (fun c191 => ?_) (fun c191 => ?_)
            · refine zj_aload_n (zdk ttX11_endOf 19 rfl rfl) rfl (by decide) ?_
              refine zj_iload_n (zdk ttX11_endOf 20 rfl rfl) rfl ?_
              refine zj_iload_n (zdk ttX11_endOf 21 rfl rfl) rfl ?_
              refine zj_iload (zdk ttX11_endOf 22 rfl rfl) rfl ?_
              refine zj_callV (av := [.inl p1, .inl p3, .inl x102]) (st := []) (zdk ttX11_endOf 23 rfl rfl) mb_X11_leadsTo mv_RX11_451 (ci := 11) rfl rfl (k_M s0) rfl rfl (Nat.le_of_ble_eq_true rfl) (s_X11_leadsTo l h p1 p3 x102 s0 (by omega) (by omega) (by omega)) (rm_ok (by decide) (by decide)) (zq_i fun v193 h194 q192 => ?_)
              obtain ⟨rfl, rfl, b195⟩ := q192
              refine zj_istore (L' := [some (.inr 0), some (.inl p1), some (.inl p2), some (.inl p3), some (.inl x101), some (.inl x102), some (.inl ((p3 + x102) % p1))]) (zdk ttX11_endOf 24 rfl rfl) (by decide) rfl ?_
              refine zj_iload (zdk ttX11_endOf 25 rfl rfl) rfl ?_
              refine zj_if_eq (t := 62) (zdk ttX11_endOf 26 rfl rfl) (by decide) (by omega) (fun c196 => ?_) (fun c196 => ?_)
              · refine zj_iconst (zdk ttX11_endOf 33 rfl rfl) ?_
                exact zj_iret rfl (zdk ttX11_endOf 34 rfl rfl) (Nat.le_refl _) (Nat.le_refl _) ⟨1, rfl, rfl, by omega, (by first | exact (u181.trans (zeo_win (by omega) (by omega) (by omega))).symm | exact (u181.trans ((zeo_end (by omega)).trans (by first | rw [if_neg (by omega)] | rw [if_pos (by omega)]))).symm)⟩
              · refine zj_aload_n (zdk ttX11_endOf 27 rfl rfl) rfl (by decide) ?_
                refine zj_getr (r := 34) (zdk ttX11_endOf 28 rfl rfl) zf_RX11_114 rfl (k_M s0) (rfM_57 s0) ?_
                refine zj_iload (zdk ttX11_endOf 29 rfl rfl) rfl ?_
                have b197 : -2147483648 ≤ (h.2 34 ((p3 + x102) % p1)) ∧ (h.2 34 ((p3 + x102) % p1)) ≤ 2147483647 := abM_34 s0 ((p3 + x102) % p1)
                refine zj_iald (v := (h.2 34 ((p3 + x102) % p1))) (zdk ttX11_endOf 30 rfl rfl) (kaM_34 s0) (by decide) (by omega) rfl ?_
                refine zj_iconst (zdk ttX11_endOf 31 rfl rfl) ?_
                refine zj_icmp_ne (t := 64) (zdk ttX11_endOf 32 rfl rfl) (by decide) (by omega) (by decide) (fun c198 => ?_) (fun c198 => ?_)
                · refine zj_aload_n (zdk ttX11_endOf 35 rfl rfl) rfl (by decide) ?_
                  refine zj_getr (r := 34) (zdk ttX11_endOf 36 rfl rfl) zf_RX11_114 rfl (k_M s0) (rfM_57 s0) ?_
                  refine zj_iload (zdk ttX11_endOf 37 rfl rfl) rfl ?_
                  refine zj_iald (v := (h.2 34 ((p3 + x102) % p1))) (zdk ttX11_endOf 38 rfl rfl) (kaM_34 s0) (by decide) (by omega) rfl ?_
                  refine zj_if_ne (t := 77) (zdk ttX11_endOf 39 rfl rfl) (by decide) (by omega) (fun c199 => ?_) (fun c199 => ?_)
                  · refine zj_iinc (L' := [some (.inr 0), some (.inl p1), some (.inl p2), some (.inl p3), some (.inl x101), some (.inl (x102 + 1)), some (.inl ((p3 + x102) % p1))]) (zdk ttX11_endOf 42 rfl rfl) rfl (by decide) rfl ?_
                    refine zj_goto (t := 14) (zdk ttX11_endOf 43 rfl rfl) (by decide) ?_
                    refine zj_kill (k := 6) (L' := [some (.inr 0), some (.inl p1), some (.inl p2), some (.inl p3), some (.inl x101), some (.inl (x102 + 1)), none]) rfl ?_
                    exact ih183  x101 (x102 + 1) (by omega) (by omega) (by first | exact u181.trans (zeo_no (by omega) (by omega)) | exact u181.trans ((zeo_go (by omega) (by omega) (by omega)).trans (by rw [if_neg (by omega)])) | exact u181.trans ((zeo_go (by omega) (by omega) (by omega)).trans (by rw [if_pos (by omega)]))) (by omega)
                  · refine zj_iconst (zdk ttX11_endOf 40 rfl rfl) ?_
                    refine zj_istore (L' := [some (.inr 0), some (.inl p1), some (.inl p2), some (.inl p3), some (.inl 0), some (.inl x102), some (.inl ((p3 + x102) % p1))]) (zdk ttX11_endOf 41 rfl rfl) (by decide) rfl ?_
                    refine zj_iinc (L' := [some (.inr 0), some (.inl p1), some (.inl p2), some (.inl p3), some (.inl 0), some (.inl (x102 + 1)), some (.inl ((p3 + x102) % p1))]) (zdk ttX11_endOf 42 rfl rfl) rfl (by decide) rfl ?_
                    refine zj_goto (t := 14) (zdk ttX11_endOf 43 rfl rfl) (by decide) ?_
                    refine zj_kill (k := 6) (L' := [some (.inr 0), some (.inl p1), some (.inl p2), some (.inl p3), some (.inl 0), some (.inl (x102 + 1)), none]) rfl ?_
                    exact ih183  0 (x102 + 1) (by omega) (by omega) (by first | exact u181.trans (zeo_no (by omega) (by omega)) | exact u181.trans ((zeo_go (by omega) (by omega) (by omega)).trans (by rw [if_neg (by omega)])) | exact u181.trans ((zeo_go (by omega) (by omega) (by omega)).trans (by rw [if_pos (by omega)]))) (by omega)
                · refine zj_iconst (zdk ttX11_endOf 33 rfl rfl) ?_
                  exact zj_iret rfl (zdk ttX11_endOf 34 rfl rfl) (Nat.le_refl _) (Nat.le_refl _) ⟨1, rfl, rfl, by omega, (by first | exact (u181.trans (zeo_win (by omega) (by omega) (by omega))).symm | exact (u181.trans ((zeo_end (by omega)).trans (by first | rw [if_neg (by omega)] | rw [if_pos (by omega)]))).symm)⟩
            · exact absurd c191 (by omega)
    exact lp178 _ 1 1 (by omega) (by omega) (by first | (rw [if_neg (by omega)]; rfl) | (rw [if_pos (by omega)]; rfl)) (Nat.lt_succ_self _)

abbrev tX11_game : List (Nat × Instr × Nat) := [(0, .aload_n 0, 1), (1, .iconst 0, 1), (2, .putfield 120, 3), (5, .aload_n 0, 1), (6, .iload_n 1, 1), (7, .iconst 2, 1), (8, .bipush 60, 2), (10, .invokevirtual 139, 3), (13, .ifCond .eq 38, 3), (16, .aload_n 0, 1), (17, .iload_n 2, 1), (18, .iconst 0, 1), (19, .sipush 1023, 3), (22, .invokevirtual 139, 3), (25, .ifCond .eq 26, 3), (28, .aload_n 0, 1), (29, .iload_n 3, 1), (30, .iconst 0, 1), (31, .iload_n 1, 1), (32, .iconst 1, 1), (33, .isub, 1), (34, .invokevirtual 139, 3), (37, .ifCond .eq 14, 3), (40, .aload_n 0, 1), (41, .iload 4, 2), (43, .iconst 0, 1), (44, .iconst 1, 1), (45, .invokevirtual 139, 3), (48, .ifCond .ne 6, 3), (51, .bipush (-10), 2), (53, .ireturn, 1), (54, .iconst 0, 1), (55, .istore 5, 2), (57, .iload 5, 2), (59, .iload_n 1, 1), (60, .if_icmp .ge 17, 3), (63, .aload_n 0, 1), (64, .getfield 114, 3), (67, .iload 5, 2), (69, .iconst 0, 1), (70, .iastore, 1), (71, .iinc 5 1, 3), (74, .goto (-17), 3), (77, .iconst 1, 1), (78, .istore 5, 2), (80, .iload 5, 2), (82, .ifCond .eq 66, 3), (85, .iconst 0, 1), (86, .istore 5, 2), (88, .iconst 0, 1), (89, .istore 6, 2), (91, .iload 6, 2), (93, .iload_n 1, 1), (94, .if_icmp .ge 51, 3), (97, .aload_n 0, 1), (98, .getfield 114, 3), (101, .iload 6, 2), (103, .iaload, 1), (104, .ifCond .ne 35, 3), (107, .aload_n 0, 1), (108, .iload_n 1, 1), (109, .iload_n 2, 1), (110, .iload 6, 2), (112, .invokevirtual 454, 3), (115, .ifCond .ne 6, 3), (118, .goto 21, 3), (121, .aload_n 0, 1), (122, .getfield 114, 3), (125, .iload 6, 2), (127, .aload_n 0, 1), (128, .iload_n 1, 1), (129, .iload_n 2, 1), (130, .iload 6, 2), (132, .invokevirtual 454, 3), (135, .iastore, 1), (136, .iconst 1, 1), (137, .istore 5, 2), (139, .iinc 6 1, 3), (142, .goto (-51), 3), (145, .goto (-65), 3), (148, .iload 4, 2), (150, .ifCond .ne 10, 3), (153, .aload_n 0, 1), (154, .getfield 114, 3), (157, .iload_n 3, 1), (158, .iaload, 1), (159, .ireturn, 1), (160, .iconst 1, 1), (161, .istore 6, 2), (163, .iload 6, 2), (165, .bipush 11, 2), (167, .if_icmp .ge 41, 3), (170, .aload_n 0, 1), (171, .iload_n 2, 1), (172, .iload 6, 2), (174, .iconst 1, 1), (175, .isub, 1), (176, .invokevirtual 309, 3), (179, .ifCond .eq 23, 3), (182, .aload_n 0, 1), (183, .iload_n 1, 1), (184, .iload_n 3, 1), (185, .iload 6, 2), (187, .aload_n 0, 1), (188, .getfield 114, 3), (191, .iload_n 3, 1), (192, .iaload, 1), (193, .invokevirtual 457, 3), (196, .ifCond .eq 6, 3), (199, .iload 6, 2), (201, .ireturn, 1), (202, .iinc 6 1, 3), (205, .goto (-42), 3), (208, .iconst (-1), 1), (209, .ireturn, 1)]
theorem ttX11_game : zdt cX11_game tX11_game = true := by decide +kernel
abbrev q_X11_game (h : zM) (p1 : Int) (p2 : Int) (p3 : Int) (p4 : Int) : Option zV → zM → Prop := zqi fun v h' => ((-2147483648) ≤ v ∧ v ≤ 2147483647) ∧ okM h' ∧ zfr [0] [34] h h'
set_option maxRecDepth 100000 in
set_option maxHeartbeats 4000000 in
theorem s_X11_game (l : Launch) (h : zM) (p1 : Int) (p2 : Int) (p3 : Int) (p4 : Int) (s0 : okM h) (b_p1 : (-2147483648) ≤ p1 ∧ p1 ≤ 2147483647) (b_p2 : (-2147483648) ≤ p2 ∧ p2 ≤ 2147483647) (b_p3 : (-2147483648) ≤ p3 ∧ p3 ≤ 2147483647) (b_p4 : (-2147483648) ≤ p4 ∧ p4 ≤ 2147483647) : zT shM l yX11_game cX11_game 7 (some .int) (rmL 3) 0 0 [.inr 0, .inl p1, .inl p2, .inl p3, .inl p4] h (q_X11_game h p1 p2 p3 p4) := by
  refine zT_of (by decide +kernel) (L0 := [some (.inr 0), some (.inl p1), some (.inl p2), some (.inl p3), some (.inl p4), none, none]) rfl (Nat.le_of_ble_eq_true rfl) ?_
  refine zj_aload_n (zdk ttX11_game 0 rfl rfl) rfl (by decide) ?_
  refine zj_iconst (zdk ttX11_game 1 rfl rfl) ?_
  refine zj_puti (zdk ttX11_game 2 rfl rfl) zf_RX11_120 rfl (k_M s0) (Or.inl zw_RX11_120) (k2 := 0) rfl (fun h1 e2 => ?_)
  refine zj_aload_n (zdk ttX11_game 3 rfl rfl) rfl (by decide) ?_
  refine zj_iload_n (zdk ttX11_game 4 rfl rfl) rfl ?_
  refine zj_iconst (zdk ttX11_game 5 rfl rfl) ?_
  refine zj_bipush (zdk ttX11_game 6 rfl rfl) (by decide) ?_
  have s3 : okM h1 := fwM_0 s0 e2 (by omega)
  refine zj_callV (av := [.inl p1, .inl 2, .inl 60]) (st := []) (zdk ttX11_game 7 rfl rfl) mb_X11_isIn mv_RX11_139 (ci := 11) rfl rfl (k_M s3) rfl rfl (Nat.le_of_ble_eq_true rfl) (s_X11_isIn l h1 p1 2 60 s3 (by omega) (by omega) (by omega)) (rm_ok (by decide) (by decide)) (zq_i fun v5 h6 q4 => ?_)
  obtain ⟨rfl, ⟨rfl, b7⟩ | ⟨rfl, b7⟩⟩ := q4
  · refine zj_if_eq (t := 51) (zdk ttX11_game 8 rfl rfl) (by decide) (by decide) (fun c8 => ?_) (fun c8 => ?_)
    · refine zj_bipush (zdk ttX11_game 29 rfl rfl) (by decide) ?_
      have f9 : zfr [0] [34] h h1 := zfr_wf (zfr_r _ _ _) e2 rfl
      exact zj_iret rfl (zdk ttX11_game 30 rfl rfl) (Nat.le_refl _) (Nat.le_refl _) ⟨(-10), rfl, by omega, s3, f9⟩
    · exact absurd c8 (by omega)
  · refine zj_if_eq (t := 51) (zdk ttX11_game 8 rfl rfl) (by decide) (by decide) (fun c10 => ?_) (fun c10 => ?_)
    · exact absurd c10 (by omega)
    · refine zj_aload_n (zdk ttX11_game 9 rfl rfl) rfl (by decide) ?_
      refine zj_iload_n (zdk ttX11_game 10 rfl rfl) rfl ?_
      refine zj_iconst (zdk ttX11_game 11 rfl rfl) ?_
      refine zj_sipush (zdk ttX11_game 12 rfl rfl) (by decide) ?_
      refine zj_callV (av := [.inl p2, .inl 0, .inl 1023]) (st := []) (zdk ttX11_game 13 rfl rfl) mb_X11_isIn mv_RX11_139 (ci := 11) rfl rfl (k_M s3) rfl rfl (Nat.le_of_ble_eq_true rfl) (s_X11_isIn l h1 p2 0 1023 s3 (by omega) (by omega) (by omega)) (rm_ok (by decide) (by decide)) (zq_i fun v12 h13 q11 => ?_)
      obtain ⟨rfl, ⟨rfl, b14⟩ | ⟨rfl, b14⟩⟩ := q11
      · refine zj_if_eq (t := 51) (zdk ttX11_game 14 rfl rfl) (by decide) (by decide) (fun c15 => ?_) (fun c15 => ?_)
        · refine zj_bipush (zdk ttX11_game 29 rfl rfl) (by decide) ?_
          have f16 : zfr [0] [34] h h1 := zfr_wf (zfr_r _ _ _) e2 rfl
          exact zj_iret rfl (zdk ttX11_game 30 rfl rfl) (Nat.le_refl _) (Nat.le_refl _) ⟨(-10), rfl, by omega, s3, f16⟩
        · exact absurd c15 (by omega)
      · refine zj_if_eq (t := 51) (zdk ttX11_game 14 rfl rfl) (by decide) (by decide) (fun c17 => ?_) (fun c17 => ?_)
        · exact absurd c17 (by omega)
        · refine zj_aload_n (zdk ttX11_game 15 rfl rfl) rfl (by decide) ?_
          refine zj_iload_n (zdk ttX11_game 16 rfl rfl) rfl ?_
          refine zj_iconst (zdk ttX11_game 17 rfl rfl) ?_
          refine zj_iload_n (zdk ttX11_game 18 rfl rfl) rfl ?_
          refine zj_iconst (zdk ttX11_game 19 rfl rfl) ?_
          refine zj_isub (zdk ttX11_game 20 rfl rfl) ?_
          refine zj_callV (av := [.inl p3, .inl 0, .inl (p1 - 1)]) (st := []) (zdk ttX11_game 21 rfl rfl) mb_X11_isIn mv_RX11_139 (ci := 11) rfl rfl (k_M s3) rfl rfl (Nat.le_of_ble_eq_true rfl) (s_X11_isIn l h1 p3 0 (p1 - 1) s3 (by omega) (by omega) (by omega)) (rm_ok (by decide) (by decide)) (zq_i fun v19 h20 q18 => ?_)
          obtain ⟨rfl, ⟨rfl, b21⟩ | ⟨rfl, b21⟩⟩ := q18
          · refine zj_if_eq (t := 51) (zdk ttX11_game 22 rfl rfl) (by decide) (by decide) (fun c22 => ?_) (fun c22 => ?_)
            · refine zj_bipush (zdk ttX11_game 29 rfl rfl) (by decide) ?_
              have f23 : zfr [0] [34] h h1 := zfr_wf (zfr_r _ _ _) e2 rfl
              exact zj_iret rfl (zdk ttX11_game 30 rfl rfl) (Nat.le_refl _) (Nat.le_refl _) ⟨(-10), rfl, by omega, s3, f23⟩
            · exact absurd c22 (by omega)
          · refine zj_if_eq (t := 51) (zdk ttX11_game 22 rfl rfl) (by decide) (by decide) (fun c24 => ?_) (fun c24 => ?_)
            · exact absurd c24 (by omega)
            · refine zj_aload_n (zdk ttX11_game 23 rfl rfl) rfl (by decide) ?_
              refine zj_iload (zdk ttX11_game 24 rfl rfl) rfl ?_
              refine zj_iconst (zdk ttX11_game 25 rfl rfl) ?_
              refine zj_iconst (zdk ttX11_game 26 rfl rfl) ?_
              refine zj_callV (av := [.inl p4, .inl 0, .inl 1]) (st := []) (zdk ttX11_game 27 rfl rfl) mb_X11_isIn mv_RX11_139 (ci := 11) rfl rfl (k_M s3) rfl rfl (Nat.le_of_ble_eq_true rfl) (s_X11_isIn l h1 p4 0 1 s3 (by omega) (by omega) (by omega)) (rm_ok (by decide) (by decide)) (zq_i fun v26 h27 q25 => ?_)
              obtain ⟨rfl, ⟨rfl, b28⟩ | ⟨rfl, b28⟩⟩ := q25
              · refine zj_if_ne (t := 54) (zdk ttX11_game 28 rfl rfl) (by decide) (by decide) (fun c29 => ?_) (fun c29 => ?_)
                · exact absurd c29 (by omega)
                · refine zj_bipush (zdk ttX11_game 29 rfl rfl) (by decide) ?_
                  have f30 : zfr [0] [34] h h1 := zfr_wf (zfr_r _ _ _) e2 rfl
                  exact zj_iret rfl (zdk ttX11_game 30 rfl rfl) (Nat.le_refl _) (Nat.le_refl _) ⟨(-10), rfl, by omega, s3, f30⟩
              · refine zj_if_ne (t := 54) (zdk ttX11_game 28 rfl rfl) (by decide) (by decide) (fun c31 => ?_) (fun c31 => ?_)
                · refine zj_iconst (zdk ttX11_game 31 rfl rfl) ?_
                  refine zj_istore (L' := [some (.inr 0), some (.inl p1), some (.inl p2), some (.inl p3), some (.inl p4), some (.inl 0), none]) (zdk ttX11_game 32 rfl rfl) (by decide) rfl ?_
                  have lp63 : ∀ (n57 : Nat) (x32 : Int) (h33 : zM), (0 ≤ x32 ∧ x32 ≤ 60) → okM h33 → zfr [0] [34] h h33 → (61 - x32).toNat < n57 → zJ shM l yX11_game cX11_game 7 (some .int) (rmL 3) 0 0 (q_X11_game h p1 p2 p3 p4) 0 0 57 [some (.inr 0), some (.inl p1), some (.inl p2), some (.inl p3), some (.inl p4), some (.inl x32), none] [] h33 := by
                    intro n57
                    induction n57 with
                    | zero => intro x32 h33 b64 s34 f35 m65; exact absurd m65 (Nat.not_lt_zero _)
                    | succ n57 ih66 =>
                      intro x32 h33 b64 s34 f35 m65
                      refine zj_iload (zdk ttX11_game 33 rfl rfl) rfl ?_
                      refine zj_iload_n (zdk ttX11_game 34 rfl rfl) rfl ?_
                      refine zj_icmp_ge (t := 77) (zdk ttX11_game 35 rfl rfl) (by decide) (by omega) (by omega) (fun c67 => ?_) (fun c67 => ?_)
                      · refine zj_iconst (zdk ttX11_game 43 rfl rfl) ?_
                        refine zj_istore (L' := [some (.inr 0), some (.inl p1), some (.inl p2), some (.inl p3), some (.inl p4), some (.inl 1), none]) (zdk ttX11_game 44 rfl rfl) (by decide) rfl ?_
                        have lp116 : ∀ (n80 : Nat) (x68 : Int) (h69 : zM), (0 ≤ x68 ∧ x68 ≤ 1) → okM h69 → zfr [0] [34] h h69 → (x68 + (zcnt (h69.2 34) p1.toNat : Int)).toNat < n80 → zJ shM l yX11_game cX11_game 7 (some .int) (rmL 3) 0 0 (q_X11_game h p1 p2 p3 p4) 0 0 80 [some (.inr 0), some (.inl p1), some (.inl p2), some (.inl p3), some (.inl p4), some (.inl x68), none] [] h69 := by
                          intro n80
                          induction n80 with
                          | zero => intro x68 h69 b117 s70 f71 m118; exact absurd m118 (Nat.not_lt_zero _)
                          | succ n80 ih119 =>
                            intro x68 h69 b117 s70 f71 m118
                            refine zj_iload (zdk ttX11_game 45 rfl rfl) rfl ?_
                            refine zj_if_eq (t := 148) (zdk ttX11_game 46 rfl rfl) (by decide) (by omega) (fun c120 => ?_) (fun c120 => ?_)
                            · refine zj_iload (zdk ttX11_game 80 rfl rfl) rfl ?_
                              refine zj_if_ne (t := 160) (zdk ttX11_game 81 rfl rfl) (by decide) (by omega) (fun c121 => ?_) (fun c121 => ?_)
                              · refine zj_iconst (zdk ttX11_game 87 rfl rfl) ?_
                                refine zj_istore (L' := [some (.inr 0), some (.inl p1), some (.inl p2), some (.inl p3), some (.inl p4), some (.inl x68), some (.inl 1)]) (zdk ttX11_game 88 rfl rfl) (by decide) rfl ?_
                                have lp188 : ∀ (n163 : Nat) (x122 : Int), (1 ≤ x122 ∧ x122 ≤ 11) → (12 - x122).toNat < n163 → zJ shM l yX11_game cX11_game 7 (some .int) (rmL 3) 0 0 (q_X11_game h p1 p2 p3 p4) 0 0 163 [some (.inr 0), some (.inl p1), some (.inl p2), some (.inl p3), some (.inl p4), some (.inl x68), some (.inl x122)] [] h69 := by
                                  intro n163
                                  induction n163 with
                                  | zero => intro x122 b189 m190; exact absurd m190 (Nat.not_lt_zero _)
                                  | succ n163 ih191 =>
                                    intro x122 b189 m190
                                    refine zj_iload (zdk ttX11_game 89 rfl rfl) rfl ?_
                                    refine zj_bipush (zdk ttX11_game 90 rfl rfl) (by decide) ?_
                                    refine zj_icmp_ge (t := 208) (zdk ttX11_game 91 rfl rfl) (by decide) (by omega) (by decide) (fun c192 => ?_) (fun c192 => ?_)
                                    · refine zj_iconst (zdk ttX11_game 113 rfl rfl) ?_
                                      exact zj_iret rfl (zdk ttX11_game 114 rfl rfl) (Nat.le_refl _) (Nat.le_refl _) ⟨(-1), rfl, by omega, s70, f71⟩
                                    · refine zj_aload_n (zdk ttX11_game 92 rfl rfl) rfl (by decide) ?_
                                      refine zj_iload_n (zdk ttX11_game 93 rfl rfl) rfl ?_
                                      refine zj_iload (zdk ttX11_game 94 rfl rfl) rfl ?_
                                      refine zj_iconst (zdk ttX11_game 95 rfl rfl) ?_
                                      refine zj_isub (zdk ttX11_game 96 rfl rfl) ?_
                                      refine zj_callV (av := [.inl p2, .inl (x122 - 1)]) (st := []) (zdk ttX11_game 97 rfl rfl) mb_X11_has mv_RX11_309 (ci := 11) rfl rfl (k_M s70) rfl rfl (Nat.le_of_ble_eq_true rfl) (s_X11_has l h69 p2 (x122 - 1) s70 (by omega) (by omega)) (rm_ok (by decide) (by decide)) (zq_i fun v194 h195 q193 => ?_)
                                      obtain ⟨rfl, ⟨rfl, b196⟩ | ⟨rfl, b196⟩⟩ := q193
                                      · refine zj_if_eq (t := 202) (zdk ttX11_game 98 rfl rfl) (by decide) (by decide) (fun c197 => ?_) (fun c197 => ?_)
                                        · refine zj_iinc (L' := [some (.inr 0), some (.inl p1), some (.inl p2), some (.inl p3), some (.inl p4), some (.inl x68), some (.inl (x122 + 1))]) (zdk ttX11_game 111 rfl rfl) rfl (by decide) rfl ?_
                                          refine zj_goto (t := 163) (zdk ttX11_game 112 rfl rfl) (by decide) ?_
                                          exact ih191  (x122 + 1) (by omega) (by omega)
                                        · exact absurd c197 (by omega)
                                      · refine zj_if_eq (t := 202) (zdk ttX11_game 98 rfl rfl) (by decide) (by decide) (fun c198 => ?_) (fun c198 => ?_)
                                        · exact absurd c198 (by omega)
                                        · refine zj_aload_n (zdk ttX11_game 99 rfl rfl) rfl (by decide) ?_
                                          refine zj_iload_n (zdk ttX11_game 100 rfl rfl) rfl ?_
                                          refine zj_iload_n (zdk ttX11_game 101 rfl rfl) rfl ?_
                                          refine zj_iload (zdk ttX11_game 102 rfl rfl) rfl ?_
                                          refine zj_aload_n (zdk ttX11_game 103 rfl rfl) rfl (by decide) ?_
                                          refine zj_getr (r := 34) (zdk ttX11_game 104 rfl rfl) zf_RX11_114 rfl (k_M s70) (rfM_57 s70) ?_
                                          refine zj_iload_n (zdk ttX11_game 105 rfl rfl) rfl ?_
                                          have b199 : -2147483648 ≤ (h69.2 34 p3) ∧ (h69.2 34 p3) ≤ 2147483647 := abM_34 s70 p3
                                          refine zj_iald (v := (h69.2 34 p3)) (zdk ttX11_game 106 rfl rfl) (kaM_34 s70) (by decide) (by omega) rfl ?_
                                          refine zj_callV (av := [.inl p1, .inl p3, .inl x122, .inl (h69.2 34 p3)]) (st := []) (zdk ttX11_game 107 rfl rfl) mb_X11_keepsSo mv_RX11_457 (ci := 11) rfl rfl (k_M s70) rfl rfl (Nat.le_of_ble_eq_true rfl) (s_X11_keepsSo l h69 p1 p3 x122 (h69.2 34 p3) s70 (by omega) (by omega) (by omega) (by omega)) (rm_ok (by decide) (by decide)) (zq_i fun v201 h202 q200 => ?_)
                                          obtain ⟨rfl, b203⟩ := q200
                                          refine zj_if_eq (t := 202) (zdk ttX11_game 108 rfl rfl) (by decide) (by omega) (fun c204 => ?_) (fun c204 => ?_)
                                          · refine zj_iinc (L' := [some (.inr 0), some (.inl p1), some (.inl p2), some (.inl p3), some (.inl p4), some (.inl x68), some (.inl (x122 + 1))]) (zdk ttX11_game 111 rfl rfl) rfl (by decide) rfl ?_
                                            refine zj_goto (t := 163) (zdk ttX11_game 112 rfl rfl) (by decide) ?_
                                            exact ih191  (x122 + 1) (by omega) (by omega)
                                          · refine zj_iload (zdk ttX11_game 109 rfl rfl) rfl ?_
                                            exact zj_iret rfl (zdk ttX11_game 110 rfl rfl) (Nat.le_refl _) (Nat.le_refl _) ⟨x122, rfl, by omega, s70, f71⟩
                                exact lp188 _ 1 (by omega) (Nat.lt_succ_self _)
                              · refine zj_aload_n (zdk ttX11_game 82 rfl rfl) rfl (by decide) ?_
                                refine zj_getr (r := 34) (zdk ttX11_game 83 rfl rfl) zf_RX11_114 rfl (k_M s70) (rfM_57 s70) ?_
                                refine zj_iload_n (zdk ttX11_game 84 rfl rfl) rfl ?_
                                have b205 : -2147483648 ≤ (h69.2 34 p3) ∧ (h69.2 34 p3) ≤ 2147483647 := abM_34 s70 p3
                                refine zj_iald (v := (h69.2 34 p3)) (zdk ttX11_game 85 rfl rfl) (kaM_34 s70) (by decide) (by omega) rfl ?_
                                exact zj_iret rfl (zdk ttX11_game 86 rfl rfl) (Nat.le_refl _) (Nat.le_refl _) ⟨(h69.2 34 p3), rfl, by omega, s70, f71⟩
                            · refine zj_iconst (zdk ttX11_game 47 rfl rfl) ?_
                              refine zj_istore (L' := [some (.inr 0), some (.inl p1), some (.inl p2), some (.inl p3), some (.inl p4), some (.inl 0), none]) (zdk ttX11_game 48 rfl rfl) (by decide) rfl ?_
                              refine zj_iconst (zdk ttX11_game 49 rfl rfl) ?_
                              refine zj_istore (L' := [some (.inr 0), some (.inl p1), some (.inl p2), some (.inl p3), some (.inl p4), some (.inl 0), some (.inl 0)]) (zdk ttX11_game 50 rfl rfl) (by decide) rfl ?_
                              have lp227 : ∀ (n91 : Nat) (x206 x207 : Int) (h208 : zM), (0 ≤ x206 ∧ x206 ≤ 1) → (0 ≤ x207 ∧ x207 ≤ 60) → okM h208 → zfr [0] [34] h h208 → ((zcnt (h208.2 34) p1.toNat : Int) + x206 < n80) → (61 - x207).toNat < n91 → zJ shM l yX11_game cX11_game 7 (some .int) (rmL 3) 0 0 (q_X11_game h p1 p2 p3 p4) 0 0 91 [some (.inr 0), some (.inl p1), some (.inl p2), some (.inl p3), some (.inl p4), some (.inl x206), some (.inl x207)] [] h208 := by
                                intro n91
                                induction n91 with
                                | zero => intro x206 x207 h208 b228 b229 s209 f210 u230 m231; exact absurd m231 (Nat.not_lt_zero _)
                                | succ n91 ih232 =>
                                  intro x206 x207 h208 b228 b229 s209 f210 u230 m231
                                  refine zj_iload (zdk ttX11_game 51 rfl rfl) rfl ?_
                                  refine zj_iload_n (zdk ttX11_game 52 rfl rfl) rfl ?_
                                  refine zj_icmp_ge (t := 145) (zdk ttX11_game 53 rfl rfl) (by decide) (by omega) (by omega) (fun c233 => ?_) (fun c233 => ?_)
                                  · refine zj_goto (t := 80) (zdk ttX11_game 79 rfl rfl) (by decide) ?_
                                    refine zj_kill (k := 6) (L' := [some (.inr 0), some (.inl p1), some (.inl p2), some (.inl p3), some (.inl p4), some (.inl x206), none]) rfl ?_
                                    exact ih119  x206 h208 (by omega) s209 f210 (by omega)
                                  · refine zj_aload_n (zdk ttX11_game 54 rfl rfl) rfl (by decide) ?_
                                    refine zj_getr (r := 34) (zdk ttX11_game 55 rfl rfl) zf_RX11_114 rfl (k_M s209) (rfM_57 s209) ?_
                                    refine zj_iload (zdk ttX11_game 56 rfl rfl) rfl ?_
                                    have b234 : -2147483648 ≤ (h208.2 34 x207) ∧ (h208.2 34 x207) ≤ 2147483647 := abM_34 s209 x207
                                    refine zj_iald (v := (h208.2 34 x207)) (zdk ttX11_game 57 rfl rfl) (kaM_34 s209) (by decide) (by omega) rfl ?_
                                    refine zj_if_ne (t := 139) (zdk ttX11_game 58 rfl rfl) (by decide) (by omega) (fun c235 => ?_) (fun c235 => ?_)
                                    · refine zj_iinc (L' := [some (.inr 0), some (.inl p1), some (.inl p2), some (.inl p3), some (.inl p4), some (.inl x206), some (.inl (x207 + 1))]) (zdk ttX11_game 77 rfl rfl) rfl (by decide) rfl ?_
                                      refine zj_goto (t := 91) (zdk ttX11_game 78 rfl rfl) (by decide) ?_
                                      exact ih232  x206 (x207 + 1) h208 (by omega) (by omega) s209 f210 (by omega) (by omega)
                                    · refine zj_aload_n (zdk ttX11_game 59 rfl rfl) rfl (by decide) ?_
                                      refine zj_iload_n (zdk ttX11_game 60 rfl rfl) rfl ?_
                                      refine zj_iload_n (zdk ttX11_game 61 rfl rfl) rfl ?_
                                      refine zj_iload (zdk ttX11_game 62 rfl rfl) rfl ?_
                                      refine zj_callV (av := [.inl p1, .inl p2, .inl x207]) (st := []) (zdk ttX11_game 63 rfl rfl) mb_X11_endOf mv_RX11_454 (ci := 11) rfl rfl (k_M s209) rfl rfl (Nat.le_of_ble_eq_true rfl) (s2_X11_endOf l h208 p1 p2 x207 s209 (by omega) (by omega) (by omega)) (rm_ok (by decide) (by decide)) (zq_i fun v237 h238 q236 => ?_)
                                      obtain ⟨rfl, b239, u240⟩ := q236
                                      refine zj_if_ne (t := 121) (zdk ttX11_game 64 rfl rfl) (by decide) (by omega) (fun c241 => ?_) (fun c241 => ?_)
                                      · refine zj_aload_n (zdk ttX11_game 66 rfl rfl) rfl (by decide) ?_
                                        refine zj_getr (r := 34) (zdk ttX11_game 67 rfl rfl) zf_RX11_114 rfl (k_M s209) (rfM_57 s209) ?_
                                        refine zj_iload (zdk ttX11_game 68 rfl rfl) rfl ?_
                                        refine zj_aload_n (zdk ttX11_game 69 rfl rfl) rfl (by decide) ?_
                                        refine zj_iload_n (zdk ttX11_game 70 rfl rfl) rfl ?_
                                        refine zj_iload_n (zdk ttX11_game 71 rfl rfl) rfl ?_
                                        refine zj_iload (zdk ttX11_game 72 rfl rfl) rfl ?_
                                        refine zj_callV (av := [.inl p1, .inl p2, .inl x207]) (st := [.inl x207, .inr 34]) (zdk ttX11_game 73 rfl rfl) mb_X11_endOf mv_RX11_454 (ci := 11) rfl rfl (k_M s209) rfl rfl (Nat.le_of_ble_eq_true rfl) (s2_X11_endOf l h208 p1 p2 x207 s209 (by omega) (by omega) (by omega)) (rm_ok (by decide) (by decide)) (zq_i fun v243 h244 q242 => ?_)
                                        obtain ⟨rfl, b245, u246⟩ := q242
                                        refine zj_iast (zdk ttX11_game 74 rfl rfl) (kaM_34 s209) (by decide) (by omega) (fun h247 e248 => ?_)
                                        refine zj_iconst (zdk ttX11_game 75 rfl rfl) ?_
                                        refine zj_istore (L' := [some (.inr 0), some (.inl p1), some (.inl p2), some (.inl p3), some (.inl p4), some (.inl 1), some (.inl x207)]) (zdk ttX11_game 76 rfl rfl) (by decide) rfl ?_
                                        refine zj_iinc (L' := [some (.inr 0), some (.inl p1), some (.inl p2), some (.inl p3), some (.inl p4), some (.inl 1), some (.inl (x207 + 1))]) (zdk ttX11_game 77 rfl rfl) rfl (by decide) rfl ?_
                                        refine zj_goto (t := 91) (zdk ttX11_game 78 rfl rfl) (by decide) ?_
                                        have s249 : okM h247 := awM_34 s209 e248 (by omega) (by unfold nsp; omega)
                                        have f250 : zfr [0] [34] h h247 := zfr_wa f210 e248 rfl
                                        have z251 := zcnt_w e248 (by omega) (by omega) (by omega) p1.toNat (by omega)
                                        exact ih232  1 (x207 + 1) h247 (by omega) (by omega) s249 f250 (by omega) (by omega)
                                      · refine zj_goto (t := 139) (zdk ttX11_game 65 rfl rfl) (by decide) ?_
                                        refine zj_iinc (L' := [some (.inr 0), some (.inl p1), some (.inl p2), some (.inl p3), some (.inl p4), some (.inl x206), some (.inl (x207 + 1))]) (zdk ttX11_game 77 rfl rfl) rfl (by decide) rfl ?_
                                        refine zj_goto (t := 91) (zdk ttX11_game 78 rfl rfl) (by decide) ?_
                                        exact ih232  x206 (x207 + 1) h208 (by omega) (by omega) s209 f210 (by omega) (by omega)
                              exact lp227 _ 0 0 h69 (by omega) (by omega) s70 f71 (by omega) (Nat.lt_succ_self _)
                        exact lp116 _ 1 h33 (by omega) s34 f35 (Nat.lt_succ_self _)
                      · refine zj_aload_n (zdk ttX11_game 36 rfl rfl) rfl (by decide) ?_
                        refine zj_getr (r := 34) (zdk ttX11_game 37 rfl rfl) zf_RX11_114 rfl (k_M s34) (rfM_57 s34) ?_
                        refine zj_iload (zdk ttX11_game 38 rfl rfl) rfl ?_
                        refine zj_iconst (zdk ttX11_game 39 rfl rfl) ?_
                        refine zj_iast (zdk ttX11_game 40 rfl rfl) (kaM_34 s34) (by decide) (by omega) (fun h252 e253 => ?_)
                        refine zj_iinc (L' := [some (.inr 0), some (.inl p1), some (.inl p2), some (.inl p3), some (.inl p4), some (.inl (x32 + 1)), none]) (zdk ttX11_game 41 rfl rfl) rfl (by decide) rfl ?_
                        refine zj_goto (t := 57) (zdk ttX11_game 42 rfl rfl) (by decide) ?_
                        have s254 : okM h252 := awM_34 s34 e253 (by omega) (by unfold nsp; omega)
                        have f255 : zfr [0] [34] h h252 := zfr_wa f35 e253 rfl
                        exact ih66  (x32 + 1) h252 (by omega) s254 f255 (by omega)
                  have f256 : zfr [0] [34] h h1 := zfr_wf (zfr_r _ _ _) e2 rfl
                  exact lp63 _ 0 h1 (by omega) s3 f256 (Nat.lt_succ_self _)
                · exact absurd c31 (by omega)
