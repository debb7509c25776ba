def tok (h : zM) : Prop := h.2 0 13 ≤ h.2 0 12 ∧ (h.2 0 14 = 0 ∨ h.2 0 13 + 1 ≤ h.2 0 12)
abbrev tX11_wordAt : List (Nat × Instr × Nat) := [(0, .iconst (-1), 1), (1, .istore_n 3, 1), (2, .iconst 0, 1), (3, .istore 4, 2), (5, .iload 4, 2), (7, .sipush 149, 3), (10, .if_icmp .ge 108, 3), (13, .iconst 0, 1), (14, .istore 5, 2), (16, .iload_n 3, 1), (17, .iconst 1, 1), (18, .iadd, 1), (19, .istore_n 3, 1), (20, .iload_n 1, 1), (21, .iload 5, 2), (23, .iadd, 1), (24, .iload_n 2, 1), (25, .if_icmp .ge 36, 3), (28, .aload_n 0, 1), (29, .getfield 31, 3), (32, .iload 4, 2), (34, .iconst 1, 1), (35, .iadd, 1), (36, .iload 5, 2), (38, .iadd, 1), (39, .iaload, 1), (40, .aload_n 0, 1), (41, .getfield 28, 3), (44, .iload_n 1, 1), (45, .iload 5, 2), (47, .iadd, 1), (48, .iaload, 1), (49, .if_icmp .ne 12, 3), (52, .iload 5, 2), (54, .iconst 1, 1), (55, .iadd, 1), (56, .istore 5, 2), (58, .goto (-38), 3), (61, .iload_n 1, 1), (62, .iload 5, 2), (64, .iadd, 1), (65, .iload_n 2, 1), (66, .if_icmp .ne 22, 3), (69, .aload_n 0, 1), (70, .getfield 31, 3), (73, .iload 4, 2), (75, .iconst 1, 1), (76, .iadd, 1), (77, .iload 5, 2), (79, .iadd, 1), (80, .iaload, 1), (81, .bipush 32, 2), (83, .if_icmp .ne 5, 3), (86, .iload_n 3, 1), (87, .ireturn, 1), (88, .iload 4, 2), (90, .iconst 1, 1), (91, .iadd, 1), (92, .istore 4, 2), (94, .aload_n 0, 1), (95, .getfield 31, 3), (98, .iload 4, 2), (100, .iaload, 1), (101, .bipush 32, 2), (103, .if_icmp .eq 12, 3), (106, .iload 4, 2), (108, .iconst 1, 1), (109, .iadd, 1), (110, .istore 4, 2), (112, .goto (-18), 3), (115, .goto (-110), 3), (118, .iconst (-1), 1), (119, .ireturn, 1)]
theorem ttX11_wordAt : zdt cX11_wordAt tX11_wordAt = true := by decide +kernel
abbrev q_X11_wordAt (h : zM) (p1 : Int) (p2 : Int) : Option zV → zM → Prop := zqi fun v h' => h = h' ∧ ((-1) ≤ v ∧ v ≤ 2147483647)
set_option maxRecDepth 100000 in
set_option maxHeartbeats 4000000 in
theorem s_X11_wordAt (l : Launch) (h : zM) (p1 : Int) (p2 : Int) (s0 : okM h) (b_p1 : 0 ≤ p1 ∧ p1 ≤ 400) (b_p2 : 0 ≤ p2 ∧ p2 ≤ 400) (u_0 : ∀ j, p1 ≤ j → j < p2 → ¬ h.2 7 j = 32) : zT shM l yX11_wordAt cX11_wordAt 6 (some .int) (rmL 1) 0 0 [.inr 0, .inl p1, .inl p2] h (q_X11_wordAt h p1 p2) := by
  refine zT_of (by decide +kernel) (L0 := [some (.inr 0), some (.inl p1), some (.inl p2), none, none, none]) rfl (Nat.le_of_ble_eq_true rfl) ?_
  refine zj_iconst (zdk ttX11_wordAt 0 rfl rfl) ?_
  refine zj_istore_n (L' := [some (.inr 0), some (.inl p1), some (.inl p2), some (.inl (-1)), none, none]) (zdk ttX11_wordAt 1 rfl rfl) (by decide) rfl ?_
  refine zj_iconst (zdk ttX11_wordAt 2 rfl rfl) ?_
  refine zj_istore (L' := [some (.inr 0), some (.inl p1), some (.inl p2), some (.inl (-1)), some (.inl 0), none]) (zdk ttX11_wordAt 3 rfl rfl) (by decide) rfl ?_
  have lp80 : ∀ (n5 : Nat) (x1 x2 : Int), (-1 ≤ x1 ∧ x1 ≤ 150) → (0 ≤ x2 ∧ x2 ≤ 149) → (x1 ≤ x2 - 1) → (150 - x2).toNat < n5 → zJ shM l yX11_wordAt cX11_wordAt 6 (some .int) (rmL 1) 0 0 (q_X11_wordAt h p1 p2) 0 0 5 [some (.inr 0), some (.inl p1), some (.inl p2), some (.inl x1), some (.inl x2), none] [] h := by
    intro n5
    induction n5 with
    | zero => intro x1 x2 b81 b82 u83 m84; exact absurd m84 (Nat.not_lt_zero _)
    | succ n5 ih85 =>
      intro x1 x2 b81 b82 u83 m84
      refine zj_iload (zdk ttX11_wordAt 4 rfl rfl) rfl ?_
      refine zj_sipush (zdk ttX11_wordAt 5 rfl rfl) (by decide) ?_
      refine zj_icmp_ge (t := 118) (zdk ttX11_wordAt 6 rfl rfl) (by decide) (by omega) (by decide) (fun c86 => ?_) (fun c86 => ?_)
      · refine zj_iconst (zdk ttX11_wordAt 71 rfl rfl) ?_
        exact zj_iret rfl (zdk ttX11_wordAt 72 rfl rfl) (Nat.le_refl _) (Nat.le_refl _) ⟨(-1), rfl, rfl, by omega⟩
      · refine zj_iconst (zdk ttX11_wordAt 7 rfl rfl) ?_
        refine zj_istore (L' := [some (.inr 0), some (.inl p1), some (.inl p2), some (.inl x1), some (.inl x2), some (.inl 0)]) (zdk ttX11_wordAt 8 rfl rfl) (by decide) rfl ?_
        refine zj_iload_n (zdk ttX11_wordAt 9 rfl rfl) rfl ?_
        refine zj_iconst (zdk ttX11_wordAt 10 rfl rfl) ?_
        refine zj_iadd (zdk ttX11_wordAt 11 rfl rfl) ?_
        refine zj_istore_n (L' := [some (.inr 0), some (.inl p1), some (.inl p2), some (.inl (x1 + 1)), some (.inl x2), some (.inl 0)]) (zdk ttX11_wordAt 12 rfl rfl) (by decide) rfl ?_
        have lp94 : ∀ (n20 : Nat) (x87 : Int), (0 ≤ x87 ∧ x87 ≤ 149) → (x2 + 1 + x87 ≤ 149) → (150 - x87).toNat < n20 → zJ shM l yX11_wordAt cX11_wordAt 6 (some .int) (rmL 1) 0 0 (q_X11_wordAt h p1 p2) 0 0 20 [some (.inr 0), some (.inl p1), some (.inl p2), some (.inl (x1 + 1)), some (.inl x2), some (.inl x87)] [] h := by
          intro n20
          induction n20 with
          | zero => intro x87 b95 u96 m97; exact absurd m97 (Nat.not_lt_zero _)
          | succ n20 ih98 =>
            intro x87 b95 u96 m97
            refine zj_iload_n (zdk ttX11_wordAt 13 rfl rfl) rfl ?_
            refine zj_iload (zdk ttX11_wordAt 14 rfl rfl) rfl ?_
            refine zj_iadd (zdk ttX11_wordAt 15 rfl rfl) ?_
            refine zj_iload_n (zdk ttX11_wordAt 16 rfl rfl) rfl ?_
            refine zj_icmp_ge (t := 61) (zdk ttX11_wordAt 17 rfl rfl) (by decide) (by omega) (by omega) (fun c99 => ?_) (fun c99 => ?_)
            · refine zj_iload_n (zdk ttX11_wordAt 38 rfl rfl) rfl ?_
              refine zj_iload (zdk ttX11_wordAt 39 rfl rfl) rfl ?_
              refine zj_iadd (zdk ttX11_wordAt 40 rfl rfl) ?_
              refine zj_iload_n (zdk ttX11_wordAt 41 rfl rfl) rfl ?_
              refine zj_icmp_ne (t := 88) (zdk ttX11_wordAt 42 rfl rfl) (by decide) (by omega) (by omega) (fun c100 => ?_) (fun c100 => ?_)
              · refine zj_iload (zdk ttX11_wordAt 55 rfl rfl) rfl ?_
                refine zj_iconst (zdk ttX11_wordAt 56 rfl rfl) ?_
                refine zj_iadd (zdk ttX11_wordAt 57 rfl rfl) ?_
                refine zj_istore (L' := [some (.inr 0), some (.inl p1), some (.inl p2), some (.inl (x1 + 1)), some (.inl (x2 + 1)), some (.inl x87)]) (zdk ttX11_wordAt 58 rfl rfl) (by decide) rfl ?_
                have lp105 : ∀ (n94 : Nat) (x101 : Int), (1 ≤ x101 ∧ x101 ≤ 149) → ((x1 + 1) ≤ x101 - 1) → ((150 - x101).toNat < n5) → (150 - x101).toNat < n94 → zJ shM l yX11_wordAt cX11_wordAt 6 (some .int) (rmL 1) 0 0 (q_X11_wordAt h p1 p2) 0 0 94 [some (.inr 0), some (.inl p1), some (.inl p2), some (.inl (x1 + 1)), some (.inl x101), some (.inl x87)] [] h := by
                  intro n94
                  induction n94 with
                  | zero => intro x101 b106 u107 u108 m109; exact absurd m109 (Nat.not_lt_zero _)
                  | succ n94 ih110 =>
                    intro x101 b106 u107 u108 m109
                    refine zj_aload_n (zdk ttX11_wordAt 59 rfl rfl) rfl (by decide) ?_
                    refine zj_getr (r := 8) (zdk ttX11_wordAt 60 rfl rfl) zf_RX11_31 rfl (k_M s0) (rfM_16 s0) ?_
                    refine zj_iload (zdk ttX11_wordAt 61 rfl rfl) rfl ?_
                    have b111 : x101 = 149 → (h.2 8 x101) = 32 := fun q => by rw [q]; exact s0.2.2.2.2.2
                    have b112 : -2147483648 ≤ (h.2 8 x101) ∧ (h.2 8 x101) ≤ 2147483647 := abM_8 s0 x101
                    refine zj_iald (v := (h.2 8 x101)) (zdk ttX11_wordAt 62 rfl rfl) (kaM_8 s0) (by decide) (by omega) rfl ?_
                    refine zj_bipush (zdk ttX11_wordAt 63 rfl rfl) (by decide) ?_
                    refine zj_icmp_eq (t := 115) (zdk ttX11_wordAt 64 rfl rfl) (by decide) (by omega) (by decide) (fun c113 => ?_) (fun c113 => ?_)
                    · refine zj_goto (t := 5) (zdk ttX11_wordAt 70 rfl rfl) (by decide) ?_
                      refine zj_kill (k := 5) (L' := [some (.inr 0), some (.inl p1), some (.inl p2), some (.inl (x1 + 1)), some (.inl x101), none]) rfl ?_
                      exact ih85  (x1 + 1) x101 (by omega) (by omega) (by omega) (by omega)
                    · refine zj_iload (zdk ttX11_wordAt 65 rfl rfl) rfl ?_
                      refine zj_iconst (zdk ttX11_wordAt 66 rfl rfl) ?_
                      refine zj_iadd (zdk ttX11_wordAt 67 rfl rfl) ?_
                      refine zj_istore (L' := [some (.inr 0), some (.inl p1), some (.inl p2), some (.inl (x1 + 1)), some (.inl (x101 + 1)), some (.inl x87)]) (zdk ttX11_wordAt 68 rfl rfl) (by decide) rfl ?_
                      refine zj_goto (t := 94) (zdk ttX11_wordAt 69 rfl rfl) (by decide) ?_
                      exact ih110  (x101 + 1) (by omega) (by omega) (by omega) (by omega)
                exact lp105 _ (x2 + 1) (by omega) (by omega) (by omega) (Nat.lt_succ_self _)
              · refine zj_aload_n (zdk ttX11_wordAt 43 rfl rfl) rfl (by decide) ?_
                refine zj_getr (r := 8) (zdk ttX11_wordAt 44 rfl rfl) zf_RX11_31 rfl (k_M s0) (rfM_16 s0) ?_
                refine zj_iload (zdk ttX11_wordAt 45 rfl rfl) rfl ?_
                refine zj_iconst (zdk ttX11_wordAt 46 rfl rfl) ?_
                refine zj_iadd (zdk ttX11_wordAt 47 rfl rfl) ?_
                refine zj_iload (zdk ttX11_wordAt 48 rfl rfl) rfl ?_
                refine zj_iadd (zdk ttX11_wordAt 49 rfl rfl) ?_
                have b114 : ((x2 + 1) + x87) = 149 → (h.2 8 ((x2 + 1) + x87)) = 32 := fun q => by rw [q]; exact s0.2.2.2.2.2
                have b115 : -2147483648 ≤ (h.2 8 ((x2 + 1) + x87)) ∧ (h.2 8 ((x2 + 1) + x87)) ≤ 2147483647 := abM_8 s0 ((x2 + 1) + x87)
                refine zj_iald (v := (h.2 8 ((x2 + 1) + x87))) (zdk ttX11_wordAt 50 rfl rfl) (kaM_8 s0) (by decide) (by omega) rfl ?_
                refine zj_bipush (zdk ttX11_wordAt 51 rfl rfl) (by decide) ?_
                refine zj_icmp_ne (t := 88) (zdk ttX11_wordAt 52 rfl rfl) (by decide) (by omega) (by decide) (fun c116 => ?_) (fun c116 => ?_)
                · refine zj_iload (zdk ttX11_wordAt 55 rfl rfl) rfl ?_
                  refine zj_iconst (zdk ttX11_wordAt 56 rfl rfl) ?_
                  refine zj_iadd (zdk ttX11_wordAt 57 rfl rfl) ?_
                  refine zj_istore (L' := [some (.inr 0), some (.inl p1), some (.inl p2), some (.inl (x1 + 1)), some (.inl (x2 + 1)), some (.inl x87)]) (zdk ttX11_wordAt 58 rfl rfl) (by decide) rfl ?_
                  have lp121 : ∀ (n94 : Nat) (x117 : Int), (1 ≤ x117 ∧ x117 ≤ 149) → ((x1 + 1) ≤ x117 - 1) → ((150 - x117).toNat < n5) → (150 - x117).toNat < n94 → zJ shM l yX11_wordAt cX11_wordAt 6 (some .int) (rmL 1) 0 0 (q_X11_wordAt h p1 p2) 0 0 94 [some (.inr 0), some (.inl p1), some (.inl p2), some (.inl (x1 + 1)), some (.inl x117), some (.inl x87)] [] h := by
                    intro n94
                    induction n94 with
                    | zero => intro x117 b122 u123 u124 m125; exact absurd m125 (Nat.not_lt_zero _)
                    | succ n94 ih126 =>
                      intro x117 b122 u123 u124 m125
                      refine zj_aload_n (zdk ttX11_wordAt 59 rfl rfl) rfl (by decide) ?_
                      refine zj_getr (r := 8) (zdk ttX11_wordAt 60 rfl rfl) zf_RX11_31 rfl (k_M s0) (rfM_16 s0) ?_
                      refine zj_iload (zdk ttX11_wordAt 61 rfl rfl) rfl ?_
                      have b127 : x117 = 149 → (h.2 8 x117) = 32 := fun q => by rw [q]; exact s0.2.2.2.2.2
                      have b128 : -2147483648 ≤ (h.2 8 x117) ∧ (h.2 8 x117) ≤ 2147483647 := abM_8 s0 x117
                      refine zj_iald (v := (h.2 8 x117)) (zdk ttX11_wordAt 62 rfl rfl) (kaM_8 s0) (by decide) (by omega) rfl ?_
                      refine zj_bipush (zdk ttX11_wordAt 63 rfl rfl) (by decide) ?_
                      refine zj_icmp_eq (t := 115) (zdk ttX11_wordAt 64 rfl rfl) (by decide) (by omega) (by decide) (fun c129 => ?_) (fun c129 => ?_)
                      · refine zj_goto (t := 5) (zdk ttX11_wordAt 70 rfl rfl) (by decide) ?_
                        refine zj_kill (k := 5) (L' := [some (.inr 0), some (.inl p1), some (.inl p2), some (.inl (x1 + 1)), some (.inl x117), none]) rfl ?_
                        exact ih85  (x1 + 1) x117 (by omega) (by omega) (by omega) (by omega)
                      · refine zj_iload (zdk ttX11_wordAt 65 rfl rfl) rfl ?_
                        refine zj_iconst (zdk ttX11_wordAt 66 rfl rfl) ?_
                        refine zj_iadd (zdk ttX11_wordAt 67 rfl rfl) ?_
                        refine zj_istore (L' := [some (.inr 0), some (.inl p1), some (.inl p2), some (.inl (x1 + 1)), some (.inl (x117 + 1)), some (.inl x87)]) (zdk ttX11_wordAt 68 rfl rfl) (by decide) rfl ?_
                        refine zj_goto (t := 94) (zdk ttX11_wordAt 69 rfl rfl) (by decide) ?_
                        exact ih126  (x117 + 1) (by omega) (by omega) (by omega) (by omega)
                  exact lp121 _ (x2 + 1) (by omega) (by omega) (by omega) (Nat.lt_succ_self _)
                · refine zj_iload_n (zdk ttX11_wordAt 53 rfl rfl) rfl ?_
                  exact zj_iret rfl (zdk ttX11_wordAt 54 rfl rfl) (Nat.le_refl _) (Nat.le_refl _) ⟨(x1 + 1), rfl, rfl, by omega⟩
            · refine zj_aload_n (zdk ttX11_wordAt 18 rfl rfl) rfl (by decide) ?_
              refine zj_getr (r := 8) (zdk ttX11_wordAt 19 rfl rfl) zf_RX11_31 rfl (k_M s0) (rfM_16 s0) ?_
              refine zj_iload (zdk ttX11_wordAt 20 rfl rfl) rfl ?_
              refine zj_iconst (zdk ttX11_wordAt 21 rfl rfl) ?_
              refine zj_iadd (zdk ttX11_wordAt 22 rfl rfl) ?_
              refine zj_iload (zdk ttX11_wordAt 23 rfl rfl) rfl ?_
              refine zj_iadd (zdk ttX11_wordAt 24 rfl rfl) ?_
              have b130 : ((x2 + 1) + x87) = 149 → (h.2 8 ((x2 + 1) + x87)) = 32 := fun q => by rw [q]; exact s0.2.2.2.2.2
              have b131 : -2147483648 ≤ (h.2 8 ((x2 + 1) + x87)) ∧ (h.2 8 ((x2 + 1) + x87)) ≤ 2147483647 := abM_8 s0 ((x2 + 1) + x87)
              refine zj_iald (v := (h.2 8 ((x2 + 1) + x87))) (zdk ttX11_wordAt 25 rfl rfl) (kaM_8 s0) (by decide) (by omega) rfl ?_
              refine zj_aload_n (zdk ttX11_wordAt 26 rfl rfl) rfl (by decide) ?_
              refine zj_getr (r := 7) (zdk ttX11_wordAt 27 rfl rfl) zf_RX11_28 rfl (k_M s0) (rfM_10 s0) ?_
              refine zj_iload_n (zdk ttX11_wordAt 28 rfl rfl) rfl ?_
              refine zj_iload (zdk ttX11_wordAt 29 rfl rfl) rfl ?_
              refine zj_iadd (zdk ttX11_wordAt 30 rfl rfl) ?_
              have b132 := u_0 (p1 + x87) (by omega) (by omega)
              have b133 : 0 ≤ (h.2 7 (p1 + x87)) ∧ (h.2 7 (p1 + x87)) ≤ 255 := abM_7 s0 (p1 + x87)
              refine zj_iald (v := (h.2 7 (p1 + x87))) (zdk ttX11_wordAt 31 rfl rfl) (kaM_7 s0) (by decide) (by omega) rfl ?_
              refine zj_icmp_ne (t := 61) (zdk ttX11_wordAt 32 rfl rfl) (by decide) (by omega) (by omega) (fun c134 => ?_) (fun c134 => ?_)
              · refine zj_iload_n (zdk ttX11_wordAt 38 rfl rfl) rfl ?_
                refine zj_iload (zdk ttX11_wordAt 39 rfl rfl) rfl ?_
                refine zj_iadd (zdk ttX11_wordAt 40 rfl rfl) ?_
                refine zj_iload_n (zdk ttX11_wordAt 41 rfl rfl) rfl ?_
                refine zj_icmp_ne (t := 88) (zdk ttX11_wordAt 42 rfl rfl) (by decide) (by omega) (by omega) (fun c135 => ?_) (fun c135 => ?_)
                · refine zj_iload (zdk ttX11_wordAt 55 rfl rfl) rfl ?_
                  refine zj_iconst (zdk ttX11_wordAt 56 rfl rfl) ?_
                  refine zj_iadd (zdk ttX11_wordAt 57 rfl rfl) ?_
                  refine zj_istore (L' := [some (.inr 0), some (.inl p1), some (.inl p2), some (.inl (x1 + 1)), some (.inl (x2 + 1)), some (.inl x87)]) (zdk ttX11_wordAt 58 rfl rfl) (by decide) rfl ?_
                  have lp140 : ∀ (n94 : Nat) (x136 : Int), (1 ≤ x136 ∧ x136 ≤ 149) → ((x1 + 1) ≤ x136 - 1) → ((150 - x136).toNat < n5) → (150 - x136).toNat < n94 → zJ shM l yX11_wordAt cX11_wordAt 6 (some .int) (rmL 1) 0 0 (q_X11_wordAt h p1 p2) 0 0 94 [some (.inr 0), some (.inl p1), some (.inl p2), some (.inl (x1 + 1)), some (.inl x136), some (.inl x87)] [] h := by
                    intro n94
                    induction n94 with
                    | zero => intro x136 b141 u142 u143 m144; exact absurd m144 (Nat.not_lt_zero _)
                    | succ n94 ih145 =>
                      intro x136 b141 u142 u143 m144
                      refine zj_aload_n (zdk ttX11_wordAt 59 rfl rfl) rfl (by decide) ?_
                      refine zj_getr (r := 8) (zdk ttX11_wordAt 60 rfl rfl) zf_RX11_31 rfl (k_M s0) (rfM_16 s0) ?_
                      refine zj_iload (zdk ttX11_wordAt 61 rfl rfl) rfl ?_
                      have b146 : x136 = 149 → (h.2 8 x136) = 32 := fun q => by rw [q]; exact s0.2.2.2.2.2
                      have b147 : -2147483648 ≤ (h.2 8 x136) ∧ (h.2 8 x136) ≤ 2147483647 := abM_8 s0 x136
                      refine zj_iald (v := (h.2 8 x136)) (zdk ttX11_wordAt 62 rfl rfl) (kaM_8 s0) (by decide) (by omega) rfl ?_
                      refine zj_bipush (zdk ttX11_wordAt 63 rfl rfl) (by decide) ?_
                      refine zj_icmp_eq (t := 115) (zdk ttX11_wordAt 64 rfl rfl) (by decide) (by omega) (by decide) (fun c148 => ?_) (fun c148 => ?_)
                      · refine zj_goto (t := 5) (zdk ttX11_wordAt 70 rfl rfl) (by decide) ?_
                        refine zj_kill (k := 5) (L' := [some (.inr 0), some (.inl p1), some (.inl p2), some (.inl (x1 + 1)), some (.inl x136), none]) rfl ?_
                        exact ih85  (x1 + 1) x136 (by omega) (by omega) (by omega) (by omega)
                      · refine zj_iload (zdk ttX11_wordAt 65 rfl rfl) rfl ?_
                        refine zj_iconst (zdk ttX11_wordAt 66 rfl rfl) ?_
                        refine zj_iadd (zdk ttX11_wordAt 67 rfl rfl) ?_
                        refine zj_istore (L' := [some (.inr 0), some (.inl p1), some (.inl p2), some (.inl (x1 + 1)), some (.inl (x136 + 1)), some (.inl x87)]) (zdk ttX11_wordAt 68 rfl rfl) (by decide) rfl ?_
                        refine zj_goto (t := 94) (zdk ttX11_wordAt 69 rfl rfl) (by decide) ?_
                        exact ih145  (x136 + 1) (by omega) (by omega) (by omega) (by omega)
                  exact lp140 _ (x2 + 1) (by omega) (by omega) (by omega) (Nat.lt_succ_self _)
                · refine zj_aload_n (zdk ttX11_wordAt 43 rfl rfl) rfl (by decide) ?_
                  refine zj_getr (r := 8) (zdk ttX11_wordAt 44 rfl rfl) zf_RX11_31 rfl (k_M s0) (rfM_16 s0) ?_
                  refine zj_iload (zdk ttX11_wordAt 45 rfl rfl) rfl ?_
                  refine zj_iconst (zdk ttX11_wordAt 46 rfl rfl) ?_
                  refine zj_iadd (zdk ttX11_wordAt 47 rfl rfl) ?_
                  refine zj_iload (zdk ttX11_wordAt 48 rfl rfl) rfl ?_
                  refine zj_iadd (zdk ttX11_wordAt 49 rfl rfl) ?_
                  refine zj_iald (v := (h.2 8 ((x2 + 1) + x87))) (zdk ttX11_wordAt 50 rfl rfl) (kaM_8 s0) (by decide) (by omega) rfl ?_
                  refine zj_bipush (zdk ttX11_wordAt 51 rfl rfl) (by decide) ?_
                  refine zj_icmp_ne (t := 88) (zdk ttX11_wordAt 52 rfl rfl) (by decide) (by omega) (by decide) (fun c149 => ?_) (fun c149 => ?_)
                  · refine zj_iload (zdk ttX11_wordAt 55 rfl rfl) rfl ?_
                    refine zj_iconst (zdk ttX11_wordAt 56 rfl rfl) ?_
                    refine zj_iadd (zdk ttX11_wordAt 57 rfl rfl) ?_
                    refine zj_istore (L' := [some (.inr 0), some (.inl p1), some (.inl p2), some (.inl (x1 + 1)), some (.inl (x2 + 1)), some (.inl x87)]) (zdk ttX11_wordAt 58 rfl rfl) (by decide) rfl ?_
                    have lp154 : ∀ (n94 : Nat) (x150 : Int), (1 ≤ x150 ∧ x150 ≤ 149) → ((x1 + 1) ≤ x150 - 1) → ((150 - x150).toNat < n5) → (150 - x150).toNat < n94 → zJ shM l yX11_wordAt cX11_wordAt 6 (some .int) (rmL 1) 0 0 (q_X11_wordAt h p1 p2) 0 0 94 [some (.inr 0), some (.inl p1), some (.inl p2), some (.inl (x1 + 1)), some (.inl x150), some (.inl x87)] [] h := by
                      intro n94
                      induction n94 with
                      | zero => intro x150 b155 u156 u157 m158; exact absurd m158 (Nat.not_lt_zero _)
                      | succ n94 ih159 =>
                        intro x150 b155 u156 u157 m158
                        refine zj_aload_n (zdk ttX11_wordAt 59 rfl rfl) rfl (by decide) ?_
                        refine zj_getr (r := 8) (zdk ttX11_wordAt 60 rfl rfl) zf_RX11_31 rfl (k_M s0) (rfM_16 s0) ?_
                        refine zj_iload (zdk ttX11_wordAt 61 rfl rfl) rfl ?_
                        have b160 : x150 = 149 → (h.2 8 x150) = 32 := fun q => by rw [q]; exact s0.2.2.2.2.2
                        have b161 : -2147483648 ≤ (h.2 8 x150) ∧ (h.2 8 x150) ≤ 2147483647 := abM_8 s0 x150
                        refine zj_iald (v := (h.2 8 x150)) (zdk ttX11_wordAt 62 rfl rfl) (kaM_8 s0) (by decide) (by omega) rfl ?_
                        refine zj_bipush (zdk ttX11_wordAt 63 rfl rfl) (by decide) ?_
                        refine zj_icmp_eq (t := 115) (zdk ttX11_wordAt 64 rfl rfl) (by decide) (by omega) (by decide) (fun c162 => ?_) (fun c162 => ?_)
                        · refine zj_goto (t := 5) (zdk ttX11_wordAt 70 rfl rfl) (by decide) ?_
                          refine zj_kill (k := 5) (L' := [some (.inr 0), some (.inl p1), some (.inl p2), some (.inl (x1 + 1)), some (.inl x150), none]) rfl ?_
                          exact ih85  (x1 + 1) x150 (by omega) (by omega) (by omega) (by omega)
                        · refine zj_iload (zdk ttX11_wordAt 65 rfl rfl) rfl ?_
                          refine zj_iconst (zdk ttX11_wordAt 66 rfl rfl) ?_
                          refine zj_iadd (zdk ttX11_wordAt 67 rfl rfl) ?_
                          refine zj_istore (L' := [some (.inr 0), some (.inl p1), some (.inl p2), some (.inl (x1 + 1)), some (.inl (x150 + 1)), some (.inl x87)]) (zdk ttX11_wordAt 68 rfl rfl) (by decide) rfl ?_
                          refine zj_goto (t := 94) (zdk ttX11_wordAt 69 rfl rfl) (by decide) ?_
                          exact ih159  (x150 + 1) (by omega) (by omega) (by omega) (by omega)
                    exact lp154 _ (x2 + 1) (by omega) (by omega) (by omega) (Nat.lt_succ_self _)
                  · refine zj_iload_n (zdk ttX11_wordAt 53 rfl rfl) rfl ?_
                    exact zj_iret rfl (zdk ttX11_wordAt 54 rfl rfl) (Nat.le_refl _) (Nat.le_refl _) ⟨(x1 + 1), rfl, rfl, by omega⟩
              · refine zj_iload (zdk ttX11_wordAt 33 rfl rfl) rfl ?_
                refine zj_iconst (zdk ttX11_wordAt 34 rfl rfl) ?_
                refine zj_iadd (zdk ttX11_wordAt 35 rfl rfl) ?_
                refine zj_istore (L' := [some (.inr 0), some (.inl p1), some (.inl p2), some (.inl (x1 + 1)), some (.inl x2), some (.inl (x87 + 1))]) (zdk ttX11_wordAt 36 rfl rfl) (by decide) rfl ?_
                refine zj_goto (t := 20) (zdk ttX11_wordAt 37 rfl rfl) (by decide) ?_
                exact ih98  (x87 + 1) (by omega) (by omega) (by omega)
        exact lp94 _ 0 (by omega) (by omega) (Nat.lt_succ_self _)
  exact lp80 _ (-1) 0 (by omega) (by omega) (by omega) (Nat.lt_succ_self _)

abbrev tX11_reads : List (Nat × Instr × Nat) := [(0, .aload_n 0, 1), (1, .aload_n 0, 1), (2, .getfield 156, 3), (5, .invokevirtual 159, 3), (8, .bipush 32, 2), (10, .if_icmp .eq 16, 3), (13, .aload_n 0, 1), (14, .aload_n 0, 1), (15, .getfield 156, 3), (18, .invokevirtual 159, 3), (21, .bipush 10, 2), (23, .if_icmp .ne 16, 3), (26, .aload_n 0, 1), (27, .aload_n 0, 1), (28, .getfield 156, 3), (31, .iconst 1, 1), (32, .iadd, 1), (33, .putfield 156, 3), (36, .goto (-36), 3), (39, .aload_n 0, 1), (40, .aload_n 0, 1), (41, .getfield 156, 3), (44, .putfield 163, 3), (47, .aload_n 0, 1), (48, .iconst 1, 1), (49, .putfield 166, 3), (52, .aload_n 0, 1), (53, .aload_n 0, 1), (54, .getfield 156, 3), (57, .invokevirtual 159, 3), (60, .istore_n 1, 1), (61, .iload_n 1, 1), (62, .iconst (-1), 1), (63, .if_icmp .ne 9, 3), (66, .aload_n 0, 1), (67, .iconst 0, 1), (68, .putfield 166, 3), (71, .return_, 1), (72, .aload_n 0, 1), (73, .aload_n 0, 1), (74, .getfield 156, 3), (77, .iconst 1, 1), (78, .iadd, 1), (79, .putfield 156, 3), (82, .aload_n 0, 1), (83, .iload_n 1, 1), (84, .putfield 169, 3), (87, .aload_n 0, 1), (88, .iload_n 1, 1), (89, .invokevirtual 172, 3), (92, .ifCond .eq 63, 3), (95, .aload_n 0, 1), (96, .aload_n 0, 1), (97, .aload_n 0, 1), (98, .getfield 156, 3), (101, .invokevirtual 159, 3), (104, .invokevirtual 172, 3), (107, .ifCond .eq 16, 3), (110, .aload_n 0, 1), (111, .aload_n 0, 1), (112, .getfield 156, 3), (115, .iconst 1, 1), (116, .iadd, 1), (117, .putfield 156, 3), (120, .goto (-25), 3), (123, .aload_n 0, 1), (124, .aload_n 0, 1), (125, .aload_n 0, 1), (126, .getfield 163, 3), (129, .aload_n 0, 1), (130, .getfield 156, 3), (133, .invokevirtual 175, 3), (136, .putfield 169, 3), (139, .aload_n 0, 1), (140, .getfield 169, 3), (143, .iconst (-1), 1), (144, .if_icmp .eq 129, 3), (147, .aload_n 0, 1), (148, .iconst 2, 1), (149, .putfield 166, 3), (152, .goto 121, 3), (155, .aload_n 0, 1), (156, .iload_n 1, 1), (157, .invokevirtual 179, 3), (160, .ifCond .eq 100, 3), (163, .aload_n 0, 1), (164, .iload_n 1, 1), (165, .bipush 48, 2), (167, .isub, 1), (168, .putfield 169, 3), (171, .aload_n 0, 1), (172, .aload_n 0, 1), (173, .aload_n 0, 1), (174, .getfield 156, 3), (177, .invokevirtual 159, 3), (180, .invokevirtual 179, 3), (183, .ifCond .eq 56, 3), (186, .aload_n 0, 1), (187, .aload_n 0, 1), (188, .getfield 169, 3), (191, .sipush 10000, 3), (194, .if_icmp .ge 25, 3), (197, .bipush 10, 2), (199, .aload_n 0, 1), (200, .getfield 169, 3), (203, .imul, 1), (204, .aload_n 0, 1), (205, .aload_n 0, 1), (206, .getfield 156, 3), (209, .invokevirtual 159, 3), (212, .iadd, 1), (213, .bipush 48, 2), (215, .isub, 1), (216, .goto 7, 3), (219, .aload_n 0, 1), (220, .getfield 169, 3), (223, .putfield 169, 3), (226, .aload_n 0, 1), (227, .aload_n 0, 1), (228, .getfield 156, 3), (231, .iconst 1, 1), (232, .iadd, 1), (233, .putfield 156, 3), (236, .goto (-65), 3), (239, .aload_n 0, 1), (240, .getfield 156, 3), (243, .aload_n 0, 1), (244, .getfield 163, 3), (247, .isub, 1), (248, .iconst 5, 1), (249, .if_icmp .ge 24, 3), (252, .aload_n 0, 1), (253, .iconst 3, 1), (254, .putfield 166, 3), (257, .goto 16, 3), (260, .aload_n 0, 1), (261, .iload_n 1, 1), (262, .invokevirtual 182, 3), (265, .ifCond .eq 8, 3), (268, .aload_n 0, 1), (269, .iconst 4, 1), (270, .putfield 166, 3), (273, .return_, 1)]
theorem ttX11_reads : zdt cX11_reads tX11_reads = true := by decide +kernel
abbrev q_X11_reads (h : zM) : Option zV → zM → Prop := zqv fun h' => okM h' ∧ zfr [12, 13, 14, 15] [] h h' ∧ (tok h') ∧ (h.2 0 12 ≤ h'.2 0 13)
set_option maxRecDepth 100000 in
set_option maxHeartbeats 4000000 in
theorem s_X11_reads (l : Launch) (h : zM) (s0 : okM h) : zT shM l yX11_reads cX11_reads 2 none (rmL 3) 0 0 [.inr 0] h (q_X11_reads h) := by
  refine zT_of (by decide +kernel) (L0 := [some (.inr 0), none]) rfl (Nat.le_of_ble_eq_true rfl) ?_
  have lp25 : ∀ (n0 : Nat) (h1 : zM), okM h1 → zfr [12, 13, 14, 15] [] h h1 → (h.2 0 12 ≤ h1.2 0 12) → (400 - (h1.2 0 12)).toNat < n0 → zJ shM l yX11_reads cX11_reads 2 none (rmL 3) 0 0 (q_X11_reads h) 0 0 0 [some (.inr 0), none] [] h1 := by
    intro n0
    induction n0 with
    | zero => intro h1 s2 f3 u26 m27; exact absurd m27 (Nat.not_lt_zero _)
    | succ n0 ih28 =>
      intro h1 s2 f3 u26 m27
      refine zj_aload_n (zdk ttX11_reads 0 rfl rfl) rfl (by decide) ?_
      refine zj_aload_n (zdk ttX11_reads 1 rfl rfl) rfl (by decide) ?_
      have b29 : 0 ≤ (h1.2 0 12) ∧ (h1.2 0 12) ≤ 400 := fM_12 s2
      refine zj_geti (v := (h1.2 0 12)) (zdk ttX11_reads 2 rfl rfl) zf_RX11_156 rfl (k_M s2) rfl ?_
      have b30 : h1.2 7 (h1.2 0 12) = h.2 7 (h1.2 0 12) := (zfr_a f3 rfl (by decide))
      refine zj_callV (av := [.inl (h1.2 0 12)]) (st := []) (zdk ttX11_reads 3 rfl rfl) mb_X11_raw mv_RX11_159 (ci := 11) rfl rfl (k_M s2) rfl rfl (Nat.le_of_ble_eq_true rfl) (s_X11_raw l h1 (h1.2 0 12) s2 (by omega)) (rm_ok (by decide) (by decide)) (zq_i fun v32 h33 q31 => ?_)
      obtain ⟨rfl, b35, b34⟩ := q31
      have b36 : -1 ≤ v32 ∧ v32 ≤ 255 := by omega
      refine zj_bipush (zdk ttX11_reads 4 rfl rfl) (by decide) ?_
      refine zj_icmp_eq (t := 26) (zdk ttX11_reads 5 rfl rfl) (by decide) (by omega) (by decide) (fun c37 => ?_) (fun c37 => ?_)
      · refine zj_aload_n (zdk ttX11_reads 12 rfl rfl) rfl (by decide) ?_
        refine zj_aload_n (zdk ttX11_reads 13 rfl rfl) rfl (by decide) ?_
        refine zj_geti (v := (h1.2 0 12)) (zdk ttX11_reads 14 rfl rfl) zf_RX11_156 rfl (k_M s2) rfl ?_
        refine zj_iconst (zdk ttX11_reads 15 rfl rfl) ?_
        refine zj_iadd (zdk ttX11_reads 16 rfl rfl) ?_
        refine zj_puti (zdk ttX11_reads 17 rfl rfl) zf_RX11_156 rfl (k_M s2) (Or.inl zw_RX11_156) (k2 := 12) rfl (fun h38 e39 => ?_)
        refine zj_goto (t := 0) (zdk ttX11_reads 18 rfl rfl) (by decide) ?_
        have b40 : h38.2 0 12 = ((h1.2 0 12) + 1) := (zwr_v e39)
        have s41 : okM h38 := fwM_12 s2 e39 (by omega)
        have f42 : zfr [12, 13, 14, 15] [] h h38 := zfr_wf f3 e39 rfl
        exact ih28  h38 s41 f42 (by omega) (by omega)
      · refine zj_aload_n (zdk ttX11_reads 6 rfl rfl) rfl (by decide) ?_
        refine zj_aload_n (zdk ttX11_reads 7 rfl rfl) rfl (by decide) ?_
        refine zj_geti (v := (h1.2 0 12)) (zdk ttX11_reads 8 rfl rfl) zf_RX11_156 rfl (k_M s2) rfl ?_
        have b43 : h1.2 7 (h1.2 0 12) = h.2 7 (h1.2 0 12) := (zfr_a f3 rfl (by decide))
        refine zj_callV (av := [.inl (h1.2 0 12)]) (st := []) (zdk ttX11_reads 9 rfl rfl) mb_X11_raw mv_RX11_159 (ci := 11) rfl rfl (k_M s2) rfl rfl (Nat.le_of_ble_eq_true rfl) (s_X11_raw l h1 (h1.2 0 12) s2 (by omega)) (rm_ok (by decide) (by decide)) (zq_i fun v45 h46 q44 => ?_)
        obtain ⟨rfl, b48, b47⟩ := q44
        have b49 : -1 ≤ v45 ∧ v45 ≤ 255 := by omega
        refine zj_bipush (zdk ttX11_reads 10 rfl rfl) (by decide) ?_
        refine zj_icmp_ne (t := 39) (zdk ttX11_reads 11 rfl rfl) (by decide) (by omega) (by decide) (fun c50 => ?_) (fun c50 => ?_)
        · refine zj_aload_n (zdk ttX11_reads 19 rfl rfl) rfl (by decide) ?_
          refine zj_aload_n (zdk ttX11_reads 20 rfl rfl) rfl (by decide) ?_
          refine zj_geti (v := (h1.2 0 12)) (zdk ttX11_reads 21 rfl rfl) zf_RX11_156 rfl (k_M s2) rfl ?_
          refine zj_puti (zdk ttX11_reads 22 rfl rfl) zf_RX11_163 rfl (k_M s2) (Or.inl zw_RX11_163) (k2 := 13) rfl (fun h51 e52 => ?_)
          refine zj_aload_n (zdk ttX11_reads 23 rfl rfl) rfl (by decide) ?_
          refine zj_iconst (zdk ttX11_reads 24 rfl rfl) ?_
          have s53 : okM h51 := fwM_13 s2 e52 (by omega)
          refine zj_puti (zdk ttX11_reads 25 rfl rfl) zf_RX11_166 rfl (k_M s53) (Or.inl zw_RX11_166) (k2 := 14) rfl (fun h54 e55 => ?_)
          refine zj_aload_n (zdk ttX11_reads 26 rfl rfl) rfl (by decide) ?_
          refine zj_aload_n (zdk ttX11_reads 27 rfl rfl) rfl (by decide) ?_
          have s56 : okM h54 := fwM_14 s53 e55 (by omega)
          refine zj_geti (v := (h1.2 0 12)) (zdk ttX11_reads 28 rfl rfl) zf_RX11_156 rfl (k_M s56) ((zwr_r e55 (by first | decide | exact (absurd ·.1 (by decide)) | exact (absurd ·.2 (by decide)) | omega)).trans (zwr_r e52 (by first | decide | exact (absurd ·.1 (by decide)) | exact (absurd ·.2 (by decide)) | omega))) ?_
          have b57 : h54.2 7 (h1.2 0 12) = h.2 7 (h1.2 0 12) := (((zwr_r e55 (by first | decide | exact (absurd ·.1 (by decide)) | exact (absurd ·.2 (by decide)) | omega)).trans (zwr_r e52 (by first | decide | exact (absurd ·.1 (by decide)) | exact (absurd ·.2 (by decide)) | omega))).trans (zfr_a f3 rfl (by decide)))
          refine zj_callV (av := [.inl (h1.2 0 12)]) (st := []) (zdk ttX11_reads 29 rfl rfl) mb_X11_raw mv_RX11_159 (ci := 11) rfl rfl (k_M s56) rfl rfl (Nat.le_of_ble_eq_true rfl) (s_X11_raw l h54 (h1.2 0 12) s56 (by omega)) (rm_ok (by decide) (by decide)) (zq_i fun v59 h60 q58 => ?_)
          obtain ⟨rfl, b62, b61⟩ := q58
          have b63 : -1 ≤ v59 ∧ v59 ≤ 255 := by omega
          refine zj_istore_n (L' := [some (.inr 0), some (.inl v59)]) (zdk ttX11_reads 30 rfl rfl) (by decide) rfl ?_
          refine zj_iload_n (zdk ttX11_reads 31 rfl rfl) rfl ?_
          refine zj_iconst (zdk ttX11_reads 32 rfl rfl) ?_
          refine zj_icmp_ne (t := 72) (zdk ttX11_reads 33 rfl rfl) (by decide) (by omega) (by decide) (fun c64 => ?_) (fun c64 => ?_)
          · refine zj_aload_n (zdk ttX11_reads 38 rfl rfl) rfl (by decide) ?_
            refine zj_aload_n (zdk ttX11_reads 39 rfl rfl) rfl (by decide) ?_
            refine zj_geti (v := (h1.2 0 12)) (zdk ttX11_reads 40 rfl rfl) zf_RX11_156 rfl (k_M s56) ((zwr_r e55 (by first | decide | exact (absurd ·.1 (by decide)) | exact (absurd ·.2 (by decide)) | omega)).trans (zwr_r e52 (by first | decide | exact (absurd ·.1 (by decide)) | exact (absurd ·.2 (by decide)) | omega))) ?_
            refine zj_iconst (zdk ttX11_reads 41 rfl rfl) ?_
            refine zj_iadd (zdk ttX11_reads 42 rfl rfl) ?_
            refine zj_puti (zdk ttX11_reads 43 rfl rfl) zf_RX11_156 rfl (k_M s56) (Or.inl zw_RX11_156) (k2 := 12) rfl (fun h65 e66 => ?_)
            refine zj_aload_n (zdk ttX11_reads 44 rfl rfl) rfl (by decide) ?_
            refine zj_iload_n (zdk ttX11_reads 45 rfl rfl) rfl ?_
            have s67 : okM h65 := fwM_12 s56 e66 (by omega)
            refine zj_puti (zdk ttX11_reads 46 rfl rfl) zf_RX11_169 rfl (k_M s67) (Or.inl zw_RX11_169) (k2 := 15) rfl (fun h68 e69 => ?_)
            refine zj_aload_n (zdk ttX11_reads 47 rfl rfl) rfl (by decide) ?_
            refine zj_iload_n (zdk ttX11_reads 48 rfl rfl) rfl ?_
            have s70 : okM h68 := fwM_15 s67 e69 (by omega)
            refine zj_callV (av := [.inl v59]) (st := []) (zdk ttX11_reads 49 rfl rfl) mb_X11_isLetter mv_RX11_172 (ci := 11) rfl rfl (k_M s70) rfl rfl (Nat.le_of_ble_eq_true rfl) (s_X11_isLetter l h68 v59 s70 (by omega)) (rm_ok (by decide) (by decide)) (zq_i fun v72 h73 q71 => ?_)
            obtain ⟨rfl, ⟨rfl, b74⟩ | ⟨rfl, b74⟩⟩ := q71
            · refine zj_if_eq (t := 155) (zdk ttX11_reads 50 rfl rfl) (by decide) (by decide) (fun c75 => ?_) (fun c75 => ?_)
              · refine zj_aload_n (zdk ttX11_reads 81 rfl rfl) rfl (by decide) ?_
                refine zj_iload_n (zdk ttX11_reads 82 rfl rfl) rfl ?_
                refine zj_callV (av := [.inl v59]) (st := []) (zdk ttX11_reads 83 rfl rfl) mb_X11_isDigit mv_RX11_179 (ci := 11) rfl rfl (k_M s70) rfl rfl (Nat.le_of_ble_eq_true rfl) (s_X11_isDigit l h68 v59 s70 (by omega)) (rm_ok (by decide) (by decide)) (zq_i fun v77 h78 q76 => ?_)
                obtain ⟨rfl, ⟨rfl, b79⟩ | ⟨rfl, b79⟩⟩ := q76
                · refine zj_if_eq (t := 260) (zdk ttX11_reads 84 rfl rfl) (by decide) (by decide) (fun c80 => ?_) (fun c80 => ?_)
                  · refine zj_aload_n (zdk ttX11_reads 135 rfl rfl) rfl (by decide) ?_
                    refine zj_iload_n (zdk ttX11_reads 136 rfl rfl) rfl ?_
                    refine zj_callV (av := [.inl v59]) (st := []) (zdk ttX11_reads 137 rfl rfl) mb_X11_isMarkSign mv_RX11_182 (ci := 11) rfl rfl (k_M s70) rfl rfl (Nat.le_of_ble_eq_true rfl) (s_X11_isMarkSign l h68 v59 s70 (by omega)) (rm_ok (by decide) (by decide)) (zq_i fun v82 h83 q81 => ?_)
                    obtain ⟨rfl, ⟨rfl, b84⟩ | ⟨rfl, b84⟩⟩ := q81
                    · refine zj_if_eq (t := 273) (zdk ttX11_reads 138 rfl rfl) (by decide) (by decide) (fun c85 => ?_) (fun c85 => ?_)
                      · exact absurd c85 (by omega)
                      · refine zj_aload_n (zdk ttX11_reads 139 rfl rfl) rfl (by decide) ?_
                        refine zj_iconst (zdk ttX11_reads 140 rfl rfl) ?_
                        refine zj_puti (zdk ttX11_reads 141 rfl rfl) zf_RX11_166 rfl (k_M s70) (Or.inl zw_RX11_166) (k2 := 14) rfl (fun h86 e87 => ?_)
                        have s88 : okM h86 := fwM_14 s70 e87 (by omega)
                        have b89 : h86.2 0 12 = ((h1.2 0 12) + 1) := (((zwr_r e87 (by first | decide | exact (absurd ·.1 (by decide)) | exact (absurd ·.2 (by decide)) | omega)).trans (zwr_r e69 (by first | decide | exact (absurd ·.1 (by decide)) | exact (absurd ·.2 (by decide)) | omega))).trans (zwr_v e66))
                        have b90 : h86.2 0 13 = (h1.2 0 12) := (((((zwr_r e87 (by first | decide | exact (absurd ·.1 (by decide)) | exact (absurd ·.2 (by decide)) | omega)).trans (zwr_r e69 (by first | decide | exact (absurd ·.1 (by decide)) | exact (absurd ·.2 (by decide)) | omega))).trans (zwr_r e66 (by first | decide | exact (absurd ·.1 (by decide)) | exact (absurd ·.2 (by decide)) | omega))).trans (zwr_r e55 (by first | decide | exact (absurd ·.1 (by decide)) | exact (absurd ·.2 (by decide)) | omega))).trans (zwr_v e52))
                        have b91 : h86.2 0 14 = 4 := (zwr_v e87)
                        have f96 : zfr [12, 13, 14, 15] [] h h51 := zfr_wf f3 e52 rfl
                        have f95 : zfr [12, 13, 14, 15] [] h h54 := zfr_wf f96 e55 rfl
                        have f94 : zfr [12, 13, 14, 15] [] h h65 := zfr_wf f95 e66 rfl
                        have f93 : zfr [12, 13, 14, 15] [] h h68 := zfr_wf f94 e69 rfl
                        have f92 : zfr [12, 13, 14, 15] [] h h86 := zfr_wf f93 e87 rfl
                        exact zj_vret rfl (zdk ttX11_reads 142 rfl rfl) (Nat.le_refl _) (Nat.le_refl _) ⟨rfl, s88, f92, by unfold tok; omega, by omega⟩
                    · refine zj_if_eq (t := 273) (zdk ttX11_reads 138 rfl rfl) (by decide) (by decide) (fun c97 => ?_) (fun c97 => ?_)
                      · have b98 : h68.2 0 12 = ((h1.2 0 12) + 1) := ((zwr_r e69 (by first | decide | exact (absurd ·.1 (by decide)) | exact (absurd ·.2 (by decide)) | omega)).trans (zwr_v e66))
                        have b99 : h68.2 0 13 = (h1.2 0 12) := ((((zwr_r e69 (by first | decide | exact (absurd ·.1 (by decide)) | exact (absurd ·.2 (by decide)) | omega)).trans (zwr_r e66 (by first | decide | exact (absurd ·.1 (by decide)) | exact (absurd ·.2 (by decide)) | omega))).trans (zwr_r e55 (by first | decide | exact (absurd ·.1 (by decide)) | exact (absurd ·.2 (by decide)) | omega))).trans (zwr_v e52))
                        have b100 : h68.2 0 14 = 1 := (((zwr_r e69 (by first | decide | exact (absurd ·.1 (by decide)) | exact (absurd ·.2 (by decide)) | omega)).trans (zwr_r e66 (by first | decide | exact (absurd ·.1 (by decide)) | exact (absurd ·.2 (by decide)) | omega))).trans (zwr_v e55))
                        have f104 : zfr [12, 13, 14, 15] [] h h51 := zfr_wf f3 e52 rfl
                        have f103 : zfr [12, 13, 14, 15] [] h h54 := zfr_wf f104 e55 rfl
                        have f102 : zfr [12, 13, 14, 15] [] h h65 := zfr_wf f103 e66 rfl
                        have f101 : zfr [12, 13, 14, 15] [] h h68 := zfr_wf f102 e69 rfl
                        exact zj_vret rfl (zdk ttX11_reads 142 rfl rfl) (Nat.le_refl _) (Nat.le_refl _) ⟨rfl, s70, f101, by unfold tok; omega, by omega⟩
                      · exact absurd c97 (by omega)
                  · exact absurd c80 (by omega)
                · refine zj_if_eq (t := 260) (zdk ttX11_reads 84 rfl rfl) (by decide) (by decide) (fun c105 => ?_) (fun c105 => ?_)
                  · exact absurd c105 (by omega)
                  · refine zj_aload_n (zdk ttX11_reads 85 rfl rfl) rfl (by decide) ?_
                    refine zj_iload_n (zdk ttX11_reads 86 rfl rfl) rfl ?_
                    refine zj_bipush (zdk ttX11_reads 87 rfl rfl) (by decide) ?_
                    refine zj_isub (zdk ttX11_reads 88 rfl rfl) ?_
                    refine zj_puti (zdk ttX11_reads 89 rfl rfl) zf_RX11_169 rfl (k_M s70) (Or.inl zw_RX11_169) (k2 := 15) rfl (fun h106 e107 => ?_)
                    have lp147 : ∀ (n171 : Nat) (h108 : zM), okM h108 → zfr [12, 13, 14, 15] [] h h108 → (h.2 0 12 ≤ h108.2 0 13) → (h108.2 0 13 + 1 ≤ h108.2 0 12) → (400 - (h108.2 0 12)).toNat < n171 → zJ shM l yX11_reads cX11_reads 2 none (rmL 3) 0 0 (q_X11_reads h) 0 0 171 [some (.inr 0), some (.inl v59)] [] h108 := by
                      intro n171
                      induction n171 with
                      | zero => intro h108 s109 f110 u148 u149 m150; exact absurd m150 (Nat.not_lt_zero _)
                      | succ n171 ih151 =>
                        intro h108 s109 f110 u148 u149 m150
                        refine zj_aload_n (zdk ttX11_reads 90 rfl rfl) rfl (by decide) ?_
                        refine zj_aload_n (zdk ttX11_reads 91 rfl rfl) rfl (by decide) ?_
                        refine zj_aload_n (zdk ttX11_reads 92 rfl rfl) rfl (by decide) ?_
                        have b152 : 0 ≤ (h108.2 0 12) ∧ (h108.2 0 12) ≤ 400 := fM_12 s109
                        refine zj_geti (v := (h108.2 0 12)) (zdk ttX11_reads 93 rfl rfl) zf_RX11_156 rfl (k_M s109) rfl ?_
                        have b153 : h108.2 7 (h108.2 0 12) = h.2 7 (h108.2 0 12) := (zfr_a f110 rfl (by decide))
                        refine zj_callV (av := [.inl (h108.2 0 12)]) (st := [.inr 0]) (zdk ttX11_reads 94 rfl rfl) mb_X11_raw mv_RX11_159 (ci := 11) rfl rfl (k_M s109) rfl rfl (Nat.le_of_ble_eq_true rfl) (s_X11_raw l h108 (h108.2 0 12) s109 (by omega)) (rm_ok (by decide) (by decide)) (zq_i fun v155 h156 q154 => ?_)
                        obtain ⟨rfl, b158, b157⟩ := q154
                        have b159 : -1 ≤ v155 ∧ v155 ≤ 255 := by omega
                        refine zj_callV (av := [.inl v155]) (st := []) (zdk ttX11_reads 95 rfl rfl) mb_X11_isDigit mv_RX11_179 (ci := 11) rfl rfl (k_M s109) rfl rfl (Nat.le_of_ble_eq_true rfl) (s_X11_isDigit l h108 v155 s109 (by omega)) (rm_ok (by decide) (by decide)) (zq_i fun v161 h162 q160 => ?_)
                        obtain ⟨rfl, ⟨rfl, b163⟩ | ⟨rfl, b163⟩⟩ := q160
                        · refine zj_if_eq (t := 239) (zdk ttX11_reads 96 rfl rfl) (by decide) (by decide) (fun c164 => ?_) (fun c164 => ?_)
                          · refine zj_aload_n (zdk ttX11_reads 124 rfl rfl) rfl (by decide) ?_
                            refine zj_geti (v := (h108.2 0 12)) (zdk ttX11_reads 125 rfl rfl) zf_RX11_156 rfl (k_M s109) rfl ?_
                            refine zj_aload_n (zdk ttX11_reads 126 rfl rfl) rfl (by decide) ?_
                            have b165 : 0 ≤ (h108.2 0 13) ∧ (h108.2 0 13) ≤ 400 := fM_13 s109
                            refine zj_geti (v := (h108.2 0 13)) (zdk ttX11_reads 127 rfl rfl) zf_RX11_163 rfl (k_M s109) rfl ?_
                            refine zj_isub (zdk ttX11_reads 128 rfl rfl) ?_
                            refine zj_iconst (zdk ttX11_reads 129 rfl rfl) ?_
                            refine zj_icmp_ge (t := 273) (zdk ttX11_reads 130 rfl rfl) (by decide) (by omega) (by decide) (fun c166 => ?_) (fun c166 => ?_)
                            · have b167 : 0 ≤ (h108.2 0 14) ∧ (h108.2 0 14) ≤ 4 := fM_14 s109
                              exact zj_vret rfl (zdk ttX11_reads 142 rfl rfl) (Nat.le_refl _) (Nat.le_refl _) ⟨rfl, s109, f110, by unfold tok; omega, by omega⟩
                            · refine zj_aload_n (zdk ttX11_reads 131 rfl rfl) rfl (by decide) ?_
                              refine zj_iconst (zdk ttX11_reads 132 rfl rfl) ?_
                              refine zj_puti (zdk ttX11_reads 133 rfl rfl) zf_RX11_166 rfl (k_M s109) (Or.inl zw_RX11_166) (k2 := 14) rfl (fun h168 e169 => ?_)
                              refine zj_goto (t := 273) (zdk ttX11_reads 134 rfl rfl) (by decide) ?_
                              have s170 : okM h168 := fwM_14 s109 e169 (by omega)
                              have b171 : h168.2 0 12 = (h108.2 0 12) := (zwr_r e169 (by first | decide | exact (absurd ·.1 (by decide)) | exact (absurd ·.2 (by decide)) | omega))
                              have b172 : h168.2 0 13 = (h108.2 0 13) := (zwr_r e169 (by first | decide | exact (absurd ·.1 (by decide)) | exact (absurd ·.2 (by decide)) | omega))
                              have b173 : h168.2 0 14 = 3 := (zwr_v e169)
                              have f174 : zfr [12, 13, 14, 15] [] h h168 := zfr_wf f110 e169 rfl
                              exact zj_vret rfl (zdk ttX11_reads 142 rfl rfl) (Nat.le_refl _) (Nat.le_refl _) ⟨rfl, s170, f174, by unfold tok; omega, by omega⟩
                          · exact absurd c164 (by omega)
                        · refine zj_if_eq (t := 239) (zdk ttX11_reads 96 rfl rfl) (by decide) (by decide) (fun c175 => ?_) (fun c175 => ?_)
                          · exact absurd c175 (by omega)
                          · refine zj_aload_n (zdk ttX11_reads 97 rfl rfl) rfl (by decide) ?_
                            refine zj_aload_n (zdk ttX11_reads 98 rfl rfl) rfl (by decide) ?_
                            have b176 : -2147483648 ≤ (h108.2 0 15) ∧ (h108.2 0 15) ≤ 2147483647 := fM_15 s109
                            refine zj_geti (v := (h108.2 0 15)) (zdk ttX11_reads 99 rfl rfl) zf_RX11_169 rfl (k_M s109) rfl ?_
                            refine zj_sipush (zdk ttX11_reads 100 rfl rfl) (by decide) ?_
                            refine zj_icmp_ge (t := 219) (zdk ttX11_reads 101 rfl rfl) (by decide) (by omega) (by decide) (fun c177 => ?_) (fun c177 => ?_)
                            · refine zj_aload_n (zdk ttX11_reads 114 rfl rfl) rfl (by decide) ?_
                              refine zj_geti (v := (h108.2 0 15)) (zdk ttX11_reads 115 rfl rfl) zf_RX11_169 rfl (k_M s109) rfl ?_
                              refine zj_puti (zdk ttX11_reads 116 rfl rfl) zf_RX11_169 rfl (k_M s109) (Or.inl zw_RX11_169) (k2 := 15) rfl (fun h178 e179 => ?_)
                              refine zj_aload_n (zdk ttX11_reads 117 rfl rfl) rfl (by decide) ?_
                              refine zj_aload_n (zdk ttX11_reads 118 rfl rfl) rfl (by decide) ?_
                              have s180 : okM h178 := fwM_15 s109 e179 (by omega)
                              refine zj_geti (v := (h108.2 0 12)) (zdk ttX11_reads 119 rfl rfl) zf_RX11_156 rfl (k_M s180) (zwr_r e179 (by first | decide | exact (absurd ·.1 (by decide)) | exact (absurd ·.2 (by decide)) | omega)) ?_
                              refine zj_iconst (zdk ttX11_reads 120 rfl rfl) ?_
                              refine zj_iadd (zdk ttX11_reads 121 rfl rfl) ?_
                              refine zj_puti (zdk ttX11_reads 122 rfl rfl) zf_RX11_156 rfl (k_M s180) (Or.inl zw_RX11_156) (k2 := 12) rfl (fun h181 e182 => ?_)
                              refine zj_goto (t := 171) (zdk ttX11_reads 123 rfl rfl) (by decide) ?_
                              have b183 : h181.2 0 12 = ((h108.2 0 12) + 1) := (zwr_v e182)
                              have b184 : h181.2 0 13 = (h108.2 0 13) := ((zwr_r e182 (by first | decide | exact (absurd ·.1 (by decide)) | exact (absurd ·.2 (by decide)) | omega)).trans (zwr_r e179 (by first | decide | exact (absurd ·.1 (by decide)) | exact (absurd ·.2 (by decide)) | omega)))
                              have b185 : 0 ≤ (h108.2 0 13) ∧ (h108.2 0 13) ≤ 400 := fM_13 s109
                              have s186 : okM h181 := fwM_12 s180 e182 (by omega)
                              have f188 : zfr [12, 13, 14, 15] [] h h178 := zfr_wf f110 e179 rfl
                              have f187 : zfr [12, 13, 14, 15] [] h h181 := zfr_wf f188 e182 rfl
                              exact ih151  h181 s186 f187 (by omega) (by omega) (by omega)
                            · refine zj_bipush (zdk ttX11_reads 102 rfl rfl) (by decide) ?_
                              refine zj_aload_n (zdk ttX11_reads 103 rfl rfl) rfl (by decide) ?_
                              refine zj_geti (v := (h108.2 0 15)) (zdk ttX11_reads 104 rfl rfl) zf_RX11_169 rfl (k_M s109) rfl ?_
                              refine zj_imul (zdk ttX11_reads 105 rfl rfl) ?_
                              refine zj_wrap ?_
                              have b189 := zwp_in (10 * (h108.2 0 15))
                              refine zj_aload_n (zdk ttX11_reads 106 rfl rfl) rfl (by decide) ?_
                              refine zj_aload_n (zdk ttX11_reads 107 rfl rfl) rfl (by decide) ?_
                              refine zj_geti (v := (h108.2 0 12)) (zdk ttX11_reads 108 rfl rfl) zf_RX11_156 rfl (k_M s109) rfl ?_
                              have b190 : h108.2 7 (h108.2 0 12) = h.2 7 (h108.2 0 12) := (zfr_a f110 rfl (by decide))
                              refine zj_callV (av := [.inl (h108.2 0 12)]) (st := [.inl (zwp (10 * (h108.2 0 15))), .inr 0]) (zdk ttX11_reads 109 rfl rfl) mb_X11_raw mv_RX11_159 (ci := 11) rfl rfl (k_M s109) rfl rfl (Nat.le_of_ble_eq_true rfl) (s_X11_raw l h108 (h108.2 0 12) s109 (by omega)) (rm_ok (by decide) (by decide)) (zq_i fun v192 h193 q191 => ?_)
                              obtain ⟨rfl, b195, b194⟩ := q191
                              have b196 : -1 ≤ v192 ∧ v192 ≤ 255 := by omega
                              refine zj_iadd (zdk ttX11_reads 110 rfl rfl) ?_
                              refine zj_wrap ?_
                              have b197 := zwp_in ((zwp (10 * (h108.2 0 15))) + v192)
                              refine zj_bipush (zdk ttX11_reads 111 rfl rfl) (by decide) ?_
                              refine zj_isub (zdk ttX11_reads 112 rfl rfl) ?_
                              refine zj_wrap ?_
                              have b198 := zwp_in ((zwp ((zwp (10 * (h108.2 0 15))) + v192)) - 48)
                              refine zj_goto (t := 223) (zdk ttX11_reads 113 rfl rfl) (by decide) ?_
                              refine zj_puti (zdk ttX11_reads 116 rfl rfl) zf_RX11_169 rfl (k_M s109) (Or.inl zw_RX11_169) (k2 := 15) rfl (fun h199 e200 => ?_)
                              refine zj_aload_n (zdk ttX11_reads 117 rfl rfl) rfl (by decide) ?_
                              refine zj_aload_n (zdk ttX11_reads 118 rfl rfl) rfl (by decide) ?_
                              have s201 : okM h199 := fwM_15 s109 e200 (by omega)
                              refine zj_geti (v := (h108.2 0 12)) (zdk ttX11_reads 119 rfl rfl) zf_RX11_156 rfl (k_M s201) (zwr_r e200 (by first | decide | exact (absurd ·.1 (by decide)) | exact (absurd ·.2 (by decide)) | omega)) ?_
                              refine zj_iconst (zdk ttX11_reads 120 rfl rfl) ?_
                              refine zj_iadd (zdk ttX11_reads 121 rfl rfl) ?_
                              refine zj_puti (zdk ttX11_reads 122 rfl rfl) zf_RX11_156 rfl (k_M s201) (Or.inl zw_RX11_156) (k2 := 12) rfl (fun h202 e203 => ?_)
                              refine zj_goto (t := 171) (zdk ttX11_reads 123 rfl rfl) (by decide) ?_
                              have b204 : h202.2 0 12 = ((h108.2 0 12) + 1) := (zwr_v e203)
                              have b205 : h202.2 0 13 = (h108.2 0 13) := ((zwr_r e203 (by first | decide | exact (absurd ·.1 (by decide)) | exact (absurd ·.2 (by decide)) | omega)).trans (zwr_r e200 (by first | decide | exact (absurd ·.1 (by decide)) | exact (absurd ·.2 (by decide)) | omega)))
                              have b206 : 0 ≤ (h108.2 0 13) ∧ (h108.2 0 13) ≤ 400 := fM_13 s109
                              have s207 : okM h202 := fwM_12 s201 e203 (by omega)
                              have f209 : zfr [12, 13, 14, 15] [] h h199 := zfr_wf f110 e200 rfl
                              have f208 : zfr [12, 13, 14, 15] [] h h202 := zfr_wf f209 e203 rfl
                              exact ih151  h202 s207 f208 (by omega) (by omega) (by omega)
                    have b210 : h106.2 0 12 = ((h1.2 0 12) + 1) := (((zwr_r e107 (by first | decide | exact (absurd ·.1 (by decide)) | exact (absurd ·.2 (by decide)) | omega)).trans (zwr_r e69 (by first | decide | exact (absurd ·.1 (by decide)) | exact (absurd ·.2 (by decide)) | omega))).trans (zwr_v e66))
                    have b211 : h106.2 0 13 = (h1.2 0 12) := (((((zwr_r e107 (by first | decide | exact (absurd ·.1 (by decide)) | exact (absurd ·.2 (by decide)) | omega)).trans (zwr_r e69 (by first | decide | exact (absurd ·.1 (by decide)) | exact (absurd ·.2 (by decide)) | omega))).trans (zwr_r e66 (by first | decide | exact (absurd ·.1 (by decide)) | exact (absurd ·.2 (by decide)) | omega))).trans (zwr_r e55 (by first | decide | exact (absurd ·.1 (by decide)) | exact (absurd ·.2 (by decide)) | omega))).trans (zwr_v e52))
                    have s212 : okM h106 := fwM_15 s70 e107 (by omega)
                    have f217 : zfr [12, 13, 14, 15] [] h h51 := zfr_wf f3 e52 rfl
                    have f216 : zfr [12, 13, 14, 15] [] h h54 := zfr_wf f217 e55 rfl
                    have f215 : zfr [12, 13, 14, 15] [] h h65 := zfr_wf f216 e66 rfl
                    have f214 : zfr [12, 13, 14, 15] [] h h68 := zfr_wf f215 e69 rfl
                    have f213 : zfr [12, 13, 14, 15] [] h h106 := zfr_wf f214 e107 rfl
                    exact lp147 _ h106 s212 f213 (by omega) (by omega) (Nat.lt_succ_self _)
              · exact absurd c75 (by omega)
            · refine zj_if_eq (t := 155) (zdk ttX11_reads 50 rfl rfl) (by decide) (by decide) (fun c218 => ?_) (fun c218 => ?_)
              · exact absurd c218 (by omega)
              · have lp238 : ∀ (n95 : Nat) (h219 : zM), okM h219 → zfr [12, 13, 14, 15] [] h h219 → (h.2 0 12 ≤ h219.2 0 13) → (h219.2 0 13 + 1 ≤ h219.2 0 12) → (∀ j, h219.2 0 13 ≤ j → j < h219.2 0 12 → ¬ h.2 7 j = 32) → (400 - (h219.2 0 12)).toNat < n95 → zJ shM l yX11_reads cX11_reads 2 none (rmL 3) 0 0 (q_X11_reads h) 0 0 95 [some (.inr 0), some (.inl v59)] [] h219 := by
                  intro n95
                  induction n95 with
                  | zero => intro h219 s220 f221 u239 u240 u241 m242; exact absurd m242 (Nat.not_lt_zero _)
                  | succ n95 ih243 =>
                    intro h219 s220 f221 u239 u240 u241 m242
                    refine zj_aload_n (zdk ttX11_reads 51 rfl rfl) rfl (by decide) ?_
                    refine zj_aload_n (zdk ttX11_reads 52 rfl rfl) rfl (by decide) ?_
                    refine zj_aload_n (zdk ttX11_reads 53 rfl rfl) rfl (by decide) ?_
                    have b244 : 0 ≤ (h219.2 0 12) ∧ (h219.2 0 12) ≤ 400 := fM_12 s220
                    refine zj_geti (v := (h219.2 0 12)) (zdk ttX11_reads 54 rfl rfl) zf_RX11_156 rfl (k_M s220) rfl ?_
                    have b245 : h219.2 7 (h219.2 0 12) = h.2 7 (h219.2 0 12) := (zfr_a f221 rfl (by decide))
                    refine zj_callV (av := [.inl (h219.2 0 12)]) (st := [.inr 0]) (zdk ttX11_reads 55 rfl rfl) mb_X11_raw mv_RX11_159 (ci := 11) rfl rfl (k_M s220) rfl rfl (Nat.le_of_ble_eq_true rfl) (s_X11_raw l h219 (h219.2 0 12) s220 (by omega)) (rm_ok (by decide) (by decide)) (zq_i fun v247 h248 q246 => ?_)
                    obtain ⟨rfl, b250, b249⟩ := q246
                    have b251 : -1 ≤ v247 ∧ v247 ≤ 255 := by omega
                    refine zj_callV (av := [.inl v247]) (st := []) (zdk ttX11_reads 56 rfl rfl) mb_X11_isLetter mv_RX11_172 (ci := 11) rfl rfl (k_M s220) rfl rfl (Nat.le_of_ble_eq_true rfl) (s_X11_isLetter l h219 v247 s220 (by omega)) (rm_ok (by decide) (by decide)) (zq_i fun v253 h254 q252 => ?_)
                    obtain ⟨rfl, ⟨rfl, b255⟩ | ⟨rfl, b255⟩⟩ := q252
                    · refine zj_if_eq (t := 123) (zdk ttX11_reads 57 rfl rfl) (by decide) (by decide) (fun c256 => ?_) (fun c256 => ?_)
                      · refine zj_aload_n (zdk ttX11_reads 65 rfl rfl) rfl (by decide) ?_
                        refine zj_aload_n (zdk ttX11_reads 66 rfl rfl) rfl (by decide) ?_
                        refine zj_aload_n (zdk ttX11_reads 67 rfl rfl) rfl (by decide) ?_
                        have b257 : 0 ≤ (h219.2 0 13) ∧ (h219.2 0 13) ≤ 400 := fM_13 s220
                        refine zj_geti (v := (h219.2 0 13)) (zdk ttX11_reads 68 rfl rfl) zf_RX11_163 rfl (k_M s220) rfl ?_
                        refine zj_aload_n (zdk ttX11_reads 69 rfl rfl) rfl (by decide) ?_
                        refine zj_geti (v := (h219.2 0 12)) (zdk ttX11_reads 70 rfl rfl) zf_RX11_156 rfl (k_M s220) rfl ?_
                        refine zj_callV (av := [.inl (h219.2 0 13), .inl (h219.2 0 12)]) (st := [.inr 0]) (zdk ttX11_reads 71 rfl rfl) mb_X11_wordAt mv_RX11_175 (ci := 11) rfl rfl (k_M s220) rfl rfl (Nat.le_of_ble_eq_true rfl) (s_X11_wordAt l h219 (h219.2 0 13) (h219.2 0 12) s220 (by omega) (by omega) (fun j q1 q2 => by rw [(zfr_a f221 rfl (by decide))]; exact u241 j (by omega) (by omega))) (rm_ok (by decide) (by decide)) (zq_i fun v259 h260 q258 => ?_)
                        obtain ⟨rfl, b261⟩ := q258
                        refine zj_puti (zdk ttX11_reads 72 rfl rfl) zf_RX11_169 rfl (k_M s220) (Or.inl zw_RX11_169) (k2 := 15) rfl (fun h262 e263 => ?_)
                        refine zj_aload_n (zdk ttX11_reads 73 rfl rfl) rfl (by decide) ?_
                        have s264 : okM h262 := fwM_15 s220 e263 (by omega)
                        refine zj_geti (v := v259) (zdk ttX11_reads 74 rfl rfl) zf_RX11_169 rfl (k_M s264) (zwr_v e263) ?_
                        refine zj_iconst (zdk ttX11_reads 75 rfl rfl) ?_
                        refine zj_icmp_eq (t := 273) (zdk ttX11_reads 76 rfl rfl) (by decide) (by omega) (by decide) (fun c265 => ?_) (fun c265 => ?_)
                        · have b266 : h262.2 0 12 = (h219.2 0 12) := (zwr_r e263 (by first | decide | exact (absurd ·.1 (by decide)) | exact (absurd ·.2 (by decide)) | omega))
                          have b267 : h262.2 0 13 = (h219.2 0 13) := (zwr_r e263 (by first | decide | exact (absurd ·.1 (by decide)) | exact (absurd ·.2 (by decide)) | omega))
                          have b268 : h262.2 0 14 = (h219.2 0 14) := (zwr_r e263 (by first | decide | exact (absurd ·.1 (by decide)) | exact (absurd ·.2 (by decide)) | omega))
                          have b269 : 0 ≤ (h219.2 0 14) ∧ (h219.2 0 14) ≤ 4 := fM_14 s220
                          have f270 : zfr [12, 13, 14, 15] [] h h262 := zfr_wf f221 e263 rfl
                          exact zj_vret rfl (zdk ttX11_reads 142 rfl rfl) (Nat.le_refl _) (Nat.le_refl _) ⟨rfl, s264, f270, by unfold tok; omega, by omega⟩
                        · refine zj_aload_n (zdk ttX11_reads 77 rfl rfl) rfl (by decide) ?_
                          refine zj_iconst (zdk ttX11_reads 78 rfl rfl) ?_
                          refine zj_puti (zdk ttX11_reads 79 rfl rfl) zf_RX11_166 rfl (k_M s264) (Or.inl zw_RX11_166) (k2 := 14) rfl (fun h271 e272 => ?_)
                          refine zj_goto (t := 273) (zdk ttX11_reads 80 rfl rfl) (by decide) ?_
                          have s273 : okM h271 := fwM_14 s264 e272 (by omega)
                          have b274 : h271.2 0 12 = (h219.2 0 12) := ((zwr_r e272 (by first | decide | exact (absurd ·.1 (by decide)) | exact (absurd ·.2 (by decide)) | omega)).trans (zwr_r e263 (by first | decide | exact (absurd ·.1 (by decide)) | exact (absurd ·.2 (by decide)) | omega)))
                          have b275 : h271.2 0 13 = (h219.2 0 13) := ((zwr_r e272 (by first | decide | exact (absurd ·.1 (by decide)) | exact (absurd ·.2 (by decide)) | omega)).trans (zwr_r e263 (by first | decide | exact (absurd ·.1 (by decide)) | exact (absurd ·.2 (by decide)) | omega)))
                          have b276 : h271.2 0 14 = 2 := (zwr_v e272)
                          have f278 : zfr [12, 13, 14, 15] [] h h262 := zfr_wf f221 e263 rfl
                          have f277 : zfr [12, 13, 14, 15] [] h h271 := zfr_wf f278 e272 rfl
                          exact zj_vret rfl (zdk ttX11_reads 142 rfl rfl) (Nat.le_refl _) (Nat.le_refl _) ⟨rfl, s273, f277, by unfold tok; omega, by omega⟩
                      · exact absurd c256 (by omega)
                    · refine zj_if_eq (t := 123) (zdk ttX11_reads 57 rfl rfl) (by decide) (by decide) (fun c279 => ?_) (fun c279 => ?_)
                      · exact absurd c279 (by omega)
                      · refine zj_aload_n (zdk ttX11_reads 58 rfl rfl) rfl (by decide) ?_
                        refine zj_aload_n (zdk ttX11_reads 59 rfl rfl) rfl (by decide) ?_
                        refine zj_geti (v := (h219.2 0 12)) (zdk ttX11_reads 60 rfl rfl) zf_RX11_156 rfl (k_M s220) rfl ?_
                        refine zj_iconst (zdk ttX11_reads 61 rfl rfl) ?_
                        refine zj_iadd (zdk ttX11_reads 62 rfl rfl) ?_
                        refine zj_puti (zdk ttX11_reads 63 rfl rfl) zf_RX11_156 rfl (k_M s220) (Or.inl zw_RX11_156) (k2 := 12) rfl (fun h280 e281 => ?_)
                        refine zj_goto (t := 95) (zdk ttX11_reads 64 rfl rfl) (by decide) ?_
                        have b282 : h280.2 0 12 = ((h219.2 0 12) + 1) := (zwr_v e281)
                        have b283 : h280.2 0 13 = (h219.2 0 13) := (zwr_r e281 (by first | decide | exact (absurd ·.1 (by decide)) | exact (absurd ·.2 (by decide)) | omega))
                        have b284 : 0 ≤ (h219.2 0 13) ∧ (h219.2 0 13) ≤ 400 := fM_13 s220
                        have s285 : okM h280 := fwM_12 s220 e281 (by omega)
                        have f286 : zfr [12, 13, 14, 15] [] h h280 := zfr_wf f221 e281 rfl
                        exact ih243  h280 s285 f286 (by omega) (by omega) (fun j q1 q2 => (Classical.em (j = (h219.2 0 12))).elim (fun q => by rw [q]; omega) (fun q => u241 j (by omega) (by omega))) (by omega)
                have b287 : h68.2 0 12 = ((h1.2 0 12) + 1) := ((zwr_r e69 (by first | decide | exact (absurd ·.1 (by decide)) | exact (absurd ·.2 (by decide)) | omega)).trans (zwr_v e66))
                have b288 : h68.2 0 13 = (h1.2 0 12) := ((((zwr_r e69 (by first | decide | exact (absurd ·.1 (by decide)) | exact (absurd ·.2 (by decide)) | omega)).trans (zwr_r e66 (by first | decide | exact (absurd ·.1 (by decide)) | exact (absurd ·.2 (by decide)) | omega))).trans (zwr_r e55 (by first | decide | exact (absurd ·.1 (by decide)) | exact (absurd ·.2 (by decide)) | omega))).trans (zwr_v e52))
                have f292 : zfr [12, 13, 14, 15] [] h h51 := zfr_wf f3 e52 rfl
                have f291 : zfr [12, 13, 14, 15] [] h h54 := zfr_wf f292 e55 rfl
                have f290 : zfr [12, 13, 14, 15] [] h h65 := zfr_wf f291 e66 rfl
                have f289 : zfr [12, 13, 14, 15] [] h h68 := zfr_wf f290 e69 rfl
                exact lp238 _ h68 s70 f289 (by omega) (by omega) (fun j q1 q2 => by rw [show j = (h1.2 0 12) by omega]; omega) (Nat.lt_succ_self _)
          · refine zj_aload_n (zdk ttX11_reads 34 rfl rfl) rfl (by decide) ?_
            refine zj_iconst (zdk ttX11_reads 35 rfl rfl) ?_
            refine zj_puti (zdk ttX11_reads 36 rfl rfl) zf_RX11_166 rfl (k_M s56) (Or.inl zw_RX11_166) (k2 := 14) rfl (fun h293 e294 => ?_)
            have s295 : okM h293 := fwM_14 s56 e294 (by omega)
            have b296 : h293.2 0 12 = (h1.2 0 12) := (((zwr_r e294 (by first | decide | exact (absurd ·.1 (by decide)) | exact (absurd ·.2 (by decide)) | omega)).trans (zwr_r e55 (by first | decide | exact (absurd ·.1 (by decide)) | exact (absurd ·.2 (by decide)) | omega))).trans (zwr_r e52 (by first | decide | exact (absurd ·.1 (by decide)) | exact (absurd ·.2 (by decide)) | omega)))
            have b297 : h293.2 0 13 = (h1.2 0 12) := (((zwr_r e294 (by first | decide | exact (absurd ·.1 (by decide)) | exact (absurd ·.2 (by decide)) | omega)).trans (zwr_r e55 (by first | decide | exact (absurd ·.1 (by decide)) | exact (absurd ·.2 (by decide)) | omega))).trans (zwr_v e52))
            have b298 : h293.2 0 14 = 0 := (zwr_v e294)
            have f301 : zfr [12, 13, 14, 15] [] h h51 := zfr_wf f3 e52 rfl
            have f300 : zfr [12, 13, 14, 15] [] h h54 := zfr_wf f301 e55 rfl
            have f299 : zfr [12, 13, 14, 15] [] h h293 := zfr_wf f300 e294 rfl
            exact zj_vret rfl (zdk ttX11_reads 37 rfl rfl) (Nat.le_refl _) (Nat.le_refl _) ⟨rfl, s295, f299, by unfold tok; omega, by omega⟩
        · refine zj_aload_n (zdk ttX11_reads 12 rfl rfl) rfl (by decide) ?_
          refine zj_aload_n (zdk ttX11_reads 13 rfl rfl) rfl (by decide) ?_
          refine zj_geti (v := (h1.2 0 12)) (zdk ttX11_reads 14 rfl rfl) zf_RX11_156 rfl (k_M s2) rfl ?_
          refine zj_iconst (zdk ttX11_reads 15 rfl rfl) ?_
          refine zj_iadd (zdk ttX11_reads 16 rfl rfl) ?_
          refine zj_puti (zdk ttX11_reads 17 rfl rfl) zf_RX11_156 rfl (k_M s2) (Or.inl zw_RX11_156) (k2 := 12) rfl (fun h302 e303 => ?_)
          refine zj_goto (t := 0) (zdk ttX11_reads 18 rfl rfl) (by decide) ?_
          have b304 : h302.2 0 12 = ((h1.2 0 12) + 1) := (zwr_v e303)
          have s305 : okM h302 := fwM_12 s2 e303 (by omega)
          have f306 : zfr [12, 13, 14, 15] [] h h302 := zfr_wf f3 e303 rfl
          exact ih28  h302 s305 f306 (by omega) (by omega)
  have b307 : 0 ≤ (h.2 0 12) ∧ (h.2 0 12) ≤ 400 := fM_12 s0
  exact lp25 _ h s0 (zfr_r _ _ _) (by omega) (Nat.lt_succ_self _)

abbrev tX11_readNumber : List (Nat × Instr × Nat) := [(0, .aload_n 0, 1), (1, .getfield 166, 3), (4, .iconst 3, 1), (5, .if_icmp .eq 9, 3), (8, .aload_n 0, 1), (9, .iconst 1, 1), (10, .invokevirtual 197, 3), (13, .ireturn, 1), (14, .aload_n 0, 1), (15, .aload_n 0, 1), (16, .getfield 169, 3), (19, .iload_n 1, 1), (20, .iload_n 2, 1), (21, .invokevirtual 139, 3), (24, .ifCond .ne 9, 3), (27, .aload_n 0, 1), (28, .iconst 2, 1), (29, .invokevirtual 197, 3), (32, .ireturn, 1), (33, .aload_n 0, 1), (34, .getfield 169, 3), (37, .istore_n 3, 1), (38, .aload_n 0, 1), (39, .invokevirtual 204, 3), (42, .iload_n 3, 1), (43, .ireturn, 1)]
theorem ttX11_readNumber : zdt cX11_readNumber tX11_readNumber = true := by decide +kernel
abbrev q_X11_readNumber (h : zM) (p1 : Int) (p2 : Int) : Option zV → zM → Prop := zqi fun v h' => ((-2147483648) ≤ v ∧ v ≤ 2147483647) ∧ okM h' ∧ zfr [12, 13, 14, 15, 29, 30] [] h h' ∧ (v = -1 ∨ (p1 ≤ v ∧ v ≤ p2))
set_option maxRecDepth 100000 in
set_option maxHeartbeats 4000000 in
theorem s_X11_readNumber (l : Launch) (h : zM) (p1 : Int) (p2 : Int) (s0 : okM h) (b_p1 : (-2147483648) ≤ p1 ∧ p1 ≤ 2147483647) (b_p2 : (-2147483648) ≤ p2 ∧ p2 ≤ 2147483647) : zT shM l yX11_readNumber cX11_readNumber 4 (some .int) (rmL 4) 0 0 [.inr 0, .inl p1, .inl p2] h (q_X11_readNumber h p1 p2) := by
  refine zT_of (by decide +kernel) (L0 := [some (.inr 0), some (.inl p1), some (.inl p2), none]) rfl (Nat.le_of_ble_eq_true rfl) ?_
  refine zj_aload_n (zdk ttX11_readNumber 0 rfl rfl) rfl (by decide) ?_
  have b1 : 0 ≤ (h.2 0 14) ∧ (h.2 0 14) ≤ 4 := fM_14 s0
  refine zj_geti (v := (h.2 0 14)) (zdk ttX11_readNumber 1 rfl rfl) zf_RX11_166 rfl (k_M s0) rfl ?_
  refine zj_iconst (zdk ttX11_readNumber 2 rfl rfl) ?_
  refine zj_icmp_eq (t := 14) (zdk ttX11_readNumber 3 rfl rfl) (by decide) (by omega) (by decide) (fun c2 => ?_) (fun c2 => ?_)
  · refine zj_aload_n (zdk ttX11_readNumber 8 rfl rfl) rfl (by decide) ?_
    refine zj_aload_n (zdk ttX11_readNumber 9 rfl rfl) rfl (by decide) ?_
    have b3 : -2147483648 ≤ (h.2 0 15) ∧ (h.2 0 15) ≤ 2147483647 := fM_15 s0
    refine zj_geti (v := (h.2 0 15)) (zdk ttX11_readNumber 10 rfl rfl) zf_RX11_169 rfl (k_M s0) rfl ?_
    refine zj_iload_n (zdk ttX11_readNumber 11 rfl rfl) rfl ?_
    refine zj_iload_n (zdk ttX11_readNumber 12 rfl rfl) rfl ?_
    refine zj_callV (av := [.inl (h.2 0 15), .inl p1, .inl p2]) (st := []) (zdk ttX11_readNumber 13 rfl rfl) mb_X11_isIn mv_RX11_139 (ci := 11) rfl rfl (k_M s0) rfl rfl (Nat.le_of_ble_eq_true rfl) (s_X11_isIn l h (h.2 0 15) p1 p2 s0 (by omega) (by omega) (by omega)) (rm_ok (by decide) (by decide)) (zq_i fun v5 h6 q4 => ?_)
    obtain ⟨rfl, ⟨rfl, b7⟩ | ⟨rfl, b7⟩⟩ := q4
    · refine zj_if_ne (t := 33) (zdk ttX11_readNumber 14 rfl rfl) (by decide) (by decide) (fun c8 => ?_) (fun c8 => ?_)
      · exact absurd c8 (by omega)
      · refine zj_aload_n (zdk ttX11_readNumber 15 rfl rfl) rfl (by decide) ?_
        refine zj_iconst (zdk ttX11_readNumber 16 rfl rfl) ?_
        refine zj_callV (av := [.inl 2]) (st := []) (zdk ttX11_readNumber 17 rfl rfl) mb_X11_errs mv_RX11_197 (ci := 11) rfl rfl (k_M s0) rfl rfl (Nat.le_of_ble_eq_true rfl) (s_X11_errs l h 2 s0 (by omega)) (rm_ok (by decide) (by decide)) (zq_i fun v10 h11 q9 => ?_)
        obtain ⟨b12, s13, f14⟩ := q9
        have f15 : zfr [12, 13, 14, 15, 29, 30] [] h h11 := zfr_t (zfr_r _ _ _) f14 rfl rfl
        exact zj_iret rfl (zdk ttX11_readNumber 18 rfl rfl) (Nat.le_refl _) (Nat.le_refl _) ⟨v10, rfl, by omega, s13, f15, by omega⟩
    · refine zj_if_ne (t := 33) (zdk ttX11_readNumber 14 rfl rfl) (by decide) (by decide) (fun c16 => ?_) (fun c16 => ?_)
      · refine zj_aload_n (zdk ttX11_readNumber 19 rfl rfl) rfl (by decide) ?_
        refine zj_geti (v := (h.2 0 15)) (zdk ttX11_readNumber 20 rfl rfl) zf_RX11_169 rfl (k_M s0) rfl ?_
        refine zj_istore_n (L' := [some (.inr 0), some (.inl p1), some (.inl p2), some (.inl (h.2 0 15))]) (zdk ttX11_readNumber 21 rfl rfl) (by decide) rfl ?_
        refine zj_aload_n (zdk ttX11_readNumber 22 rfl rfl) rfl (by decide) ?_
        refine zj_callV (av := []) (st := []) (zdk ttX11_readNumber 23 rfl rfl) mb_X11_reads mv_RX11_204 (ci := 11) rfl rfl (k_M s0) rfl rfl (Nat.le_of_ble_eq_true rfl) (s_X11_reads l h s0) (rm_ok (by decide) (by decide)) (zq_v fun h19 q17 => ?_)
        obtain ⟨s21, f24, u22, u23⟩ := q17
        refine zj_iload_n (zdk ttX11_readNumber 24 rfl rfl) rfl ?_
        have f25 : zfr [12, 13, 14, 15, 29, 30] [] h h19 := zfr_t (zfr_r _ _ _) f24 rfl rfl
        exact zj_iret rfl (zdk ttX11_readNumber 25 rfl rfl) (Nat.le_refl _) (Nat.le_refl _) ⟨(h.2 0 15), rfl, by omega, s21, f25, by omega⟩
      · exact absurd c16 (by omega)
  · refine zj_aload_n (zdk ttX11_readNumber 4 rfl rfl) rfl (by decide) ?_
    refine zj_iconst (zdk ttX11_readNumber 5 rfl rfl) ?_
    refine zj_callV (av := [.inl 1]) (st := []) (zdk ttX11_readNumber 6 rfl rfl) mb_X11_errs mv_RX11_197 (ci := 11) rfl rfl (k_M s0) rfl rfl (Nat.le_of_ble_eq_true rfl) (s_X11_errs l h 1 s0 (by omega)) (rm_ok (by decide) (by decide)) (zq_i fun v27 h28 q26 => ?_)
    obtain ⟨b29, s30, f31⟩ := q26
    have f32 : zfr [12, 13, 14, 15, 29, 30] [] h h28 := zfr_t (zfr_r _ _ _) f31 rfl rfl
    exact zj_iret rfl (zdk ttX11_readNumber 7 rfl rfl) (Nat.le_refl _) (Nat.le_refl _) ⟨v27, rfl, by omega, s30, f32, by omega⟩

abbrev tX11_readMark : List (Nat × Instr × Nat) := [(0, .aload_n 0, 1), (1, .iload_n 1, 1), (2, .invokevirtual 211, 3), (5, .ifCond .ne 9, 3), (8, .aload_n 0, 1), (9, .iconst 1, 1), (10, .invokevirtual 197, 3), (13, .ireturn, 1), (14, .aload_n 0, 1), (15, .invokevirtual 204, 3), (18, .iconst 0, 1), (19, .ireturn, 1)]
theorem ttX11_readMark : zdt cX11_readMark tX11_readMark = true := by decide +kernel
abbrev q_X11_readMark (h : zM) (p1 : Int) : Option zV → zM → Prop := zqi fun v h' => ((-1) ≤ v ∧ v ≤ 0) ∧ okM h' ∧ zfr [12, 13, 14, 15, 29, 30] [] h h'
set_option maxRecDepth 100000 in
set_option maxHeartbeats 4000000 in
theorem s_X11_readMark (l : Launch) (h : zM) (p1 : Int) (s0 : okM h) (b_p1 : (-2147483648) ≤ p1 ∧ p1 ≤ 2147483647) : zT shM l yX11_readMark cX11_readMark 2 (some .int) (rmL 4) 0 0 [.inr 0, .inl p1] h (q_X11_readMark h p1) := by
  refine zT_of (by decide +kernel) (L0 := [some (.inr 0), some (.inl p1)]) rfl (Nat.le_of_ble_eq_true rfl) ?_
  refine zj_aload_n (zdk ttX11_readMark 0 rfl rfl) rfl (by decide) ?_
  refine zj_iload_n (zdk ttX11_readMark 1 rfl rfl) rfl ?_
  refine zj_callV (av := [.inl p1]) (st := []) (zdk ttX11_readMark 2 rfl rfl) mb_X11_isSign mv_RX11_211 (ci := 11) rfl rfl (k_M s0) rfl rfl (Nat.le_of_ble_eq_true rfl) (s_X11_isSign l h p1 s0 (by omega)) (rm_ok (by decide) (by decide)) (zq_i fun v2 h3 q1 => ?_)
  obtain ⟨rfl, b5, b6, ⟨rfl, b4⟩ | ⟨rfl, b4⟩⟩ := q1
  · refine zj_if_ne (t := 14) (zdk ttX11_readMark 3 rfl rfl) (by decide) (by decide) (fun c7 => ?_) (fun c7 => ?_)
    · exact absurd c7 (by omega)
    · refine zj_aload_n (zdk ttX11_readMark 4 rfl rfl) rfl (by decide) ?_
      refine zj_iconst (zdk ttX11_readMark 5 rfl rfl) ?_
      refine zj_callV (av := [.inl 1]) (st := []) (zdk ttX11_readMark 6 rfl rfl) mb_X11_errs mv_RX11_197 (ci := 11) rfl rfl (k_M s0) rfl rfl (Nat.le_of_ble_eq_true rfl) (s_X11_errs l h 1 s0 (by omega)) (rm_ok (by decide) (by decide)) (zq_i fun v9 h10 q8 => ?_)
      obtain ⟨b11, s12, f13⟩ := q8
      have f14 : zfr [12, 13, 14, 15, 29, 30] [] h h10 := zfr_t (zfr_r _ _ _) f13 rfl rfl
      exact zj_iret rfl (zdk ttX11_readMark 7 rfl rfl) (Nat.le_refl _) (Nat.le_refl _) ⟨v9, rfl, by omega, s12, f14⟩
  · refine zj_if_ne (t := 14) (zdk ttX11_readMark 3 rfl rfl) (by decide) (by decide) (fun c15 => ?_) (fun c15 => ?_)
    · refine zj_aload_n (zdk ttX11_readMark 8 rfl rfl) rfl (by decide) ?_
      refine zj_callV (av := []) (st := []) (zdk ttX11_readMark 9 rfl rfl) mb_X11_reads mv_RX11_204 (ci := 11) rfl rfl (k_M s0) rfl rfl (Nat.le_of_ble_eq_true rfl) (s_X11_reads l h s0) (rm_ok (by decide) (by decide)) (zq_v fun h18 q16 => ?_)
      obtain ⟨s20, f23, u21, u22⟩ := q16
      refine zj_iconst (zdk ttX11_readMark 10 rfl rfl) ?_
      have f24 : zfr [12, 13, 14, 15, 29, 30] [] h h18 := zfr_t (zfr_r _ _ _) f23 rfl rfl
      exact zj_iret rfl (zdk ttX11_readMark 11 rfl rfl) (Nat.le_refl _) (Nat.le_refl _) ⟨0, rfl, by omega, s20, f24⟩
    · exact absurd c15 (by omega)

abbrev tX11_readTold : List (Nat × Instr × Nat) := [(0, .aload_n 0, 1), (1, .iload_n 1, 1), (2, .invokevirtual 226, 3), (5, .ifCond .ne 9, 3), (8, .aload_n 0, 1), (9, .iconst 1, 1), (10, .invokevirtual 197, 3), (13, .ireturn, 1), (14, .aload_n 0, 1), (15, .invokevirtual 204, 3), (18, .aload_n 0, 1), (19, .iload_n 2, 1), (20, .iload_n 3, 1), (21, .invokevirtual 248, 3), (24, .ireturn, 1)]
theorem ttX11_readTold : zdt cX11_readTold tX11_readTold = true := by decide +kernel
abbrev q_X11_readTold (h : zM) (p1 : Int) (p2 : Int) (p3 : Int) : Option zV → zM → Prop := zqi fun v h' => ((-2147483648) ≤ v ∧ v ≤ 2147483647) ∧ okM h' ∧ zfr [12, 13, 14, 15, 29, 30] [] h h' ∧ (v = -1 ∨ (p2 ≤ v ∧ v ≤ p3))
set_option maxRecDepth 100000 in
set_option maxHeartbeats 4000000 in
theorem s_X11_readTold (l : Launch) (h : zM) (p1 : Int) (p2 : Int) (p3 : Int) (s0 : okM h) (b_p1 : (-2147483648) ≤ p1 ∧ p1 ≤ 2147483647) (b_p2 : (-2147483648) ≤ p2 ∧ p2 ≤ 2147483647) (b_p3 : (-2147483648) ≤ p3 ∧ p3 ≤ 2147483647) : zT shM l yX11_readTold cX11_readTold 4 (some .int) (rmL 5) 0 0 [.inr 0, .inl p1, .inl p2, .inl p3] h (q_X11_readTold h p1 p2 p3) := by
  refine zT_of (by decide +kernel) (L0 := [some (.inr 0), some (.inl p1), some (.inl p2), some (.inl p3)]) rfl (Nat.le_of_ble_eq_true rfl) ?_
  refine zj_aload_n (zdk ttX11_readTold 0 rfl rfl) rfl (by decide) ?_
  refine zj_iload_n (zdk ttX11_readTold 1 rfl rfl) rfl ?_
  refine zj_callV (av := [.inl p1]) (st := []) (zdk ttX11_readTold 2 rfl rfl) mb_X11_isWord mv_RX11_226 (ci := 11) rfl rfl (k_M s0) rfl rfl (Nat.le_of_ble_eq_true rfl) (s_X11_isWord l h p1 s0 (by omega)) (rm_ok (by decide) (by decide)) (zq_i fun v2 h3 q1 => ?_)
  obtain ⟨rfl, b5, b6, ⟨rfl, b4⟩ | ⟨rfl, b4⟩⟩ := q1
  · refine zj_if_ne (t := 14) (zdk ttX11_readTold 3 rfl rfl) (by decide) (by decide) (fun c7 => ?_) (fun c7 => ?_)
    · exact absurd c7 (by omega)
    · refine zj_aload_n (zdk ttX11_readTold 4 rfl rfl) rfl (by decide) ?_
      refine zj_iconst (zdk ttX11_readTold 5 rfl rfl) ?_
      refine zj_callV (av := [.inl 1]) (st := []) (zdk ttX11_readTold 6 rfl rfl) mb_X11_errs mv_RX11_197 (ci := 11) rfl rfl (k_M s0) rfl rfl (Nat.le_of_ble_eq_true rfl) (s_X11_errs l h 1 s0 (by omega)) (rm_ok (by decide) (by decide)) (zq_i fun v9 h10 q8 => ?_)
      obtain ⟨b11, s12, f13⟩ := q8
      have f14 : zfr [12, 13, 14, 15, 29, 30] [] h h10 := zfr_t (zfr_r _ _ _) f13 rfl rfl
      exact zj_iret rfl (zdk ttX11_readTold 7 rfl rfl) (Nat.le_refl _) (Nat.le_refl _) ⟨v9, rfl, by omega, s12, f14, by omega⟩
  · refine zj_if_ne (t := 14) (zdk ttX11_readTold 3 rfl rfl) (by decide) (by decide) (fun c15 => ?_) (fun c15 => ?_)
    · refine zj_aload_n (zdk ttX11_readTold 8 rfl rfl) rfl (by decide) ?_
      refine zj_callV (av := []) (st := []) (zdk ttX11_readTold 9 rfl rfl) mb_X11_reads mv_RX11_204 (ci := 11) rfl rfl (k_M s0) rfl rfl (Nat.le_of_ble_eq_true rfl) (s_X11_reads l h s0) (rm_ok (by decide) (by decide)) (zq_v fun h18 q16 => ?_)
      obtain ⟨s20, f23, u21, u22⟩ := q16
      refine zj_aload_n (zdk ttX11_readTold 10 rfl rfl) rfl (by decide) ?_
      refine zj_iload_n (zdk ttX11_readTold 11 rfl rfl) rfl ?_
      refine zj_iload_n (zdk ttX11_readTold 12 rfl rfl) rfl ?_
      refine zj_callV (av := [.inl p2, .inl p3]) (st := []) (zdk ttX11_readTold 13 rfl rfl) mb_X11_readNumber mv_RX11_248 (ci := 11) rfl rfl (k_M s20) rfl rfl (Nat.le_of_ble_eq_true rfl) (s_X11_readNumber l h18 p2 p3 s20 (by omega) (by omega)) (rm_ok (by decide) (by decide)) (zq_i fun v25 h26 q24 => ?_)
      obtain ⟨b27, s28, f30, u29⟩ := q24
      have b31 : -2147483648 ≤ v25 ∧ v25 ≤ 2147483647 := by omega
      have f33 : zfr [12, 13, 14, 15, 29, 30] [] h h18 := zfr_t (zfr_r _ _ _) f23 rfl rfl
      have f32 : zfr [12, 13, 14, 15, 29, 30] [] h h26 := zfr_t f33 f30 rfl rfl
      exact zj_iret rfl (zdk ttX11_readTold 14 rfl rfl) (Nat.le_refl _) (Nat.le_refl _) ⟨v25, rfl, by omega, s28, f32, by omega⟩
    · exact absurd c15 (by omega)

abbrev tX11_readBoat : List (Nat × Instr × Nat) := [(0, .aload_n 0, 1), (1, .getfield 62, 3), (4, .iload_n 1, 1), (5, .aload_n 0, 1), (6, .bipush 17, 2), (8, .iconst 0, 1), (9, .sipush 999, 3), (12, .invokevirtual 251, 3), (15, .iastore, 1), (16, .aload_n 0, 1), (17, .getfield 62, 3), (20, .iload_n 1, 1), (21, .iaload, 1), (22, .iconst (-1), 1), (23, .if_icmp .ne 5, 3), (26, .iconst (-1), 1), (27, .ireturn, 1), (28, .aload_n 0, 1), (29, .getfield 62, 3), (32, .iload_n 1, 1), (33, .iconst 1, 1), (34, .iadd, 1), (35, .aload_n 0, 1), (36, .bipush 18, 2), (38, .iconst 1, 1), (39, .bipush 18, 2), (41, .invokevirtual 251, 3), (44, .iastore, 1), (45, .aload_n 0, 1), (46, .getfield 62, 3), (49, .iload_n 1, 1), (50, .iconst 1, 1), (51, .iadd, 1), (52, .iaload, 1), (53, .iconst (-1), 1), (54, .if_icmp .ne 5, 3), (57, .iconst (-1), 1), (58, .ireturn, 1), (59, .aload_n 0, 1), (60, .bipush 19, 2), (62, .invokevirtual 226, 3), (65, .ifCond .ne 18, 3), (68, .aload_n 0, 1), (69, .bipush 20, 2), (71, .invokevirtual 226, 3), (74, .ifCond .ne 9, 3), (77, .aload_n 0, 1), (78, .iconst 1, 1), (79, .invokevirtual 197, 3), (82, .ireturn, 1), (83, .aload_n 0, 1), (84, .getfield 62, 3), (87, .iload_n 1, 1), (88, .iconst 2, 1), (89, .iadd, 1), (90, .aload_n 0, 1), (91, .bipush 19, 2), (93, .invokevirtual 226, 3), (96, .ifCond .eq 7, 3), (99, .iconst 1, 1), (100, .goto 4, 3), (103, .iconst 0, 1), (104, .iastore, 1), (105, .aload_n 0, 1), (106, .invokevirtual 204, 3), (109, .aload_n 0, 1), (110, .bipush 59, 2), (112, .invokevirtual 255, 3), (115, .ireturn, 1)]
theorem ttX11_readBoat : zdt cX11_readBoat tX11_readBoat = true := by decide +kernel
abbrev q_X11_readBoat (h : zM) (p1 : Int) : Option zV → zM → Prop := zqi fun v h' => ((-1) ≤ v ∧ v ≤ 0) ∧ okM h' ∧ zfr [12, 13, 14, 15, 29, 30] [17] h h'
set_option maxRecDepth 100000 in
set_option maxHeartbeats 4000000 in
theorem s_X11_readBoat (l : Launch) (h : zM) (p1 : Int) (s0 : okM h) (b_p1 : 48 ≤ p1 ∧ p1 ≤ 93) : zT shM l yX11_readBoat cX11_readBoat 2 (some .int) (rmL 6) 0 0 [.inr 0, .inl p1] h (q_X11_readBoat h p1) := by
  refine zT_of (by decide +kernel) (L0 := [some (.inr 0), some (.inl p1)]) rfl (Nat.le_of_ble_eq_true rfl) ?_
  refine zj_aload_n (zdk ttX11_readBoat 0 rfl rfl) rfl (by decide) ?_
  refine zj_getr (r := 17) (zdk ttX11_readBoat 1 rfl rfl) zf_RX11_62 rfl (k_M s0) (rfM_34 s0) ?_
  refine zj_iload_n (zdk ttX11_readBoat 2 rfl rfl) rfl ?_
  refine zj_aload_n (zdk ttX11_readBoat 3 rfl rfl) rfl (by decide) ?_
  refine zj_bipush (zdk ttX11_readBoat 4 rfl rfl) (by decide) ?_
  refine zj_iconst (zdk ttX11_readBoat 5 rfl rfl) ?_
  refine zj_sipush (zdk ttX11_readBoat 6 rfl rfl) (by decide) ?_
  refine zj_callV (av := [.inl 17, .inl 0, .inl 999]) (st := [.inl p1, .inr 17]) (zdk ttX11_readBoat 7 rfl rfl) mb_X11_readTold mv_RX11_251 (ci := 11) rfl rfl (k_M s0) rfl rfl (Nat.le_of_ble_eq_true rfl) (s_X11_readTold l h 17 0 999 s0 (by omega) (by omega) (by omega)) (rm_ok (by decide) (by decide)) (zq_i fun v2 h3 q1 => ?_)
  obtain ⟨b4, s5, f7, u6⟩ := q1
  have b8 : -1 ≤ v2 ∧ v2 ≤ 999 := by omega
  refine zj_iast (zdk ttX11_readBoat 8 rfl rfl) (kaM_17 s5) (by decide) (by omega) (fun h9 e10 => ?_)
  refine zj_aload_n (zdk ttX11_readBoat 9 rfl rfl) rfl (by decide) ?_
  have s11 : okM h9 := awM_17 s5 e10 (by omega) (by unfold nsp; omega)
  refine zj_getr (r := 17) (zdk ttX11_readBoat 10 rfl rfl) zf_RX11_62 rfl (k_M s11) (rfM_34 s11) ?_
  refine zj_iload_n (zdk ttX11_readBoat 11 rfl rfl) rfl ?_
  refine zj_iald (v := v2) (zdk ttX11_readBoat 12 rfl rfl) (kaM_17 s11) (by decide) (by omega) (zwr_v e10) ?_
  refine zj_iconst (zdk ttX11_readBoat 13 rfl rfl) ?_
  refine zj_icmp_ne (t := 28) (zdk ttX11_readBoat 14 rfl rfl) (by decide) (by omega) (by decide) (fun c12 => ?_) (fun c12 => ?_)
  · refine zj_aload_n (zdk ttX11_readBoat 17 rfl rfl) rfl (by decide) ?_
    refine zj_getr (r := 17) (zdk ttX11_readBoat 18 rfl rfl) zf_RX11_62 rfl (k_M s11) (rfM_34 s11) ?_
    refine zj_iload_n (zdk ttX11_readBoat 19 rfl rfl) rfl ?_
    refine zj_iconst (zdk ttX11_readBoat 20 rfl rfl) ?_
    refine zj_iadd (zdk ttX11_readBoat 21 rfl rfl) ?_
    refine zj_aload_n (zdk ttX11_readBoat 22 rfl rfl) rfl (by decide) ?_
    refine zj_bipush (zdk ttX11_readBoat 23 rfl rfl) (by decide) ?_
    refine zj_iconst (zdk ttX11_readBoat 24 rfl rfl) ?_
    refine zj_bipush (zdk ttX11_readBoat 25 rfl rfl) (by decide) ?_
    refine zj_callV (av := [.inl 18, .inl 1, .inl 18]) (st := [.inl (p1 + 1), .inr 17]) (zdk ttX11_readBoat 26 rfl rfl) mb_X11_readTold mv_RX11_251 (ci := 11) rfl rfl (k_M s11) rfl rfl (Nat.le_of_ble_eq_true rfl) (s_X11_readTold l h9 18 1 18 s11 (by omega) (by omega) (by omega)) (rm_ok (by decide) (by decide)) (zq_i fun v14 h15 q13 => ?_)
    obtain ⟨b16, s17, f19, u18⟩ := q13
    have b20 : -1 ≤ v14 ∧ v14 ≤ 18 := by omega
    refine zj_iast (zdk ttX11_readBoat 27 rfl rfl) (kaM_17 s17) (by decide) (by omega) (fun h21 e22 => ?_)
    refine zj_aload_n (zdk ttX11_readBoat 28 rfl rfl) rfl (by decide) ?_
    have s23 : okM h21 := awM_17 s17 e22 (by omega) (by unfold nsp; omega)
    refine zj_getr (r := 17) (zdk ttX11_readBoat 29 rfl rfl) zf_RX11_62 rfl (k_M s23) (rfM_34 s23) ?_
    refine zj_iload_n (zdk ttX11_readBoat 30 rfl rfl) rfl ?_
    refine zj_iconst (zdk ttX11_readBoat 31 rfl rfl) ?_
    refine zj_iadd (zdk ttX11_readBoat 32 rfl rfl) ?_
    refine zj_iald (v := v14) (zdk ttX11_readBoat 33 rfl rfl) (kaM_17 s23) (by decide) (by omega) (zwr_v e22) ?_
    refine zj_iconst (zdk ttX11_readBoat 34 rfl rfl) ?_
    refine zj_icmp_ne (t := 59) (zdk ttX11_readBoat 35 rfl rfl) (by decide) (by omega) (by decide) (fun c24 => ?_) (fun c24 => ?_)
    · refine zj_aload_n (zdk ttX11_readBoat 38 rfl rfl) rfl (by decide) ?_
      refine zj_bipush (zdk ttX11_readBoat 39 rfl rfl) (by decide) ?_
      refine zj_callV (av := [.inl 19]) (st := []) (zdk ttX11_readBoat 40 rfl rfl) mb_X11_isWord mv_RX11_226 (ci := 11) rfl rfl (k_M s23) rfl rfl (Nat.le_of_ble_eq_true rfl) (s_X11_isWord l h21 19 s23 (by omega)) (rm_ok (by decide) (by decide)) (zq_i fun v26 h27 q25 => ?_)
      obtain ⟨rfl, b29, b30, ⟨rfl, b28⟩ | ⟨rfl, b28⟩⟩ := q25
      · refine zj_if_ne (t := 83) (zdk ttX11_readBoat 41 rfl rfl) (by decide) (by decide) (fun c31 => ?_) (fun c31 => ?_)
        · exact absurd c31 (by omega)
        · refine zj_aload_n (zdk ttX11_readBoat 42 rfl rfl) rfl (by decide) ?_
          refine zj_bipush (zdk ttX11_readBoat 43 rfl rfl) (by decide) ?_
          refine zj_callV (av := [.inl 20]) (st := []) (zdk ttX11_readBoat 44 rfl rfl) mb_X11_isWord mv_RX11_226 (ci := 11) rfl rfl (k_M s23) rfl rfl (Nat.le_of_ble_eq_true rfl) (s_X11_isWord l h21 20 s23 (by omega)) (rm_ok (by decide) (by decide)) (zq_i fun v33 h34 q32 => ?_)
          obtain ⟨rfl, b36, b37, ⟨rfl, b35⟩ | ⟨rfl, b35⟩⟩ := q32
          · refine zj_if_ne (t := 83) (zdk ttX11_readBoat 45 rfl rfl) (by decide) (by decide) (fun c38 => ?_) (fun c38 => ?_)
            · exact absurd c38 (by omega)
            · refine zj_aload_n (zdk ttX11_readBoat 46 rfl rfl) rfl (by decide) ?_
              refine zj_iconst (zdk ttX11_readBoat 47 rfl rfl) ?_
              refine zj_callV (av := [.inl 1]) (st := []) (zdk ttX11_readBoat 48 rfl rfl) mb_X11_errs mv_RX11_197 (ci := 11) rfl rfl (k_M s23) rfl rfl (Nat.le_of_ble_eq_true rfl) (s_X11_errs l h21 1 s23 (by omega)) (rm_ok (by decide) (by decide)) (zq_i fun v40 h41 q39 => ?_)
              obtain ⟨b42, s43, f44⟩ := q39
              have f49 : zfr [12, 13, 14, 15, 29, 30] [17] h h3 := zfr_t (zfr_r _ _ _) f7 rfl rfl
              have f48 : zfr [12, 13, 14, 15, 29, 30] [17] h h9 := zfr_wa f49 e10 rfl
              have f47 : zfr [12, 13, 14, 15, 29, 30] [17] h h15 := zfr_t f48 f19 rfl rfl
              have f46 : zfr [12, 13, 14, 15, 29, 30] [17] h h21 := zfr_wa f47 e22 rfl
              have f45 : zfr [12, 13, 14, 15, 29, 30] [17] h h41 := zfr_t f46 f44 rfl rfl
              exact zj_iret rfl (zdk ttX11_readBoat 49 rfl rfl) (Nat.le_refl _) (Nat.le_refl _) ⟨v40, rfl, by omega, s43, f45⟩
          · refine zj_if_ne (t := 83) (zdk ttX11_readBoat 45 rfl rfl) (by decide) (by decide) (fun c50 => ?_) (fun c50 => ?_)
            · refine zj_aload_n (zdk ttX11_readBoat 50 rfl rfl) rfl (by decide) ?_
              refine zj_getr (r := 17) (zdk ttX11_readBoat 51 rfl rfl) zf_RX11_62 rfl (k_M s23) (rfM_34 s23) ?_
              refine zj_iload_n (zdk ttX11_readBoat 52 rfl rfl) rfl ?_
              refine zj_iconst (zdk ttX11_readBoat 53 rfl rfl) ?_
              refine zj_iadd (zdk ttX11_readBoat 54 rfl rfl) ?_
              refine zj_aload_n (zdk ttX11_readBoat 55 rfl rfl) rfl (by decide) ?_
              refine zj_bipush (zdk ttX11_readBoat 56 rfl rfl) (by decide) ?_
              refine zj_callV (av := [.inl 19]) (st := [.inl (p1 + 2), .inr 17]) (zdk ttX11_readBoat 57 rfl rfl) mb_X11_isWord mv_RX11_226 (ci := 11) rfl rfl (k_M s23) rfl rfl (Nat.le_of_ble_eq_true rfl) (s_X11_isWord l h21 19 s23 (by omega)) (rm_ok (by decide) (by decide)) (zq_i fun v52 h53 q51 => ?_)
              obtain ⟨rfl, b55, b56, ⟨rfl, b54⟩ | ⟨rfl, b54⟩⟩ := q51
              · refine zj_if_eq (t := 103) (zdk ttX11_readBoat 58 rfl rfl) (by decide) (by decide) (fun c57 => ?_) (fun c57 => ?_)
                · refine zj_iconst (zdk ttX11_readBoat 61 rfl rfl) ?_
                  refine zj_iast (zdk ttX11_readBoat 62 rfl rfl) (kaM_17 s23) (by decide) (by omega) (fun h58 e59 => ?_)
                  refine zj_aload_n (zdk ttX11_readBoat 63 rfl rfl) rfl (by decide) ?_
                  have s60 : okM h58 := awM_17 s23 e59 (by omega) (by unfold nsp; omega)
                  refine zj_callV (av := []) (st := []) (zdk ttX11_readBoat 64 rfl rfl) mb_X11_reads mv_RX11_204 (ci := 11) rfl rfl (k_M s60) rfl rfl (Nat.le_of_ble_eq_true rfl) (s_X11_reads l h58 s60) (rm_ok (by decide) (by decide)) (zq_v fun h63 q61 => ?_)
                  obtain ⟨s65, f68, u66, u67⟩ := q61
                  refine zj_aload_n (zdk ttX11_readBoat 65 rfl rfl) rfl (by decide) ?_
                  refine zj_bipush (zdk ttX11_readBoat 66 rfl rfl) (by decide) ?_
                  refine zj_callV (av := [.inl 59]) (st := []) (zdk ttX11_readBoat 67 rfl rfl) mb_X11_readMark mv_RX11_255 (ci := 11) rfl rfl (k_M s65) rfl rfl (Nat.le_of_ble_eq_true rfl) (s_X11_readMark l h63 59 s65 (by omega)) (rm_ok (by decide) (by decide)) (zq_i fun v70 h71 q69 => ?_)
                  obtain ⟨b72, s73, f74⟩ := q69
                  have f81 : zfr [12, 13, 14, 15, 29, 30] [17] h h3 := zfr_t (zfr_r _ _ _) f7 rfl rfl
                  have f80 : zfr [12, 13, 14, 15, 29, 30] [17] h h9 := zfr_wa f81 e10 rfl
                  have f79 : zfr [12, 13, 14, 15, 29, 30] [17] h h15 := zfr_t f80 f19 rfl rfl
                  have f78 : zfr [12, 13, 14, 15, 29, 30] [17] h h21 := zfr_wa f79 e22 rfl
                  have f77 : zfr [12, 13, 14, 15, 29, 30] [17] h h58 := zfr_wa f78 e59 rfl
                  have f76 : zfr [12, 13, 14, 15, 29, 30] [17] h h63 := zfr_t f77 f68 rfl rfl
                  have f75 : zfr [12, 13, 14, 15, 29, 30] [17] h h71 := zfr_t f76 f74 rfl rfl
                  exact zj_iret rfl (zdk ttX11_readBoat 68 rfl rfl) (Nat.le_refl _) (Nat.le_refl _) ⟨v70, rfl, by omega, s73, f75⟩
                · exact absurd c57 (by omega)
              · exact absurd b54 (by omega)
            · exact absurd c50 (by omega)
      · refine zj_if_ne (t := 83) (zdk ttX11_readBoat 41 rfl rfl) (by decide) (by decide) (fun c82 => ?_) (fun c82 => ?_)
        · refine zj_aload_n (zdk ttX11_readBoat 50 rfl rfl) rfl (by decide) ?_
          refine zj_getr (r := 17) (zdk ttX11_readBoat 51 rfl rfl) zf_RX11_62 rfl (k_M s23) (rfM_34 s23) ?_
          refine zj_iload_n (zdk ttX11_readBoat 52 rfl rfl) rfl ?_
          refine zj_iconst (zdk ttX11_readBoat 53 rfl rfl) ?_
          refine zj_iadd (zdk ttX11_readBoat 54 rfl rfl) ?_
          refine zj_aload_n (zdk ttX11_readBoat 55 rfl rfl) rfl (by decide) ?_
          refine zj_bipush (zdk ttX11_readBoat 56 rfl rfl) (by decide) ?_
          refine zj_callV (av := [.inl 19]) (st := [.inl (p1 + 2), .inr 17]) (zdk ttX11_readBoat 57 rfl rfl) mb_X11_isWord mv_RX11_226 (ci := 11) rfl rfl (k_M s23) rfl rfl (Nat.le_of_ble_eq_true rfl) (s_X11_isWord l h21 19 s23 (by omega)) (rm_ok (by decide) (by decide)) (zq_i fun v84 h85 q83 => ?_)
          obtain ⟨rfl, b87, b88, ⟨rfl, b86⟩ | ⟨rfl, b86⟩⟩ := q83
          · exact absurd b86 (by omega)
          · refine zj_if_eq (t := 103) (zdk ttX11_readBoat 58 rfl rfl) (by decide) (by decide) (fun c89 => ?_) (fun c89 => ?_)
            · exact absurd c89 (by omega)
            · refine zj_iconst (zdk ttX11_readBoat 59 rfl rfl) ?_
              refine zj_goto (t := 104) (zdk ttX11_readBoat 60 rfl rfl) (by decide) ?_
              refine zj_iast (zdk ttX11_readBoat 62 rfl rfl) (kaM_17 s23) (by decide) (by omega) (fun h90 e91 => ?_)
              refine zj_aload_n (zdk ttX11_readBoat 63 rfl rfl) rfl (by decide) ?_
              have s92 : okM h90 := awM_17 s23 e91 (by omega) (by unfold nsp; omega)
              refine zj_callV (av := []) (st := []) (zdk ttX11_readBoat 64 rfl rfl) mb_X11_reads mv_RX11_204 (ci := 11) rfl rfl (k_M s92) rfl rfl (Nat.le_of_ble_eq_true rfl) (s_X11_reads l h90 s92) (rm_ok (by decide) (by decide)) (zq_v fun h95 q93 => ?_)
              obtain ⟨s97, f100, u98, u99⟩ := q93
              refine zj_aload_n (zdk ttX11_readBoat 65 rfl rfl) rfl (by decide) ?_
              refine zj_bipush (zdk ttX11_readBoat 66 rfl rfl) (by decide) ?_
              refine zj_callV (av := [.inl 59]) (st := []) (zdk ttX11_readBoat 67 rfl rfl) mb_X11_readMark mv_RX11_255 (ci := 11) rfl rfl (k_M s97) rfl rfl (Nat.le_of_ble_eq_true rfl) (s_X11_readMark l h95 59 s97 (by omega)) (rm_ok (by decide) (by decide)) (zq_i fun v102 h103 q101 => ?_)
              obtain ⟨b104, s105, f106⟩ := q101
              have f113 : zfr [12, 13, 14, 15, 29, 30] [17] h h3 := zfr_t (zfr_r _ _ _) f7 rfl rfl
              have f112 : zfr [12, 13, 14, 15, 29, 30] [17] h h9 := zfr_wa f113 e10 rfl
              have f111 : zfr [12, 13, 14, 15, 29, 30] [17] h h15 := zfr_t f112 f19 rfl rfl
              have f110 : zfr [12, 13, 14, 15, 29, 30] [17] h h21 := zfr_wa f111 e22 rfl
              have f109 : zfr [12, 13, 14, 15, 29, 30] [17] h h90 := zfr_wa f110 e91 rfl
              have f108 : zfr [12, 13, 14, 15, 29, 30] [17] h h95 := zfr_t f109 f100 rfl rfl
              have f107 : zfr [12, 13, 14, 15, 29, 30] [17] h h103 := zfr_t f108 f106 rfl rfl
              exact zj_iret rfl (zdk ttX11_readBoat 68 rfl rfl) (Nat.le_refl _) (Nat.le_refl _) ⟨v102, rfl, by omega, s105, f107⟩
        · exact absurd c82 (by omega)
    · refine zj_iconst (zdk ttX11_readBoat 36 rfl rfl) ?_
      have f117 : zfr [12, 13, 14, 15, 29, 30] [17] h h3 := zfr_t (zfr_r _ _ _) f7 rfl rfl
      have f116 : zfr [12, 13, 14, 15, 29, 30] [17] h h9 := zfr_wa f117 e10 rfl
      have f115 : zfr [12, 13, 14, 15, 29, 30] [17] h h15 := zfr_t f116 f19 rfl rfl
      have f114 : zfr [12, 13, 14, 15, 29, 30] [17] h h21 := zfr_wa f115 e22 rfl
      exact zj_iret rfl (zdk ttX11_readBoat 37 rfl rfl) (Nat.le_refl _) (Nat.le_refl _) ⟨(-1), rfl, by omega, s23, f114⟩
  · refine zj_iconst (zdk ttX11_readBoat 15 rfl rfl) ?_
    have f119 : zfr [12, 13, 14, 15, 29, 30] [17] h h3 := zfr_t (zfr_r _ _ _) f7 rfl rfl
    have f118 : zfr [12, 13, 14, 15, 29, 30] [17] h h9 := zfr_wa f119 e10 rfl
    exact zj_iret rfl (zdk ttX11_readBoat 16 rfl rfl) (Nat.le_refl _) (Nat.le_refl _) ⟨(-1), rfl, by omega, s11, f118⟩

abbrev tX11_readBoats : List (Nat × Instr × Nat) := [(0, .iconst 0, 1), (1, .istore_n 1, 1), (2, .aload_n 0, 1), (3, .bipush 17, 2), (5, .invokevirtual 226, 3), (8, .ifCond .eq 38, 3), (11, .iload_n 1, 1), (12, .bipush 16, 2), (14, .if_icmp .ne 9, 3), (17, .aload_n 0, 1), (18, .iconst 3, 1), (19, .invokevirtual 197, 3), (22, .ireturn, 1), (23, .aload_n 0, 1), (24, .bipush 48, 2), (26, .iconst 3, 1), (27, .iload_n 1, 1), (28, .imul, 1), (29, .iadd, 1), (30, .invokevirtual 258, 3), (33, .iconst (-1), 1), (34, .if_icmp .ne 5, 3), (37, .iconst (-1), 1), (38, .ireturn, 1), (39, .iload_n 1, 1), (40, .iconst 1, 1), (41, .iadd, 1), (42, .istore_n 1, 1), (43, .goto (-41), 3), (46, .aload_n 0, 1), (47, .getfield 166, 3), (50, .ifCond .ne 7, 3), (53, .iload_n 1, 1), (54, .goto 8, 3), (57, .aload_n 0, 1), (58, .iconst 1, 1), (59, .invokevirtual 197, 3), (62, .ireturn, 1)]
theorem ttX11_readBoats : zdt cX11_readBoats tX11_readBoats = true := by decide +kernel
abbrev q_X11_readBoats (h : zM) : Option zV → zM → Prop := zqi fun v h' => ((-1) ≤ v ∧ v ≤ 16) ∧ okM h' ∧ zfr [12, 13, 14, 15, 29, 30] [17] h h'
set_option maxRecDepth 100000 in
set_option maxHeartbeats 4000000 in
theorem s_X11_readBoats (l : Launch) (h : zM) (s0 : okM h) : zT shM l yX11_readBoats cX11_readBoats 2 (some .int) (rmL 7) 0 0 [.inr 0] h (q_X11_readBoats h) := by
  refine zT_of (by decide +kernel) (L0 := [some (.inr 0), none]) rfl (Nat.le_of_ble_eq_true rfl) ?_
  refine zj_iconst (zdk ttX11_readBoats 0 rfl rfl) ?_
  refine zj_istore_n (L' := [some (.inr 0), some (.inl 0)]) (zdk ttX11_readBoats 1 rfl rfl) (by decide) rfl ?_
  have lp117 : ∀ (n2 : Nat) (x1 : Int) (h2 : zM), (0 ≤ x1 ∧ x1 ≤ 16) → okM h2 → zfr [12, 13, 14, 15, 29, 30] [17] h h2 → (17 - x1).toNat < n2 → zJ shM l yX11_readBoats cX11_readBoats 2 (some .int) (rmL 7) 0 0 (q_X11_readBoats h) 0 0 2 [some (.inr 0), some (.inl x1)] [] h2 := by
    intro n2
    induction n2 with
    | zero => intro x1 h2 b118 s3 f4 m119; exact absurd m119 (Nat.not_lt_zero _)
    | succ n2 ih120 =>
      intro x1 h2 b118 s3 f4 m119
      refine zj_aload_n (zdk ttX11_readBoats 2 rfl rfl) rfl (by decide) ?_
      refine zj_bipush (zdk ttX11_readBoats 3 rfl rfl) (by decide) ?_
      refine zj_callV (av := [.inl 17]) (st := []) (zdk ttX11_readBoats 4 rfl rfl) mb_X11_isWord mv_RX11_226 (ci := 11) rfl rfl (k_M s3) rfl rfl (Nat.le_of_ble_eq_true rfl) (s_X11_isWord l h2 17 s3 (by omega)) (rm_ok (by decide) (by decide)) (zq_i fun v122 h123 q121 => ?_)
      obtain ⟨rfl, b125, b126, ⟨rfl, b124⟩ | ⟨rfl, b124⟩⟩ := q121
      · refine zj_if_eq (t := 46) (zdk ttX11_readBoats 5 rfl rfl) (by decide) (by decide) (fun c127 => ?_) (fun c127 => ?_)
        · refine zj_aload_n (zdk ttX11_readBoats 29 rfl rfl) rfl (by decide) ?_
          refine zj_geti (v := (h2.2 0 14)) (zdk ttX11_readBoats 30 rfl rfl) zf_RX11_166 rfl (k_M s3) rfl ?_
          refine zj_if_ne (t := 57) (zdk ttX11_readBoats 31 rfl rfl) (by decide) (by omega) (fun c128 => ?_) (fun c128 => ?_)
          · refine zj_aload_n (zdk ttX11_readBoats 34 rfl rfl) rfl (by decide) ?_
            refine zj_iconst (zdk ttX11_readBoats 35 rfl rfl) ?_
            refine zj_callV (av := [.inl 1]) (st := []) (zdk ttX11_readBoats 36 rfl rfl) mb_X11_errs mv_RX11_197 (ci := 11) rfl rfl (k_M s3) rfl rfl (Nat.le_of_ble_eq_true rfl) (s_X11_errs l h2 1 s3 (by omega)) (rm_ok (by decide) (by decide)) (zq_i fun v130 h131 q129 => ?_)
            obtain ⟨b132, s133, f134⟩ := q129
            have f135 : zfr [12, 13, 14, 15, 29, 30] [17] h h131 := zfr_t f4 f134 rfl rfl
            exact zj_iret rfl (zdk ttX11_readBoats 37 rfl rfl) (Nat.le_refl _) (Nat.le_refl _) ⟨v130, rfl, by omega, s133, f135⟩
          · refine zj_iload_n (zdk ttX11_readBoats 32 rfl rfl) rfl ?_
            refine zj_goto (t := 62) (zdk ttX11_readBoats 33 rfl rfl) (by decide) ?_
            exact zj_iret rfl (zdk ttX11_readBoats 37 rfl rfl) (Nat.le_refl _) (Nat.le_refl _) ⟨x1, rfl, by omega, s3, f4⟩
        · exact absurd c127 (by omega)
      · refine zj_if_eq (t := 46) (zdk ttX11_readBoats 5 rfl rfl) (by decide) (by decide) (fun c136 => ?_) (fun c136 => ?_)
        · exact absurd c136 (by omega)
        · refine zj_iload_n (zdk ttX11_readBoats 6 rfl rfl) rfl ?_
          refine zj_bipush (zdk ttX11_readBoats 7 rfl rfl) (by decide) ?_
          refine zj_icmp_ne (t := 23) (zdk ttX11_readBoats 8 rfl rfl) (by decide) (by omega) (by decide) (fun c137 => ?_) (fun c137 => ?_)
          · refine zj_aload_n (zdk ttX11_readBoats 13 rfl rfl) rfl (by decide) ?_
            refine zj_bipush (zdk ttX11_readBoats 14 rfl rfl) (by decide) ?_
            refine zj_iconst (zdk ttX11_readBoats 15 rfl rfl) ?_
            refine zj_iload_n (zdk ttX11_readBoats 16 rfl rfl) rfl ?_
            refine zj_imul (zdk ttX11_readBoats 17 rfl rfl) ?_
            refine zj_iadd (zdk ttX11_readBoats 18 rfl rfl) ?_
            refine zj_callV (av := [.inl (48 + (3 * x1))]) (st := []) (zdk ttX11_readBoats 19 rfl rfl) mb_X11_readBoat mv_RX11_258 (ci := 11) rfl rfl (k_M s3) rfl rfl (Nat.le_of_ble_eq_true rfl) (s_X11_readBoat l h2 (48 + (3 * x1)) s3 (by omega)) (rm_ok (by decide) (by decide)) (zq_i fun v139 h140 q138 => ?_)
            obtain ⟨b141, s142, f143⟩ := q138
            refine zj_iconst (zdk ttX11_readBoats 20 rfl rfl) ?_
            refine zj_icmp_ne (t := 39) (zdk ttX11_readBoats 21 rfl rfl) (by decide) (by omega) (by decide) (fun c144 => ?_) (fun c144 => ?_)
            · refine zj_iload_n (zdk ttX11_readBoats 24 rfl rfl) rfl ?_
              refine zj_iconst (zdk ttX11_readBoats 25 rfl rfl) ?_
              refine zj_iadd (zdk ttX11_readBoats 26 rfl rfl) ?_
              refine zj_istore_n (L' := [some (.inr 0), some (.inl (x1 + 1))]) (zdk ttX11_readBoats 27 rfl rfl) (by decide) rfl ?_
              refine zj_goto (t := 2) (zdk ttX11_readBoats 28 rfl rfl) (by decide) ?_
              have f145 : zfr [12, 13, 14, 15, 29, 30] [17] h h140 := zfr_t f4 f143 rfl rfl
              exact ih120  (x1 + 1) h140 (by omega) s142 f145 (by omega)
            · refine zj_iconst (zdk ttX11_readBoats 22 rfl rfl) ?_
              have f146 : zfr [12, 13, 14, 15, 29, 30] [17] h h140 := zfr_t f4 f143 rfl rfl
              exact zj_iret rfl (zdk ttX11_readBoats 23 rfl rfl) (Nat.le_refl _) (Nat.le_refl _) ⟨(-1), rfl, by omega, s142, f146⟩
          · refine zj_aload_n (zdk ttX11_readBoats 9 rfl rfl) rfl (by decide) ?_
            refine zj_iconst (zdk ttX11_readBoats 10 rfl rfl) ?_
            refine zj_callV (av := [.inl 3]) (st := []) (zdk ttX11_readBoats 11 rfl rfl) mb_X11_errs mv_RX11_197 (ci := 11) rfl rfl (k_M s3) rfl rfl (Nat.le_of_ble_eq_true rfl) (s_X11_errs l h2 3 s3 (by omega)) (rm_ok (by decide) (by decide)) (zq_i fun v148 h149 q147 => ?_)
            obtain ⟨b150, s151, f152⟩ := q147
            have f153 : zfr [12, 13, 14, 15, 29, 30] [17] h h149 := zfr_t f4 f152 rfl rfl
            exact zj_iret rfl (zdk ttX11_readBoats 12 rfl rfl) (Nat.le_refl _) (Nat.le_refl _) ⟨v148, rfl, by omega, s151, f153⟩
  exact lp117 _ 0 h (by omega) s0 (zfr_r _ _ _) (Nat.lt_succ_self _)
