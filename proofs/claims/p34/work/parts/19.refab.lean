abbrev tX11_hereSet : List (Nat × Instr × Nat) := [(0, .iconst 0, 1), (1, .istore_n 1, 1), (2, .iconst 0, 1), (3, .istore_n 2, 1), (4, .iload_n 2, 1), (5, .aload_n 0, 1), (6, .getfield 132, 3), (9, .if_icmp .ge 23, 3), (12, .aload_n 0, 1), (13, .iload_n 2, 1), (14, .invokevirtual 135, 3), (17, .ifCond .eq 9, 3), (20, .iload_n 1, 1), (21, .iconst 1, 1), (22, .iload_n 2, 1), (23, .ishl, 1), (24, .ior, 1), (25, .istore_n 1, 1), (26, .iinc 2 1, 3), (29, .goto (-25), 3), (32, .iload_n 1, 1), (33, .ireturn, 1)]
theorem ttX11_hereSet : zdt cX11_hereSet tX11_hereSet = true := by decide +kernel
abbrev q_X11_hereSet (h : zM) : Option zV → zM → Prop := zqi fun v h' => h = h' ∧ (0 ≤ v ∧ v ≤ 262143)
set_option maxRecDepth 100000 in
set_option maxHeartbeats 4000000 in
theorem s_X11_hereSet (l : Launch) (h : zM) (s0 : okM h) : zT shM l yX11_hereSet cX11_hereSet 3 (some .int) (rmL 2) 0 0 [.inr 0] h (q_X11_hereSet h) := by
  refine zT_of (by decide +kernel) (L0 := [some (.inr 0), none, none]) rfl (Nat.le_of_ble_eq_true rfl) ?_
  refine zj_iconst (zdk ttX11_hereSet 0 rfl rfl) ?_
  refine zj_istore_n (L' := [some (.inr 0), some (.inl 0), none]) (zdk ttX11_hereSet 1 rfl rfl) (by decide) rfl ?_
  refine zj_iconst (zdk ttX11_hereSet 2 rfl rfl) ?_
  refine zj_istore_n (L' := [some (.inr 0), some (.inl 0), some (.inl 0)]) (zdk ttX11_hereSet 3 rfl rfl) (by decide) rfl ?_
  have lp53 : ∀ (n4 : Nat) (x1 x2 : Int), (0 ≤ x1 ∧ x1 ≤ 262143) → (0 ≤ x2 ∧ x2 ≤ 18) → (19 - x2).toNat < n4 → zJ shM l yX11_hereSet cX11_hereSet 3 (some .int) (rmL 2) 0 0 (q_X11_hereSet h) 0 0 4 [some (.inr 0), some (.inl x1), some (.inl x2)] [] h := by
    intro n4
    induction n4 with
    | zero => intro x1 x2 b54 b55 m56; exact absurd m56 (Nat.not_lt_zero _)
    | succ n4 ih57 =>
      intro x1 x2 b54 b55 m56
      refine zj_iload_n (zdk ttX11_hereSet 4 rfl rfl) rfl ?_
      refine zj_aload_n (zdk ttX11_hereSet 5 rfl rfl) rfl (by decide) ?_
      have b58 : 0 ≤ (h.2 0 6) ∧ (h.2 0 6) ≤ 18 := fM_6 s0
      refine zj_geti (v := (h.2 0 6)) (zdk ttX11_hereSet 6 rfl rfl) zf_RX11_132 rfl (k_M s0) rfl ?_
      refine zj_icmp_ge (t := 32) (zdk ttX11_hereSet 7 rfl rfl) (by decide) (by omega) (by omega) (fun c59 => ?_) (fun c59 => ?_)
      · refine zj_iload_n (zdk ttX11_hereSet 20 rfl rfl) rfl ?_
        exact zj_iret rfl (zdk ttX11_hereSet 21 rfl rfl) (Nat.le_refl _) (Nat.le_refl _) ⟨x1, rfl, rfl, by omega⟩
      · refine zj_aload_n (zdk ttX11_hereSet 8 rfl rfl) rfl (by decide) ?_
        refine zj_iload_n (zdk ttX11_hereSet 9 rfl rfl) rfl ?_
        refine zj_callV (av := [.inl x2]) (st := []) (zdk ttX11_hereSet 10 rfl rfl) mb_X11_isHere mv_RX11_135 (ci := 11) rfl rfl (k_M s0) rfl rfl (Nat.le_of_ble_eq_true rfl) (s_X11_isHere l h x2 s0 (by omega)) (rm_ok (by decide) (by decide)) (zq_i fun v61 h62 q60 => ?_)
        obtain ⟨rfl, ⟨rfl, b63⟩ | ⟨rfl, b63⟩⟩ := q60
        · refine zj_if_eq (t := 26) (zdk ttX11_hereSet 11 rfl rfl) (by decide) (by decide) (fun c64 => ?_) (fun c64 => ?_)
          · refine zj_iinc (L' := [some (.inr 0), some (.inl x1), some (.inl (x2 + 1))]) (zdk ttX11_hereSet 18 rfl rfl) rfl (by decide) rfl ?_
            refine zj_goto (t := 4) (zdk ttX11_hereSet 19 rfl rfl) (by decide) ?_
            exact ih57  x1 (x2 + 1) (by omega) (by omega) (by omega)
          · exact absurd c64 (by omega)
        · refine zj_if_eq (t := 26) (zdk ttX11_hereSet 11 rfl rfl) (by decide) (by decide) (fun c65 => ?_) (fun c65 => ?_)
          · exact absurd c65 (by omega)
          · refine zj_iload_n (zdk ttX11_hereSet 12 rfl rfl) rfl ?_
            refine zj_iconst (zdk ttX11_hereSet 13 rfl rfl) ?_
            refine zj_iload_n (zdk ttX11_hereSet 14 rfl rfl) rfl ?_
            refine zj_ishl (zdk ttX11_hereSet 15 rfl rfl) ?_
            have b66 := zshl_1 (n := x2) (a := 0) (b := 17) (lo := 1) (hi := 131072) (by omega) (by decide) (by decide) (by decide)
            refine zj_ior (zdk ttX11_hereSet 16 rfl rfl) ?_
            have b67 := zor_k (a := x1) (b := (zshl 1 x2)) (K := 262144) 18 (by decide) (by decide) (by omega) (by omega)
            refine zj_istore_n (L' := [some (.inr 0), some (.inl (zor x1 (zshl 1 x2))), some (.inl x2)]) (zdk ttX11_hereSet 17 rfl rfl) (by decide) rfl ?_
            refine zj_iinc (L' := [some (.inr 0), some (.inl (zor x1 (zshl 1 x2))), some (.inl (x2 + 1))]) (zdk ttX11_hereSet 18 rfl rfl) rfl (by decide) rfl ?_
            refine zj_goto (t := 4) (zdk ttX11_hereSet 19 rfl rfl) (by decide) ?_
            exact ih57  (zor x1 (zshl 1 x2)) (x2 + 1) (by omega) (by omega) (by omega)
  exact lp53 _ 0 0 (by omega) (by omega) (Nat.lt_succ_self _)

abbrev tX11_kinApart : List (Nat × Instr × Nat) := [(0, .iconst 0, 1), (1, .istore_n 2, 1), (2, .iconst 0, 1), (3, .istore_n 3, 1), (4, .iload_n 3, 1), (5, .aload_n 0, 1), (6, .getfield 132, 3), (9, .if_icmp .ge 40, 3), (12, .aload_n 0, 1), (13, .aload_n 0, 1), (14, .getfield 68, 3), (17, .iload_n 1, 1), (18, .iaload, 1), (19, .iload_n 3, 1), (20, .invokevirtual 309, 3), (23, .ifCond .eq 20, 3), (26, .aload_n 0, 1), (27, .iload_n 3, 1), (28, .invokevirtual 135, 3), (31, .aload_n 0, 1), (32, .iload_n 1, 1), (33, .invokevirtual 135, 3), (36, .if_icmp .eq 7, 3), (39, .iload_n 2, 1), (40, .iconst 1, 1), (41, .iadd, 1), (42, .istore_n 2, 1), (43, .iinc 3 1, 3), (46, .goto (-42), 3), (49, .iload_n 2, 1), (50, .ireturn, 1)]
theorem ttX11_kinApart : zdt cX11_kinApart tX11_kinApart = true := by decide +kernel
abbrev q_X11_kinApart (h : zM) (p1 : Int) : Option zV → zM → Prop := zqi fun v h' => h = h' ∧ ((-2147483648) ≤ v ∧ v ≤ 2147483647)
set_option maxRecDepth 100000 in
set_option maxHeartbeats 4000000 in
theorem s_X11_kinApart (l : Launch) (h : zM) (p1 : Int) (s0 : okM h) (b_p1 : 0 ≤ p1 ∧ p1 ≤ 17) : zT shM l yX11_kinApart cX11_kinApart 4 (some .int) (rmL 2) 0 0 [.inr 0, .inl p1] h (q_X11_kinApart h p1) := by
  refine zT_of (by decide +kernel) (L0 := [some (.inr 0), some (.inl p1), none, none]) rfl (Nat.le_of_ble_eq_true rfl) ?_
  refine zj_iconst (zdk ttX11_kinApart 0 rfl rfl) ?_
  refine zj_istore_n (L' := [some (.inr 0), some (.inl p1), some (.inl 0), none]) (zdk ttX11_kinApart 1 rfl rfl) (by decide) rfl ?_
  refine zj_iconst (zdk ttX11_kinApart 2 rfl rfl) ?_
  refine zj_istore_n (L' := [some (.inr 0), some (.inl p1), some (.inl 0), some (.inl 0)]) (zdk ttX11_kinApart 3 rfl rfl) (by decide) rfl ?_
  have lp232 : ∀ (n4 : Nat) (x1 x2 : Int), (-2147483648 ≤ x1 ∧ x1 ≤ 2147483647) → (0 ≤ x2 ∧ x2 ≤ 18) → (19 - x2).toNat < n4 → zJ shM l yX11_kinApart cX11_kinApart 4 (some .int) (rmL 2) 0 0 (q_X11_kinApart h p1) 0 0 4 [some (.inr 0), some (.inl p1), some (.inl x1), some (.inl x2)] [] h := by
    intro n4
    induction n4 with
    | zero => intro x1 x2 b233 b234 m235; exact absurd m235 (Nat.not_lt_zero _)
    | succ n4 ih236 =>
      intro x1 x2 b233 b234 m235
      refine zj_iload_n (zdk ttX11_kinApart 4 rfl rfl) rfl ?_
      refine zj_aload_n (zdk ttX11_kinApart 5 rfl rfl) rfl (by decide) ?_
      have b237 : 0 ≤ (h.2 0 6) ∧ (h.2 0 6) ≤ 18 := fM_6 s0
      refine zj_geti (v := (h.2 0 6)) (zdk ttX11_kinApart 6 rfl rfl) zf_RX11_132 rfl (k_M s0) rfl ?_
      refine zj_icmp_ge (t := 49) (zdk ttX11_kinApart 7 rfl rfl) (by decide) (by omega) (by omega) (fun c238 => ?_) (fun c238 => ?_)
      · refine zj_iload_n (zdk ttX11_kinApart 29 rfl rfl) rfl ?_
        exact zj_iret rfl (zdk ttX11_kinApart 30 rfl rfl) (Nat.le_refl _) (Nat.le_refl _) ⟨x1, rfl, rfl, by omega⟩
      · refine zj_aload_n (zdk ttX11_kinApart 8 rfl rfl) rfl (by decide) ?_
        refine zj_aload_n (zdk ttX11_kinApart 9 rfl rfl) rfl (by decide) ?_
        refine zj_getr (r := 19) (zdk ttX11_kinApart 10 rfl rfl) zf_RX11_68 rfl (k_M s0) (rfM_38 s0) ?_
        refine zj_iload_n (zdk ttX11_kinApart 11 rfl rfl) rfl ?_
        have b239 : -2147483648 ≤ (h.2 19 p1) ∧ (h.2 19 p1) ≤ 2147483647 := abM_19 s0 p1
        refine zj_iald (v := (h.2 19 p1)) (zdk ttX11_kinApart 12 rfl rfl) (kaM_19 s0) (by decide) (by omega) rfl ?_
        refine zj_iload_n (zdk ttX11_kinApart 13 rfl rfl) rfl ?_
        refine zj_callV (av := [.inl (h.2 19 p1), .inl x2]) (st := []) (zdk ttX11_kinApart 14 rfl rfl) mb_X11_has mv_RX11_309 (ci := 11) rfl rfl (k_M s0) rfl rfl (Nat.le_of_ble_eq_true rfl) (s_X11_has l h (h.2 19 p1) x2 s0 (by omega) (by omega)) (rm_ok (by decide) (by decide)) (zq_i fun v241 h242 q240 => ?_)
        obtain ⟨rfl, ⟨rfl, b243⟩ | ⟨rfl, b243⟩⟩ := q240
        · refine zj_if_eq (t := 43) (zdk ttX11_kinApart 15 rfl rfl) (by decide) (by decide) (fun c244 => ?_) (fun c244 => ?_)
          · refine zj_iinc (L' := [some (.inr 0), some (.inl p1), some (.inl x1), some (.inl (x2 + 1))]) (zdk ttX11_kinApart 27 rfl rfl) rfl (by decide) rfl ?_
            refine zj_goto (t := 4) (zdk ttX11_kinApart 28 rfl rfl) (by decide) ?_
            exact ih236  x1 (x2 + 1) (by omega) (by omega) (by omega)
          · exact absurd c244 (by omega)
        · refine zj_if_eq (t := 43) (zdk ttX11_kinApart 15 rfl rfl) (by decide) (by decide) (fun c245 => ?_) (fun c245 => ?_)
          · exact absurd c245 (by omega)
          · refine zj_aload_n (zdk ttX11_kinApart 16 rfl rfl) rfl (by decide) ?_
            refine zj_iload_n (zdk ttX11_kinApart 17 rfl rfl) rfl ?_
            refine zj_callV (av := [.inl x2]) (st := []) (zdk ttX11_kinApart 18 rfl rfl) mb_X11_isHere mv_RX11_135 (ci := 11) rfl rfl (k_M s0) rfl rfl (Nat.le_of_ble_eq_true rfl) (s_X11_isHere l h x2 s0 (by omega)) (rm_ok (by decide) (by decide)) (zq_i fun v247 h248 q246 => ?_)
            obtain ⟨rfl, ⟨rfl, b249⟩ | ⟨rfl, b249⟩⟩ := q246
            · refine zj_aload_n (zdk ttX11_kinApart 19 rfl rfl) rfl (by decide) ?_
              refine zj_iload_n (zdk ttX11_kinApart 20 rfl rfl) rfl ?_
              refine zj_callV (av := [.inl p1]) (st := [.inl 0]) (zdk ttX11_kinApart 21 rfl rfl) mb_X11_isHere mv_RX11_135 (ci := 11) rfl rfl (k_M s0) rfl rfl (Nat.le_of_ble_eq_true rfl) (s_X11_isHere l h p1 s0 (by omega)) (rm_ok (by decide) (by decide)) (zq_i fun v251 h252 q250 => ?_)
              obtain ⟨rfl, ⟨rfl, b253⟩ | ⟨rfl, b253⟩⟩ := q250
              · refine zj_icmp_eq (t := 43) (zdk ttX11_kinApart 22 rfl rfl) (by decide) (by decide) (by decide) (fun c254 => ?_) (fun c254 => ?_)
                · refine zj_iinc (L' := [some (.inr 0), some (.inl p1), some (.inl x1), some (.inl (x2 + 1))]) (zdk ttX11_kinApart 27 rfl rfl) rfl (by decide) rfl ?_
                  refine zj_goto (t := 4) (zdk ttX11_kinApart 28 rfl rfl) (by decide) ?_
                  exact ih236  x1 (x2 + 1) (by omega) (by omega) (by omega)
                · exact absurd c254 (by omega)
              · refine zj_icmp_eq (t := 43) (zdk ttX11_kinApart 22 rfl rfl) (by decide) (by decide) (by decide) (fun c255 => ?_) (fun c255 => ?_)
                · exact absurd c255 (by omega)
                · refine zj_iload_n (zdk ttX11_kinApart 23 rfl rfl) rfl ?_
                  refine zj_iconst (zdk ttX11_kinApart 24 rfl rfl) ?_
                  refine zj_iadd (zdk ttX11_kinApart 25 rfl rfl) ?_
                  refine zj_wrap ?_
                  have b256 := zwp_in (x1 + 1)
                  refine zj_istore_n (L' := [some (.inr 0), some (.inl p1), some (.inl (zwp (x1 + 1))), some (.inl x2)]) (zdk ttX11_kinApart 26 rfl rfl) (by decide) rfl ?_
                  refine zj_iinc (L' := [some (.inr 0), some (.inl p1), some (.inl (zwp (x1 + 1))), some (.inl (x2 + 1))]) (zdk ttX11_kinApart 27 rfl rfl) rfl (by decide) rfl ?_
                  refine zj_goto (t := 4) (zdk ttX11_kinApart 28 rfl rfl) (by decide) ?_
                  exact ih236  (zwp (x1 + 1)) (x2 + 1) (by omega) (by omega) (by omega)
            · refine zj_aload_n (zdk ttX11_kinApart 19 rfl rfl) rfl (by decide) ?_
              refine zj_iload_n (zdk ttX11_kinApart 20 rfl rfl) rfl ?_
              refine zj_callV (av := [.inl p1]) (st := [.inl 1]) (zdk ttX11_kinApart 21 rfl rfl) mb_X11_isHere mv_RX11_135 (ci := 11) rfl rfl (k_M s0) rfl rfl (Nat.le_of_ble_eq_true rfl) (s_X11_isHere l h p1 s0 (by omega)) (rm_ok (by decide) (by decide)) (zq_i fun v258 h259 q257 => ?_)
              obtain ⟨rfl, ⟨rfl, b260⟩ | ⟨rfl, b260⟩⟩ := q257
              · refine zj_icmp_eq (t := 43) (zdk ttX11_kinApart 22 rfl rfl) (by decide) (by decide) (by decide) (fun c261 => ?_) (fun c261 => ?_)
                · exact absurd c261 (by omega)
                · refine zj_iload_n (zdk ttX11_kinApart 23 rfl rfl) rfl ?_
                  refine zj_iconst (zdk ttX11_kinApart 24 rfl rfl) ?_
                  refine zj_iadd (zdk ttX11_kinApart 25 rfl rfl) ?_
                  refine zj_wrap ?_
                  have b262 := zwp_in (x1 + 1)
                  refine zj_istore_n (L' := [some (.inr 0), some (.inl p1), some (.inl (zwp (x1 + 1))), some (.inl x2)]) (zdk ttX11_kinApart 26 rfl rfl) (by decide) rfl ?_
                  refine zj_iinc (L' := [some (.inr 0), some (.inl p1), some (.inl (zwp (x1 + 1))), some (.inl (x2 + 1))]) (zdk ttX11_kinApart 27 rfl rfl) rfl (by decide) rfl ?_
                  refine zj_goto (t := 4) (zdk ttX11_kinApart 28 rfl rfl) (by decide) ?_
                  exact ih236  (zwp (x1 + 1)) (x2 + 1) (by omega) (by omega) (by omega)
              · refine zj_icmp_eq (t := 43) (zdk ttX11_kinApart 22 rfl rfl) (by decide) (by decide) (by decide) (fun c263 => ?_) (fun c263 => ?_)
                · refine zj_iinc (L' := [some (.inr 0), some (.inl p1), some (.inl x1), some (.inl (x2 + 1))]) (zdk ttX11_kinApart 27 rfl rfl) rfl (by decide) rfl ?_
                  refine zj_goto (t := 4) (zdk ttX11_kinApart 28 rfl rfl) (by decide) ?_
                  exact ih236  x1 (x2 + 1) (by omega) (by omega) (by omega)
                · exact absurd c263 (by omega)
  exact lp232 _ 0 0 (by omega) (by omega) (Nat.lt_succ_self _)

abbrev tX11_keepsAhead : List (Nat × Instr × Nat) := [(0, .aload_n 0, 1), (1, .getfield 123, 3), (4, .bipush 6, 2), (6, .if_icmp .ne 47, 3), (9, .aload_n 0, 1), (10, .aload_n 0, 1), (11, .getfield 123, 3), (14, .iconst 1, 1), (15, .isub, 1), (16, .putfield 123, 3), (19, .iconst 0, 1), (20, .istore_n 1, 1), (21, .iload_n 1, 1), (22, .bipush 63, 2), (24, .aload_n 0, 1), (25, .getfield 123, 3), (28, .imul, 1), (29, .if_icmp .ge 24, 3), (32, .aload_n 0, 1), (33, .getfield 13, 3), (36, .iload_n 1, 1), (37, .aload_n 0, 1), (38, .getfield 13, 3), (41, .iload_n 1, 1), (42, .bipush 63, 2), (44, .iadd, 1), (45, .iaload, 1), (46, .iastore, 1), (47, .iinc 1 1, 3), (50, .goto (-29), 3), (53, .iconst 0, 1), (54, .istore_n 1, 1), (55, .iload_n 1, 1), (56, .bipush 63, 2), (58, .if_icmp .ge 29, 3), (61, .aload_n 0, 1), (62, .getfield 13, 3), (65, .bipush 63, 2), (67, .aload_n 0, 1), (68, .getfield 123, 3), (71, .imul, 1), (72, .iload_n 1, 1), (73, .iadd, 1), (74, .aload_n 0, 1), (75, .getfield 7, 3), (78, .iload_n 1, 1), (79, .iaload, 1), (80, .iastore, 1), (81, .iinc 1 1, 3), (84, .goto (-29), 3), (87, .aload_n 0, 1), (88, .aload_n 0, 1), (89, .getfield 123, 3), (92, .iconst 1, 1), (93, .iadd, 1), (94, .putfield 123, 3), (97, .return_, 1)]
theorem ttX11_keepsAhead : zdt cX11_keepsAhead tX11_keepsAhead = true := by decide +kernel
abbrev tX11_undo : List (Nat × Instr × Nat) := [(0, .aload_n 0, 1), (1, .iconst 0, 1), (2, .putfield 120, 3), (5, .aload_n 0, 1), (6, .getfield 123, 3), (9, .ifCond .ne 5, 3), (12, .iconst 0, 1), (13, .ireturn, 1), (14, .aload_n 0, 1), (15, .aload_n 0, 1), (16, .getfield 123, 3), (19, .iconst 1, 1), (20, .isub, 1), (21, .putfield 123, 3), (24, .iconst 0, 1), (25, .istore_n 1, 1), (26, .iload_n 1, 1), (27, .bipush 63, 2), (29, .if_icmp .ge 29, 3), (32, .aload_n 0, 1), (33, .getfield 7, 3), (36, .iload_n 1, 1), (37, .aload_n 0, 1), (38, .getfield 13, 3), (41, .bipush 63, 2), (43, .aload_n 0, 1), (44, .getfield 123, 3), (47, .imul, 1), (48, .iload_n 1, 1), (49, .iadd, 1), (50, .iaload, 1), (51, .iastore, 1), (52, .iinc 1 1, 3), (55, .goto (-29), 3), (58, .iconst 1, 1), (59, .ireturn, 1)]
theorem ttX11_undo : zdt cX11_undo tX11_undo = true := by decide +kernel
abbrev tX11_thinks : List (Nat × Instr × Nat) := [(0, .iconst 0, 1), (1, .istore_n 1, 1), (2, .iload_n 1, 1), (3, .bipush 63, 2), (5, .if_icmp .ge 21, 3), (8, .aload_n 0, 1), (9, .getfield 16, 3), (12, .iload_n 1, 1), (13, .aload_n 0, 1), (14, .getfield 7, 3), (17, .iload_n 1, 1), (18, .iaload, 1), (19, .iastore, 1), (20, .iinc 1 1, 3), (23, .goto (-21), 3), (26, .aload_n 0, 1), (27, .iconst 1, 1), (28, .putfield 126, 3), (31, .return_, 1)]
theorem ttX11_thinks : zdt cX11_thinks tX11_thinks = true := by decide +kernel
abbrev tX11_endsThought : List (Nat × Instr × Nat) := [(0, .iconst 0, 1), (1, .istore_n 1, 1), (2, .iload_n 1, 1), (3, .bipush 63, 2), (5, .if_icmp .ge 21, 3), (8, .aload_n 0, 1), (9, .getfield 7, 3), (12, .iload_n 1, 1), (13, .aload_n 0, 1), (14, .getfield 16, 3), (17, .iload_n 1, 1), (18, .iaload, 1), (19, .iastore, 1), (20, .iinc 1 1, 3), (23, .goto (-21), 3), (26, .aload_n 0, 1), (27, .iconst 0, 1), (28, .putfield 126, 3), (31, .return_, 1)]
theorem ttX11_endsThought : zdt cX11_endsThought tX11_endsThought = true := by decide +kernel
abbrev tX11_state : List (Nat × Instr × Nat) := [(0, .aload_n 0, 1), (1, .iconst 0, 1), (2, .putfield 120, 3), (5, .aload_n 0, 1), (6, .getfield 7, 3), (9, .iconst 1, 1), (10, .iaload, 1), (11, .istore_n 2, 1), (12, .aload_n 0, 1), (13, .getfield 7, 3), (16, .iconst 1, 1), (17, .iload_n 1, 1), (18, .iastore, 1), (19, .aload_n 0, 1), (20, .iconst 0, 1), (21, .putfield 123, 3), (24, .iload_n 2, 1), (25, .ireturn, 1)]
theorem ttX11_state : zdt cX11_state tX11_state = true := by decide +kernel
abbrev tX11_draw : List (Nat × Instr × Nat) := [(0, .aload_n 0, 1), (1, .getfield 7, 3), (4, .iconst 1, 1), (5, .ldc 130, 2), (7, .aload_n 0, 1), (8, .getfield 7, 3), (11, .iconst 1, 1), (12, .iaload, 1), (13, .imul, 1), (14, .ldc 131, 2), (16, .iadd, 1), (17, .iastore, 1), (18, .aload_n 0, 1), (19, .getfield 7, 3), (22, .iconst 1, 1), (23, .iaload, 1), (24, .bipush 8, 2), (26, .iushr, 1), (27, .iload_n 1, 1), (28, .irem, 1), (29, .ireturn, 1)]
theorem ttX11_draw : zdt cX11_draw tX11_draw = true := by decide +kernel
abbrev tX11_islander : List (Nat × Instr × Nat) := [(0, .aload_n 0, 1), (1, .iconst 0, 1), (2, .putfield 120, 3), (5, .aload_n 0, 1), (6, .iload_n 1, 1), (7, .iconst 1, 1), (8, .sipush 200, 3), (11, .invokevirtual 139, 3), (14, .ifCond .eq 23, 3), (17, .aload_n 0, 1), (18, .iload_n 2, 1), (19, .iconst 0, 1), (20, .bipush 9, 2), (22, .invokevirtual 139, 3), (25, .ifCond .eq 12, 3), (28, .aload_n 0, 1), (29, .getfield 132, 3), (32, .bipush 18, 2), (34, .if_icmp .ne 5, 3), (37, .iconst (-1), 1), (38, .ireturn, 1), (39, .aload_n 0, 1), (40, .getfield 19, 3), (43, .aload_n 0, 1), (44, .getfield 132, 3), (47, .iload_n 1, 1), (48, .iastore, 1), (49, .aload_n 0, 1), (50, .getfield 22, 3), (53, .aload_n 0, 1), (54, .getfield 132, 3), (57, .iload_n 2, 1), (58, .iastore, 1), (59, .aload_n 0, 1), (60, .getfield 7, 3), (63, .bipush 9, 2), (65, .aload_n 0, 1), (66, .getfield 132, 3), (69, .iadd, 1), (70, .iconst 0, 1), (71, .iastore, 1), (72, .aload_n 0, 1), (73, .getfield 7, 3), (76, .bipush 27, 2), (78, .aload_n 0, 1), (79, .getfield 132, 3), (82, .iadd, 1), (83, .iconst 0, 1), (84, .iastore, 1), (85, .aload_n 0, 1), (86, .getfield 7, 3), (89, .bipush 45, 2), (91, .aload_n 0, 1), (92, .getfield 132, 3), (95, .iadd, 1), (96, .iconst 0, 1), (97, .iastore, 1), (98, .aload_n 0, 1), (99, .aload_n 0, 1), (100, .getfield 132, 3), (103, .iconst 1, 1), (104, .iadd, 1), (105, .putfield 132, 3), (108, .aload_n 0, 1), (109, .iconst 0, 1), (110, .putfield 123, 3), (113, .aload_n 0, 1), (114, .getfield 132, 3), (117, .iconst 1, 1), (118, .isub, 1), (119, .ireturn, 1)]
theorem ttX11_islander : zdt cX11_islander tX11_islander = true := by decide +kernel
abbrev tX11_set : List (Nat × Instr × Nat) := [(0, .aload_n 0, 1), (1, .iconst 0, 1), (2, .putfield 120, 3), (5, .aload_n 0, 1), (6, .iload_n 1, 1), (7, .iload_n 2, 1), (8, .iload_n 3, 1), (9, .invokevirtual 146, 3), (12, .ifCond .ne 5, 3), (15, .iconst 0, 1), (16, .ireturn, 1), (17, .iload_n 1, 1), (18, .ifCond .ne 10, 3), (21, .aload_n 0, 1), (22, .getfield 19, 3), (25, .iload_n 2, 1), (26, .iload_n 3, 1), (27, .iastore, 1), (28, .iload_n 1, 1), (29, .iconst 1, 1), (30, .if_icmp .ne 10, 3), (33, .aload_n 0, 1), (34, .getfield 22, 3), (37, .iload_n 2, 1), (38, .iload_n 3, 1), (39, .iastore, 1), (40, .iload_n 1, 1), (41, .iconst 2, 1), (42, .if_icmp .ne 10, 3), (45, .aload_n 0, 1), (46, .getfield 7, 3), (49, .iconst 3, 1), (50, .iload_n 3, 1), (51, .iastore, 1), (52, .iload_n 1, 1), (53, .iconst 3, 1), (54, .if_icmp .ne 10, 3), (57, .aload_n 0, 1), (58, .getfield 7, 3), (61, .iconst 4, 1), (62, .iload_n 3, 1), (63, .iastore, 1), (64, .iload_n 1, 1), (65, .iconst 4, 1), (66, .if_icmp .ne 11, 3), (69, .aload_n 0, 1), (70, .getfield 7, 3), (73, .bipush 8, 2), (75, .iload_n 3, 1), (76, .iastore, 1), (77, .aload_n 0, 1), (78, .iconst 0, 1), (79, .putfield 123, 3), (82, .iconst 1, 1), (83, .ireturn, 1)]
theorem ttX11_set : zdt cX11_set tX11_set = true := by decide +kernel
abbrev tX11_end : List (Nat × Instr × Nat) := [(0, .aload_n 0, 1), (1, .iconst 0, 1), (2, .putfield 120, 3), (5, .aload_n 0, 1), (6, .iload_n 1, 1), (7, .iconst 0, 1), (8, .aload_n 0, 1), (9, .getfield 149, 3), (12, .invokevirtual 139, 3), (15, .ifCond .ne 5, 3), (18, .iconst 0, 1), (19, .ireturn, 1), (20, .aload_n 0, 1), (21, .iload_n 1, 1), (22, .putfield 149, 3), (25, .iconst 1, 1), (26, .ireturn, 1)]
theorem ttX11_end : zdt cX11_end tX11_end = true := by decide +kernel
abbrev tX11_errs : List (Nat × Instr × Nat) := [(0, .aload_n 0, 1), (1, .iload_n 1, 1), (2, .putfield 185, 3), (5, .aload_n 0, 1), (6, .aload_n 0, 1), (7, .getfield 163, 3), (10, .putfield 188, 3), (13, .iconst (-1), 1), (14, .ireturn, 1)]
theorem ttX11_errs : zdt cX11_errs tX11_errs = true := by decide +kernel
abbrev tX11_fault : List (Nat × Instr × Nat) := [(0, .aload_n 0, 1), (1, .iconst 0, 1), (2, .putfield 120, 3), (5, .iload_n 1, 1), (6, .ifCond .ne 10, 3), (9, .aload_n 0, 1), (10, .getfield 291, 3), (13, .goto 16, 3), (16, .iload_n 1, 1), (17, .iconst 1, 1), (18, .if_icmp .ne 10, 3), (21, .aload_n 0, 1), (22, .getfield 58, 3), (25, .goto 4, 3), (28, .iconst (-1), 1), (29, .ireturn, 1)]
theorem ttX11_fault : zdt cX11_fault tX11_fault = true := by decide +kernel
