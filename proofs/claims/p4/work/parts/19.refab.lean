abbrev tX11_hereSet : List (Nat × Instr × Nat) := [(0, .iconst 0, 1), (1, .istore_n 1, 1), (2, .iconst 0, 1), (3, .istore_n 2, 1), (4, .iload_n 2, 1), (5, .aload_n 0, 1), (6, .getfield 132, 3), (9, .if_icmp .ge 23, 3), (12, .aload_n 0, 1), (13, .iload_n 2, 1), (14, .invokevirtual 135, 3), (17, .ifCond .eq 9, 3), (20, .iload_n 1, 1), (21, .iconst 1, 1), (22, .iload_n 2, 1), (23, .ishl, 1), (24, .ior, 1), (25, .istore_n 1, 1), (26, .iinc 2 1, 3), (29, .goto (-25), 3), (32, .iload_n 1, 1), (33, .ireturn, 1)]
theorem ttX11_hereSet : zdt cX11_hereSet tX11_hereSet = true := by decide +kernel
abbrev q_X11_hereSet (h : zM) : Option zV → zM → Prop := zqi fun v h' => h = h' ∧ (0 ≤ v ∧ v ≤ 262143)
set_option maxRecDepth 100000 in
set_option maxHeartbeats 4000000 in
theorem s_X11_hereSet (l : Launch) (h : zM) (s0 : okM h) : zT shM l yX11_hereSet cX11_hereSet 3 (some .int) (rmL 2) 0 0 [.inr 0] h (q_X11_hereSet h) := by
  refine zT_of (by decide +kernel) (L0 := [some (.inr 0), none, none]) rfl (Nat.le_of_ble_eq_true rfl) ?_
  refine zj_iconst (zdk ttX11_hereSet 0 rfl rfl) ?_
  refine zj_istore_n (L' := [some (.inr 0), some (.inl 0), none]) (zdk ttX11_hereSet 1 rfl rfl) (by decide) rfl ?_
  refine zj_iconst (zdk ttX11_hereSet 2 rfl rfl) ?_
  refine zj_istore_n (L' := [some (.inr 0), some (.inl 0), some (.inl 0)]) (zdk ttX11_hereSet 3 rfl rfl) (by decide) rfl ?_
  have lp53 : ∀ (n4 : Nat) (x1 x2 : Int), (0 ≤ x1 ∧ x1 ≤ 262143) → (0 ≤ x2 ∧ x2 ≤ 18) → (19 - x2).toNat < n4 → zJ shM l yX11_hereSet cX11_hereSet 3 (some .int) (rmL 2) 0 0 (q_X11_hereSet h) 0 0 4 [some (.inr 0), some (.inl x1), some (.inl x2)] [] h := by
    intro n4
    induction n4 with
    | zero => intro x1 x2 b54 b55 m56; exact absurd m56 (Nat.not_lt_zero _)
    | succ n4 ih57 =>
      intro x1 x2 b54 b55 m56
      refine zj_iload_n (zdk ttX11_hereSet 4 rfl rfl) rfl ?_
      refine zj_aload_n (zdk ttX11_hereSet 5 rfl rfl) rfl (by decide) ?_
      have b58 : 0 ≤ (h.2 0 6) ∧ (h.2 0 6) ≤ 18 := fM_6 s0
      refine zj_geti (v := (h.2 0 6)) (zdk ttX11_hereSet 6 rfl rfl) zf_RX11_132 rfl (k_M s0) rfl ?_
      refine zj_icmp_ge (t := 32) (zdk ttX11_hereSet 7 rfl rfl) (by decide) (by omega) (by omega) (fun c59 => ?_) (fun c59 => ?_)
      · refine zj_iload_n (zdk ttX11_hereSet 20 rfl rfl) rfl ?_
        exact zj_iret rfl (zdk ttX11_hereSet 21 rfl rfl) (Nat.le_refl _) (Nat.le_refl _) ⟨x1, rfl, rfl, by omega⟩
      · refine zj_aload_n (zdk ttX11_hereSet 8 rfl rfl) rfl (by decide) ?_
        refine zj_iload_n (zdk ttX11_hereSet 9 rfl rfl) rfl ?_
        refine zj_callV (av := [.inl x2]) (st := []) (zdk ttX11_hereSet 10 rfl rfl) mb_X11_isHere mv_RX11_135 (ci := 11) rfl rfl (k_M s0) rfl rfl (Nat.le_of_ble_eq_true rfl) (s_X11_isHere l h x2 s0 (by omega)) (rm_ok (by decide) (by decide)) (zq_i fun v61 h62 q60 => ?_)
        obtain ⟨rfl, ⟨rfl, b63⟩ | ⟨rfl, b63⟩⟩ := q60
        · refine zj_if_eq (t := 26) (zdk ttX11_hereSet 11 rfl rfl) (by decide) (by decide) (fun c64 => ?_) (fun c64 => ?_)
          · refine zj_iinc (L' := [some (.inr 0), some (.inl x1), some (.inl (x2 + 1))]) (zdk ttX11_hereSet 18 rfl rfl) rfl (by decide) rfl ?_
            refine zj_goto (t := 4) (zdk ttX11_hereSet 19 rfl rfl) (by decide) ?_
            exact ih57  x1 (x2 + 1) (by omega) (by omega) (by omega)
          · exact absurd c64 (by omega)
        · refine zj_if_eq (t := 26) (zdk ttX11_hereSet 11 rfl rfl) (by decide) (by decide) (fun c65 => ?_) (fun c65 => ?_)
          · exact absurd c65 (by omega)
          · refine zj_iload_n (zdk ttX11_hereSet 12 rfl rfl) rfl ?_
            refine zj_iconst (zdk ttX11_hereSet 13 rfl rfl) ?_
            refine zj_iload_n (zdk ttX11_hereSet 14 rfl rfl) rfl ?_
            refine zj_ishl (zdk ttX11_hereSet 15 rfl rfl) ?_
            have b66 := zshl_1 (n := x2) (a := 0) (b := 17) (lo := 1) (hi := 131072) (by omega) (by decide) (by decide) (by decide)
            refine zj_ior (zdk ttX11_hereSet 16 rfl rfl) ?_
            have b67 := zor_k (a := x1) (b := (zshl 1 x2)) (K := 262144) 18 (by decide) (by decide) (by omega) (by omega)
            refine zj_istore_n (L' := [some (.inr 0), some (.inl (zor x1 (zshl 1 x2))), some (.inl x2)]) (zdk ttX11_hereSet 17 rfl rfl) (by decide) rfl ?_
            refine zj_iinc (L' := [some (.inr 0), some (.inl (zor x1 (zshl 1 x2))), some (.inl (x2 + 1))]) (zdk ttX11_hereSet 18 rfl rfl) rfl (by decide) rfl ?_
            refine zj_goto (t := 4) (zdk ttX11_hereSet 19 rfl rfl) (by decide) ?_
            exact ih57  (zor x1 (zshl 1 x2)) (x2 + 1) (by omega) (by omega) (by omega)
  exact lp53 _ 0 0 (by omega) (by omega) (Nat.lt_succ_self _)

abbrev tX11_kinApart : List (Nat × Instr × Nat) := [(0, .iconst 0, 1), (1, .istore_n 2, 1), (2, .iconst 0, 1), (3, .istore_n 3, 1), (4, .iload_n 3, 1), (5, .aload_n 0, 1), (6, .getfield 132, 3), (9, .if_icmp .ge 40, 3), (12, .aload_n 0, 1), (13, .aload_n 0, 1), (14, .getfield 68, 3), (17, .iload_n 1, 1), (18, .iaload, 1), (19, .iload_n 3, 1), (20, .invokevirtual 309, 3), (23, .ifCond .eq 20, 3), (26, .aload_n 0, 1), (27, .iload_n 3, 1), (28, .invokevirtual 135, 3), (31, .aload_n 0, 1), (32, .iload_n 1, 1), (33, .invokevirtual 135, 3), (36, .if_icmp .eq 7, 3), (39, .iload_n 2, 1), (40, .iconst 1, 1), (41, .iadd, 1), (42, .istore_n 2, 1), (43, .iinc 3 1, 3), (46, .goto (-42), 3), (49, .iload_n 2, 1), (50, .ireturn, 1)]
theorem ttX11_kinApart : zdt cX11_kinApart tX11_kinApart = true := by decide +kernel
abbrev q_X11_kinApart (h : zM) (p1 : Int) : Option zV → zM → Prop := zqi fun v h' => h = h' ∧ ((-2147483648) ≤ v ∧ v ≤ 2147483647)
set_option maxRecDepth 100000 in
set_option maxHeartbeats 4000000 in
theorem s_X11_kinApart (l : Launch) (h : zM) (p1 : Int) (s0 : okM h) (b_p1 : 0 ≤ p1 ∧ p1 ≤ 17) : zT shM l yX11_kinApart cX11_kinApart 4 (some .int) (rmL 2) 0 0 [.inr 0, .inl p1] h (q_X11_kinApart h p1) := by
  refine zT_of (by decide +kernel) (L0 := [some (.inr 0), some (.inl p1), none, none]) rfl (Nat.le_of_ble_eq_true rfl) ?_
  refine zj_iconst (zdk ttX11_kinApart 0 rfl rfl) ?_
  refine zj_istore_n (L' := [some (.inr 0), some (.inl p1), some (.inl 0), none]) (zdk ttX11_kinApart 1 rfl rfl) (by decide) rfl ?_
  refine zj_iconst (zdk ttX11_kinApart 2 rfl rfl) ?_
  refine zj_istore_n (L' := [some (.inr 0), some (.inl p1), some (.inl 0), some (.inl 0)]) (zdk ttX11_kinApart 3 rfl rfl) (by decide) rfl ?_
  have lp232 : ∀ (n4 : Nat) (x1 x2 : Int), (-2147483648 ≤ x1 ∧ x1 ≤ 2147483647) → (0 ≤ x2 ∧ x2 ≤ 18) → (19 - x2).toNat < n4 → zJ shM l yX11_kinApart cX11_kinApart 4 (some .int) (rmL 2) 0 0 (q_X11_kinApart h p1) 0 0 4 [some (.inr 0), some (.inl p1), some (.inl x1), some (.inl x2)] [] h := by
    intro n4
    induction n4 with
    | zero => intro x1 x2 b233 b234 m235; exact absurd m235 (Nat.not_lt_zero _)
    | succ n4 ih236 =>
      intro x1 x2 b233 b234 m235
      refine zj_iload_n (zdk ttX11_kinApart 4 rfl rfl) rfl ?_
      refine zj_aload_n (zdk ttX11_kinApart 5 rfl rfl) rfl (by decide) ?_
      have b237 : 0 ≤ (h.2 0 6) ∧ (h.2 0 6) ≤ 18 := fM_6 s0
      refine zj_geti (v := (h.2 0 6)) (zdk ttX11_kinApart 6 rfl rfl) zf_RX11_132 rfl (k_M s0) rfl ?_
      refine zj_icmp_ge (t := 49) (zdk ttX11_kinApart 7 rfl rfl) (by decide) (by omega) (by omega) (fun c238 => ?_) (fun c238 => ?_)
      · refine zj_iload_n (zdk ttX11_kinApart 29 rfl rfl) rfl ?_
        exact zj_iret rfl (zdk ttX11_kinApart 30 rfl rfl) (Nat.le_refl _) (Nat.le_refl _) ⟨x1, rfl, rfl, by omega⟩
      · refine zj_aload_n (zdk ttX11_kinApart 8 rfl rfl) rfl (by decide) ?_
        refine zj_aload_n (zdk ttX11_kinApart 9 rfl rfl) rfl (by decide) ?_
        refine zj_getr (r := 19) (zdk ttX11_kinApart 10 rfl rfl) zf_RX11_68 rfl (k_M s0) (rfM_38 s0) ?_
        refine zj_iload_n (zdk ttX11_kinApart 11 rfl rfl) rfl ?_
        have b239 : -2147483648 ≤ (h.2 19 p1) ∧ (h.2 19 p1) ≤ 2147483647 := abM_19 s0 p1
        refine zj_iald (v := (h.2 19 p1)) (zdk ttX11_kinApart 12 rfl rfl) (kaM_19 s0) (by decide) (by omega) rfl ?_
        refine zj_iload_n (zdk ttX11_kinApart 13 rfl rfl) rfl ?_
        refine zj_callV (av := [.inl (h.2 19 p1), .inl x2]) (st := []) (zdk ttX11_kinApart 14 rfl rfl) mb_X11_has mv_RX11_309 (ci := 11) rfl rfl (k_M s0) rfl rfl (Nat.le_of_ble_eq_true rfl) (s_X11_has l h (h.2 19 p1) x2 s0 (by omega) (by omega)) (rm_ok (by decide) (by decide)) (zq_i fun v241 h242 q240 => ?_)
        obtain ⟨rfl, ⟨rfl, b243⟩ | ⟨rfl, b243⟩⟩ := q240
        · refine zj_if_eq (t := 43) (zdk ttX11_kinApart 15 rfl rfl) (by decide) (by decide) (fun c244 => ?_) (fun c244 => ?_)
          · refine zj_iinc (L' := [some (.inr 0), some (.inl p1), some (.inl x1), some (.inl (x2 + 1))]) (zdk ttX11_kinApart 27 rfl rfl) rfl (by decide) rfl ?_
            refine zj_goto (t := 4) (zdk ttX11_kinApart 28 rfl rfl) (by decide) ?_
            exact ih236  x1 (x2 + 1) (by omega) (by omega) (by omega)
          · exact absurd c244 (by omega)
        · refine zj_if_eq (t := 43) (zdk ttX11_kinApart 15 rfl rfl) (by decide) (by decide) (fun c245 => ?_) (fun c245 => ?_)
          · exact absurd c245 (by omega)
          · refine zj_aload_n (zdk ttX11_kinApart 16 rfl rfl) rfl (by decide) ?_
            refine zj_iload_n (zdk ttX11_kinApart 17 rfl rfl) rfl ?_
            refine zj_callV (av := [.inl x2]) (st := []) (zdk ttX11_kinApart 18 rfl rfl) mb_X11_isHere mv_RX11_135 (ci := 11) rfl rfl (k_M s0) rfl rfl (Nat.le_of_ble_eq_true rfl) (s_X11_isHere l h x2 s0 (by omega)) (rm_ok (by decide) (by decide)) (zq_i fun v247 h248 q246 => ?_)
            obtain ⟨rfl, ⟨rfl, b249⟩ | ⟨rfl, b249⟩⟩ := q246
            · refine zj_aload_n (zdk ttX11_kinApart 19 rfl rfl) rfl (by decide) ?_
              refine zj_iload_n (zdk ttX11_kinApart 20 rfl rfl) rfl ?_
              refine zj_callV (av := [.inl p1]) (st := [.inl 0]) (zdk ttX11_kinApart 21 rfl rfl) mb_X11_isHere mv_RX11_135 (ci := 11) rfl rfl (k_M s0) rfl rfl (Nat.le_of_ble_eq_true rfl) (s_X11_isHere l h p1 s0 (by omega)) (rm_ok (by decide) (by decide)) (zq_i fun v251 h252 q250 => ?_)
              obtain ⟨rfl, ⟨rfl, b253⟩ | ⟨rfl, b253⟩⟩ := q250
              · refine zj_icmp_eq (t := 43) (zdk ttX11_kinApart 22 rfl rfl) (by decide) (by decide) (by decide) (fun c254 => ?_) (fun c254 => ?_)
                · refine zj_iinc (L' := [some (.inr 0), some (.inl p1), some (.inl x1), some (.inl (x2 + 1))]) (zdk ttX11_kinApart 27 rfl rfl) rfl (by decide) rfl ?_
                  refine zj_goto (t := 4) (zdk ttX11_kinApart 28 rfl rfl) (by decide) ?_
                  exact ih236  x1 (x2 + 1) (by omega) (by omega) (by omega)
                · exact absurd c254 (by omega)
              · refine zj_icmp_eq (t := 43) (zdk ttX11_kinApart 22 rfl rfl) (by decide) (by decide) (by decide) (fun c255 => ?_) (fun c255 => ?_)
                · exact absurd c255 (by omega)
                · refine zj_iload_n (zdk ttX11_kinApart 23 rfl rfl) rfl ?_
                  refine zj_iconst (zdk ttX11_kinApart 24 rfl rfl) ?_
                  refine zj_iadd (zdk ttX11_kinApart 25 rfl rfl) ?_
                  refine zj_wrap ?_
                  have b256 := zwp_in (x1 + 1)
                  refine zj_istore_n (L' := [some (.inr 0), some (.inl p1), some (.inl (zwp (x1 + 1))), some (.inl x2)]) (zdk ttX11_kinApart 26 rfl rfl) (by decide) rfl ?_
                  refine zj_iinc (L' := [some (.inr 0), some (.inl p1), some (.inl (zwp (x1 + 1))), some (.inl (x2 + 1))]) (zdk ttX11_kinApart 27 rfl rfl) rfl (by decide) rfl ?_
                  refine zj_goto (t := 4) (zdk ttX11_kinApart 28 rfl rfl) (by decide) ?_
                  exact ih236  (zwp (x1 + 1)) (x2 + 1) (by omega) (by omega) (by omega)
            · refine zj_aload_n (zdk ttX11_kinApart 19 rfl rfl) rfl (by decide) ?_
              refine zj_iload_n (zdk ttX11_kinApart 20 rfl rfl) rfl ?_
              refine zj_callV (av := [.inl p1]) (st := [.inl 1]) (zdk ttX11_kinApart 21 rfl rfl) mb_X11_isHere mv_RX11_135 (ci := 11) rfl rfl (k_M s0) rfl rfl (Nat.le_of_ble_eq_true rfl) (s_X11_isHere l h p1 s0 (by omega)) (rm_ok (by decide) (by decide)) (zq_i fun v258 h259 q257 => ?_)
              obtain ⟨rfl, ⟨rfl, b260⟩ | ⟨rfl, b260⟩⟩ := q257
              · refine zj_icmp_eq (t := 43) (zdk ttX11_kinApart 22 rfl rfl) (by decide) (by decide) (by decide) (fun c261 => ?_) (fun c261 => ?_)
                · exact absurd c261 (by omega)
                · refine zj_iload_n (zdk ttX11_kinApart 23 rfl rfl) rfl ?_
                  refine zj_iconst (zdk ttX11_kinApart 24 rfl rfl) ?_
                  refine zj_iadd (zdk ttX11_kinApart 25 rfl rfl) ?_
                  refine zj_wrap ?_
                  have b262 := zwp_in (x1 + 1)
                  refine zj_istore_n (L' := [some (.inr 0), some (.inl p1), some (.inl (zwp (x1 + 1))), some (.inl x2)]) (zdk ttX11_kinApart 26 rfl rfl) (by decide) rfl ?_
                  refine zj_iinc (L' := [some (.inr 0), some (.inl p1), some (.inl (zwp (x1 + 1))), some (.inl (x2 + 1))]) (zdk ttX11_kinApart 27 rfl rfl) rfl (by decide) rfl ?_
                  refine zj_goto (t := 4) (zdk ttX11_kinApart 28 rfl rfl) (by decide) ?_
                  exact ih236  (zwp (x1 + 1)) (x2 + 1) (by omega) (by omega) (by omega)
              · refine zj_icmp_eq (t := 43) (zdk ttX11_kinApart 22 rfl rfl) (by decide) (by decide) (by decide) (fun c263 => ?_) (fun c263 => ?_)
                · refine zj_iinc (L' := [some (.inr 0), some (.inl p1), some (.inl x1), some (.inl (x2 + 1))]) (zdk ttX11_kinApart 27 rfl rfl) rfl (by decide) rfl ?_
                  refine zj_goto (t := 4) (zdk ttX11_kinApart 28 rfl rfl) (by decide) ?_
                  exact ih236  x1 (x2 + 1) (by omega) (by omega) (by omega)
                · exact absurd c263 (by omega)
  exact lp232 _ 0 0 (by omega) (by omega) (Nat.lt_succ_self _)

abbrev tX11_keepsAhead : List (Nat × Instr × Nat) := [(0, .aload_n 0, 1), (1, .getfield 123, 3), (4, .bipush 6, 2), (6, .if_icmp .ne 47, 3), (9, .aload_n 0, 1), (10, .aload_n 0, 1), (11, .getfield 123, 3), (14, .iconst 1, 1), (15, .isub, 1), (16, .putfield 123, 3), (19, .iconst 0, 1), (20, .istore_n 1, 1), (21, .iload_n 1, 1), (22, .bipush 63, 2), (24, .aload_n 0, 1), (25, .getfield 123, 3), (28, .imul, 1), (29, .if_icmp .ge 24, 3), (32, .aload_n 0, 1), (33, .getfield 13, 3), (36, .iload_n 1, 1), (37, .aload_n 0, 1), (38, .getfield 13, 3), (41, .iload_n 1, 1), (42, .bipush 63, 2), (44, .iadd, 1), (45, .iaload, 1), (46, .iastore, 1), (47, .iinc 1 1, 3), (50, .goto (-29), 3), (53, .iconst 0, 1), (54, .istore_n 1, 1), (55, .iload_n 1, 1), (56, .bipush 63, 2), (58, .if_icmp .ge 29, 3), (61, .aload_n 0, 1), (62, .getfield 13, 3), (65, .bipush 63, 2), (67, .aload_n 0, 1), (68, .getfield 123, 3), (71, .imul, 1), (72, .iload_n 1, 1), (73, .iadd, 1), (74, .aload_n 0, 1), (75, .getfield 7, 3), (78, .iload_n 1, 1), (79, .iaload, 1), (80, .iastore, 1), (81, .iinc 1 1, 3), (84, .goto (-29), 3), (87, .aload_n 0, 1), (88, .aload_n 0, 1), (89, .getfield 123, 3), (92, .iconst 1, 1), (93, .iadd, 1), (94, .putfield 123, 3), (97, .return_, 1)]
theorem ttX11_keepsAhead : zdt cX11_keepsAhead tX11_keepsAhead = true := by decide +kernel
abbrev q_X11_keepsAhead (h : zM) : Option zV → zM → Prop := zqv fun h' => okM h' ∧ zfr [3] [2] h h'
set_option maxRecDepth 100000 in
set_option maxHeartbeats 4000000 in
theorem s_X11_keepsAhead (l : Launch) (h : zM) (s0 : okM h) : zT shM l yX11_keepsAhead cX11_keepsAhead 2 none (rmL 1) 0 0 [.inr 0] h (q_X11_keepsAhead h) := by
  refine zT_of (by decide +kernel) (L0 := [some (.inr 0), none]) rfl (Nat.le_of_ble_eq_true rfl) ?_
  refine zj_aload_n (zdk ttX11_keepsAhead 0 rfl rfl) rfl (by decide) ?_
  have b1 : 0 ≤ (h.2 0 3) ∧ (h.2 0 3) ≤ 6 := fM_3 s0
  refine zj_geti (v := (h.2 0 3)) (zdk ttX11_keepsAhead 1 rfl rfl) zf_RX11_123 rfl (k_M s0) rfl ?_
  refine zj_bipush (zdk ttX11_keepsAhead 2 rfl rfl) (by decide) ?_
  refine zj_icmp_ne (t := 53) (zdk ttX11_keepsAhead 3 rfl rfl) (by decide) (by omega) (by decide) (fun c2 => ?_) (fun c2 => ?_)
  · refine zj_iconst (zdk ttX11_keepsAhead 30 rfl rfl) ?_
    refine zj_istore_n (L' := [some (.inr 0), some (.inl 0)]) (zdk ttX11_keepsAhead 31 rfl rfl) (by decide) rfl ?_
    have lp55 : ∀ (n55 : Nat) (x3 : Int) (h4 : zM), (0 ≤ x3 ∧ x3 ≤ 63) → okM h4 → zfr [3] [2] h h4 → (h4.2 0 3 ≤ 5) → (64 - x3).toNat < n55 → zJ shM l yX11_keepsAhead cX11_keepsAhead 2 none (rmL 1) 0 0 (q_X11_keepsAhead h) 0 0 55 [some (.inr 0), some (.inl x3)] [] h4 := by
      intro n55
      induction n55 with
      | zero => intro x3 h4 b56 s5 f6 u57 m58; exact absurd m58 (Nat.not_lt_zero _)
      | succ n55 ih59 =>
        intro x3 h4 b56 s5 f6 u57 m58
        refine zj_iload_n (zdk ttX11_keepsAhead 32 rfl rfl) rfl ?_
        refine zj_bipush (zdk ttX11_keepsAhead 33 rfl rfl) (by decide) ?_
        refine zj_icmp_ge (t := 87) (zdk ttX11_keepsAhead 34 rfl rfl) (by decide) (by omega) (by decide) (fun c60 => ?_) (fun c60 => ?_)
        · refine zj_aload_n (zdk ttX11_keepsAhead 50 rfl rfl) rfl (by decide) ?_
          refine zj_aload_n (zdk ttX11_keepsAhead 51 rfl rfl) rfl (by decide) ?_
          have b61 : 0 ≤ (h4.2 0 3) ∧ (h4.2 0 3) ≤ 6 := fM_3 s5
          refine zj_geti (v := (h4.2 0 3)) (zdk ttX11_keepsAhead 52 rfl rfl) zf_RX11_123 rfl (k_M s5) rfl ?_
          refine zj_iconst (zdk ttX11_keepsAhead 53 rfl rfl) ?_
          refine zj_iadd (zdk ttX11_keepsAhead 54 rfl rfl) ?_
          refine zj_puti (zdk ttX11_keepsAhead 55 rfl rfl) zf_RX11_123 rfl (k_M s5) (Or.inl zw_RX11_123) (k2 := 3) rfl (fun h62 e63 => ?_)
          have s64 : okM h62 := fwM_3 s5 e63 (by omega)
          have f65 : zfr [3] [2] h h62 := zfr_wf f6 e63 rfl
          exact zj_vret rfl (zdk ttX11_keepsAhead 56 rfl rfl) (Nat.le_refl _) (Nat.le_refl _) ⟨rfl, s64, f65⟩
        · refine zj_aload_n (zdk ttX11_keepsAhead 35 rfl rfl) rfl (by decide) ?_
          refine zj_getr (r := 2) (zdk ttX11_keepsAhead 36 rfl rfl) zf_RX11_13 rfl (k_M s5) (rfM_2 s5) ?_
          refine zj_bipush (zdk ttX11_keepsAhead 37 rfl rfl) (by decide) ?_
          refine zj_aload_n (zdk ttX11_keepsAhead 38 rfl rfl) rfl (by decide) ?_
          have b66 : 0 ≤ (h4.2 0 3) ∧ (h4.2 0 3) ≤ 6 := fM_3 s5
          refine zj_geti (v := (h4.2 0 3)) (zdk ttX11_keepsAhead 39 rfl rfl) zf_RX11_123 rfl (k_M s5) rfl ?_
          refine zj_imul (zdk ttX11_keepsAhead 40 rfl rfl) ?_
          refine zj_iload_n (zdk ttX11_keepsAhead 41 rfl rfl) rfl ?_
          refine zj_iadd (zdk ttX11_keepsAhead 42 rfl rfl) ?_
          refine zj_aload_n (zdk ttX11_keepsAhead 43 rfl rfl) rfl (by decide) ?_
          refine zj_getr (r := 1) (zdk ttX11_keepsAhead 44 rfl rfl) zf_RX11_7 rfl (k_M s5) (rfM_1 s5) ?_
          refine zj_iload_n (zdk ttX11_keepsAhead 45 rfl rfl) rfl ?_
          have b67 := (rM_b s0 1 x3 (by omega)).2
          have b68 : -2147483648 ≤ (h.2 1 x3) ∧ (h.2 1 x3) ≤ 2147483647 := (rM_b s0 1 x3 (by omega)).1
          refine zj_iald (v := (h.2 1 x3)) (zdk ttX11_keepsAhead 46 rfl rfl) (kaM_1 s5) (by decide) (by omega) (zfr_a f6 rfl (by decide)) ?_
          refine zj_iast (zdk ttX11_keepsAhead 47 rfl rfl) (kaM_2 s5) (by decide) (by omega) (fun h69 e70 => ?_)
          refine zj_iinc (L' := [some (.inr 0), some (.inl (x3 + 1))]) (zdk ttX11_keepsAhead 48 rfl rfl) rfl (by decide) rfl ?_
          refine zj_goto (t := 55) (zdk ttX11_keepsAhead 49 rfl rfl) (by decide) ?_
          have b71 : h69.2 0 3 = (h4.2 0 3) := (zwr_r e70 (by first | decide | exact (absurd ·.1 (by decide)) | exact (absurd ·.2 (by decide)) | omega))
          have s72 : okM h69 := okM_wr s5 e70 (by decide) (by omega) (by omega)
          have f73 : zfr [3] [2] h h69 := zfr_wa f6 e70 rfl
          exact ih59  (x3 + 1) h69 (by omega) s72 f73 (by omega) (by omega)
    exact lp55 _ 0 h (by omega) s0 (zfr_r _ _ _) (by omega) (Nat.lt_succ_self _)
  · refine zj_aload_n (zdk ttX11_keepsAhead 4 rfl rfl) rfl (by decide) ?_
    refine zj_aload_n (zdk ttX11_keepsAhead 5 rfl rfl) rfl (by decide) ?_
    refine zj_geti (v := (h.2 0 3)) (zdk ttX11_keepsAhead 6 rfl rfl) zf_RX11_123 rfl (k_M s0) rfl ?_
    refine zj_iconst (zdk ttX11_keepsAhead 7 rfl rfl) ?_
    refine zj_isub (zdk ttX11_keepsAhead 8 rfl rfl) ?_
    refine zj_puti (zdk ttX11_keepsAhead 9 rfl rfl) zf_RX11_123 rfl (k_M s0) (Or.inl zw_RX11_123) (k2 := 3) rfl (fun h74 e75 => ?_)
    refine zj_iconst (zdk ttX11_keepsAhead 10 rfl rfl) ?_
    refine zj_istore_n (L' := [some (.inr 0), some (.inl 0)]) (zdk ttX11_keepsAhead 11 rfl rfl) (by decide) rfl ?_
    have lp146 : ∀ (n21 : Nat) (x76 : Int) (h77 : zM), (0 ≤ x76 ∧ x76 ≤ 378) → okM h77 → zfr [3] [2] h h77 → (h77.2 0 3 = 5) → (379 - x76).toNat < n21 → zJ shM l yX11_keepsAhead cX11_keepsAhead 2 none (rmL 1) 0 0 (q_X11_keepsAhead h) 0 0 21 [some (.inr 0), some (.inl x76)] [] h77 := by
      intro n21
      induction n21 with
      | zero => intro x76 h77 b147 s78 f79 u148 m149; exact absurd m149 (Nat.not_lt_zero _)
      | succ n21 ih150 =>
        intro x76 h77 b147 s78 f79 u148 m149
        refine zj_iload_n (zdk ttX11_keepsAhead 12 rfl rfl) rfl ?_
        refine zj_bipush (zdk ttX11_keepsAhead 13 rfl rfl) (by decide) ?_
        refine zj_aload_n (zdk ttX11_keepsAhead 14 rfl rfl) rfl (by decide) ?_
        have b151 : 0 ≤ (h77.2 0 3) ∧ (h77.2 0 3) ≤ 6 := fM_3 s78
        refine zj_geti (v := (h77.2 0 3)) (zdk ttX11_keepsAhead 15 rfl rfl) zf_RX11_123 rfl (k_M s78) rfl ?_
        refine zj_imul (zdk ttX11_keepsAhead 16 rfl rfl) ?_
        refine zj_icmp_ge (t := 53) (zdk ttX11_keepsAhead 17 rfl rfl) (by decide) (by omega) (by omega) (fun c152 => ?_) (fun c152 => ?_)
        · refine zj_iconst (zdk ttX11_keepsAhead 30 rfl rfl) ?_
          refine zj_istore_n (L' := [some (.inr 0), some (.inl 0)]) (zdk ttX11_keepsAhead 31 rfl rfl) (by decide) rfl ?_
          have lp205 : ∀ (n55 : Nat) (x153 : Int) (h154 : zM), (0 ≤ x153 ∧ x153 ≤ 63) → okM h154 → zfr [3] [2] h h154 → (h154.2 0 3 ≤ 5) → (64 - x153).toNat < n55 → zJ shM l yX11_keepsAhead cX11_keepsAhead 2 none (rmL 1) 0 0 (q_X11_keepsAhead h) 0 0 55 [some (.inr 0), some (.inl x153)] [] h154 := by
            intro n55
            induction n55 with
            | zero => intro x153 h154 b206 s155 f156 u207 m208; exact absurd m208 (Nat.not_lt_zero _)
            | succ n55 ih209 =>
              intro x153 h154 b206 s155 f156 u207 m208
              refine zj_iload_n (zdk ttX11_keepsAhead 32 rfl rfl) rfl ?_
              refine zj_bipush (zdk ttX11_keepsAhead 33 rfl rfl) (by decide) ?_
              refine zj_icmp_ge (t := 87) (zdk ttX11_keepsAhead 34 rfl rfl) (by decide) (by omega) (by decide) (fun c210 => ?_) (fun c210 => ?_)
              · refine zj_aload_n (zdk ttX11_keepsAhead 50 rfl rfl) rfl (by decide) ?_
                refine zj_aload_n (zdk ttX11_keepsAhead 51 rfl rfl) rfl (by decide) ?_
                have b211 : 0 ≤ (h154.2 0 3) ∧ (h154.2 0 3) ≤ 6 := fM_3 s155
                refine zj_geti (v := (h154.2 0 3)) (zdk ttX11_keepsAhead 52 rfl rfl) zf_RX11_123 rfl (k_M s155) rfl ?_
                refine zj_iconst (zdk ttX11_keepsAhead 53 rfl rfl) ?_
                refine zj_iadd (zdk ttX11_keepsAhead 54 rfl rfl) ?_
                refine zj_puti (zdk ttX11_keepsAhead 55 rfl rfl) zf_RX11_123 rfl (k_M s155) (Or.inl zw_RX11_123) (k2 := 3) rfl (fun h212 e213 => ?_)
                have s214 : okM h212 := fwM_3 s155 e213 (by omega)
                have f215 : zfr [3] [2] h h212 := zfr_wf f156 e213 rfl
                exact zj_vret rfl (zdk ttX11_keepsAhead 56 rfl rfl) (Nat.le_refl _) (Nat.le_refl _) ⟨rfl, s214, f215⟩
              · refine zj_aload_n (zdk ttX11_keepsAhead 35 rfl rfl) rfl (by decide) ?_
                refine zj_getr (r := 2) (zdk ttX11_keepsAhead 36 rfl rfl) zf_RX11_13 rfl (k_M s155) (rfM_2 s155) ?_
                refine zj_bipush (zdk ttX11_keepsAhead 37 rfl rfl) (by decide) ?_
                refine zj_aload_n (zdk ttX11_keepsAhead 38 rfl rfl) rfl (by decide) ?_
                have b216 : 0 ≤ (h154.2 0 3) ∧ (h154.2 0 3) ≤ 6 := fM_3 s155
                refine zj_geti (v := (h154.2 0 3)) (zdk ttX11_keepsAhead 39 rfl rfl) zf_RX11_123 rfl (k_M s155) rfl ?_
                refine zj_imul (zdk ttX11_keepsAhead 40 rfl rfl) ?_
                refine zj_iload_n (zdk ttX11_keepsAhead 41 rfl rfl) rfl ?_
                refine zj_iadd (zdk ttX11_keepsAhead 42 rfl rfl) ?_
                refine zj_aload_n (zdk ttX11_keepsAhead 43 rfl rfl) rfl (by decide) ?_
                refine zj_getr (r := 1) (zdk ttX11_keepsAhead 44 rfl rfl) zf_RX11_7 rfl (k_M s155) (rfM_1 s155) ?_
                refine zj_iload_n (zdk ttX11_keepsAhead 45 rfl rfl) rfl ?_
                have b217 := (rM_b s0 1 x153 (by omega)).2
                have b218 : -2147483648 ≤ (h.2 1 x153) ∧ (h.2 1 x153) ≤ 2147483647 := (rM_b s0 1 x153 (by omega)).1
                refine zj_iald (v := (h.2 1 x153)) (zdk ttX11_keepsAhead 46 rfl rfl) (kaM_1 s155) (by decide) (by omega) (zfr_a f156 rfl (by decide)) ?_
                refine zj_iast (zdk ttX11_keepsAhead 47 rfl rfl) (kaM_2 s155) (by decide) (by omega) (fun h219 e220 => ?_)
                refine zj_iinc (L' := [some (.inr 0), some (.inl (x153 + 1))]) (zdk ttX11_keepsAhead 48 rfl rfl) rfl (by decide) rfl ?_
                refine zj_goto (t := 55) (zdk ttX11_keepsAhead 49 rfl rfl) (by decide) ?_
                have b221 : h219.2 0 3 = (h154.2 0 3) := (zwr_r e220 (by first | decide | exact (absurd ·.1 (by decide)) | exact (absurd ·.2 (by decide)) | omega))
                have s222 : okM h219 := okM_wr s155 e220 (by decide) (by omega) (by omega)
                have f223 : zfr [3] [2] h h219 := zfr_wa f156 e220 rfl
                exact ih209  (x153 + 1) h219 (by omega) s222 f223 (by omega) (by omega)
          exact lp205 _ 0 h77 (by omega) s78 f79 (by omega) (Nat.lt_succ_self _)
        · refine zj_aload_n (zdk ttX11_keepsAhead 18 rfl rfl) rfl (by decide) ?_
          refine zj_getr (r := 2) (zdk ttX11_keepsAhead 19 rfl rfl) zf_RX11_13 rfl (k_M s78) (rfM_2 s78) ?_
          refine zj_iload_n (zdk ttX11_keepsAhead 20 rfl rfl) rfl ?_
          refine zj_aload_n (zdk ttX11_keepsAhead 21 rfl rfl) rfl (by decide) ?_
          refine zj_getr (r := 2) (zdk ttX11_keepsAhead 22 rfl rfl) zf_RX11_13 rfl (k_M s78) (rfM_2 s78) ?_
          refine zj_iload_n (zdk ttX11_keepsAhead 23 rfl rfl) rfl ?_
          refine zj_bipush (zdk ttX11_keepsAhead 24 rfl rfl) (by decide) ?_
          refine zj_iadd (zdk ttX11_keepsAhead 25 rfl rfl) ?_
          have b224 := (rM_b s78 2 (x76 + 63) (by omega)).2
          have b225 : -2147483648 ≤ (h77.2 2 (x76 + 63)) ∧ (h77.2 2 (x76 + 63)) ≤ 2147483647 := (rM_b s78 2 (x76 + 63) (by omega)).1
          refine zj_iald (v := (h77.2 2 (x76 + 63))) (zdk ttX11_keepsAhead 26 rfl rfl) (kaM_2 s78) (by decide) (by omega) rfl ?_
          refine zj_iast (zdk ttX11_keepsAhead 27 rfl rfl) (kaM_2 s78) (by decide) (by omega) (fun h226 e227 => ?_)
          refine zj_iinc (L' := [some (.inr 0), some (.inl (x76 + 1))]) (zdk ttX11_keepsAhead 28 rfl rfl) rfl (by decide) rfl ?_
          refine zj_goto (t := 21) (zdk ttX11_keepsAhead 29 rfl rfl) (by decide) ?_
          have b228 : h226.2 0 3 = (h77.2 0 3) := (zwr_r e227 (by first | decide | exact (absurd ·.1 (by decide)) | exact (absurd ·.2 (by decide)) | omega))
          have s229 : okM h226 := okM_wr s78 e227 (by decide) (by omega) (by omega)
          have f230 : zfr [3] [2] h h226 := zfr_wa f79 e227 rfl
          exact ih150  (x76 + 1) h226 (by omega) s229 f230 (by omega) (by omega)
    have b231 : h74.2 0 3 = ((h.2 0 3) - 1) := (zwr_v e75)
    have s232 : okM h74 := fwM_3 s0 e75 (by omega)
    have f233 : zfr [3] [2] h h74 := zfr_wf (zfr_r _ _ _) e75 rfl
    exact lp146 _ 0 h74 (by omega) s232 f233 (by omega) (Nat.lt_succ_self _)

abbrev tX11_undo : List (Nat × Instr × Nat) := [(0, .aload_n 0, 1), (1, .iconst 0, 1), (2, .putfield 120, 3), (5, .aload_n 0, 1), (6, .getfield 123, 3), (9, .ifCond .ne 5, 3), (12, .iconst 0, 1), (13, .ireturn, 1), (14, .aload_n 0, 1), (15, .aload_n 0, 1), (16, .getfield 123, 3), (19, .iconst 1, 1), (20, .isub, 1), (21, .putfield 123, 3), (24, .iconst 0, 1), (25, .istore_n 1, 1), (26, .iload_n 1, 1), (27, .bipush 63, 2), (29, .if_icmp .ge 29, 3), (32, .aload_n 0, 1), (33, .getfield 7, 3), (36, .iload_n 1, 1), (37, .aload_n 0, 1), (38, .getfield 13, 3), (41, .bipush 63, 2), (43, .aload_n 0, 1), (44, .getfield 123, 3), (47, .imul, 1), (48, .iload_n 1, 1), (49, .iadd, 1), (50, .iaload, 1), (51, .iastore, 1), (52, .iinc 1 1, 3), (55, .goto (-29), 3), (58, .iconst 1, 1), (59, .ireturn, 1)]
theorem ttX11_undo : zdt cX11_undo tX11_undo = true := by decide +kernel
abbrev q_X11_undo (h : zM) : Option zV → zM → Prop := zqi fun v h' => (0 ≤ v ∧ v ≤ 1) ∧ okM h' ∧ zfr [0, 3] [1] h h'
set_option maxRecDepth 100000 in
set_option maxHeartbeats 4000000 in
theorem s_X11_undo (l : Launch) (h : zM) (s0 : okM h) : zT shM l yX11_undo cX11_undo 2 (some .boolean) (rmL 1) 0 0 [.inr 0] h (q_X11_undo h) := by
  refine zT_of (by decide +kernel) (L0 := [some (.inr 0), none]) rfl (Nat.le_of_ble_eq_true rfl) ?_
  refine zj_aload_n (zdk ttX11_undo 0 rfl rfl) rfl (by decide) ?_
  refine zj_iconst (zdk ttX11_undo 1 rfl rfl) ?_
  refine zj_puti (zdk ttX11_undo 2 rfl rfl) zf_RX11_120 rfl (k_M s0) (Or.inl zw_RX11_120) (k2 := 0) rfl (fun h1 e2 => ?_)
  refine zj_aload_n (zdk ttX11_undo 3 rfl rfl) rfl (by decide) ?_
  have b3 : 0 ≤ (h.2 0 3) ∧ (h.2 0 3) ≤ 6 := fM_3 s0
  have s4 : okM h1 := fwM_0 s0 e2 (by omega)
  refine zj_geti (v := (h.2 0 3)) (zdk ttX11_undo 4 rfl rfl) zf_RX11_123 rfl (k_M s4) (zwr_r e2 (by first | decide | exact (absurd ·.1 (by decide)) | exact (absurd ·.2 (by decide)) | omega)) ?_
  refine zj_if_ne (t := 14) (zdk ttX11_undo 5 rfl rfl) (by decide) (by omega) (fun c5 => ?_) (fun c5 => ?_)
  · refine zj_aload_n (zdk ttX11_undo 8 rfl rfl) rfl (by decide) ?_
    refine zj_aload_n (zdk ttX11_undo 9 rfl rfl) rfl (by decide) ?_
    refine zj_geti (v := (h.2 0 3)) (zdk ttX11_undo 10 rfl rfl) zf_RX11_123 rfl (k_M s4) (zwr_r e2 (by first | decide | exact (absurd ·.1 (by decide)) | exact (absurd ·.2 (by decide)) | omega)) ?_
    refine zj_iconst (zdk ttX11_undo 11 rfl rfl) ?_
    refine zj_isub (zdk ttX11_undo 12 rfl rfl) ?_
    refine zj_puti (zdk ttX11_undo 13 rfl rfl) zf_RX11_123 rfl (k_M s4) (Or.inl zw_RX11_123) (k2 := 3) rfl (fun h6 e7 => ?_)
    refine zj_iconst (zdk ttX11_undo 14 rfl rfl) ?_
    refine zj_istore_n (L' := [some (.inr 0), some (.inl 0)]) (zdk ttX11_undo 15 rfl rfl) (by decide) rfl ?_
    have lp42 : ∀ (n26 : Nat) (x8 : Int) (h9 : zM), (0 ≤ x8 ∧ x8 ≤ 63) → okM h9 → zfr [0, 3] [1] h h9 → (h9.2 0 3 ≤ 5) → (64 - x8).toNat < n26 → zJ shM l yX11_undo cX11_undo 2 (some .boolean) (rmL 1) 0 0 (q_X11_undo h) 0 0 26 [some (.inr 0), some (.inl x8)] [] h9 := by
      intro n26
      induction n26 with
      | zero => intro x8 h9 b43 s10 f11 u44 m45; exact absurd m45 (Nat.not_lt_zero _)
      | succ n26 ih46 =>
        intro x8 h9 b43 s10 f11 u44 m45
        refine zj_iload_n (zdk ttX11_undo 16 rfl rfl) rfl ?_
        refine zj_bipush (zdk ttX11_undo 17 rfl rfl) (by decide) ?_
        refine zj_icmp_ge (t := 58) (zdk ttX11_undo 18 rfl rfl) (by decide) (by omega) (by decide) (fun c47 => ?_) (fun c47 => ?_)
        · refine zj_iconst (zdk ttX11_undo 34 rfl rfl) ?_
          exact zj_zret rfl (zdk ttX11_undo 35 rfl rfl) (Nat.le_refl _) (Nat.le_refl _) (by omega) ⟨1, rfl, by omega, s10, f11⟩
        · refine zj_aload_n (zdk ttX11_undo 19 rfl rfl) rfl (by decide) ?_
          refine zj_getr (r := 1) (zdk ttX11_undo 20 rfl rfl) zf_RX11_7 rfl (k_M s10) (rfM_1 s10) ?_
          refine zj_iload_n (zdk ttX11_undo 21 rfl rfl) rfl ?_
          refine zj_aload_n (zdk ttX11_undo 22 rfl rfl) rfl (by decide) ?_
          refine zj_getr (r := 2) (zdk ttX11_undo 23 rfl rfl) zf_RX11_13 rfl (k_M s10) (rfM_2 s10) ?_
          refine zj_bipush (zdk ttX11_undo 24 rfl rfl) (by decide) ?_
          refine zj_aload_n (zdk ttX11_undo 25 rfl rfl) rfl (by decide) ?_
          have b48 : 0 ≤ (h9.2 0 3) ∧ (h9.2 0 3) ≤ 6 := fM_3 s10
          refine zj_geti (v := (h9.2 0 3)) (zdk ttX11_undo 26 rfl rfl) zf_RX11_123 rfl (k_M s10) rfl ?_
          refine zj_imul (zdk ttX11_undo 27 rfl rfl) ?_
          refine zj_iload_n (zdk ttX11_undo 28 rfl rfl) rfl ?_
          refine zj_iadd (zdk ttX11_undo 29 rfl rfl) ?_
          have b49 := (rM_b s0 2 ((63 * (h9.2 0 3)) + x8) (by omega)).2
          have b50 : -2147483648 ≤ (h.2 2 ((63 * (h9.2 0 3)) + x8)) ∧ (h.2 2 ((63 * (h9.2 0 3)) + x8)) ≤ 2147483647 := (rM_b s0 2 ((63 * (h9.2 0 3)) + x8) (by omega)).1
          refine zj_iald (v := (h.2 2 ((63 * (h9.2 0 3)) + x8))) (zdk ttX11_undo 30 rfl rfl) (kaM_2 s10) (by decide) (by omega) (zfr_a f11 rfl (by decide)) ?_
          refine zj_iast (zdk ttX11_undo 31 rfl rfl) (kaM_1 s10) (by decide) (by omega) (fun h51 e52 => ?_)
          refine zj_iinc (L' := [some (.inr 0), some (.inl (x8 + 1))]) (zdk ttX11_undo 32 rfl rfl) rfl (by decide) rfl ?_
          refine zj_goto (t := 26) (zdk ttX11_undo 33 rfl rfl) (by decide) ?_
          have b53 : h51.2 0 3 = (h9.2 0 3) := (zwr_r e52 (by first | decide | exact (absurd ·.1 (by decide)) | exact (absurd ·.2 (by decide)) | omega))
          have s54 : okM h51 := okM_wr s10 e52 (by decide) (by omega) (by omega)
          have f55 : zfr [0, 3] [1] h h51 := zfr_wa f11 e52 rfl
          exact ih46  (x8 + 1) h51 (by omega) s54 f55 (by omega) (by omega)
    have b56 : h6.2 0 3 = ((h.2 0 3) - 1) := (zwr_v e7)
    have s57 : okM h6 := fwM_3 s4 e7 (by omega)
    have f59 : zfr [0, 3] [1] h h1 := zfr_wf (zfr_r _ _ _) e2 rfl
    have f58 : zfr [0, 3] [1] h h6 := zfr_wf f59 e7 rfl
    exact lp42 _ 0 h6 (by omega) s57 f58 (by omega) (Nat.lt_succ_self _)
  · refine zj_iconst (zdk ttX11_undo 6 rfl rfl) ?_
    have f60 : zfr [0, 3] [1] h h1 := zfr_wf (zfr_r _ _ _) e2 rfl
    exact zj_zret rfl (zdk ttX11_undo 7 rfl rfl) (Nat.le_refl _) (Nat.le_refl _) (by omega) ⟨0, rfl, by omega, s4, f60⟩

abbrev tX11_thinks : List (Nat × Instr × Nat) := [(0, .iconst 0, 1), (1, .istore_n 1, 1), (2, .iload_n 1, 1), (3, .bipush 63, 2), (5, .if_icmp .ge 21, 3), (8, .aload_n 0, 1), (9, .getfield 16, 3), (12, .iload_n 1, 1), (13, .aload_n 0, 1), (14, .getfield 7, 3), (17, .iload_n 1, 1), (18, .iaload, 1), (19, .iastore, 1), (20, .iinc 1 1, 3), (23, .goto (-21), 3), (26, .aload_n 0, 1), (27, .iconst 1, 1), (28, .putfield 126, 3), (31, .return_, 1)]
theorem ttX11_thinks : zdt cX11_thinks tX11_thinks = true := by decide +kernel
abbrev q_X11_thinks (h : zM) : Option zV → zM → Prop := zqv fun h' => okM h' ∧ zfr [5] [3] h h'
set_option maxRecDepth 100000 in
set_option maxHeartbeats 4000000 in
theorem s_X11_thinks (l : Launch) (h : zM) (s0 : okM h) : zT shM l yX11_thinks cX11_thinks 2 none (rmL 1) 0 0 [.inr 0] h (q_X11_thinks h) := by
  refine zT_of (by decide +kernel) (L0 := [some (.inr 0), none]) rfl (Nat.le_of_ble_eq_true rfl) ?_
  refine zj_iconst (zdk ttX11_thinks 0 rfl rfl) ?_
  refine zj_istore_n (L' := [some (.inr 0), some (.inl 0)]) (zdk ttX11_thinks 1 rfl rfl) (by decide) rfl ?_
  have lp30 : ∀ (n2 : Nat) (x1 : Int) (h2 : zM), (0 ≤ x1 ∧ x1 ≤ 63) → okM h2 → zfr [5] [3] h h2 → (64 - x1).toNat < n2 → zJ shM l yX11_thinks cX11_thinks 2 none (rmL 1) 0 0 (q_X11_thinks h) 0 0 2 [some (.inr 0), some (.inl x1)] [] h2 := by
    intro n2
    induction n2 with
    | zero => intro x1 h2 b31 s3 f4 m32; exact absurd m32 (Nat.not_lt_zero _)
    | succ n2 ih33 =>
      intro x1 h2 b31 s3 f4 m32
      refine zj_iload_n (zdk ttX11_thinks 2 rfl rfl) rfl ?_
      refine zj_bipush (zdk ttX11_thinks 3 rfl rfl) (by decide) ?_
      refine zj_icmp_ge (t := 26) (zdk ttX11_thinks 4 rfl rfl) (by decide) (by omega) (by decide) (fun c34 => ?_) (fun c34 => ?_)
      · refine zj_aload_n (zdk ttX11_thinks 15 rfl rfl) rfl (by decide) ?_
        refine zj_iconst (zdk ttX11_thinks 16 rfl rfl) ?_
        refine zj_putz (zdk ttX11_thinks 17 rfl rfl) zf_RX11_126 rfl (by omega) (k_M s3) (Or.inl zw_RX11_126) (k2 := 5) rfl (fun h35 e36 => ?_)
        have s37 : okM h35 := fwM_5 s3 e36 (by omega)
        have f38 : zfr [5] [3] h h35 := zfr_wf f4 e36 rfl
        exact zj_vret rfl (zdk ttX11_thinks 18 rfl rfl) (Nat.le_refl _) (Nat.le_refl _) ⟨rfl, s37, f38⟩
      · refine zj_aload_n (zdk ttX11_thinks 5 rfl rfl) rfl (by decide) ?_
        refine zj_getr (r := 3) (zdk ttX11_thinks 6 rfl rfl) zf_RX11_16 rfl (k_M s3) (rfM_4 s3) ?_
        refine zj_iload_n (zdk ttX11_thinks 7 rfl rfl) rfl ?_
        refine zj_aload_n (zdk ttX11_thinks 8 rfl rfl) rfl (by decide) ?_
        refine zj_getr (r := 1) (zdk ttX11_thinks 9 rfl rfl) zf_RX11_7 rfl (k_M s3) (rfM_1 s3) ?_
        refine zj_iload_n (zdk ttX11_thinks 10 rfl rfl) rfl ?_
        have b39 := (rM_b s0 1 x1 (by omega)).2
        have b40 : -2147483648 ≤ (h.2 1 x1) ∧ (h.2 1 x1) ≤ 2147483647 := (rM_b s0 1 x1 (by omega)).1
        refine zj_iald (v := (h.2 1 x1)) (zdk ttX11_thinks 11 rfl rfl) (kaM_1 s3) (by decide) (by omega) (zfr_a f4 rfl (by decide)) ?_
        refine zj_iast (zdk ttX11_thinks 12 rfl rfl) (kaM_3 s3) (by decide) (by omega) (fun h41 e42 => ?_)
        refine zj_iinc (L' := [some (.inr 0), some (.inl (x1 + 1))]) (zdk ttX11_thinks 13 rfl rfl) rfl (by decide) rfl ?_
        refine zj_goto (t := 2) (zdk ttX11_thinks 14 rfl rfl) (by decide) ?_
        have s43 : okM h41 := okM_wr s3 e42 (by decide) (by omega) (by omega)
        have f44 : zfr [5] [3] h h41 := zfr_wa f4 e42 rfl
        exact ih33  (x1 + 1) h41 (by omega) s43 f44 (by omega)
  exact lp30 _ 0 h (by omega) s0 (zfr_r _ _ _) (Nat.lt_succ_self _)

abbrev tX11_endsThought : List (Nat × Instr × Nat) := [(0, .iconst 0, 1), (1, .istore_n 1, 1), (2, .iload_n 1, 1), (3, .bipush 63, 2), (5, .if_icmp .ge 21, 3), (8, .aload_n 0, 1), (9, .getfield 7, 3), (12, .iload_n 1, 1), (13, .aload_n 0, 1), (14, .getfield 16, 3), (17, .iload_n 1, 1), (18, .iaload, 1), (19, .iastore, 1), (20, .iinc 1 1, 3), (23, .goto (-21), 3), (26, .aload_n 0, 1), (27, .iconst 0, 1), (28, .putfield 126, 3), (31, .return_, 1)]
theorem ttX11_endsThought : zdt cX11_endsThought tX11_endsThought = true := by decide +kernel
abbrev q_X11_endsThought (h : zM) : Option zV → zM → Prop := zqv fun h' => okM h' ∧ zfr [5] [1] h h'
set_option maxRecDepth 100000 in
set_option maxHeartbeats 4000000 in
theorem s_X11_endsThought (l : Launch) (h : zM) (s0 : okM h) : zT shM l yX11_endsThought cX11_endsThought 2 none (rmL 1) 0 0 [.inr 0] h (q_X11_endsThought h) := by
  refine zT_of (by decide +kernel) (L0 := [some (.inr 0), none]) rfl (Nat.le_of_ble_eq_true rfl) ?_
  refine zj_iconst (zdk ttX11_endsThought 0 rfl rfl) ?_
  refine zj_istore_n (L' := [some (.inr 0), some (.inl 0)]) (zdk ttX11_endsThought 1 rfl rfl) (by decide) rfl ?_
  have lp30 : ∀ (n2 : Nat) (x1 : Int) (h2 : zM), (0 ≤ x1 ∧ x1 ≤ 63) → okM h2 → zfr [5] [1] h h2 → (64 - x1).toNat < n2 → zJ shM l yX11_endsThought cX11_endsThought 2 none (rmL 1) 0 0 (q_X11_endsThought h) 0 0 2 [some (.inr 0), some (.inl x1)] [] h2 := by
    intro n2
    induction n2 with
    | zero => intro x1 h2 b31 s3 f4 m32; exact absurd m32 (Nat.not_lt_zero _)
    | succ n2 ih33 =>
      intro x1 h2 b31 s3 f4 m32
      refine zj_iload_n (zdk ttX11_endsThought 2 rfl rfl) rfl ?_
      refine zj_bipush (zdk ttX11_endsThought 3 rfl rfl) (by decide) ?_
      refine zj_icmp_ge (t := 26) (zdk ttX11_endsThought 4 rfl rfl) (by decide) (by omega) (by decide) (fun c34 => ?_) (fun c34 => ?_)
      · refine zj_aload_n (zdk ttX11_endsThought 15 rfl rfl) rfl (by decide) ?_
        refine zj_iconst (zdk ttX11_endsThought 16 rfl rfl) ?_
        refine zj_putz (zdk ttX11_endsThought 17 rfl rfl) zf_RX11_126 rfl (by omega) (k_M s3) (Or.inl zw_RX11_126) (k2 := 5) rfl (fun h35 e36 => ?_)
        have s37 : okM h35 := fwM_5 s3 e36 (by omega)
        have f38 : zfr [5] [1] h h35 := zfr_wf f4 e36 rfl
        exact zj_vret rfl (zdk ttX11_endsThought 18 rfl rfl) (Nat.le_refl _) (Nat.le_refl _) ⟨rfl, s37, f38⟩
      · refine zj_aload_n (zdk ttX11_endsThought 5 rfl rfl) rfl (by decide) ?_
        refine zj_getr (r := 1) (zdk ttX11_endsThought 6 rfl rfl) zf_RX11_7 rfl (k_M s3) (rfM_1 s3) ?_
        refine zj_iload_n (zdk ttX11_endsThought 7 rfl rfl) rfl ?_
        refine zj_aload_n (zdk ttX11_endsThought 8 rfl rfl) rfl (by decide) ?_
        refine zj_getr (r := 3) (zdk ttX11_endsThought 9 rfl rfl) zf_RX11_16 rfl (k_M s3) (rfM_4 s3) ?_
        refine zj_iload_n (zdk ttX11_endsThought 10 rfl rfl) rfl ?_
        have b39 := (rM_b s0 3 x1 (by omega)).2
        have b40 : -2147483648 ≤ (h.2 3 x1) ∧ (h.2 3 x1) ≤ 2147483647 := (rM_b s0 3 x1 (by omega)).1
        refine zj_iald (v := (h.2 3 x1)) (zdk ttX11_endsThought 11 rfl rfl) (kaM_3 s3) (by decide) (by omega) (zfr_a f4 rfl (by decide)) ?_
        refine zj_iast (zdk ttX11_endsThought 12 rfl rfl) (kaM_1 s3) (by decide) (by omega) (fun h41 e42 => ?_)
        refine zj_iinc (L' := [some (.inr 0), some (.inl (x1 + 1))]) (zdk ttX11_endsThought 13 rfl rfl) rfl (by decide) rfl ?_
        refine zj_goto (t := 2) (zdk ttX11_endsThought 14 rfl rfl) (by decide) ?_
        have s43 : okM h41 := okM_wr s3 e42 (by decide) (by omega) (by omega)
        have f44 : zfr [5] [1] h h41 := zfr_wa f4 e42 rfl
        exact ih33  (x1 + 1) h41 (by omega) s43 f44 (by omega)
  exact lp30 _ 0 h (by omega) s0 (zfr_r _ _ _) (Nat.lt_succ_self _)

abbrev tX11_state : List (Nat × Instr × Nat) := [(0, .aload_n 0, 1), (1, .iconst 0, 1), (2, .putfield 120, 3), (5, .aload_n 0, 1), (6, .getfield 7, 3), (9, .iconst 1, 1), (10, .iaload, 1), (11, .istore_n 2, 1), (12, .aload_n 0, 1), (13, .getfield 7, 3), (16, .iconst 1, 1), (17, .iload_n 1, 1), (18, .iastore, 1), (19, .aload_n 0, 1), (20, .iconst 0, 1), (21, .putfield 123, 3), (24, .iload_n 2, 1), (25, .ireturn, 1)]
theorem ttX11_state : zdt cX11_state tX11_state = true := by decide +kernel
abbrev q_X11_state (h : zM) (p1 : Int) : Option zV → zM → Prop := zqi fun v h' => ((-2147483648) ≤ v ∧ v ≤ 2147483647) ∧ okM h' ∧ zfr [0, 3] [1] h h'
set_option maxRecDepth 100000 in
set_option maxHeartbeats 4000000 in
theorem s_X11_state (l : Launch) (h : zM) (p1 : Int) (s0 : okM h) (b_p1 : (-2147483648) ≤ p1 ∧ p1 ≤ 2147483647) : zT shM l yX11_state cX11_state 3 (some .int) (rmL 1) 0 0 [.inr 0, .inl p1] h (q_X11_state h p1) := by
  refine zT_of (by decide +kernel) (L0 := [some (.inr 0), some (.inl p1), none]) rfl (Nat.le_of_ble_eq_true rfl) ?_
  refine zj_aload_n (zdk ttX11_state 0 rfl rfl) rfl (by decide) ?_
  refine zj_iconst (zdk ttX11_state 1 rfl rfl) ?_
  refine zj_puti (zdk ttX11_state 2 rfl rfl) zf_RX11_120 rfl (k_M s0) (Or.inl zw_RX11_120) (k2 := 0) rfl (fun h1 e2 => ?_)
  refine zj_aload_n (zdk ttX11_state 3 rfl rfl) rfl (by decide) ?_
  have s3 : okM h1 := fwM_0 s0 e2 (by omega)
  refine zj_getr (r := 1) (zdk ttX11_state 4 rfl rfl) zf_RX11_7 rfl (k_M s3) (rfM_1 s3) ?_
  refine zj_iconst (zdk ttX11_state 5 rfl rfl) ?_
  have b5 : -2147483648 ≤ (h.2 1 1) ∧ (h.2 1 1) ≤ 2147483647 := (rM_b s0 1 1 (by omega)).1
  refine zj_iald (v := (h.2 1 1)) (zdk ttX11_state 6 rfl rfl) (kaM_1 s3) (by decide) (by omega) (zwr_r e2 (by first | decide | exact (absurd ·.1 (by decide)) | exact (absurd ·.2 (by decide)) | omega)) ?_
  refine zj_istore_n (L' := [some (.inr 0), some (.inl p1), some (.inl (h.2 1 1))]) (zdk ttX11_state 7 rfl rfl) (by decide) rfl ?_
  refine zj_aload_n (zdk ttX11_state 8 rfl rfl) rfl (by decide) ?_
  refine zj_getr (r := 1) (zdk ttX11_state 9 rfl rfl) zf_RX11_7 rfl (k_M s3) (rfM_1 s3) ?_
  refine zj_iconst (zdk ttX11_state 10 rfl rfl) ?_
  refine zj_iload_n (zdk ttX11_state 11 rfl rfl) rfl ?_
  refine zj_iast (zdk ttX11_state 12 rfl rfl) (kaM_1 s3) (by decide) (by omega) (fun h6 e7 => ?_)
  refine zj_aload_n (zdk ttX11_state 13 rfl rfl) rfl (by decide) ?_
  refine zj_iconst (zdk ttX11_state 14 rfl rfl) ?_
  have s8 : okM h6 := okM_wr s3 e7 (by decide) (by omega) (by omega)
  refine zj_puti (zdk ttX11_state 15 rfl rfl) zf_RX11_123 rfl (k_M s8) (Or.inl zw_RX11_123) (k2 := 3) rfl (fun h9 e10 => ?_)
  refine zj_iload_n (zdk ttX11_state 16 rfl rfl) rfl ?_
  have s11 : okM h9 := fwM_3 s8 e10 (by omega)
  have f14 : zfr [0, 3] [1] h h1 := zfr_wf (zfr_r _ _ _) e2 rfl
  have f13 : zfr [0, 3] [1] h h6 := zfr_wa f14 e7 rfl
  have f12 : zfr [0, 3] [1] h h9 := zfr_wf f13 e10 rfl
  exact zj_iret rfl (zdk ttX11_state 17 rfl rfl) (Nat.le_refl _) (Nat.le_refl _) ⟨(h.2 1 1), rfl, by omega, s11, f12⟩

abbrev tX11_draw : List (Nat × Instr × Nat) := [(0, .aload_n 0, 1), (1, .getfield 7, 3), (4, .iconst 1, 1), (5, .ldc 130, 2), (7, .aload_n 0, 1), (8, .getfield 7, 3), (11, .iconst 1, 1), (12, .iaload, 1), (13, .imul, 1), (14, .ldc 131, 2), (16, .iadd, 1), (17, .iastore, 1), (18, .aload_n 0, 1), (19, .getfield 7, 3), (22, .iconst 1, 1), (23, .iaload, 1), (24, .bipush 8, 2), (26, .iushr, 1), (27, .iload_n 1, 1), (28, .irem, 1), (29, .ireturn, 1)]
theorem ttX11_draw : zdt cX11_draw tX11_draw = true := by decide +kernel
abbrev q_X11_draw (h : zM) (p1 : Int) : Option zV → zM → Prop := zqi fun v h' => (0 ≤ v ∧ v ≤ 2147483647) ∧ okM h' ∧ zfr [] [1] h h'
set_option maxRecDepth 100000 in
set_option maxHeartbeats 4000000 in
theorem s_X11_draw (l : Launch) (h : zM) (p1 : Int) (s0 : okM h) (b_p1 : 1 ≤ p1 ∧ p1 ≤ 2147483647) : zT shM l yX11_draw cX11_draw 2 (some .int) (rmL 1) 0 0 [.inr 0, .inl p1] h (q_X11_draw h p1) := by
  refine zT_of (by decide +kernel) (L0 := [some (.inr 0), some (.inl p1)]) rfl (Nat.le_of_ble_eq_true rfl) ?_
  refine zj_aload_n (zdk ttX11_draw 0 rfl rfl) rfl (by decide) ?_
  refine zj_getr (r := 1) (zdk ttX11_draw 1 rfl rfl) zf_RX11_7 rfl (k_M s0) (rfM_1 s0) ?_
  refine zj_iconst (zdk ttX11_draw 2 rfl rfl) ?_
  refine zj_ldc (z := 1664525) (zdk ttX11_draw 3 rfl rfl) wc_RX11_130 ?_
  refine zj_aload_n (zdk ttX11_draw 4 rfl rfl) rfl (by decide) ?_
  refine zj_getr (r := 1) (zdk ttX11_draw 5 rfl rfl) zf_RX11_7 rfl (k_M s0) (rfM_1 s0) ?_
  refine zj_iconst (zdk ttX11_draw 6 rfl rfl) ?_
  have b2 : -2147483648 ≤ (h.2 1 1) ∧ (h.2 1 1) ≤ 2147483647 := (rM_b s0 1 1 (by omega)).1
  refine zj_iald (v := (h.2 1 1)) (zdk ttX11_draw 7 rfl rfl) (kaM_1 s0) (by decide) (by omega) rfl ?_
  refine zj_imul (zdk ttX11_draw 8 rfl rfl) ?_
  refine zj_wrap ?_
  have b3 := zwp_in (1664525 * (h.2 1 1))
  refine zj_ldc (z := 1013904223) (zdk ttX11_draw 9 rfl rfl) wc_RX11_131 ?_
  refine zj_iadd (zdk ttX11_draw 10 rfl rfl) ?_
  refine zj_wrap ?_
  have b4 := zwp_in ((zwp (1664525 * (h.2 1 1))) + 1013904223)
  refine zj_iast (zdk ttX11_draw 11 rfl rfl) (kaM_1 s0) (by decide) (by omega) (fun h5 e6 => ?_)
  refine zj_aload_n (zdk ttX11_draw 12 rfl rfl) rfl (by decide) ?_
  have s7 : okM h5 := okM_wr s0 e6 (by decide) (by omega) (by omega)
  refine zj_getr (r := 1) (zdk ttX11_draw 13 rfl rfl) zf_RX11_7 rfl (k_M s7) (rfM_1 s7) ?_
  refine zj_iconst (zdk ttX11_draw 14 rfl rfl) ?_
  refine zj_iald (v := (zwp ((zwp (1664525 * (h.2 1 1))) + 1013904223))) (zdk ttX11_draw 15 rfl rfl) (kaM_1 s7) (by decide) (by omega) (zwr_v e6) ?_
  refine zj_bipush (zdk ttX11_draw 16 rfl rfl) (by decide) ?_
  refine zj_iushr (zdk ttX11_draw 17 rfl rfl) ?_
  have b8 := zushr_c (a := (zwp ((zwp (1664525 * (h.2 1 1))) + 1013904223))) (c := 8) (K := 16777216) 8 (by decide) (by decide) (by decide)
  refine zj_iload_n (zdk ttX11_draw 18 rfl rfl) rfl ?_
  refine zj_iremP (zdk ttX11_draw 19 rfl rfl) (by omega) (by omega) ?_
  have b9 := zmod_b (x := (zushr (zwp ((zwp (1664525 * (h.2 1 1))) + 1013904223)) 8)) (b := p1) (by omega) (by omega)
  have f10 : zfr [] [1] h h5 := zfr_wa (zfr_r _ _ _) e6 rfl
  exact zj_iret rfl (zdk ttX11_draw 20 rfl rfl) (Nat.le_refl _) (Nat.le_refl _) ⟨((zushr (zwp ((zwp (1664525 * (h.2 1 1))) + 1013904223)) 8) % p1), rfl, by omega, s7, f10⟩

abbrev tX11_islander : List (Nat × Instr × Nat) := [(0, .aload_n 0, 1), (1, .iconst 0, 1), (2, .putfield 120, 3), (5, .aload_n 0, 1), (6, .iload_n 1, 1), (7, .iconst 1, 1), (8, .sipush 200, 3), (11, .invokevirtual 139, 3), (14, .ifCond .eq 23, 3), (17, .aload_n 0, 1), (18, .iload_n 2, 1), (19, .iconst 0, 1), (20, .bipush 9, 2), (22, .invokevirtual 139, 3), (25, .ifCond .eq 12, 3), (28, .aload_n 0, 1), (29, .getfield 132, 3), (32, .bipush 18, 2), (34, .if_icmp .ne 5, 3), (37, .iconst (-1), 1), (38, .ireturn, 1), (39, .aload_n 0, 1), (40, .getfield 19, 3), (43, .aload_n 0, 1), (44, .getfield 132, 3), (47, .iload_n 1, 1), (48, .iastore, 1), (49, .aload_n 0, 1), (50, .getfield 22, 3), (53, .aload_n 0, 1), (54, .getfield 132, 3), (57, .iload_n 2, 1), (58, .iastore, 1), (59, .aload_n 0, 1), (60, .getfield 7, 3), (63, .bipush 9, 2), (65, .aload_n 0, 1), (66, .getfield 132, 3), (69, .iadd, 1), (70, .iconst 0, 1), (71, .iastore, 1), (72, .aload_n 0, 1), (73, .getfield 7, 3), (76, .bipush 27, 2), (78, .aload_n 0, 1), (79, .getfield 132, 3), (82, .iadd, 1), (83, .iconst 0, 1), (84, .iastore, 1), (85, .aload_n 0, 1), (86, .getfield 7, 3), (89, .bipush 45, 2), (91, .aload_n 0, 1), (92, .getfield 132, 3), (95, .iadd, 1), (96, .iconst 0, 1), (97, .iastore, 1), (98, .aload_n 0, 1), (99, .aload_n 0, 1), (100, .getfield 132, 3), (103, .iconst 1, 1), (104, .iadd, 1), (105, .putfield 132, 3), (108, .aload_n 0, 1), (109, .iconst 0, 1), (110, .putfield 123, 3), (113, .aload_n 0, 1), (114, .getfield 132, 3), (117, .iconst 1, 1), (118, .isub, 1), (119, .ireturn, 1)]
theorem ttX11_islander : zdt cX11_islander tX11_islander = true := by decide +kernel
abbrev q_X11_islander (h : zM) (p1 : Int) (p2 : Int) : Option zV → zM → Prop := zqi fun v h' => ((-2147483648) ≤ v ∧ v ≤ 2147483647) ∧ okM h' ∧ zfr [0, 3, 6] [1, 4, 5] h h'
set_option maxRecDepth 100000 in
set_option maxHeartbeats 4000000 in
theorem s_X11_islander (l : Launch) (h : zM) (p1 : Int) (p2 : Int) (s0 : okM h) (b_p1 : (-2147483648) ≤ p1 ∧ p1 ≤ 2147483647) (b_p2 : (-2147483648) ≤ p2 ∧ p2 ≤ 2147483647) : zT shM l yX11_islander cX11_islander 3 (some .int) (rmL 2) 0 0 [.inr 0, .inl p1, .inl p2] h (q_X11_islander h p1 p2) := by
  refine zT_of (by decide +kernel) (L0 := [some (.inr 0), some (.inl p1), some (.inl p2)]) rfl (Nat.le_of_ble_eq_true rfl) ?_
  refine zj_aload_n (zdk ttX11_islander 0 rfl rfl) rfl (by decide) ?_
  refine zj_iconst (zdk ttX11_islander 1 rfl rfl) ?_
  refine zj_puti (zdk ttX11_islander 2 rfl rfl) zf_RX11_120 rfl (k_M s0) (Or.inl zw_RX11_120) (k2 := 0) rfl (fun h1 e2 => ?_)
  refine zj_aload_n (zdk ttX11_islander 3 rfl rfl) rfl (by decide) ?_
  refine zj_iload_n (zdk ttX11_islander 4 rfl rfl) rfl ?_
  refine zj_iconst (zdk ttX11_islander 5 rfl rfl) ?_
  refine zj_sipush (zdk ttX11_islander 6 rfl rfl) (by decide) ?_
  have s3 : okM h1 := fwM_0 s0 e2 (by omega)
  refine zj_callV (av := [.inl p1, .inl 1, .inl 200]) (st := []) (zdk ttX11_islander 7 rfl rfl) mb_X11_isIn mv_RX11_139 (ci := 11) rfl rfl (k_M s3) rfl rfl (Nat.le_of_ble_eq_true rfl) (s_X11_isIn l h1 p1 1 200 s3 (by omega) (by omega) (by omega)) (rm_ok (by decide) (by decide)) (zq_i fun v5 h6 q4 => ?_)
  obtain ⟨rfl, ⟨rfl, b7⟩ | ⟨rfl, b7⟩⟩ := q4
  · refine zj_if_eq (t := 37) (zdk ttX11_islander 8 rfl rfl) (by decide) (by decide) (fun c8 => ?_) (fun c8 => ?_)
    · refine zj_iconst (zdk ttX11_islander 19 rfl rfl) ?_
      have f9 : zfr [0, 3, 6] [1, 4, 5] h h1 := zfr_wf (zfr_r _ _ _) e2 rfl
      exact zj_iret rfl (zdk ttX11_islander 20 rfl rfl) (Nat.le_refl _) (Nat.le_refl _) ⟨(-1), rfl, by omega, s3, f9⟩
    · exact absurd c8 (by omega)
  · refine zj_if_eq (t := 37) (zdk ttX11_islander 8 rfl rfl) (by decide) (by decide) (fun c10 => ?_) (fun c10 => ?_)
    · exact absurd c10 (by omega)
    · refine zj_aload_n (zdk ttX11_islander 9 rfl rfl) rfl (by decide) ?_
      refine zj_iload_n (zdk ttX11_islander 10 rfl rfl) rfl ?_
      refine zj_iconst (zdk ttX11_islander 11 rfl rfl) ?_
      refine zj_bipush (zdk ttX11_islander 12 rfl rfl) (by decide) ?_
      refine zj_callV (av := [.inl p2, .inl 0, .inl 9]) (st := []) (zdk ttX11_islander 13 rfl rfl) mb_X11_isIn mv_RX11_139 (ci := 11) rfl rfl (k_M s3) rfl rfl (Nat.le_of_ble_eq_true rfl) (s_X11_isIn l h1 p2 0 9 s3 (by omega) (by omega) (by omega)) (rm_ok (by decide) (by decide)) (zq_i fun v12 h13 q11 => ?_)
      obtain ⟨rfl, ⟨rfl, b14⟩ | ⟨rfl, b14⟩⟩ := q11
      · refine zj_if_eq (t := 37) (zdk ttX11_islander 14 rfl rfl) (by decide) (by decide) (fun c15 => ?_) (fun c15 => ?_)
        · refine zj_iconst (zdk ttX11_islander 19 rfl rfl) ?_
          have f16 : zfr [0, 3, 6] [1, 4, 5] h h1 := zfr_wf (zfr_r _ _ _) e2 rfl
          exact zj_iret rfl (zdk ttX11_islander 20 rfl rfl) (Nat.le_refl _) (Nat.le_refl _) ⟨(-1), rfl, by omega, s3, f16⟩
        · exact absurd c15 (by omega)
      · refine zj_if_eq (t := 37) (zdk ttX11_islander 14 rfl rfl) (by decide) (by decide) (fun c17 => ?_) (fun c17 => ?_)
        · exact absurd c17 (by omega)
        · refine zj_aload_n (zdk ttX11_islander 15 rfl rfl) rfl (by decide) ?_
          have b18 : 0 ≤ (h.2 0 6) ∧ (h.2 0 6) ≤ 18 := fM_6 s0
          refine zj_geti (v := (h.2 0 6)) (zdk ttX11_islander 16 rfl rfl) zf_RX11_132 rfl (k_M s3) (zwr_r e2 (by first | decide | exact (absurd ·.1 (by decide)) | exact (absurd ·.2 (by decide)) | omega)) ?_
          refine zj_bipush (zdk ttX11_islander 17 rfl rfl) (by decide) ?_
          refine zj_icmp_ne (t := 39) (zdk ttX11_islander 18 rfl rfl) (by decide) (by omega) (by decide) (fun c19 => ?_) (fun c19 => ?_)
          · refine zj_aload_n (zdk ttX11_islander 21 rfl rfl) rfl (by decide) ?_
            refine zj_getr (r := 4) (zdk ttX11_islander 22 rfl rfl) zf_RX11_19 rfl (k_M s3) (rfM_7 s3) ?_
            refine zj_aload_n (zdk ttX11_islander 23 rfl rfl) rfl (by decide) ?_
            refine zj_geti (v := (h.2 0 6)) (zdk ttX11_islander 24 rfl rfl) zf_RX11_132 rfl (k_M s3) (zwr_r e2 (by first | decide | exact (absurd ·.1 (by decide)) | exact (absurd ·.2 (by decide)) | omega)) ?_
            refine zj_iload_n (zdk ttX11_islander 25 rfl rfl) rfl ?_
            refine zj_iast (zdk ttX11_islander 26 rfl rfl) (kaM_4 s3) (by decide) (by omega) (fun h20 e21 => ?_)
            refine zj_aload_n (zdk ttX11_islander 27 rfl rfl) rfl (by decide) ?_
            have s22 : okM h20 := awM_4 s3 e21 (by omega) (by unfold nsp; omega)
            refine zj_getr (r := 5) (zdk ttX11_islander 28 rfl rfl) zf_RX11_22 rfl (k_M s22) (rfM_8 s22) ?_
            refine zj_aload_n (zdk ttX11_islander 29 rfl rfl) rfl (by decide) ?_
            refine zj_geti (v := (h.2 0 6)) (zdk ttX11_islander 30 rfl rfl) zf_RX11_132 rfl (k_M s22) ((zwr_r e21 (by first | decide | exact (absurd ·.1 (by decide)) | exact (absurd ·.2 (by decide)) | omega)).trans (zwr_r e2 (by first | decide | exact (absurd ·.1 (by decide)) | exact (absurd ·.2 (by decide)) | omega))) ?_
            refine zj_iload_n (zdk ttX11_islander 31 rfl rfl) rfl ?_
            refine zj_iast (zdk ttX11_islander 32 rfl rfl) (kaM_5 s22) (by decide) (by omega) (fun h23 e24 => ?_)
            refine zj_aload_n (zdk ttX11_islander 33 rfl rfl) rfl (by decide) ?_
            have s25 : okM h23 := awM_5 s22 e24 (by omega) (by unfold nsp; omega)
            refine zj_getr (r := 1) (zdk ttX11_islander 34 rfl rfl) zf_RX11_7 rfl (k_M s25) (rfM_1 s25) ?_
            refine zj_bipush (zdk ttX11_islander 35 rfl rfl) (by decide) ?_
            refine zj_aload_n (zdk ttX11_islander 36 rfl rfl) rfl (by decide) ?_
            refine zj_geti (v := (h.2 0 6)) (zdk ttX11_islander 37 rfl rfl) zf_RX11_132 rfl (k_M s25) (((zwr_r e24 (by first | decide | exact (absurd ·.1 (by decide)) | exact (absurd ·.2 (by decide)) | omega)).trans (zwr_r e21 (by first | decide | exact (absurd ·.1 (by decide)) | exact (absurd ·.2 (by decide)) | omega))).trans (zwr_r e2 (by first | decide | exact (absurd ·.1 (by decide)) | exact (absurd ·.2 (by decide)) | omega))) ?_
            refine zj_iadd (zdk ttX11_islander 38 rfl rfl) ?_
            refine zj_iconst (zdk ttX11_islander 39 rfl rfl) ?_
            refine zj_iast (zdk ttX11_islander 40 rfl rfl) (kaM_1 s25) (by decide) (by omega) (fun h26 e27 => ?_)
            refine zj_aload_n (zdk ttX11_islander 41 rfl rfl) rfl (by decide) ?_
            have s28 : okM h26 := okM_wr s25 e27 (by decide) (by omega) (by omega)
            refine zj_getr (r := 1) (zdk ttX11_islander 42 rfl rfl) zf_RX11_7 rfl (k_M s28) (rfM_1 s28) ?_
            refine zj_bipush (zdk ttX11_islander 43 rfl rfl) (by decide) ?_
            refine zj_aload_n (zdk ttX11_islander 44 rfl rfl) rfl (by decide) ?_
            refine zj_geti (v := (h.2 0 6)) (zdk ttX11_islander 45 rfl rfl) zf_RX11_132 rfl (k_M s28) ((((zwr_r e27 (by first | decide | exact (absurd ·.1 (by decide)) | exact (absurd ·.2 (by decide)) | omega)).trans (zwr_r e24 (by first | decide | exact (absurd ·.1 (by decide)) | exact (absurd ·.2 (by decide)) | omega))).trans (zwr_r e21 (by first | decide | exact (absurd ·.1 (by decide)) | exact (absurd ·.2 (by decide)) | omega))).trans (zwr_r e2 (by first | decide | exact (absurd ·.1 (by decide)) | exact (absurd ·.2 (by decide)) | omega))) ?_
            refine zj_iadd (zdk ttX11_islander 46 rfl rfl) ?_
            refine zj_iconst (zdk ttX11_islander 47 rfl rfl) ?_
            refine zj_iast (zdk ttX11_islander 48 rfl rfl) (kaM_1 s28) (by decide) (by omega) (fun h29 e30 => ?_)
            refine zj_aload_n (zdk ttX11_islander 49 rfl rfl) rfl (by decide) ?_
            have s31 : okM h29 := okM_wr s28 e30 (by decide) (by omega) (by omega)
            refine zj_getr (r := 1) (zdk ttX11_islander 50 rfl rfl) zf_RX11_7 rfl (k_M s31) (rfM_1 s31) ?_
            refine zj_bipush (zdk ttX11_islander 51 rfl rfl) (by decide) ?_
            refine zj_aload_n (zdk ttX11_islander 52 rfl rfl) rfl (by decide) ?_
            refine zj_geti (v := (h.2 0 6)) (zdk ttX11_islander 53 rfl rfl) zf_RX11_132 rfl (k_M s31) (((((zwr_r e30 (by first | decide | exact (absurd ·.1 (by decide)) | exact (absurd ·.2 (by decide)) | omega)).trans (zwr_r e27 (by first | decide | exact (absurd ·.1 (by decide)) | exact (absurd ·.2 (by decide)) | omega))).trans (zwr_r e24 (by first | decide | exact (absurd ·.1 (by decide)) | exact (absurd ·.2 (by decide)) | omega))).trans (zwr_r e21 (by first | decide | exact (absurd ·.1 (by decide)) | exact (absurd ·.2 (by decide)) | omega))).trans (zwr_r e2 (by first | decide | exact (absurd ·.1 (by decide)) | exact (absurd ·.2 (by decide)) | omega))) ?_
            refine zj_iadd (zdk ttX11_islander 54 rfl rfl) ?_
            refine zj_iconst (zdk ttX11_islander 55 rfl rfl) ?_
            refine zj_iast (zdk ttX11_islander 56 rfl rfl) (kaM_1 s31) (by decide) (by omega) (fun h32 e33 => ?_)
            refine zj_aload_n (zdk ttX11_islander 57 rfl rfl) rfl (by decide) ?_
            refine zj_aload_n (zdk ttX11_islander 58 rfl rfl) rfl (by decide) ?_
            have s34 : okM h32 := okM_wr s31 e33 (by decide) (by omega) (by omega)
            refine zj_geti (v := (h.2 0 6)) (zdk ttX11_islander 59 rfl rfl) zf_RX11_132 rfl (k_M s34) ((((((zwr_r e33 (by first | decide | exact (absurd ·.1 (by decide)) | exact (absurd ·.2 (by decide)) | omega)).trans (zwr_r e30 (by first | decide | exact (absurd ·.1 (by decide)) | exact (absurd ·.2 (by decide)) | omega))).trans (zwr_r e27 (by first | decide | exact (absurd ·.1 (by decide)) | exact (absurd ·.2 (by decide)) | omega))).trans (zwr_r e24 (by first | decide | exact (absurd ·.1 (by decide)) | exact (absurd ·.2 (by decide)) | omega))).trans (zwr_r e21 (by first | decide | exact (absurd ·.1 (by decide)) | exact (absurd ·.2 (by decide)) | omega))).trans (zwr_r e2 (by first | decide | exact (absurd ·.1 (by decide)) | exact (absurd ·.2 (by decide)) | omega))) ?_
            refine zj_iconst (zdk ttX11_islander 60 rfl rfl) ?_
            refine zj_iadd (zdk ttX11_islander 61 rfl rfl) ?_
            refine zj_puti (zdk ttX11_islander 62 rfl rfl) zf_RX11_132 rfl (k_M s34) (Or.inl zw_RX11_132) (k2 := 6) rfl (fun h35 e36 => ?_)
            refine zj_aload_n (zdk ttX11_islander 63 rfl rfl) rfl (by decide) ?_
            refine zj_iconst (zdk ttX11_islander 64 rfl rfl) ?_
            have s37 : okM h35 := fwM_6 s34 e36 (by omega)
            refine zj_puti (zdk ttX11_islander 65 rfl rfl) zf_RX11_123 rfl (k_M s37) (Or.inl zw_RX11_123) (k2 := 3) rfl (fun h38 e39 => ?_)
            refine zj_aload_n (zdk ttX11_islander 66 rfl rfl) rfl (by decide) ?_
            have s40 : okM h38 := fwM_3 s37 e39 (by omega)
            refine zj_geti (v := ((h.2 0 6) + 1)) (zdk ttX11_islander 67 rfl rfl) zf_RX11_132 rfl (k_M s40) ((zwr_r e39 (by first | decide | exact (absurd ·.1 (by decide)) | exact (absurd ·.2 (by decide)) | omega)).trans (zwr_v e36)) ?_
            refine zj_iconst (zdk ttX11_islander 68 rfl rfl) ?_
            refine zj_isub (zdk ttX11_islander 69 rfl rfl) ?_
            have f48 : zfr [0, 3, 6] [1, 4, 5] h h1 := zfr_wf (zfr_r _ _ _) e2 rfl
            have f47 : zfr [0, 3, 6] [1, 4, 5] h h20 := zfr_wa f48 e21 rfl
            have f46 : zfr [0, 3, 6] [1, 4, 5] h h23 := zfr_wa f47 e24 rfl
            have f45 : zfr [0, 3, 6] [1, 4, 5] h h26 := zfr_wa f46 e27 rfl
            have f44 : zfr [0, 3, 6] [1, 4, 5] h h29 := zfr_wa f45 e30 rfl
            have f43 : zfr [0, 3, 6] [1, 4, 5] h h32 := zfr_wa f44 e33 rfl
            have f42 : zfr [0, 3, 6] [1, 4, 5] h h35 := zfr_wf f43 e36 rfl
            have f41 : zfr [0, 3, 6] [1, 4, 5] h h38 := zfr_wf f42 e39 rfl
            exact zj_iret rfl (zdk ttX11_islander 70 rfl rfl) (Nat.le_refl _) (Nat.le_refl _) ⟨(((h.2 0 6) + 1) - 1), rfl, by omega, s40, f41⟩
          · refine zj_iconst (zdk ttX11_islander 19 rfl rfl) ?_
            have f49 : zfr [0, 3, 6] [1, 4, 5] h h1 := zfr_wf (zfr_r _ _ _) e2 rfl
            exact zj_iret rfl (zdk ttX11_islander 20 rfl rfl) (Nat.le_refl _) (Nat.le_refl _) ⟨(-1), rfl, by omega, s3, f49⟩

abbrev tX11_set : List (Nat × Instr × Nat) := [(0, .aload_n 0, 1), (1, .iconst 0, 1), (2, .putfield 120, 3), (5, .aload_n 0, 1), (6, .iload_n 1, 1), (7, .iload_n 2, 1), (8, .iload_n 3, 1), (9, .invokevirtual 146, 3), (12, .ifCond .ne 5, 3), (15, .iconst 0, 1), (16, .ireturn, 1), (17, .iload_n 1, 1), (18, .ifCond .ne 10, 3), (21, .aload_n 0, 1), (22, .getfield 19, 3), (25, .iload_n 2, 1), (26, .iload_n 3, 1), (27, .iastore, 1), (28, .iload_n 1, 1), (29, .iconst 1, 1), (30, .if_icmp .ne 10, 3), (33, .aload_n 0, 1), (34, .getfield 22, 3), (37, .iload_n 2, 1), (38, .iload_n 3, 1), (39, .iastore, 1), (40, .iload_n 1, 1), (41, .iconst 2, 1), (42, .if_icmp .ne 10, 3), (45, .aload_n 0, 1), (46, .getfield 7, 3), (49, .iconst 3, 1), (50, .iload_n 3, 1), (51, .iastore, 1), (52, .iload_n 1, 1), (53, .iconst 3, 1), (54, .if_icmp .ne 10, 3), (57, .aload_n 0, 1), (58, .getfield 7, 3), (61, .iconst 4, 1), (62, .iload_n 3, 1), (63, .iastore, 1), (64, .iload_n 1, 1), (65, .iconst 4, 1), (66, .if_icmp .ne 11, 3), (69, .aload_n 0, 1), (70, .getfield 7, 3), (73, .bipush 8, 2), (75, .iload_n 3, 1), (76, .iastore, 1), (77, .aload_n 0, 1), (78, .iconst 0, 1), (79, .putfield 123, 3), (82, .iconst 1, 1), (83, .ireturn, 1)]
theorem ttX11_set : zdt cX11_set tX11_set = true := by decide +kernel
abbrev q_X11_set (h : zM) (p1 : Int) (p2 : Int) (p3 : Int) : Option zV → zM → Prop := zqi fun v h' => (0 ≤ v ∧ v ≤ 1) ∧ okM h' ∧ zfr [0, 3] [1, 4, 5] h h'
set_option maxRecDepth 100000 in
set_option maxHeartbeats 4000000 in
theorem s_X11_set (l : Launch) (h : zM) (p1 : Int) (p2 : Int) (p3 : Int) (s0 : okM h) (b_p1 : (-2147483648) ≤ p1 ∧ p1 ≤ 2147483647) (b_p2 : (-2147483648) ≤ p2 ∧ p2 ≤ 2147483647) (b_p3 : (-2147483648) ≤ p3 ∧ p3 ≤ 2147483647) : zT shM l yX11_set cX11_set 4 (some .boolean) (rmL 3) 0 0 [.inr 0, .inl p1, .inl p2, .inl p3] h (q_X11_set h p1 p2 p3) := by
  refine zT_of (by decide +kernel) (L0 := [some (.inr 0), some (.inl p1), some (.inl p2), some (.inl p3)]) rfl (Nat.le_of_ble_eq_true rfl) ?_
  refine zj_aload_n (zdk ttX11_set 0 rfl rfl) rfl (by decide) ?_
  refine zj_iconst (zdk ttX11_set 1 rfl rfl) ?_
  refine zj_puti (zdk ttX11_set 2 rfl rfl) zf_RX11_120 rfl (k_M s0) (Or.inl zw_RX11_120) (k2 := 0) rfl (fun h1 e2 => ?_)
  refine zj_aload_n (zdk ttX11_set 3 rfl rfl) rfl (by decide) ?_
  refine zj_iload_n (zdk ttX11_set 4 rfl rfl) rfl ?_
  refine zj_iload_n (zdk ttX11_set 5 rfl rfl) rfl ?_
  refine zj_iload_n (zdk ttX11_set 6 rfl rfl) rfl ?_
  have s3 : okM h1 := fwM_0 s0 e2 (by omega)
  refine zj_callV (av := [.inl p1, .inl p2, .inl p3]) (st := []) (zdk ttX11_set 7 rfl rfl) mb_X11_canSet mv_RX11_146 (ci := 11) rfl rfl (k_M s3) rfl rfl (Nat.le_of_ble_eq_true rfl) (s_X11_canSet l h1 p1 p2 p3 s3 (by omega) (by omega) (by omega)) (rm_ok (by decide) (by decide)) (zq_i fun v5 h6 q4 => ?_)
  obtain ⟨rfl, b8, ⟨rfl, b7⟩ | ⟨rfl, b7⟩⟩ := q4
  · refine zj_if_ne (t := 17) (zdk ttX11_set 8 rfl rfl) (by decide) (by decide) (fun c9 => ?_) (fun c9 => ?_)
    · exact absurd c9 (by omega)
    · refine zj_iconst (zdk ttX11_set 9 rfl rfl) ?_
      have f10 : zfr [0, 3] [1, 4, 5] h h1 := zfr_wf (zfr_r _ _ _) e2 rfl
      exact zj_zret rfl (zdk ttX11_set 10 rfl rfl) (Nat.le_refl _) (Nat.le_refl _) (by omega) ⟨0, rfl, by omega, s3, f10⟩
  · refine zj_if_ne (t := 17) (zdk ttX11_set 8 rfl rfl) (by decide) (by decide) (fun c11 => ?_) (fun c11 => ?_)
    · refine zj_iload_n (zdk ttX11_set 11 rfl rfl) rfl ?_
      have j18 : ∀ (h15 : zM), okM h15 → zfr [0, 3] [1, 4, 5] h h15 → zJ shM l yX11_set cX11_set 4 (some .boolean) (rmL 3) 0 0 (q_X11_set h p1 p2 p3) 0 0 28 [some (.inr 0), some (.inl p1), some (.inl p2), some (.inl p3)] [] h15 := by
        intro h15 s16 f17
        refine zj_iload_n (zdk ttX11_set 18 rfl rfl) rfl ?_
        refine zj_iconst (zdk ttX11_set 19 rfl rfl) ?_
        have j25 : ∀ (h22 : zM), okM h22 → zfr [0, 3] [1, 4, 5] h h22 → zJ shM l yX11_set cX11_set 4 (some .boolean) (rmL 3) 0 0 (q_X11_set h p1 p2 p3) 0 0 40 [some (.inr 0), some (.inl p1), some (.inl p2), some (.inl p3)] [] h22 := by
          intro h22 s23 f24
          refine zj_iload_n (zdk ttX11_set 26 rfl rfl) rfl ?_
          refine zj_iconst (zdk ttX11_set 27 rfl rfl) ?_
          have j32 : ∀ (h29 : zM), okM h29 → zfr [0, 3] [1, 4, 5] h h29 → zJ shM l yX11_set cX11_set 4 (some .boolean) (rmL 3) 0 0 (q_X11_set h p1 p2 p3) 0 0 52 [some (.inr 0), some (.inl p1), some (.inl p2), some (.inl p3)] [] h29 := by
            intro h29 s30 f31
            refine zj_iload_n (zdk ttX11_set 34 rfl rfl) rfl ?_
            refine zj_iconst (zdk ttX11_set 35 rfl rfl) ?_
            refine zj_icmp_ne (t := 64) (zdk ttX11_set 36 rfl rfl) (by decide) (by omega) (by decide) (fun c33 => ?_) (fun c33 => ?_)
            · refine zj_iload_n (zdk ttX11_set 42 rfl rfl) rfl ?_
              refine zj_iconst (zdk ttX11_set 43 rfl rfl) ?_
              refine zj_icmp_ne (t := 77) (zdk ttX11_set 44 rfl rfl) (by decide) (by omega) (by decide) (fun c34 => ?_) (fun c34 => ?_)
              · refine zj_aload_n (zdk ttX11_set 50 rfl rfl) rfl (by decide) ?_
                refine zj_iconst (zdk ttX11_set 51 rfl rfl) ?_
                refine zj_puti (zdk ttX11_set 52 rfl rfl) zf_RX11_123 rfl (k_M s30) (Or.inl zw_RX11_123) (k2 := 3) rfl (fun h35 e36 => ?_)
                refine zj_iconst (zdk ttX11_set 53 rfl rfl) ?_
                have s37 : okM h35 := fwM_3 s30 e36 (by omega)
                have f38 : zfr [0, 3] [1, 4, 5] h h35 := zfr_wf f31 e36 rfl
                exact zj_zret rfl (zdk ttX11_set 54 rfl rfl) (Nat.le_refl _) (Nat.le_refl _) (by omega) ⟨1, rfl, by omega, s37, f38⟩
              · refine zj_aload_n (zdk ttX11_set 45 rfl rfl) rfl (by decide) ?_
                refine zj_getr (r := 1) (zdk ttX11_set 46 rfl rfl) zf_RX11_7 rfl (k_M s30) (rfM_1 s30) ?_
                refine zj_bipush (zdk ttX11_set 47 rfl rfl) (by decide) ?_
                refine zj_iload_n (zdk ttX11_set 48 rfl rfl) rfl ?_
                refine zj_iast (zdk ttX11_set 49 rfl rfl) (kaM_1 s30) (by decide) (by omega) (fun h39 e40 => ?_)
                refine zj_aload_n (zdk ttX11_set 50 rfl rfl) rfl (by decide) ?_
                refine zj_iconst (zdk ttX11_set 51 rfl rfl) ?_
                have s41 : okM h39 := okM_wr s30 e40 (by decide) (by omega) (by omega)
                refine zj_puti (zdk ttX11_set 52 rfl rfl) zf_RX11_123 rfl (k_M s41) (Or.inl zw_RX11_123) (k2 := 3) rfl (fun h42 e43 => ?_)
                refine zj_iconst (zdk ttX11_set 53 rfl rfl) ?_
                have s44 : okM h42 := fwM_3 s41 e43 (by omega)
                have f46 : zfr [0, 3] [1, 4, 5] h h39 := zfr_wa f31 e40 rfl
                have f45 : zfr [0, 3] [1, 4, 5] h h42 := zfr_wf f46 e43 rfl
                exact zj_zret rfl (zdk ttX11_set 54 rfl rfl) (Nat.le_refl _) (Nat.le_refl _) (by omega) ⟨1, rfl, by omega, s44, f45⟩
            · refine zj_aload_n (zdk ttX11_set 37 rfl rfl) rfl (by decide) ?_
              refine zj_getr (r := 1) (zdk ttX11_set 38 rfl rfl) zf_RX11_7 rfl (k_M s30) (rfM_1 s30) ?_
              refine zj_iconst (zdk ttX11_set 39 rfl rfl) ?_
              refine zj_iload_n (zdk ttX11_set 40 rfl rfl) rfl ?_
              refine zj_iast (zdk ttX11_set 41 rfl rfl) (kaM_1 s30) (by decide) (by omega) (fun h47 e48 => ?_)
              refine zj_iload_n (zdk ttX11_set 42 rfl rfl) rfl ?_
              refine zj_iconst (zdk ttX11_set 43 rfl rfl) ?_
              refine zj_icmp_ne (t := 77) (zdk ttX11_set 44 rfl rfl) (by decide) (by omega) (by decide) (fun c49 => ?_) (fun c49 => ?_)
              · refine zj_aload_n (zdk ttX11_set 50 rfl rfl) rfl (by decide) ?_
                refine zj_iconst (zdk ttX11_set 51 rfl rfl) ?_
                have s50 : okM h47 := okM_wr s30 e48 (by decide) (by omega) (by omega)
                refine zj_puti (zdk ttX11_set 52 rfl rfl) zf_RX11_123 rfl (k_M s50) (Or.inl zw_RX11_123) (k2 := 3) rfl (fun h51 e52 => ?_)
                refine zj_iconst (zdk ttX11_set 53 rfl rfl) ?_
                have s53 : okM h51 := fwM_3 s50 e52 (by omega)
                have f55 : zfr [0, 3] [1, 4, 5] h h47 := zfr_wa f31 e48 rfl
                have f54 : zfr [0, 3] [1, 4, 5] h h51 := zfr_wf f55 e52 rfl
                exact zj_zret rfl (zdk ttX11_set 54 rfl rfl) (Nat.le_refl _) (Nat.le_refl _) (by omega) ⟨1, rfl, by omega, s53, f54⟩
              · exact absurd c49 (by omega)
          refine zj_icmp_ne (t := 52) (zdk ttX11_set 28 rfl rfl) (by decide) (by omega) (by decide) (fun c26 => ?_) (fun c26 => ?_)
          · exact j32 h22 s23 f24
          · refine zj_aload_n (zdk ttX11_set 29 rfl rfl) rfl (by decide) ?_
            refine zj_getr (r := 1) (zdk ttX11_set 30 rfl rfl) zf_RX11_7 rfl (k_M s23) (rfM_1 s23) ?_
            refine zj_iconst (zdk ttX11_set 31 rfl rfl) ?_
            refine zj_iload_n (zdk ttX11_set 32 rfl rfl) rfl ?_
            refine zj_iast (zdk ttX11_set 33 rfl rfl) (kaM_1 s23) (by decide) (by omega) (fun h56 e57 => ?_)
            have s58 : okM h56 := okM_wr s23 e57 (by decide) (by omega) (by omega)
            have f59 : zfr [0, 3] [1, 4, 5] h h56 := zfr_wa f24 e57 rfl
            exact j32 h56 s58 f59
        refine zj_icmp_ne (t := 40) (zdk ttX11_set 20 rfl rfl) (by decide) (by omega) (by decide) (fun c19 => ?_) (fun c19 => ?_)
        · exact j25 h15 s16 f17
        · refine zj_aload_n (zdk ttX11_set 21 rfl rfl) rfl (by decide) ?_
          refine zj_getr (r := 5) (zdk ttX11_set 22 rfl rfl) zf_RX11_22 rfl (k_M s16) (rfM_8 s16) ?_
          refine zj_iload_n (zdk ttX11_set 23 rfl rfl) rfl ?_
          refine zj_iload_n (zdk ttX11_set 24 rfl rfl) rfl ?_
          refine zj_iast (zdk ttX11_set 25 rfl rfl) (kaM_5 s16) (by decide) (by omega) (fun h60 e61 => ?_)
          have s62 : okM h60 := awM_5 s16 e61 (by omega) (by unfold nsp; omega)
          have f63 : zfr [0, 3] [1, 4, 5] h h60 := zfr_wa f17 e61 rfl
          exact j25 h60 s62 f63
      refine zj_if_ne (t := 28) (zdk ttX11_set 12 rfl rfl) (by decide) (by omega) (fun c12 => ?_) (fun c12 => ?_)
      · have f64 : zfr [0, 3] [1, 4, 5] h h1 := zfr_wf (zfr_r _ _ _) e2 rfl
        exact j18 h1 s3 f64
      · refine zj_aload_n (zdk ttX11_set 13 rfl rfl) rfl (by decide) ?_
        refine zj_getr (r := 4) (zdk ttX11_set 14 rfl rfl) zf_RX11_19 rfl (k_M s3) (rfM_7 s3) ?_
        refine zj_iload_n (zdk ttX11_set 15 rfl rfl) rfl ?_
        refine zj_iload_n (zdk ttX11_set 16 rfl rfl) rfl ?_
        refine zj_iast (zdk ttX11_set 17 rfl rfl) (kaM_4 s3) (by decide) (by omega) (fun h65 e66 => ?_)
        have s67 : okM h65 := awM_4 s3 e66 (by omega) (by unfold nsp; omega)
        have f69 : zfr [0, 3] [1, 4, 5] h h1 := zfr_wf (zfr_r _ _ _) e2 rfl
        have f68 : zfr [0, 3] [1, 4, 5] h h65 := zfr_wa f69 e66 rfl
        exact j18 h65 s67 f68
    · exact absurd c11 (by omega)

abbrev tX11_end : List (Nat × Instr × Nat) := [(0, .aload_n 0, 1), (1, .iconst 0, 1), (2, .putfield 120, 3), (5, .aload_n 0, 1), (6, .iload_n 1, 1), (7, .iconst 0, 1), (8, .aload_n 0, 1), (9, .getfield 149, 3), (12, .invokevirtual 139, 3), (15, .ifCond .ne 5, 3), (18, .iconst 0, 1), (19, .ireturn, 1), (20, .aload_n 0, 1), (21, .iload_n 1, 1), (22, .putfield 149, 3), (25, .iconst 1, 1), (26, .ireturn, 1)]
theorem ttX11_end : zdt cX11_end tX11_end = true := by decide +kernel
abbrev q_X11_end (h : zM) (p1 : Int) : Option zV → zM → Prop := zqi fun v h' => (0 ≤ v ∧ v ≤ 1) ∧ okM h' ∧ zfr [0, 11] [] h h'
set_option maxRecDepth 100000 in
set_option maxHeartbeats 4000000 in
theorem s_X11_end (l : Launch) (h : zM) (p1 : Int) (s0 : okM h) (b_p1 : (-2147483648) ≤ p1 ∧ p1 ≤ 2147483647) : zT shM l yX11_end cX11_end 2 (some .boolean) (rmL 2) 0 0 [.inr 0, .inl p1] h (q_X11_end h p1) := by
  refine zT_of (by decide +kernel) (L0 := [some (.inr 0), some (.inl p1)]) rfl (Nat.le_of_ble_eq_true rfl) ?_
  refine zj_aload_n (zdk ttX11_end 0 rfl rfl) rfl (by decide) ?_
  refine zj_iconst (zdk ttX11_end 1 rfl rfl) ?_
  refine zj_puti (zdk ttX11_end 2 rfl rfl) zf_RX11_120 rfl (k_M s0) (Or.inl zw_RX11_120) (k2 := 0) rfl (fun h1 e2 => ?_)
  refine zj_aload_n (zdk ttX11_end 3 rfl rfl) rfl (by decide) ?_
  refine zj_iload_n (zdk ttX11_end 4 rfl rfl) rfl ?_
  refine zj_iconst (zdk ttX11_end 5 rfl rfl) ?_
  refine zj_aload_n (zdk ttX11_end 6 rfl rfl) rfl (by decide) ?_
  have b3 : 0 ≤ (h.2 0 11) ∧ (h.2 0 11) ≤ 400 := fM_11 s0
  have s4 : okM h1 := fwM_0 s0 e2 (by omega)
  refine zj_geti (v := (h.2 0 11)) (zdk ttX11_end 7 rfl rfl) zf_RX11_149 rfl (k_M s4) (zwr_r e2 (by first | decide | exact (absurd ·.1 (by decide)) | exact (absurd ·.2 (by decide)) | omega)) ?_
  refine zj_callV (av := [.inl p1, .inl 0, .inl (h.2 0 11)]) (st := []) (zdk ttX11_end 8 rfl rfl) mb_X11_isIn mv_RX11_139 (ci := 11) rfl rfl (k_M s4) rfl rfl (Nat.le_of_ble_eq_true rfl) (s_X11_isIn l h1 p1 0 (h.2 0 11) s4 (by omega) (by omega) (by omega)) (rm_ok (by decide) (by decide)) (zq_i fun v6 h7 q5 => ?_)
  obtain ⟨rfl, ⟨rfl, b8⟩ | ⟨rfl, b8⟩⟩ := q5
  · refine zj_if_ne (t := 20) (zdk ttX11_end 9 rfl rfl) (by decide) (by decide) (fun c9 => ?_) (fun c9 => ?_)
    · exact absurd c9 (by omega)
    · refine zj_iconst (zdk ttX11_end 10 rfl rfl) ?_
      have f10 : zfr [0, 11] [] h h1 := zfr_wf (zfr_r _ _ _) e2 rfl
      exact zj_zret rfl (zdk ttX11_end 11 rfl rfl) (Nat.le_refl _) (Nat.le_refl _) (by omega) ⟨0, rfl, by omega, s4, f10⟩
  · refine zj_if_ne (t := 20) (zdk ttX11_end 9 rfl rfl) (by decide) (by decide) (fun c11 => ?_) (fun c11 => ?_)
    · refine zj_aload_n (zdk ttX11_end 12 rfl rfl) rfl (by decide) ?_
      refine zj_iload_n (zdk ttX11_end 13 rfl rfl) rfl ?_
      refine zj_puti (zdk ttX11_end 14 rfl rfl) zf_RX11_149 rfl (k_M s4) (Or.inl zw_RX11_149) (k2 := 11) rfl (fun h12 e13 => ?_)
      refine zj_iconst (zdk ttX11_end 15 rfl rfl) ?_
      have s14 : okM h12 := fwM_11 s4 e13 (by omega)
      have f16 : zfr [0, 11] [] h h1 := zfr_wf (zfr_r _ _ _) e2 rfl
      have f15 : zfr [0, 11] [] h h12 := zfr_wf f16 e13 rfl
      exact zj_zret rfl (zdk ttX11_end 16 rfl rfl) (Nat.le_refl _) (Nat.le_refl _) (by omega) ⟨1, rfl, by omega, s14, f15⟩
    · exact absurd c11 (by omega)

abbrev tX11_errs : List (Nat × Instr × Nat) := [(0, .aload_n 0, 1), (1, .iload_n 1, 1), (2, .putfield 185, 3), (5, .aload_n 0, 1), (6, .aload_n 0, 1), (7, .getfield 163, 3), (10, .putfield 188, 3), (13, .iconst (-1), 1), (14, .ireturn, 1)]
theorem ttX11_errs : zdt cX11_errs tX11_errs = true := by decide +kernel
abbrev q_X11_errs (h : zM) (p1 : Int) : Option zV → zM → Prop := zqi fun v h' => ((-1) ≤ v ∧ v ≤ (-1)) ∧ okM h' ∧ zfr [29, 30] [] h h'
set_option maxRecDepth 100000 in
set_option maxHeartbeats 4000000 in
theorem s_X11_errs (l : Launch) (h : zM) (p1 : Int) (s0 : okM h) (b_p1 : (-2147483648) ≤ p1 ∧ p1 ≤ 2147483647) : zT shM l yX11_errs cX11_errs 2 (some .int) (rmL 1) 0 0 [.inr 0, .inl p1] h (q_X11_errs h p1) := by
  refine zT_of (by decide +kernel) (L0 := [some (.inr 0), some (.inl p1)]) rfl (Nat.le_of_ble_eq_true rfl) ?_
  refine zj_aload_n (zdk ttX11_errs 0 rfl rfl) rfl (by decide) ?_
  refine zj_iload_n (zdk ttX11_errs 1 rfl rfl) rfl ?_
  refine zj_puti (zdk ttX11_errs 2 rfl rfl) zf_RX11_185 rfl (k_M s0) (Or.inl zw_RX11_185) (k2 := 29) rfl (fun h1 e2 => ?_)
  refine zj_aload_n (zdk ttX11_errs 3 rfl rfl) rfl (by decide) ?_
  refine zj_aload_n (zdk ttX11_errs 4 rfl rfl) rfl (by decide) ?_
  have b3 : 0 ≤ (h.2 0 13) ∧ (h.2 0 13) ≤ 400 := fM_13 s0
  have s4 : okM h1 := fwM_29 s0 e2 (by omega)
  refine zj_geti (v := (h.2 0 13)) (zdk ttX11_errs 5 rfl rfl) zf_RX11_163 rfl (k_M s4) (zwr_r e2 (by first | decide | exact (absurd ·.1 (by decide)) | exact (absurd ·.2 (by decide)) | omega)) ?_
  refine zj_puti (zdk ttX11_errs 6 rfl rfl) zf_RX11_188 rfl (k_M s4) (Or.inl zw_RX11_188) (k2 := 30) rfl (fun h5 e6 => ?_)
  refine zj_iconst (zdk ttX11_errs 7 rfl rfl) ?_
  have s7 : okM h5 := fwM_30 s4 e6 (by omega)
  have f9 : zfr [29, 30] [] h h1 := zfr_wf (zfr_r _ _ _) e2 rfl
  have f8 : zfr [29, 30] [] h h5 := zfr_wf f9 e6 rfl
  exact zj_iret rfl (zdk ttX11_errs 8 rfl rfl) (Nat.le_refl _) (Nat.le_refl _) ⟨(-1), rfl, by omega, s7, f8⟩

abbrev tX11_fault : List (Nat × Instr × Nat) := [(0, .aload_n 0, 1), (1, .iconst 0, 1), (2, .putfield 120, 3), (5, .iload_n 1, 1), (6, .ifCond .ne 10, 3), (9, .aload_n 0, 1), (10, .getfield 291, 3), (13, .goto 16, 3), (16, .iload_n 1, 1), (17, .iconst 1, 1), (18, .if_icmp .ne 10, 3), (21, .aload_n 0, 1), (22, .getfield 58, 3), (25, .goto 4, 3), (28, .iconst (-1), 1), (29, .ireturn, 1)]
theorem ttX11_fault : zdt cX11_fault tX11_fault = true := by decide +kernel
abbrev q_X11_fault (h : zM) (p1 : Int) : Option zV → zM → Prop := zqi fun v h' => ((-2147483648) ≤ v ∧ v ≤ 2147483647) ∧ okM h' ∧ zfr [0] [] h h'
set_option maxRecDepth 100000 in
set_option maxHeartbeats 4000000 in
theorem s_X11_fault (l : Launch) (h : zM) (p1 : Int) (s0 : okM h) (b_p1 : (-2147483648) ≤ p1 ∧ p1 ≤ 2147483647) : zT shM l yX11_fault cX11_fault 2 (some .int) (rmL 1) 0 0 [.inr 0, .inl p1] h (q_X11_fault h p1) := by
  refine zT_of (by decide +kernel) (L0 := [some (.inr 0), some (.inl p1)]) rfl (Nat.le_of_ble_eq_true rfl) ?_
  refine zj_aload_n (zdk ttX11_fault 0 rfl rfl) rfl (by decide) ?_
  refine zj_iconst (zdk ttX11_fault 1 rfl rfl) ?_
  refine zj_puti (zdk ttX11_fault 2 rfl rfl) zf_RX11_120 rfl (k_M s0) (Or.inl zw_RX11_120) (k2 := 0) rfl (fun h1 e2 => ?_)
  refine zj_iload_n (zdk ttX11_fault 3 rfl rfl) rfl ?_
  refine zj_if_ne (t := 16) (zdk ttX11_fault 4 rfl rfl) (by decide) (by omega) (fun c3 => ?_) (fun c3 => ?_)
  · refine zj_iload_n (zdk ttX11_fault 8 rfl rfl) rfl ?_
    refine zj_iconst (zdk ttX11_fault 9 rfl rfl) ?_
    refine zj_icmp_ne (t := 28) (zdk ttX11_fault 10 rfl rfl) (by decide) (by omega) (by decide) (fun c4 => ?_) (fun c4 => ?_)
    · refine zj_iconst (zdk ttX11_fault 14 rfl rfl) ?_
      have s5 : okM h1 := fwM_0 s0 e2 (by omega)
      have f6 : zfr [0] [] h h1 := zfr_wf (zfr_r _ _ _) e2 rfl
      exact zj_iret rfl (zdk ttX11_fault 15 rfl rfl) (Nat.le_refl _) (Nat.le_refl _) ⟨(-1), rfl, by omega, s5, f6⟩
    · refine zj_aload_n (zdk ttX11_fault 11 rfl rfl) rfl (by decide) ?_
      have b7 : -2147483648 ≤ (h.2 0 32) ∧ (h.2 0 32) ≤ 2147483647 := fM_32 s0
      have s8 : okM h1 := fwM_0 s0 e2 (by omega)
      refine zj_geti (v := (h.2 0 32)) (zdk ttX11_fault 12 rfl rfl) zf_RX11_58 rfl (k_M s8) (zwr_r e2 (by first | decide | exact (absurd ·.1 (by decide)) | exact (absurd ·.2 (by decide)) | omega)) ?_
      refine zj_goto (t := 29) (zdk ttX11_fault 13 rfl rfl) (by decide) ?_
      have f9 : zfr [0] [] h h1 := zfr_wf (zfr_r _ _ _) e2 rfl
      exact zj_iret rfl (zdk ttX11_fault 15 rfl rfl) (Nat.le_refl _) (Nat.le_refl _) ⟨(h.2 0 32), rfl, by omega, s8, f9⟩
  · refine zj_aload_n (zdk ttX11_fault 5 rfl rfl) rfl (by decide) ?_
    have b10 : -2147483648 ≤ (h.2 0 31) ∧ (h.2 0 31) ≤ 2147483647 := fM_31 s0
    have s11 : okM h1 := fwM_0 s0 e2 (by omega)
    refine zj_geti (v := (h.2 0 31)) (zdk ttX11_fault 6 rfl rfl) zf_RX11_291 rfl (k_M s11) (zwr_r e2 (by first | decide | exact (absurd ·.1 (by decide)) | exact (absurd ·.2 (by decide)) | omega)) ?_
    refine zj_goto (t := 29) (zdk ttX11_fault 7 rfl rfl) (by decide) ?_
    have f12 : zfr [0] [] h h1 := zfr_wf (zfr_r _ _ _) e2 rfl
    exact zj_iret rfl (zdk ttX11_fault 15 rfl rfl) (Nat.le_refl _) (Nat.le_refl _) ⟨(h.2 0 31), rfl, by omega, s11, f12⟩
