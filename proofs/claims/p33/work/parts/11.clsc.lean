abbrev tX8_bestFrom : List (Nat × Instr × Nat) := [(0, .iconst (-1), 1), (1, .istore 4, 2), (3, .iconst 1, 1), (4, .istore 5, 2), (6, .iload 5, 2), (8, .bipush 10, 2), (10, .if_icmp .gt 36, 3), (13, .iload_n 2, 1), (14, .iload 5, 2), (16, .iconst 1, 1), (17, .isub, 1), (18, .ishr, 1), (19, .iconst 1, 1), (20, .iand, 1), (21, .iconst 1, 1), (22, .if_icmp .ne 18, 3), (25, .iload 4, 2), (27, .aload_n 0, 1), (28, .iload_n 1, 1), (29, .iload_n 3, 1), (30, .iload 5, 2), (32, .invokevirtual 111, 3), (35, .invokestatic 37, 3), (38, .istore 4, 2), (40, .iinc 5 1, 3), (43, .goto (-37), 3), (46, .iload 4, 2), (48, .ireturn, 1)]
theorem ttX8_bestFrom : zdt cX8_bestFrom tX8_bestFrom = true := by decide +kernel
abbrev q_X8_bestFrom (h : zM) (p1 : Int) (p2 : Int) (p3 : Int) : Option zV → zM → Prop := zqi fun v h' => h = h' ∧ ((-2147483648) ≤ v ∧ v ≤ 2147483647)
set_option maxRecDepth 100000 in
set_option maxHeartbeats 4000000 in
theorem s_X8_bestFrom (l : Launch) (h : zM) (p1 : Int) (p2 : Int) (p3 : Int) (s0 : okC h) (b_p1 : 2 ≤ p1 ∧ p1 ≤ 60) (b_p2 : (-2147483648) ≤ p2 ∧ p2 ≤ 2147483647) (b_p3 : 0 ≤ p3 ∧ p3 ≤ 59) : zT shC l yX8_bestFrom cX8_bestFrom 6 (some .int) (rmL 2) 0 0 [.inr 108, .inl p1, .inl p2, .inl p3] h (q_X8_bestFrom h p1 p2 p3) := by
  refine zT_of (by decide +kernel) (L0 := [some (.inr 108), some (.inl p1), some (.inl p2), some (.inl p3), none, none]) rfl (Nat.le_of_ble_eq_true rfl) ?_
  refine zj_iconst (zdk ttX8_bestFrom 0 rfl rfl) ?_
  refine zj_istore (L' := [some (.inr 108), some (.inl p1), some (.inl p2), some (.inl p3), some (.inl (-1)), none]) (zdk ttX8_bestFrom 1 rfl rfl) (by decide) rfl ?_
  refine zj_iconst (zdk ttX8_bestFrom 2 rfl rfl) ?_
  refine zj_istore (L' := [some (.inr 108), some (.inl p1), some (.inl p2), some (.inl p3), some (.inl (-1)), some (.inl 1)]) (zdk ttX8_bestFrom 3 rfl rfl) (by decide) rfl ?_
  have lp57 : ∀ (n : Nat) (x1 x2 : Int), (-1 ≤ x1 ∧ x1 ≤ 2147483647) → (1 ≤ x2 ∧ x2 ≤ 11) → (12 - x2).toNat < n → zJ shC l yX8_bestFrom cX8_bestFrom 6 (some .int) (rmL 2) 0 0 (q_X8_bestFrom h p1 p2 p3) 0 0 6 [some (.inr 108), some (.inl p1), some (.inl p2), some (.inl p3), some (.inl x1), some (.inl x2)] [] h := by
    intro n
    induction n with
    | zero => intro x1 x2 b58 b59 m60; exact absurd m60 (Nat.not_lt_zero _)
    | succ n ih61 =>
      intro x1 x2 b58 b59 m60
      refine zj_iload (zdk ttX8_bestFrom 4 rfl rfl) rfl ?_
      refine zj_bipush (zdk ttX8_bestFrom 5 rfl rfl) (by decide) ?_
      refine zj_icmp_gt (t := 46) (zdk ttX8_bestFrom 6 rfl rfl) (by decide) (by omega) (by decide) (fun c62 => ?_) (fun c62 => ?_)
      · refine zj_iload (zdk ttX8_bestFrom 26 rfl rfl) rfl ?_
        exact zj_iret rfl (zdk ttX8_bestFrom 27 rfl rfl) (Nat.le_refl _) (Nat.le_refl _) ⟨x1, rfl, rfl, by omega⟩
      · refine zj_iload_n (zdk ttX8_bestFrom 7 rfl rfl) rfl ?_
        refine zj_iload (zdk ttX8_bestFrom 8 rfl rfl) rfl ?_
        refine zj_iconst (zdk ttX8_bestFrom 9 rfl rfl) ?_
        refine zj_isub (zdk ttX8_bestFrom 10 rfl rfl) ?_
        refine zj_ishr (zdk ttX8_bestFrom 11 rfl rfl) ?_
        have b63 := zshr_in p2 (x2 - 1)
        refine zj_iconst (zdk ttX8_bestFrom 12 rfl rfl) ?_
        refine zj_iand (zdk ttX8_bestFrom 13 rfl rfl) ?_
        have b64 := zand_m (d := 2) 1 (by decide) (c := 1) (by decide) (by decide) (zshr p2 (x2 - 1))
        refine zj_iconst (zdk ttX8_bestFrom 14 rfl rfl) ?_
        refine zj_icmp_ne (t := 40) (zdk ttX8_bestFrom 15 rfl rfl) (by decide) (by omega) (by decide) (fun c65 => ?_) (fun c65 => ?_)
        · refine zj_iinc (L' := [some (.inr 108), some (.inl p1), some (.inl p2), some (.inl p3), some (.inl x1), some (.inl (x2 + 1))]) (zdk ttX8_bestFrom 24 rfl rfl) rfl (by decide) rfl ?_
          refine zj_goto (t := 6) (zdk ttX8_bestFrom 25 rfl rfl) (by decide) ?_
          exact ih61  x1 (x2 + 1) (by omega) (by omega) (by omega)
        · refine zj_iload (zdk ttX8_bestFrom 16 rfl rfl) rfl ?_
          refine zj_aload_n (zdk ttX8_bestFrom 17 rfl rfl) rfl (by decide) ?_
          refine zj_iload_n (zdk ttX8_bestFrom 18 rfl rfl) rfl ?_
          refine zj_iload_n (zdk ttX8_bestFrom 19 rfl rfl) rfl ?_
          refine zj_iload (zdk ttX8_bestFrom 20 rfl rfl) rfl ?_
          refine zj_callV (av := [.inl p1, .inl p3, .inl x2]) (st := [.inl x1]) (zdk ttX8_bestFrom 21 rfl rfl) mb_X8_worthOfStep mv_RX8_111 (ci := 8) rfl rfl (k_L108 s0) rfl rfl (Nat.le_of_ble_eq_true rfl) (s_X8_worthOfStep l h p1 p3 x2 s0 (by omega) (by omega) (by omega)) (rm_ok (by decide) (by decide)) (zq_i fun v67 h68 q66 => ?_)
          obtain ⟨rfl, b69⟩ := q66
          refine zj_max (zdk ttX8_bestFrom 22 rfl rfl) mx_RX8_37 (by omega) (by omega) (Nat.le_of_ble_eq_true rfl) (rm_m (by decide)) ?_
          have b70 := zm_max_f x1 v67
          refine zj_istore (L' := [some (.inr 108), some (.inl p1), some (.inl p2), some (.inl p3), some (.inl (zm_max x1 v67)), some (.inl x2)]) (zdk ttX8_bestFrom 23 rfl rfl) (by decide) rfl ?_
          refine zj_iinc (L' := [some (.inr 108), some (.inl p1), some (.inl p2), some (.inl p3), some (.inl (zm_max x1 v67)), some (.inl (x2 + 1))]) (zdk ttX8_bestFrom 24 rfl rfl) rfl (by decide) rfl ?_
          refine zj_goto (t := 6) (zdk ttX8_bestFrom 25 rfl rfl) (by decide) ?_
          exact ih61  (zm_max x1 v67) (x2 + 1) (by omega) (by omega) (by omega)
  exact lp57 _ (-1) 1 (by omega) (by omega) (Nat.lt_succ_self _)

abbrev tX8_judgeHours : List (Nat × Instr × Nat) := [(0, .aload_n 0, 1), (1, .getfield 11, 3), (4, .iconst 0, 1), (5, .invokestatic 40, 3), (8, .iload_n 2, 1), (9, .ifCond .eq 7, 3), (12, .iconst 1, 1), (13, .goto 4, 3), (16, .iconst 0, 1), (17, .istore_n 3, 1), (18, .iconst 0, 1), (19, .istore 4, 2), (21, .iload 4, 2), (23, .iload_n 1, 1), (24, .if_icmp .gt 71, 3), (27, .iload_n 3, 1), (28, .ifCond .eq 67, 3), (31, .iconst 0, 1), (32, .istore_n 3, 1), (33, .iload_n 1, 1), (34, .iconst 1, 1), (35, .isub, 1), (36, .istore 5, 2), (38, .iload 5, 2), (40, .ifCond .lt 49, 3), (43, .aload_n 0, 1), (44, .getfield 11, 3), (47, .iload 5, 2), (49, .iaload, 1), (50, .ifCond .ne 14, 3), (53, .aload_n 0, 1), (54, .iload_n 1, 1), (55, .iload_n 2, 1), (56, .iload 5, 2), (58, .invokevirtual 107, 3), (61, .goto 4, 3), (64, .iconst 0, 1), (65, .istore 6, 2), (67, .iload 6, 2), (69, .ifCond .eq 14, 3), (72, .aload_n 0, 1), (73, .getfield 11, 3), (76, .iload 5, 2), (78, .iload 6, 2), (80, .iastore, 1), (81, .iconst 1, 1), (82, .istore_n 3, 1), (83, .iinc 5 (-1), 3), (86, .goto (-48), 3), (89, .iinc 4 1, 3), (92, .goto (-71), 3), (95, .return_, 1)]
theorem ttX8_judgeHours : zdt cX8_judgeHours tX8_judgeHours = true := by decide +kernel
abbrev q_X8_judgeHours (h : zM) (p1 : Int) (p2 : Int) : Option zV → zM → Prop := zqv fun h' => okC h'
set_option maxRecDepth 100000 in
set_option maxHeartbeats 4000000 in
theorem s_X8_judgeHours (l : Launch) (h : zM) (p1 : Int) (p2 : Int) (s0 : okC h) (b_p1 : 2 ≤ p1 ∧ p1 ≤ 60) (b_p2 : (-2147483648) ≤ p2 ∧ p2 ≤ 2147483647) : zT shC l yX8_judgeHours cX8_judgeHours 7 none (rmL 3) 0 0 [.inr 108, .inl p1, .inl p2] h (q_X8_judgeHours h p1 p2) := by
  refine zT_of (by decide +kernel) (L0 := [some (.inr 108), some (.inl p1), some (.inl p2), none, none, none, none]) rfl (Nat.le_of_ble_eq_true rfl) ?_
  refine zj_aload_n (zdk ttX8_judgeHours 0 rfl rfl) rfl (by decide) ?_
  refine zj_getr (r := 109) (zdk ttX8_judgeHours 1 rfl rfl) zf_RX8_11 rfl (k_L108 s0) (rf_L108_0 s0) ?_
  refine zj_iconst (zdk ttX8_judgeHours 2 rfl rfl) ?_
  refine zj_callS (av := [.inr 109, .inl 0]) (st := []) (zdk ttX8_judgeHours 3 rfl rfl) mb_J7_fill_53178 ms_RX8_40 rfl rfl (Nat.le_of_ble_eq_true rfl) (s_J7_fill_53178 shC l h 109 0 (ka_L108_0 s0) (by decide)) (rm_ok (by decide) (by decide)) (zq_v fun h1 e2 => ?_)
  refine zj_iload_n (zdk ttX8_judgeHours 4 rfl rfl) rfl ?_
  have j5 : ∀ (y4 : Int), (0 ≤ y4 ∧ y4 ≤ 1) → zJ shC l yX8_judgeHours cX8_judgeHours 7 none (rmL 3) 0 0 (q_X8_judgeHours h p1 p2) 0 0 17 [some (.inr 108), some (.inl p1), some (.inl p2), none, none, none, none] [.inl y4] h1 := by
    intro y4 b6
    refine zj_istore_n (L' := [some (.inr 108), some (.inl p1), some (.inl p2), some (.inl y4), none, none, none]) (zdk ttX8_judgeHours 9 rfl rfl) (by decide) rfl ?_
    refine zj_iconst (zdk ttX8_judgeHours 10 rfl rfl) ?_
    refine zj_istore (L' := [some (.inr 108), some (.inl p1), some (.inl p2), some (.inl y4), some (.inl 0), none, none]) (zdk ttX8_judgeHours 11 rfl rfl) (by decide) rfl ?_
    have lp286 : ∀ (n : Nat) (x7 x8 : Int) (h9 : zM), (0 ≤ x7 ∧ x7 ≤ 1) → (0 ≤ x8 ∧ x8 ≤ 61) → okC h9 → (62 - x8).toNat < n → zJ shC l yX8_judgeHours cX8_judgeHours 7 none (rmL 3) 0 0 (q_X8_judgeHours h p1 p2) 0 0 21 [some (.inr 108), some (.inl p1), some (.inl p2), some (.inl x7), some (.inl x8), none, none] [] h9 := by
      intro n
      induction n with
      | zero => intro x7 x8 h9 b287 b288 s10 m289; exact absurd m289 (Nat.not_lt_zero _)
      | succ n ih290 =>
        intro x7 x8 h9 b287 b288 s10 m289
        refine zj_iload (zdk ttX8_judgeHours 12 rfl rfl) rfl ?_
        refine zj_iload_n (zdk ttX8_judgeHours 13 rfl rfl) rfl ?_
        refine zj_icmp_gt (t := 95) (zdk ttX8_judgeHours 14 rfl rfl) (by decide) (by omega) (by omega) (fun c291 => ?_) (fun c291 => ?_)
        · exact zj_vret rfl (zdk ttX8_judgeHours 51 rfl rfl) (Nat.le_refl _) (Nat.le_refl _) ⟨rfl, s10⟩
        · refine zj_iload_n (zdk ttX8_judgeHours 15 rfl rfl) rfl ?_
          refine zj_if_eq (t := 95) (zdk ttX8_judgeHours 16 rfl rfl) (by decide) (by omega) (fun c292 => ?_) (fun c292 => ?_)
          · exact zj_vret rfl (zdk ttX8_judgeHours 51 rfl rfl) (Nat.le_refl _) (Nat.le_refl _) ⟨rfl, s10⟩
          · refine zj_iconst (zdk ttX8_judgeHours 17 rfl rfl) ?_
            refine zj_istore_n (L' := [some (.inr 108), some (.inl p1), some (.inl p2), some (.inl 0), some (.inl x8), none, none]) (zdk ttX8_judgeHours 18 rfl rfl) (by decide) rfl ?_
            refine zj_iload_n (zdk ttX8_judgeHours 19 rfl rfl) rfl ?_
            refine zj_iconst (zdk ttX8_judgeHours 20 rfl rfl) ?_
            refine zj_isub (zdk ttX8_judgeHours 21 rfl rfl) ?_
            refine zj_istore (L' := [some (.inr 108), some (.inl p1), some (.inl p2), some (.inl 0), some (.inl x8), some (.inl (p1 - 1)), none]) (zdk ttX8_judgeHours 22 rfl rfl) (by decide) rfl ?_
            have lp330 : ∀ (n : Nat) (x293 x294 : Int) (h295 : zM), (0 ≤ x293 ∧ x293 ≤ 1) → (-1 ≤ x294 ∧ x294 ≤ 59) → okC h295 → (x294 - -2).toNat < n → zJ shC l yX8_judgeHours cX8_judgeHours 7 none (rmL 3) 0 0 (q_X8_judgeHours h p1 p2) 0 0 38 [some (.inr 108), some (.inl p1), some (.inl p2), some (.inl x293), some (.inl x8), some (.inl x294), none] [] h295 := by
              intro n
              induction n with
              | zero => intro x293 x294 h295 b331 b332 s296 m333; exact absurd m333 (Nat.not_lt_zero _)
              | succ n ih334 =>
                intro x293 x294 h295 b331 b332 s296 m333
                refine zj_iload (zdk ttX8_judgeHours 23 rfl rfl) rfl ?_
                refine zj_if_lt (t := 89) (zdk ttX8_judgeHours 24 rfl rfl) (by decide) (by omega) (fun c335 => ?_) (fun c335 => ?_)
                · refine zj_iinc (L' := [some (.inr 108), some (.inl p1), some (.inl p2), some (.inl x293), some (.inl (x8 + 1)), some (.inl x294), none]) (zdk ttX8_judgeHours 49 rfl rfl) rfl (by decide) rfl ?_
                  refine zj_goto (t := 21) (zdk ttX8_judgeHours 50 rfl rfl) (by decide) ?_
                  refine zj_kill (k := 5) (L' := [some (.inr 108), some (.inl p1), some (.inl p2), some (.inl x293), some (.inl (x8 + 1)), none, none]) rfl ?_
                  exact ih290  x293 (x8 + 1) h295 (by omega) (by omega) s296 (by omega)
                · refine zj_aload_n (zdk ttX8_judgeHours 25 rfl rfl) rfl (by decide) ?_
                  refine zj_getr (r := 109) (zdk ttX8_judgeHours 26 rfl rfl) zf_RX8_11 rfl (k_L108 s296) (rf_L108_0 s296) ?_
                  refine zj_iload (zdk ttX8_judgeHours 27 rfl rfl) rfl ?_
                  have b336 : -2147483648 ≤ (h295.2 109 x294) ∧ (h295.2 109 x294) ≤ 2147483647 := ab_L108_0 s296 x294
                  refine zj_iald (v := (h295.2 109 x294)) (zdk ttX8_judgeHours 28 rfl rfl) (ka_L108_0 s296) (by decide) (by omega) rfl ?_
                  refine zj_if_ne (t := 64) (zdk ttX8_judgeHours 29 rfl rfl) (by decide) (by omega) (fun c337 => ?_) (fun c337 => ?_)
                  · refine zj_iconst (zdk ttX8_judgeHours 36 rfl rfl) ?_
                    refine zj_istore (L' := [some (.inr 108), some (.inl p1), some (.inl p2), some (.inl x293), some (.inl x8), some (.inl x294), some (.inl 0)]) (zdk ttX8_judgeHours 37 rfl rfl) (by decide) rfl ?_
                    refine zj_iload (zdk ttX8_judgeHours 38 rfl rfl) rfl ?_
                    refine zj_if_eq (t := 83) (zdk ttX8_judgeHours 39 rfl rfl) (by decide) (by decide) (fun c338 => ?_) (fun c338 => ?_)
                    · refine zj_iinc (L' := [some (.inr 108), some (.inl p1), some (.inl p2), some (.inl x293), some (.inl x8), some (.inl (x294 + (-1))), some (.inl 0)]) (zdk ttX8_judgeHours 47 rfl rfl) rfl (by decide) rfl ?_
                      refine zj_goto (t := 38) (zdk ttX8_judgeHours 48 rfl rfl) (by decide) ?_
                      refine zj_kill (k := 6) (L' := [some (.inr 108), some (.inl p1), some (.inl p2), some (.inl x293), some (.inl x8), some (.inl (x294 + (-1))), none]) rfl ?_
                      exact ih334  x293 (x294 + (-1)) h295 (by omega) (by omega) s296 (by omega)
                    · exact absurd c338 (by omega)
                  · refine zj_aload_n (zdk ttX8_judgeHours 30 rfl rfl) rfl (by decide) ?_
                    refine zj_iload_n (zdk ttX8_judgeHours 31 rfl rfl) rfl ?_
                    refine zj_iload_n (zdk ttX8_judgeHours 32 rfl rfl) rfl ?_
                    refine zj_iload (zdk ttX8_judgeHours 33 rfl rfl) rfl ?_
                    refine zj_callV (av := [.inl p1, .inl p2, .inl x294]) (st := []) (zdk ttX8_judgeHours 34 rfl rfl) mb_X8_bestFrom mv_RX8_107 (ci := 8) rfl rfl (k_L108 s296) rfl rfl (Nat.le_of_ble_eq_true rfl) (s_X8_bestFrom l h295 p1 p2 x294 s296 (by omega) (by omega) (by omega)) (rm_ok (by decide) (by decide)) (zq_i fun v340 h341 q339 => ?_)
                    obtain ⟨rfl, b342⟩ := q339
                    refine zj_goto (t := 65) (zdk ttX8_judgeHours 35 rfl rfl) (by decide) ?_
                    refine zj_istore (L' := [some (.inr 108), some (.inl p1), some (.inl p2), some (.inl x293), some (.inl x8), some (.inl x294), some (.inl v340)]) (zdk ttX8_judgeHours 37 rfl rfl) (by decide) rfl ?_
                    refine zj_iload (zdk ttX8_judgeHours 38 rfl rfl) rfl ?_
                    refine zj_if_eq (t := 83) (zdk ttX8_judgeHours 39 rfl rfl) (by decide) (by omega) (fun c343 => ?_) (fun c343 => ?_)
                    · refine zj_iinc (L' := [some (.inr 108), some (.inl p1), some (.inl p2), some (.inl x293), some (.inl x8), some (.inl (x294 + (-1))), some (.inl v340)]) (zdk ttX8_judgeHours 47 rfl rfl) rfl (by decide) rfl ?_
                      refine zj_goto (t := 38) (zdk ttX8_judgeHours 48 rfl rfl) (by decide) ?_
                      refine zj_kill (k := 6) (L' := [some (.inr 108), some (.inl p1), some (.inl p2), some (.inl x293), some (.inl x8), some (.inl (x294 + (-1))), none]) rfl ?_
                      exact ih334  x293 (x294 + (-1)) h295 (by omega) (by omega) s296 (by omega)
                    · refine zj_aload_n (zdk ttX8_judgeHours 40 rfl rfl) rfl (by decide) ?_
                      refine zj_getr (r := 109) (zdk ttX8_judgeHours 41 rfl rfl) zf_RX8_11 rfl (k_L108 s296) (rf_L108_0 s296) ?_
                      refine zj_iload (zdk ttX8_judgeHours 42 rfl rfl) rfl ?_
                      refine zj_iload (zdk ttX8_judgeHours 43 rfl rfl) rfl ?_
                      refine zj_iast (zdk ttX8_judgeHours 44 rfl rfl) (ka_L108_0 s296) (by decide) (by omega) (fun h344 e345 => ?_)
                      refine zj_iconst (zdk ttX8_judgeHours 45 rfl rfl) ?_
                      refine zj_istore_n (L' := [some (.inr 108), some (.inl p1), some (.inl p2), some (.inl 1), some (.inl x8), some (.inl x294), some (.inl v340)]) (zdk ttX8_judgeHours 46 rfl rfl) (by decide) rfl ?_
                      refine zj_iinc (L' := [some (.inr 108), some (.inl p1), some (.inl p2), some (.inl 1), some (.inl x8), some (.inl (x294 + (-1))), some (.inl v340)]) (zdk ttX8_judgeHours 47 rfl rfl) rfl (by decide) rfl ?_
                      refine zj_goto (t := 38) (zdk ttX8_judgeHours 48 rfl rfl) (by decide) ?_
                      refine zj_kill (k := 6) (L' := [some (.inr 108), some (.inl p1), some (.inl p2), some (.inl 1), some (.inl x8), some (.inl (x294 + (-1))), none]) rfl ?_
                      have s346 : okC h344 := aw_L108_0 s296 e345 (by omega)
                      exact ih334  1 (x294 + (-1)) h344 (by omega) (by omega) s346 (by omega)
            exact lp330 _ 0 (p1 - 1) h9 (by omega) (by omega) s10 (Nat.lt_succ_self _)
    have s347 : okC h1 := okC_fill s0 e2 (fun j => pa_L108_0 (v := 0) (by omega) j) (na_L108_0).1 (na_L108_0).2
    exact lp286 _ y4 0 h1 (by omega) (by omega) s347 (Nat.lt_succ_self _)
  refine zj_if_eq (t := 16) (zdk ttX8_judgeHours 5 rfl rfl) (by decide) (by omega) (fun c3 => ?_) (fun c3 => ?_)
  · refine zj_iconst (zdk ttX8_judgeHours 8 rfl rfl) ?_
    exact j5 0 (by omega)
  · refine zj_iconst (zdk ttX8_judgeHours 6 rfl rfl) ?_
    refine zj_goto (t := 17) (zdk ttX8_judgeHours 7 rfl rfl) (by decide) ?_
    exact j5 1 (by omega)

abbrev tX8_stepThatKeeps : List (Nat × Instr × Nat) := [(0, .iconst 1, 1), (1, .istore 4, 2), (3, .iload 4, 2), (5, .bipush 10, 2), (7, .if_icmp .gt 41, 3), (10, .iload_n 2, 1), (11, .iload 4, 2), (13, .iconst 1, 1), (14, .isub, 1), (15, .ishr, 1), (16, .iconst 1, 1), (17, .iand, 1), (18, .iconst 1, 1), (19, .if_icmp .ne 23, 3), (22, .aload_n 0, 1), (23, .iload_n 1, 1), (24, .iload_n 3, 1), (25, .iload 4, 2), (27, .invokevirtual 111, 3), (30, .aload_n 0, 1), (31, .getfield 11, 3), (34, .iload_n 3, 1), (35, .iaload, 1), (36, .if_icmp .ne 6, 3), (39, .iload 4, 2), (41, .ireturn, 1), (42, .iinc 4 1, 3), (45, .goto (-42), 3), (48, .iconst (-1), 1), (49, .ireturn, 1)]
theorem ttX8_stepThatKeeps : zdt cX8_stepThatKeeps tX8_stepThatKeeps = true := by decide +kernel
abbrev q_X8_stepThatKeeps (h : zM) (p1 : Int) (p2 : Int) (p3 : Int) : Option zV → zM → Prop := zqi fun v h' => h = h' ∧ ((-2147483648) ≤ v ∧ v ≤ 2147483647)
set_option maxRecDepth 100000 in
set_option maxHeartbeats 4000000 in
theorem s_X8_stepThatKeeps (l : Launch) (h : zM) (p1 : Int) (p2 : Int) (p3 : Int) (s0 : okC h) (b_p1 : 2 ≤ p1 ∧ p1 ≤ 60) (b_p2 : (-2147483648) ≤ p2 ∧ p2 ≤ 2147483647) (b_p3 : 0 ≤ p3 ∧ p3 ≤ 59) : zT shC l yX8_stepThatKeeps cX8_stepThatKeeps 5 (some .int) (rmL 2) 0 0 [.inr 108, .inl p1, .inl p2, .inl p3] h (q_X8_stepThatKeeps h p1 p2 p3) := by
  refine zT_of (by decide +kernel) (L0 := [some (.inr 108), some (.inl p1), some (.inl p2), some (.inl p3), none]) rfl (Nat.le_of_ble_eq_true rfl) ?_
  refine zj_iconst (zdk ttX8_stepThatKeeps 0 rfl rfl) ?_
  refine zj_istore (L' := [some (.inr 108), some (.inl p1), some (.inl p2), some (.inl p3), some (.inl 1)]) (zdk ttX8_stepThatKeeps 1 rfl rfl) (by decide) rfl ?_
  have lp62 : ∀ (n : Nat) (x1 : Int), (1 ≤ x1 ∧ x1 ≤ 11) → (12 - x1).toNat < n → zJ shC l yX8_stepThatKeeps cX8_stepThatKeeps 5 (some .int) (rmL 2) 0 0 (q_X8_stepThatKeeps h p1 p2 p3) 0 0 3 [some (.inr 108), some (.inl p1), some (.inl p2), some (.inl p3), some (.inl x1)] [] h := by
    intro n
    induction n with
    | zero => intro x1 b63 m64; exact absurd m64 (Nat.not_lt_zero _)
    | succ n ih65 =>
      intro x1 b63 m64
      refine zj_iload (zdk ttX8_stepThatKeeps 2 rfl rfl) rfl ?_
      refine zj_bipush (zdk ttX8_stepThatKeeps 3 rfl rfl) (by decide) ?_
      refine zj_icmp_gt (t := 48) (zdk ttX8_stepThatKeeps 4 rfl rfl) (by decide) (by omega) (by decide) (fun c66 => ?_) (fun c66 => ?_)
      · refine zj_iconst (zdk ttX8_stepThatKeeps 28 rfl rfl) ?_
        exact zj_iret rfl (zdk ttX8_stepThatKeeps 29 rfl rfl) (Nat.le_refl _) (Nat.le_refl _) ⟨(-1), rfl, rfl, by omega⟩
      · refine zj_iload_n (zdk ttX8_stepThatKeeps 5 rfl rfl) rfl ?_
        refine zj_iload (zdk ttX8_stepThatKeeps 6 rfl rfl) rfl ?_
        refine zj_iconst (zdk ttX8_stepThatKeeps 7 rfl rfl) ?_
        refine zj_isub (zdk ttX8_stepThatKeeps 8 rfl rfl) ?_
        refine zj_ishr (zdk ttX8_stepThatKeeps 9 rfl rfl) ?_
        have b67 := zshr_in p2 (x1 - 1)
        refine zj_iconst (zdk ttX8_stepThatKeeps 10 rfl rfl) ?_
        refine zj_iand (zdk ttX8_stepThatKeeps 11 rfl rfl) ?_
        have b68 := zand_m (d := 2) 1 (by decide) (c := 1) (by decide) (by decide) (zshr p2 (x1 - 1))
        refine zj_iconst (zdk ttX8_stepThatKeeps 12 rfl rfl) ?_
        refine zj_icmp_ne (t := 42) (zdk ttX8_stepThatKeeps 13 rfl rfl) (by decide) (by omega) (by decide) (fun c69 => ?_) (fun c69 => ?_)
        · refine zj_iinc (L' := [some (.inr 108), some (.inl p1), some (.inl p2), some (.inl p3), some (.inl (x1 + 1))]) (zdk ttX8_stepThatKeeps 26 rfl rfl) rfl (by decide) rfl ?_
          refine zj_goto (t := 3) (zdk ttX8_stepThatKeeps 27 rfl rfl) (by decide) ?_
          exact ih65  (x1 + 1) (by omega) (by omega)
        · refine zj_aload_n (zdk ttX8_stepThatKeeps 14 rfl rfl) rfl (by decide) ?_
          refine zj_iload_n (zdk ttX8_stepThatKeeps 15 rfl rfl) rfl ?_
          refine zj_iload_n (zdk ttX8_stepThatKeeps 16 rfl rfl) rfl ?_
          refine zj_iload (zdk ttX8_stepThatKeeps 17 rfl rfl) rfl ?_
          refine zj_callV (av := [.inl p1, .inl p3, .inl x1]) (st := []) (zdk ttX8_stepThatKeeps 18 rfl rfl) mb_X8_worthOfStep mv_RX8_111 (ci := 8) rfl rfl (k_L108 s0) rfl rfl (Nat.le_of_ble_eq_true rfl) (s_X8_worthOfStep l h p1 p3 x1 s0 (by omega) (by omega) (by omega)) (rm_ok (by decide) (by decide)) (zq_i fun v71 h72 q70 => ?_)
          obtain ⟨rfl, b73⟩ := q70
          refine zj_aload_n (zdk ttX8_stepThatKeeps 19 rfl rfl) rfl (by decide) ?_
          refine zj_getr (r := 109) (zdk ttX8_stepThatKeeps 20 rfl rfl) zf_RX8_11 rfl (k_L108 s0) (rf_L108_0 s0) ?_
          refine zj_iload_n (zdk ttX8_stepThatKeeps 21 rfl rfl) rfl ?_
          have b74 : -2147483648 ≤ (h.2 109 p3) ∧ (h.2 109 p3) ≤ 2147483647 := ab_L108_0 s0 p3
          refine zj_iald (v := (h.2 109 p3)) (zdk ttX8_stepThatKeeps 22 rfl rfl) (ka_L108_0 s0) (by decide) (by omega) rfl ?_
          refine zj_icmp_ne (t := 42) (zdk ttX8_stepThatKeeps 23 rfl rfl) (by decide) (by omega) (by omega) (fun c75 => ?_) (fun c75 => ?_)
          · refine zj_iinc (L' := [some (.inr 108), some (.inl p1), some (.inl p2), some (.inl p3), some (.inl (x1 + 1))]) (zdk ttX8_stepThatKeeps 26 rfl rfl) rfl (by decide) rfl ?_
            refine zj_goto (t := 3) (zdk ttX8_stepThatKeeps 27 rfl rfl) (by decide) ?_
            exact ih65  (x1 + 1) (by omega) (by omega)
          · refine zj_iload (zdk ttX8_stepThatKeeps 24 rfl rfl) rfl ?_
            exact zj_iret rfl (zdk ttX8_stepThatKeeps 25 rfl rfl) (Nat.le_refl _) (Nat.le_refl _) ⟨x1, rfl, rfl, by omega⟩
  exact lp62 _ 1 (by omega) (Nat.lt_succ_self _)

abbrev tX9_valueOf : List (Nat × Instr × Nat) := [(0, .iload_n 1, 1), (1, .tableswitch 180 7 15 #[51, 61, 71, 81, 92, 100, 120, 128, 136], 51), (52, .aload_n 0, 1), (53, .getfield 12, 3), (56, .getfield 205, 3), (59, .iload_n 2, 1), (60, .iaload, 1), (61, .ireturn, 1), (62, .aload_n 0, 1), (63, .getfield 12, 3), (66, .getfield 202, 3), (69, .iload_n 2, 1), (70, .iaload, 1), (71, .ireturn, 1), (72, .aload_n 0, 1), (73, .getfield 12, 3), (76, .getfield 156, 3), (79, .iload_n 2, 1), (80, .iaload, 1), (81, .ireturn, 1), (82, .aload_n 0, 1), (83, .getfield 12, 3), (86, .getfield 153, 3), (89, .invokestatic 208, 3), (92, .ireturn, 1), (93, .aload_n 0, 1), (94, .getfield 12, 3), (97, .getfield 121, 3), (100, .ireturn, 1), (101, .sipush (-9999), 3), (104, .sipush 9999, 3), (107, .aload_n 0, 1), (108, .getfield 12, 3), (111, .getfield 159, 3), (114, .invokestatic 166, 3), (117, .invokestatic 171, 3), (120, .ireturn, 1), (121, .aload_n 0, 1), (122, .getfield 12, 3), (125, .getfield 114, 3), (128, .ireturn, 1), (129, .aload_n 0, 1), (130, .getfield 12, 3), (133, .getfield 108, 3), (136, .ireturn, 1), (137, .aload_n 0, 1), (138, .getfield 38, 3), (141, .getfield 214, 3), (144, .iload_n 2, 1), (145, .iaload, 1), (146, .aload_n 0, 1), (147, .getfield 12, 3), (150, .iload_n 2, 1), (151, .invokevirtual 124, 3), (154, .ifCond .eq 15, 3), (157, .aload_n 0, 1), (158, .getfield 12, 3), (161, .getfield 153, 3), (164, .iconst (-1), 1), (165, .ixor, 1), (166, .goto 10, 3), (169, .aload_n 0, 1), (170, .getfield 12, 3), (173, .getfield 153, 3), (176, .iand, 1), (177, .invokestatic 208, 3), (180, .ireturn, 1), (181, .aload_n 0, 1), (182, .getfield 12, 3), (185, .getfield 83, 3), (188, .ireturn, 1)]
theorem ttX9_valueOf : zdt cX9_valueOf tX9_valueOf = true := by decide +kernel
abbrev q_X9_valueOf (h : zM) (c : Int) (p1 : Int) (p2 : Int) : Option zV → zM → Prop := zqi fun v h' => h = h' ∧ ((-2147483648) ≤ v ∧ v ≤ 2147483647)
set_option maxRecDepth 100000 in
set_option maxHeartbeats 4000000 in
theorem s_X9_valueOf (l : Launch) (h : zM) (c : Int) (p1 : Int) (p2 : Int) (s0 : okC h) (hc : zWd c) (b_p1 : (-2147483648) ≤ p1 ∧ p1 ≤ 2147483647) (b_p2 : 0 ≤ p2 ∧ p2 ≤ 17) : zT shC l yX9_valueOf cX9_valueOf 3 (some .int) (rmL 2) 0 0 [.inr c, .inl p1, .inl p2] h (q_X9_valueOf h c p1 p2) := by
  refine zT_of (by decide +kernel) (L0 := [some (.inr c), some (.inl p1), some (.inl p2)]) rfl (Nat.le_of_ble_eq_true rfl) ?_
  have b1 := zWd_b hc
  refine zj_iload_n (zdk ttX9_valueOf 0 rfl rfl) rfl ?_
  have k3 : (p1 < 7 ∨ 15 < p1) → zJ shC l yX9_valueOf cX9_valueOf 3 (some .int) (rmL 2) 0 0 (q_X9_valueOf h c p1 p2) 0 0 181 [some (.inr c), some (.inl p1), some (.inl p2)] [] h := by
    intro c2
    refine zj_aload_n (zdk ttX9_valueOf 67 rfl rfl) rfl (by omega) ?_
    refine zj_getr (r := (c + 1)) (zdk ttX9_valueOf 68 rfl rfl) zf_RX9_12 rfl (k_9_0 s0 hc) (rf_9_0_0 s0 hc) ?_
    have b4 : -2147483648 ≤ (h.2 (c + 1) 12) ∧ (h.2 (c + 1) 12) ≤ 2147483647 := fb_9_1_12 s0 hc
    refine zj_geti (v := (h.2 (c + 1) 12)) (zdk ttX9_valueOf 69 rfl rfl) zf_RX9_83 rfl (k_9_1 s0 hc) rfl ?_
    exact zj_iret rfl (zdk ttX9_valueOf 70 rfl rfl) (Nat.le_refl _) (Nat.le_refl _) ⟨(h.2 (c + 1) 12), rfl, rfl, by omega⟩
  have k5 : p1 = 7 → zJ shC l yX9_valueOf cX9_valueOf 3 (some .int) (rmL 2) 0 0 (q_X9_valueOf h c p1 p2) 0 0 52 [some (.inr c), some (.inl p1), some (.inl p2)] [] h := by
    intro c2
    refine zj_aload_n (zdk ttX9_valueOf 2 rfl rfl) rfl (by omega) ?_
    refine zj_getr (r := (c + 1)) (zdk ttX9_valueOf 3 rfl rfl) zf_RX9_12 rfl (k_9_0 s0 hc) (rf_9_0_0 s0 hc) ?_
    refine zj_getr (r := (c + 2)) (zdk ttX9_valueOf 4 rfl rfl) zf_RX9_205 rfl (k_9_1 s0 hc) (rf_9_1_0 s0 hc) ?_
    refine zj_iload_n (zdk ttX9_valueOf 5 rfl rfl) rfl ?_
    have b6 : -2147483648 ≤ (h.2 (c + 2) p2) ∧ (h.2 (c + 2) p2) ≤ 2147483647 := ab_9_1_0 s0 hc p2
    refine zj_iald (v := (h.2 (c + 2) p2)) (zdk ttX9_valueOf 6 rfl rfl) (ka_9_1_0 s0 hc) (by decide) (by omega) rfl ?_
    exact zj_iret rfl (zdk ttX9_valueOf 7 rfl rfl) (Nat.le_refl _) (Nat.le_refl _) ⟨(h.2 (c + 2) p2), rfl, rfl, by omega⟩
  have k7 : p1 = 8 → zJ shC l yX9_valueOf cX9_valueOf 3 (some .int) (rmL 2) 0 0 (q_X9_valueOf h c p1 p2) 0 0 62 [some (.inr c), some (.inl p1), some (.inl p2)] [] h := by
    intro c2
    refine zj_aload_n (zdk ttX9_valueOf 8 rfl rfl) rfl (by omega) ?_
    refine zj_getr (r := (c + 1)) (zdk ttX9_valueOf 9 rfl rfl) zf_RX9_12 rfl (k_9_0 s0 hc) (rf_9_0_0 s0 hc) ?_
    refine zj_getr (r := (c + 3)) (zdk ttX9_valueOf 10 rfl rfl) zf_RX9_202 rfl (k_9_1 s0 hc) (rf_9_1_1 s0 hc) ?_
    refine zj_iload_n (zdk ttX9_valueOf 11 rfl rfl) rfl ?_
    have b8 : -2147483648 ≤ (h.2 (c + 3) p2) ∧ (h.2 (c + 3) p2) ≤ 2147483647 := ab_9_1_1 s0 hc p2
    refine zj_iald (v := (h.2 (c + 3) p2)) (zdk ttX9_valueOf 12 rfl rfl) (ka_9_1_1 s0 hc) (by decide) (by omega) rfl ?_
    exact zj_iret rfl (zdk ttX9_valueOf 13 rfl rfl) (Nat.le_refl _) (Nat.le_refl _) ⟨(h.2 (c + 3) p2), rfl, rfl, by omega⟩
  have k9 : p1 = 9 → zJ shC l yX9_valueOf cX9_valueOf 3 (some .int) (rmL 2) 0 0 (q_X9_valueOf h c p1 p2) 0 0 72 [some (.inr c), some (.inl p1), some (.inl p2)] [] h := by
    intro c2
    refine zj_aload_n (zdk ttX9_valueOf 14 rfl rfl) rfl (by omega) ?_
    refine zj_getr (r := (c + 1)) (zdk ttX9_valueOf 15 rfl rfl) zf_RX9_12 rfl (k_9_0 s0 hc) (rf_9_0_0 s0 hc) ?_
    refine zj_getr (r := (c + 4)) (zdk ttX9_valueOf 16 rfl rfl) zf_RX9_156 rfl (k_9_1 s0 hc) (rf_9_1_2 s0 hc) ?_
    refine zj_iload_n (zdk ttX9_valueOf 17 rfl rfl) rfl ?_
    have b10 : -2147483648 ≤ (h.2 (c + 4) p2) ∧ (h.2 (c + 4) p2) ≤ 2147483647 := ab_9_1_2 s0 hc p2
    refine zj_iald (v := (h.2 (c + 4) p2)) (zdk ttX9_valueOf 18 rfl rfl) (ka_9_1_2 s0 hc) (by decide) (by omega) rfl ?_
    exact zj_iret rfl (zdk ttX9_valueOf 19 rfl rfl) (Nat.le_refl _) (Nat.le_refl _) ⟨(h.2 (c + 4) p2), rfl, rfl, by omega⟩
  have k11 : p1 = 10 → zJ shC l yX9_valueOf cX9_valueOf 3 (some .int) (rmL 2) 0 0 (q_X9_valueOf h c p1 p2) 0 0 82 [some (.inr c), some (.inl p1), some (.inl p2)] [] h := by
    intro c2
    refine zj_aload_n (zdk ttX9_valueOf 20 rfl rfl) rfl (by omega) ?_
    refine zj_getr (r := (c + 1)) (zdk ttX9_valueOf 21 rfl rfl) zf_RX9_12 rfl (k_9_0 s0 hc) (rf_9_0_0 s0 hc) ?_
    have b12 : -2147483648 ≤ (h.2 (c + 1) 4) ∧ (h.2 (c + 1) 4) ≤ 2147483647 := fb_9_1_4 s0 hc
    refine zj_geti (v := (h.2 (c + 1) 4)) (zdk ttX9_valueOf 22 rfl rfl) zf_RX9_153 rfl (k_9_1 s0 hc) rfl ?_
    refine zj_callS (av := [.inl (h.2 (c + 1) 4)]) (st := []) (zdk ttX9_valueOf 23 rfl rfl) mb_J6_bitCount_0f7a4 ms_RX9_208 rfl rfl (Nat.le_of_ble_eq_true rfl) (s_J6_bitCount_0f7a4 shC l h (h.2 (c + 1) 4)) (rm_ok (by decide) (by decide)) (zq_i fun v13 h14 q15 => ?_)
    obtain ⟨rfl, b16⟩ := q15
    exact zj_iret rfl (zdk ttX9_valueOf 24 rfl rfl) (Nat.le_refl _) (Nat.le_refl _) ⟨v13, rfl, rfl, by omega⟩
  have k17 : p1 = 11 → zJ shC l yX9_valueOf cX9_valueOf 3 (some .int) (rmL 2) 0 0 (q_X9_valueOf h c p1 p2) 0 0 93 [some (.inr c), some (.inl p1), some (.inl p2)] [] h := by
    intro c2
    refine zj_aload_n (zdk ttX9_valueOf 25 rfl rfl) rfl (by omega) ?_
    refine zj_getr (r := (c + 1)) (zdk ttX9_valueOf 26 rfl rfl) zf_RX9_12 rfl (k_9_0 s0 hc) (rf_9_0_0 s0 hc) ?_
    have b18 : 0 ≤ (h.2 (c + 1) 3) ∧ (h.2 (c + 1) 3) ≤ 18 := fb_9_1_3 s0 hc
    refine zj_geti (v := (h.2 (c + 1) 3)) (zdk ttX9_valueOf 27 rfl rfl) zf_RX9_121 rfl (k_9_1 s0 hc) rfl ?_
    exact zj_iret rfl (zdk ttX9_valueOf 28 rfl rfl) (Nat.le_refl _) (Nat.le_refl _) ⟨(h.2 (c + 1) 3), rfl, rfl, by omega⟩
  have k19 : p1 = 12 → zJ shC l yX9_valueOf cX9_valueOf 3 (some .int) (rmL 2) 0 0 (q_X9_valueOf h c p1 p2) 0 0 101 [some (.inr c), some (.inl p1), some (.inl p2)] [] h := by
    intro c2
    refine zj_sipush (zdk ttX9_valueOf 29 rfl rfl) (by decide) ?_
    refine zj_sipush (zdk ttX9_valueOf 30 rfl rfl) (by decide) ?_
    refine zj_aload_n (zdk ttX9_valueOf 31 rfl rfl) rfl (by omega) ?_
    refine zj_getr (r := (c + 1)) (zdk ttX9_valueOf 32 rfl rfl) zf_RX9_12 rfl (k_9_0 s0 hc) (rf_9_0_0 s0 hc) ?_
    have b20 : -2147483648 ≤ (h.2 (c + 1) 7) ∧ (h.2 (c + 1) 7) ≤ 2147483647 := fb_9_1_7 s0 hc
    refine zj_geti (v := (h.2 (c + 1) 7)) (zdk ttX9_valueOf 33 rfl rfl) zf_RX9_159 rfl (k_9_1 s0 hc) rfl ?_
    refine zj_min (zdk ttX9_valueOf 34 rfl rfl) mx_RX9_166 (by decide) (by omega) (Nat.le_of_ble_eq_true rfl) (rm_m (by decide)) ?_
    have b21 := zm_min_f 9999 (h.2 (c + 1) 7)
    refine zj_max (zdk ttX9_valueOf 35 rfl rfl) mx_RX9_171 (by decide) (by omega) (Nat.le_of_ble_eq_true rfl) (rm_m (by decide)) ?_
    have b22 := zm_max_f (-9999) (zm_min 9999 (h.2 (c + 1) 7))
    exact zj_iret rfl (zdk ttX9_valueOf 36 rfl rfl) (Nat.le_refl _) (Nat.le_refl _) ⟨(zm_max (-9999) (zm_min 9999 (h.2 (c + 1) 7))), rfl, rfl, by omega⟩
  have k23 : p1 = 13 → zJ shC l yX9_valueOf cX9_valueOf 3 (some .int) (rmL 2) 0 0 (q_X9_valueOf h c p1 p2) 0 0 121 [some (.inr c), some (.inl p1), some (.inl p2)] [] h := by
    intro c2
    refine zj_aload_n (zdk ttX9_valueOf 37 rfl rfl) rfl (by omega) ?_
    refine zj_getr (r := (c + 1)) (zdk ttX9_valueOf 38 rfl rfl) zf_RX9_12 rfl (k_9_0 s0 hc) (rf_9_0_0 s0 hc) ?_
    have b24 : 0 ≤ (h.2 (c + 1) 6) ∧ (h.2 (c + 1) 6) ≤ 719 := fb_9_1_6 s0 hc
    refine zj_geti (v := (h.2 (c + 1) 6)) (zdk ttX9_valueOf 39 rfl rfl) zf_RX9_114 rfl (k_9_1 s0 hc) rfl ?_
    exact zj_iret rfl (zdk ttX9_valueOf 40 rfl rfl) (Nat.le_refl _) (Nat.le_refl _) ⟨(h.2 (c + 1) 6), rfl, rfl, by omega⟩
  have k25 : p1 = 14 → zJ shC l yX9_valueOf cX9_valueOf 3 (some .int) (rmL 2) 0 0 (q_X9_valueOf h c p1 p2) 0 0 129 [some (.inr c), some (.inl p1), some (.inl p2)] [] h := by
    intro c2
    refine zj_aload_n (zdk ttX9_valueOf 41 rfl rfl) rfl (by omega) ?_
    refine zj_getr (r := (c + 1)) (zdk ttX9_valueOf 42 rfl rfl) zf_RX9_12 rfl (k_9_0 s0 hc) (rf_9_0_0 s0 hc) ?_
    have b26 : -2147483648 ≤ (h.2 (c + 1) 10) ∧ (h.2 (c + 1) 10) ≤ 2147483647 := fb_9_1_10 s0 hc
    refine zj_geti (v := (h.2 (c + 1) 10)) (zdk ttX9_valueOf 43 rfl rfl) zf_RX9_108 rfl (k_9_1 s0 hc) rfl ?_
    exact zj_iret rfl (zdk ttX9_valueOf 44 rfl rfl) (Nat.le_refl _) (Nat.le_refl _) ⟨(h.2 (c + 1) 10), rfl, rfl, by omega⟩
  have k27 : p1 = 15 → zJ shC l yX9_valueOf cX9_valueOf 3 (some .int) (rmL 2) 0 0 (q_X9_valueOf h c p1 p2) 0 0 137 [some (.inr c), some (.inl p1), some (.inl p2)] [] h := by
    intro c2
    refine zj_aload_n (zdk ttX9_valueOf 45 rfl rfl) rfl (by omega) ?_
    refine zj_getr (r := (c + 20)) (zdk ttX9_valueOf 46 rfl rfl) zf_RX9_38 rfl (k_9_0 s0 hc) (rf_9_0_4 s0 hc) ?_
    refine zj_getr (r := (c + 21)) (zdk ttX9_valueOf 47 rfl rfl) zf_RX9_214 rfl (k_9_20 s0 hc) (rf_9_20_0 s0 hc) ?_
    refine zj_iload_n (zdk ttX9_valueOf 48 rfl rfl) rfl ?_
    have b28 : -2147483648 ≤ (h.2 (c + 21) p2) ∧ (h.2 (c + 21) p2) ≤ 2147483647 := ab_9_20_0 s0 hc p2
    refine zj_iald (v := (h.2 (c + 21) p2)) (zdk ttX9_valueOf 49 rfl rfl) (ka_9_20_0 s0 hc) (by decide) (by omega) rfl ?_
    refine zj_aload_n (zdk ttX9_valueOf 50 rfl rfl) rfl (by omega) ?_
    refine zj_getr (r := (c + 1)) (zdk ttX9_valueOf 51 rfl rfl) zf_RX9_12 rfl (k_9_0 s0 hc) (rf_9_0_0 s0 hc) ?_
    refine zj_iload_n (zdk ttX9_valueOf 52 rfl rfl) rfl ?_
    refine zj_callV (av := [.inl p2]) (st := [.inl (h.2 (c + 21) p2)]) (zdk ttX9_valueOf 53 rfl rfl) mb_X1_isHere mv_RX9_124 (ci := 1) rfl rfl (k_9_1 s0 hc) rfl rfl (Nat.le_of_ble_eq_true rfl) (s_X1_isHere l h (c + 1) p2 s0 (zs_9_1 hc) (by omega)) (rm_ok (by decide) (by decide)) (zq_i fun v30 h31 q29 => ?_)
    obtain ⟨rfl, b33, ⟨rfl, b32⟩ | ⟨rfl, b32⟩⟩ := q29
    · refine zj_if_eq (t := 169) (zdk ttX9_valueOf 54 rfl rfl) (by decide) (by decide) (fun c34 => ?_) (fun c34 => ?_)
      · refine zj_aload_n (zdk ttX9_valueOf 61 rfl rfl) rfl (by omega) ?_
        refine zj_getr (r := (c + 1)) (zdk ttX9_valueOf 62 rfl rfl) zf_RX9_12 rfl (k_9_0 s0 hc) (rf_9_0_0 s0 hc) ?_
        refine zj_geti (v := (h.2 (c + 1) 4)) (zdk ttX9_valueOf 63 rfl rfl) zf_RX9_153 rfl (k_9_1 s0 hc) rfl ?_
        refine zj_iand (zdk ttX9_valueOf 64 rfl rfl) ?_
        have b35 := zand_in (h.2 (c + 21) p2) (h.2 (c + 1) 4)
        refine zj_callS (av := [.inl (zand (h.2 (c + 21) p2) (h.2 (c + 1) 4))]) (st := []) (zdk ttX9_valueOf 65 rfl rfl) mb_J6_bitCount_0f7a4 ms_RX9_208 rfl rfl (Nat.le_of_ble_eq_true rfl) (s_J6_bitCount_0f7a4 shC l h (zand (h.2 (c + 21) p2) (h.2 (c + 1) 4))) (rm_ok (by decide) (by decide)) (zq_i fun v36 h37 q38 => ?_)
        obtain ⟨rfl, b39⟩ := q38
        exact zj_iret rfl (zdk ttX9_valueOf 66 rfl rfl) (Nat.le_refl _) (Nat.le_refl _) ⟨v36, rfl, rfl, by omega⟩
      · exact absurd c34 (by omega)
    · refine zj_if_eq (t := 169) (zdk ttX9_valueOf 54 rfl rfl) (by decide) (by decide) (fun c40 => ?_) (fun c40 => ?_)
      · exact absurd c40 (by omega)
      · refine zj_aload_n (zdk ttX9_valueOf 55 rfl rfl) rfl (by omega) ?_
        refine zj_getr (r := (c + 1)) (zdk ttX9_valueOf 56 rfl rfl) zf_RX9_12 rfl (k_9_0 s0 hc) (rf_9_0_0 s0 hc) ?_
        refine zj_geti (v := (h.2 (c + 1) 4)) (zdk ttX9_valueOf 57 rfl rfl) zf_RX9_153 rfl (k_9_1 s0 hc) rfl ?_
        refine zj_iconst (zdk ttX9_valueOf 58 rfl rfl) ?_
        refine zj_ixor (zdk ttX9_valueOf 59 rfl rfl) ?_
        have b41 := zxor_in (h.2 (c + 1) 4) (-1)
        refine zj_goto (t := 176) (zdk ttX9_valueOf 60 rfl rfl) (by decide) ?_
        refine zj_iand (zdk ttX9_valueOf 64 rfl rfl) ?_
        have b42 := zand_in (h.2 (c + 21) p2) (zxor (h.2 (c + 1) 4) (-1))
        refine zj_callS (av := [.inl (zand (h.2 (c + 21) p2) (zxor (h.2 (c + 1) 4) (-1)))]) (st := []) (zdk ttX9_valueOf 65 rfl rfl) mb_J6_bitCount_0f7a4 ms_RX9_208 rfl rfl (Nat.le_of_ble_eq_true rfl) (s_J6_bitCount_0f7a4 shC l h (zand (h.2 (c + 21) p2) (zxor (h.2 (c + 1) 4) (-1)))) (rm_ok (by decide) (by decide)) (zq_i fun v43 h44 q45 => ?_)
        obtain ⟨rfl, b46⟩ := q45
        exact zj_iret rfl (zdk ttX9_valueOf 66 rfl rfl) (Nat.le_refl _) (Nat.le_refl _) ⟨v43, rfl, rfl, by omega⟩
  refine zj_table (t := 181) (zdk ttX9_valueOf 1 rfl rfl) (by omega) (by decide) k3 (fun z1 z2 => ?_)
  have z3 : p1 = 7 ∨ p1 = 8 ∨ p1 = 9 ∨ p1 = 10 ∨ p1 = 11 ∨ p1 = 12 ∨ p1 = 13 ∨ p1 = 14 ∨ p1 = 15 := by omega
  rcases z3 with z3 | z3 | z3 | z3 | z3 | z3 | z3 | z3 | z3
  · exact ⟨51, 52, by rw [z3] <;> rfl, by decide, k5 z3⟩
  · exact ⟨61, 62, by rw [z3] <;> rfl, by decide, k7 z3⟩
  · exact ⟨71, 72, by rw [z3] <;> rfl, by decide, k9 z3⟩
  · exact ⟨81, 82, by rw [z3] <;> rfl, by decide, k11 z3⟩
  · exact ⟨92, 93, by rw [z3] <;> rfl, by decide, k17 z3⟩
  · exact ⟨100, 101, by rw [z3] <;> rfl, by decide, k19 z3⟩
  · exact ⟨120, 121, by rw [z3] <;> rfl, by decide, k23 z3⟩
  · exact ⟨128, 129, by rw [z3] <;> rfl, by decide, k25 z3⟩
  · exact ⟨136, 137, by rw [z3] <;> rfl, by decide, k27 z3⟩

abbrev tX3_run : List (Nat × Instr × Nat) := [(0, .iconst 0, 1), (1, .istore 5, 2), (3, .iload_n 1, 1), (4, .istore 6, 2), (6, .iload 6, 2), (8, .iload_n 2, 1), (9, .if_icmp .ge 158, 3), (12, .iload 6, 2), (14, .sipush 400, 3), (17, .if_icmp .ge 150, 3), (20, .aload_n 0, 1), (21, .getfield 26, 3), (24, .iload 6, 2), (26, .iaload, 1), (27, .istore 7, 2), (29, .iload 7, 2), (31, .sipush 20000, 3), (34, .if_icmp .ge 48, 3), (37, .iload 5, 2), (39, .bipush 64, 2), (41, .if_icmp .ge 120, 3), (44, .aload_n 0, 1), (45, .getfield 29, 3), (48, .iload 5, 2), (50, .iinc 5 1, 3), (53, .iload 7, 2), (55, .sipush 10000, 3), (58, .if_icmp .ge 8, 3), (61, .iload 7, 2), (63, .goto 15, 3), (66, .aload_n 3, 1), (67, .iload 7, 2), (69, .sipush 10000, 3), (72, .isub, 1), (73, .iload 4, 2), (75, .invokevirtual 45, 3), (78, .iastore, 1), (79, .goto 82, 3), (82, .iload 7, 2), (84, .sipush 20006, 3), (87, .if_icmp .ne 31, 3), (90, .iload 5, 2), (92, .ifCond .le 69, 3), (95, .aload_n 0, 1), (96, .getfield 29, 3), (99, .iload 5, 2), (101, .iconst 1, 1), (102, .isub, 1), (103, .iconst 1, 1), (104, .aload_n 0, 1), (105, .getfield 29, 3), (108, .iload 5, 2), (110, .iconst 1, 1), (111, .isub, 1), (112, .iaload, 1), (113, .isub, 1), (114, .iastore, 1), (115, .goto 46, 3), (118, .iload 5, 2), (120, .iconst 1, 1), (121, .if_icmp .le 40, 3), (124, .iinc 5 (-1), 3), (127, .aload_n 0, 1), (128, .getfield 29, 3), (131, .iload 5, 2), (133, .iconst 1, 1), (134, .isub, 1), (135, .iload 7, 2), (137, .sipush 20000, 3), (140, .isub, 1), (141, .aload_n 0, 1), (142, .getfield 29, 3), (145, .iload 5, 2), (147, .iconst 1, 1), (148, .isub, 1), (149, .iaload, 1), (150, .aload_n 0, 1), (151, .getfield 29, 3), (154, .iload 5, 2), (156, .iaload, 1), (157, .invokestatic 51, 3), (160, .iastore, 1), (161, .iinc 6 1, 3), (164, .goto (-158), 3), (167, .iload 5, 2), (169, .ifCond .le 15, 3), (172, .aload_n 0, 1), (173, .getfield 29, 3), (176, .iload 5, 2), (178, .iconst 1, 1), (179, .isub, 1), (180, .iaload, 1), (181, .goto 4, 3), (184, .iconst 0, 1), (185, .ireturn, 1)]
theorem ttX3_run : zdt cX3_run tX3_run = true := by decide +kernel
abbrev q_X3_run (h : zM) (c : Int) (p1 : Int) (p2 : Int) (p3 : Int) (p4 : Int) : Option zV → zM → Prop := zqi fun v h' => ((-2147483648) ≤ v ∧ v ≤ 2147483647) ∧ okC h'
set_option maxRecDepth 100000 in
set_option maxHeartbeats 4000000 in
theorem s_X3_run (l : Launch) (h : zM) (c : Int) (p1 : Int) (p2 : Int) (p3 : Int) (p4 : Int) (s0 : okC h) (hc : zLw c) (b_p1 : 0 ≤ p1 ∧ p1 ≤ 400) (b_p2 : 0 ≤ p2 ∧ p2 ≤ 400) (r_p3 : zWd p3) (b_p4 : 0 ≤ p4 ∧ p4 ≤ 17) : zT shC l yX3_run cX3_run 8 (some .int) (rmL 3) 0 0 [.inr c, .inl p1, .inl p2, .inr p3, .inl p4] h (q_X3_run h c p1 p2 p3 p4) := by
  refine zT_of (by decide +kernel) (L0 := [some (.inr c), some (.inl p1), some (.inl p2), some (.inr p3), some (.inl p4), none, none, none]) rfl (Nat.le_of_ble_eq_true rfl) ?_
  have b1 := zLw_b hc
  have b2 := zWd_b r_p3
  refine zj_iconst (zdk ttX3_run 0 rfl rfl) ?_
  refine zj_istore (L' := [some (.inr c), some (.inl p1), some (.inl p2), some (.inr p3), some (.inl p4), some (.inl 0), none, none]) (zdk ttX3_run 1 rfl rfl) (by decide) rfl ?_
  refine zj_iload_n (zdk ttX3_run 2 rfl rfl) rfl ?_
  refine zj_istore (L' := [some (.inr c), some (.inl p1), some (.inl p2), some (.inr p3), some (.inl p4), some (.inl 0), some (.inl p1), none]) (zdk ttX3_run 3 rfl rfl) (by decide) rfl ?_
  have lp248 : ∀ (n : Nat) (x3 x4 : Int) (h5 : zM), (0 ≤ x3 ∧ x3 ≤ 64) → (0 ≤ x4 ∧ x4 ≤ 400) → okC h5 → (401 - x4).toNat < n → zJ shC l yX3_run cX3_run 8 (some .int) (rmL 3) 0 0 (q_X3_run h c p1 p2 p3 p4) 0 0 6 [some (.inr c), some (.inl p1), some (.inl p2), some (.inr p3), some (.inl p4), some (.inl x3), some (.inl x4), none] [] h5 := by
    intro n
    induction n with
    | zero => intro x3 x4 h5 b249 b250 s6 m251; exact absurd m251 (Nat.not_lt_zero _)
    | succ n ih252 =>
      intro x3 x4 h5 b249 b250 s6 m251
      refine zj_iload (zdk ttX3_run 4 rfl rfl) rfl ?_
      refine zj_iload_n (zdk ttX3_run 5 rfl rfl) rfl ?_
      refine zj_icmp_ge (t := 167) (zdk ttX3_run 6 rfl rfl) (by decide) (by omega) (by omega) (fun c253 => ?_) (fun c253 => ?_)
      · refine zj_iload (zdk ttX3_run 84 rfl rfl) rfl ?_
        refine zj_if_le (t := 184) (zdk ttX3_run 85 rfl rfl) (by decide) (by omega) (fun c254 => ?_) (fun c254 => ?_)
        · refine zj_iconst (zdk ttX3_run 93 rfl rfl) ?_
          exact zj_iret rfl (zdk ttX3_run 94 rfl rfl) (Nat.le_refl _) (Nat.le_refl _) ⟨0, rfl, by omega, s6⟩
        · refine zj_aload_n (zdk ttX3_run 86 rfl rfl) rfl (by omega) ?_
          refine zj_getr (r := (c + 6)) (zdk ttX3_run 87 rfl rfl) zf_RX3_29 rfl (k_3_0 s6 hc) (rf_3_0_5 s6 hc) ?_
          refine zj_iload (zdk ttX3_run 88 rfl rfl) rfl ?_
          refine zj_iconst (zdk ttX3_run 89 rfl rfl) ?_
          refine zj_isub (zdk ttX3_run 90 rfl rfl) ?_
          have b255 : -2147483648 ≤ (h5.2 (c + 6) (x3 - 1)) ∧ (h5.2 (c + 6) (x3 - 1)) ≤ 2147483647 := ab_3_0_5 s6 hc (x3 - 1)
          refine zj_iald (v := (h5.2 (c + 6) (x3 - 1))) (zdk ttX3_run 91 rfl rfl) (ka_3_0_5 s6 hc) (by decide) (by omega) rfl ?_
          refine zj_goto (t := 185) (zdk ttX3_run 92 rfl rfl) (by decide) ?_
          exact zj_iret rfl (zdk ttX3_run 94 rfl rfl) (Nat.le_refl _) (Nat.le_refl _) ⟨(h5.2 (c + 6) (x3 - 1)), rfl, by omega, s6⟩
      · refine zj_iload (zdk ttX3_run 7 rfl rfl) rfl ?_
        refine zj_sipush (zdk ttX3_run 8 rfl rfl) (by decide) ?_
        refine zj_icmp_ge (t := 167) (zdk ttX3_run 9 rfl rfl) (by decide) (by omega) (by decide) (fun c256 => ?_) (fun c256 => ?_)
        · exact absurd c256 (by omega)
        · refine zj_aload_n (zdk ttX3_run 10 rfl rfl) rfl (by omega) ?_
          refine zj_getr (r := (c + 5)) (zdk ttX3_run 11 rfl rfl) zf_RX3_26 rfl (k_3_0 s6 hc) (rf_3_0_4 s6 hc) ?_
          refine zj_iload (zdk ttX3_run 12 rfl rfl) rfl ?_
          have b257 : -2147483648 ≤ (h5.2 (c + 5) x4) ∧ (h5.2 (c + 5) x4) ≤ 2147483647 := ab_3_0_4 s6 hc x4
          refine zj_iald (v := (h5.2 (c + 5) x4)) (zdk ttX3_run 13 rfl rfl) (ka_3_0_4 s6 hc) (by decide) (by omega) rfl ?_
          refine zj_istore (L' := [some (.inr c), some (.inl p1), some (.inl p2), some (.inr p3), some (.inl p4), some (.inl x3), some (.inl x4), some (.inl (h5.2 (c + 5) x4))]) (zdk ttX3_run 14 rfl rfl) (by decide) rfl ?_
          refine zj_iload (zdk ttX3_run 15 rfl rfl) rfl ?_
          refine zj_sipush (zdk ttX3_run 16 rfl rfl) (by decide) ?_
          refine zj_icmp_ge (t := 82) (zdk ttX3_run 17 rfl rfl) (by decide) (by omega) (by decide) (fun c258 => ?_) (fun c258 => ?_)
          · refine zj_iload (zdk ttX3_run 38 rfl rfl) rfl ?_
            refine zj_sipush (zdk ttX3_run 39 rfl rfl) (by decide) ?_
            refine zj_icmp_ne (t := 118) (zdk ttX3_run 40 rfl rfl) (by decide) (by omega) (by decide) (fun c259 => ?_) (fun c259 => ?_)
            · refine zj_iload (zdk ttX3_run 58 rfl rfl) rfl ?_
              refine zj_iconst (zdk ttX3_run 59 rfl rfl) ?_
              refine zj_icmp_le (t := 161) (zdk ttX3_run 60 rfl rfl) (by decide) (by omega) (by decide) (fun c260 => ?_) (fun c260 => ?_)
              · refine zj_iinc (L' := [some (.inr c), some (.inl p1), some (.inl p2), some (.inr p3), some (.inl p4), some (.inl x3), some (.inl (x4 + 1)), some (.inl (h5.2 (c + 5) x4))]) (zdk ttX3_run 82 rfl rfl) rfl (by decide) rfl ?_
                refine zj_goto (t := 6) (zdk ttX3_run 83 rfl rfl) (by decide) ?_
                refine zj_kill (k := 7) (L' := [some (.inr c), some (.inl p1), some (.inl p2), some (.inr p3), some (.inl p4), some (.inl x3), some (.inl (x4 + 1)), none]) rfl ?_
                exact ih252  x3 (x4 + 1) h5 (by omega) (by omega) s6 (by omega)
              · refine zj_iinc (L' := [some (.inr c), some (.inl p1), some (.inl p2), some (.inr p3), some (.inl p4), some (.inl (x3 + (-1))), some (.inl x4), some (.inl (h5.2 (c + 5) x4))]) (zdk ttX3_run 61 rfl rfl) rfl (by decide) rfl ?_
                refine zj_aload_n (zdk ttX3_run 62 rfl rfl) rfl (by omega) ?_
                refine zj_getr (r := (c + 6)) (zdk ttX3_run 63 rfl rfl) zf_RX3_29 rfl (k_3_0 s6 hc) (rf_3_0_5 s6 hc) ?_
                refine zj_iload (zdk ttX3_run 64 rfl rfl) rfl ?_
                refine zj_iconst (zdk ttX3_run 65 rfl rfl) ?_
                refine zj_isub (zdk ttX3_run 66 rfl rfl) ?_
                refine zj_iload (zdk ttX3_run 67 rfl rfl) rfl ?_
                refine zj_sipush (zdk ttX3_run 68 rfl rfl) (by decide) ?_
                refine zj_isub (zdk ttX3_run 69 rfl rfl) ?_
                refine zj_aload_n (zdk ttX3_run 70 rfl rfl) rfl (by omega) ?_
                refine zj_getr (r := (c + 6)) (zdk ttX3_run 71 rfl rfl) zf_RX3_29 rfl (k_3_0 s6 hc) (rf_3_0_5 s6 hc) ?_
                refine zj_iload (zdk ttX3_run 72 rfl rfl) rfl ?_
                refine zj_iconst (zdk ttX3_run 73 rfl rfl) ?_
                refine zj_isub (zdk ttX3_run 74 rfl rfl) ?_
                have b261 : -2147483648 ≤ (h5.2 (c + 6) ((x3 + (-1)) - 1)) ∧ (h5.2 (c + 6) ((x3 + (-1)) - 1)) ≤ 2147483647 := ab_3_0_5 s6 hc ((x3 + (-1)) - 1)
                refine zj_iald (v := (h5.2 (c + 6) ((x3 + (-1)) - 1))) (zdk ttX3_run 75 rfl rfl) (ka_3_0_5 s6 hc) (by decide) (by omega) rfl ?_
                refine zj_aload_n (zdk ttX3_run 76 rfl rfl) rfl (by omega) ?_
                refine zj_getr (r := (c + 6)) (zdk ttX3_run 77 rfl rfl) zf_RX3_29 rfl (k_3_0 s6 hc) (rf_3_0_5 s6 hc) ?_
                refine zj_iload (zdk ttX3_run 78 rfl rfl) rfl ?_
                have b262 : -2147483648 ≤ (h5.2 (c + 6) (x3 + (-1))) ∧ (h5.2 (c + 6) (x3 + (-1))) ≤ 2147483647 := ab_3_0_5 s6 hc (x3 + (-1))
                refine zj_iald (v := (h5.2 (c + 6) (x3 + (-1)))) (zdk ttX3_run 79 rfl rfl) (ka_3_0_5 s6 hc) (by decide) (by omega) rfl ?_
                refine zj_callS (av := [.inl ((h5.2 (c + 5) x4) - 20000), .inl (h5.2 (c + 6) ((x3 + (-1)) - 1)), .inl (h5.2 (c + 6) (x3 + (-1)))]) (st := [.inl ((x3 + (-1)) - 1), .inr (c + 6)]) (zdk ttX3_run 80 rfl rfl) mb_X3_joined ms_RX3_51 rfl rfl (Nat.le_of_ble_eq_true rfl) (s_X3_joined l h5 ((h5.2 (c + 5) x4) - 20000) (h5.2 (c + 6) ((x3 + (-1)) - 1)) (h5.2 (c + 6) (x3 + (-1))) s6 (by omega) (by omega) (by omega)) (rm_ok (by decide) (by decide)) (zq_i fun v264 h265 q263 => ?_)
                obtain ⟨rfl, b266⟩ := q263
                refine zj_iast (zdk ttX3_run 81 rfl rfl) (ka_3_0_5 s6 hc) (by decide) (by omega) (fun h267 e268 => ?_)
                refine zj_iinc (L' := [some (.inr c), some (.inl p1), some (.inl p2), some (.inr p3), some (.inl p4), some (.inl (x3 + (-1))), some (.inl (x4 + 1)), some (.inl (h5.2 (c + 5) x4))]) (zdk ttX3_run 82 rfl rfl) rfl (by decide) rfl ?_
                refine zj_goto (t := 6) (zdk ttX3_run 83 rfl rfl) (by decide) ?_
                refine zj_kill (k := 7) (L' := [some (.inr c), some (.inl p1), some (.inl p2), some (.inr p3), some (.inl p4), some (.inl (x3 + (-1))), some (.inl (x4 + 1)), none]) rfl ?_
                have s269 : okC h267 := aw_3_0_5 s6 hc e268 (by omega)
                exact ih252  (x3 + (-1)) (x4 + 1) h267 (by omega) (by omega) s269 (by omega)
            · refine zj_iload (zdk ttX3_run 41 rfl rfl) rfl ?_
              refine zj_if_le (t := 161) (zdk ttX3_run 42 rfl rfl) (by decide) (by omega) (fun c270 => ?_) (fun c270 => ?_)
              · refine zj_iinc (L' := [some (.inr c), some (.inl p1), some (.inl p2), some (.inr p3), some (.inl p4), some (.inl x3), some (.inl (x4 + 1)), some (.inl (h5.2 (c + 5) x4))]) (zdk ttX3_run 82 rfl rfl) rfl (by decide) rfl ?_
                refine zj_goto (t := 6) (zdk ttX3_run 83 rfl rfl) (by decide) ?_
                refine zj_kill (k := 7) (L' := [some (.inr c), some (.inl p1), some (.inl p2), some (.inr p3), some (.inl p4), some (.inl x3), some (.inl (x4 + 1)), none]) rfl ?_
                exact ih252  x3 (x4 + 1) h5 (by omega) (by omega) s6 (by omega)
              · refine zj_aload_n (zdk ttX3_run 43 rfl rfl) rfl (by omega) ?_
                refine zj_getr (r := (c + 6)) (zdk ttX3_run 44 rfl rfl) zf_RX3_29 rfl (k_3_0 s6 hc) (rf_3_0_5 s6 hc) ?_
                refine zj_iload (zdk ttX3_run 45 rfl rfl) rfl ?_
                refine zj_iconst (zdk ttX3_run 46 rfl rfl) ?_
                refine zj_isub (zdk ttX3_run 47 rfl rfl) ?_
                refine zj_iconst (zdk ttX3_run 48 rfl rfl) ?_
                refine zj_aload_n (zdk ttX3_run 49 rfl rfl) rfl (by omega) ?_
                refine zj_getr (r := (c + 6)) (zdk ttX3_run 50 rfl rfl) zf_RX3_29 rfl (k_3_0 s6 hc) (rf_3_0_5 s6 hc) ?_
                refine zj_iload (zdk ttX3_run 51 rfl rfl) rfl ?_
                refine zj_iconst (zdk ttX3_run 52 rfl rfl) ?_
                refine zj_isub (zdk ttX3_run 53 rfl rfl) ?_
                have b271 : -2147483648 ≤ (h5.2 (c + 6) (x3 - 1)) ∧ (h5.2 (c + 6) (x3 - 1)) ≤ 2147483647 := ab_3_0_5 s6 hc (x3 - 1)
                refine zj_iald (v := (h5.2 (c + 6) (x3 - 1))) (zdk ttX3_run 54 rfl rfl) (ka_3_0_5 s6 hc) (by decide) (by omega) rfl ?_
                refine zj_isub (zdk ttX3_run 55 rfl rfl) ?_
                refine zj_wrap ?_
                have b272 := zwp_in (1 - (h5.2 (c + 6) (x3 - 1)))
                refine zj_iast (zdk ttX3_run 56 rfl rfl) (ka_3_0_5 s6 hc) (by decide) (by omega) (fun h273 e274 => ?_)
                refine zj_goto (t := 161) (zdk ttX3_run 57 rfl rfl) (by decide) ?_
                refine zj_iinc (L' := [some (.inr c), some (.inl p1), some (.inl p2), some (.inr p3), some (.inl p4), some (.inl x3), some (.inl (x4 + 1)), some (.inl (h5.2 (c + 5) x4))]) (zdk ttX3_run 82 rfl rfl) rfl (by decide) rfl ?_
                refine zj_goto (t := 6) (zdk ttX3_run 83 rfl rfl) (by decide) ?_
                refine zj_kill (k := 7) (L' := [some (.inr c), some (.inl p1), some (.inl p2), some (.inr p3), some (.inl p4), some (.inl x3), some (.inl (x4 + 1)), none]) rfl ?_
                have s275 : okC h273 := aw_3_0_5 s6 hc e274 (by omega)
                exact ih252  x3 (x4 + 1) h273 (by omega) (by omega) s275 (by omega)
          · refine zj_iload (zdk ttX3_run 18 rfl rfl) rfl ?_
            refine zj_bipush (zdk ttX3_run 19 rfl rfl) (by decide) ?_
            refine zj_icmp_ge (t := 161) (zdk ttX3_run 20 rfl rfl) (by decide) (by omega) (by decide) (fun c276 => ?_) (fun c276 => ?_)
            · refine zj_iinc (L' := [some (.inr c), some (.inl p1), some (.inl p2), some (.inr p3), some (.inl p4), some (.inl x3), some (.inl (x4 + 1)), some (.inl (h5.2 (c + 5) x4))]) (zdk ttX3_run 82 rfl rfl) rfl (by decide) rfl ?_
              refine zj_goto (t := 6) (zdk ttX3_run 83 rfl rfl) (by decide) ?_
              refine zj_kill (k := 7) (L' := [some (.inr c), some (.inl p1), some (.inl p2), some (.inr p3), some (.inl p4), some (.inl x3), some (.inl (x4 + 1)), none]) rfl ?_
              exact ih252  x3 (x4 + 1) h5 (by omega) (by omega) s6 (by omega)
            · refine zj_aload_n (zdk ttX3_run 21 rfl rfl) rfl (by omega) ?_
              refine zj_getr (r := (c + 6)) (zdk ttX3_run 22 rfl rfl) zf_RX3_29 rfl (k_3_0 s6 hc) (rf_3_0_5 s6 hc) ?_
              refine zj_iload (zdk ttX3_run 23 rfl rfl) rfl ?_
              refine zj_iinc (L' := [some (.inr c), some (.inl p1), some (.inl p2), some (.inr p3), some (.inl p4), some (.inl (x3 + 1)), some (.inl x4), some (.inl (h5.2 (c + 5) x4))]) (zdk ttX3_run 24 rfl rfl) rfl (by decide) rfl ?_
              refine zj_iload (zdk ttX3_run 25 rfl rfl) rfl ?_
              refine zj_sipush (zdk ttX3_run 26 rfl rfl) (by decide) ?_
              refine zj_icmp_ge (t := 66) (zdk ttX3_run 27 rfl rfl) (by decide) (by omega) (by decide) (fun c277 => ?_) (fun c277 => ?_)
              · refine zj_aload_n (zdk ttX3_run 30 rfl rfl) rfl (by omega) ?_
                refine zj_iload (zdk ttX3_run 31 rfl rfl) rfl ?_
                refine zj_sipush (zdk ttX3_run 32 rfl rfl) (by decide) ?_
                refine zj_isub (zdk ttX3_run 33 rfl rfl) ?_
                refine zj_iload (zdk ttX3_run 34 rfl rfl) rfl ?_
                refine zj_callV (av := [.inl ((h5.2 (c + 5) x4) - 10000), .inl p4]) (st := [.inl x3, .inr (c + 6)]) (zdk ttX3_run 35 rfl rfl) mb_X9_valueOf mv_RX3_45 (ci := 9) rfl rfl (k_9_0 s6 r_p3) rfl rfl (Nat.le_of_ble_eq_true rfl) (s_X9_valueOf l h5 p3 ((h5.2 (c + 5) x4) - 10000) p4 s6 r_p3 (by omega) (by omega)) (rm_ok (by decide) (by decide)) (zq_i fun v279 h280 q278 => ?_)
                obtain ⟨rfl, b281⟩ := q278
                refine zj_iast (zdk ttX3_run 36 rfl rfl) (ka_3_0_5 s6 hc) (by decide) (by omega) (fun h282 e283 => ?_)
                refine zj_goto (t := 161) (zdk ttX3_run 37 rfl rfl) (by decide) ?_
                refine zj_iinc (L' := [some (.inr c), some (.inl p1), some (.inl p2), some (.inr p3), some (.inl p4), some (.inl (x3 + 1)), some (.inl (x4 + 1)), some (.inl (h5.2 (c + 5) x4))]) (zdk ttX3_run 82 rfl rfl) rfl (by decide) rfl ?_
                refine zj_goto (t := 6) (zdk ttX3_run 83 rfl rfl) (by decide) ?_
                refine zj_kill (k := 7) (L' := [some (.inr c), some (.inl p1), some (.inl p2), some (.inr p3), some (.inl p4), some (.inl (x3 + 1)), some (.inl (x4 + 1)), none]) rfl ?_
                have s284 : okC h282 := aw_3_0_5 s6 hc e283 (by omega)
                exact ih252  (x3 + 1) (x4 + 1) h282 (by omega) (by omega) s284 (by omega)
              · refine zj_iload (zdk ttX3_run 28 rfl rfl) rfl ?_
                refine zj_goto (t := 78) (zdk ttX3_run 29 rfl rfl) (by decide) ?_
                refine zj_iast (zdk ttX3_run 36 rfl rfl) (ka_3_0_5 s6 hc) (by decide) (by omega) (fun h285 e286 => ?_)
                refine zj_goto (t := 161) (zdk ttX3_run 37 rfl rfl) (by decide) ?_
                refine zj_iinc (L' := [some (.inr c), some (.inl p1), some (.inl p2), some (.inr p3), some (.inl p4), some (.inl (x3 + 1)), some (.inl (x4 + 1)), some (.inl (h5.2 (c + 5) x4))]) (zdk ttX3_run 82 rfl rfl) rfl (by decide) rfl ?_
                refine zj_goto (t := 6) (zdk ttX3_run 83 rfl rfl) (by decide) ?_
                refine zj_kill (k := 7) (L' := [some (.inr c), some (.inl p1), some (.inl p2), some (.inr p3), some (.inl p4), some (.inl (x3 + 1)), some (.inl (x4 + 1)), none]) rfl ?_
                have s287 : okC h285 := aw_3_0_5 s6 hc e286 (by omega)
                exact ih252  (x3 + 1) (x4 + 1) h285 (by omega) (by omega) s287 (by omega)
  exact lp248 _ 0 p1 h (by omega) (by omega) s0 (Nat.lt_succ_self _)

abbrev tX9_tells : List (Nat × Instr × Nat) := [(0, .iload_n 1, 1), (1, .iconst 1, 1), (2, .if_icmp .ne 9, 3), (5, .sipush 999, 3), (8, .goto 6, 3), (11, .sipush 1000, 3), (14, .istore_n 3, 1), (15, .iconst 0, 1), (16, .istore 4, 2), (18, .iload 4, 2), (20, .aload_n 0, 1), (21, .getfield 21, 3), (24, .getfield 182, 3), (27, .if_icmp .ge 127, 3), (30, .aload_n 0, 1), (31, .getfield 21, 3), (34, .getfield 183, 3), (37, .iload 4, 2), (39, .iaload, 1), (40, .iload_n 1, 1), (41, .if_icmp .eq 6, 3), (44, .goto 104, 3), (47, .aload_n 0, 1), (48, .getfield 21, 3), (51, .getfield 186, 3), (54, .iload 4, 2), (56, .iaload, 1), (57, .aload_n 0, 1), (58, .getfield 21, 3), (61, .getfield 189, 3), (64, .iload 4, 2), (66, .iaload, 1), (67, .if_icmp .ne 7, 3), (70, .iconst 1, 1), (71, .goto 4, 3), (74, .iconst 0, 1), (75, .istore 5, 2), (77, .iload 5, 2), (79, .ifCond .ne 35, 3), (82, .aload_n 0, 1), (83, .getfield 21, 3), (86, .aload_n 0, 1), (87, .getfield 21, 3), (90, .getfield 186, 3), (93, .iload 4, 2), (95, .iaload, 1), (96, .aload_n 0, 1), (97, .getfield 21, 3), (100, .getfield 189, 3), (103, .iload 4, 2), (105, .iaload, 1), (106, .aload_n 0, 1), (107, .iload_n 2, 1), (108, .invokevirtual 192, 3), (111, .ifCond .eq 37, 3), (114, .aload_n 0, 1), (115, .getfield 21, 3), (118, .aload_n 0, 1), (119, .getfield 21, 3), (122, .getfield 196, 3), (125, .iload 4, 2), (127, .iaload, 1), (128, .aload_n 0, 1), (129, .getfield 21, 3), (132, .getfield 186, 3), (135, .iload 4, 2), (137, .iaload, 1), (138, .aload_n 0, 1), (139, .iload_n 2, 1), (140, .invokevirtual 192, 3), (143, .iload_n 3, 1), (144, .invokestatic 199, 3), (147, .ireturn, 1), (148, .iinc 4 1, 3), (151, .goto (-133), 3), (154, .iload_n 1, 1), (155, .lookupswitch 56 #[(0, 25), (1, 42)], 25), (180, .bipush 80, 2), (182, .aload_n 0, 1), (183, .getfield 12, 3), (186, .getfield 202, 3), (189, .iload_n 2, 1), (190, .iaload, 1), (191, .imul, 1), (192, .iload_n 3, 1), (193, .invokestatic 199, 3), (196, .ireturn, 1), (197, .aload_n 0, 1), (198, .getfield 12, 3), (201, .getfield 205, 3), (204, .iload_n 2, 1), (205, .iaload, 1), (206, .iload_n 3, 1), (207, .invokestatic 199, 3), (210, .ireturn, 1), (211, .sipush 500, 3), (214, .bipush 50, 2), (216, .aload_n 0, 1), (217, .getfield 12, 3), (220, .getfield 202, 3), (223, .iload_n 2, 1), (224, .iaload, 1), (225, .imul, 1), (226, .isub, 1), (227, .iload_n 3, 1), (228, .invokestatic 199, 3), (231, .ireturn, 1)]
theorem ttX9_tells : zdt cX9_tells tX9_tells = true := by decide +kernel
abbrev q_X9_tells (h : zM) (c : Int) (p1 : Int) (p2 : Int) : Option zV → zM → Prop := zqi fun v h' => (0 ≤ v ∧ v ≤ 1000) ∧ okC h'
set_option maxRecDepth 100000 in
set_option maxHeartbeats 4000000 in
theorem s_X9_tells (l : Launch) (h : zM) (c : Int) (p1 : Int) (p2 : Int) (s0 : okC h) (hc : zWd c) (b_p1 : (-2147483648) ≤ p1 ∧ p1 ≤ 2147483647) (b_p2 : 0 ≤ p2 ∧ p2 ≤ 17) : zT shC l yX9_tells cX9_tells 6 (some .int) (rmL 4) 0 0 [.inr c, .inl p1, .inl p2] h (q_X9_tells h c p1 p2) := by
  refine zT_of (by decide +kernel) (L0 := [some (.inr c), some (.inl p1), some (.inl p2), none, none, none]) rfl (Nat.le_of_ble_eq_true rfl) ?_
  have b1 := zWd_b hc
  refine zj_iload_n (zdk ttX9_tells 0 rfl rfl) rfl ?_
  refine zj_iconst (zdk ttX9_tells 1 rfl rfl) ?_
  have j4 : ∀ (y3 : Int), (999 ≤ y3 ∧ y3 ≤ 1000) → zJ shC l yX9_tells cX9_tells 6 (some .int) (rmL 4) 0 0 (q_X9_tells h c p1 p2) 0 0 14 [some (.inr c), some (.inl p1), some (.inl p2), none, none, none] [.inl y3] h := by
    intro y3 b5
    refine zj_istore_n (L' := [some (.inr c), some (.inl p1), some (.inl p2), some (.inl y3), none, none]) (zdk ttX9_tells 6 rfl rfl) (by decide) rfl ?_
    refine zj_iconst (zdk ttX9_tells 7 rfl rfl) ?_
    refine zj_istore (L' := [some (.inr c), some (.inl p1), some (.inl p2), some (.inl y3), some (.inl 0), none]) (zdk ttX9_tells 8 rfl rfl) (by decide) rfl ?_
    have lp94 : ∀ (n : Nat) (x6 : Int) (h7 : zM), (0 ≤ x6 ∧ x6 ≤ 16) → okC h7 → (17 - x6).toNat < n → zJ shC l yX9_tells cX9_tells 6 (some .int) (rmL 4) 0 0 (q_X9_tells h c p1 p2) 0 0 18 [some (.inr c), some (.inl p1), some (.inl p2), some (.inl y3), some (.inl x6), none] [] h7 := by
      intro n
      induction n with
      | zero => intro x6 h7 b95 s8 m96; exact absurd m96 (Nat.not_lt_zero _)
      | succ n ih97 =>
        intro x6 h7 b95 s8 m96
        refine zj_iload (zdk ttX9_tells 9 rfl rfl) rfl ?_
        refine zj_aload_n (zdk ttX9_tells 10 rfl rfl) rfl (by omega) ?_
        refine zj_getr (r := (c + 5)) (zdk ttX9_tells 11 rfl rfl) zf_RX9_21 rfl (k_9_0 s8 hc) (rf_9_0_1 s8 hc) ?_
        have b98 : 0 ≤ (h7.2 (c + 5) 6) ∧ (h7.2 (c + 5) 6) ≤ 16 := fb_9_5_6 s8 hc
        refine zj_geti (v := (h7.2 (c + 5) 6)) (zdk ttX9_tells 12 rfl rfl) zf_RX9_182 rfl (k_9_5 s8 hc) rfl ?_
        refine zj_icmp_ge (t := 154) (zdk ttX9_tells 13 rfl rfl) (by decide) (by omega) (by omega) (fun c99 => ?_) (fun c99 => ?_)
        · refine zj_iload_n (zdk ttX9_tells 75 rfl rfl) rfl ?_
          have k101 : (¬ p1 = 0 ∧ ¬ p1 = 1) → zJ shC l yX9_tells cX9_tells 6 (some .int) (rmL 4) 0 0 (q_X9_tells h c p1 p2) 0 0 211 [some (.inr c), some (.inl p1), some (.inl p2), some (.inl y3), some (.inl x6), none] [] h7 := by
            intro c100
            refine zj_sipush (zdk ttX9_tells 95 rfl rfl) (by decide) ?_
            refine zj_bipush (zdk ttX9_tells 96 rfl rfl) (by decide) ?_
            refine zj_aload_n (zdk ttX9_tells 97 rfl rfl) rfl (by omega) ?_
            refine zj_getr (r := (c + 1)) (zdk ttX9_tells 98 rfl rfl) zf_RX9_12 rfl (k_9_0 s8 hc) (rf_9_0_0 s8 hc) ?_
            refine zj_getr (r := (c + 3)) (zdk ttX9_tells 99 rfl rfl) zf_RX9_202 rfl (k_9_1 s8 hc) (rf_9_1_1 s8 hc) ?_
            refine zj_iload_n (zdk ttX9_tells 100 rfl rfl) rfl ?_
            have b102 : -2147483648 ≤ (h7.2 (c + 3) p2) ∧ (h7.2 (c + 3) p2) ≤ 2147483647 := ab_9_1_1 s8 hc p2
            refine zj_iald (v := (h7.2 (c + 3) p2)) (zdk ttX9_tells 101 rfl rfl) (ka_9_1_1 s8 hc) (by decide) (by omega) rfl ?_
            refine zj_imul (zdk ttX9_tells 102 rfl rfl) ?_
            refine zj_wrap ?_
            have b103 := zwp_in (50 * (h7.2 (c + 3) p2))
            refine zj_isub (zdk ttX9_tells 103 rfl rfl) ?_
            refine zj_wrap ?_
            have b104 := zwp_in (500 - (zwp (50 * (h7.2 (c + 3) p2))))
            refine zj_iload_n (zdk ttX9_tells 104 rfl rfl) rfl ?_
            refine zj_callS (av := [.inl (zwp (500 - (zwp (50 * (h7.2 (c + 3) p2))))), .inl y3]) (st := []) (zdk ttX9_tells 105 rfl rfl) mb_X9_held ms_RX9_199 rfl rfl (Nat.le_of_ble_eq_true rfl) (s_X9_held l h7 (zwp (500 - (zwp (50 * (h7.2 (c + 3) p2))))) y3 s8 (by omega) (by omega)) (rm_ok (by decide) (by decide)) (zq_i fun v106 h107 q105 => ?_)
            obtain ⟨rfl, b108, u109, u110⟩ := q105
            exact zj_iret rfl (zdk ttX9_tells 106 rfl rfl) (Nat.le_refl _) (Nat.le_refl _) ⟨v106, rfl, by omega, s8⟩
          have k111 : p1 = 0 → zJ shC l yX9_tells cX9_tells 6 (some .int) (rmL 4) 0 0 (q_X9_tells h c p1 p2) 0 0 180 [some (.inr c), some (.inl p1), some (.inl p2), some (.inl y3), some (.inl x6), none] [] h7 := by
            intro c100
            refine zj_bipush (zdk ttX9_tells 77 rfl rfl) (by decide) ?_
            refine zj_aload_n (zdk ttX9_tells 78 rfl rfl) rfl (by omega) ?_
            refine zj_getr (r := (c + 1)) (zdk ttX9_tells 79 rfl rfl) zf_RX9_12 rfl (k_9_0 s8 hc) (rf_9_0_0 s8 hc) ?_
            refine zj_getr (r := (c + 3)) (zdk ttX9_tells 80 rfl rfl) zf_RX9_202 rfl (k_9_1 s8 hc) (rf_9_1_1 s8 hc) ?_
            refine zj_iload_n (zdk ttX9_tells 81 rfl rfl) rfl ?_
            have b112 : -2147483648 ≤ (h7.2 (c + 3) p2) ∧ (h7.2 (c + 3) p2) ≤ 2147483647 := ab_9_1_1 s8 hc p2
            refine zj_iald (v := (h7.2 (c + 3) p2)) (zdk ttX9_tells 82 rfl rfl) (ka_9_1_1 s8 hc) (by decide) (by omega) rfl ?_
            refine zj_imul (zdk ttX9_tells 83 rfl rfl) ?_
            refine zj_wrap ?_
            have b113 := zwp_in (80 * (h7.2 (c + 3) p2))
            refine zj_iload_n (zdk ttX9_tells 84 rfl rfl) rfl ?_
            refine zj_callS (av := [.inl (zwp (80 * (h7.2 (c + 3) p2))), .inl y3]) (st := []) (zdk ttX9_tells 85 rfl rfl) mb_X9_held ms_RX9_199 rfl rfl (Nat.le_of_ble_eq_true rfl) (s_X9_held l h7 (zwp (80 * (h7.2 (c + 3) p2))) y3 s8 (by omega) (by omega)) (rm_ok (by decide) (by decide)) (zq_i fun v115 h116 q114 => ?_)
            obtain ⟨rfl, b117, u118, u119⟩ := q114
            exact zj_iret rfl (zdk ttX9_tells 86 rfl rfl) (Nat.le_refl _) (Nat.le_refl _) ⟨v115, rfl, by omega, s8⟩
          have k120 : p1 = 1 → zJ shC l yX9_tells cX9_tells 6 (some .int) (rmL 4) 0 0 (q_X9_tells h c p1 p2) 0 0 197 [some (.inr c), some (.inl p1), some (.inl p2), some (.inl y3), some (.inl x6), none] [] h7 := by
            intro c100
            refine zj_aload_n (zdk ttX9_tells 87 rfl rfl) rfl (by omega) ?_
            refine zj_getr (r := (c + 1)) (zdk ttX9_tells 88 rfl rfl) zf_RX9_12 rfl (k_9_0 s8 hc) (rf_9_0_0 s8 hc) ?_
            refine zj_getr (r := (c + 2)) (zdk ttX9_tells 89 rfl rfl) zf_RX9_205 rfl (k_9_1 s8 hc) (rf_9_1_0 s8 hc) ?_
            refine zj_iload_n (zdk ttX9_tells 90 rfl rfl) rfl ?_
            have b121 : -2147483648 ≤ (h7.2 (c + 2) p2) ∧ (h7.2 (c + 2) p2) ≤ 2147483647 := ab_9_1_0 s8 hc p2
            refine zj_iald (v := (h7.2 (c + 2) p2)) (zdk ttX9_tells 91 rfl rfl) (ka_9_1_0 s8 hc) (by decide) (by omega) rfl ?_
            refine zj_iload_n (zdk ttX9_tells 92 rfl rfl) rfl ?_
            refine zj_callS (av := [.inl (h7.2 (c + 2) p2), .inl y3]) (st := []) (zdk ttX9_tells 93 rfl rfl) mb_X9_held ms_RX9_199 rfl rfl (Nat.le_of_ble_eq_true rfl) (s_X9_held l h7 (h7.2 (c + 2) p2) y3 s8 (by omega) (by omega)) (rm_ok (by decide) (by decide)) (zq_i fun v123 h124 q122 => ?_)
            obtain ⟨rfl, b125, u126, u127⟩ := q122
            exact zj_iret rfl (zdk ttX9_tells 94 rfl rfl) (Nat.le_refl _) (Nat.le_refl _) ⟨v123, rfl, by omega, s8⟩
          by_cases z128 : p1 = 0
          · exact zj_lookup (t := 180) (zdk ttX9_tells 76 rfl rfl) (by omega) rfl (by rw [z128] <;> rfl) (by decide) (k111 z128)
          by_cases z129 : p1 = 1
          · exact zj_lookup (t := 197) (zdk ttX9_tells 76 rfl rfl) (by omega) rfl (by rw [z129] <;> rfl) (by decide) (k120 z129)
          exact zj_lookup (t := 211) (zdk ttX9_tells 76 rfl rfl) (by omega) rfl (by show Op.lookupswitch.offset [(0, 25), (1, 42)] 56 p1 = _; rw [Op.lookupswitch.offset_cons, if_neg (by omega), Op.lookupswitch.offset_cons, if_neg (by omega), Op.lookupswitch.offset_nil]) (by decide) (k101 (by omega))
        · refine zj_aload_n (zdk ttX9_tells 14 rfl rfl) rfl (by omega) ?_
          refine zj_getr (r := (c + 5)) (zdk ttX9_tells 15 rfl rfl) zf_RX9_21 rfl (k_9_0 s8 hc) (rf_9_0_1 s8 hc) ?_
          refine zj_getr (r := (c + 6)) (zdk ttX9_tells 16 rfl rfl) zf_RX9_183 rfl (k_9_5 s8 hc) (rf_9_5_0 s8 hc) ?_
          refine zj_iload (zdk ttX9_tells 17 rfl rfl) rfl ?_
          have b130 : -2147483648 ≤ (h7.2 (c + 6) x6) ∧ (h7.2 (c + 6) x6) ≤ 2147483647 := ab_9_5_0 s8 hc x6
          refine zj_iald (v := (h7.2 (c + 6) x6)) (zdk ttX9_tells 18 rfl rfl) (ka_9_5_0 s8 hc) (by decide) (by omega) rfl ?_
          refine zj_iload_n (zdk ttX9_tells 19 rfl rfl) rfl ?_
          refine zj_icmp_eq (t := 47) (zdk ttX9_tells 20 rfl rfl) (by decide) (by omega) (by omega) (fun c131 => ?_) (fun c131 => ?_)
          · refine zj_aload_n (zdk ttX9_tells 22 rfl rfl) rfl (by omega) ?_
            refine zj_getr (r := (c + 5)) (zdk ttX9_tells 23 rfl rfl) zf_RX9_21 rfl (k_9_0 s8 hc) (rf_9_0_1 s8 hc) ?_
            refine zj_getr (r := (c + 8)) (zdk ttX9_tells 24 rfl rfl) zf_RX9_186 rfl (k_9_5 s8 hc) (rf_9_5_2 s8 hc) ?_
            refine zj_iload (zdk ttX9_tells 25 rfl rfl) rfl ?_
            have b132 : 0 ≤ (h7.2 (c + 8) x6) ∧ (h7.2 (c + 8) x6) ≤ 400 := ab_9_5_2 s8 hc x6
            refine zj_iald (v := (h7.2 (c + 8) x6)) (zdk ttX9_tells 26 rfl rfl) (ka_9_5_2 s8 hc) (by decide) (by omega) rfl ?_
            refine zj_aload_n (zdk ttX9_tells 27 rfl rfl) rfl (by omega) ?_
            refine zj_getr (r := (c + 5)) (zdk ttX9_tells 28 rfl rfl) zf_RX9_21 rfl (k_9_0 s8 hc) (rf_9_0_1 s8 hc) ?_
            refine zj_getr (r := (c + 9)) (zdk ttX9_tells 29 rfl rfl) zf_RX9_189 rfl (k_9_5 s8 hc) (rf_9_5_3 s8 hc) ?_
            refine zj_iload (zdk ttX9_tells 30 rfl rfl) rfl ?_
            have b133 : 0 ≤ (h7.2 (c + 9) x6) ∧ (h7.2 (c + 9) x6) ≤ 400 := ab_9_5_3 s8 hc x6
            refine zj_iald (v := (h7.2 (c + 9) x6)) (zdk ttX9_tells 31 rfl rfl) (ka_9_5_3 s8 hc) (by decide) (by omega) rfl ?_
            have j136 : ∀ (y135 : Int), (0 ≤ y135 ∧ y135 ≤ 1) → zJ shC l yX9_tells cX9_tells 6 (some .int) (rmL 4) 0 0 (q_X9_tells h c p1 p2) 0 0 75 [some (.inr c), some (.inl p1), some (.inl p2), some (.inl y3), some (.inl x6), none] [.inl y135] h7 := by
              intro y135 b137
              refine zj_istore (L' := [some (.inr c), some (.inl p1), some (.inl p2), some (.inl y3), some (.inl x6), some (.inl y135)]) (zdk ttX9_tells 36 rfl rfl) (by decide) rfl ?_
              refine zj_iload (zdk ttX9_tells 37 rfl rfl) rfl ?_
              refine zj_if_ne (t := 114) (zdk ttX9_tells 38 rfl rfl) (by decide) (by omega) (fun c138 => ?_) (fun c138 => ?_)
              · refine zj_aload_n (zdk ttX9_tells 55 rfl rfl) rfl (by omega) ?_
                refine zj_getr (r := (c + 5)) (zdk ttX9_tells 56 rfl rfl) zf_RX9_21 rfl (k_9_0 s8 hc) (rf_9_0_1 s8 hc) ?_
                refine zj_aload_n (zdk ttX9_tells 57 rfl rfl) rfl (by omega) ?_
                refine zj_getr (r := (c + 5)) (zdk ttX9_tells 58 rfl rfl) zf_RX9_21 rfl (k_9_0 s8 hc) (rf_9_0_1 s8 hc) ?_
                refine zj_getr (r := (c + 7)) (zdk ttX9_tells 59 rfl rfl) zf_RX9_196 rfl (k_9_5 s8 hc) (rf_9_5_1 s8 hc) ?_
                refine zj_iload (zdk ttX9_tells 60 rfl rfl) rfl ?_
                have b139 : 0 ≤ (h7.2 (c + 7) x6) ∧ (h7.2 (c + 7) x6) ≤ 400 := ab_9_5_1 s8 hc x6
                refine zj_iald (v := (h7.2 (c + 7) x6)) (zdk ttX9_tells 61 rfl rfl) (ka_9_5_1 s8 hc) (by decide) (by omega) rfl ?_
                refine zj_aload_n (zdk ttX9_tells 62 rfl rfl) rfl (by omega) ?_
                refine zj_getr (r := (c + 5)) (zdk ttX9_tells 63 rfl rfl) zf_RX9_21 rfl (k_9_0 s8 hc) (rf_9_0_1 s8 hc) ?_
                refine zj_getr (r := (c + 8)) (zdk ttX9_tells 64 rfl rfl) zf_RX9_186 rfl (k_9_5 s8 hc) (rf_9_5_2 s8 hc) ?_
                refine zj_iload (zdk ttX9_tells 65 rfl rfl) rfl ?_
                refine zj_iald (v := (h7.2 (c + 8) x6)) (zdk ttX9_tells 66 rfl rfl) (ka_9_5_2 s8 hc) (by decide) (by omega) rfl ?_
                refine zj_aload_n (zdk ttX9_tells 67 rfl rfl) rfl (by omega) ?_
                refine zj_iload_n (zdk ttX9_tells 68 rfl rfl) rfl ?_
                refine zj_callV (av := [.inl (h7.2 (c + 7) x6), .inl (h7.2 (c + 8) x6), .inr c, .inl p2]) (st := []) (zdk ttX9_tells 69 rfl rfl) mb_X3_run mv_RX9_192 (ci := 3) rfl rfl (k_9_5 s8 hc) rfl rfl (Nat.le_of_ble_eq_true rfl) (s_X3_run l h7 (c + 5) (h7.2 (c + 7) x6) (h7.2 (c + 8) x6) c p2 s8 (zs_9_5 hc) (by omega) (by omega) hc (by omega)) (rm_ok (by decide) (by decide)) (zq_i fun v141 h142 q140 => ?_)
                obtain ⟨b143, s144⟩ := q140
                refine zj_iload_n (zdk ttX9_tells 70 rfl rfl) rfl ?_
                refine zj_callS (av := [.inl v141, .inl y3]) (st := []) (zdk ttX9_tells 71 rfl rfl) mb_X9_held ms_RX9_199 rfl rfl (Nat.le_of_ble_eq_true rfl) (s_X9_held l h142 v141 y3 s144 (by omega) (by omega)) (rm_ok (by decide) (by decide)) (zq_i fun v146 h147 q145 => ?_)
                obtain ⟨rfl, b148, u149, u150⟩ := q145
                exact zj_iret rfl (zdk ttX9_tells 72 rfl rfl) (Nat.le_refl _) (Nat.le_refl _) ⟨v146, rfl, by omega, s144⟩
              · refine zj_aload_n (zdk ttX9_tells 39 rfl rfl) rfl (by omega) ?_
                refine zj_getr (r := (c + 5)) (zdk ttX9_tells 40 rfl rfl) zf_RX9_21 rfl (k_9_0 s8 hc) (rf_9_0_1 s8 hc) ?_
                refine zj_aload_n (zdk ttX9_tells 41 rfl rfl) rfl (by omega) ?_
                refine zj_getr (r := (c + 5)) (zdk ttX9_tells 42 rfl rfl) zf_RX9_21 rfl (k_9_0 s8 hc) (rf_9_0_1 s8 hc) ?_
                refine zj_getr (r := (c + 8)) (zdk ttX9_tells 43 rfl rfl) zf_RX9_186 rfl (k_9_5 s8 hc) (rf_9_5_2 s8 hc) ?_
                refine zj_iload (zdk ttX9_tells 44 rfl rfl) rfl ?_
                refine zj_iald (v := (h7.2 (c + 8) x6)) (zdk ttX9_tells 45 rfl rfl) (ka_9_5_2 s8 hc) (by decide) (by omega) rfl ?_
                refine zj_aload_n (zdk ttX9_tells 46 rfl rfl) rfl (by omega) ?_
                refine zj_getr (r := (c + 5)) (zdk ttX9_tells 47 rfl rfl) zf_RX9_21 rfl (k_9_0 s8 hc) (rf_9_0_1 s8 hc) ?_
                refine zj_getr (r := (c + 9)) (zdk ttX9_tells 48 rfl rfl) zf_RX9_189 rfl (k_9_5 s8 hc) (rf_9_5_3 s8 hc) ?_
                refine zj_iload (zdk ttX9_tells 49 rfl rfl) rfl ?_
                refine zj_iald (v := (h7.2 (c + 9) x6)) (zdk ttX9_tells 50 rfl rfl) (ka_9_5_3 s8 hc) (by decide) (by omega) rfl ?_
                refine zj_aload_n (zdk ttX9_tells 51 rfl rfl) rfl (by omega) ?_
                refine zj_iload_n (zdk ttX9_tells 52 rfl rfl) rfl ?_
                refine zj_callV (av := [.inl (h7.2 (c + 8) x6), .inl (h7.2 (c + 9) x6), .inr c, .inl p2]) (st := []) (zdk ttX9_tells 53 rfl rfl) mb_X3_run mv_RX9_192 (ci := 3) rfl rfl (k_9_5 s8 hc) rfl rfl (Nat.le_of_ble_eq_true rfl) (s_X3_run l h7 (c + 5) (h7.2 (c + 8) x6) (h7.2 (c + 9) x6) c p2 s8 (zs_9_5 hc) (by omega) (by omega) hc (by omega)) (rm_ok (by decide) (by decide)) (zq_i fun v152 h153 q151 => ?_)
                obtain ⟨b154, s155⟩ := q151
                refine zj_if_eq (t := 148) (zdk ttX9_tells 54 rfl rfl) (by decide) (by omega) (fun c156 => ?_) (fun c156 => ?_)
                · refine zj_iinc (L' := [some (.inr c), some (.inl p1), some (.inl p2), some (.inl y3), some (.inl (x6 + 1)), some (.inl y135)]) (zdk ttX9_tells 73 rfl rfl) rfl (by decide) rfl ?_
                  refine zj_goto (t := 18) (zdk ttX9_tells 74 rfl rfl) (by decide) ?_
                  refine zj_kill (k := 5) (L' := [some (.inr c), some (.inl p1), some (.inl p2), some (.inl y3), some (.inl (x6 + 1)), none]) rfl ?_
                  exact ih97  (x6 + 1) h153 (by omega) s155 (by omega)
                · refine zj_aload_n (zdk ttX9_tells 55 rfl rfl) rfl (by omega) ?_
                  refine zj_getr (r := (c + 5)) (zdk ttX9_tells 56 rfl rfl) zf_RX9_21 rfl (k_9_0 s155 hc) (rf_9_0_1 s155 hc) ?_
                  refine zj_aload_n (zdk ttX9_tells 57 rfl rfl) rfl (by omega) ?_
                  refine zj_getr (r := (c + 5)) (zdk ttX9_tells 58 rfl rfl) zf_RX9_21 rfl (k_9_0 s155 hc) (rf_9_0_1 s155 hc) ?_
                  refine zj_getr (r := (c + 7)) (zdk ttX9_tells 59 rfl rfl) zf_RX9_196 rfl (k_9_5 s155 hc) (rf_9_5_1 s155 hc) ?_
                  refine zj_iload (zdk ttX9_tells 60 rfl rfl) rfl ?_
                  have b157 : 0 ≤ (h153.2 (c + 7) x6) ∧ (h153.2 (c + 7) x6) ≤ 400 := ab_9_5_1 s155 hc x6
                  refine zj_iald (v := (h153.2 (c + 7) x6)) (zdk ttX9_tells 61 rfl rfl) (ka_9_5_1 s155 hc) (by decide) (by omega) rfl ?_
                  refine zj_aload_n (zdk ttX9_tells 62 rfl rfl) rfl (by omega) ?_
                  refine zj_getr (r := (c + 5)) (zdk ttX9_tells 63 rfl rfl) zf_RX9_21 rfl (k_9_0 s155 hc) (rf_9_0_1 s155 hc) ?_
                  refine zj_getr (r := (c + 8)) (zdk ttX9_tells 64 rfl rfl) zf_RX9_186 rfl (k_9_5 s155 hc) (rf_9_5_2 s155 hc) ?_
                  refine zj_iload (zdk ttX9_tells 65 rfl rfl) rfl ?_
                  have b158 : 0 ≤ (h153.2 (c + 8) x6) ∧ (h153.2 (c + 8) x6) ≤ 400 := ab_9_5_2 s155 hc x6
                  refine zj_iald (v := (h153.2 (c + 8) x6)) (zdk ttX9_tells 66 rfl rfl) (ka_9_5_2 s155 hc) (by decide) (by omega) rfl ?_
                  refine zj_aload_n (zdk ttX9_tells 67 rfl rfl) rfl (by omega) ?_
                  refine zj_iload_n (zdk ttX9_tells 68 rfl rfl) rfl ?_
                  refine zj_callV (av := [.inl (h153.2 (c + 7) x6), .inl (h153.2 (c + 8) x6), .inr c, .inl p2]) (st := []) (zdk ttX9_tells 69 rfl rfl) mb_X3_run mv_RX9_192 (ci := 3) rfl rfl (k_9_5 s155 hc) rfl rfl (Nat.le_of_ble_eq_true rfl) (s_X3_run l h153 (c + 5) (h153.2 (c + 7) x6) (h153.2 (c + 8) x6) c p2 s155 (zs_9_5 hc) (by omega) (by omega) hc (by omega)) (rm_ok (by decide) (by decide)) (zq_i fun v160 h161 q159 => ?_)
                  obtain ⟨b162, s163⟩ := q159
                  refine zj_iload_n (zdk ttX9_tells 70 rfl rfl) rfl ?_
                  refine zj_callS (av := [.inl v160, .inl y3]) (st := []) (zdk ttX9_tells 71 rfl rfl) mb_X9_held ms_RX9_199 rfl rfl (Nat.le_of_ble_eq_true rfl) (s_X9_held l h161 v160 y3 s163 (by omega) (by omega)) (rm_ok (by decide) (by decide)) (zq_i fun v165 h166 q164 => ?_)
                  obtain ⟨rfl, b167, u168, u169⟩ := q164
                  exact zj_iret rfl (zdk ttX9_tells 72 rfl rfl) (Nat.le_refl _) (Nat.le_refl _) ⟨v165, rfl, by omega, s163⟩
            refine zj_icmp_ne (t := 74) (zdk ttX9_tells 32 rfl rfl) (by decide) (by omega) (by omega) (fun c134 => ?_) (fun c134 => ?_)
            · refine zj_iconst (zdk ttX9_tells 35 rfl rfl) ?_
              exact j136 0 (by omega)
            · refine zj_iconst (zdk ttX9_tells 33 rfl rfl) ?_
              refine zj_goto (t := 75) (zdk ttX9_tells 34 rfl rfl) (by decide) ?_
              exact j136 1 (by omega)
          · refine zj_goto (t := 148) (zdk ttX9_tells 21 rfl rfl) (by decide) ?_
            refine zj_iinc (L' := [some (.inr c), some (.inl p1), some (.inl p2), some (.inl y3), some (.inl (x6 + 1)), none]) (zdk ttX9_tells 73 rfl rfl) rfl (by decide) rfl ?_
            refine zj_goto (t := 18) (zdk ttX9_tells 74 rfl rfl) (by decide) ?_
            exact ih97  (x6 + 1) h7 (by omega) s8 (by omega)
    exact lp94 _ 0 h (by omega) s0 (Nat.lt_succ_self _)
  refine zj_icmp_ne (t := 11) (zdk ttX9_tells 2 rfl rfl) (by decide) (by omega) (by decide) (fun c2 => ?_) (fun c2 => ?_)
  · refine zj_sipush (zdk ttX9_tells 5 rfl rfl) (by decide) ?_
    exact j4 1000 (by omega)
  · refine zj_sipush (zdk ttX9_tells 3 rfl rfl) (by decide) ?_
    refine zj_goto (t := 14) (zdk ttX9_tells 4 rfl rfl) (by decide) ?_
    exact j4 999 (by omega)

abbrev tX9_happen : List (Nat × Instr × Nat) := [(0, .iload_n 1, 1), (1, .tableswitch 122 1 5 #[35, 53, 73, 84, 95], 35), (36, .aload_n 0, 1), (37, .getfield 12, 3), (40, .dup, 1), (41, .getfield 105, 3), (44, .iconst 1, 1), (45, .iload_n 2, 1), (46, .ishl, 1), (47, .ior, 1), (48, .putfield 105, 3), (51, .goto 80, 3), (54, .aload_n 0, 1), (55, .getfield 12, 3), (58, .dup, 1), (59, .getfield 105, 3), (62, .iconst 1, 1), (63, .iload_n 2, 1), (64, .ishl, 1), (65, .iconst (-1), 1), (66, .ixor, 1), (67, .iand, 1), (68, .putfield 105, 3), (71, .goto 60, 3), (74, .aload_n 0, 1), (75, .getfield 12, 3), (78, .iconst 1, 1), (79, .putfield 108, 3), (82, .goto 49, 3), (85, .aload_n 0, 1), (86, .getfield 12, 3), (89, .iconst 0, 1), (90, .putfield 108, 3), (93, .goto 38, 3), (96, .aload_n 0, 1), (97, .getfield 12, 3), (100, .dup, 1), (101, .getfield 111, 3), (104, .iload_n 2, 1), (105, .aload_n 0, 1), (106, .getfield 12, 3), (109, .getfield 114, 3), (112, .bipush 60, 2), (114, .idiv, 1), (115, .imul, 1), (116, .iadd, 1), (117, .putfield 111, 3), (120, .goto 11, 3), (123, .aload_n 0, 1), (124, .getfield 12, 3), (127, .iload_n 2, 1), (128, .invokevirtual 117, 3), (131, .return_, 1)]
theorem ttX9_happen : zdt cX9_happen tX9_happen = true := by decide +kernel
abbrev q_X9_happen (h : zM) (c : Int) (p1 : Int) (p2 : Int) : Option zV → zM → Prop := zqv fun h' => okC h'
set_option maxRecDepth 100000 in
set_option maxHeartbeats 4000000 in
theorem s_X9_happen (l : Launch) (h : zM) (c : Int) (p1 : Int) (p2 : Int) (s0 : okC h) (hc : zWd c) (b_p1 : (-2147483648) ≤ p1 ∧ p1 ≤ 2147483647) (b_p2 : (-2147483648) ≤ p2 ∧ p2 ≤ 2147483647) : zT shC l yX9_happen cX9_happen 3 none (rmL 3) 0 0 [.inr c, .inl p1, .inl p2] h (q_X9_happen h c p1 p2) := by
  refine zT_of (by decide +kernel) (L0 := [some (.inr c), some (.inl p1), some (.inl p2)]) rfl (Nat.le_of_ble_eq_true rfl) ?_
  have b1 := zWd_b hc
  refine zj_iload_n (zdk ttX9_happen 0 rfl rfl) rfl ?_
  have k3 : (p1 < 1 ∨ 5 < p1) → zJ shC l yX9_happen cX9_happen 3 none (rmL 3) 0 0 (q_X9_happen h c p1 p2) 0 0 123 [some (.inr c), some (.inl p1), some (.inl p2)] [] h := by
    intro c2
    refine zj_aload_n (zdk ttX9_happen 48 rfl rfl) rfl (by omega) ?_
    refine zj_getr (r := (c + 1)) (zdk ttX9_happen 49 rfl rfl) zf_RX9_12 rfl (k_9_0 s0 hc) (rf_9_0_0 s0 hc) ?_
    refine zj_iload_n (zdk ttX9_happen 50 rfl rfl) rfl ?_
    refine zj_callV (av := [.inl p2]) (st := []) (zdk ttX9_happen 51 rfl rfl) mb_X1_moveHands mv_RX9_117 (ci := 1) rfl rfl (k_9_1 s0 hc) rfl rfl (Nat.le_of_ble_eq_true rfl) (s_X1_moveHands l h (c + 1) p2 s0 (zs_9_1 hc) (by omega)) (rm_ok (by decide) (by decide)) (zq_v fun h6 q4 => ?_)
    exact zj_vret rfl (zdk ttX9_happen 52 rfl rfl) (Nat.le_refl _) (Nat.le_refl _) ⟨rfl, q4⟩
  have k9 : p1 = 1 → zJ shC l yX9_happen cX9_happen 3 none (rmL 3) 0 0 (q_X9_happen h c p1 p2) 0 0 36 [some (.inr c), some (.inl p1), some (.inl p2)] [] h := by
    intro c2
    refine zj_aload_n (zdk ttX9_happen 2 rfl rfl) rfl (by omega) ?_
    refine zj_getr (r := (c + 1)) (zdk ttX9_happen 3 rfl rfl) zf_RX9_12 rfl (k_9_0 s0 hc) (rf_9_0_0 s0 hc) ?_
    refine zj_dup (zdk ttX9_happen 4 rfl rfl) ?_
    have b10 : -2147483648 ≤ (h.2 (c + 1) 5) ∧ (h.2 (c + 1) 5) ≤ 2147483647 := fb_9_1_5 s0 hc
    refine zj_geti (v := (h.2 (c + 1) 5)) (zdk ttX9_happen 5 rfl rfl) zf_RX9_105 rfl (k_9_1 s0 hc) rfl ?_
    refine zj_iconst (zdk ttX9_happen 6 rfl rfl) ?_
    refine zj_iload_n (zdk ttX9_happen 7 rfl rfl) rfl ?_
    refine zj_ishl (zdk ttX9_happen 8 rfl rfl) ?_
    have b11 := zshl_in 1 p2
    refine zj_ior (zdk ttX9_happen 9 rfl rfl) ?_
    have b12 := zor_in (h.2 (c + 1) 5) (zshl 1 p2)
    refine zj_puti (zdk ttX9_happen 10 rfl rfl) zf_RX9_105 rfl (k_9_1 s0 hc) (Or.inl zw_RX9_105) (k2 := 5) rfl (fun h13 e14 => ?_)
    refine zj_goto (t := 131) (zdk ttX9_happen 11 rfl rfl) (by decide) ?_
    have s15 : okC h13 := fw_9_1_5 s0 hc e14 (by omega)
    exact zj_vret rfl (zdk ttX9_happen 52 rfl rfl) (Nat.le_refl _) (Nat.le_refl _) ⟨rfl, s15⟩
  have k16 : p1 = 2 → zJ shC l yX9_happen cX9_happen 3 none (rmL 3) 0 0 (q_X9_happen h c p1 p2) 0 0 54 [some (.inr c), some (.inl p1), some (.inl p2)] [] h := by
    intro c2
    refine zj_aload_n (zdk ttX9_happen 12 rfl rfl) rfl (by omega) ?_
    refine zj_getr (r := (c + 1)) (zdk ttX9_happen 13 rfl rfl) zf_RX9_12 rfl (k_9_0 s0 hc) (rf_9_0_0 s0 hc) ?_
    refine zj_dup (zdk ttX9_happen 14 rfl rfl) ?_
    have b17 : -2147483648 ≤ (h.2 (c + 1) 5) ∧ (h.2 (c + 1) 5) ≤ 2147483647 := fb_9_1_5 s0 hc
    refine zj_geti (v := (h.2 (c + 1) 5)) (zdk ttX9_happen 15 rfl rfl) zf_RX9_105 rfl (k_9_1 s0 hc) rfl ?_
    refine zj_iconst (zdk ttX9_happen 16 rfl rfl) ?_
    refine zj_iload_n (zdk ttX9_happen 17 rfl rfl) rfl ?_
    refine zj_ishl (zdk ttX9_happen 18 rfl rfl) ?_
    have b18 := zshl_in 1 p2
    refine zj_iconst (zdk ttX9_happen 19 rfl rfl) ?_
    refine zj_ixor (zdk ttX9_happen 20 rfl rfl) ?_
    have b19 := zxor_in (zshl 1 p2) (-1)
    refine zj_iand (zdk ttX9_happen 21 rfl rfl) ?_
    have b20 := zand_in (h.2 (c + 1) 5) (zxor (zshl 1 p2) (-1))
    refine zj_puti (zdk ttX9_happen 22 rfl rfl) zf_RX9_105 rfl (k_9_1 s0 hc) (Or.inl zw_RX9_105) (k2 := 5) rfl (fun h21 e22 => ?_)
    refine zj_goto (t := 131) (zdk ttX9_happen 23 rfl rfl) (by decide) ?_
    have s23 : okC h21 := fw_9_1_5 s0 hc e22 (by omega)
    exact zj_vret rfl (zdk ttX9_happen 52 rfl rfl) (Nat.le_refl _) (Nat.le_refl _) ⟨rfl, s23⟩
  have k24 : p1 = 3 → zJ shC l yX9_happen cX9_happen 3 none (rmL 3) 0 0 (q_X9_happen h c p1 p2) 0 0 74 [some (.inr c), some (.inl p1), some (.inl p2)] [] h := by
    intro c2
    refine zj_aload_n (zdk ttX9_happen 24 rfl rfl) rfl (by omega) ?_
    refine zj_getr (r := (c + 1)) (zdk ttX9_happen 25 rfl rfl) zf_RX9_12 rfl (k_9_0 s0 hc) (rf_9_0_0 s0 hc) ?_
    refine zj_iconst (zdk ttX9_happen 26 rfl rfl) ?_
    refine zj_puti (zdk ttX9_happen 27 rfl rfl) zf_RX9_108 rfl (k_9_1 s0 hc) (Or.inl zw_RX9_108) (k2 := 10) rfl (fun h25 e26 => ?_)
    refine zj_goto (t := 131) (zdk ttX9_happen 28 rfl rfl) (by decide) ?_
    have s27 : okC h25 := fw_9_1_10 s0 hc e26 (by omega)
    exact zj_vret rfl (zdk ttX9_happen 52 rfl rfl) (Nat.le_refl _) (Nat.le_refl _) ⟨rfl, s27⟩
  have k28 : p1 = 4 → zJ shC l yX9_happen cX9_happen 3 none (rmL 3) 0 0 (q_X9_happen h c p1 p2) 0 0 85 [some (.inr c), some (.inl p1), some (.inl p2)] [] h := by
    intro c2
    refine zj_aload_n (zdk ttX9_happen 29 rfl rfl) rfl (by omega) ?_
    refine zj_getr (r := (c + 1)) (zdk ttX9_happen 30 rfl rfl) zf_RX9_12 rfl (k_9_0 s0 hc) (rf_9_0_0 s0 hc) ?_
    refine zj_iconst (zdk ttX9_happen 31 rfl rfl) ?_
    refine zj_puti (zdk ttX9_happen 32 rfl rfl) zf_RX9_108 rfl (k_9_1 s0 hc) (Or.inl zw_RX9_108) (k2 := 10) rfl (fun h29 e30 => ?_)
    refine zj_goto (t := 131) (zdk ttX9_happen 33 rfl rfl) (by decide) ?_
    have s31 : okC h29 := fw_9_1_10 s0 hc e30 (by omega)
    exact zj_vret rfl (zdk ttX9_happen 52 rfl rfl) (Nat.le_refl _) (Nat.le_refl _) ⟨rfl, s31⟩
  have k32 : p1 = 5 → zJ shC l yX9_happen cX9_happen 3 none (rmL 3) 0 0 (q_X9_happen h c p1 p2) 0 0 96 [some (.inr c), some (.inl p1), some (.inl p2)] [] h := by
    intro c2
    refine zj_aload_n (zdk ttX9_happen 34 rfl rfl) rfl (by omega) ?_
    refine zj_getr (r := (c + 1)) (zdk ttX9_happen 35 rfl rfl) zf_RX9_12 rfl (k_9_0 s0 hc) (rf_9_0_0 s0 hc) ?_
    refine zj_dup (zdk ttX9_happen 36 rfl rfl) ?_
    have b33 : -2147483648 ≤ (h.2 (c + 1) 11) ∧ (h.2 (c + 1) 11) ≤ 2147483647 := fb_9_1_11 s0 hc
    refine zj_geti (v := (h.2 (c + 1) 11)) (zdk ttX9_happen 37 rfl rfl) zf_RX9_111 rfl (k_9_1 s0 hc) rfl ?_
    refine zj_iload_n (zdk ttX9_happen 38 rfl rfl) rfl ?_
    refine zj_aload_n (zdk ttX9_happen 39 rfl rfl) rfl (by omega) ?_
    refine zj_getr (r := (c + 1)) (zdk ttX9_happen 40 rfl rfl) zf_RX9_12 rfl (k_9_0 s0 hc) (rf_9_0_0 s0 hc) ?_
    have b34 : 0 ≤ (h.2 (c + 1) 6) ∧ (h.2 (c + 1) 6) ≤ 719 := fb_9_1_6 s0 hc
    refine zj_geti (v := (h.2 (c + 1) 6)) (zdk ttX9_happen 41 rfl rfl) zf_RX9_114 rfl (k_9_1 s0 hc) rfl ?_
    refine zj_bipush (zdk ttX9_happen 42 rfl rfl) (by decide) ?_
    refine zj_idivP (zdk ttX9_happen 43 rfl rfl) (by omega) (by omega) ?_
    refine zj_imul (zdk ttX9_happen 44 rfl rfl) ?_
    refine zj_wrap ?_
    have b35 := zwp_in (p2 * ((h.2 (c + 1) 6) / 60))
    refine zj_iadd (zdk ttX9_happen 45 rfl rfl) ?_
    refine zj_wrap ?_
    have b36 := zwp_in ((h.2 (c + 1) 11) + (zwp (p2 * ((h.2 (c + 1) 6) / 60))))
    refine zj_puti (zdk ttX9_happen 46 rfl rfl) zf_RX9_111 rfl (k_9_1 s0 hc) (Or.inl zw_RX9_111) (k2 := 11) rfl (fun h37 e38 => ?_)
    refine zj_goto (t := 131) (zdk ttX9_happen 47 rfl rfl) (by decide) ?_
    have s39 : okC h37 := fw_9_1_11 s0 hc e38 (by omega)
    exact zj_vret rfl (zdk ttX9_happen 52 rfl rfl) (Nat.le_refl _) (Nat.le_refl _) ⟨rfl, s39⟩
  refine zj_table (t := 123) (zdk ttX9_happen 1 rfl rfl) (by omega) (by decide) k3 (fun z1 z2 => ?_)
  have z3 : p1 = 1 ∨ p1 = 2 ∨ p1 = 3 ∨ p1 = 4 ∨ p1 = 5 := by omega
  rcases z3 with z3 | z3 | z3 | z3 | z3
  · exact ⟨35, 36, by rw [z3] <;> rfl, by decide, k9 z3⟩
  · exact ⟨53, 54, by rw [z3] <;> rfl, by decide, k16 z3⟩
  · exact ⟨73, 74, by rw [z3] <;> rfl, by decide, k24 z3⟩
  · exact ⟨84, 85, by rw [z3] <;> rfl, by decide, k28 z3⟩
  · exact ⟨95, 96, by rw [z3] <;> rfl, by decide, k32 z3⟩

abbrev tX9_isWilling : List (Nat × Instr × Nat) := [(0, .aload_n 0, 1), (1, .iload_n 1, 1), (2, .iload_n 2, 1), (3, .invokevirtual 145, 3), (6, .istore 4, 2), (8, .iload_n 3, 1), (9, .ifCond .eq 17, 3), (12, .iload 4, 2), (14, .sipush 500, 3), (17, .if_icmp .lt 7, 3), (20, .iconst 1, 1), (21, .goto 4, 3), (24, .iconst 0, 1), (25, .ireturn, 1), (26, .iload 4, 2), (28, .ifCond .le 19, 3), (31, .aload_n 0, 1), (32, .getfield 12, 3), (35, .invokevirtual 149, 3), (38, .iload 4, 2), (40, .if_icmp .ge 7, 3), (43, .iconst 1, 1), (44, .goto 4, 3), (47, .iconst 0, 1), (48, .ireturn, 1)]
theorem ttX9_isWilling : zdt cX9_isWilling tX9_isWilling = true := by decide +kernel
abbrev q_X9_isWilling (h : zM) (c : Int) (p1 : Int) (p2 : Int) (p3 : Int) : Option zV → zM → Prop := zqi fun v h' => (0 ≤ v ∧ v ≤ 1) ∧ okC h'
set_option maxRecDepth 100000 in
set_option maxHeartbeats 4000000 in
theorem s_X9_isWilling (l : Launch) (h : zM) (c : Int) (p1 : Int) (p2 : Int) (p3 : Int) (s0 : okC h) (hc : zWd c) (b_p1 : (-2147483648) ≤ p1 ∧ p1 ≤ 2147483647) (b_p2 : 0 ≤ p2 ∧ p2 ≤ 17) (b_p3 : 0 ≤ p3 ∧ p3 ≤ 1) : zT shC l yX9_isWilling cX9_isWilling 5 (some .boolean) (rmL 5) 0 0 [.inr c, .inl p1, .inl p2, .inl p3] h (q_X9_isWilling h c p1 p2 p3) := by
  refine zT_of (by decide +kernel) (L0 := [some (.inr c), some (.inl p1), some (.inl p2), some (.inl p3), none]) rfl (Nat.le_of_ble_eq_true rfl) ?_
  have b1 := zWd_b hc
  refine zj_aload_n (zdk ttX9_isWilling 0 rfl rfl) rfl (by omega) ?_
  refine zj_iload_n (zdk ttX9_isWilling 1 rfl rfl) rfl ?_
  refine zj_iload_n (zdk ttX9_isWilling 2 rfl rfl) rfl ?_
  refine zj_callV (av := [.inl p1, .inl p2]) (st := []) (zdk ttX9_isWilling 3 rfl rfl) mb_X9_tells mv_RX9_145 (ci := 9) rfl rfl (k_9_0 s0 hc) rfl rfl (Nat.le_of_ble_eq_true rfl) (s_X9_tells l h c p1 p2 s0 hc (by omega) (by omega)) (rm_ok (by decide) (by decide)) (zq_i fun v3 h4 q2 => ?_)
  obtain ⟨b5, s6⟩ := q2
  refine zj_istore (L' := [some (.inr c), some (.inl p1), some (.inl p2), some (.inl p3), some (.inl v3)]) (zdk ttX9_isWilling 4 rfl rfl) (by decide) rfl ?_
  refine zj_iload_n (zdk ttX9_isWilling 5 rfl rfl) rfl ?_
  refine zj_if_eq (t := 26) (zdk ttX9_isWilling 6 rfl rfl) (by decide) (by omega) (fun c7 => ?_) (fun c7 => ?_)
  · refine zj_iload (zdk ttX9_isWilling 14 rfl rfl) rfl ?_
    refine zj_if_le (t := 47) (zdk ttX9_isWilling 15 rfl rfl) (by decide) (by omega) (fun c8 => ?_) (fun c8 => ?_)
    · refine zj_iconst (zdk ttX9_isWilling 23 rfl rfl) ?_
      exact zj_zret rfl (zdk ttX9_isWilling 24 rfl rfl) (Nat.le_refl _) (Nat.le_refl _) (by omega) ⟨0, rfl, by omega, s6⟩
    · refine zj_aload_n (zdk ttX9_isWilling 16 rfl rfl) rfl (by omega) ?_
      refine zj_getr (r := (c + 1)) (zdk ttX9_isWilling 17 rfl rfl) zf_RX9_12 rfl (k_9_0 s6 hc) (rf_9_0_0 s6 hc) ?_
      refine zj_callV (av := []) (st := []) (zdk ttX9_isWilling 18 rfl rfl) mb_X1_drawOfThousand mv_RX9_149 (ci := 1) rfl rfl (k_9_1 s6 hc) rfl rfl (Nat.le_of_ble_eq_true rfl) (s_X1_drawOfThousand l h4 (c + 1) s6 (zs_9_1 hc)) (rm_ok (by decide) (by decide)) (zq_i fun v10 h11 q9 => ?_)
      obtain ⟨b12, s13⟩ := q9
      refine zj_iload (zdk ttX9_isWilling 19 rfl rfl) rfl ?_
      refine zj_icmp_ge (t := 47) (zdk ttX9_isWilling 20 rfl rfl) (by decide) (by omega) (by omega) (fun c14 => ?_) (fun c14 => ?_)
      · refine zj_iconst (zdk ttX9_isWilling 23 rfl rfl) ?_
        exact zj_zret rfl (zdk ttX9_isWilling 24 rfl rfl) (Nat.le_refl _) (Nat.le_refl _) (by omega) ⟨0, rfl, by omega, s13⟩
      · refine zj_iconst (zdk ttX9_isWilling 21 rfl rfl) ?_
        refine zj_goto (t := 48) (zdk ttX9_isWilling 22 rfl rfl) (by decide) ?_
        exact zj_zret rfl (zdk ttX9_isWilling 24 rfl rfl) (Nat.le_refl _) (Nat.le_refl _) (by omega) ⟨1, rfl, by omega, s13⟩
  · refine zj_iload (zdk ttX9_isWilling 7 rfl rfl) rfl ?_
    refine zj_sipush (zdk ttX9_isWilling 8 rfl rfl) (by decide) ?_
    refine zj_icmp_lt (t := 24) (zdk ttX9_isWilling 9 rfl rfl) (by decide) (by omega) (by decide) (fun c15 => ?_) (fun c15 => ?_)
    · refine zj_iconst (zdk ttX9_isWilling 12 rfl rfl) ?_
      exact zj_zret rfl (zdk ttX9_isWilling 13 rfl rfl) (Nat.le_refl _) (Nat.le_refl _) (by omega) ⟨0, rfl, by omega, s6⟩
    · refine zj_iconst (zdk ttX9_isWilling 10 rfl rfl) ?_
      refine zj_goto (t := 25) (zdk ttX9_isWilling 11 rfl rfl) (by decide) ?_
      exact zj_zret rfl (zdk ttX9_isWilling 13 rfl rfl) (Nat.le_refl _) (Nat.le_refl _) (by omega) ⟨1, rfl, by omega, s6⟩

abbrev tX9_goAboard : List (Nat × Instr × Nat) := [(0, .aload_n 0, 1), (1, .getfield 12, 3), (4, .dup, 1), (5, .getfield 153, 3), (8, .iconst 1, 1), (9, .iload_n 1, 1), (10, .ishl, 1), (11, .iconst (-1), 1), (12, .ixor, 1), (13, .iand, 1), (14, .putfield 153, 3), (17, .aload_n 0, 1), (18, .getfield 12, 3), (21, .getfield 156, 3), (24, .iload_n 1, 1), (25, .dup2, 1), (26, .iaload, 1), (27, .iconst 1, 1), (28, .iadd, 1), (29, .iastore, 1), (30, .aload_n 0, 1), (31, .iconst 1, 1), (32, .iload_n 1, 1), (33, .invokevirtual 145, 3), (36, .istore_n 2, 1), (37, .aload_n 0, 1), (38, .getfield 12, 3), (41, .dup, 1), (42, .getfield 159, 3), (45, .iload_n 2, 1), (46, .iadd, 1), (47, .putfield 159, 3), (50, .aload_n 0, 1), (51, .getfield 45, 3), (54, .aload_n 0, 1), (55, .getfield 12, 3), (58, .getfield 83, 3), (61, .iconst 0, 1), (62, .iload_n 1, 1), (63, .iload_n 2, 1), (64, .invokevirtual 162, 3), (67, .return_, 1)]
theorem ttX9_goAboard : zdt cX9_goAboard tX9_goAboard = true := by decide +kernel
abbrev q_X9_goAboard (h : zM) (c : Int) (p1 : Int) : Option zV → zM → Prop := zqv fun h' => okC h'
set_option maxRecDepth 100000 in
set_option maxHeartbeats 4000000 in
theorem s_X9_goAboard (l : Launch) (h : zM) (c : Int) (p1 : Int) (s0 : okC h) (hc : zWd c) (b_p1 : 0 ≤ p1 ∧ p1 ≤ 17) : zT shC l yX9_goAboard cX9_goAboard 3 none (rmL 5) 0 0 [.inr c, .inl p1] h (q_X9_goAboard h c p1) := by
  refine zT_of (by decide +kernel) (L0 := [some (.inr c), some (.inl p1), none]) rfl (Nat.le_of_ble_eq_true rfl) ?_
  have b1 := zWd_b hc
  refine zj_aload_n (zdk ttX9_goAboard 0 rfl rfl) rfl (by omega) ?_
  refine zj_getr (r := (c + 1)) (zdk ttX9_goAboard 1 rfl rfl) zf_RX9_12 rfl (k_9_0 s0 hc) (rf_9_0_0 s0 hc) ?_
  refine zj_dup (zdk ttX9_goAboard 2 rfl rfl) ?_
  have b2 : -2147483648 ≤ (h.2 (c + 1) 4) ∧ (h.2 (c + 1) 4) ≤ 2147483647 := fb_9_1_4 s0 hc
  refine zj_geti (v := (h.2 (c + 1) 4)) (zdk ttX9_goAboard 3 rfl rfl) zf_RX9_153 rfl (k_9_1 s0 hc) rfl ?_
  refine zj_iconst (zdk ttX9_goAboard 4 rfl rfl) ?_
  refine zj_iload_n (zdk ttX9_goAboard 5 rfl rfl) rfl ?_
  refine zj_ishl (zdk ttX9_goAboard 6 rfl rfl) ?_
  have b3 := zshl_1 (n := p1) (a := 0) (b := 17) (lo := 1) (hi := 131072) (by omega) (by decide) (by decide) (by decide)
  refine zj_iconst (zdk ttX9_goAboard 7 rfl rfl) ?_
  refine zj_ixor (zdk ttX9_goAboard 8 rfl rfl) ?_
  have b4 := zxor_in (zshl 1 p1) (-1)
  refine zj_iand (zdk ttX9_goAboard 9 rfl rfl) ?_
  have b5 := zand_in (h.2 (c + 1) 4) (zxor (zshl 1 p1) (-1))
  refine zj_puti (zdk ttX9_goAboard 10 rfl rfl) zf_RX9_153 rfl (k_9_1 s0 hc) (Or.inl zw_RX9_153) (k2 := 4) rfl (fun h6 e7 => ?_)
  refine zj_aload_n (zdk ttX9_goAboard 11 rfl rfl) rfl (by omega) ?_
  have s8 : okC h6 := fw_9_1_4 s0 hc e7 (by omega)
  refine zj_getr (r := (c + 1)) (zdk ttX9_goAboard 12 rfl rfl) zf_RX9_12 rfl (k_9_0 s8 hc) (rf_9_0_0 s8 hc) ?_
  refine zj_getr (r := (c + 4)) (zdk ttX9_goAboard 13 rfl rfl) zf_RX9_156 rfl (k_9_1 s8 hc) (rf_9_1_2 s8 hc) ?_
  refine zj_iload_n (zdk ttX9_goAboard 14 rfl rfl) rfl ?_
  refine zj_dup2 (zdk ttX9_goAboard 15 rfl rfl) ?_
  have b9 : -2147483648 ≤ (h.2 (c + 4) p1) ∧ (h.2 (c + 4) p1) ≤ 2147483647 := ab_9_1_2 s0 hc p1
  refine zj_iald (v := (h.2 (c + 4) p1)) (zdk ttX9_goAboard 16 rfl rfl) (ka_9_1_2 s8 hc) (by decide) (by omega) (zwr_r e7 (by omega)) ?_
  refine zj_iconst (zdk ttX9_goAboard 17 rfl rfl) ?_
  refine zj_iadd (zdk ttX9_goAboard 18 rfl rfl) ?_
  refine zj_wrap ?_
  have b10 := zwp_in ((h.2 (c + 4) p1) + 1)
  refine zj_iast (zdk ttX9_goAboard 19 rfl rfl) (ka_9_1_2 s8 hc) (by decide) (by omega) (fun h11 e12 => ?_)
  refine zj_aload_n (zdk ttX9_goAboard 20 rfl rfl) rfl (by omega) ?_
  refine zj_iconst (zdk ttX9_goAboard 21 rfl rfl) ?_
  refine zj_iload_n (zdk ttX9_goAboard 22 rfl rfl) rfl ?_
  have s13 : okC h11 := aw_9_1_2 s8 hc e12 (by omega)
  refine zj_callV (av := [.inl 1, .inl p1]) (st := []) (zdk ttX9_goAboard 23 rfl rfl) mb_X9_tells mv_RX9_145 (ci := 9) rfl rfl (k_9_0 s13 hc) rfl rfl (Nat.le_of_ble_eq_true rfl) (s_X9_tells l h11 c 1 p1 s13 hc (by omega) (by omega)) (rm_ok (by decide) (by decide)) (zq_i fun v15 h16 q14 => ?_)
  obtain ⟨b17, s18⟩ := q14
  refine zj_istore_n (L' := [some (.inr c), some (.inl p1), some (.inl v15)]) (zdk ttX9_goAboard 24 rfl rfl) (by decide) rfl ?_
  refine zj_aload_n (zdk ttX9_goAboard 25 rfl rfl) rfl (by omega) ?_
  refine zj_getr (r := (c + 1)) (zdk ttX9_goAboard 26 rfl rfl) zf_RX9_12 rfl (k_9_0 s18 hc) (rf_9_0_0 s18 hc) ?_
  refine zj_dup (zdk ttX9_goAboard 27 rfl rfl) ?_
  have b19 : -2147483648 ≤ (h16.2 (c + 1) 7) ∧ (h16.2 (c + 1) 7) ≤ 2147483647 := fb_9_1_7 s18 hc
  refine zj_geti (v := (h16.2 (c + 1) 7)) (zdk ttX9_goAboard 28 rfl rfl) zf_RX9_159 rfl (k_9_1 s18 hc) rfl ?_
  refine zj_iload_n (zdk ttX9_goAboard 29 rfl rfl) rfl ?_
  refine zj_iadd (zdk ttX9_goAboard 30 rfl rfl) ?_
  refine zj_wrap ?_
  have b20 := zwp_in ((h16.2 (c + 1) 7) + v15)
  refine zj_puti (zdk ttX9_goAboard 31 rfl rfl) zf_RX9_159 rfl (k_9_1 s18 hc) (Or.inl zw_RX9_159) (k2 := 7) rfl (fun h21 e22 => ?_)
  refine zj_aload_n (zdk ttX9_goAboard 32 rfl rfl) rfl (by omega) ?_
  have s23 : okC h21 := fw_9_1_7 s18 hc e22 (by omega)
  refine zj_getr (r := (c + 22)) (zdk ttX9_goAboard 33 rfl rfl) zf_RX9_45 rfl (k_9_0 s23 hc) (rf_9_0_5 s23 hc) ?_
  refine zj_aload_n (zdk ttX9_goAboard 34 rfl rfl) rfl (by omega) ?_
  refine zj_getr (r := (c + 1)) (zdk ttX9_goAboard 35 rfl rfl) zf_RX9_12 rfl (k_9_0 s23 hc) (rf_9_0_0 s23 hc) ?_
  have b24 : -2147483648 ≤ (h16.2 (c + 1) 12) ∧ (h16.2 (c + 1) 12) ≤ 2147483647 := fb_9_1_12 s18 hc
  refine zj_geti (v := (h16.2 (c + 1) 12)) (zdk ttX9_goAboard 36 rfl rfl) zf_RX9_83 rfl (k_9_1 s23 hc) (zwr_r e22 (by omega)) ?_
  refine zj_iconst (zdk ttX9_goAboard 37 rfl rfl) ?_
  refine zj_iload_n (zdk ttX9_goAboard 38 rfl rfl) rfl ?_
  refine zj_iload_n (zdk ttX9_goAboard 39 rfl rfl) rfl ?_
  refine zj_callV (av := [.inl (h16.2 (c + 1) 12), .inl 0, .inl p1, .inl v15]) (st := []) (zdk ttX9_goAboard 40 rfl rfl) mb_X0_write mv_RX9_162 (ci := 0) rfl rfl (k_9_22 s23 hc) rfl rfl (Nat.le_of_ble_eq_true rfl) (s_X0_write l h21 (c + 22) (h16.2 (c + 1) 12) 0 p1 v15 s23 (zs_9_22 hc) (by omega) (by omega) (by omega) (by omega)) (rm_ok (by decide) (by decide)) (zq_v fun h27 q25 => ?_)
  exact zj_vret rfl (zdk ttX9_goAboard 41 rfl rfl) (Nat.le_refl _) (Nat.le_refl _) ⟨rfl, q25⟩

abbrev tX9_comeBack : List (Nat × Instr × Nat) := [(0, .aload_n 0, 1), (1, .getfield 12, 3), (4, .dup, 1), (5, .getfield 153, 3), (8, .iconst 1, 1), (9, .iload_n 1, 1), (10, .ishl, 1), (11, .ior, 1), (12, .putfield 153, 3), (15, .aload_n 0, 1), (16, .iconst 1, 1), (17, .iload_n 1, 1), (18, .invokevirtual 145, 3), (21, .istore_n 2, 1), (22, .aload_n 0, 1), (23, .getfield 12, 3), (26, .dup, 1), (27, .getfield 159, 3), (30, .iload_n 2, 1), (31, .isub, 1), (32, .putfield 159, 3), (35, .aload_n 0, 1), (36, .getfield 45, 3), (39, .aload_n 0, 1), (40, .getfield 12, 3), (43, .getfield 83, 3), (46, .iconst 1, 1), (47, .iload_n 1, 1), (48, .iload_n 2, 1), (49, .invokevirtual 162, 3), (52, .return_, 1)]
theorem ttX9_comeBack : zdt cX9_comeBack tX9_comeBack = true := by decide +kernel
abbrev q_X9_comeBack (h : zM) (c : Int) (p1 : Int) : Option zV → zM → Prop := zqv fun h' => okC h'
set_option maxRecDepth 100000 in
set_option maxHeartbeats 4000000 in
theorem s_X9_comeBack (l : Launch) (h : zM) (c : Int) (p1 : Int) (s0 : okC h) (hc : zWd c) (b_p1 : 0 ≤ p1 ∧ p1 ≤ 17) : zT shC l yX9_comeBack cX9_comeBack 3 none (rmL 5) 0 0 [.inr c, .inl p1] h (q_X9_comeBack h c p1) := by
  refine zT_of (by decide +kernel) (L0 := [some (.inr c), some (.inl p1), none]) rfl (Nat.le_of_ble_eq_true rfl) ?_
  have b1 := zWd_b hc
  refine zj_aload_n (zdk ttX9_comeBack 0 rfl rfl) rfl (by omega) ?_
  refine zj_getr (r := (c + 1)) (zdk ttX9_comeBack 1 rfl rfl) zf_RX9_12 rfl (k_9_0 s0 hc) (rf_9_0_0 s0 hc) ?_
  refine zj_dup (zdk ttX9_comeBack 2 rfl rfl) ?_
  have b2 : -2147483648 ≤ (h.2 (c + 1) 4) ∧ (h.2 (c + 1) 4) ≤ 2147483647 := fb_9_1_4 s0 hc
  refine zj_geti (v := (h.2 (c + 1) 4)) (zdk ttX9_comeBack 3 rfl rfl) zf_RX9_153 rfl (k_9_1 s0 hc) rfl ?_
  refine zj_iconst (zdk ttX9_comeBack 4 rfl rfl) ?_
  refine zj_iload_n (zdk ttX9_comeBack 5 rfl rfl) rfl ?_
  refine zj_ishl (zdk ttX9_comeBack 6 rfl rfl) ?_
  have b3 := zshl_1 (n := p1) (a := 0) (b := 17) (lo := 1) (hi := 131072) (by omega) (by decide) (by decide) (by decide)
  refine zj_ior (zdk ttX9_comeBack 7 rfl rfl) ?_
  have b4 := zor_in (h.2 (c + 1) 4) (zshl 1 p1)
  refine zj_puti (zdk ttX9_comeBack 8 rfl rfl) zf_RX9_153 rfl (k_9_1 s0 hc) (Or.inl zw_RX9_153) (k2 := 4) rfl (fun h5 e6 => ?_)
  refine zj_aload_n (zdk ttX9_comeBack 9 rfl rfl) rfl (by omega) ?_
  refine zj_iconst (zdk ttX9_comeBack 10 rfl rfl) ?_
  refine zj_iload_n (zdk ttX9_comeBack 11 rfl rfl) rfl ?_
  have s7 : okC h5 := fw_9_1_4 s0 hc e6 (by omega)
  refine zj_callV (av := [.inl 1, .inl p1]) (st := []) (zdk ttX9_comeBack 12 rfl rfl) mb_X9_tells mv_RX9_145 (ci := 9) rfl rfl (k_9_0 s7 hc) rfl rfl (Nat.le_of_ble_eq_true rfl) (s_X9_tells l h5 c 1 p1 s7 hc (by omega) (by omega)) (rm_ok (by decide) (by decide)) (zq_i fun v9 h10 q8 => ?_)
  obtain ⟨b11, s12⟩ := q8
  refine zj_istore_n (L' := [some (.inr c), some (.inl p1), some (.inl v9)]) (zdk ttX9_comeBack 13 rfl rfl) (by decide) rfl ?_
  refine zj_aload_n (zdk ttX9_comeBack 14 rfl rfl) rfl (by omega) ?_
  refine zj_getr (r := (c + 1)) (zdk ttX9_comeBack 15 rfl rfl) zf_RX9_12 rfl (k_9_0 s12 hc) (rf_9_0_0 s12 hc) ?_
  refine zj_dup (zdk ttX9_comeBack 16 rfl rfl) ?_
  have b13 : -2147483648 ≤ (h10.2 (c + 1) 7) ∧ (h10.2 (c + 1) 7) ≤ 2147483647 := fb_9_1_7 s12 hc
  refine zj_geti (v := (h10.2 (c + 1) 7)) (zdk ttX9_comeBack 17 rfl rfl) zf_RX9_159 rfl (k_9_1 s12 hc) rfl ?_
  refine zj_iload_n (zdk ttX9_comeBack 18 rfl rfl) rfl ?_
  refine zj_isub (zdk ttX9_comeBack 19 rfl rfl) ?_
  refine zj_wrap ?_
  have b14 := zwp_in ((h10.2 (c + 1) 7) - v9)
  refine zj_puti (zdk ttX9_comeBack 20 rfl rfl) zf_RX9_159 rfl (k_9_1 s12 hc) (Or.inl zw_RX9_159) (k2 := 7) rfl (fun h15 e16 => ?_)
  refine zj_aload_n (zdk ttX9_comeBack 21 rfl rfl) rfl (by omega) ?_
  have s17 : okC h15 := fw_9_1_7 s12 hc e16 (by omega)
  refine zj_getr (r := (c + 22)) (zdk ttX9_comeBack 22 rfl rfl) zf_RX9_45 rfl (k_9_0 s17 hc) (rf_9_0_5 s17 hc) ?_
  refine zj_aload_n (zdk ttX9_comeBack 23 rfl rfl) rfl (by omega) ?_
  refine zj_getr (r := (c + 1)) (zdk ttX9_comeBack 24 rfl rfl) zf_RX9_12 rfl (k_9_0 s17 hc) (rf_9_0_0 s17 hc) ?_
  have b18 : -2147483648 ≤ (h10.2 (c + 1) 12) ∧ (h10.2 (c + 1) 12) ≤ 2147483647 := fb_9_1_12 s12 hc
  refine zj_geti (v := (h10.2 (c + 1) 12)) (zdk ttX9_comeBack 25 rfl rfl) zf_RX9_83 rfl (k_9_1 s17 hc) (zwr_r e16 (by omega)) ?_
  refine zj_iconst (zdk ttX9_comeBack 26 rfl rfl) ?_
  refine zj_iload_n (zdk ttX9_comeBack 27 rfl rfl) rfl ?_
  refine zj_iload_n (zdk ttX9_comeBack 28 rfl rfl) rfl ?_
  refine zj_callV (av := [.inl (h10.2 (c + 1) 12), .inl 1, .inl p1, .inl v9]) (st := []) (zdk ttX9_comeBack 29 rfl rfl) mb_X0_write mv_RX9_162 (ci := 0) rfl rfl (k_9_22 s17 hc) rfl rfl (Nat.le_of_ble_eq_true rfl) (s_X0_write l h15 (c + 22) (h10.2 (c + 1) 12) 1 p1 v9 s17 (zs_9_22 hc) (by omega) (by omega) (by omega) (by omega)) (rm_ok (by decide) (by decide)) (zq_v fun h21 q19 => ?_)
  exact zj_vret rfl (zdk ttX9_comeBack 30 rfl rfl) (Nat.le_refl _) (Nat.le_refl _) ⟨rfl, q19⟩

abbrev tX9_sailOut : List (Nat × Instr × Nat) := [(0, .iload_n 1, 1), (1, .istore_n 3, 1), (2, .iconst 0, 1), (3, .istore 4, 2), (5, .iload 4, 2), (7, .aload_n 0, 1), (8, .getfield 12, 3), (11, .getfield 121, 3), (14, .if_icmp .ge 120, 3), (17, .iload_n 3, 1), (18, .ifCond .le 116, 3), (21, .aload_n 0, 1), (22, .getfield 12, 3), (25, .iload 4, 2), (27, .invokevirtual 124, 3), (30, .ifCond .eq 98, 3), (33, .aload_n 0, 1), (34, .getfield 12, 3), (37, .iload 4, 2), (39, .invokevirtual 128, 3), (42, .ifCond .ne 86, 3), (45, .aload_n 0, 1), (46, .iconst 0, 1), (47, .iload 4, 2), (49, .iload_n 2, 1), (50, .invokevirtual 131, 3), (53, .ifCond .ne 6, 3), (56, .goto 72, 3), (59, .aload_n 0, 1), (60, .iload 4, 2), (62, .invokevirtual 135, 3), (65, .iinc 3 (-1), 3), (68, .iconst 0, 1), (69, .istore 5, 2), (71, .iload 5, 2), (73, .aload_n 0, 1), (74, .getfield 12, 3), (77, .getfield 121, 3), (80, .if_icmp .ge 48, 3), (83, .iload_n 3, 1), (84, .ifCond .le 44, 3), (87, .aload_n 0, 1), (88, .getfield 38, 3), (91, .iload 4, 2), (93, .iload 5, 2), (95, .invokevirtual 138, 3), (98, .ifCond .eq 24, 3), (101, .aload_n 0, 1), (102, .getfield 12, 3), (105, .iload 5, 2), (107, .invokevirtual 124, 3), (110, .ifCond .eq 12, 3), (113, .aload_n 0, 1), (114, .iload 5, 2), (116, .invokevirtual 135, 3), (119, .iinc 3 (-1), 3), (122, .iinc 5 1, 3), (125, .goto (-54), 3), (128, .iinc 4 1, 3), (131, .goto (-126), 3), (134, .return_, 1)]
theorem ttX9_sailOut : zdt cX9_sailOut tX9_sailOut = true := by decide +kernel
abbrev q_X9_sailOut (h : zM) (c : Int) (p1 : Int) (p2 : Int) : Option zV → zM → Prop := zqv fun h' => okC h'
set_option maxRecDepth 100000 in
set_option maxHeartbeats 4000000 in
theorem s_X9_sailOut (l : Launch) (h : zM) (c : Int) (p1 : Int) (p2 : Int) (s0 : okC h) (hc : zWd c) (b_p1 : (-2147483648) ≤ p1 ∧ p1 ≤ 2147483647) (b_p2 : 0 ≤ p2 ∧ p2 ≤ 1) : zT shC l yX9_sailOut cX9_sailOut 6 none (rmL 6) 0 0 [.inr c, .inl p1, .inl p2] h (q_X9_sailOut h c p1 p2) := by
  refine zT_of (by decide +kernel) (L0 := [some (.inr c), some (.inl p1), some (.inl p2), none, none, none]) rfl (Nat.le_of_ble_eq_true rfl) ?_
  have b1 := zWd_b hc
  refine zj_iload_n (zdk ttX9_sailOut 0 rfl rfl) rfl ?_
  refine zj_istore_n (L' := [some (.inr c), some (.inl p1), some (.inl p2), some (.inl p1), none, none]) (zdk ttX9_sailOut 1 rfl rfl) (by decide) rfl ?_
  refine zj_iconst (zdk ttX9_sailOut 2 rfl rfl) ?_
  refine zj_istore (L' := [some (.inr c), some (.inl p1), some (.inl p2), some (.inl p1), some (.inl 0), none]) (zdk ttX9_sailOut 3 rfl rfl) (by decide) rfl ?_
  have lp1110 : ∀ (n : Nat) (x2 x3 : Int) (h4 : zM), (-2147483648 ≤ x2 ∧ x2 ≤ 2147483647) → (0 ≤ x3 ∧ x3 ≤ 18) → okC h4 → (19 - x3).toNat < n → zJ shC l yX9_sailOut cX9_sailOut 6 none (rmL 6) 0 0 (q_X9_sailOut h c p1 p2) 0 0 5 [some (.inr c), some (.inl p1), some (.inl p2), some (.inl x2), some (.inl x3), none] [] h4 := by
    intro n
    induction n with
    | zero => intro x2 x3 h4 b1111 b1112 s5 m1113; exact absurd m1113 (Nat.not_lt_zero _)
    | succ n ih1114 =>
      intro x2 x3 h4 b1111 b1112 s5 m1113
      refine zj_iload (zdk ttX9_sailOut 4 rfl rfl) rfl ?_
      refine zj_aload_n (zdk ttX9_sailOut 5 rfl rfl) rfl (by omega) ?_
      refine zj_getr (r := (c + 1)) (zdk ttX9_sailOut 6 rfl rfl) zf_RX9_12 rfl (k_9_0 s5 hc) (rf_9_0_0 s5 hc) ?_
      have b1115 : 0 ≤ (h4.2 (c + 1) 3) ∧ (h4.2 (c + 1) 3) ≤ 18 := fb_9_1_3 s5 hc
      refine zj_geti (v := (h4.2 (c + 1) 3)) (zdk ttX9_sailOut 7 rfl rfl) zf_RX9_121 rfl (k_9_1 s5 hc) rfl ?_
      refine zj_icmp_ge (t := 134) (zdk ttX9_sailOut 8 rfl rfl) (by decide) (by omega) (by omega) (fun c1116 => ?_) (fun c1116 => ?_)
      · exact zj_vret rfl (zdk ttX9_sailOut 60 rfl rfl) (Nat.le_refl _) (Nat.le_refl _) ⟨rfl, s5⟩
      · refine zj_iload_n (zdk ttX9_sailOut 9 rfl rfl) rfl ?_
        refine zj_if_le (t := 134) (zdk ttX9_sailOut 10 rfl rfl) (by decide) (by omega) (fun c1117 => ?_) (fun c1117 => ?_)
        · exact zj_vret rfl (zdk ttX9_sailOut 60 rfl rfl) (Nat.le_refl _) (Nat.le_refl _) ⟨rfl, s5⟩
        · refine zj_aload_n (zdk ttX9_sailOut 11 rfl rfl) rfl (by omega) ?_
          refine zj_getr (r := (c + 1)) (zdk ttX9_sailOut 12 rfl rfl) zf_RX9_12 rfl (k_9_0 s5 hc) (rf_9_0_0 s5 hc) ?_
          refine zj_iload (zdk ttX9_sailOut 13 rfl rfl) rfl ?_
          refine zj_callV (av := [.inl x3]) (st := []) (zdk ttX9_sailOut 14 rfl rfl) mb_X1_isHere mv_RX9_124 (ci := 1) rfl rfl (k_9_1 s5 hc) rfl rfl (Nat.le_of_ble_eq_true rfl) (s_X1_isHere l h4 (c + 1) x3 s5 (zs_9_1 hc) (by omega)) (rm_ok (by decide) (by decide)) (zq_i fun v1119 h1120 q1118 => ?_)
          obtain ⟨rfl, b1122, ⟨rfl, b1121⟩ | ⟨rfl, b1121⟩⟩ := q1118
          · refine zj_if_eq (t := 128) (zdk ttX9_sailOut 15 rfl rfl) (by decide) (by decide) (fun c1123 => ?_) (fun c1123 => ?_)
            · refine zj_iinc (L' := [some (.inr c), some (.inl p1), some (.inl p2), some (.inl x2), some (.inl (x3 + 1)), none]) (zdk ttX9_sailOut 58 rfl rfl) rfl (by decide) rfl ?_
              refine zj_goto (t := 5) (zdk ttX9_sailOut 59 rfl rfl) (by decide) ?_
              exact ih1114  x2 (x3 + 1) h4 (by omega) (by omega) s5 (by omega)
            · exact absurd c1123 (by omega)
          · refine zj_if_eq (t := 128) (zdk ttX9_sailOut 15 rfl rfl) (by decide) (by decide) (fun c1124 => ?_) (fun c1124 => ?_)
            · exact absurd c1124 (by omega)
            · refine zj_aload_n (zdk ttX9_sailOut 16 rfl rfl) rfl (by omega) ?_
              refine zj_getr (r := (c + 1)) (zdk ttX9_sailOut 17 rfl rfl) zf_RX9_12 rfl (k_9_0 s5 hc) (rf_9_0_0 s5 hc) ?_
              refine zj_iload (zdk ttX9_sailOut 18 rfl rfl) rfl ?_
              refine zj_callV (av := [.inl x3]) (st := []) (zdk ttX9_sailOut 19 rfl rfl) mb_X1_isBegged mv_RX9_128 (ci := 1) rfl rfl (k_9_1 s5 hc) rfl rfl (Nat.le_of_ble_eq_true rfl) (s_X1_isBegged l h4 (c + 1) x3 s5 (zs_9_1 hc) (by omega)) (rm_ok (by decide) (by decide)) (zq_i fun v1126 h1127 q1125 => ?_)
              obtain ⟨rfl, b1129, ⟨rfl, b1128⟩ | ⟨rfl, b1128⟩⟩ := q1125
              · refine zj_if_ne (t := 128) (zdk ttX9_sailOut 20 rfl rfl) (by decide) (by decide) (fun c1130 => ?_) (fun c1130 => ?_)
                · exact absurd c1130 (by omega)
                · refine zj_aload_n (zdk ttX9_sailOut 21 rfl rfl) rfl (by omega) ?_
                  refine zj_iconst (zdk ttX9_sailOut 22 rfl rfl) ?_
                  refine zj_iload (zdk ttX9_sailOut 23 rfl rfl) rfl ?_
                  refine zj_iload_n (zdk ttX9_sailOut 24 rfl rfl) rfl ?_
                  refine zj_callV (av := [.inl 0, .inl x3, .inl p2]) (st := []) (zdk ttX9_sailOut 25 rfl rfl) mb_X9_isWilling mv_RX9_131 (ci := 9) rfl rfl (k_9_0 s5 hc) rfl rfl (Nat.le_of_ble_eq_true rfl) (s_X9_isWilling l h4 c 0 x3 p2 s5 hc (by omega) (by omega) (by omega)) (rm_ok (by decide) (by decide)) (zq_i fun v1132 h1133 q1131 => ?_)
                  obtain ⟨b1134, s1135⟩ := q1131
                  refine zj_if_ne (t := 59) (zdk ttX9_sailOut 26 rfl rfl) (by decide) (by omega) (fun c1136 => ?_) (fun c1136 => ?_)
                  · refine zj_aload_n (zdk ttX9_sailOut 28 rfl rfl) rfl (by omega) ?_
                    refine zj_iload (zdk ttX9_sailOut 29 rfl rfl) rfl ?_
                    refine zj_callV (av := [.inl x3]) (st := []) (zdk ttX9_sailOut 30 rfl rfl) mb_X9_goAboard mv_RX9_135 (ci := 9) rfl rfl (k_9_0 s1135 hc) rfl rfl (Nat.le_of_ble_eq_true rfl) (s_X9_goAboard l h1133 c x3 s1135 hc (by omega)) (rm_ok (by decide) (by decide)) (zq_v fun h1139 q1137 => ?_)
                    refine zj_iinc (L' := [some (.inr c), some (.inl p1), some (.inl p2), some (.inl (x2 + (-1))), some (.inl x3), none]) (zdk ttX9_sailOut 31 rfl rfl) rfl (by decide) rfl ?_
                    refine zj_iconst (zdk ttX9_sailOut 32 rfl rfl) ?_
                    refine zj_istore (L' := [some (.inr c), some (.inl p1), some (.inl p2), some (.inl (x2 + (-1))), some (.inl x3), some (.inl 0)]) (zdk ttX9_sailOut 33 rfl rfl) (by decide) rfl ?_
                    have lp1272 : ∀ (n : Nat) (x1142 x1143 : Int) (h1144 : zM), (0 ≤ x1142 ∧ x1142 ≤ 2147483646) → (0 ≤ x1143 ∧ x1143 ≤ 18) → okC h1144 → (19 - x1143).toNat < n → zJ shC l yX9_sailOut cX9_sailOut 6 none (rmL 6) 0 0 (q_X9_sailOut h c p1 p2) 0 0 71 [some (.inr c), some (.inl p1), some (.inl p2), some (.inl x1142), some (.inl x3), some (.inl x1143)] [] h1144 := by
                      intro n
                      induction n with
                      | zero => intro x1142 x1143 h1144 b1273 b1274 s1145 m1275; exact absurd m1275 (Nat.not_lt_zero _)
                      | succ n ih1276 =>
                        intro x1142 x1143 h1144 b1273 b1274 s1145 m1275
                        refine zj_iload (zdk ttX9_sailOut 34 rfl rfl) rfl ?_
                        refine zj_aload_n (zdk ttX9_sailOut 35 rfl rfl) rfl (by omega) ?_
                        refine zj_getr (r := (c + 1)) (zdk ttX9_sailOut 36 rfl rfl) zf_RX9_12 rfl (k_9_0 s1145 hc) (rf_9_0_0 s1145 hc) ?_
                        have b1277 : 0 ≤ (h1144.2 (c + 1) 3) ∧ (h1144.2 (c + 1) 3) ≤ 18 := fb_9_1_3 s1145 hc
                        refine zj_geti (v := (h1144.2 (c + 1) 3)) (zdk ttX9_sailOut 37 rfl rfl) zf_RX9_121 rfl (k_9_1 s1145 hc) rfl ?_
                        refine zj_icmp_ge (t := 128) (zdk ttX9_sailOut 38 rfl rfl) (by decide) (by omega) (by omega) (fun c1278 => ?_) (fun c1278 => ?_)
                        · refine zj_iinc (L' := [some (.inr c), some (.inl p1), some (.inl p2), some (.inl x1142), some (.inl (x3 + 1)), some (.inl x1143)]) (zdk ttX9_sailOut 58 rfl rfl) rfl (by decide) rfl ?_
                          refine zj_goto (t := 5) (zdk ttX9_sailOut 59 rfl rfl) (by decide) ?_
                          refine zj_kill (k := 5) (L' := [some (.inr c), some (.inl p1), some (.inl p2), some (.inl x1142), some (.inl (x3 + 1)), none]) rfl ?_
                          exact ih1114  x1142 (x3 + 1) h1144 (by omega) (by omega) s1145 (by omega)
                        · refine zj_iload_n (zdk ttX9_sailOut 39 rfl rfl) rfl ?_
                          refine zj_if_le (t := 128) (zdk ttX9_sailOut 40 rfl rfl) (by decide) (by omega) (fun c1279 => ?_) (fun c1279 => ?_)
                          · refine zj_iinc (L' := [some (.inr c), some (.inl p1), some (.inl p2), some (.inl x1142), some (.inl (x3 + 1)), some (.inl x1143)]) (zdk ttX9_sailOut 58 rfl rfl) rfl (by decide) rfl ?_
                            refine zj_goto (t := 5) (zdk ttX9_sailOut 59 rfl rfl) (by decide) ?_
                            refine zj_kill (k := 5) (L' := [some (.inr c), some (.inl p1), some (.inl p2), some (.inl x1142), some (.inl (x3 + 1)), none]) rfl ?_
                            exact ih1114  x1142 (x3 + 1) h1144 (by omega) (by omega) s1145 (by omega)
                          · refine zj_aload_n (zdk ttX9_sailOut 41 rfl rfl) rfl (by omega) ?_
                            refine zj_getr (r := (c + 20)) (zdk ttX9_sailOut 42 rfl rfl) zf_RX9_38 rfl (k_9_0 s1145 hc) (rf_9_0_4 s1145 hc) ?_
                            refine zj_iload (zdk ttX9_sailOut 43 rfl rfl) rfl ?_
                            refine zj_iload (zdk ttX9_sailOut 44 rfl rfl) rfl ?_
                            refine zj_callV (av := [.inl x3, .inl x1143]) (st := []) (zdk ttX9_sailOut 45 rfl rfl) mb_X2_areKin mv_RX9_138 (ci := 2) rfl rfl (k_9_20 s1145 hc) rfl rfl (Nat.le_of_ble_eq_true rfl) (s_X2_areKin l h1144 (c + 20) x3 x1143 s1145 (zs_9_20 hc) (by omega) (by omega)) (rm_ok (by decide) (by decide)) (zq_i fun v1281 h1282 q1280 => ?_)
                            obtain ⟨rfl, ⟨rfl, b1283⟩ | ⟨rfl, b1283⟩⟩ := q1280
                            · refine zj_if_eq (t := 122) (zdk ttX9_sailOut 46 rfl rfl) (by decide) (by decide) (fun c1284 => ?_) (fun c1284 => ?_)
                              · refine zj_iinc (L' := [some (.inr c), some (.inl p1), some (.inl p2), some (.inl x1142), some (.inl x3), some (.inl (x1143 + 1))]) (zdk ttX9_sailOut 56 rfl rfl) rfl (by decide) rfl ?_
                                refine zj_goto (t := 71) (zdk ttX9_sailOut 57 rfl rfl) (by decide) ?_
                                exact ih1276  x1142 (x1143 + 1) h1144 (by omega) (by omega) s1145 (by omega)
                              · exact absurd c1284 (by omega)
                            · refine zj_if_eq (t := 122) (zdk ttX9_sailOut 46 rfl rfl) (by decide) (by decide) (fun c1285 => ?_) (fun c1285 => ?_)
                              · exact absurd c1285 (by omega)
                              · refine zj_aload_n (zdk ttX9_sailOut 47 rfl rfl) rfl (by omega) ?_
                                refine zj_getr (r := (c + 1)) (zdk ttX9_sailOut 48 rfl rfl) zf_RX9_12 rfl (k_9_0 s1145 hc) (rf_9_0_0 s1145 hc) ?_
                                refine zj_iload (zdk ttX9_sailOut 49 rfl rfl) rfl ?_
                                refine zj_callV (av := [.inl x1143]) (st := []) (zdk ttX9_sailOut 50 rfl rfl) mb_X1_isHere mv_RX9_124 (ci := 1) rfl rfl (k_9_1 s1145 hc) rfl rfl (Nat.le_of_ble_eq_true rfl) (s_X1_isHere l h1144 (c + 1) x1143 s1145 (zs_9_1 hc) (by omega)) (rm_ok (by decide) (by decide)) (zq_i fun v1287 h1288 q1286 => ?_)
                                obtain ⟨rfl, b1290, ⟨rfl, b1289⟩ | ⟨rfl, b1289⟩⟩ := q1286
                                · refine zj_if_eq (t := 122) (zdk ttX9_sailOut 51 rfl rfl) (by decide) (by decide) (fun c1291 => ?_) (fun c1291 => ?_)
                                  · refine zj_iinc (L' := [some (.inr c), some (.inl p1), some (.inl p2), some (.inl x1142), some (.inl x3), some (.inl (x1143 + 1))]) (zdk ttX9_sailOut 56 rfl rfl) rfl (by decide) rfl ?_
                                    refine zj_goto (t := 71) (zdk ttX9_sailOut 57 rfl rfl) (by decide) ?_
                                    exact ih1276  x1142 (x1143 + 1) h1144 (by omega) (by omega) s1145 (by omega)
                                  · exact absurd c1291 (by omega)
                                · refine zj_if_eq (t := 122) (zdk ttX9_sailOut 51 rfl rfl) (by decide) (by decide) (fun c1292 => ?_) (fun c1292 => ?_)
                                  · exact absurd c1292 (by omega)
                                  · refine zj_aload_n (zdk ttX9_sailOut 52 rfl rfl) rfl (by omega) ?_
                                    refine zj_iload (zdk ttX9_sailOut 53 rfl rfl) rfl ?_
                                    refine zj_callV (av := [.inl x1143]) (st := []) (zdk ttX9_sailOut 54 rfl rfl) mb_X9_goAboard mv_RX9_135 (ci := 9) rfl rfl (k_9_0 s1145 hc) rfl rfl (Nat.le_of_ble_eq_true rfl) (s_X9_goAboard l h1144 c x1143 s1145 hc (by omega)) (rm_ok (by decide) (by decide)) (zq_v fun h1295 q1293 => ?_)
                                    refine zj_iinc (L' := [some (.inr c), some (.inl p1), some (.inl p2), some (.inl (x1142 + (-1))), some (.inl x3), some (.inl x1143)]) (zdk ttX9_sailOut 55 rfl rfl) rfl (by decide) rfl ?_
                                    refine zj_iinc (L' := [some (.inr c), some (.inl p1), some (.inl p2), some (.inl (x1142 + (-1))), some (.inl x3), some (.inl (x1143 + 1))]) (zdk ttX9_sailOut 56 rfl rfl) rfl (by decide) rfl ?_
                                    refine zj_goto (t := 71) (zdk ttX9_sailOut 57 rfl rfl) (by decide) ?_
                                    exact ih1276  (x1142 + (-1)) (x1143 + 1) h1295 (by omega) (by omega) q1293 (by omega)
                    exact lp1272 _ (x2 + (-1)) 0 h1139 (by omega) (by omega) q1137 (Nat.lt_succ_self _)
                  · refine zj_goto (t := 128) (zdk ttX9_sailOut 27 rfl rfl) (by decide) ?_
                    refine zj_iinc (L' := [some (.inr c), some (.inl p1), some (.inl p2), some (.inl x2), some (.inl (x3 + 1)), none]) (zdk ttX9_sailOut 58 rfl rfl) rfl (by decide) rfl ?_
                    refine zj_goto (t := 5) (zdk ttX9_sailOut 59 rfl rfl) (by decide) ?_
                    exact ih1114  x2 (x3 + 1) h1133 (by omega) (by omega) s1135 (by omega)
              · refine zj_if_ne (t := 128) (zdk ttX9_sailOut 20 rfl rfl) (by decide) (by decide) (fun c1298 => ?_) (fun c1298 => ?_)
                · refine zj_iinc (L' := [some (.inr c), some (.inl p1), some (.inl p2), some (.inl x2), some (.inl (x3 + 1)), none]) (zdk ttX9_sailOut 58 rfl rfl) rfl (by decide) rfl ?_
                  refine zj_goto (t := 5) (zdk ttX9_sailOut 59 rfl rfl) (by decide) ?_
                  exact ih1114  x2 (x3 + 1) h4 (by omega) (by omega) s5 (by omega)
                · exact absurd c1298 (by omega)
  exact lp1110 _ p1 0 h (by omega) (by omega) s0 (Nat.lt_succ_self _)

abbrev tX9_sailBack : List (Nat × Instr × Nat) := [(0, .iload_n 1, 1), (1, .istore_n 3, 1), (2, .iconst 0, 1), (3, .istore 4, 2), (5, .iload 4, 2), (7, .aload_n 0, 1), (8, .getfield 12, 3), (11, .getfield 121, 3), (14, .if_icmp .ge 45, 3), (17, .iload_n 3, 1), (18, .ifCond .le 41, 3), (21, .aload_n 0, 1), (22, .getfield 12, 3), (25, .iload 4, 2), (27, .invokevirtual 124, 3), (30, .ifCond .ne 23, 3), (33, .aload_n 0, 1), (34, .iconst 2, 1), (35, .iload 4, 2), (37, .iload_n 2, 1), (38, .invokevirtual 131, 3), (41, .ifCond .eq 12, 3), (44, .aload_n 0, 1), (45, .iload 4, 2), (47, .invokevirtual 142, 3), (50, .iinc 3 (-1), 3), (53, .iinc 4 1, 3), (56, .goto (-51), 3), (59, .return_, 1)]
theorem ttX9_sailBack : zdt cX9_sailBack tX9_sailBack = true := by decide +kernel
abbrev q_X9_sailBack (h : zM) (c : Int) (p1 : Int) (p2 : Int) : Option zV → zM → Prop := zqv fun h' => okC h'
set_option maxRecDepth 100000 in
set_option maxHeartbeats 4000000 in
theorem s_X9_sailBack (l : Launch) (h : zM) (c : Int) (p1 : Int) (p2 : Int) (s0 : okC h) (hc : zWd c) (b_p1 : (-2147483648) ≤ p1 ∧ p1 ≤ 2147483647) (b_p2 : 0 ≤ p2 ∧ p2 ≤ 1) : zT shC l yX9_sailBack cX9_sailBack 5 none (rmL 6) 0 0 [.inr c, .inl p1, .inl p2] h (q_X9_sailBack h c p1 p2) := by
  refine zT_of (by decide +kernel) (L0 := [some (.inr c), some (.inl p1), some (.inl p2), none, none]) rfl (Nat.le_of_ble_eq_true rfl) ?_
  have b1 := zWd_b hc
  refine zj_iload_n (zdk ttX9_sailBack 0 rfl rfl) rfl ?_
  refine zj_istore_n (L' := [some (.inr c), some (.inl p1), some (.inl p2), some (.inl p1), none]) (zdk ttX9_sailBack 1 rfl rfl) (by decide) rfl ?_
  refine zj_iconst (zdk ttX9_sailBack 2 rfl rfl) ?_
  refine zj_istore (L' := [some (.inr c), some (.inl p1), some (.inl p2), some (.inl p1), some (.inl 0)]) (zdk ttX9_sailBack 3 rfl rfl) (by decide) rfl ?_
  have lp132 : ∀ (n : Nat) (x2 x3 : Int) (h4 : zM), (-2147483648 ≤ x2 ∧ x2 ≤ 2147483647) → (0 ≤ x3 ∧ x3 ≤ 18) → okC h4 → (19 - x3).toNat < n → zJ shC l yX9_sailBack cX9_sailBack 5 none (rmL 6) 0 0 (q_X9_sailBack h c p1 p2) 0 0 5 [some (.inr c), some (.inl p1), some (.inl p2), some (.inl x2), some (.inl x3)] [] h4 := by
    intro n
    induction n with
    | zero => intro x2 x3 h4 b133 b134 s5 m135; exact absurd m135 (Nat.not_lt_zero _)
    | succ n ih136 =>
      intro x2 x3 h4 b133 b134 s5 m135
      refine zj_iload (zdk ttX9_sailBack 4 rfl rfl) rfl ?_
      refine zj_aload_n (zdk ttX9_sailBack 5 rfl rfl) rfl (by omega) ?_
      refine zj_getr (r := (c + 1)) (zdk ttX9_sailBack 6 rfl rfl) zf_RX9_12 rfl (k_9_0 s5 hc) (rf_9_0_0 s5 hc) ?_
      have b137 : 0 ≤ (h4.2 (c + 1) 3) ∧ (h4.2 (c + 1) 3) ≤ 18 := fb_9_1_3 s5 hc
      refine zj_geti (v := (h4.2 (c + 1) 3)) (zdk ttX9_sailBack 7 rfl rfl) zf_RX9_121 rfl (k_9_1 s5 hc) rfl ?_
      refine zj_icmp_ge (t := 59) (zdk ttX9_sailBack 8 rfl rfl) (by decide) (by omega) (by omega) (fun c138 => ?_) (fun c138 => ?_)
      · exact zj_vret rfl (zdk ttX9_sailBack 28 rfl rfl) (Nat.le_refl _) (Nat.le_refl _) ⟨rfl, s5⟩
      · refine zj_iload_n (zdk ttX9_sailBack 9 rfl rfl) rfl ?_
        refine zj_if_le (t := 59) (zdk ttX9_sailBack 10 rfl rfl) (by decide) (by omega) (fun c139 => ?_) (fun c139 => ?_)
        · exact zj_vret rfl (zdk ttX9_sailBack 28 rfl rfl) (Nat.le_refl _) (Nat.le_refl _) ⟨rfl, s5⟩
        · refine zj_aload_n (zdk ttX9_sailBack 11 rfl rfl) rfl (by omega) ?_
          refine zj_getr (r := (c + 1)) (zdk ttX9_sailBack 12 rfl rfl) zf_RX9_12 rfl (k_9_0 s5 hc) (rf_9_0_0 s5 hc) ?_
          refine zj_iload (zdk ttX9_sailBack 13 rfl rfl) rfl ?_
          refine zj_callV (av := [.inl x3]) (st := []) (zdk ttX9_sailBack 14 rfl rfl) mb_X1_isHere mv_RX9_124 (ci := 1) rfl rfl (k_9_1 s5 hc) rfl rfl (Nat.le_of_ble_eq_true rfl) (s_X1_isHere l h4 (c + 1) x3 s5 (zs_9_1 hc) (by omega)) (rm_ok (by decide) (by decide)) (zq_i fun v141 h142 q140 => ?_)
          obtain ⟨rfl, b144, ⟨rfl, b143⟩ | ⟨rfl, b143⟩⟩ := q140
          · refine zj_if_ne (t := 53) (zdk ttX9_sailBack 15 rfl rfl) (by decide) (by decide) (fun c145 => ?_) (fun c145 => ?_)
            · exact absurd c145 (by omega)
            · refine zj_aload_n (zdk ttX9_sailBack 16 rfl rfl) rfl (by omega) ?_
              refine zj_iconst (zdk ttX9_sailBack 17 rfl rfl) ?_
              refine zj_iload (zdk ttX9_sailBack 18 rfl rfl) rfl ?_
              refine zj_iload_n (zdk ttX9_sailBack 19 rfl rfl) rfl ?_
              refine zj_callV (av := [.inl 2, .inl x3, .inl p2]) (st := []) (zdk ttX9_sailBack 20 rfl rfl) mb_X9_isWilling mv_RX9_131 (ci := 9) rfl rfl (k_9_0 s5 hc) rfl rfl (Nat.le_of_ble_eq_true rfl) (s_X9_isWilling l h4 c 2 x3 p2 s5 hc (by omega) (by omega) (by omega)) (rm_ok (by decide) (by decide)) (zq_i fun v147 h148 q146 => ?_)
              obtain ⟨b149, s150⟩ := q146
              refine zj_if_eq (t := 53) (zdk ttX9_sailBack 21 rfl rfl) (by decide) (by omega) (fun c151 => ?_) (fun c151 => ?_)
              · refine zj_iinc (L' := [some (.inr c), some (.inl p1), some (.inl p2), some (.inl x2), some (.inl (x3 + 1))]) (zdk ttX9_sailBack 26 rfl rfl) rfl (by decide) rfl ?_
                refine zj_goto (t := 5) (zdk ttX9_sailBack 27 rfl rfl) (by decide) ?_
                exact ih136  x2 (x3 + 1) h148 (by omega) (by omega) s150 (by omega)
              · refine zj_aload_n (zdk ttX9_sailBack 22 rfl rfl) rfl (by omega) ?_
                refine zj_iload (zdk ttX9_sailBack 23 rfl rfl) rfl ?_
                refine zj_callV (av := [.inl x3]) (st := []) (zdk ttX9_sailBack 24 rfl rfl) mb_X9_comeBack mv_RX9_142 (ci := 9) rfl rfl (k_9_0 s150 hc) rfl rfl (Nat.le_of_ble_eq_true rfl) (s_X9_comeBack l h148 c x3 s150 hc (by omega)) (rm_ok (by decide) (by decide)) (zq_v fun h154 q152 => ?_)
                refine zj_iinc (L' := [some (.inr c), some (.inl p1), some (.inl p2), some (.inl (x2 + (-1))), some (.inl x3)]) (zdk ttX9_sailBack 25 rfl rfl) rfl (by decide) rfl ?_
                refine zj_iinc (L' := [some (.inr c), some (.inl p1), some (.inl p2), some (.inl (x2 + (-1))), some (.inl (x3 + 1))]) (zdk ttX9_sailBack 26 rfl rfl) rfl (by decide) rfl ?_
                refine zj_goto (t := 5) (zdk ttX9_sailBack 27 rfl rfl) (by decide) ?_
                exact ih136  (x2 + (-1)) (x3 + 1) h154 (by omega) (by omega) q152 (by omega)
          · refine zj_if_ne (t := 53) (zdk ttX9_sailBack 15 rfl rfl) (by decide) (by decide) (fun c157 => ?_) (fun c157 => ?_)
            · refine zj_iinc (L' := [some (.inr c), some (.inl p1), some (.inl p2), some (.inl x2), some (.inl (x3 + 1))]) (zdk ttX9_sailBack 26 rfl rfl) rfl (by decide) rfl ?_
              refine zj_goto (t := 5) (zdk ttX9_sailBack 27 rfl rfl) (by decide) ?_
              exact ih136  x2 (x3 + 1) h4 (by omega) (by omega) s5 (by omega)
            · exact absurd c157 (by omega)
  exact lp132 _ p1 0 h (by omega) (by omega) s0 (Nat.lt_succ_self _)

abbrev tX9_runClock : List (Nat × Instr × Nat) := [(0, .sipush (-1440), 3), (3, .sipush 1440, 3), (6, .aload_n 0, 1), (7, .getfield 12, 3), (10, .getfield 159, 3), (13, .invokestatic 166, 3), (16, .invokestatic 171, 3), (19, .istore_n 1, 1), (20, .aload_n 0, 1), (21, .getfield 12, 3), (24, .getfield 114, 3), (27, .iload_n 1, 1), (28, .invokestatic 174, 3), (31, .istore_n 2, 1), (32, .aload_n 0, 1), (33, .getfield 12, 3), (36, .iload_n 1, 1), (37, .invokevirtual 117, 3), (40, .aload_n 0, 1), (41, .getfield 12, 3), (44, .dup, 1), (45, .getfield 159, 3), (48, .iload_n 1, 1), (49, .isub, 1), (50, .putfield 159, 3), (53, .aload_n 0, 1), (54, .getfield 12, 3), (57, .dup, 1), (58, .getfield 179, 3), (61, .iload_n 2, 1), (62, .iadd, 1), (63, .putfield 179, 3), (66, .iload_n 2, 1), (67, .ifCond .le 20, 3), (70, .aload_n 0, 1), (71, .getfield 45, 3), (74, .aload_n 0, 1), (75, .getfield 12, 3), (78, .getfield 83, 3), (81, .iconst 2, 1), (82, .iconst (-1), 1), (83, .iload_n 2, 1), (84, .invokevirtual 162, 3), (87, .iload_n 1, 1), (88, .ifCond .ne 26, 3), (91, .aload_n 0, 1), (92, .getfield 45, 3), (95, .aload_n 0, 1), (96, .getfield 12, 3), (99, .getfield 83, 3), (102, .iconst 3, 1), (103, .iconst (-1), 1), (104, .aload_n 0, 1), (105, .getfield 12, 3), (108, .getfield 114, 3), (111, .invokevirtual 162, 3), (114, .iload_n 1, 1), (115, .ifCond .ge 21, 3), (118, .aload_n 0, 1), (119, .getfield 45, 3), (122, .aload_n 0, 1), (123, .getfield 12, 3), (126, .getfield 83, 3), (129, .iconst 4, 1), (130, .iconst (-1), 1), (131, .iload_n 1, 1), (132, .ineg, 1), (133, .invokevirtual 162, 3), (136, .return_, 1)]
theorem ttX9_runClock : zdt cX9_runClock tX9_runClock = true := by decide +kernel
abbrev q_X9_runClock (h : zM) (c : Int) : Option zV → zM → Prop := zqv fun h' => okC h'
set_option maxRecDepth 100000 in
set_option maxHeartbeats 4000000 in
theorem s_X9_runClock (l : Launch) (h : zM) (c : Int) (s0 : okC h) (hc : zWd c) : zT shC l yX9_runClock cX9_runClock 3 none (rmL 3) 0 0 [.inr c] h (q_X9_runClock h c) := by
  refine zT_of (by decide +kernel) (L0 := [some (.inr c), none, none]) rfl (Nat.le_of_ble_eq_true rfl) ?_
  have b1 := zWd_b hc
  refine zj_sipush (zdk ttX9_runClock 0 rfl rfl) (by decide) ?_
  refine zj_sipush (zdk ttX9_runClock 1 rfl rfl) (by decide) ?_
  refine zj_aload_n (zdk ttX9_runClock 2 rfl rfl) rfl (by omega) ?_
  refine zj_getr (r := (c + 1)) (zdk ttX9_runClock 3 rfl rfl) zf_RX9_12 rfl (k_9_0 s0 hc) (rf_9_0_0 s0 hc) ?_
  have b2 : -2147483648 ≤ (h.2 (c + 1) 7) ∧ (h.2 (c + 1) 7) ≤ 2147483647 := fb_9_1_7 s0 hc
  refine zj_geti (v := (h.2 (c + 1) 7)) (zdk ttX9_runClock 4 rfl rfl) zf_RX9_159 rfl (k_9_1 s0 hc) rfl ?_
  refine zj_min (zdk ttX9_runClock 5 rfl rfl) mx_RX9_166 (by decide) (by omega) (Nat.le_of_ble_eq_true rfl) (rm_m (by decide)) ?_
  have b3 := zm_min_f 1440 (h.2 (c + 1) 7)
  refine zj_max (zdk ttX9_runClock 6 rfl rfl) mx_RX9_171 (by decide) (by omega) (Nat.le_of_ble_eq_true rfl) (rm_m (by decide)) ?_
  have b4 := zm_max_f (-1440) (zm_min 1440 (h.2 (c + 1) 7))
  refine zj_istore_n (L' := [some (.inr c), some (.inl (zm_max (-1440) (zm_min 1440 (h.2 (c + 1) 7)))), none]) (zdk ttX9_runClock 7 rfl rfl) (by decide) rfl ?_
  refine zj_aload_n (zdk ttX9_runClock 8 rfl rfl) rfl (by omega) ?_
  refine zj_getr (r := (c + 1)) (zdk ttX9_runClock 9 rfl rfl) zf_RX9_12 rfl (k_9_0 s0 hc) (rf_9_0_0 s0 hc) ?_
  have b5 : 0 ≤ (h.2 (c + 1) 6) ∧ (h.2 (c + 1) 6) ≤ 719 := fb_9_1_6 s0 hc
  refine zj_geti (v := (h.2 (c + 1) 6)) (zdk ttX9_runClock 10 rfl rfl) zf_RX9_114 rfl (k_9_1 s0 hc) rfl ?_
  refine zj_iload_n (zdk ttX9_runClock 11 rfl rfl) rfl ?_
  refine zj_callS (av := [.inl (h.2 (c + 1) 6), .inl (zm_max (-1440) (zm_min 1440 (h.2 (c + 1) 7)))]) (st := []) (zdk ttX9_runClock 12 rfl rfl) mb_X8_strokesOver ms_RX9_174 rfl rfl (Nat.le_of_ble_eq_true rfl) (s_X8_strokesOver l h (h.2 (c + 1) 6) (zm_max (-1440) (zm_min 1440 (h.2 (c + 1) 7))) s0 (by omega) (by omega)) (rm_ok (by decide) (by decide)) (zq_i fun v7 h8 q6 => ?_)
  obtain ⟨rfl, b9⟩ := q6
  refine zj_istore_n (L' := [some (.inr c), some (.inl (zm_max (-1440) (zm_min 1440 (h.2 (c + 1) 7)))), some (.inl v7)]) (zdk ttX9_runClock 13 rfl rfl) (by decide) rfl ?_
  refine zj_aload_n (zdk ttX9_runClock 14 rfl rfl) rfl (by omega) ?_
  refine zj_getr (r := (c + 1)) (zdk ttX9_runClock 15 rfl rfl) zf_RX9_12 rfl (k_9_0 s0 hc) (rf_9_0_0 s0 hc) ?_
  refine zj_iload_n (zdk ttX9_runClock 16 rfl rfl) rfl ?_
  refine zj_callV (av := [.inl (zm_max (-1440) (zm_min 1440 (h.2 (c + 1) 7)))]) (st := []) (zdk ttX9_runClock 17 rfl rfl) mb_X1_moveHands mv_RX9_117 (ci := 1) rfl rfl (k_9_1 s0 hc) rfl rfl (Nat.le_of_ble_eq_true rfl) (s_X1_moveHands l h (c + 1) (zm_max (-1440) (zm_min 1440 (h.2 (c + 1) 7))) s0 (zs_9_1 hc) (by omega)) (rm_ok (by decide) (by decide)) (zq_v fun h12 q10 => ?_)
  refine zj_aload_n (zdk ttX9_runClock 18 rfl rfl) rfl (by omega) ?_
  refine zj_getr (r := (c + 1)) (zdk ttX9_runClock 19 rfl rfl) zf_RX9_12 rfl (k_9_0 q10 hc) (rf_9_0_0 q10 hc) ?_
  refine zj_dup (zdk ttX9_runClock 20 rfl rfl) ?_
  have b15 : -2147483648 ≤ (h12.2 (c + 1) 7) ∧ (h12.2 (c + 1) 7) ≤ 2147483647 := fb_9_1_7 q10 hc
  refine zj_geti (v := (h12.2 (c + 1) 7)) (zdk ttX9_runClock 21 rfl rfl) zf_RX9_159 rfl (k_9_1 q10 hc) rfl ?_
  refine zj_iload_n (zdk ttX9_runClock 22 rfl rfl) rfl ?_
  refine zj_isub (zdk ttX9_runClock 23 rfl rfl) ?_
  refine zj_wrap ?_
  have b16 := zwp_in ((h12.2 (c + 1) 7) - (zm_max (-1440) (zm_min 1440 (h.2 (c + 1) 7))))
  refine zj_puti (zdk ttX9_runClock 24 rfl rfl) zf_RX9_159 rfl (k_9_1 q10 hc) (Or.inl zw_RX9_159) (k2 := 7) rfl (fun h17 e18 => ?_)
  refine zj_aload_n (zdk ttX9_runClock 25 rfl rfl) rfl (by omega) ?_
  have s19 : okC h17 := fw_9_1_7 q10 hc e18 (by omega)
  refine zj_getr (r := (c + 1)) (zdk ttX9_runClock 26 rfl rfl) zf_RX9_12 rfl (k_9_0 s19 hc) (rf_9_0_0 s19 hc) ?_
  refine zj_dup (zdk ttX9_runClock 27 rfl rfl) ?_
  have b20 : -2147483648 ≤ (h12.2 (c + 1) 8) ∧ (h12.2 (c + 1) 8) ≤ 2147483647 := fb_9_1_8 q10 hc
  refine zj_geti (v := (h12.2 (c + 1) 8)) (zdk ttX9_runClock 28 rfl rfl) zf_RX9_179 rfl (k_9_1 s19 hc) (zwr_r e18 (by omega)) ?_
  refine zj_iload_n (zdk ttX9_runClock 29 rfl rfl) rfl ?_
  refine zj_iadd (zdk ttX9_runClock 30 rfl rfl) ?_
  refine zj_wrap ?_
  have b21 := zwp_in ((h12.2 (c + 1) 8) + v7)
  refine zj_puti (zdk ttX9_runClock 31 rfl rfl) zf_RX9_179 rfl (k_9_1 s19 hc) (Or.inl zw_RX9_179) (k2 := 8) rfl (fun h22 e23 => ?_)
  refine zj_iload_n (zdk ttX9_runClock 32 rfl rfl) rfl ?_
  have j34 : ∀ (h32 : zM), okC h32 → zJ shC l yX9_runClock cX9_runClock 3 none (rmL 3) 0 0 (q_X9_runClock h c) 0 0 87 [some (.inr c), some (.inl (zm_max (-1440) (zm_min 1440 (h.2 (c + 1) 7)))), some (.inl v7)] [] h32 := by
    intro h32 s33
    refine zj_iload_n (zdk ttX9_runClock 43 rfl rfl) rfl ?_
    refine zj_if_ne (t := 114) (zdk ttX9_runClock 44 rfl rfl) (by decide) (by omega) (fun c35 => ?_) (fun c35 => ?_)
    · refine zj_iload_n (zdk ttX9_runClock 56 rfl rfl) rfl ?_
      refine zj_if_ge (t := 136) (zdk ttX9_runClock 57 rfl rfl) (by decide) (by omega) (fun c36 => ?_) (fun c36 => ?_)
      · exact zj_vret rfl (zdk ttX9_runClock 68 rfl rfl) (Nat.le_refl _) (Nat.le_refl _) ⟨rfl, s33⟩
      · refine zj_aload_n (zdk ttX9_runClock 58 rfl rfl) rfl (by omega) ?_
        refine zj_getr (r := (c + 22)) (zdk ttX9_runClock 59 rfl rfl) zf_RX9_45 rfl (k_9_0 s33 hc) (rf_9_0_5 s33 hc) ?_
        refine zj_aload_n (zdk ttX9_runClock 60 rfl rfl) rfl (by omega) ?_
        refine zj_getr (r := (c + 1)) (zdk ttX9_runClock 61 rfl rfl) zf_RX9_12 rfl (k_9_0 s33 hc) (rf_9_0_0 s33 hc) ?_
        have b37 : -2147483648 ≤ (h32.2 (c + 1) 12) ∧ (h32.2 (c + 1) 12) ≤ 2147483647 := fb_9_1_12 s33 hc
        refine zj_geti (v := (h32.2 (c + 1) 12)) (zdk ttX9_runClock 62 rfl rfl) zf_RX9_83 rfl (k_9_1 s33 hc) rfl ?_
        refine zj_iconst (zdk ttX9_runClock 63 rfl rfl) ?_
        refine zj_iconst (zdk ttX9_runClock 64 rfl rfl) ?_
        refine zj_iload_n (zdk ttX9_runClock 65 rfl rfl) rfl ?_
        refine zj_ineg (zdk ttX9_runClock 66 rfl rfl) ?_
        refine zj_callV (av := [.inl (h32.2 (c + 1) 12), .inl 4, .inl (-1), .inl (-(zm_max (-1440) (zm_min 1440 (h.2 (c + 1) 7))))]) (st := []) (zdk ttX9_runClock 67 rfl rfl) mb_X0_write mv_RX9_162 (ci := 0) rfl rfl (k_9_22 s33 hc) rfl rfl (Nat.le_of_ble_eq_true rfl) (s_X0_write l h32 (c + 22) (h32.2 (c + 1) 12) 4 (-1) (-(zm_max (-1440) (zm_min 1440 (h.2 (c + 1) 7)))) s33 (zs_9_22 hc) (by omega) (by omega) (by omega) (by omega)) (rm_ok (by decide) (by decide)) (zq_v fun h40 q38 => ?_)
        exact zj_vret rfl (zdk ttX9_runClock 68 rfl rfl) (Nat.le_refl _) (Nat.le_refl _) ⟨rfl, q38⟩
    · refine zj_aload_n (zdk ttX9_runClock 45 rfl rfl) rfl (by omega) ?_
      refine zj_getr (r := (c + 22)) (zdk ttX9_runClock 46 rfl rfl) zf_RX9_45 rfl (k_9_0 s33 hc) (rf_9_0_5 s33 hc) ?_
      refine zj_aload_n (zdk ttX9_runClock 47 rfl rfl) rfl (by omega) ?_
      refine zj_getr (r := (c + 1)) (zdk ttX9_runClock 48 rfl rfl) zf_RX9_12 rfl (k_9_0 s33 hc) (rf_9_0_0 s33 hc) ?_
      have b43 : -2147483648 ≤ (h32.2 (c + 1) 12) ∧ (h32.2 (c + 1) 12) ≤ 2147483647 := fb_9_1_12 s33 hc
      refine zj_geti (v := (h32.2 (c + 1) 12)) (zdk ttX9_runClock 49 rfl rfl) zf_RX9_83 rfl (k_9_1 s33 hc) rfl ?_
      refine zj_iconst (zdk ttX9_runClock 50 rfl rfl) ?_
      refine zj_iconst (zdk ttX9_runClock 51 rfl rfl) ?_
      refine zj_aload_n (zdk ttX9_runClock 52 rfl rfl) rfl (by omega) ?_
      refine zj_getr (r := (c + 1)) (zdk ttX9_runClock 53 rfl rfl) zf_RX9_12 rfl (k_9_0 s33 hc) (rf_9_0_0 s33 hc) ?_
      have b44 : 0 ≤ (h32.2 (c + 1) 6) ∧ (h32.2 (c + 1) 6) ≤ 719 := fb_9_1_6 s33 hc
      refine zj_geti (v := (h32.2 (c + 1) 6)) (zdk ttX9_runClock 54 rfl rfl) zf_RX9_114 rfl (k_9_1 s33 hc) rfl ?_
      refine zj_callV (av := [.inl (h32.2 (c + 1) 12), .inl 3, .inl (-1), .inl (h32.2 (c + 1) 6)]) (st := []) (zdk ttX9_runClock 55 rfl rfl) mb_X0_write mv_RX9_162 (ci := 0) rfl rfl (k_9_22 s33 hc) rfl rfl (Nat.le_of_ble_eq_true rfl) (s_X0_write l h32 (c + 22) (h32.2 (c + 1) 12) 3 (-1) (h32.2 (c + 1) 6) s33 (zs_9_22 hc) (by omega) (by omega) (by omega) (by omega)) (rm_ok (by decide) (by decide)) (zq_v fun h47 q45 => ?_)
      refine zj_iload_n (zdk ttX9_runClock 56 rfl rfl) rfl ?_
      refine zj_if_ge (t := 136) (zdk ttX9_runClock 57 rfl rfl) (by decide) (by omega) (fun c50 => ?_) (fun c50 => ?_)
      · exact zj_vret rfl (zdk ttX9_runClock 68 rfl rfl) (Nat.le_refl _) (Nat.le_refl _) ⟨rfl, q45⟩
      · exact absurd c50 (by omega)
  refine zj_if_le (t := 87) (zdk ttX9_runClock 33 rfl rfl) (by decide) (by omega) (fun c24 => ?_) (fun c24 => ?_)
  · have s51 : okC h22 := fw_9_1_8 s19 hc e23 (by omega)
    exact j34 h22 s51
  · refine zj_aload_n (zdk ttX9_runClock 34 rfl rfl) rfl (by omega) ?_
    have s52 : okC h22 := fw_9_1_8 s19 hc e23 (by omega)
    refine zj_getr (r := (c + 22)) (zdk ttX9_runClock 35 rfl rfl) zf_RX9_45 rfl (k_9_0 s52 hc) (rf_9_0_5 s52 hc) ?_
    refine zj_aload_n (zdk ttX9_runClock 36 rfl rfl) rfl (by omega) ?_
    refine zj_getr (r := (c + 1)) (zdk ttX9_runClock 37 rfl rfl) zf_RX9_12 rfl (k_9_0 s52 hc) (rf_9_0_0 s52 hc) ?_
    have b53 : -2147483648 ≤ (h12.2 (c + 1) 12) ∧ (h12.2 (c + 1) 12) ≤ 2147483647 := fb_9_1_12 q10 hc
    refine zj_geti (v := (h12.2 (c + 1) 12)) (zdk ttX9_runClock 38 rfl rfl) zf_RX9_83 rfl (k_9_1 s52 hc) ((zwr_r e23 (by omega)).trans (zwr_r e18 (by omega))) ?_
    refine zj_iconst (zdk ttX9_runClock 39 rfl rfl) ?_
    refine zj_iconst (zdk ttX9_runClock 40 rfl rfl) ?_
    refine zj_iload_n (zdk ttX9_runClock 41 rfl rfl) rfl ?_
    refine zj_callV (av := [.inl (h12.2 (c + 1) 12), .inl 2, .inl (-1), .inl v7]) (st := []) (zdk ttX9_runClock 42 rfl rfl) mb_X0_write mv_RX9_162 (ci := 0) rfl rfl (k_9_22 s52 hc) rfl rfl (Nat.le_of_ble_eq_true rfl) (s_X0_write l h22 (c + 22) (h12.2 (c + 1) 12) 2 (-1) v7 s52 (zs_9_22 hc) (by omega) (by omega) (by omega) (by omega)) (rm_ok (by decide) (by decide)) (zq_v fun h56 q54 => ?_)
    exact j34 h56 q54

abbrev tX9_passDay : List (Nat × Instr × Nat) := [(0, .iconst 0, 1), (1, .istore_n 2, 1), (2, .iload_n 2, 1), (3, .aload_n 0, 1), (4, .getfield 32, 3), (7, .getfield 75, 3), (10, .if_icmp .ge 50, 3), (13, .aload_n 0, 1), (14, .getfield 32, 3), (17, .getfield 79, 3), (20, .iload_n 2, 1), (21, .iaload, 1), (22, .aload_n 0, 1), (23, .getfield 12, 3), (26, .getfield 83, 3), (29, .if_icmp .ne 25, 3), (32, .aload_n 0, 1), (33, .aload_n 0, 1), (34, .getfield 32, 3), (37, .getfield 85, 3), (40, .iload_n 2, 1), (41, .iaload, 1), (42, .aload_n 0, 1), (43, .getfield 32, 3), (46, .getfield 88, 3), (49, .iload_n 2, 1), (50, .iaload, 1), (51, .invokevirtual 91, 3), (54, .iinc 2 1, 3), (57, .goto (-55), 3), (60, .iconst 0, 1), (61, .istore_n 2, 1), (62, .iload_n 2, 1), (63, .aload_n 0, 1), (64, .getfield 28, 3), (67, .getfield 75, 3), (70, .if_icmp .ge 75, 3), (73, .aload_n 0, 1), (74, .getfield 28, 3), (77, .getfield 79, 3), (80, .iload_n 2, 1), (81, .iaload, 1), (82, .aload_n 0, 1), (83, .getfield 12, 3), (86, .getfield 83, 3), (89, .if_icmp .eq 6, 3), (92, .goto 47, 3), (95, .aload_n 0, 1), (96, .getfield 28, 3), (99, .getfield 85, 3), (102, .iload_n 2, 1), (103, .iaload, 1), (104, .iconst 2, 1), (105, .if_icmp .ne 20, 3), (108, .aload_n 0, 1), (109, .aload_n 0, 1), (110, .getfield 28, 3), (113, .getfield 88, 3), (116, .iload_n 2, 1), (117, .iaload, 1), (118, .iload_n 1, 1), (119, .invokevirtual 95, 3), (122, .goto 17, 3), (125, .aload_n 0, 1), (126, .aload_n 0, 1), (127, .getfield 28, 3), (130, .getfield 88, 3), (133, .iload_n 2, 1), (134, .iaload, 1), (135, .iload_n 1, 1), (136, .invokevirtual 99, 3), (139, .iinc 2 1, 3), (142, .goto (-80), 3), (145, .aload_n 0, 1), (146, .invokevirtual 102, 3), (149, .aload_n 0, 1), (150, .getfield 12, 3), (153, .dup, 1), (154, .getfield 83, 3), (157, .iconst 1, 1), (158, .iadd, 1), (159, .putfield 83, 3), (162, .return_, 1)]
theorem ttX9_passDay : zdt cX9_passDay tX9_passDay = true := by decide +kernel
abbrev q_X9_passDay (h : zM) (c : Int) (p1 : Int) : Option zV → zM → Prop := zqv fun h' => okC h'
set_option maxRecDepth 100000 in
set_option maxHeartbeats 4000000 in
theorem s_X9_passDay (l : Launch) (h : zM) (c : Int) (p1 : Int) (s0 : okC h) (hc : zWd c) (b_p1 : 0 ≤ p1 ∧ p1 ≤ 1) : zT shC l yX9_passDay cX9_passDay 3 none (rmL 7) 0 0 [.inr c, .inl p1] h (q_X9_passDay h c p1) := by
  refine zT_of (by decide +kernel) (L0 := [some (.inr c), some (.inl p1), none]) rfl (Nat.le_of_ble_eq_true rfl) ?_
  have b1 := zWd_b hc
  refine zj_iconst (zdk ttX9_passDay 0 rfl rfl) ?_
  refine zj_istore_n (L' := [some (.inr c), some (.inl p1), some (.inl 0)]) (zdk ttX9_passDay 1 rfl rfl) (by decide) rfl ?_
  have lp77 : ∀ (n : Nat) (x2 : Int) (h3 : zM), (0 ≤ x2 ∧ x2 ≤ 16) → okC h3 → (17 - x2).toNat < n → zJ shC l yX9_passDay cX9_passDay 3 none (rmL 7) 0 0 (q_X9_passDay h c p1) 0 0 2 [some (.inr c), some (.inl p1), some (.inl x2)] [] h3 := by
    intro n
    induction n with
    | zero => intro x2 h3 b78 s4 m79; exact absurd m79 (Nat.not_lt_zero _)
    | succ n ih80 =>
      intro x2 h3 b78 s4 m79
      refine zj_iload_n (zdk ttX9_passDay 2 rfl rfl) rfl ?_
      refine zj_aload_n (zdk ttX9_passDay 3 rfl rfl) rfl (by omega) ?_
      refine zj_getr (r := (c + 16)) (zdk ttX9_passDay 4 rfl rfl) zf_RX9_32 rfl (k_9_0 s4 hc) (rf_9_0_3 s4 hc) ?_
      have b81 : 0 ≤ (h3.2 (c + 16) 3) ∧ (h3.2 (c + 16) 3) ≤ 16 := fb_9_16_3 s4 hc
      refine zj_geti (v := (h3.2 (c + 16) 3)) (zdk ttX9_passDay 5 rfl rfl) zf_RX9_75 rfl (k_9_16 s4 hc) rfl ?_
      refine zj_icmp_ge (t := 60) (zdk ttX9_passDay 6 rfl rfl) (by decide) (by omega) (by omega) (fun c82 => ?_) (fun c82 => ?_)
      · refine zj_iconst (zdk ttX9_passDay 30 rfl rfl) ?_
        refine zj_istore_n (L' := [some (.inr c), some (.inl p1), some (.inl 0)]) (zdk ttX9_passDay 31 rfl rfl) (by decide) rfl ?_
        have lp210 : ∀ (n : Nat) (x93 : Int) (h94 : zM), (0 ≤ x93 ∧ x93 ≤ 16) → okC h94 → (17 - x93).toNat < n → zJ shC l yX9_passDay cX9_passDay 3 none (rmL 7) 0 0 (q_X9_passDay h c p1) 0 0 62 [some (.inr c), some (.inl p1), some (.inl x93)] [] h94 := by
          intro n
          induction n with
          | zero => intro x93 h94 b211 s95 m212; exact absurd m212 (Nat.not_lt_zero _)
          | succ n ih213 =>
            intro x93 h94 b211 s95 m212
            refine zj_iload_n (zdk ttX9_passDay 32 rfl rfl) rfl ?_
            refine zj_aload_n (zdk ttX9_passDay 33 rfl rfl) rfl (by omega) ?_
            refine zj_getr (r := (c + 12)) (zdk ttX9_passDay 34 rfl rfl) zf_RX9_28 rfl (k_9_0 s95 hc) (rf_9_0_2 s95 hc) ?_
            have b214 : 0 ≤ (h94.2 (c + 12) 3) ∧ (h94.2 (c + 12) 3) ≤ 16 := fb_9_12_3 s95 hc
            refine zj_geti (v := (h94.2 (c + 12) 3)) (zdk ttX9_passDay 35 rfl rfl) zf_RX9_75 rfl (k_9_12 s95 hc) rfl ?_
            refine zj_icmp_ge (t := 145) (zdk ttX9_passDay 36 rfl rfl) (by decide) (by omega) (by omega) (fun c215 => ?_) (fun c215 => ?_)
            · refine zj_aload_n (zdk ttX9_passDay 73 rfl rfl) rfl (by omega) ?_
              refine zj_callV (av := []) (st := []) (zdk ttX9_passDay 74 rfl rfl) mb_X9_runClock mv_RX9_102 (ci := 9) rfl rfl (k_9_0 s95 hc) rfl rfl (Nat.le_of_ble_eq_true rfl) (s_X9_runClock l h94 c s95 hc) (rm_ok (by decide) (by decide)) (zq_v fun h218 q216 => ?_)
              refine zj_aload_n (zdk ttX9_passDay 75 rfl rfl) rfl (by omega) ?_
              refine zj_getr (r := (c + 1)) (zdk ttX9_passDay 76 rfl rfl) zf_RX9_12 rfl (k_9_0 q216 hc) (rf_9_0_0 q216 hc) ?_
              refine zj_dup (zdk ttX9_passDay 77 rfl rfl) ?_
              have b221 : -2147483648 ≤ (h218.2 (c + 1) 12) ∧ (h218.2 (c + 1) 12) ≤ 2147483647 := fb_9_1_12 q216 hc
              refine zj_geti (v := (h218.2 (c + 1) 12)) (zdk ttX9_passDay 78 rfl rfl) zf_RX9_83 rfl (k_9_1 q216 hc) rfl ?_
              refine zj_iconst (zdk ttX9_passDay 79 rfl rfl) ?_
              refine zj_iadd (zdk ttX9_passDay 80 rfl rfl) ?_
              refine zj_wrap ?_
              have b222 := zwp_in ((h218.2 (c + 1) 12) + 1)
              refine zj_puti (zdk ttX9_passDay 81 rfl rfl) zf_RX9_83 rfl (k_9_1 q216 hc) (Or.inl zw_RX9_83) (k2 := 12) rfl (fun h223 e224 => ?_)
              have s225 : okC h223 := fw_9_1_12 q216 hc e224 (by omega)
              exact zj_vret rfl (zdk ttX9_passDay 82 rfl rfl) (Nat.le_refl _) (Nat.le_refl _) ⟨rfl, s225⟩
            · refine zj_aload_n (zdk ttX9_passDay 37 rfl rfl) rfl (by omega) ?_
              refine zj_getr (r := (c + 12)) (zdk ttX9_passDay 38 rfl rfl) zf_RX9_28 rfl (k_9_0 s95 hc) (rf_9_0_2 s95 hc) ?_
              refine zj_getr (r := (c + 13)) (zdk ttX9_passDay 39 rfl rfl) zf_RX9_79 rfl (k_9_12 s95 hc) (rf_9_12_0 s95 hc) ?_
              refine zj_iload_n (zdk ttX9_passDay 40 rfl rfl) rfl ?_
              have b226 : -2147483648 ≤ (h94.2 (c + 13) x93) ∧ (h94.2 (c + 13) x93) ≤ 2147483647 := ab_9_12_0 s95 hc x93
              refine zj_iald (v := (h94.2 (c + 13) x93)) (zdk ttX9_passDay 41 rfl rfl) (ka_9_12_0 s95 hc) (by decide) (by omega) rfl ?_
              refine zj_aload_n (zdk ttX9_passDay 42 rfl rfl) rfl (by omega) ?_
              refine zj_getr (r := (c + 1)) (zdk ttX9_passDay 43 rfl rfl) zf_RX9_12 rfl (k_9_0 s95 hc) (rf_9_0_0 s95 hc) ?_
              have b227 : -2147483648 ≤ (h94.2 (c + 1) 12) ∧ (h94.2 (c + 1) 12) ≤ 2147483647 := fb_9_1_12 s95 hc
              refine zj_geti (v := (h94.2 (c + 1) 12)) (zdk ttX9_passDay 44 rfl rfl) zf_RX9_83 rfl (k_9_1 s95 hc) rfl ?_
              refine zj_icmp_eq (t := 95) (zdk ttX9_passDay 45 rfl rfl) (by decide) (by omega) (by omega) (fun c228 => ?_) (fun c228 => ?_)
              · refine zj_aload_n (zdk ttX9_passDay 47 rfl rfl) rfl (by omega) ?_
                refine zj_getr (r := (c + 12)) (zdk ttX9_passDay 48 rfl rfl) zf_RX9_28 rfl (k_9_0 s95 hc) (rf_9_0_2 s95 hc) ?_
                refine zj_getr (r := (c + 14)) (zdk ttX9_passDay 49 rfl rfl) zf_RX9_85 rfl (k_9_12 s95 hc) (rf_9_12_1 s95 hc) ?_
                refine zj_iload_n (zdk ttX9_passDay 50 rfl rfl) rfl ?_
                have b229 : -2147483648 ≤ (h94.2 (c + 14) x93) ∧ (h94.2 (c + 14) x93) ≤ 2147483647 := ab_9_12_1 s95 hc x93
                refine zj_iald (v := (h94.2 (c + 14) x93)) (zdk ttX9_passDay 51 rfl rfl) (ka_9_12_1 s95 hc) (by decide) (by omega) rfl ?_
                refine zj_iconst (zdk ttX9_passDay 52 rfl rfl) ?_
                refine zj_icmp_ne (t := 125) (zdk ttX9_passDay 53 rfl rfl) (by decide) (by omega) (by decide) (fun c230 => ?_) (fun c230 => ?_)
                · refine zj_aload_n (zdk ttX9_passDay 63 rfl rfl) rfl (by omega) ?_
                  refine zj_aload_n (zdk ttX9_passDay 64 rfl rfl) rfl (by omega) ?_
                  refine zj_getr (r := (c + 12)) (zdk ttX9_passDay 65 rfl rfl) zf_RX9_28 rfl (k_9_0 s95 hc) (rf_9_0_2 s95 hc) ?_
                  refine zj_getr (r := (c + 15)) (zdk ttX9_passDay 66 rfl rfl) zf_RX9_88 rfl (k_9_12 s95 hc) (rf_9_12_2 s95 hc) ?_
                  refine zj_iload_n (zdk ttX9_passDay 67 rfl rfl) rfl ?_
                  have b231 : -2147483648 ≤ (h94.2 (c + 15) x93) ∧ (h94.2 (c + 15) x93) ≤ 2147483647 := ab_9_12_2 s95 hc x93
                  refine zj_iald (v := (h94.2 (c + 15) x93)) (zdk ttX9_passDay 68 rfl rfl) (ka_9_12_2 s95 hc) (by decide) (by omega) rfl ?_
                  refine zj_iload_n (zdk ttX9_passDay 69 rfl rfl) rfl ?_
                  refine zj_callV (av := [.inl (h94.2 (c + 15) x93), .inl p1]) (st := []) (zdk ttX9_passDay 70 rfl rfl) mb_X9_sailBack mv_RX9_99 (ci := 9) rfl rfl (k_9_0 s95 hc) rfl rfl (Nat.le_of_ble_eq_true rfl) (s_X9_sailBack l h94 c (h94.2 (c + 15) x93) p1 s95 hc (by omega) (by omega)) (rm_ok (by decide) (by decide)) (zq_v fun h234 q232 => ?_)
                  refine zj_iinc (L' := [some (.inr c), some (.inl p1), some (.inl (x93 + 1))]) (zdk ttX9_passDay 71 rfl rfl) rfl (by decide) rfl ?_
                  refine zj_goto (t := 62) (zdk ttX9_passDay 72 rfl rfl) (by decide) ?_
                  exact ih213  (x93 + 1) h234 (by omega) q232 (by omega)
                · refine zj_aload_n (zdk ttX9_passDay 54 rfl rfl) rfl (by omega) ?_
                  refine zj_aload_n (zdk ttX9_passDay 55 rfl rfl) rfl (by omega) ?_
                  refine zj_getr (r := (c + 12)) (zdk ttX9_passDay 56 rfl rfl) zf_RX9_28 rfl (k_9_0 s95 hc) (rf_9_0_2 s95 hc) ?_
                  refine zj_getr (r := (c + 15)) (zdk ttX9_passDay 57 rfl rfl) zf_RX9_88 rfl (k_9_12 s95 hc) (rf_9_12_2 s95 hc) ?_
                  refine zj_iload_n (zdk ttX9_passDay 58 rfl rfl) rfl ?_
                  have b237 : -2147483648 ≤ (h94.2 (c + 15) x93) ∧ (h94.2 (c + 15) x93) ≤ 2147483647 := ab_9_12_2 s95 hc x93
                  refine zj_iald (v := (h94.2 (c + 15) x93)) (zdk ttX9_passDay 59 rfl rfl) (ka_9_12_2 s95 hc) (by decide) (by omega) rfl ?_
                  refine zj_iload_n (zdk ttX9_passDay 60 rfl rfl) rfl ?_
                  refine zj_callV (av := [.inl (h94.2 (c + 15) x93), .inl p1]) (st := []) (zdk ttX9_passDay 61 rfl rfl) mb_X9_sailOut mv_RX9_95 (ci := 9) rfl rfl (k_9_0 s95 hc) rfl rfl (Nat.le_of_ble_eq_true rfl) (s_X9_sailOut l h94 c (h94.2 (c + 15) x93) p1 s95 hc (by omega) (by omega)) (rm_ok (by decide) (by decide)) (zq_v fun h240 q238 => ?_)
                  refine zj_goto (t := 139) (zdk ttX9_passDay 62 rfl rfl) (by decide) ?_
                  refine zj_iinc (L' := [some (.inr c), some (.inl p1), some (.inl (x93 + 1))]) (zdk ttX9_passDay 71 rfl rfl) rfl (by decide) rfl ?_
                  refine zj_goto (t := 62) (zdk ttX9_passDay 72 rfl rfl) (by decide) ?_
                  exact ih213  (x93 + 1) h240 (by omega) q238 (by omega)
              · refine zj_goto (t := 139) (zdk ttX9_passDay 46 rfl rfl) (by decide) ?_
                refine zj_iinc (L' := [some (.inr c), some (.inl p1), some (.inl (x93 + 1))]) (zdk ttX9_passDay 71 rfl rfl) rfl (by decide) rfl ?_
                refine zj_goto (t := 62) (zdk ttX9_passDay 72 rfl rfl) (by decide) ?_
                exact ih213  (x93 + 1) h94 (by omega) s95 (by omega)
        exact lp210 _ 0 h3 (by omega) s4 (Nat.lt_succ_self _)
      · refine zj_aload_n (zdk ttX9_passDay 7 rfl rfl) rfl (by omega) ?_
        refine zj_getr (r := (c + 16)) (zdk ttX9_passDay 8 rfl rfl) zf_RX9_32 rfl (k_9_0 s4 hc) (rf_9_0_3 s4 hc) ?_
        refine zj_getr (r := (c + 17)) (zdk ttX9_passDay 9 rfl rfl) zf_RX9_79 rfl (k_9_16 s4 hc) (rf_9_16_0 s4 hc) ?_
        refine zj_iload_n (zdk ttX9_passDay 10 rfl rfl) rfl ?_
        have b243 : -2147483648 ≤ (h3.2 (c + 17) x2) ∧ (h3.2 (c + 17) x2) ≤ 2147483647 := ab_9_16_0 s4 hc x2
        refine zj_iald (v := (h3.2 (c + 17) x2)) (zdk ttX9_passDay 11 rfl rfl) (ka_9_16_0 s4 hc) (by decide) (by omega) rfl ?_
        refine zj_aload_n (zdk ttX9_passDay 12 rfl rfl) rfl (by omega) ?_
        refine zj_getr (r := (c + 1)) (zdk ttX9_passDay 13 rfl rfl) zf_RX9_12 rfl (k_9_0 s4 hc) (rf_9_0_0 s4 hc) ?_
        have b244 : -2147483648 ≤ (h3.2 (c + 1) 12) ∧ (h3.2 (c + 1) 12) ≤ 2147483647 := fb_9_1_12 s4 hc
        refine zj_geti (v := (h3.2 (c + 1) 12)) (zdk ttX9_passDay 14 rfl rfl) zf_RX9_83 rfl (k_9_1 s4 hc) rfl ?_
        refine zj_icmp_ne (t := 54) (zdk ttX9_passDay 15 rfl rfl) (by decide) (by omega) (by omega) (fun c245 => ?_) (fun c245 => ?_)
        · refine zj_iinc (L' := [some (.inr c), some (.inl p1), some (.inl (x2 + 1))]) (zdk ttX9_passDay 28 rfl rfl) rfl (by decide) rfl ?_
          refine zj_goto (t := 2) (zdk ttX9_passDay 29 rfl rfl) (by decide) ?_
          exact ih80  (x2 + 1) h3 (by omega) s4 (by omega)
        · refine zj_aload_n (zdk ttX9_passDay 16 rfl rfl) rfl (by omega) ?_
          refine zj_aload_n (zdk ttX9_passDay 17 rfl rfl) rfl (by omega) ?_
          refine zj_getr (r := (c + 16)) (zdk ttX9_passDay 18 rfl rfl) zf_RX9_32 rfl (k_9_0 s4 hc) (rf_9_0_3 s4 hc) ?_
          refine zj_getr (r := (c + 18)) (zdk ttX9_passDay 19 rfl rfl) zf_RX9_85 rfl (k_9_16 s4 hc) (rf_9_16_1 s4 hc) ?_
          refine zj_iload_n (zdk ttX9_passDay 20 rfl rfl) rfl ?_
          have b246 : -2147483648 ≤ (h3.2 (c + 18) x2) ∧ (h3.2 (c + 18) x2) ≤ 2147483647 := ab_9_16_1 s4 hc x2
          refine zj_iald (v := (h3.2 (c + 18) x2)) (zdk ttX9_passDay 21 rfl rfl) (ka_9_16_1 s4 hc) (by decide) (by omega) rfl ?_
          refine zj_aload_n (zdk ttX9_passDay 22 rfl rfl) rfl (by omega) ?_
          refine zj_getr (r := (c + 16)) (zdk ttX9_passDay 23 rfl rfl) zf_RX9_32 rfl (k_9_0 s4 hc) (rf_9_0_3 s4 hc) ?_
          refine zj_getr (r := (c + 19)) (zdk ttX9_passDay 24 rfl rfl) zf_RX9_88 rfl (k_9_16 s4 hc) (rf_9_16_2 s4 hc) ?_
          refine zj_iload_n (zdk ttX9_passDay 25 rfl rfl) rfl ?_
          have b247 : -2147483648 ≤ (h3.2 (c + 19) x2) ∧ (h3.2 (c + 19) x2) ≤ 2147483647 := ab_9_16_2 s4 hc x2
          refine zj_iald (v := (h3.2 (c + 19) x2)) (zdk ttX9_passDay 26 rfl rfl) (ka_9_16_2 s4 hc) (by decide) (by omega) rfl ?_
          refine zj_callV (av := [.inl (h3.2 (c + 18) x2), .inl (h3.2 (c + 19) x2)]) (st := []) (zdk ttX9_passDay 27 rfl rfl) mb_X9_happen mv_RX9_91 (ci := 9) rfl rfl (k_9_0 s4 hc) rfl rfl (Nat.le_of_ble_eq_true rfl) (s_X9_happen l h3 c (h3.2 (c + 18) x2) (h3.2 (c + 19) x2) s4 hc (by omega) (by omega)) (rm_ok (by decide) (by decide)) (zq_v fun h250 q248 => ?_)
          refine zj_iinc (L' := [some (.inr c), some (.inl p1), some (.inl (x2 + 1))]) (zdk ttX9_passDay 28 rfl rfl) rfl (by decide) rfl ?_
          refine zj_goto (t := 2) (zdk ttX9_passDay 29 rfl rfl) (by decide) ?_
          exact ih80  (x2 + 1) h250 (by omega) q248 (by omega)
  exact lp77 _ 0 h (by omega) s0 (Nat.lt_succ_self _)

abbrev tX9_copyFrom : List (Nat × Instr × Nat) := [(0, .aload_n 0, 1), (1, .getfield 12, 3), (4, .aload_n 1, 1), (5, .getfield 12, 3), (8, .invokevirtual 56, 3), (11, .aload_n 0, 1), (12, .getfield 21, 3), (15, .aload_n 1, 1), (16, .getfield 21, 3), (19, .invokevirtual 60, 3), (22, .aload_n 0, 1), (23, .getfield 28, 3), (26, .aload_n 1, 1), (27, .getfield 28, 3), (30, .invokevirtual 63, 3), (33, .aload_n 0, 1), (34, .getfield 32, 3), (37, .aload_n 1, 1), (38, .getfield 32, 3), (41, .invokevirtual 63, 3), (44, .aload_n 0, 1), (45, .getfield 38, 3), (48, .aload_n 1, 1), (49, .getfield 38, 3), (52, .invokevirtual 66, 3), (55, .aload_n 0, 1), (56, .getfield 45, 3), (59, .aload_n 1, 1), (60, .getfield 45, 3), (63, .invokevirtual 69, 3), (66, .aload_n 0, 1), (67, .getfield 52, 3), (70, .aload_n 1, 1), (71, .getfield 52, 3), (74, .invokevirtual 72, 3), (77, .return_, 1)]
theorem ttX9_copyFrom : zdt cX9_copyFrom tX9_copyFrom = true := by decide +kernel
abbrev q_X9_copyFrom (h : zM) (c : Int) (p1 : Int) : Option zV → zM → Prop := zqv fun h' => okC h'
set_option maxRecDepth 100000 in
set_option maxHeartbeats 4000000 in
theorem s_X9_copyFrom (l : Launch) (h : zM) (c : Int) (p1 : Int) (s0 : okC h) (hc : zWd c) (r_p1 : zWd p1) : zT shC l yX9_copyFrom cX9_copyFrom 2 none (rmL 2) 0 0 [.inr c, .inr p1] h (q_X9_copyFrom h c p1) := by
  refine zT_of (by decide +kernel) (L0 := [some (.inr c), some (.inr p1)]) rfl (Nat.le_of_ble_eq_true rfl) ?_
  have b1 := zWd_b hc
  have b2 := zWd_b r_p1
  refine zj_aload_n (zdk ttX9_copyFrom 0 rfl rfl) rfl (by omega) ?_
  refine zj_getr (r := (c + 1)) (zdk ttX9_copyFrom 1 rfl rfl) zf_RX9_12 rfl (k_9_0 s0 hc) (rf_9_0_0 s0 hc) ?_
  refine zj_aload_n (zdk ttX9_copyFrom 2 rfl rfl) rfl (by omega) ?_
  refine zj_getr (r := (p1 + 1)) (zdk ttX9_copyFrom 3 rfl rfl) zf_RX9_12 rfl (k_9_0 s0 r_p1) (rf_9_0_0 s0 r_p1) ?_
  refine zj_callV (av := [.inr (p1 + 1)]) (st := []) (zdk ttX9_copyFrom 4 rfl rfl) mb_X1_copyFrom mv_RX9_56 (ci := 1) rfl rfl (k_9_1 s0 hc) rfl rfl (Nat.le_of_ble_eq_true rfl) (s_X1_copyFrom l h (c + 1) (p1 + 1) s0 (zs_9_1 hc) (zs_9_1 r_p1)) (rm_ok (by decide) (by decide)) (zq_v fun h5 q3 => ?_)
  obtain ⟨s7, u8⟩ := q3
  refine zj_aload_n (zdk ttX9_copyFrom 5 rfl rfl) rfl (by omega) ?_
  refine zj_getr (r := (c + 5)) (zdk ttX9_copyFrom 6 rfl rfl) zf_RX9_21 rfl (k_9_0 s7 hc) (rf_9_0_1 s7 hc) ?_
  refine zj_aload_n (zdk ttX9_copyFrom 7 rfl rfl) rfl (by omega) ?_
  refine zj_getr (r := (p1 + 5)) (zdk ttX9_copyFrom 8 rfl rfl) zf_RX9_21 rfl (k_9_0 s7 r_p1) (rf_9_0_1 s7 r_p1) ?_
  refine zj_callV (av := [.inr (p1 + 5)]) (st := []) (zdk ttX9_copyFrom 9 rfl rfl) mb_X3_copyFrom mv_RX9_60 (ci := 3) rfl rfl (k_9_5 s7 hc) rfl rfl (Nat.le_of_ble_eq_true rfl) (s_X3_copyFrom l h5 (c + 5) (p1 + 5) s7 (zs_9_5 hc) (zs_9_5 r_p1)) (rm_ok (by decide) (by decide)) (zq_v fun h11 q9 => ?_)
  refine zj_aload_n (zdk ttX9_copyFrom 10 rfl rfl) rfl (by omega) ?_
  refine zj_getr (r := (c + 12)) (zdk ttX9_copyFrom 11 rfl rfl) zf_RX9_28 rfl (k_9_0 q9 hc) (rf_9_0_2 q9 hc) ?_
  refine zj_aload_n (zdk ttX9_copyFrom 12 rfl rfl) rfl (by omega) ?_
  refine zj_getr (r := (p1 + 12)) (zdk ttX9_copyFrom 13 rfl rfl) zf_RX9_28 rfl (k_9_0 q9 r_p1) (rf_9_0_2 q9 r_p1) ?_
  refine zj_callV (av := [.inr (p1 + 12)]) (st := []) (zdk ttX9_copyFrom 14 rfl rfl) mb_X4_copyFrom mv_RX9_63 (ci := 4) rfl rfl (k_9_12 q9 hc) rfl rfl (Nat.le_of_ble_eq_true rfl) (s_X4_copyFrom l h11 (c + 12) (p1 + 12) q9 (zs_9_12 hc) (zs_9_12 r_p1)) (rm_ok (by decide) (by decide)) (zq_v fun h16 q14 => ?_)
  refine zj_aload_n (zdk ttX9_copyFrom 15 rfl rfl) rfl (by omega) ?_
  refine zj_getr (r := (c + 16)) (zdk ttX9_copyFrom 16 rfl rfl) zf_RX9_32 rfl (k_9_0 q14 hc) (rf_9_0_3 q14 hc) ?_
  refine zj_aload_n (zdk ttX9_copyFrom 17 rfl rfl) rfl (by omega) ?_
  refine zj_getr (r := (p1 + 16)) (zdk ttX9_copyFrom 18 rfl rfl) zf_RX9_32 rfl (k_9_0 q14 r_p1) (rf_9_0_3 q14 r_p1) ?_
  refine zj_callV (av := [.inr (p1 + 16)]) (st := []) (zdk ttX9_copyFrom 19 rfl rfl) mb_X4_copyFrom mv_RX9_63 (ci := 4) rfl rfl (k_9_16 q14 hc) rfl rfl (Nat.le_of_ble_eq_true rfl) (s_X4_copyFrom l h16 (c + 16) (p1 + 16) q14 (zs_9_16 hc) (zs_9_16 r_p1)) (rm_ok (by decide) (by decide)) (zq_v fun h21 q19 => ?_)
  refine zj_aload_n (zdk ttX9_copyFrom 20 rfl rfl) rfl (by omega) ?_
  refine zj_getr (r := (c + 20)) (zdk ttX9_copyFrom 21 rfl rfl) zf_RX9_38 rfl (k_9_0 q19 hc) (rf_9_0_4 q19 hc) ?_
  refine zj_aload_n (zdk ttX9_copyFrom 22 rfl rfl) rfl (by omega) ?_
  refine zj_getr (r := (p1 + 20)) (zdk ttX9_copyFrom 23 rfl rfl) zf_RX9_38 rfl (k_9_0 q19 r_p1) (rf_9_0_4 q19 r_p1) ?_
  refine zj_callV (av := [.inr (p1 + 20)]) (st := []) (zdk ttX9_copyFrom 24 rfl rfl) mb_X2_copyFrom mv_RX9_66 (ci := 2) rfl rfl (k_9_20 q19 hc) rfl rfl (Nat.le_of_ble_eq_true rfl) (s_X2_copyFrom l h21 (c + 20) (p1 + 20) q19 (zs_9_20 hc) (zs_9_20 r_p1)) (rm_ok (by decide) (by decide)) (zq_v fun h26 q24 => ?_)
  refine zj_aload_n (zdk ttX9_copyFrom 25 rfl rfl) rfl (by omega) ?_
  refine zj_getr (r := (c + 22)) (zdk ttX9_copyFrom 26 rfl rfl) zf_RX9_45 rfl (k_9_0 q24 hc) (rf_9_0_5 q24 hc) ?_
  refine zj_aload_n (zdk ttX9_copyFrom 27 rfl rfl) rfl (by omega) ?_
  refine zj_getr (r := (p1 + 22)) (zdk ttX9_copyFrom 28 rfl rfl) zf_RX9_45 rfl (k_9_0 q24 r_p1) (rf_9_0_5 q24 r_p1) ?_
  refine zj_callV (av := [.inr (p1 + 22)]) (st := []) (zdk ttX9_copyFrom 29 rfl rfl) mb_X0_copyFrom mv_RX9_69 (ci := 0) rfl rfl (k_9_22 q24 hc) rfl rfl (Nat.le_of_ble_eq_true rfl) (s_X0_copyFrom l h26 (c + 22) (p1 + 22) q24 (zs_9_22 hc) (zs_9_22 r_p1)) (rm_ok (by decide) (by decide)) (zq_v fun h31 q29 => ?_)
  refine zj_aload_n (zdk ttX9_copyFrom 30 rfl rfl) rfl (by omega) ?_
  refine zj_getr (r := (c + 27)) (zdk ttX9_copyFrom 31 rfl rfl) zf_RX9_52 rfl (k_9_0 q29 hc) (rf_9_0_6 q29 hc) ?_
  refine zj_aload_n (zdk ttX9_copyFrom 32 rfl rfl) rfl (by omega) ?_
  refine zj_getr (r := (p1 + 27)) (zdk ttX9_copyFrom 33 rfl rfl) zf_RX9_52 rfl (k_9_0 q29 r_p1) (rf_9_0_6 q29 r_p1) ?_
  refine zj_callV (av := [.inr (p1 + 27)]) (st := []) (zdk ttX9_copyFrom 34 rfl rfl) mb_X5_copyFrom mv_RX9_72 (ci := 5) rfl rfl (k_9_27 q29 hc) rfl rfl (Nat.le_of_ble_eq_true rfl) (s_X5_copyFrom l h31 (c + 27) (p1 + 27) q29 (zs_9_27 hc) (zs_9_27 r_p1)) (rm_ok (by decide) (by decide)) (zq_v fun h36 q34 => ?_)
  exact zj_vret rfl (zdk ttX9_copyFrom 35 rfl rfl) (Nat.le_refl _) (Nat.le_refl _) ⟨rfl, q34⟩

abbrev tX6_putFour : List (Nat × Instr × Nat) := [(0, .bipush 24, 2), (2, .istore_n 2, 1), (3, .iload_n 2, 1), (4, .ifCond .lt 42, 3), (7, .aload_n 0, 1), (8, .getfield 21, 3), (11, .sipush 400, 3), (14, .if_icmp .ge 32, 3), (17, .aload_n 0, 1), (18, .getfield 11, 3), (21, .aload_n 0, 1), (22, .dup, 1), (23, .getfield 21, 3), (26, .dup_x1, 1), (27, .iconst 1, 1), (28, .iadd, 1), (29, .putfield 21, 3), (32, .iload_n 1, 1), (33, .iload_n 2, 1), (34, .iushr, 1), (35, .sipush 255, 3), (38, .iand, 1), (39, .iastore, 1), (40, .iinc 2 (-8), 3), (43, .goto (-40), 3), (46, .return_, 1)]
theorem ttX6_putFour : zdt cX6_putFour tX6_putFour = true := by decide +kernel
abbrev q_X6_putFour (h : zM) (p1 : Int) : Option zV → zM → Prop := zqv fun h' => okC h'
set_option maxRecDepth 100000 in
set_option maxHeartbeats 4000000 in
theorem s_X6_putFour (l : Launch) (h : zM) (p1 : Int) (s0 : okC h) (b_p1 : (-2147483648) ≤ p1 ∧ p1 ≤ 2147483647) : zT shC l yX6_putFour cX6_putFour 3 none (rmL 1) 0 0 [.inr 103, .inl p1] h (q_X6_putFour h p1) := by
  refine zT_of (by decide +kernel) (L0 := [some (.inr 103), some (.inl p1), none]) rfl (Nat.le_of_ble_eq_true rfl) ?_
  refine zj_bipush (zdk ttX6_putFour 0 rfl rfl) (by decide) ?_
  refine zj_istore_n (L' := [some (.inr 103), some (.inl p1), some (.inl 24)]) (zdk ttX6_putFour 1 rfl rfl) (by decide) rfl ?_
  have lp64 : ∀ (n : Nat) (x1 : Int) (h2 : zM), (-8 ≤ x1 ∧ x1 ≤ 24) → okC h2 → (x1 - -9).toNat < n → zJ shC l yX6_putFour cX6_putFour 3 none (rmL 1) 0 0 (q_X6_putFour h p1) 0 0 3 [some (.inr 103), some (.inl p1), some (.inl x1)] [] h2 := by
    intro n
    induction n with
    | zero => intro x1 h2 b65 s3 m66; exact absurd m66 (Nat.not_lt_zero _)
    | succ n ih67 =>
      intro x1 h2 b65 s3 m66
      refine zj_iload_n (zdk ttX6_putFour 2 rfl rfl) rfl ?_
      refine zj_if_lt (t := 46) (zdk ttX6_putFour 3 rfl rfl) (by decide) (by omega) (fun c68 => ?_) (fun c68 => ?_)
      · exact zj_vret rfl (zdk ttX6_putFour 25 rfl rfl) (Nat.le_refl _) (Nat.le_refl _) ⟨rfl, s3⟩
      · refine zj_aload_n (zdk ttX6_putFour 4 rfl rfl) rfl (by decide) ?_
        have b69 : 0 ≤ (h2.2 103 3) ∧ (h2.2 103 3) ≤ 400 := fb_L103_3 s3
        refine zj_geti (v := (h2.2 103 3)) (zdk ttX6_putFour 5 rfl rfl) zf_RX6_21 rfl (k_L103 s3) rfl ?_
        refine zj_sipush (zdk ttX6_putFour 6 rfl rfl) (by decide) ?_
        refine zj_icmp_ge (t := 46) (zdk ttX6_putFour 7 rfl rfl) (by decide) (by omega) (by decide) (fun c70 => ?_) (fun c70 => ?_)
        · exact zj_vret rfl (zdk ttX6_putFour 25 rfl rfl) (Nat.le_refl _) (Nat.le_refl _) ⟨rfl, s3⟩
        · refine zj_aload_n (zdk ttX6_putFour 8 rfl rfl) rfl (by decide) ?_
          refine zj_getr (r := 104) (zdk ttX6_putFour 9 rfl rfl) zf_RX6_11 rfl (k_L103 s3) (rf_L103_0 s3) ?_
          refine zj_aload_n (zdk ttX6_putFour 10 rfl rfl) rfl (by decide) ?_
          refine zj_dup (zdk ttX6_putFour 11 rfl rfl) ?_
          refine zj_geti (v := (h2.2 103 3)) (zdk ttX6_putFour 12 rfl rfl) zf_RX6_21 rfl (k_L103 s3) rfl ?_
          refine zj_dup_x1 (zdk ttX6_putFour 13 rfl rfl) ?_
          refine zj_iconst (zdk ttX6_putFour 14 rfl rfl) ?_
          refine zj_iadd (zdk ttX6_putFour 15 rfl rfl) ?_
          refine zj_puti (zdk ttX6_putFour 16 rfl rfl) zf_RX6_21 rfl (k_L103 s3) (Or.inl zw_RX6_21) (k2 := 3) rfl (fun h71 e72 => ?_)
          refine zj_iload_n (zdk ttX6_putFour 17 rfl rfl) rfl ?_
          refine zj_iload_n (zdk ttX6_putFour 18 rfl rfl) rfl ?_
          refine zj_iushr (zdk ttX6_putFour 19 rfl rfl) ?_
          have b73 := zushr_in p1 x1
          refine zj_sipush (zdk ttX6_putFour 20 rfl rfl) (by decide) ?_
          refine zj_iand (zdk ttX6_putFour 21 rfl rfl) ?_
          have b74 := zand_m (d := 256) 8 (by decide) (c := 255) (by decide) (by decide) (zushr p1 x1)
          have s75 : okC h71 := fw_L103_3 s3 e72 (by omega)
          refine zj_iast (zdk ttX6_putFour 22 rfl rfl) (ka_L103_0 s75) (by decide) (by omega) (fun h76 e77 => ?_)
          refine zj_iinc (L' := [some (.inr 103), some (.inl p1), some (.inl (x1 + (-8)))]) (zdk ttX6_putFour 23 rfl rfl) rfl (by decide) rfl ?_
          refine zj_goto (t := 3) (zdk ttX6_putFour 24 rfl rfl) (by decide) ?_
          have s78 : okC h76 := aw_L103_0 s75 e77 (by omega)
          exact ih67  (x1 + (-8)) h76 (by omega) s78 (by omega)
  exact lp64 _ 24 h (by omega) s0 (Nat.lt_succ_self _)

abbrev tX6_rewind : List (Nat × Instr × Nat) := [(0, .aload_n 0, 1), (1, .iconst 0, 1), (2, .putfield 34, 3), (5, .aload_n 0, 1), (6, .iconst (-1), 1), (7, .putfield 37, 3), (10, .return_, 1)]
theorem ttX6_rewind : zdt cX6_rewind tX6_rewind = true := by decide +kernel
abbrev q_X6_rewind (h : zM) : Option zV → zM → Prop := zqv fun h' => okC h'
set_option maxRecDepth 100000 in
set_option maxHeartbeats 4000000 in
theorem s_X6_rewind (l : Launch) (h : zM) (s0 : okC h) : zT shC l yX6_rewind cX6_rewind 1 none (rmL 1) 0 0 [.inr 103] h (q_X6_rewind h) := by
  refine zT_of (by decide +kernel) (L0 := [some (.inr 103)]) rfl (Nat.le_of_ble_eq_true rfl) ?_
  refine zj_aload_n (zdk ttX6_rewind 0 rfl rfl) rfl (by decide) ?_
  refine zj_iconst (zdk ttX6_rewind 1 rfl rfl) ?_
  refine zj_puti (zdk ttX6_rewind 2 rfl rfl) zf_RX6_34 rfl (k_L103 s0) (Or.inl zw_RX6_34) (k2 := 7) rfl (fun h1 e2 => ?_)
  refine zj_aload_n (zdk ttX6_rewind 3 rfl rfl) rfl (by decide) ?_
  refine zj_iconst (zdk ttX6_rewind 4 rfl rfl) ?_
  have s3 : okC h1 := fw_L103_7 s0 e2 (by omega)
  refine zj_puti (zdk ttX6_rewind 5 rfl rfl) zf_RX6_37 rfl (k_L103 s3) (Or.inl zw_RX6_37) (k2 := 8) rfl (fun h4 e5 => ?_)
  have s6 : okC h4 := fw_L103_8 s3 e5 (by omega)
  exact zj_vret rfl (zdk ttX6_rewind 6 rfl rfl) (Nat.le_refl _) (Nat.le_refl _) ⟨rfl, s6⟩

abbrev tX6_putToken : List (Nat × Instr × Nat) := [(0, .aload_n 0, 1), (1, .getfield 25, 3), (4, .sipush 400, 3), (7, .if_icmp .gt 33, 3), (10, .aload_n 0, 1), (11, .getfield 15, 3), (14, .aload_n 0, 1), (15, .getfield 25, 3), (18, .iload_n 1, 1), (19, .iastore, 1), (20, .aload_n 0, 1), (21, .getfield 18, 3), (24, .aload_n 0, 1), (25, .getfield 25, 3), (28, .iload_n 2, 1), (29, .iastore, 1), (30, .aload_n 0, 1), (31, .dup, 1), (32, .getfield 25, 3), (35, .iconst 1, 1), (36, .iadd, 1), (37, .putfield 25, 3), (40, .return_, 1)]
theorem ttX6_putToken : zdt cX6_putToken tX6_putToken = true := by decide +kernel
abbrev q_X6_putToken (h : zM) (p1 : Int) (p2 : Int) : Option zV → zM → Prop := zqv fun h' => okC h'
set_option maxRecDepth 100000 in
set_option maxHeartbeats 4000000 in
theorem s_X6_putToken (l : Launch) (h : zM) (p1 : Int) (p2 : Int) (s0 : okC h) (b_p1 : (-2147483648) ≤ p1 ∧ p1 ≤ 2147483647) (b_p2 : (-2147483648) ≤ p2 ∧ p2 ≤ 2147483647) : zT shC l yX6_putToken cX6_putToken 3 none (rmL 1) 0 0 [.inr 103, .inl p1, .inl p2] h (q_X6_putToken h p1 p2) := by
  refine zT_of (by decide +kernel) (L0 := [some (.inr 103), some (.inl p1), some (.inl p2)]) rfl (Nat.le_of_ble_eq_true rfl) ?_
  refine zj_aload_n (zdk ttX6_putToken 0 rfl rfl) rfl (by decide) ?_
  have b1 : 0 ≤ (h.2 103 4) ∧ (h.2 103 4) ≤ 401 := fb_L103_4 s0
  refine zj_geti (v := (h.2 103 4)) (zdk ttX6_putToken 1 rfl rfl) zf_RX6_25 rfl (k_L103 s0) rfl ?_
  refine zj_sipush (zdk ttX6_putToken 2 rfl rfl) (by decide) ?_
  refine zj_icmp_gt (t := 40) (zdk ttX6_putToken 3 rfl rfl) (by decide) (by omega) (by decide) (fun c2 => ?_) (fun c2 => ?_)
  · exact zj_vret rfl (zdk ttX6_putToken 22 rfl rfl) (Nat.le_refl _) (Nat.le_refl _) ⟨rfl, s0⟩
  · refine zj_aload_n (zdk ttX6_putToken 4 rfl rfl) rfl (by decide) ?_
    refine zj_getr (r := 105) (zdk ttX6_putToken 5 rfl rfl) zf_RX6_15 rfl (k_L103 s0) (rf_L103_1 s0) ?_
    refine zj_aload_n (zdk ttX6_putToken 6 rfl rfl) rfl (by decide) ?_
    refine zj_geti (v := (h.2 103 4)) (zdk ttX6_putToken 7 rfl rfl) zf_RX6_25 rfl (k_L103 s0) rfl ?_
    refine zj_iload_n (zdk ttX6_putToken 8 rfl rfl) rfl ?_
    refine zj_iast (zdk ttX6_putToken 9 rfl rfl) (ka_L103_1 s0) (by decide) (by omega) (fun h3 e4 => ?_)
    refine zj_aload_n (zdk ttX6_putToken 10 rfl rfl) rfl (by decide) ?_
    have s5 : okC h3 := aw_L103_1 s0 e4 (by omega)
    refine zj_getr (r := 106) (zdk ttX6_putToken 11 rfl rfl) zf_RX6_18 rfl (k_L103 s5) (rf_L103_2 s5) ?_
    refine zj_aload_n (zdk ttX6_putToken 12 rfl rfl) rfl (by decide) ?_
    refine zj_geti (v := (h.2 103 4)) (zdk ttX6_putToken 13 rfl rfl) zf_RX6_25 rfl (k_L103 s5) (zwr_r e4 (by omega)) ?_
    refine zj_iload_n (zdk ttX6_putToken 14 rfl rfl) rfl ?_
    refine zj_iast (zdk ttX6_putToken 15 rfl rfl) (ka_L103_2 s5) (by decide) (by omega) (fun h6 e7 => ?_)
    refine zj_aload_n (zdk ttX6_putToken 16 rfl rfl) rfl (by decide) ?_
    refine zj_dup (zdk ttX6_putToken 17 rfl rfl) ?_
    have s8 : okC h6 := aw_L103_2 s5 e7 (by omega)
    refine zj_geti (v := (h.2 103 4)) (zdk ttX6_putToken 18 rfl rfl) zf_RX6_25 rfl (k_L103 s8) ((zwr_r e7 (by omega)).trans (zwr_r e4 (by omega))) ?_
    refine zj_iconst (zdk ttX6_putToken 19 rfl rfl) ?_
    refine zj_iadd (zdk ttX6_putToken 20 rfl rfl) ?_
    refine zj_puti (zdk ttX6_putToken 21 rfl rfl) zf_RX6_25 rfl (k_L103 s8) (Or.inl zw_RX6_25) (k2 := 4) rfl (fun h9 e10 => ?_)
    have s11 : okC h9 := fw_L103_4 s8 e10 (by omega)
    exact zj_vret rfl (zdk ttX6_putToken 22 rfl rfl) (Nat.le_refl _) (Nat.le_refl _) ⟨rfl, s11⟩
