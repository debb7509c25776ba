abbrev tX6_isSame : List (Nat × Instr × Nat) := [(0, .iload_n 2, 1), (1, .istore 5, 2), (3, .iload 5, 2), (5, .iload_n 3, 1), (6, .if_icmp .ge 44, 3), (9, .iload 4, 2), (11, .iload 5, 2), (13, .iadd, 1), (14, .iload_n 2, 1), (15, .isub, 1), (16, .istore 6, 2), (18, .iload 6, 2), (20, .sipush 400, 3), (23, .if_icmp .ge 19, 3), (26, .aload_n 1, 1), (27, .iload 5, 2), (29, .invokevirtual 73, 3), (32, .aload_n 0, 1), (33, .getfield 11, 3), (36, .iload 6, 2), (38, .iaload, 1), (39, .if_icmp .eq 5, 3), (42, .iconst 0, 1), (43, .ireturn, 1), (44, .iinc 5 1, 3), (47, .goto (-44), 3), (50, .iconst 1, 1), (51, .ireturn, 1)]
theorem ttX6_isSame : zdt cX6_isSame tX6_isSame = true := by decide +kernel
abbrev q_X6_isSame (h : zM) (i_p1 : Nat) (p2 : Int) (p3 : Int) (p4 : Int) : Option zV → zM → Prop := zqi fun v h' => h = h' ∧ (0 ≤ v ∧ v ≤ 1)
set_option maxRecDepth 100000 in
set_option maxHeartbeats 4000000 in
theorem s_X6_isSame (l : Launch) (h : zM) (i_p1 : Nat) (p2 : Int) (p3 : Int) (p4 : Int) (s0 : okC h) (hi_p1 : i_p1 < 5) (b_p2 : 0 ≤ p2 ∧ p2 ≤ 99) (b_p3 : 0 ≤ p3 ∧ p3 ≤ 99) (b_p4 : 0 ≤ p4 ∧ p4 ≤ 400) (u_0 : p3 ≤ zln i_p1) : zT shC l yX6_isSame cX6_isSame 7 (some .boolean) (rmL 6) 0 0 [.inr 103, .inr (-2 - ((i_p1 : Nat) : Int)), .inl p2, .inl p3, .inl p4] h (q_X6_isSame h i_p1 p2 p3 p4) := by
  refine zT_of (by decide +kernel) (L0 := [some (.inr 103), some (.inr (-2 - ((i_p1 : Nat) : Int))), some (.inl p2), some (.inl p3), some (.inl p4), none, none]) rfl (Nat.le_of_ble_eq_true rfl) ?_
  refine zj_iload_n (zdk ttX6_isSame 0 rfl rfl) rfl ?_
  refine zj_istore (L' := [some (.inr 103), some (.inr (-2 - ((i_p1 : Nat) : Int))), some (.inl p2), some (.inl p3), some (.inl p4), some (.inl p2), none]) (zdk ttX6_isSame 1 rfl rfl) (by decide) rfl ?_
  have lp10 : ∀ (n : Nat) (x1 : Int), (0 ≤ x1 ∧ x1 ≤ 99) → (p2 ≤ x1) → (100 - x1).toNat < n → zJ shC l yX6_isSame cX6_isSame 7 (some .boolean) (rmL 6) 0 0 (q_X6_isSame h i_p1 p2 p3 p4) 0 0 3 [some (.inr 103), some (.inr (-2 - ((i_p1 : Nat) : Int))), some (.inl p2), some (.inl p3), some (.inl p4), some (.inl x1), none] [] h := by
    intro n
    induction n with
    | zero => intro x1 b11 u12 m13; exact absurd m13 (Nat.not_lt_zero _)
    | succ n ih14 =>
      intro x1 b11 u12 m13
      refine zj_iload (zdk ttX6_isSame 2 rfl rfl) rfl ?_
      refine zj_iload_n (zdk ttX6_isSame 3 rfl rfl) rfl ?_
      refine zj_icmp_ge (t := 50) (zdk ttX6_isSame 4 rfl rfl) (by decide) (by omega) (by omega) (fun c15 => ?_) (fun c15 => ?_)
      · refine zj_iconst (zdk ttX6_isSame 26 rfl rfl) ?_
        exact zj_zret rfl (zdk ttX6_isSame 27 rfl rfl) (Nat.le_refl _) (Nat.le_refl _) (by omega) ⟨1, rfl, rfl, by omega⟩
      · refine zj_iload (zdk ttX6_isSame 5 rfl rfl) rfl ?_
        refine zj_iload (zdk ttX6_isSame 6 rfl rfl) rfl ?_
        refine zj_iadd (zdk ttX6_isSame 7 rfl rfl) ?_
        refine zj_iload_n (zdk ttX6_isSame 8 rfl rfl) rfl ?_
        refine zj_isub (zdk ttX6_isSame 9 rfl rfl) ?_
        refine zj_istore (L' := [some (.inr 103), some (.inr (-2 - ((i_p1 : Nat) : Int))), some (.inl p2), some (.inl p3), some (.inl p4), some (.inl x1), some (.inl ((p4 + x1) - p2))]) (zdk ttX6_isSame 10 rfl rfl) (by decide) rfl ?_
        refine zj_iload (zdk ttX6_isSame 11 rfl rfl) rfl ?_
        refine zj_sipush (zdk ttX6_isSame 12 rfl rfl) (by decide) ?_
        refine zj_icmp_ge (t := 42) (zdk ttX6_isSame 13 rfl rfl) (by decide) (by omega) (by decide) (fun c16 => ?_) (fun c16 => ?_)
        · refine zj_iconst (zdk ttX6_isSame 22 rfl rfl) ?_
          exact zj_zret rfl (zdk ttX6_isSame 23 rfl rfl) (Nat.le_refl _) (Nat.le_refl _) (by omega) ⟨0, rfl, rfl, by omega⟩
        · refine zj_aload_n (zdk ttX6_isSame 14 rfl rfl) rfl (by omega) ?_
          refine zj_iload (zdk ttX6_isSame 15 rfl rfl) rfl ?_
          have b20l := zln_b i_p1 hi_p1
          refine zj_callVs hi_p1 (av := [.inl x1]) (st := []) (zdk ttX6_isSame 16 rfl rfl) mb_J0_charAt_5068e mv_RX6_73 rfl rfl rfl (Nat.le_of_ble_eq_true rfl) (s_J0_charAt_5068e shC l h i_p1 x1 hi_p1 (by omega)) (rm_ok (by decide) (by decide)) (zq_i fun v17 h18 q19 => ?_)
          obtain ⟨rfl, b20e⟩ := q19
          have b20z := zbv_b i_p1 hi_p1 (x1).toNat (by omega)
          have b20 : 0 ≤ v17 ∧ v17 ≤ 127 := by omega
          refine zj_aload_n (zdk ttX6_isSame 17 rfl rfl) rfl (by decide) ?_
          refine zj_getr (r := 104) (zdk ttX6_isSame 18 rfl rfl) zf_RX6_11 rfl (k_L103 s0) (rf_L103_0 s0) ?_
          refine zj_iload (zdk ttX6_isSame 19 rfl rfl) rfl ?_
          have b21 : 0 ≤ (h.2 104 ((p4 + x1) - p2)) ∧ (h.2 104 ((p4 + x1) - p2)) ≤ 255 := ab_L103_0 s0 ((p4 + x1) - p2)
          refine zj_iald (v := (h.2 104 ((p4 + x1) - p2))) (zdk ttX6_isSame 20 rfl rfl) (ka_L103_0 s0) (by decide) (by omega) rfl ?_
          refine zj_icmp_eq (t := 44) (zdk ttX6_isSame 21 rfl rfl) (by decide) (by omega) (by omega) (fun c22 => ?_) (fun c22 => ?_)
          · refine zj_iinc (L' := [some (.inr 103), some (.inr (-2 - ((i_p1 : Nat) : Int))), some (.inl p2), some (.inl p3), some (.inl p4), some (.inl (x1 + 1)), some (.inl ((p4 + x1) - p2))]) (zdk ttX6_isSame 24 rfl rfl) rfl (by decide) rfl ?_
            refine zj_goto (t := 3) (zdk ttX6_isSame 25 rfl rfl) (by decide) ?_
            refine zj_kill (k := 6) (L' := [some (.inr 103), some (.inr (-2 - ((i_p1 : Nat) : Int))), some (.inl p2), some (.inl p3), some (.inl p4), some (.inl (x1 + 1)), none]) rfl ?_
            exact ih14  (x1 + 1) (by omega) (by omega) (by omega)
          · refine zj_iconst (zdk ttX6_isSame 22 rfl rfl) ?_
            exact zj_zret rfl (zdk ttX6_isSame 23 rfl rfl) (Nat.le_refl _) (Nat.le_refl _) (by omega) ⟨0, rfl, rfl, by omega⟩
  exact lp10 _ p2 (by omega) (by omega) (Nat.lt_succ_self _)

abbrev tX6_wordAt : List (Nat × Instr × Nat) := [(0, .iconst 0, 1), (1, .istore 4, 2), (3, .iconst 0, 1), (4, .istore 5, 2), (6, .iconst 0, 1), (7, .istore 6, 2), (9, .iload 6, 2), (11, .aload_n 1, 1), (12, .invokevirtual 70, 3), (15, .if_icmp .ge 63, 3), (18, .aload_n 1, 1), (19, .iload 6, 2), (21, .invokevirtual 73, 3), (24, .bipush 32, 2), (26, .if_icmp .eq 6, 3), (29, .goto 43, 3), (32, .iload 6, 2), (34, .iload 4, 2), (36, .isub, 1), (37, .iload_n 3, 1), (38, .iload_n 2, 1), (39, .isub, 1), (40, .if_icmp .ne 23, 3), (43, .aload_n 0, 1), (44, .aload_n 1, 1), (45, .iload 4, 2), (47, .iload 6, 2), (49, .iload_n 2, 1), (50, .invokevirtual 77, 3), (53, .ifCond .eq 10, 3), (56, .sipush 200, 3), (59, .iload 5, 2), (61, .iadd, 1), (62, .ireturn, 1), (63, .iload 6, 2), (65, .iconst 1, 1), (66, .iadd, 1), (67, .istore 4, 2), (69, .iinc 5 1, 3), (72, .iinc 6 1, 3), (75, .goto (-66), 3), (78, .iconst 1, 1), (79, .ireturn, 1)]
theorem ttX6_wordAt : zdt cX6_wordAt tX6_wordAt = true := by decide +kernel
abbrev q_X6_wordAt (h : zM) (i_p1 : Nat) (p2 : Int) (p3 : Int) : Option zV → zM → Prop := zqi fun v h' => h = h' ∧ ((-2147483648) ≤ v ∧ v ≤ 2147483647)
set_option maxRecDepth 100000 in
set_option maxHeartbeats 4000000 in
theorem s_X6_wordAt (l : Launch) (h : zM) (i_p1 : Nat) (p2 : Int) (p3 : Int) (s0 : okC h) (hi_p1 : i_p1 < 5) (b_p2 : 0 ≤ p2 ∧ p2 ≤ 400) (b_p3 : 0 ≤ p3 ∧ p3 ≤ 400) : zT shC l yX6_wordAt cX6_wordAt 7 (some .int) (rmL 7) 0 0 [.inr 103, .inr (-2 - ((i_p1 : Nat) : Int)), .inl p2, .inl p3] h (q_X6_wordAt h i_p1 p2 p3) := by
  refine zT_of (by decide +kernel) (L0 := [some (.inr 103), some (.inr (-2 - ((i_p1 : Nat) : Int))), some (.inl p2), some (.inl p3), none, none, none]) rfl (Nat.le_of_ble_eq_true rfl) ?_
  refine zj_iconst (zdk ttX6_wordAt 0 rfl rfl) ?_
  refine zj_istore (L' := [some (.inr 103), some (.inr (-2 - ((i_p1 : Nat) : Int))), some (.inl p2), some (.inl p3), some (.inl 0), none, none]) (zdk ttX6_wordAt 1 rfl rfl) (by decide) rfl ?_
  refine zj_iconst (zdk ttX6_wordAt 2 rfl rfl) ?_
  refine zj_istore (L' := [some (.inr 103), some (.inr (-2 - ((i_p1 : Nat) : Int))), some (.inl p2), some (.inl p3), some (.inl 0), some (.inl 0), none]) (zdk ttX6_wordAt 3 rfl rfl) (by decide) rfl ?_
  refine zj_iconst (zdk ttX6_wordAt 4 rfl rfl) ?_
  refine zj_istore (L' := [some (.inr 103), some (.inr (-2 - ((i_p1 : Nat) : Int))), some (.inl p2), some (.inl p3), some (.inl 0), some (.inl 0), some (.inl 0)]) (zdk ttX6_wordAt 5 rfl rfl) (by decide) rfl ?_
  have lp202 : ∀ (n : Nat) (x1 x2 x3 : Int), (0 ≤ x1 ∧ x1 ≤ 99) → (-2147483648 ≤ x2 ∧ x2 ≤ 2147483647) → (0 ≤ x3 ∧ x3 ≤ 99) → (100 - x3).toNat < n → zJ shC l yX6_wordAt cX6_wordAt 7 (some .int) (rmL 7) 0 0 (q_X6_wordAt h i_p1 p2 p3) 0 0 9 [some (.inr 103), some (.inr (-2 - ((i_p1 : Nat) : Int))), some (.inl p2), some (.inl p3), some (.inl x1), some (.inl x2), some (.inl x3)] [] h := by
    intro n
    induction n with
    | zero => intro x1 x2 x3 b203 b204 b205 m206; exact absurd m206 (Nat.not_lt_zero _)
    | succ n ih207 =>
      intro x1 x2 x3 b203 b204 b205 m206
      refine zj_iload (zdk ttX6_wordAt 6 rfl rfl) rfl ?_
      refine zj_aload_n (zdk ttX6_wordAt 7 rfl rfl) rfl (by omega) ?_
      refine zj_callVs hi_p1 (av := []) (st := [.inl x3]) (zdk ttX6_wordAt 8 rfl rfl) mb_J0_length_8abf5 mv_RX6_70 rfl rfl rfl (Nat.le_of_ble_eq_true rfl) (s_J0_length_8abf5 shC l h i_p1 hi_p1) (rm_ok (by decide) (by decide)) (zq_i fun v208 h209 q210 => ?_)
      obtain ⟨rfl, rfl⟩ := q210
      have b211 := zln_b i_p1 hi_p1
      refine zj_icmp_ge (t := 78) (zdk ttX6_wordAt 9 rfl rfl) (by decide) (by omega) (by omega) (fun c212 => ?_) (fun c212 => ?_)
      · refine zj_iconst (zdk ttX6_wordAt 41 rfl rfl) ?_
        exact zj_iret rfl (zdk ttX6_wordAt 42 rfl rfl) (Nat.le_refl _) (Nat.le_refl _) ⟨1, rfl, rfl, by omega⟩
      · refine zj_aload_n (zdk ttX6_wordAt 10 rfl rfl) rfl (by omega) ?_
        refine zj_iload (zdk ttX6_wordAt 11 rfl rfl) rfl ?_
        have b216l := zln_b i_p1 hi_p1
        refine zj_callVs hi_p1 (av := [.inl x3]) (st := []) (zdk ttX6_wordAt 12 rfl rfl) mb_J0_charAt_5068e mv_RX6_73 rfl rfl rfl (Nat.le_of_ble_eq_true rfl) (s_J0_charAt_5068e shC l h i_p1 x3 hi_p1 (by omega)) (rm_ok (by decide) (by decide)) (zq_i fun v213 h214 q215 => ?_)
        obtain ⟨rfl, b216e⟩ := q215
        have b216z := zbv_b i_p1 hi_p1 (x3).toNat (by omega)
        have b216 : 0 ≤ v213 ∧ v213 ≤ 127 := by omega
        refine zj_bipush (zdk ttX6_wordAt 13 rfl rfl) (by decide) ?_
        refine zj_icmp_eq (t := 32) (zdk ttX6_wordAt 14 rfl rfl) (by decide) (by omega) (by decide) (fun c217 => ?_) (fun c217 => ?_)
        · refine zj_iload (zdk ttX6_wordAt 16 rfl rfl) rfl ?_
          refine zj_iload (zdk ttX6_wordAt 17 rfl rfl) rfl ?_
          refine zj_isub (zdk ttX6_wordAt 18 rfl rfl) ?_
          refine zj_iload_n (zdk ttX6_wordAt 19 rfl rfl) rfl ?_
          refine zj_iload_n (zdk ttX6_wordAt 20 rfl rfl) rfl ?_
          refine zj_isub (zdk ttX6_wordAt 21 rfl rfl) ?_
          refine zj_icmp_ne (t := 63) (zdk ttX6_wordAt 22 rfl rfl) (by decide) (by omega) (by omega) (fun c218 => ?_) (fun c218 => ?_)
          · refine zj_iload (zdk ttX6_wordAt 34 rfl rfl) rfl ?_
            refine zj_iconst (zdk ttX6_wordAt 35 rfl rfl) ?_
            refine zj_iadd (zdk ttX6_wordAt 36 rfl rfl) ?_
            refine zj_istore (L' := [some (.inr 103), some (.inr (-2 - ((i_p1 : Nat) : Int))), some (.inl p2), some (.inl p3), some (.inl (x3 + 1)), some (.inl x2), some (.inl x3)]) (zdk ttX6_wordAt 37 rfl rfl) (by decide) rfl ?_
            refine zj_iinc (L' := [some (.inr 103), some (.inr (-2 - ((i_p1 : Nat) : Int))), some (.inl p2), some (.inl p3), some (.inl (x3 + 1)), some (.inl (x2 + 1)), some (.inl x3)]) (zdk ttX6_wordAt 38 rfl rfl) rfl (by decide) rfl ?_
            have b219 := zwp_in (x2 + 1)
            refine zj_wrapl (k := 5) (L' := [some (.inr 103), some (.inr (-2 - ((i_p1 : Nat) : Int))), some (.inl p2), some (.inl p3), some (.inl (x3 + 1)), some (.inl (zwp (x2 + 1))), some (.inl x3)]) rfl rfl ?_
            refine zj_iinc (L' := [some (.inr 103), some (.inr (-2 - ((i_p1 : Nat) : Int))), some (.inl p2), some (.inl p3), some (.inl (x3 + 1)), some (.inl (zwp (x2 + 1))), some (.inl (x3 + 1))]) (zdk ttX6_wordAt 39 rfl rfl) rfl (by decide) rfl ?_
            refine zj_goto (t := 9) (zdk ttX6_wordAt 40 rfl rfl) (by decide) ?_
            exact ih207  (x3 + 1) (zwp (x2 + 1)) (x3 + 1) (by omega) (by omega) (by omega) (by omega)
          · refine zj_aload_n (zdk ttX6_wordAt 23 rfl rfl) rfl (by decide) ?_
            refine zj_aload_n (zdk ttX6_wordAt 24 rfl rfl) rfl (by omega) ?_
            refine zj_iload (zdk ttX6_wordAt 25 rfl rfl) rfl ?_
            refine zj_iload (zdk ttX6_wordAt 26 rfl rfl) rfl ?_
            refine zj_iload_n (zdk ttX6_wordAt 27 rfl rfl) rfl ?_
            refine zj_callV (av := [.inr (-2 - ((i_p1 : Nat) : Int)), .inl x1, .inl x3, .inl p2]) (st := []) (zdk ttX6_wordAt 28 rfl rfl) mb_X6_isSame mv_RX6_77 (ci := 6) rfl rfl (k_L103 s0) rfl rfl (Nat.le_of_ble_eq_true rfl) (s_X6_isSame l h i_p1 x1 x3 p2 s0 hi_p1 (by omega) (by omega) (by omega) (by omega)) (rm_ok (by decide) (by decide)) (zq_i fun v221 h222 q220 => ?_)
            obtain ⟨rfl, b223⟩ := q220
            refine zj_if_eq (t := 63) (zdk ttX6_wordAt 29 rfl rfl) (by decide) (by omega) (fun c224 => ?_) (fun c224 => ?_)
            · refine zj_iload (zdk ttX6_wordAt 34 rfl rfl) rfl ?_
              refine zj_iconst (zdk ttX6_wordAt 35 rfl rfl) ?_
              refine zj_iadd (zdk ttX6_wordAt 36 rfl rfl) ?_
              refine zj_istore (L' := [some (.inr 103), some (.inr (-2 - ((i_p1 : Nat) : Int))), some (.inl p2), some (.inl p3), some (.inl (x3 + 1)), some (.inl x2), some (.inl x3)]) (zdk ttX6_wordAt 37 rfl rfl) (by decide) rfl ?_
              refine zj_iinc (L' := [some (.inr 103), some (.inr (-2 - ((i_p1 : Nat) : Int))), some (.inl p2), some (.inl p3), some (.inl (x3 + 1)), some (.inl (x2 + 1)), some (.inl x3)]) (zdk ttX6_wordAt 38 rfl rfl) rfl (by decide) rfl ?_
              have b225 := zwp_in (x2 + 1)
              refine zj_wrapl (k := 5) (L' := [some (.inr 103), some (.inr (-2 - ((i_p1 : Nat) : Int))), some (.inl p2), some (.inl p3), some (.inl (x3 + 1)), some (.inl (zwp (x2 + 1))), some (.inl x3)]) rfl rfl ?_
              refine zj_iinc (L' := [some (.inr 103), some (.inr (-2 - ((i_p1 : Nat) : Int))), some (.inl p2), some (.inl p3), some (.inl (x3 + 1)), some (.inl (zwp (x2 + 1))), some (.inl (x3 + 1))]) (zdk ttX6_wordAt 39 rfl rfl) rfl (by decide) rfl ?_
              refine zj_goto (t := 9) (zdk ttX6_wordAt 40 rfl rfl) (by decide) ?_
              exact ih207  (x3 + 1) (zwp (x2 + 1)) (x3 + 1) (by omega) (by omega) (by omega) (by omega)
            · refine zj_sipush (zdk ttX6_wordAt 30 rfl rfl) (by decide) ?_
              refine zj_iload (zdk ttX6_wordAt 31 rfl rfl) rfl ?_
              refine zj_iadd (zdk ttX6_wordAt 32 rfl rfl) ?_
              refine zj_wrap ?_
              have b226 := zwp_in (200 + x2)
              exact zj_iret rfl (zdk ttX6_wordAt 33 rfl rfl) (Nat.le_refl _) (Nat.le_refl _) ⟨(zwp (200 + x2)), rfl, rfl, by omega⟩
        · refine zj_goto (t := 72) (zdk ttX6_wordAt 15 rfl rfl) (by decide) ?_
          refine zj_iinc (L' := [some (.inr 103), some (.inr (-2 - ((i_p1 : Nat) : Int))), some (.inl p2), some (.inl p3), some (.inl x1), some (.inl x2), some (.inl (x3 + 1))]) (zdk ttX6_wordAt 39 rfl rfl) rfl (by decide) rfl ?_
          refine zj_goto (t := 9) (zdk ttX6_wordAt 40 rfl rfl) (by decide) ?_
          exact ih207  x1 x2 (x3 + 1) (by omega) (by omega) (by omega) (by omega)
  exact lp202 _ 0 0 0 (by omega) (by omega) (by omega) (Nat.lt_succ_self _)

abbrev tX6_cut : List (Nat × Instr × Nat) := [(0, .aload_n 0, 1), (1, .iconst 0, 1), (2, .putfield 25, 3), (5, .aload_n 0, 1), (6, .iconst 0, 1), (7, .putfield 28, 3), (10, .iconst 0, 1), (11, .istore_n 2, 1), (12, .iconst 0, 1), (13, .istore_n 3, 1), (14, .iload_n 3, 1), (15, .aload_n 0, 1), (16, .getfield 21, 3), (19, .if_icmp .ge 153, 3), (22, .iload_n 3, 1), (23, .iconst 1, 1), (24, .iadd, 1), (25, .istore_n 2, 1), (26, .aload_n 0, 1), (27, .getfield 11, 3), (30, .iload_n 3, 1), (31, .iaload, 1), (32, .istore 4, 2), (34, .iload 4, 2), (36, .invokestatic 43, 3), (39, .ifCond .eq 44, 3), (42, .iload_n 2, 1), (43, .aload_n 0, 1), (44, .getfield 21, 3), (47, .if_icmp .ge 21, 3), (50, .aload_n 0, 1), (51, .getfield 11, 3), (54, .iload_n 2, 1), (55, .iaload, 1), (56, .invokestatic 43, 3), (59, .ifCond .eq 9, 3), (62, .iinc 2 1, 3), (65, .goto (-23), 3), (68, .aload_n 0, 1), (69, .aload_n 0, 1), (70, .aload_n 1, 1), (71, .iload_n 3, 1), (72, .iload_n 2, 1), (73, .invokevirtual 47, 3), (76, .iload_n 3, 1), (77, .invokevirtual 51, 3), (80, .goto 87, 3), (83, .iload 4, 2), (85, .invokestatic 55, 3), (88, .ifCond .eq 43, 3), (91, .iload_n 2, 1), (92, .aload_n 0, 1), (93, .getfield 21, 3), (96, .if_icmp .ge 21, 3), (99, .aload_n 0, 1), (100, .getfield 11, 3), (103, .iload_n 2, 1), (104, .iaload, 1), (105, .invokestatic 55, 3), (108, .ifCond .eq 9, 3), (111, .iinc 2 1, 3), (114, .goto (-23), 3), (117, .aload_n 0, 1), (118, .aload_n 0, 1), (119, .iload_n 3, 1), (120, .iload_n 2, 1), (121, .invokevirtual 58, 3), (124, .iload_n 3, 1), (125, .invokevirtual 51, 3), (128, .goto 39, 3), (131, .iload 4, 2), (133, .bipush 32, 2), (135, .if_icmp .eq 32, 3), (138, .iload 4, 2), (140, .bipush 10, 2), (142, .if_icmp .eq 25, 3), (145, .aload_n 0, 1), (146, .ldc 62, 2), (148, .iload 4, 2), (150, .i2c, 1), (151, .invokevirtual 64, 3), (154, .ifCond .lt 8, 3), (157, .iload 4, 2), (159, .goto 4, 3), (162, .iconst 1, 1), (163, .iload_n 3, 1), (164, .invokevirtual 51, 3), (167, .iload_n 2, 1), (168, .istore_n 3, 1), (169, .goto (-155), 3), (172, .aload_n 0, 1), (173, .iconst 0, 1), (174, .aload_n 0, 1), (175, .getfield 21, 3), (178, .invokevirtual 51, 3), (181, .aload_n 0, 1), (182, .aload_n 0, 1), (183, .getfield 15, 3), (186, .iconst 0, 1), (187, .iaload, 1), (188, .putfield 31, 3), (191, .return_, 1)]
theorem ttX6_cut : zdt cX6_cut tX6_cut = true := by decide +kernel
abbrev q_X6_cut (h : zM) (i_p1 : Nat) : Option zV → zM → Prop := zqv fun h' => okC h'
set_option maxRecDepth 100000 in
set_option maxHeartbeats 4000000 in
theorem s_X6_cut (l : Launch) (h : zM) (i_p1 : Nat) (s0 : okC h) (hi_p1 : i_p1 < 5) : zT shC l yX6_cut cX6_cut 5 none (rmL 8) 0 0 [.inr 103, .inr (-2 - ((i_p1 : Nat) : Int))] h (q_X6_cut h i_p1) := by
  refine zT_of (by decide +kernel) (L0 := [some (.inr 103), some (.inr (-2 - ((i_p1 : Nat) : Int))), none, none, none]) rfl (Nat.le_of_ble_eq_true rfl) ?_
  refine zj_aload_n (zdk ttX6_cut 0 rfl rfl) rfl (by decide) ?_
  refine zj_iconst (zdk ttX6_cut 1 rfl rfl) ?_
  refine zj_puti (zdk ttX6_cut 2 rfl rfl) zf_RX6_25 rfl (k_L103 s0) (Or.inl zw_RX6_25) (k2 := 4) rfl (fun h1 e2 => ?_)
  refine zj_aload_n (zdk ttX6_cut 3 rfl rfl) rfl (by decide) ?_
  refine zj_iconst (zdk ttX6_cut 4 rfl rfl) ?_
  have s3 : okC h1 := fw_L103_4 s0 e2 (by omega)
  refine zj_puti (zdk ttX6_cut 5 rfl rfl) zf_RX6_28 rfl (k_L103 s3) (Or.inl zw_RX6_28) (k2 := 5) rfl (fun h4 e5 => ?_)
  refine zj_iconst (zdk ttX6_cut 6 rfl rfl) ?_
  refine zj_istore_n (L' := [some (.inr 103), some (.inr (-2 - ((i_p1 : Nat) : Int))), some (.inl 0), none, none]) (zdk ttX6_cut 7 rfl rfl) (by decide) rfl ?_
  refine zj_iconst (zdk ttX6_cut 8 rfl rfl) ?_
  refine zj_istore_n (L' := [some (.inr 103), some (.inr (-2 - ((i_p1 : Nat) : Int))), some (.inl 0), some (.inl 0), none]) (zdk ttX6_cut 9 rfl rfl) (by decide) rfl ?_
  have lp394 : ∀ (n : Nat) (x6 x7 : Int) (h8 : zM), (0 ≤ x6 ∧ x6 ≤ 400) → (0 ≤ x7 ∧ x7 ≤ 400) → okC h8 → (401 - x7).toNat < n → zJ shC l yX6_cut cX6_cut 5 none (rmL 8) 0 0 (q_X6_cut h i_p1) 0 0 14 [some (.inr 103), some (.inr (-2 - ((i_p1 : Nat) : Int))), some (.inl x6), some (.inl x7), none] [] h8 := by
    intro n
    induction n with
    | zero => intro x6 x7 h8 b395 b396 s9 m397; exact absurd m397 (Nat.not_lt_zero _)
    | succ n ih398 =>
      intro x6 x7 h8 b395 b396 s9 m397
      refine zj_iload_n (zdk ttX6_cut 10 rfl rfl) rfl ?_
      refine zj_aload_n (zdk ttX6_cut 11 rfl rfl) rfl (by decide) ?_
      have b399 : 0 ≤ (h8.2 103 3) ∧ (h8.2 103 3) ≤ 400 := fb_L103_3 s9
      refine zj_geti (v := (h8.2 103 3)) (zdk ttX6_cut 12 rfl rfl) zf_RX6_21 rfl (k_L103 s9) rfl ?_
      refine zj_icmp_ge (t := 172) (zdk ttX6_cut 13 rfl rfl) (by decide) (by omega) (by omega) (fun c400 => ?_) (fun c400 => ?_)
      · refine zj_aload_n (zdk ttX6_cut 90 rfl rfl) rfl (by decide) ?_
        refine zj_iconst (zdk ttX6_cut 91 rfl rfl) ?_
        refine zj_aload_n (zdk ttX6_cut 92 rfl rfl) rfl (by decide) ?_
        refine zj_geti (v := (h8.2 103 3)) (zdk ttX6_cut 93 rfl rfl) zf_RX6_21 rfl (k_L103 s9) rfl ?_
        refine zj_callV (av := [.inl 0, .inl (h8.2 103 3)]) (st := []) (zdk ttX6_cut 94 rfl rfl) mb_X6_putToken mv_RX6_51 (ci := 6) rfl rfl (k_L103 s9) rfl rfl (Nat.le_of_ble_eq_true rfl) (s_X6_putToken l h8 0 (h8.2 103 3) s9 (by omega) (by omega)) (rm_ok (by decide) (by decide)) (zq_v fun h403 q401 => ?_)
        refine zj_aload_n (zdk ttX6_cut 95 rfl rfl) rfl (by decide) ?_
        refine zj_aload_n (zdk ttX6_cut 96 rfl rfl) rfl (by decide) ?_
        refine zj_getr (r := 105) (zdk ttX6_cut 97 rfl rfl) zf_RX6_15 rfl (k_L103 q401) (rf_L103_1 q401) ?_
        refine zj_iconst (zdk ttX6_cut 98 rfl rfl) ?_
        have b406 : -2147483648 ≤ (h403.2 105 0) ∧ (h403.2 105 0) ≤ 2147483647 := ab_L103_1 q401 0
        refine zj_iald (v := (h403.2 105 0)) (zdk ttX6_cut 99 rfl rfl) (ka_L103_1 q401) (by decide) (by omega) rfl ?_
        refine zj_puti (zdk ttX6_cut 100 rfl rfl) zf_RX6_31 rfl (k_L103 q401) (Or.inl zw_RX6_31) (k2 := 6) rfl (fun h407 e408 => ?_)
        have s409 : okC h407 := fw_L103_6 q401 e408 (by omega)
        exact zj_vret rfl (zdk ttX6_cut 101 rfl rfl) (Nat.le_refl _) (Nat.le_refl _) ⟨rfl, s409⟩
      · refine zj_iload_n (zdk ttX6_cut 14 rfl rfl) rfl ?_
        refine zj_iconst (zdk ttX6_cut 15 rfl rfl) ?_
        refine zj_iadd (zdk ttX6_cut 16 rfl rfl) ?_
        refine zj_istore_n (L' := [some (.inr 103), some (.inr (-2 - ((i_p1 : Nat) : Int))), some (.inl (x7 + 1)), some (.inl x7), none]) (zdk ttX6_cut 17 rfl rfl) (by decide) rfl ?_
        refine zj_aload_n (zdk ttX6_cut 18 rfl rfl) rfl (by decide) ?_
        refine zj_getr (r := 104) (zdk ttX6_cut 19 rfl rfl) zf_RX6_11 rfl (k_L103 s9) (rf_L103_0 s9) ?_
        refine zj_iload_n (zdk ttX6_cut 20 rfl rfl) rfl ?_
        have b410 : 0 ≤ (h8.2 104 x7) ∧ (h8.2 104 x7) ≤ 255 := ab_L103_0 s9 x7
        refine zj_iald (v := (h8.2 104 x7)) (zdk ttX6_cut 21 rfl rfl) (ka_L103_0 s9) (by decide) (by omega) rfl ?_
        refine zj_istore (L' := [some (.inr 103), some (.inr (-2 - ((i_p1 : Nat) : Int))), some (.inl (x7 + 1)), some (.inl x7), some (.inl (h8.2 104 x7))]) (zdk ttX6_cut 22 rfl rfl) (by decide) rfl ?_
        refine zj_iload (zdk ttX6_cut 23 rfl rfl) rfl ?_
        refine zj_callS (av := [.inl (h8.2 104 x7)]) (st := []) (zdk ttX6_cut 24 rfl rfl) mb_X6_isLetter ms_RX6_43 rfl rfl (Nat.le_of_ble_eq_true rfl) (s_X6_isLetter l h8 (h8.2 104 x7) s9 (by omega)) (rm_ok (by decide) (by decide)) (zq_i fun v412 h413 q411 => ?_)
        obtain ⟨rfl, ⟨rfl, b414⟩ | ⟨rfl, b414⟩⟩ := q411
        · refine zj_if_eq (t := 83) (zdk ttX6_cut 25 rfl rfl) (by decide) (by decide) (fun c415 => ?_) (fun c415 => ?_)
          · refine zj_iload (zdk ttX6_cut 47 rfl rfl) rfl ?_
            refine zj_callS (av := [.inl (h8.2 104 x7)]) (st := []) (zdk ttX6_cut 48 rfl rfl) mb_X6_isDigit ms_RX6_55 rfl rfl (Nat.le_of_ble_eq_true rfl) (s_X6_isDigit l h8 (h8.2 104 x7) s9 (by omega)) (rm_ok (by decide) (by decide)) (zq_i fun v417 h418 q416 => ?_)
            obtain ⟨rfl, ⟨rfl, b419⟩ | ⟨rfl, b419⟩⟩ := q416
            · refine zj_if_eq (t := 131) (zdk ttX6_cut 49 rfl rfl) (by decide) (by decide) (fun c420 => ?_) (fun c420 => ?_)
              · refine zj_iload (zdk ttX6_cut 70 rfl rfl) rfl ?_
                refine zj_bipush (zdk ttX6_cut 71 rfl rfl) (by decide) ?_
                refine zj_icmp_eq (t := 167) (zdk ttX6_cut 72 rfl rfl) (by decide) (by omega) (by decide) (fun c421 => ?_) (fun c421 => ?_)
                · refine zj_iload_n (zdk ttX6_cut 87 rfl rfl) rfl ?_
                  refine zj_istore_n (L' := [some (.inr 103), some (.inr (-2 - ((i_p1 : Nat) : Int))), some (.inl (x7 + 1)), some (.inl (x7 + 1)), some (.inl (h8.2 104 x7))]) (zdk ttX6_cut 88 rfl rfl) (by decide) rfl ?_
                  refine zj_goto (t := 14) (zdk ttX6_cut 89 rfl rfl) (by decide) ?_
                  refine zj_kill (k := 4) (L' := [some (.inr 103), some (.inr (-2 - ((i_p1 : Nat) : Int))), some (.inl (x7 + 1)), some (.inl (x7 + 1)), none]) rfl ?_
                  exact ih398  (x7 + 1) (x7 + 1) h8 (by omega) (by omega) s9 (by omega)
                · refine zj_iload (zdk ttX6_cut 73 rfl rfl) rfl ?_
                  refine zj_bipush (zdk ttX6_cut 74 rfl rfl) (by decide) ?_
                  refine zj_icmp_eq (t := 167) (zdk ttX6_cut 75 rfl rfl) (by decide) (by omega) (by decide) (fun c422 => ?_) (fun c422 => ?_)
                  · refine zj_iload_n (zdk ttX6_cut 87 rfl rfl) rfl ?_
                    refine zj_istore_n (L' := [some (.inr 103), some (.inr (-2 - ((i_p1 : Nat) : Int))), some (.inl (x7 + 1)), some (.inl (x7 + 1)), some (.inl (h8.2 104 x7))]) (zdk ttX6_cut 88 rfl rfl) (by decide) rfl ?_
                    refine zj_goto (t := 14) (zdk ttX6_cut 89 rfl rfl) (by decide) ?_
                    refine zj_kill (k := 4) (L' := [some (.inr 103), some (.inr (-2 - ((i_p1 : Nat) : Int))), some (.inl (x7 + 1)), some (.inl (x7 + 1)), none]) rfl ?_
                    exact ih398  (x7 + 1) (x7 + 1) h8 (by omega) (by omega) s9 (by omega)
                  · refine zj_aload_n (zdk ttX6_cut 76 rfl rfl) rfl (by decide) ?_
                    refine zj_ldcS (i := 1) (zdk ttX6_cut 77 rfl rfl) (List.mem_of_getElem? (i := 1) rfl) ?_
                    refine zj_iload (zdk ttX6_cut 78 rfl rfl) rfl ?_
                    refine zj_i2c (zdk ttX6_cut 79 rfl rfl) (by omega) ?_
                    refine zj_callVs (show 1 < 5 by decide) (av := [.inl (h8.2 104 x7)]) (st := [.inr 103]) (zdk ttX6_cut 80 rfl rfl) mb_J0_indexOf_0f7a4 mv_RX6_64 rfl rfl rfl (Nat.le_of_ble_eq_true rfl) (s_J0_indexOf_0f7a4 shC l h8 1 (h8.2 104 x7) (show 1 < 5 by decide) (by decide) (by omega)) (rm_ok (by decide) (by decide)) (zq_i fun v423 h424 q425 => ?_)
                    obtain ⟨rfl, b426e⟩ := q425
                    have b426l := zln_b 1 (show 1 < 5 by decide)
                    have b426 : -1 ≤ v423 ∧ v423 ≤ 99 := by
                      rcases b426e with ⟨z1, _⟩ | ⟨z1, z2, _⟩ <;> omega
                    refine zj_if_lt (t := 162) (zdk ttX6_cut 81 rfl rfl) (by decide) (by omega) (fun c427 => ?_) (fun c427 => ?_)
                    · refine zj_iconst (zdk ttX6_cut 84 rfl rfl) ?_
                      refine zj_iload_n (zdk ttX6_cut 85 rfl rfl) rfl ?_
                      refine zj_callV (av := [.inl 1, .inl x7]) (st := []) (zdk ttX6_cut 86 rfl rfl) mb_X6_putToken mv_RX6_51 (ci := 6) rfl rfl (k_L103 s9) rfl rfl (Nat.le_of_ble_eq_true rfl) (s_X6_putToken l h8 1 x7 s9 (by omega) (by omega)) (rm_ok (by decide) (by decide)) (zq_v fun h430 q428 => ?_)
                      refine zj_iload_n (zdk ttX6_cut 87 rfl rfl) rfl ?_
                      refine zj_istore_n (L' := [some (.inr 103), some (.inr (-2 - ((i_p1 : Nat) : Int))), some (.inl (x7 + 1)), some (.inl (x7 + 1)), some (.inl (h8.2 104 x7))]) (zdk ttX6_cut 88 rfl rfl) (by decide) rfl ?_
                      refine zj_goto (t := 14) (zdk ttX6_cut 89 rfl rfl) (by decide) ?_
                      refine zj_kill (k := 4) (L' := [some (.inr 103), some (.inr (-2 - ((i_p1 : Nat) : Int))), some (.inl (x7 + 1)), some (.inl (x7 + 1)), none]) rfl ?_
                      exact ih398  (x7 + 1) (x7 + 1) h430 (by omega) (by omega) q428 (by omega)
                    · refine zj_iload (zdk ttX6_cut 82 rfl rfl) rfl ?_
                      refine zj_goto (t := 163) (zdk ttX6_cut 83 rfl rfl) (by decide) ?_
                      refine zj_iload_n (zdk ttX6_cut 85 rfl rfl) rfl ?_
                      refine zj_callV (av := [.inl (h8.2 104 x7), .inl x7]) (st := []) (zdk ttX6_cut 86 rfl rfl) mb_X6_putToken mv_RX6_51 (ci := 6) rfl rfl (k_L103 s9) rfl rfl (Nat.le_of_ble_eq_true rfl) (s_X6_putToken l h8 (h8.2 104 x7) x7 s9 (by omega) (by omega)) (rm_ok (by decide) (by decide)) (zq_v fun h435 q433 => ?_)
                      refine zj_iload_n (zdk ttX6_cut 87 rfl rfl) rfl ?_
                      refine zj_istore_n (L' := [some (.inr 103), some (.inr (-2 - ((i_p1 : Nat) : Int))), some (.inl (x7 + 1)), some (.inl (x7 + 1)), some (.inl (h8.2 104 x7))]) (zdk ttX6_cut 88 rfl rfl) (by decide) rfl ?_
                      refine zj_goto (t := 14) (zdk ttX6_cut 89 rfl rfl) (by decide) ?_
                      refine zj_kill (k := 4) (L' := [some (.inr 103), some (.inr (-2 - ((i_p1 : Nat) : Int))), some (.inl (x7 + 1)), some (.inl (x7 + 1)), none]) rfl ?_
                      exact ih398  (x7 + 1) (x7 + 1) h435 (by omega) (by omega) q433 (by omega)
              · exact absurd c420 (by omega)
            · refine zj_if_eq (t := 131) (zdk ttX6_cut 49 rfl rfl) (by decide) (by decide) (fun c438 => ?_) (fun c438 => ?_)
              · exact absurd c438 (by omega)
              · have lp448 : ∀ (n : Nat) (x439 : Int), (1 ≤ x439 ∧ x439 ≤ 400) → (x7 + 1 ≤ x439) → (401 - x439).toNat < n → zJ shC l yX6_cut cX6_cut 5 none (rmL 8) 0 0 (q_X6_cut h i_p1) 0 0 91 [some (.inr 103), some (.inr (-2 - ((i_p1 : Nat) : Int))), some (.inl x439), some (.inl x7), some (.inl (h8.2 104 x7))] [] h8 := by
                  intro n
                  induction n with
                  | zero => intro x439 b449 u450 m451; exact absurd m451 (Nat.not_lt_zero _)
                  | succ n ih452 =>
                    intro x439 b449 u450 m451
                    refine zj_iload_n (zdk ttX6_cut 50 rfl rfl) rfl ?_
                    refine zj_aload_n (zdk ttX6_cut 51 rfl rfl) rfl (by decide) ?_
                    refine zj_geti (v := (h8.2 103 3)) (zdk ttX6_cut 52 rfl rfl) zf_RX6_21 rfl (k_L103 s9) rfl ?_
                    refine zj_icmp_ge (t := 117) (zdk ttX6_cut 53 rfl rfl) (by decide) (by omega) (by omega) (fun c453 => ?_) (fun c453 => ?_)
                    · refine zj_aload_n (zdk ttX6_cut 62 rfl rfl) rfl (by decide) ?_
                      refine zj_aload_n (zdk ttX6_cut 63 rfl rfl) rfl (by decide) ?_
                      refine zj_iload_n (zdk ttX6_cut 64 rfl rfl) rfl ?_
                      refine zj_iload_n (zdk ttX6_cut 65 rfl rfl) rfl ?_
                      refine zj_callV (av := [.inl x7, .inl x439]) (st := [.inr 103]) (zdk ttX6_cut 66 rfl rfl) mb_X6_numberAt mv_RX6_58 (ci := 6) rfl rfl (k_L103 s9) rfl rfl (Nat.le_of_ble_eq_true rfl) (s_X6_numberAt l h8 x7 x439 s9 (by omega) (by omega)) (rm_ok (by decide) (by decide)) (zq_i fun v455 h456 q454 => ?_)
                      obtain ⟨rfl, b457⟩ := q454
                      refine zj_iload_n (zdk ttX6_cut 67 rfl rfl) rfl ?_
                      refine zj_callV (av := [.inl v455, .inl x7]) (st := []) (zdk ttX6_cut 68 rfl rfl) mb_X6_putToken mv_RX6_51 (ci := 6) rfl rfl (k_L103 s9) rfl rfl (Nat.le_of_ble_eq_true rfl) (s_X6_putToken l h8 v455 x7 s9 (by omega) (by omega)) (rm_ok (by decide) (by decide)) (zq_v fun h460 q458 => ?_)
                      refine zj_goto (t := 167) (zdk ttX6_cut 69 rfl rfl) (by decide) ?_
                      refine zj_iload_n (zdk ttX6_cut 87 rfl rfl) rfl ?_
                      refine zj_istore_n (L' := [some (.inr 103), some (.inr (-2 - ((i_p1 : Nat) : Int))), some (.inl x439), some (.inl x439), some (.inl (h8.2 104 x7))]) (zdk ttX6_cut 88 rfl rfl) (by decide) rfl ?_
                      refine zj_goto (t := 14) (zdk ttX6_cut 89 rfl rfl) (by decide) ?_
                      refine zj_kill (k := 4) (L' := [some (.inr 103), some (.inr (-2 - ((i_p1 : Nat) : Int))), some (.inl x439), some (.inl x439), none]) rfl ?_
                      exact ih398  x439 x439 h460 (by omega) (by omega) q458 (by omega)
                    · refine zj_aload_n (zdk ttX6_cut 54 rfl rfl) rfl (by decide) ?_
                      refine zj_getr (r := 104) (zdk ttX6_cut 55 rfl rfl) zf_RX6_11 rfl (k_L103 s9) (rf_L103_0 s9) ?_
                      refine zj_iload_n (zdk ttX6_cut 56 rfl rfl) rfl ?_
                      have b463 : 0 ≤ (h8.2 104 x439) ∧ (h8.2 104 x439) ≤ 255 := ab_L103_0 s9 x439
                      refine zj_iald (v := (h8.2 104 x439)) (zdk ttX6_cut 57 rfl rfl) (ka_L103_0 s9) (by decide) (by omega) rfl ?_
                      refine zj_callS (av := [.inl (h8.2 104 x439)]) (st := []) (zdk ttX6_cut 58 rfl rfl) mb_X6_isDigit ms_RX6_55 rfl rfl (Nat.le_of_ble_eq_true rfl) (s_X6_isDigit l h8 (h8.2 104 x439) s9 (by omega)) (rm_ok (by decide) (by decide)) (zq_i fun v465 h466 q464 => ?_)
                      obtain ⟨rfl, ⟨rfl, b467⟩ | ⟨rfl, b467⟩⟩ := q464
                      · refine zj_if_eq (t := 117) (zdk ttX6_cut 59 rfl rfl) (by decide) (by decide) (fun c468 => ?_) (fun c468 => ?_)
                        · refine zj_aload_n (zdk ttX6_cut 62 rfl rfl) rfl (by decide) ?_
                          refine zj_aload_n (zdk ttX6_cut 63 rfl rfl) rfl (by decide) ?_
                          refine zj_iload_n (zdk ttX6_cut 64 rfl rfl) rfl ?_
                          refine zj_iload_n (zdk ttX6_cut 65 rfl rfl) rfl ?_
                          refine zj_callV (av := [.inl x7, .inl x439]) (st := [.inr 103]) (zdk ttX6_cut 66 rfl rfl) mb_X6_numberAt mv_RX6_58 (ci := 6) rfl rfl (k_L103 s9) rfl rfl (Nat.le_of_ble_eq_true rfl) (s_X6_numberAt l h8 x7 x439 s9 (by omega) (by omega)) (rm_ok (by decide) (by decide)) (zq_i fun v470 h471 q469 => ?_)
                          obtain ⟨rfl, b472⟩ := q469
                          refine zj_iload_n (zdk ttX6_cut 67 rfl rfl) rfl ?_
                          refine zj_callV (av := [.inl v470, .inl x7]) (st := []) (zdk ttX6_cut 68 rfl rfl) mb_X6_putToken mv_RX6_51 (ci := 6) rfl rfl (k_L103 s9) rfl rfl (Nat.le_of_ble_eq_true rfl) (s_X6_putToken l h8 v470 x7 s9 (by omega) (by omega)) (rm_ok (by decide) (by decide)) (zq_v fun h475 q473 => ?_)
                          refine zj_goto (t := 167) (zdk ttX6_cut 69 rfl rfl) (by decide) ?_
                          refine zj_iload_n (zdk ttX6_cut 87 rfl rfl) rfl ?_
                          refine zj_istore_n (L' := [some (.inr 103), some (.inr (-2 - ((i_p1 : Nat) : Int))), some (.inl x439), some (.inl x439), some (.inl (h8.2 104 x7))]) (zdk ttX6_cut 88 rfl rfl) (by decide) rfl ?_
                          refine zj_goto (t := 14) (zdk ttX6_cut 89 rfl rfl) (by decide) ?_
                          refine zj_kill (k := 4) (L' := [some (.inr 103), some (.inr (-2 - ((i_p1 : Nat) : Int))), some (.inl x439), some (.inl x439), none]) rfl ?_
                          exact ih398  x439 x439 h475 (by omega) (by omega) q473 (by omega)
                        · exact absurd c468 (by omega)
                      · refine zj_if_eq (t := 117) (zdk ttX6_cut 59 rfl rfl) (by decide) (by decide) (fun c478 => ?_) (fun c478 => ?_)
                        · exact absurd c478 (by omega)
                        · refine zj_iinc (L' := [some (.inr 103), some (.inr (-2 - ((i_p1 : Nat) : Int))), some (.inl (x439 + 1)), some (.inl x7), some (.inl (h8.2 104 x7))]) (zdk ttX6_cut 60 rfl rfl) rfl (by decide) rfl ?_
                          refine zj_goto (t := 91) (zdk ttX6_cut 61 rfl rfl) (by decide) ?_
                          exact ih452  (x439 + 1) (by omega) (by omega) (by omega)
                exact lp448 _ (x7 + 1) (by omega) (by omega) (Nat.lt_succ_self _)
          · exact absurd c415 (by omega)
        · refine zj_if_eq (t := 83) (zdk ttX6_cut 25 rfl rfl) (by decide) (by decide) (fun c479 => ?_) (fun c479 => ?_)
          · exact absurd c479 (by omega)
          · have lp489 : ∀ (n : Nat) (x480 : Int), (1 ≤ x480 ∧ x480 ≤ 400) → (x7 + 1 ≤ x480) → (401 - x480).toNat < n → zJ shC l yX6_cut cX6_cut 5 none (rmL 8) 0 0 (q_X6_cut h i_p1) 0 0 42 [some (.inr 103), some (.inr (-2 - ((i_p1 : Nat) : Int))), some (.inl x480), some (.inl x7), some (.inl (h8.2 104 x7))] [] h8 := by
              intro n
              induction n with
              | zero => intro x480 b490 u491 m492; exact absurd m492 (Nat.not_lt_zero _)
              | succ n ih493 =>
                intro x480 b490 u491 m492
                refine zj_iload_n (zdk ttX6_cut 26 rfl rfl) rfl ?_
                refine zj_aload_n (zdk ttX6_cut 27 rfl rfl) rfl (by decide) ?_
                refine zj_geti (v := (h8.2 103 3)) (zdk ttX6_cut 28 rfl rfl) zf_RX6_21 rfl (k_L103 s9) rfl ?_
                refine zj_icmp_ge (t := 68) (zdk ttX6_cut 29 rfl rfl) (by decide) (by omega) (by omega) (fun c494 => ?_) (fun c494 => ?_)
                · refine zj_aload_n (zdk ttX6_cut 38 rfl rfl) rfl (by decide) ?_
                  refine zj_aload_n (zdk ttX6_cut 39 rfl rfl) rfl (by decide) ?_
                  refine zj_aload_n (zdk ttX6_cut 40 rfl rfl) rfl (by omega) ?_
                  refine zj_iload_n (zdk ttX6_cut 41 rfl rfl) rfl ?_
                  refine zj_iload_n (zdk ttX6_cut 42 rfl rfl) rfl ?_
                  refine zj_callV (av := [.inr (-2 - ((i_p1 : Nat) : Int)), .inl x7, .inl x480]) (st := [.inr 103]) (zdk ttX6_cut 43 rfl rfl) mb_X6_wordAt mv_RX6_47 (ci := 6) rfl rfl (k_L103 s9) rfl rfl (Nat.le_of_ble_eq_true rfl) (s_X6_wordAt l h8 i_p1 x7 x480 s9 hi_p1 (by omega) (by omega)) (rm_ok (by decide) (by decide)) (zq_i fun v496 h497 q495 => ?_)
                  obtain ⟨rfl, b498⟩ := q495
                  refine zj_iload_n (zdk ttX6_cut 44 rfl rfl) rfl ?_
                  refine zj_callV (av := [.inl v496, .inl x7]) (st := []) (zdk ttX6_cut 45 rfl rfl) mb_X6_putToken mv_RX6_51 (ci := 6) rfl rfl (k_L103 s9) rfl rfl (Nat.le_of_ble_eq_true rfl) (s_X6_putToken l h8 v496 x7 s9 (by omega) (by omega)) (rm_ok (by decide) (by decide)) (zq_v fun h501 q499 => ?_)
                  refine zj_goto (t := 167) (zdk ttX6_cut 46 rfl rfl) (by decide) ?_
                  refine zj_iload_n (zdk ttX6_cut 87 rfl rfl) rfl ?_
                  refine zj_istore_n (L' := [some (.inr 103), some (.inr (-2 - ((i_p1 : Nat) : Int))), some (.inl x480), some (.inl x480), some (.inl (h8.2 104 x7))]) (zdk ttX6_cut 88 rfl rfl) (by decide) rfl ?_
                  refine zj_goto (t := 14) (zdk ttX6_cut 89 rfl rfl) (by decide) ?_
                  refine zj_kill (k := 4) (L' := [some (.inr 103), some (.inr (-2 - ((i_p1 : Nat) : Int))), some (.inl x480), some (.inl x480), none]) rfl ?_
                  exact ih398  x480 x480 h501 (by omega) (by omega) q499 (by omega)
                · refine zj_aload_n (zdk ttX6_cut 30 rfl rfl) rfl (by decide) ?_
                  refine zj_getr (r := 104) (zdk ttX6_cut 31 rfl rfl) zf_RX6_11 rfl (k_L103 s9) (rf_L103_0 s9) ?_
                  refine zj_iload_n (zdk ttX6_cut 32 rfl rfl) rfl ?_
                  have b504 : 0 ≤ (h8.2 104 x480) ∧ (h8.2 104 x480) ≤ 255 := ab_L103_0 s9 x480
                  refine zj_iald (v := (h8.2 104 x480)) (zdk ttX6_cut 33 rfl rfl) (ka_L103_0 s9) (by decide) (by omega) rfl ?_
                  refine zj_callS (av := [.inl (h8.2 104 x480)]) (st := []) (zdk ttX6_cut 34 rfl rfl) mb_X6_isLetter ms_RX6_43 rfl rfl (Nat.le_of_ble_eq_true rfl) (s_X6_isLetter l h8 (h8.2 104 x480) s9 (by omega)) (rm_ok (by decide) (by decide)) (zq_i fun v506 h507 q505 => ?_)
                  obtain ⟨rfl, ⟨rfl, b508⟩ | ⟨rfl, b508⟩⟩ := q505
                  · refine zj_if_eq (t := 68) (zdk ttX6_cut 35 rfl rfl) (by decide) (by decide) (fun c509 => ?_) (fun c509 => ?_)
                    · refine zj_aload_n (zdk ttX6_cut 38 rfl rfl) rfl (by decide) ?_
                      refine zj_aload_n (zdk ttX6_cut 39 rfl rfl) rfl (by decide) ?_
                      refine zj_aload_n (zdk ttX6_cut 40 rfl rfl) rfl (by omega) ?_
                      refine zj_iload_n (zdk ttX6_cut 41 rfl rfl) rfl ?_
                      refine zj_iload_n (zdk ttX6_cut 42 rfl rfl) rfl ?_
                      refine zj_callV (av := [.inr (-2 - ((i_p1 : Nat) : Int)), .inl x7, .inl x480]) (st := [.inr 103]) (zdk ttX6_cut 43 rfl rfl) mb_X6_wordAt mv_RX6_47 (ci := 6) rfl rfl (k_L103 s9) rfl rfl (Nat.le_of_ble_eq_true rfl) (s_X6_wordAt l h8 i_p1 x7 x480 s9 hi_p1 (by omega) (by omega)) (rm_ok (by decide) (by decide)) (zq_i fun v511 h512 q510 => ?_)
                      obtain ⟨rfl, b513⟩ := q510
                      refine zj_iload_n (zdk ttX6_cut 44 rfl rfl) rfl ?_
                      refine zj_callV (av := [.inl v511, .inl x7]) (st := []) (zdk ttX6_cut 45 rfl rfl) mb_X6_putToken mv_RX6_51 (ci := 6) rfl rfl (k_L103 s9) rfl rfl (Nat.le_of_ble_eq_true rfl) (s_X6_putToken l h8 v511 x7 s9 (by omega) (by omega)) (rm_ok (by decide) (by decide)) (zq_v fun h516 q514 => ?_)
                      refine zj_goto (t := 167) (zdk ttX6_cut 46 rfl rfl) (by decide) ?_
                      refine zj_iload_n (zdk ttX6_cut 87 rfl rfl) rfl ?_
                      refine zj_istore_n (L' := [some (.inr 103), some (.inr (-2 - ((i_p1 : Nat) : Int))), some (.inl x480), some (.inl x480), some (.inl (h8.2 104 x7))]) (zdk ttX6_cut 88 rfl rfl) (by decide) rfl ?_
                      refine zj_goto (t := 14) (zdk ttX6_cut 89 rfl rfl) (by decide) ?_
                      refine zj_kill (k := 4) (L' := [some (.inr 103), some (.inr (-2 - ((i_p1 : Nat) : Int))), some (.inl x480), some (.inl x480), none]) rfl ?_
                      exact ih398  x480 x480 h516 (by omega) (by omega) q514 (by omega)
                    · exact absurd c509 (by omega)
                  · refine zj_if_eq (t := 68) (zdk ttX6_cut 35 rfl rfl) (by decide) (by decide) (fun c519 => ?_) (fun c519 => ?_)
                    · exact absurd c519 (by omega)
                    · refine zj_iinc (L' := [some (.inr 103), some (.inr (-2 - ((i_p1 : Nat) : Int))), some (.inl (x480 + 1)), some (.inl x7), some (.inl (h8.2 104 x7))]) (zdk ttX6_cut 36 rfl rfl) rfl (by decide) rfl ?_
                      refine zj_goto (t := 42) (zdk ttX6_cut 37 rfl rfl) (by decide) ?_
                      exact ih493  (x480 + 1) (by omega) (by omega) (by omega)
            exact lp489 _ (x7 + 1) (by omega) (by omega) (Nat.lt_succ_self _)
  have s520 : okC h4 := fw_L103_5 s3 e5 (by omega)
  exact lp394 _ 0 0 h4 (by omega) (by omega) s520 (Nat.lt_succ_self _)

abbrev q2_X6_refuse (h : zM) (p1 : Int) : Option zV → zM → Prop := zqi fun v h' => (0 ≤ v ∧ v ≤ 0) ∧ okC h'
set_option maxRecDepth 100000 in
set_option maxHeartbeats 4000000 in
theorem s2_X6_refuse (l : Launch) (h : zM) (p1 : Int) (s0 : okC h) (b_p1 : (-2147483648) ≤ p1 ∧ p1 ≤ 2147483647) : zT shC l yX6_refuse cX6_refuse 2 (some .boolean) (rmL 3) 0 0 [.inr 103, .inl p1] h (q2_X6_refuse h p1) := by
  refine zT_of (by decide +kernel) (L0 := [some (.inr 103), some (.inl p1)]) rfl (Nat.le_of_ble_eq_true rfl) ?_
  refine zj_aload_n (zdk ttX6_refuse 0 rfl rfl) rfl (by decide) ?_
  refine zj_iload_n (zdk ttX6_refuse 1 rfl rfl) rfl ?_
  refine zj_puti (zdk ttX6_refuse 2 rfl rfl) zf_RX6_34 rfl (k_L103 s0) (Or.inl zw_RX6_34) (k2 := 7) rfl (fun h1 e2 => ?_)
  refine zj_aload_n (zdk ttX6_refuse 3 rfl rfl) rfl (by decide) ?_
  refine zj_aload_n (zdk ttX6_refuse 4 rfl rfl) rfl (by decide) ?_
  have s3 : okC h1 := fw_L103_7 s0 e2 (by omega)
  refine zj_getr (r := 106) (zdk ttX6_refuse 5 rfl rfl) zf_RX6_18 rfl (k_L103 s3) (rf_L103_2 s3) ?_
  refine zj_aload_n (zdk ttX6_refuse 6 rfl rfl) rfl (by decide) ?_
  have b4 : 0 ≤ (h.2 103 5) ∧ (h.2 103 5) ≤ 400 := fb_L103_5 s0
  refine zj_geti (v := (h.2 103 5)) (zdk ttX6_refuse 7 rfl rfl) zf_RX6_28 rfl (k_L103 s3) (zwr_r e2 (by omega)) ?_
  have b5 : -2147483648 ≤ (h.2 106 (h.2 103 5)) ∧ (h.2 106 (h.2 103 5)) ≤ 2147483647 := ab_L103_2 s0 (h.2 103 5)
  refine zj_iald (v := (h.2 106 (h.2 103 5))) (zdk ttX6_refuse 8 rfl rfl) (ka_L103_2 s3) (by decide) (by omega) (zwr_r e2 (by omega)) ?_
  refine zj_puti (zdk ttX6_refuse 9 rfl rfl) zf_RX6_37 rfl (k_L103 s3) (Or.inl zw_RX6_37) (k2 := 8) rfl (fun h6 e7 => ?_)
  refine zj_iconst (zdk ttX6_refuse 10 rfl rfl) ?_
  have s8 : okC h6 := fw_L103_8 s3 e7 (by omega)
  exact zj_zret rfl (zdk ttX6_refuse 11 rfl rfl) (Nat.le_refl _) (Nat.le_refl _) (by omega) ⟨0, rfl, by omega, s8⟩

abbrev tX6_opensLine : List (Nat × Instr × Nat) := [(0, .aload_n 0, 1), (1, .iload_n 2, 1), (2, .iload_n 3, 1), (3, .invokevirtual 95, 3), (6, .ifCond .ne 9, 3), (9, .aload_n 0, 1), (10, .iconst 1, 1), (11, .invokevirtual 81, 3), (14, .ireturn, 1), (15, .iload_n 1, 1), (16, .bipush 16, 2), (18, .if_icmp .lt 11, 3), (21, .aload_n 0, 1), (22, .iconst 3, 1), (23, .invokevirtual 81, 3), (26, .ifCond .eq 7, 3), (29, .iconst 1, 1), (30, .goto 4, 3), (33, .iconst 0, 1), (34, .ireturn, 1)]
theorem ttX6_opensLine : zdt cX6_opensLine tX6_opensLine = true := by decide +kernel
abbrev q_X6_opensLine (h : zM) (p1 : Int) (p2 : Int) (p3 : Int) : Option zV → zM → Prop := zqi fun v h' => (0 ≤ v ∧ v ≤ 1) ∧ okC h' ∧ (v = 1 → p1 ≤ 15)
set_option maxRecDepth 100000 in
set_option maxHeartbeats 4000000 in
theorem s_X6_opensLine (l : Launch) (h : zM) (p1 : Int) (p2 : Int) (p3 : Int) (s0 : okC h) (b_p1 : (-2147483648) ≤ p1 ∧ p1 ≤ 2147483647) (b_p2 : 0 ≤ p2 ∧ p2 ≤ 20) (b_p3 : 0 ≤ p3 ∧ p3 ≤ 20) : zT shC l yX6_opensLine cX6_opensLine 4 (some .boolean) (rmL 4) 0 0 [.inr 103, .inl p1, .inl p2, .inl p3] h (q_X6_opensLine h p1 p2 p3) := by
  refine zT_of (by decide +kernel) (L0 := [some (.inr 103), some (.inl p1), some (.inl p2), some (.inl p3)]) rfl (Nat.le_of_ble_eq_true rfl) ?_
  refine zj_aload_n (zdk ttX6_opensLine 0 rfl rfl) rfl (by decide) ?_
  refine zj_iload_n (zdk ttX6_opensLine 1 rfl rfl) rfl ?_
  refine zj_iload_n (zdk ttX6_opensLine 2 rfl rfl) rfl ?_
  refine zj_callV (av := [.inl p2, .inl p3]) (st := []) (zdk ttX6_opensLine 3 rfl rfl) mb_X6_isWord mv_RX6_95 (ci := 6) rfl rfl (k_L103 s0) rfl rfl (Nat.le_of_ble_eq_true rfl) (s_X6_isWord l h p2 p3 s0 (by omega) (by omega)) (rm_ok (by decide) (by decide)) (zq_i fun v2 h3 q1 => ?_)
  obtain ⟨rfl, b5, ⟨rfl, b4⟩ | ⟨rfl, b4⟩⟩ := q1
  · refine zj_if_ne (t := 15) (zdk ttX6_opensLine 4 rfl rfl) (by decide) (by decide) (fun c6 => ?_) (fun c6 => ?_)
    · exact absurd c6 (by omega)
    · refine zj_aload_n (zdk ttX6_opensLine 5 rfl rfl) rfl (by decide) ?_
      refine zj_iconst (zdk ttX6_opensLine 6 rfl rfl) ?_
      refine zj_callV (av := [.inl 1]) (st := []) (zdk ttX6_opensLine 7 rfl rfl) mb_X6_refuse mv_RX6_81 (ci := 6) rfl rfl (k_L103 s0) rfl rfl (Nat.le_of_ble_eq_true rfl) (s2_X6_refuse l h 1 s0 (by omega)) (rm_ok (by decide) (by decide)) (zq_i fun v8 h9 q7 => ?_)
      obtain ⟨b10, s11⟩ := q7
      exact zj_zret rfl (zdk ttX6_opensLine 8 rfl rfl) (Nat.le_refl _) (Nat.le_refl _) (by omega) ⟨v8, rfl, by omega, s11, by omega⟩
  · refine zj_if_ne (t := 15) (zdk ttX6_opensLine 4 rfl rfl) (by decide) (by decide) (fun c12 => ?_) (fun c12 => ?_)
    · refine zj_iload_n (zdk ttX6_opensLine 9 rfl rfl) rfl ?_
      refine zj_bipush (zdk ttX6_opensLine 10 rfl rfl) (by decide) ?_
      refine zj_icmp_lt (t := 29) (zdk ttX6_opensLine 11 rfl rfl) (by decide) (by omega) (by decide) (fun c13 => ?_) (fun c13 => ?_)
      · refine zj_iconst (zdk ttX6_opensLine 16 rfl rfl) ?_
        refine zj_goto (t := 34) (zdk ttX6_opensLine 17 rfl rfl) (by decide) ?_
        exact zj_zret rfl (zdk ttX6_opensLine 19 rfl rfl) (Nat.le_refl _) (Nat.le_refl _) (by omega) ⟨1, rfl, by omega, s0, by omega⟩
      · refine zj_aload_n (zdk ttX6_opensLine 12 rfl rfl) rfl (by decide) ?_
        refine zj_iconst (zdk ttX6_opensLine 13 rfl rfl) ?_
        refine zj_callV (av := [.inl 3]) (st := []) (zdk ttX6_opensLine 14 rfl rfl) mb_X6_refuse mv_RX6_81 (ci := 6) rfl rfl (k_L103 s0) rfl rfl (Nat.le_of_ble_eq_true rfl) (s2_X6_refuse l h 3 s0 (by omega)) (rm_ok (by decide) (by decide)) (zq_i fun v15 h16 q14 => ?_)
        obtain ⟨b17, s18⟩ := q14
        refine zj_if_eq (t := 33) (zdk ttX6_opensLine 15 rfl rfl) (by decide) (by omega) (fun c19 => ?_) (fun c19 => ?_)
        · refine zj_iconst (zdk ttX6_opensLine 18 rfl rfl) ?_
          exact zj_zret rfl (zdk ttX6_opensLine 19 rfl rfl) (Nat.le_refl _) (Nat.le_refl _) (by omega) ⟨0, rfl, by omega, s18, by omega⟩
        · exact absurd c19 (by omega)
    · exact absurd c12 (by omega)

abbrev tX7_readOperand : List (Nat × Instr × Nat) := [(0, .aload_n 0, 1), (1, .getfield 9, 3), (4, .getfield 32, 3), (7, .istore_n 3, 1), (8, .aload_n 0, 1), (9, .getfield 9, 3), (12, .invokevirtual 88, 3), (15, .ifCond .eq 35, 3), (18, .iload_n 2, 1), (19, .ifCond .eq 19, 3), (22, .iload_n 3, 1), (23, .sipush 1000, 3), (26, .if_icmp .ne 12, 3), (29, .aload_n 0, 1), (30, .getfield 9, 3), (33, .iconst 2, 1), (34, .invokevirtual 81, 3), (37, .ireturn, 1), (38, .aload_n 1, 1), (39, .iload_n 3, 1), (40, .sipush 1000, 3), (43, .isub, 1), (44, .invokevirtual 77, 3), (47, .goto 46, 3), (50, .iload_n 2, 1), (51, .ifCond .ne 33, 3), (54, .aload_n 0, 1), (55, .getfield 9, 3), (58, .bipush 7, 2), (60, .bipush 16, 2), (62, .invokevirtual 60, 3), (65, .ifCond .eq 19, 3), (68, .aload_n 1, 1), (69, .sipush 10000, 3), (72, .iload_n 3, 1), (73, .iadd, 1), (74, .sipush 200, 3), (77, .isub, 1), (78, .invokevirtual 77, 3), (81, .goto 12, 3), (84, .aload_n 0, 1), (85, .getfield 9, 3), (88, .iconst 1, 1), (89, .invokevirtual 81, 3), (92, .ireturn, 1), (93, .aload_n 0, 1), (94, .getfield 9, 3), (97, .invokevirtual 47, 3), (100, .iconst 1, 1), (101, .ireturn, 1)]
theorem ttX7_readOperand : zdt cX7_readOperand tX7_readOperand = true := by decide +kernel
abbrev q_X7_readOperand (h : zM) (p1 : Int) (p2 : Int) : Option zV → zM → Prop := zqi fun v h' => (0 ≤ v ∧ v ≤ 1) ∧ okC h'
set_option maxRecDepth 100000 in
set_option maxHeartbeats 4000000 in
theorem s_X7_readOperand (l : Launch) (h : zM) (p1 : Int) (p2 : Int) (s0 : okC h) (r_p1 : zLw p1) (b_p2 : 0 ≤ p2 ∧ p2 ≤ 1) : zT shC l yX7_readOperand cX7_readOperand 4 (some .boolean) (rmL 5) 0 0 [.inr 107, .inr p1, .inl p2] h (q_X7_readOperand h p1 p2) := by
  refine zT_of (by decide +kernel) (L0 := [some (.inr 107), some (.inr p1), some (.inl p2), none]) rfl (Nat.le_of_ble_eq_true rfl) ?_
  have b1 := zLw_b r_p1
  refine zj_aload_n (zdk ttX7_readOperand 0 rfl rfl) rfl (by decide) ?_
  refine zj_getr (r := 103) (zdk ttX7_readOperand 1 rfl rfl) zf_RX7_9 rfl (k_L107 s0) (rf_L107_0 s0) ?_
  have b2 : -2147483648 ≤ (h.2 103 6) ∧ (h.2 103 6) ≤ 2147483647 := fb_L103_6 s0
  refine zj_geti (v := (h.2 103 6)) (zdk ttX7_readOperand 2 rfl rfl) zf_RX7_32 rfl (k_L103 s0) rfl ?_
  refine zj_istore_n (L' := [some (.inr 107), some (.inr p1), some (.inl p2), some (.inl (h.2 103 6))]) (zdk ttX7_readOperand 3 rfl rfl) (by decide) rfl ?_
  refine zj_aload_n (zdk ttX7_readOperand 4 rfl rfl) rfl (by decide) ?_
  refine zj_getr (r := 103) (zdk ttX7_readOperand 5 rfl rfl) zf_RX7_9 rfl (k_L107 s0) (rf_L107_0 s0) ?_
  refine zj_callV (av := []) (st := []) (zdk ttX7_readOperand 6 rfl rfl) mb_X6_isNumber mv_RX7_88 (ci := 6) rfl rfl (k_L103 s0) rfl rfl (Nat.le_of_ble_eq_true rfl) (s_X6_isNumber l h s0) (rm_ok (by decide) (by decide)) (zq_i fun v4 h5 q3 => ?_)
  obtain ⟨rfl, b7, ⟨rfl, b6⟩ | ⟨rfl, b6⟩⟩ := q3
  · refine zj_if_eq (t := 50) (zdk ttX7_readOperand 7 rfl rfl) (by decide) (by decide) (fun c8 => ?_) (fun c8 => ?_)
    · refine zj_iload_n (zdk ttX7_readOperand 24 rfl rfl) rfl ?_
      refine zj_if_ne (t := 84) (zdk ttX7_readOperand 25 rfl rfl) (by decide) (by omega) (fun c9 => ?_) (fun c9 => ?_)
      · refine zj_aload_n (zdk ttX7_readOperand 40 rfl rfl) rfl (by decide) ?_
        refine zj_getr (r := 103) (zdk ttX7_readOperand 41 rfl rfl) zf_RX7_9 rfl (k_L107 s0) (rf_L107_0 s0) ?_
        refine zj_iconst (zdk ttX7_readOperand 42 rfl rfl) ?_
        refine zj_callV (av := [.inl 1]) (st := []) (zdk ttX7_readOperand 43 rfl rfl) mb_X6_refuse mv_RX7_81 (ci := 6) rfl rfl (k_L103 s0) rfl rfl (Nat.le_of_ble_eq_true rfl) (s2_X6_refuse l h 1 s0 (by omega)) (rm_ok (by decide) (by decide)) (zq_i fun v11 h12 q10 => ?_)
        obtain ⟨b13, s14⟩ := q10
        exact zj_zret rfl (zdk ttX7_readOperand 44 rfl rfl) (Nat.le_refl _) (Nat.le_refl _) (by omega) ⟨v11, rfl, by omega, s14⟩
      · refine zj_aload_n (zdk ttX7_readOperand 26 rfl rfl) rfl (by decide) ?_
        refine zj_getr (r := 103) (zdk ttX7_readOperand 27 rfl rfl) zf_RX7_9 rfl (k_L107 s0) (rf_L107_0 s0) ?_
        refine zj_bipush (zdk ttX7_readOperand 28 rfl rfl) (by decide) ?_
        refine zj_bipush (zdk ttX7_readOperand 29 rfl rfl) (by decide) ?_
        refine zj_callV (av := [.inl 7, .inl 16]) (st := []) (zdk ttX7_readOperand 30 rfl rfl) mb_X6_isWord mv_RX7_60 (ci := 6) rfl rfl (k_L103 s0) rfl rfl (Nat.le_of_ble_eq_true rfl) (s_X6_isWord l h 7 16 s0 (by omega) (by omega)) (rm_ok (by decide) (by decide)) (zq_i fun v16 h17 q15 => ?_)
        obtain ⟨rfl, b19, ⟨rfl, b18⟩ | ⟨rfl, b18⟩⟩ := q15
        · refine zj_if_eq (t := 84) (zdk ttX7_readOperand 31 rfl rfl) (by decide) (by decide) (fun c20 => ?_) (fun c20 => ?_)
          · refine zj_aload_n (zdk ttX7_readOperand 40 rfl rfl) rfl (by decide) ?_
            refine zj_getr (r := 103) (zdk ttX7_readOperand 41 rfl rfl) zf_RX7_9 rfl (k_L107 s0) (rf_L107_0 s0) ?_
            refine zj_iconst (zdk ttX7_readOperand 42 rfl rfl) ?_
            refine zj_callV (av := [.inl 1]) (st := []) (zdk ttX7_readOperand 43 rfl rfl) mb_X6_refuse mv_RX7_81 (ci := 6) rfl rfl (k_L103 s0) rfl rfl (Nat.le_of_ble_eq_true rfl) (s2_X6_refuse l h 1 s0 (by omega)) (rm_ok (by decide) (by decide)) (zq_i fun v22 h23 q21 => ?_)
            obtain ⟨b24, s25⟩ := q21
            exact zj_zret rfl (zdk ttX7_readOperand 44 rfl rfl) (Nat.le_refl _) (Nat.le_refl _) (by omega) ⟨v22, rfl, by omega, s25⟩
          · exact absurd c20 (by omega)
        · refine zj_if_eq (t := 84) (zdk ttX7_readOperand 31 rfl rfl) (by decide) (by decide) (fun c26 => ?_) (fun c26 => ?_)
          · exact absurd c26 (by omega)
          · refine zj_aload_n (zdk ttX7_readOperand 32 rfl rfl) rfl (by omega) ?_
            refine zj_sipush (zdk ttX7_readOperand 33 rfl rfl) (by decide) ?_
            refine zj_iload_n (zdk ttX7_readOperand 34 rfl rfl) rfl ?_
            refine zj_iadd (zdk ttX7_readOperand 35 rfl rfl) ?_
            refine zj_sipush (zdk ttX7_readOperand 36 rfl rfl) (by decide) ?_
            refine zj_isub (zdk ttX7_readOperand 37 rfl rfl) ?_
            refine zj_callV (av := [.inl ((10000 + (h.2 103 6)) - 200)]) (st := []) (zdk ttX7_readOperand 38 rfl rfl) mb_X3_put mv_RX7_77 (ci := 3) rfl rfl (k_3_0 s0 r_p1) rfl rfl (Nat.le_of_ble_eq_true rfl) (s_X3_put l h p1 ((10000 + (h.2 103 6)) - 200) s0 r_p1 (by omega)) (rm_ok (by decide) (by decide)) (zq_v fun h29 q27 => ?_)
            refine zj_goto (t := 93) (zdk ttX7_readOperand 39 rfl rfl) (by decide) ?_
            refine zj_aload_n (zdk ttX7_readOperand 45 rfl rfl) rfl (by decide) ?_
            refine zj_getr (r := 103) (zdk ttX7_readOperand 46 rfl rfl) zf_RX7_9 rfl (k_L107 q27) (rf_L107_0 q27) ?_
            refine zj_callV (av := []) (st := []) (zdk ttX7_readOperand 47 rfl rfl) mb_X6_pass mv_RX7_47 (ci := 6) rfl rfl (k_L103 q27) rfl rfl (Nat.le_of_ble_eq_true rfl) (s_X6_pass l h29 q27) (rm_ok (by decide) (by decide)) (zq_v fun h34 q32 => ?_)
            refine zj_iconst (zdk ttX7_readOperand 48 rfl rfl) ?_
            exact zj_zret rfl (zdk ttX7_readOperand 49 rfl rfl) (Nat.le_refl _) (Nat.le_refl _) (by omega) ⟨1, rfl, by omega, q32⟩
    · exact absurd c8 (by omega)
  · refine zj_if_eq (t := 50) (zdk ttX7_readOperand 7 rfl rfl) (by decide) (by decide) (fun c37 => ?_) (fun c37 => ?_)
    · exact absurd c37 (by omega)
    · refine zj_iload_n (zdk ttX7_readOperand 8 rfl rfl) rfl ?_
      refine zj_if_eq (t := 38) (zdk ttX7_readOperand 9 rfl rfl) (by decide) (by omega) (fun c38 => ?_) (fun c38 => ?_)
      · refine zj_aload_n (zdk ttX7_readOperand 18 rfl rfl) rfl (by omega) ?_
        refine zj_iload_n (zdk ttX7_readOperand 19 rfl rfl) rfl ?_
        refine zj_sipush (zdk ttX7_readOperand 20 rfl rfl) (by decide) ?_
        refine zj_isub (zdk ttX7_readOperand 21 rfl rfl) ?_
        refine zj_callV (av := [.inl ((h.2 103 6) - 1000)]) (st := []) (zdk ttX7_readOperand 22 rfl rfl) mb_X3_put mv_RX7_77 (ci := 3) rfl rfl (k_3_0 s0 r_p1) rfl rfl (Nat.le_of_ble_eq_true rfl) (s_X3_put l h p1 ((h.2 103 6) - 1000) s0 r_p1 (by omega)) (rm_ok (by decide) (by decide)) (zq_v fun h41 q39 => ?_)
        refine zj_goto (t := 93) (zdk ttX7_readOperand 23 rfl rfl) (by decide) ?_
        refine zj_aload_n (zdk ttX7_readOperand 45 rfl rfl) rfl (by decide) ?_
        refine zj_getr (r := 103) (zdk ttX7_readOperand 46 rfl rfl) zf_RX7_9 rfl (k_L107 q39) (rf_L107_0 q39) ?_
        refine zj_callV (av := []) (st := []) (zdk ttX7_readOperand 47 rfl rfl) mb_X6_pass mv_RX7_47 (ci := 6) rfl rfl (k_L103 q39) rfl rfl (Nat.le_of_ble_eq_true rfl) (s_X6_pass l h41 q39) (rm_ok (by decide) (by decide)) (zq_v fun h46 q44 => ?_)
        refine zj_iconst (zdk ttX7_readOperand 48 rfl rfl) ?_
        exact zj_zret rfl (zdk ttX7_readOperand 49 rfl rfl) (Nat.le_refl _) (Nat.le_refl _) (by omega) ⟨1, rfl, by omega, q44⟩
      · refine zj_iload_n (zdk ttX7_readOperand 10 rfl rfl) rfl ?_
        refine zj_sipush (zdk ttX7_readOperand 11 rfl rfl) (by decide) ?_
        refine zj_icmp_ne (t := 38) (zdk ttX7_readOperand 12 rfl rfl) (by decide) (by omega) (by decide) (fun c49 => ?_) (fun c49 => ?_)
        · refine zj_aload_n (zdk ttX7_readOperand 18 rfl rfl) rfl (by omega) ?_
          refine zj_iload_n (zdk ttX7_readOperand 19 rfl rfl) rfl ?_
          refine zj_sipush (zdk ttX7_readOperand 20 rfl rfl) (by decide) ?_
          refine zj_isub (zdk ttX7_readOperand 21 rfl rfl) ?_
          refine zj_callV (av := [.inl ((h.2 103 6) - 1000)]) (st := []) (zdk ttX7_readOperand 22 rfl rfl) mb_X3_put mv_RX7_77 (ci := 3) rfl rfl (k_3_0 s0 r_p1) rfl rfl (Nat.le_of_ble_eq_true rfl) (s_X3_put l h p1 ((h.2 103 6) - 1000) s0 r_p1 (by omega)) (rm_ok (by decide) (by decide)) (zq_v fun h52 q50 => ?_)
          refine zj_goto (t := 93) (zdk ttX7_readOperand 23 rfl rfl) (by decide) ?_
          refine zj_aload_n (zdk ttX7_readOperand 45 rfl rfl) rfl (by decide) ?_
          refine zj_getr (r := 103) (zdk ttX7_readOperand 46 rfl rfl) zf_RX7_9 rfl (k_L107 q50) (rf_L107_0 q50) ?_
          refine zj_callV (av := []) (st := []) (zdk ttX7_readOperand 47 rfl rfl) mb_X6_pass mv_RX7_47 (ci := 6) rfl rfl (k_L103 q50) rfl rfl (Nat.le_of_ble_eq_true rfl) (s_X6_pass l h52 q50) (rm_ok (by decide) (by decide)) (zq_v fun h57 q55 => ?_)
          refine zj_iconst (zdk ttX7_readOperand 48 rfl rfl) ?_
          exact zj_zret rfl (zdk ttX7_readOperand 49 rfl rfl) (Nat.le_refl _) (Nat.le_refl _) (by omega) ⟨1, rfl, by omega, q55⟩
        · refine zj_aload_n (zdk ttX7_readOperand 13 rfl rfl) rfl (by decide) ?_
          refine zj_getr (r := 103) (zdk ttX7_readOperand 14 rfl rfl) zf_RX7_9 rfl (k_L107 s0) (rf_L107_0 s0) ?_
          refine zj_iconst (zdk ttX7_readOperand 15 rfl rfl) ?_
          refine zj_callV (av := [.inl 2]) (st := []) (zdk ttX7_readOperand 16 rfl rfl) mb_X6_refuse mv_RX7_81 (ci := 6) rfl rfl (k_L103 s0) rfl rfl (Nat.le_of_ble_eq_true rfl) (s2_X6_refuse l h 2 s0 (by omega)) (rm_ok (by decide) (by decide)) (zq_i fun v61 h62 q60 => ?_)
          obtain ⟨b63, s64⟩ := q60
          exact zj_zret rfl (zdk ttX7_readOperand 17 rfl rfl) (Nat.le_refl _) (Nat.le_refl _) (by omega) ⟨v61, rfl, by omega, s64⟩

abbrev tX7_readSum : List (Nat × Instr × Nat) := [(0, .aload_n 0, 1), (1, .aload_n 1, 1), (2, .iconst 0, 1), (3, .invokevirtual 84, 3), (6, .ifCond .ne 5, 3), (9, .iconst 0, 1), (10, .ireturn, 1), (11, .iconst 0, 1), (12, .istore_n 2, 1), (13, .iconst 0, 1), (14, .istore_n 3, 1), (15, .iload_n 3, 1), (16, .sipush 400, 3), (19, .if_icmp .ge 128, 3), (22, .aload_n 0, 1), (23, .getfield 9, 3), (26, .getfield 32, 3), (29, .istore 4, 2), (31, .iload 4, 2), (33, .bipush 42, 2), (35, .if_icmp .eq 10, 3), (38, .iload 4, 2), (40, .bipush 47, 2), (42, .if_icmp .ne 7, 3), (45, .iconst 1, 1), (46, .goto 4, 3), (49, .iconst 0, 1), (50, .istore 5, 2), (52, .iload 5, 2), (54, .ifCond .ne 16, 3), (57, .iload_n 2, 1), (58, .ifCond .eq 12, 3), (61, .aload_n 1, 1), (62, .sipush 20000, 3), (65, .iload_n 2, 1), (66, .iadd, 1), (67, .invokevirtual 77, 3), (70, .iload 5, 2), (72, .ifCond .ne 19, 3), (75, .iload 4, 2), (77, .bipush 43, 2), (79, .if_icmp .eq 12, 3), (82, .iload 4, 2), (84, .bipush 45, 2), (86, .if_icmp .eq 5, 3), (89, .iconst 1, 1), (90, .ireturn, 1), (91, .aload_n 0, 1), (92, .getfield 9, 3), (95, .invokevirtual 47, 3), (98, .aload_n 0, 1), (99, .aload_n 1, 1), (100, .iload 4, 2), (102, .bipush 47, 2), (104, .if_icmp .ne 7, 3), (107, .iconst 1, 1), (108, .goto 4, 3), (111, .iconst 0, 1), (112, .invokevirtual 84, 3), (115, .ifCond .ne 5, 3), (118, .iconst 0, 1), (119, .ireturn, 1), (120, .iload 5, 2), (122, .ifCond .eq 16, 3), (125, .aload_n 1, 1), (126, .sipush 20000, 3), (129, .iload 4, 2), (131, .iadd, 1), (132, .invokevirtual 77, 3), (135, .goto 6, 3), (138, .iload 4, 2), (140, .istore_n 2, 1), (141, .iinc 3 1, 3), (144, .goto (-129), 3), (147, .aload_n 0, 1), (148, .getfield 9, 3), (151, .iconst 1, 1), (152, .invokevirtual 81, 3), (155, .ireturn, 1)]
theorem ttX7_readSum : zdt cX7_readSum tX7_readSum = true := by decide +kernel
abbrev q_X7_readSum (h : zM) (p1 : Int) : Option zV → zM → Prop := zqi fun v h' => (0 ≤ v ∧ v ≤ 1) ∧ okC h'
set_option maxRecDepth 100000 in
set_option maxHeartbeats 4000000 in
theorem s_X7_readSum (l : Launch) (h : zM) (p1 : Int) (s0 : okC h) (r_p1 : zLw p1) : zT shC l yX7_readSum cX7_readSum 6 (some .boolean) (rmL 6) 0 0 [.inr 107, .inr p1] h (q_X7_readSum h p1) := by
  refine zT_of (by decide +kernel) (L0 := [some (.inr 107), some (.inr p1), none, none, none, none]) rfl (Nat.le_of_ble_eq_true rfl) ?_
  have b1 := zLw_b r_p1
  refine zj_aload_n (zdk ttX7_readSum 0 rfl rfl) rfl (by decide) ?_
  refine zj_aload_n (zdk ttX7_readSum 1 rfl rfl) rfl (by omega) ?_
  refine zj_iconst (zdk ttX7_readSum 2 rfl rfl) ?_
  refine zj_callV (av := [.inr p1, .inl 0]) (st := []) (zdk ttX7_readSum 3 rfl rfl) mb_X7_readOperand mv_RX7_84 (ci := 7) rfl rfl (k_L107 s0) rfl rfl (Nat.le_of_ble_eq_true rfl) (s_X7_readOperand l h p1 0 s0 r_p1 (by omega)) (rm_ok (by decide) (by decide)) (zq_i fun v3 h4 q2 => ?_)
  obtain ⟨b5, s6⟩ := q2
  refine zj_if_ne (t := 11) (zdk ttX7_readSum 4 rfl rfl) (by decide) (by omega) (fun c7 => ?_) (fun c7 => ?_)
  · refine zj_iconst (zdk ttX7_readSum 7 rfl rfl) ?_
    refine zj_istore_n (L' := [some (.inr 107), some (.inr p1), some (.inl 0), none, none, none]) (zdk ttX7_readSum 8 rfl rfl) (by decide) rfl ?_
    refine zj_iconst (zdk ttX7_readSum 9 rfl rfl) ?_
    refine zj_istore_n (L' := [some (.inr 107), some (.inr p1), some (.inl 0), some (.inl 0), none, none]) (zdk ttX7_readSum 10 rfl rfl) (by decide) rfl ?_
    have lp825 : ∀ (n : Nat) (x8 x9 : Int) (h10 : zM), (0 ≤ x8 ∧ x8 ≤ 45) → (0 ≤ x9 ∧ x9 ≤ 400) → okC h10 → (401 - x9).toNat < n → zJ shC l yX7_readSum cX7_readSum 6 (some .boolean) (rmL 6) 0 0 (q_X7_readSum h p1) 0 0 15 [some (.inr 107), some (.inr p1), some (.inl x8), some (.inl x9), none, none] [] h10 := by
      intro n
      induction n with
      | zero => intro x8 x9 h10 b826 b827 s11 m828; exact absurd m828 (Nat.not_lt_zero _)
      | succ n ih829 =>
        intro x8 x9 h10 b826 b827 s11 m828
        refine zj_iload_n (zdk ttX7_readSum 11 rfl rfl) rfl ?_
        refine zj_sipush (zdk ttX7_readSum 12 rfl rfl) (by decide) ?_
        refine zj_icmp_ge (t := 147) (zdk ttX7_readSum 13 rfl rfl) (by decide) (by omega) (by decide) (fun c830 => ?_) (fun c830 => ?_)
        · refine zj_aload_n (zdk ttX7_readSum 74 rfl rfl) rfl (by decide) ?_
          refine zj_getr (r := 103) (zdk ttX7_readSum 75 rfl rfl) zf_RX7_9 rfl (k_L107 s11) (rf_L107_0 s11) ?_
          refine zj_iconst (zdk ttX7_readSum 76 rfl rfl) ?_
          refine zj_callV (av := [.inl 1]) (st := []) (zdk ttX7_readSum 77 rfl rfl) mb_X6_refuse mv_RX7_81 (ci := 6) rfl rfl (k_L103 s11) rfl rfl (Nat.le_of_ble_eq_true rfl) (s2_X6_refuse l h10 1 s11 (by omega)) (rm_ok (by decide) (by decide)) (zq_i fun v832 h833 q831 => ?_)
          obtain ⟨b834, s835⟩ := q831
          exact zj_zret rfl (zdk ttX7_readSum 78 rfl rfl) (Nat.le_refl _) (Nat.le_refl _) (by omega) ⟨v832, rfl, by omega, s835⟩
        · refine zj_aload_n (zdk ttX7_readSum 14 rfl rfl) rfl (by decide) ?_
          refine zj_getr (r := 103) (zdk ttX7_readSum 15 rfl rfl) zf_RX7_9 rfl (k_L107 s11) (rf_L107_0 s11) ?_
          have b836 : -2147483648 ≤ (h10.2 103 6) ∧ (h10.2 103 6) ≤ 2147483647 := fb_L103_6 s11
          refine zj_geti (v := (h10.2 103 6)) (zdk ttX7_readSum 16 rfl rfl) zf_RX7_32 rfl (k_L103 s11) rfl ?_
          refine zj_istore (L' := [some (.inr 107), some (.inr p1), some (.inl x8), some (.inl x9), some (.inl (h10.2 103 6)), none]) (zdk ttX7_readSum 17 rfl rfl) (by decide) rfl ?_
          refine zj_iload (zdk ttX7_readSum 18 rfl rfl) rfl ?_
          refine zj_bipush (zdk ttX7_readSum 19 rfl rfl) (by decide) ?_
          have j840 : ∀ (y839 : Int), (0 ≤ y839 ∧ y839 ≤ 1) → zJ shC l yX7_readSum cX7_readSum 6 (some .boolean) (rmL 6) 0 0 (q_X7_readSum h p1) 0 0 50 [some (.inr 107), some (.inr p1), some (.inl x8), some (.inl x9), some (.inl (h10.2 103 6)), none] [.inl y839] h10 := by
            intro y839 b841
            refine zj_istore (L' := [some (.inr 107), some (.inr p1), some (.inl x8), some (.inl x9), some (.inl (h10.2 103 6)), some (.inl y839)]) (zdk ttX7_readSum 27 rfl rfl) (by decide) rfl ?_
            refine zj_iload (zdk ttX7_readSum 28 rfl rfl) rfl ?_
            have j851 : ∀ (h849 : zM), okC h849 → zJ shC l yX7_readSum cX7_readSum 6 (some .boolean) (rmL 6) 0 0 (q_X7_readSum h p1) 0 0 70 [some (.inr 107), some (.inr p1), some (.inl x8), some (.inl x9), some (.inl (h10.2 103 6)), some (.inl y839)] [] h849 := by
              intro h849 s850
              refine zj_iload (zdk ttX7_readSum 37 rfl rfl) rfl ?_
              refine zj_if_ne (t := 91) (zdk ttX7_readSum 38 rfl rfl) (by decide) (by omega) (fun c852 => ?_) (fun c852 => ?_)
              · refine zj_aload_n (zdk ttX7_readSum 47 rfl rfl) rfl (by decide) ?_
                refine zj_getr (r := 103) (zdk ttX7_readSum 48 rfl rfl) zf_RX7_9 rfl (k_L107 s850) (rf_L107_0 s850) ?_
                refine zj_callV (av := []) (st := []) (zdk ttX7_readSum 49 rfl rfl) mb_X6_pass mv_RX7_47 (ci := 6) rfl rfl (k_L103 s850) rfl rfl (Nat.le_of_ble_eq_true rfl) (s_X6_pass l h849 s850) (rm_ok (by decide) (by decide)) (zq_v fun h855 q853 => ?_)
                refine zj_aload_n (zdk ttX7_readSum 50 rfl rfl) rfl (by decide) ?_
                refine zj_aload_n (zdk ttX7_readSum 51 rfl rfl) rfl (by omega) ?_
                refine zj_iload (zdk ttX7_readSum 52 rfl rfl) rfl ?_
                refine zj_bipush (zdk ttX7_readSum 53 rfl rfl) (by decide) ?_
                have j860 : ∀ (y859 : Int), (0 ≤ y859 ∧ y859 ≤ 1) → zJ shC l yX7_readSum cX7_readSum 6 (some .boolean) (rmL 6) 0 0 (q_X7_readSum h p1) 0 0 112 [some (.inr 107), some (.inr p1), some (.inl x8), some (.inl x9), some (.inl (h10.2 103 6)), some (.inl y839)] [.inl y859, .inr p1, .inr 107] h855 := by
                  intro y859 b861
                  refine zj_callV (av := [.inr p1, .inl y859]) (st := []) (zdk ttX7_readSum 58 rfl rfl) mb_X7_readOperand mv_RX7_84 (ci := 7) rfl rfl (k_L107 q853) rfl rfl (Nat.le_of_ble_eq_true rfl) (s_X7_readOperand l h855 p1 y859 q853 r_p1 (by omega)) (rm_ok (by decide) (by decide)) (zq_i fun v863 h864 q862 => ?_)
                  obtain ⟨b865, s866⟩ := q862
                  refine zj_if_ne (t := 120) (zdk ttX7_readSum 59 rfl rfl) (by decide) (by omega) (fun c867 => ?_) (fun c867 => ?_)
                  · refine zj_iload (zdk ttX7_readSum 62 rfl rfl) rfl ?_
                    refine zj_if_eq (t := 138) (zdk ttX7_readSum 63 rfl rfl) (by decide) (by omega) (fun c868 => ?_) (fun c868 => ?_)
                    · exact absurd c868 (by omega)
                    · refine zj_aload_n (zdk ttX7_readSum 64 rfl rfl) rfl (by omega) ?_
                      refine zj_sipush (zdk ttX7_readSum 65 rfl rfl) (by decide) ?_
                      refine zj_iload (zdk ttX7_readSum 66 rfl rfl) rfl ?_
                      refine zj_iadd (zdk ttX7_readSum 67 rfl rfl) ?_
                      refine zj_wrap ?_
                      have b869 := zwp_in (20000 + (h10.2 103 6))
                      refine zj_callV (av := [.inl (zwp (20000 + (h10.2 103 6)))]) (st := []) (zdk ttX7_readSum 68 rfl rfl) mb_X3_put mv_RX7_77 (ci := 3) rfl rfl (k_3_0 s866 r_p1) rfl rfl (Nat.le_of_ble_eq_true rfl) (s_X3_put l h864 p1 (zwp (20000 + (h10.2 103 6))) s866 r_p1 (by omega)) (rm_ok (by decide) (by decide)) (zq_v fun h872 q870 => ?_)
                      refine zj_goto (t := 141) (zdk ttX7_readSum 69 rfl rfl) (by decide) ?_
                      refine zj_iinc (L' := [some (.inr 107), some (.inr p1), some (.inl x8), some (.inl (x9 + 1)), some (.inl (h10.2 103 6)), some (.inl y839)]) (zdk ttX7_readSum 72 rfl rfl) rfl (by decide) rfl ?_
                      refine zj_goto (t := 15) (zdk ttX7_readSum 73 rfl rfl) (by decide) ?_
                      refine zj_kill (k := 4) (L' := [some (.inr 107), some (.inr p1), some (.inl x8), some (.inl (x9 + 1)), none, some (.inl y839)]) rfl ?_
                      refine zj_kill (k := 5) (L' := [some (.inr 107), some (.inr p1), some (.inl x8), some (.inl (x9 + 1)), none, none]) rfl ?_
                      exact ih829  x8 (x9 + 1) h872 (by omega) (by omega) q870 (by omega)
                  · refine zj_iconst (zdk ttX7_readSum 60 rfl rfl) ?_
                    exact zj_zret rfl (zdk ttX7_readSum 61 rfl rfl) (Nat.le_refl _) (Nat.le_refl _) (by omega) ⟨0, rfl, by omega, s866⟩
                refine zj_icmp_ne (t := 111) (zdk ttX7_readSum 54 rfl rfl) (by decide) (by omega) (by decide) (fun c858 => ?_) (fun c858 => ?_)
                · refine zj_iconst (zdk ttX7_readSum 57 rfl rfl) ?_
                  exact j860 0 (by omega)
                · refine zj_iconst (zdk ttX7_readSum 55 rfl rfl) ?_
                  refine zj_goto (t := 112) (zdk ttX7_readSum 56 rfl rfl) (by decide) ?_
                  exact j860 1 (by omega)
              · refine zj_iload (zdk ttX7_readSum 39 rfl rfl) rfl ?_
                refine zj_bipush (zdk ttX7_readSum 40 rfl rfl) (by decide) ?_
                refine zj_icmp_eq (t := 91) (zdk ttX7_readSum 41 rfl rfl) (by decide) (by omega) (by decide) (fun c875 => ?_) (fun c875 => ?_)
                · refine zj_aload_n (zdk ttX7_readSum 47 rfl rfl) rfl (by decide) ?_
                  refine zj_getr (r := 103) (zdk ttX7_readSum 48 rfl rfl) zf_RX7_9 rfl (k_L107 s850) (rf_L107_0 s850) ?_
                  refine zj_callV (av := []) (st := []) (zdk ttX7_readSum 49 rfl rfl) mb_X6_pass mv_RX7_47 (ci := 6) rfl rfl (k_L103 s850) rfl rfl (Nat.le_of_ble_eq_true rfl) (s_X6_pass l h849 s850) (rm_ok (by decide) (by decide)) (zq_v fun h878 q876 => ?_)
                  refine zj_aload_n (zdk ttX7_readSum 50 rfl rfl) rfl (by decide) ?_
                  refine zj_aload_n (zdk ttX7_readSum 51 rfl rfl) rfl (by omega) ?_
                  refine zj_iload (zdk ttX7_readSum 52 rfl rfl) rfl ?_
                  refine zj_bipush (zdk ttX7_readSum 53 rfl rfl) (by decide) ?_
                  refine zj_icmp_ne (t := 111) (zdk ttX7_readSum 54 rfl rfl) (by decide) (by omega) (by decide) (fun c881 => ?_) (fun c881 => ?_)
                  · refine zj_iconst (zdk ttX7_readSum 57 rfl rfl) ?_
                    refine zj_callV (av := [.inr p1, .inl 0]) (st := []) (zdk ttX7_readSum 58 rfl rfl) mb_X7_readOperand mv_RX7_84 (ci := 7) rfl rfl (k_L107 q876) rfl rfl (Nat.le_of_ble_eq_true rfl) (s_X7_readOperand l h878 p1 0 q876 r_p1 (by omega)) (rm_ok (by decide) (by decide)) (zq_i fun v883 h884 q882 => ?_)
                    obtain ⟨b885, s886⟩ := q882
                    refine zj_if_ne (t := 120) (zdk ttX7_readSum 59 rfl rfl) (by decide) (by omega) (fun c887 => ?_) (fun c887 => ?_)
                    · refine zj_iload (zdk ttX7_readSum 62 rfl rfl) rfl ?_
                      refine zj_if_eq (t := 138) (zdk ttX7_readSum 63 rfl rfl) (by decide) (by omega) (fun c888 => ?_) (fun c888 => ?_)
                      · refine zj_iload (zdk ttX7_readSum 70 rfl rfl) rfl ?_
                        refine zj_istore_n (L' := [some (.inr 107), some (.inr p1), some (.inl (h10.2 103 6)), some (.inl x9), some (.inl (h10.2 103 6)), some (.inl y839)]) (zdk ttX7_readSum 71 rfl rfl) (by decide) rfl ?_
                        refine zj_iinc (L' := [some (.inr 107), some (.inr p1), some (.inl (h10.2 103 6)), some (.inl (x9 + 1)), some (.inl (h10.2 103 6)), some (.inl y839)]) (zdk ttX7_readSum 72 rfl rfl) rfl (by decide) rfl ?_
                        refine zj_goto (t := 15) (zdk ttX7_readSum 73 rfl rfl) (by decide) ?_
                        refine zj_kill (k := 4) (L' := [some (.inr 107), some (.inr p1), some (.inl (h10.2 103 6)), some (.inl (x9 + 1)), none, some (.inl y839)]) rfl ?_
                        refine zj_kill (k := 5) (L' := [some (.inr 107), some (.inr p1), some (.inl (h10.2 103 6)), some (.inl (x9 + 1)), none, none]) rfl ?_
                        exact ih829  (h10.2 103 6) (x9 + 1) h884 (by omega) (by omega) s886 (by omega)
                      · exact absurd c888 (by omega)
                    · refine zj_iconst (zdk ttX7_readSum 60 rfl rfl) ?_
                      exact zj_zret rfl (zdk ttX7_readSum 61 rfl rfl) (Nat.le_refl _) (Nat.le_refl _) (by omega) ⟨0, rfl, by omega, s886⟩
                  · exact absurd c881 (by omega)
                · refine zj_iload (zdk ttX7_readSum 42 rfl rfl) rfl ?_
                  refine zj_bipush (zdk ttX7_readSum 43 rfl rfl) (by decide) ?_
                  refine zj_icmp_eq (t := 91) (zdk ttX7_readSum 44 rfl rfl) (by decide) (by omega) (by decide) (fun c889 => ?_) (fun c889 => ?_)
                  · refine zj_aload_n (zdk ttX7_readSum 47 rfl rfl) rfl (by decide) ?_
                    refine zj_getr (r := 103) (zdk ttX7_readSum 48 rfl rfl) zf_RX7_9 rfl (k_L107 s850) (rf_L107_0 s850) ?_
                    refine zj_callV (av := []) (st := []) (zdk ttX7_readSum 49 rfl rfl) mb_X6_pass mv_RX7_47 (ci := 6) rfl rfl (k_L103 s850) rfl rfl (Nat.le_of_ble_eq_true rfl) (s_X6_pass l h849 s850) (rm_ok (by decide) (by decide)) (zq_v fun h892 q890 => ?_)
                    refine zj_aload_n (zdk ttX7_readSum 50 rfl rfl) rfl (by decide) ?_
                    refine zj_aload_n (zdk ttX7_readSum 51 rfl rfl) rfl (by omega) ?_
                    refine zj_iload (zdk ttX7_readSum 52 rfl rfl) rfl ?_
                    refine zj_bipush (zdk ttX7_readSum 53 rfl rfl) (by decide) ?_
                    refine zj_icmp_ne (t := 111) (zdk ttX7_readSum 54 rfl rfl) (by decide) (by omega) (by decide) (fun c895 => ?_) (fun c895 => ?_)
                    · refine zj_iconst (zdk ttX7_readSum 57 rfl rfl) ?_
                      refine zj_callV (av := [.inr p1, .inl 0]) (st := []) (zdk ttX7_readSum 58 rfl rfl) mb_X7_readOperand mv_RX7_84 (ci := 7) rfl rfl (k_L107 q890) rfl rfl (Nat.le_of_ble_eq_true rfl) (s_X7_readOperand l h892 p1 0 q890 r_p1 (by omega)) (rm_ok (by decide) (by decide)) (zq_i fun v897 h898 q896 => ?_)
                      obtain ⟨b899, s900⟩ := q896
                      refine zj_if_ne (t := 120) (zdk ttX7_readSum 59 rfl rfl) (by decide) (by omega) (fun c901 => ?_) (fun c901 => ?_)
                      · refine zj_iload (zdk ttX7_readSum 62 rfl rfl) rfl ?_
                        refine zj_if_eq (t := 138) (zdk ttX7_readSum 63 rfl rfl) (by decide) (by omega) (fun c902 => ?_) (fun c902 => ?_)
                        · refine zj_iload (zdk ttX7_readSum 70 rfl rfl) rfl ?_
                          refine zj_istore_n (L' := [some (.inr 107), some (.inr p1), some (.inl (h10.2 103 6)), some (.inl x9), some (.inl (h10.2 103 6)), some (.inl y839)]) (zdk ttX7_readSum 71 rfl rfl) (by decide) rfl ?_
                          refine zj_iinc (L' := [some (.inr 107), some (.inr p1), some (.inl (h10.2 103 6)), some (.inl (x9 + 1)), some (.inl (h10.2 103 6)), some (.inl y839)]) (zdk ttX7_readSum 72 rfl rfl) rfl (by decide) rfl ?_
                          refine zj_goto (t := 15) (zdk ttX7_readSum 73 rfl rfl) (by decide) ?_
                          refine zj_kill (k := 4) (L' := [some (.inr 107), some (.inr p1), some (.inl (h10.2 103 6)), some (.inl (x9 + 1)), none, some (.inl y839)]) rfl ?_
                          refine zj_kill (k := 5) (L' := [some (.inr 107), some (.inr p1), some (.inl (h10.2 103 6)), some (.inl (x9 + 1)), none, none]) rfl ?_
                          exact ih829  (h10.2 103 6) (x9 + 1) h898 (by omega) (by omega) s900 (by omega)
                        · exact absurd c902 (by omega)
                      · refine zj_iconst (zdk ttX7_readSum 60 rfl rfl) ?_
                        exact zj_zret rfl (zdk ttX7_readSum 61 rfl rfl) (Nat.le_refl _) (Nat.le_refl _) (by omega) ⟨0, rfl, by omega, s900⟩
                    · exact absurd c895 (by omega)
                  · refine zj_iconst (zdk ttX7_readSum 45 rfl rfl) ?_
                    exact zj_zret rfl (zdk ttX7_readSum 46 rfl rfl) (Nat.le_refl _) (Nat.le_refl _) (by omega) ⟨1, rfl, by omega, s850⟩
            refine zj_if_ne (t := 70) (zdk ttX7_readSum 29 rfl rfl) (by decide) (by omega) (fun c842 => ?_) (fun c842 => ?_)
            · exact j851 h10 s11
            · refine zj_iload_n (zdk ttX7_readSum 30 rfl rfl) rfl ?_
              refine zj_if_eq (t := 70) (zdk ttX7_readSum 31 rfl rfl) (by decide) (by omega) (fun c903 => ?_) (fun c903 => ?_)
              · exact j851 h10 s11
              · refine zj_aload_n (zdk ttX7_readSum 32 rfl rfl) rfl (by omega) ?_
                refine zj_sipush (zdk ttX7_readSum 33 rfl rfl) (by decide) ?_
                refine zj_iload_n (zdk ttX7_readSum 34 rfl rfl) rfl ?_
                refine zj_iadd (zdk ttX7_readSum 35 rfl rfl) ?_
                refine zj_callV (av := [.inl (20000 + x8)]) (st := []) (zdk ttX7_readSum 36 rfl rfl) mb_X3_put mv_RX7_77 (ci := 3) rfl rfl (k_3_0 s11 r_p1) rfl rfl (Nat.le_of_ble_eq_true rfl) (s_X3_put l h10 p1 (20000 + x8) s11 r_p1 (by omega)) (rm_ok (by decide) (by decide)) (zq_v fun h906 q904 => ?_)
                exact j851 h906 q904
          refine zj_icmp_eq (t := 45) (zdk ttX7_readSum 20 rfl rfl) (by decide) (by omega) (by decide) (fun c837 => ?_) (fun c837 => ?_)
          · refine zj_iconst (zdk ttX7_readSum 24 rfl rfl) ?_
            refine zj_goto (t := 50) (zdk ttX7_readSum 25 rfl rfl) (by decide) ?_
            exact j840 1 (by omega)
          · refine zj_iload (zdk ttX7_readSum 21 rfl rfl) rfl ?_
            refine zj_bipush (zdk ttX7_readSum 22 rfl rfl) (by decide) ?_
            refine zj_icmp_ne (t := 49) (zdk ttX7_readSum 23 rfl rfl) (by decide) (by omega) (by decide) (fun c909 => ?_) (fun c909 => ?_)
            · refine zj_iconst (zdk ttX7_readSum 26 rfl rfl) ?_
              exact j840 0 (by omega)
            · refine zj_iconst (zdk ttX7_readSum 24 rfl rfl) ?_
              refine zj_goto (t := 50) (zdk ttX7_readSum 25 rfl rfl) (by decide) ?_
              exact j840 1 (by omega)
    exact lp825 _ 0 0 h4 (by omega) (by omega) s6 (Nat.lt_succ_self _)
  · refine zj_iconst (zdk ttX7_readSum 5 rfl rfl) ?_
    exact zj_zret rfl (zdk ttX7_readSum 6 rfl rfl) (Nat.le_refl _) (Nat.le_refl _) (by omega) ⟨0, rfl, by omega, s6⟩

abbrev tX7_readSingle : List (Nat × Instr × Nat) := [(0, .aload_n 0, 1), (1, .getfield 9, 3), (4, .bipush 6, 2), (6, .bipush 6, 2), (8, .invokevirtual 60, 3), (11, .istore_n 3, 1), (12, .iload_n 3, 1), (13, .ifCond .ne 15, 3), (16, .aload_n 0, 1), (17, .getfield 9, 3), (20, .getfield 32, 3), (23, .bipush 40, 2), (25, .if_icmp .ne 80, 3), (28, .iload_n 2, 1), (29, .bipush 8, 2), (31, .if_icmp .lt 12, 3), (34, .aload_n 0, 1), (35, .getfield 9, 3), (38, .iconst 3, 1), (39, .invokevirtual 81, 3), (42, .ireturn, 1), (43, .aload_n 0, 1), (44, .getfield 9, 3), (47, .invokevirtual 47, 3), (50, .iload_n 3, 1), (51, .ifCond .ne 32, 3), (54, .aload_n 0, 1), (55, .aload_n 1, 1), (56, .iload_n 2, 1), (57, .iconst 1, 1), (58, .iadd, 1), (59, .invokevirtual 64, 3), (62, .ifCond .eq 19, 3), (65, .aload_n 0, 1), (66, .getfield 9, 3), (69, .bipush 41, 2), (71, .invokevirtual 70, 3), (74, .ifCond .eq 7, 3), (77, .iconst 1, 1), (78, .goto 4, 3), (81, .iconst 0, 1), (82, .ireturn, 1), (83, .aload_n 0, 1), (84, .aload_n 1, 1), (85, .iload_n 2, 1), (86, .iconst 1, 1), (87, .iadd, 1), (88, .invokevirtual 74, 3), (91, .ifCond .ne 5, 3), (94, .iconst 0, 1), (95, .ireturn, 1), (96, .aload_n 1, 1), (97, .sipush 20006, 3), (100, .invokevirtual 77, 3), (103, .iconst 1, 1), (104, .ireturn, 1), (105, .aload_n 0, 1), (106, .aload_n 1, 1), (107, .invokevirtual 53, 3), (110, .ifCond .ne 5, 3), (113, .iconst 0, 1), (114, .ireturn, 1), (115, .aload_n 0, 1), (116, .getfield 9, 3), (119, .getfield 32, 3), (122, .istore 4, 2), (124, .iload 4, 2), (126, .bipush 60, 2), (128, .if_icmp .eq 26, 3), (131, .iload 4, 2), (133, .bipush 61, 2), (135, .if_icmp .eq 19, 3), (138, .iload 4, 2), (140, .bipush 62, 2), (142, .if_icmp .eq 12, 3), (145, .aload_n 0, 1), (146, .getfield 9, 3), (149, .iconst 1, 1), (150, .invokevirtual 81, 3), (153, .ireturn, 1), (154, .aload_n 0, 1), (155, .getfield 9, 3), (158, .invokevirtual 47, 3), (161, .aload_n 0, 1), (162, .aload_n 1, 1), (163, .invokevirtual 53, 3), (166, .ifCond .ne 5, 3), (169, .iconst 0, 1), (170, .ireturn, 1), (171, .aload_n 1, 1), (172, .sipush 20000, 3), (175, .iload 4, 2), (177, .iadd, 1), (178, .invokevirtual 77, 3), (181, .iconst 1, 1), (182, .ireturn, 1)]
theorem ttX7_readSingle : zdt cX7_readSingle tX7_readSingle = true := by decide +kernel
abbrev q_X7_readSingle (h : zM) (p1 p2 : Int) : Option zV → zM → Prop := zqi fun v h' => (0 ≤ v ∧ v ≤ 1) ∧ okC h'
abbrev tX7_readChoice : List (Nat × Instr × Nat) := [(0, .aload_n 0, 1), (1, .aload_n 1, 1), (2, .iload_n 2, 1), (3, .invokevirtual 74, 3), (6, .ifCond .ne 5, 3), (9, .iconst 0, 1), (10, .ireturn, 1), (11, .iconst 0, 1), (12, .istore_n 3, 1), (13, .iconst 0, 1), (14, .istore 4, 2), (16, .iload 4, 2), (18, .sipush 400, 3), (21, .if_icmp .ge 90, 3), (24, .aload_n 0, 1), (25, .getfield 9, 3), (28, .iconst 5, 1), (29, .iconst 5, 1), (30, .invokevirtual 60, 3), (33, .istore 5, 2), (35, .iload 5, 2), (37, .ifCond .ne 14, 3), (40, .iload_n 3, 1), (41, .ifCond .eq 10, 3), (44, .aload_n 1, 1), (45, .sipush 20004, 3), (48, .invokevirtual 77, 3), (51, .iload 5, 2), (53, .ifCond .ne 17, 3), (56, .aload_n 0, 1), (57, .getfield 9, 3), (60, .iconst 4, 1), (61, .iconst 4, 1), (62, .invokevirtual 60, 3), (65, .ifCond .ne 5, 3), (68, .iconst 1, 1), (69, .ireturn, 1), (70, .aload_n 0, 1), (71, .getfield 9, 3), (74, .invokevirtual 47, 3), (77, .aload_n 0, 1), (78, .aload_n 1, 1), (79, .iload_n 2, 1), (80, .invokevirtual 74, 3), (83, .ifCond .ne 5, 3), (86, .iconst 0, 1), (87, .ireturn, 1), (88, .iload 5, 2), (90, .ifCond .eq 13, 3), (93, .aload_n 1, 1), (94, .sipush 20005, 3), (97, .invokevirtual 77, 3), (100, .goto 5, 3), (103, .iconst 1, 1), (104, .istore_n 3, 1), (105, .iinc 4 1, 3), (108, .goto (-92), 3), (111, .aload_n 0, 1), (112, .getfield 9, 3), (115, .iconst 1, 1), (116, .invokevirtual 81, 3), (119, .ireturn, 1)]
theorem ttX7_readChoice : zdt cX7_readChoice tX7_readChoice = true := by decide +kernel
abbrev q_X7_readChoice (h : zM) (p1 p2 : Int) : Option zV → zM → Prop := zqi fun v h' => (0 ≤ v ∧ v ≤ 1) ∧ okC h'
set_option maxRecDepth 100000 in
set_option maxHeartbeats 8000000 in
theorem s_X7_readSingle_and_X7_readChoice (l : Launch) : ∀ n0 : Nat, (∀ (h : zM) (p1 p2 : Int), (okC h) → (zLw p1) → (0 ≤ p2 ∧ p2 ≤ 8) → (9 - p2).toNat < n0 → zT shC l yX7_readSingle cX7_readSingle 5 (some .boolean) (rmL (8 + 2 * n0 + 0)) 0 0 [.inr 107, .inr p1, .inl p2] h (q_X7_readSingle h p1 p2)) ∧ (∀ (h : zM) (p1 p2 : Int), (okC h) → (zLw p1) → (0 ≤ p2 ∧ p2 ≤ 8) → (9 - p2).toNat < n0 → zT shC l yX7_readChoice cX7_readChoice 6 (some .boolean) (rmL (8 + 2 * n0 + 1)) 0 0 [.inr 107, .inr p1, .inl p2] h (q_X7_readChoice h p1 p2)) := by
  intro n0
  induction n0 with
  | zero => exact ⟨(fun h p1 p2 s0 r_p1 b_p2 hm => absurd hm (Nat.not_lt_zero _)), (fun h p1 p2 s0 r_p1 b_p2 hm => absurd hm (Nat.not_lt_zero _))⟩
  | succ n0 ihr =>
    have hr0 : ∀ (h : zM) (p1 p2 : Int), (okC h) → (zLw p1) → (0 ≤ p2 ∧ p2 ≤ 8) → (9 - p2).toNat < (n0 + 1) → zT shC l yX7_readSingle cX7_readSingle 5 (some .boolean) (rmL (8 + 2 * (n0 + 1) + 0)) 0 0 [.inr 107, .inr p1, .inl p2] h (q_X7_readSingle h p1 p2) := by
      intro h p1 p2 s0 r_p1 b_p2 hm0
      refine zT_of (by decide +kernel) (L0 := [some (.inr 107), some (.inr p1), some (.inl p2), none, none]) rfl (Nat.le_of_ble_eq_true rfl) ?_
      have b1001 := zLw_b r_p1
      refine zj_aload_n (zdk ttX7_readSingle 0 rfl rfl) rfl (by decide) ?_
      refine zj_getr (r := 103) (zdk ttX7_readSingle 1 rfl rfl) zf_RX7_9 rfl (k_L107 s0) (rf_L107_0 s0) ?_
      refine zj_bipush (zdk ttX7_readSingle 2 rfl rfl) (by decide) ?_
      refine zj_bipush (zdk ttX7_readSingle 3 rfl rfl) (by decide) ?_
      refine zj_callV (av := [.inl 6, .inl 6]) (st := []) (zdk ttX7_readSingle 4 rfl rfl) mb_X6_isWord mv_RX7_60 (ci := 6) rfl rfl (k_L103 s0) rfl rfl (Nat.le_of_ble_eq_true rfl) (s_X6_isWord l h 6 6 s0 (by omega) (by omega)) (rm_ok (by omega) (by decide)) (zq_i fun v1003 h1004 q1002 => ?_)
      obtain ⟨rfl, b1006, ⟨rfl, b1005⟩ | ⟨rfl, b1005⟩⟩ := q1002
      · refine zj_istore_n (L' := [some (.inr 107), some (.inr p1), some (.inl p2), some (.inl 0), none]) (zdk ttX7_readSingle 5 rfl rfl) (by decide) rfl ?_
        refine zj_iload_n (zdk ttX7_readSingle 6 rfl rfl) rfl ?_
        refine zj_if_ne (t := 28) (zdk ttX7_readSingle 7 rfl rfl) (by decide) (by decide) (fun c1007 => ?_) (fun c1007 => ?_)
        · exact absurd c1007 (by omega)
        · refine zj_aload_n (zdk ttX7_readSingle 8 rfl rfl) rfl (by decide) ?_
          refine zj_getr (r := 103) (zdk ttX7_readSingle 9 rfl rfl) zf_RX7_9 rfl (k_L107 s0) (rf_L107_0 s0) ?_
          refine zj_geti (v := (h.2 103 6)) (zdk ttX7_readSingle 10 rfl rfl) zf_RX7_32 rfl (k_L103 s0) rfl ?_
          refine zj_bipush (zdk ttX7_readSingle 11 rfl rfl) (by decide) ?_
          refine zj_icmp_ne (t := 105) (zdk ttX7_readSingle 12 rfl rfl) (by decide) (by omega) (by decide) (fun c1008 => ?_) (fun c1008 => ?_)
          · refine zj_aload_n (zdk ttX7_readSingle 56 rfl rfl) rfl (by decide) ?_
            refine zj_aload_n (zdk ttX7_readSingle 57 rfl rfl) rfl (by omega) ?_
            refine zj_callV (av := [.inr p1]) (st := []) (zdk ttX7_readSingle 58 rfl rfl) mb_X7_readSum mv_RX7_53 (ci := 7) rfl rfl (k_L107 s0) rfl rfl (Nat.le_of_ble_eq_true rfl) (s_X7_readSum l h p1 s0 r_p1) (rm_ok (by omega) (by decide)) (zq_i fun v1010 h1011 q1009 => ?_)
            obtain ⟨b1012, s1013⟩ := q1009
            refine zj_if_ne (t := 115) (zdk ttX7_readSingle 59 rfl rfl) (by decide) (by omega) (fun c1014 => ?_) (fun c1014 => ?_)
            · refine zj_aload_n (zdk ttX7_readSingle 62 rfl rfl) rfl (by decide) ?_
              refine zj_getr (r := 103) (zdk ttX7_readSingle 63 rfl rfl) zf_RX7_9 rfl (k_L107 s1013) (rf_L107_0 s1013) ?_
              have b1015 : -2147483648 ≤ (h1011.2 103 6) ∧ (h1011.2 103 6) ≤ 2147483647 := fb_L103_6 s1013
              refine zj_geti (v := (h1011.2 103 6)) (zdk ttX7_readSingle 64 rfl rfl) zf_RX7_32 rfl (k_L103 s1013) rfl ?_
              refine zj_istore (L' := [some (.inr 107), some (.inr p1), some (.inl p2), some (.inl 0), some (.inl (h1011.2 103 6))]) (zdk ttX7_readSingle 65 rfl rfl) (by decide) rfl ?_
              refine zj_iload (zdk ttX7_readSingle 66 rfl rfl) rfl ?_
              refine zj_bipush (zdk ttX7_readSingle 67 rfl rfl) (by decide) ?_
              refine zj_icmp_eq (t := 154) (zdk ttX7_readSingle 68 rfl rfl) (by decide) (by omega) (by decide) (fun c1016 => ?_) (fun c1016 => ?_)
              · refine zj_aload_n (zdk ttX7_readSingle 80 rfl rfl) rfl (by decide) ?_
                refine zj_getr (r := 103) (zdk ttX7_readSingle 81 rfl rfl) zf_RX7_9 rfl (k_L107 s1013) (rf_L107_0 s1013) ?_
                refine zj_callV (av := []) (st := []) (zdk ttX7_readSingle 82 rfl rfl) mb_X6_pass mv_RX7_47 (ci := 6) rfl rfl (k_L103 s1013) rfl rfl (Nat.le_of_ble_eq_true rfl) (s_X6_pass l h1011 s1013) (rm_ok (by omega) (by decide)) (zq_v fun h1019 q1017 => ?_)
                refine zj_aload_n (zdk ttX7_readSingle 83 rfl rfl) rfl (by decide) ?_
                refine zj_aload_n (zdk ttX7_readSingle 84 rfl rfl) rfl (by omega) ?_
                refine zj_callV (av := [.inr p1]) (st := []) (zdk ttX7_readSingle 85 rfl rfl) mb_X7_readSum mv_RX7_53 (ci := 7) rfl rfl (k_L107 q1017) rfl rfl (Nat.le_of_ble_eq_true rfl) (s_X7_readSum l h1019 p1 q1017 r_p1) (rm_ok (by omega) (by decide)) (zq_i fun v1023 h1024 q1022 => ?_)
                obtain ⟨b1025, s1026⟩ := q1022
                refine zj_if_ne (t := 171) (zdk ttX7_readSingle 86 rfl rfl) (by decide) (by omega) (fun c1027 => ?_) (fun c1027 => ?_)
                · refine zj_aload_n (zdk ttX7_readSingle 89 rfl rfl) rfl (by omega) ?_
                  refine zj_sipush (zdk ttX7_readSingle 90 rfl rfl) (by decide) ?_
                  refine zj_iload (zdk ttX7_readSingle 91 rfl rfl) rfl ?_
                  refine zj_iadd (zdk ttX7_readSingle 92 rfl rfl) ?_
                  refine zj_callV (av := [.inl (20000 + (h1011.2 103 6))]) (st := []) (zdk ttX7_readSingle 93 rfl rfl) mb_X3_put mv_RX7_77 (ci := 3) rfl rfl (k_3_0 s1026 r_p1) rfl rfl (Nat.le_of_ble_eq_true rfl) (s_X3_put l h1024 p1 (20000 + (h1011.2 103 6)) s1026 r_p1 (by omega)) (rm_ok (by omega) (by decide)) (zq_v fun h1030 q1028 => ?_)
                  refine zj_iconst (zdk ttX7_readSingle 94 rfl rfl) ?_
                  exact zj_zret rfl (zdk ttX7_readSingle 95 rfl rfl) (Nat.le_refl _) (Nat.le_refl _) (by omega) ⟨1, rfl, by omega, q1028⟩
                · refine zj_iconst (zdk ttX7_readSingle 87 rfl rfl) ?_
                  exact zj_zret rfl (zdk ttX7_readSingle 88 rfl rfl) (Nat.le_refl _) (Nat.le_refl _) (by omega) ⟨0, rfl, by omega, s1026⟩
              · refine zj_iload (zdk ttX7_readSingle 69 rfl rfl) rfl ?_
                refine zj_bipush (zdk ttX7_readSingle 70 rfl rfl) (by decide) ?_
                refine zj_icmp_eq (t := 154) (zdk ttX7_readSingle 71 rfl rfl) (by decide) (by omega) (by decide) (fun c1033 => ?_) (fun c1033 => ?_)
                · refine zj_aload_n (zdk ttX7_readSingle 80 rfl rfl) rfl (by decide) ?_
                  refine zj_getr (r := 103) (zdk ttX7_readSingle 81 rfl rfl) zf_RX7_9 rfl (k_L107 s1013) (rf_L107_0 s1013) ?_
                  refine zj_callV (av := []) (st := []) (zdk ttX7_readSingle 82 rfl rfl) mb_X6_pass mv_RX7_47 (ci := 6) rfl rfl (k_L103 s1013) rfl rfl (Nat.le_of_ble_eq_true rfl) (s_X6_pass l h1011 s1013) (rm_ok (by omega) (by decide)) (zq_v fun h1036 q1034 => ?_)
                  refine zj_aload_n (zdk ttX7_readSingle 83 rfl rfl) rfl (by decide) ?_
                  refine zj_aload_n (zdk ttX7_readSingle 84 rfl rfl) rfl (by omega) ?_
                  refine zj_callV (av := [.inr p1]) (st := []) (zdk ttX7_readSingle 85 rfl rfl) mb_X7_readSum mv_RX7_53 (ci := 7) rfl rfl (k_L107 q1034) rfl rfl (Nat.le_of_ble_eq_true rfl) (s_X7_readSum l h1036 p1 q1034 r_p1) (rm_ok (by omega) (by decide)) (zq_i fun v1040 h1041 q1039 => ?_)
                  obtain ⟨b1042, s1043⟩ := q1039
                  refine zj_if_ne (t := 171) (zdk ttX7_readSingle 86 rfl rfl) (by decide) (by omega) (fun c1044 => ?_) (fun c1044 => ?_)
                  · refine zj_aload_n (zdk ttX7_readSingle 89 rfl rfl) rfl (by omega) ?_
                    refine zj_sipush (zdk ttX7_readSingle 90 rfl rfl) (by decide) ?_
                    refine zj_iload (zdk ttX7_readSingle 91 rfl rfl) rfl ?_
                    refine zj_iadd (zdk ttX7_readSingle 92 rfl rfl) ?_
                    refine zj_callV (av := [.inl (20000 + (h1011.2 103 6))]) (st := []) (zdk ttX7_readSingle 93 rfl rfl) mb_X3_put mv_RX7_77 (ci := 3) rfl rfl (k_3_0 s1043 r_p1) rfl rfl (Nat.le_of_ble_eq_true rfl) (s_X3_put l h1041 p1 (20000 + (h1011.2 103 6)) s1043 r_p1 (by omega)) (rm_ok (by omega) (by decide)) (zq_v fun h1047 q1045 => ?_)
                    refine zj_iconst (zdk ttX7_readSingle 94 rfl rfl) ?_
                    exact zj_zret rfl (zdk ttX7_readSingle 95 rfl rfl) (Nat.le_refl _) (Nat.le_refl _) (by omega) ⟨1, rfl, by omega, q1045⟩
                  · refine zj_iconst (zdk ttX7_readSingle 87 rfl rfl) ?_
                    exact zj_zret rfl (zdk ttX7_readSingle 88 rfl rfl) (Nat.le_refl _) (Nat.le_refl _) (by omega) ⟨0, rfl, by omega, s1043⟩
                · refine zj_iload (zdk ttX7_readSingle 72 rfl rfl) rfl ?_
                  refine zj_bipush (zdk ttX7_readSingle 73 rfl rfl) (by decide) ?_
                  refine zj_icmp_eq (t := 154) (zdk ttX7_readSingle 74 rfl rfl) (by decide) (by omega) (by decide) (fun c1050 => ?_) (fun c1050 => ?_)
                  · refine zj_aload_n (zdk ttX7_readSingle 80 rfl rfl) rfl (by decide) ?_
                    refine zj_getr (r := 103) (zdk ttX7_readSingle 81 rfl rfl) zf_RX7_9 rfl (k_L107 s1013) (rf_L107_0 s1013) ?_
                    refine zj_callV (av := []) (st := []) (zdk ttX7_readSingle 82 rfl rfl) mb_X6_pass mv_RX7_47 (ci := 6) rfl rfl (k_L103 s1013) rfl rfl (Nat.le_of_ble_eq_true rfl) (s_X6_pass l h1011 s1013) (rm_ok (by omega) (by decide)) (zq_v fun h1053 q1051 => ?_)
                    refine zj_aload_n (zdk ttX7_readSingle 83 rfl rfl) rfl (by decide) ?_
                    refine zj_aload_n (zdk ttX7_readSingle 84 rfl rfl) rfl (by omega) ?_
                    refine zj_callV (av := [.inr p1]) (st := []) (zdk ttX7_readSingle 85 rfl rfl) mb_X7_readSum mv_RX7_53 (ci := 7) rfl rfl (k_L107 q1051) rfl rfl (Nat.le_of_ble_eq_true rfl) (s_X7_readSum l h1053 p1 q1051 r_p1) (rm_ok (by omega) (by decide)) (zq_i fun v1057 h1058 q1056 => ?_)
                    obtain ⟨b1059, s1060⟩ := q1056
                    refine zj_if_ne (t := 171) (zdk ttX7_readSingle 86 rfl rfl) (by decide) (by omega) (fun c1061 => ?_) (fun c1061 => ?_)
                    · refine zj_aload_n (zdk ttX7_readSingle 89 rfl rfl) rfl (by omega) ?_
                      refine zj_sipush (zdk ttX7_readSingle 90 rfl rfl) (by decide) ?_
                      refine zj_iload (zdk ttX7_readSingle 91 rfl rfl) rfl ?_
                      refine zj_iadd (zdk ttX7_readSingle 92 rfl rfl) ?_
                      refine zj_callV (av := [.inl (20000 + (h1011.2 103 6))]) (st := []) (zdk ttX7_readSingle 93 rfl rfl) mb_X3_put mv_RX7_77 (ci := 3) rfl rfl (k_3_0 s1060 r_p1) rfl rfl (Nat.le_of_ble_eq_true rfl) (s_X3_put l h1058 p1 (20000 + (h1011.2 103 6)) s1060 r_p1 (by omega)) (rm_ok (by omega) (by decide)) (zq_v fun h1064 q1062 => ?_)
                      refine zj_iconst (zdk ttX7_readSingle 94 rfl rfl) ?_
                      exact zj_zret rfl (zdk ttX7_readSingle 95 rfl rfl) (Nat.le_refl _) (Nat.le_refl _) (by omega) ⟨1, rfl, by omega, q1062⟩
                    · refine zj_iconst (zdk ttX7_readSingle 87 rfl rfl) ?_
                      exact zj_zret rfl (zdk ttX7_readSingle 88 rfl rfl) (Nat.le_refl _) (Nat.le_refl _) (by omega) ⟨0, rfl, by omega, s1060⟩
                  · refine zj_aload_n (zdk ttX7_readSingle 75 rfl rfl) rfl (by decide) ?_
                    refine zj_getr (r := 103) (zdk ttX7_readSingle 76 rfl rfl) zf_RX7_9 rfl (k_L107 s1013) (rf_L107_0 s1013) ?_
                    refine zj_iconst (zdk ttX7_readSingle 77 rfl rfl) ?_
                    refine zj_callV (av := [.inl 1]) (st := []) (zdk ttX7_readSingle 78 rfl rfl) mb_X6_refuse mv_RX7_81 (ci := 6) rfl rfl (k_L103 s1013) rfl rfl (Nat.le_of_ble_eq_true rfl) (s2_X6_refuse l h1011 1 s1013 (by omega)) (rm_ok (by omega) (by decide)) (zq_i fun v1068 h1069 q1067 => ?_)
                    obtain ⟨b1070, s1071⟩ := q1067
                    exact zj_zret rfl (zdk ttX7_readSingle 79 rfl rfl) (Nat.le_refl _) (Nat.le_refl _) (by omega) ⟨v1068, rfl, by omega, s1071⟩
            · refine zj_iconst (zdk ttX7_readSingle 60 rfl rfl) ?_
              exact zj_zret rfl (zdk ttX7_readSingle 61 rfl rfl) (Nat.le_refl _) (Nat.le_refl _) (by omega) ⟨0, rfl, by omega, s1013⟩
          · refine zj_iload_n (zdk ttX7_readSingle 13 rfl rfl) rfl ?_
            refine zj_bipush (zdk ttX7_readSingle 14 rfl rfl) (by decide) ?_
            refine zj_icmp_lt (t := 43) (zdk ttX7_readSingle 15 rfl rfl) (by decide) (by omega) (by decide) (fun c1072 => ?_) (fun c1072 => ?_)
            · refine zj_aload_n (zdk ttX7_readSingle 21 rfl rfl) rfl (by decide) ?_
              refine zj_getr (r := 103) (zdk ttX7_readSingle 22 rfl rfl) zf_RX7_9 rfl (k_L107 s0) (rf_L107_0 s0) ?_
              refine zj_callV (av := []) (st := []) (zdk ttX7_readSingle 23 rfl rfl) mb_X6_pass mv_RX7_47 (ci := 6) rfl rfl (k_L103 s0) rfl rfl (Nat.le_of_ble_eq_true rfl) (s_X6_pass l h s0) (rm_ok (by omega) (by decide)) (zq_v fun h1075 q1073 => ?_)
              refine zj_iload_n (zdk ttX7_readSingle 24 rfl rfl) rfl ?_
              refine zj_if_ne (t := 83) (zdk ttX7_readSingle 25 rfl rfl) (by decide) (by decide) (fun c1078 => ?_) (fun c1078 => ?_)
              · exact absurd c1078 (by omega)
              · refine zj_aload_n (zdk ttX7_readSingle 26 rfl rfl) rfl (by decide) ?_
                refine zj_aload_n (zdk ttX7_readSingle 27 rfl rfl) rfl (by omega) ?_
                refine zj_iload_n (zdk ttX7_readSingle 28 rfl rfl) rfl ?_
                refine zj_iconst (zdk ttX7_readSingle 29 rfl rfl) ?_
                refine zj_iadd (zdk ttX7_readSingle 30 rfl rfl) ?_
                refine zj_callV (av := [.inr p1, .inl (p2 + 1)]) (st := []) (zdk ttX7_readSingle 31 rfl rfl) mb_X7_readChoice mv_RX7_64 (ci := 7) rfl rfl (k_L107 q1073) rfl rfl (Nat.le_of_ble_eq_true rfl) (ihr.2 h1075 p1 (p2 + 1) q1073 r_p1 (by omega) (by omega)) (rm_ok (by omega) (by decide)) (zq_i fun v1080 h1081 q1079 => ?_)
                obtain ⟨b1082, s1083⟩ := q1079
                refine zj_if_eq (t := 81) (zdk ttX7_readSingle 32 rfl rfl) (by decide) (by omega) (fun c1084 => ?_) (fun c1084 => ?_)
                · refine zj_iconst (zdk ttX7_readSingle 40 rfl rfl) ?_
                  exact zj_zret rfl (zdk ttX7_readSingle 41 rfl rfl) (Nat.le_refl _) (Nat.le_refl _) (by omega) ⟨0, rfl, by omega, s1083⟩
                · refine zj_aload_n (zdk ttX7_readSingle 33 rfl rfl) rfl (by decide) ?_
                  refine zj_getr (r := 103) (zdk ttX7_readSingle 34 rfl rfl) zf_RX7_9 rfl (k_L107 s1083) (rf_L107_0 s1083) ?_
                  refine zj_bipush (zdk ttX7_readSingle 35 rfl rfl) (by decide) ?_
                  refine zj_callV (av := [.inl 41]) (st := []) (zdk ttX7_readSingle 36 rfl rfl) mb_X6_takes mv_RX7_70 (ci := 6) rfl rfl (k_L103 s1083) rfl rfl (Nat.le_of_ble_eq_true rfl) (s_X6_takes l h1081 41 s1083 (by omega)) (rm_ok (by omega) (by decide)) (zq_i fun v1086 h1087 q1085 => ?_)
                  obtain ⟨b1088, s1089⟩ := q1085
                  refine zj_if_eq (t := 81) (zdk ttX7_readSingle 37 rfl rfl) (by decide) (by omega) (fun c1090 => ?_) (fun c1090 => ?_)
                  · refine zj_iconst (zdk ttX7_readSingle 40 rfl rfl) ?_
                    exact zj_zret rfl (zdk ttX7_readSingle 41 rfl rfl) (Nat.le_refl _) (Nat.le_refl _) (by omega) ⟨0, rfl, by omega, s1089⟩
                  · refine zj_iconst (zdk ttX7_readSingle 38 rfl rfl) ?_
                    refine zj_goto (t := 82) (zdk ttX7_readSingle 39 rfl rfl) (by decide) ?_
                    exact zj_zret rfl (zdk ttX7_readSingle 41 rfl rfl) (Nat.le_refl _) (Nat.le_refl _) (by omega) ⟨1, rfl, by omega, s1089⟩
            · refine zj_aload_n (zdk ttX7_readSingle 16 rfl rfl) rfl (by decide) ?_
              refine zj_getr (r := 103) (zdk ttX7_readSingle 17 rfl rfl) zf_RX7_9 rfl (k_L107 s0) (rf_L107_0 s0) ?_
              refine zj_iconst (zdk ttX7_readSingle 18 rfl rfl) ?_
              refine zj_callV (av := [.inl 3]) (st := []) (zdk ttX7_readSingle 19 rfl rfl) mb_X6_refuse mv_RX7_81 (ci := 6) rfl rfl (k_L103 s0) rfl rfl (Nat.le_of_ble_eq_true rfl) (s2_X6_refuse l h 3 s0 (by omega)) (rm_ok (by omega) (by decide)) (zq_i fun v1092 h1093 q1091 => ?_)
              obtain ⟨b1094, s1095⟩ := q1091
              exact zj_zret rfl (zdk ttX7_readSingle 20 rfl rfl) (Nat.le_refl _) (Nat.le_refl _) (by omega) ⟨v1092, rfl, by omega, s1095⟩
      · refine zj_istore_n (L' := [some (.inr 107), some (.inr p1), some (.inl p2), some (.inl 1), none]) (zdk ttX7_readSingle 5 rfl rfl) (by decide) rfl ?_
        refine zj_iload_n (zdk ttX7_readSingle 6 rfl rfl) rfl ?_
        refine zj_if_ne (t := 28) (zdk ttX7_readSingle 7 rfl rfl) (by decide) (by decide) (fun c1096 => ?_) (fun c1096 => ?_)
        · refine zj_iload_n (zdk ttX7_readSingle 13 rfl rfl) rfl ?_
          refine zj_bipush (zdk ttX7_readSingle 14 rfl rfl) (by decide) ?_
          refine zj_icmp_lt (t := 43) (zdk ttX7_readSingle 15 rfl rfl) (by decide) (by omega) (by decide) (fun c1097 => ?_) (fun c1097 => ?_)
          · refine zj_aload_n (zdk ttX7_readSingle 21 rfl rfl) rfl (by decide) ?_
            refine zj_getr (r := 103) (zdk ttX7_readSingle 22 rfl rfl) zf_RX7_9 rfl (k_L107 s0) (rf_L107_0 s0) ?_
            refine zj_callV (av := []) (st := []) (zdk ttX7_readSingle 23 rfl rfl) mb_X6_pass mv_RX7_47 (ci := 6) rfl rfl (k_L103 s0) rfl rfl (Nat.le_of_ble_eq_true rfl) (s_X6_pass l h s0) (rm_ok (by omega) (by decide)) (zq_v fun h1100 q1098 => ?_)
            refine zj_iload_n (zdk ttX7_readSingle 24 rfl rfl) rfl ?_
            refine zj_if_ne (t := 83) (zdk ttX7_readSingle 25 rfl rfl) (by decide) (by decide) (fun c1103 => ?_) (fun c1103 => ?_)
            · refine zj_aload_n (zdk ttX7_readSingle 42 rfl rfl) rfl (by decide) ?_
              refine zj_aload_n (zdk ttX7_readSingle 43 rfl rfl) rfl (by omega) ?_
              refine zj_iload_n (zdk ttX7_readSingle 44 rfl rfl) rfl ?_
              refine zj_iconst (zdk ttX7_readSingle 45 rfl rfl) ?_
              refine zj_iadd (zdk ttX7_readSingle 46 rfl rfl) ?_
              refine zj_callV (av := [.inr p1, .inl (p2 + 1)]) (st := []) (zdk ttX7_readSingle 47 rfl rfl) mb_X7_readSingle mv_RX7_74 (ci := 7) rfl rfl (k_L107 q1098) rfl rfl (Nat.le_of_ble_eq_true rfl) (ihr.1 h1100 p1 (p2 + 1) q1098 r_p1 (by omega) (by omega)) (rm_ok (by omega) (by decide)) (zq_i fun v1105 h1106 q1104 => ?_)
              obtain ⟨b1107, s1108⟩ := q1104
              refine zj_if_ne (t := 96) (zdk ttX7_readSingle 48 rfl rfl) (by decide) (by omega) (fun c1109 => ?_) (fun c1109 => ?_)
              · refine zj_aload_n (zdk ttX7_readSingle 51 rfl rfl) rfl (by omega) ?_
                refine zj_sipush (zdk ttX7_readSingle 52 rfl rfl) (by decide) ?_
                refine zj_callV (av := [.inl 20006]) (st := []) (zdk ttX7_readSingle 53 rfl rfl) mb_X3_put mv_RX7_77 (ci := 3) rfl rfl (k_3_0 s1108 r_p1) rfl rfl (Nat.le_of_ble_eq_true rfl) (s_X3_put l h1106 p1 20006 s1108 r_p1 (by omega)) (rm_ok (by omega) (by decide)) (zq_v fun h1112 q1110 => ?_)
                refine zj_iconst (zdk ttX7_readSingle 54 rfl rfl) ?_
                exact zj_zret rfl (zdk ttX7_readSingle 55 rfl rfl) (Nat.le_refl _) (Nat.le_refl _) (by omega) ⟨1, rfl, by omega, q1110⟩
              · refine zj_iconst (zdk ttX7_readSingle 49 rfl rfl) ?_
                exact zj_zret rfl (zdk ttX7_readSingle 50 rfl rfl) (Nat.le_refl _) (Nat.le_refl _) (by omega) ⟨0, rfl, by omega, s1108⟩
            · exact absurd c1103 (by omega)
          · refine zj_aload_n (zdk ttX7_readSingle 16 rfl rfl) rfl (by decide) ?_
            refine zj_getr (r := 103) (zdk ttX7_readSingle 17 rfl rfl) zf_RX7_9 rfl (k_L107 s0) (rf_L107_0 s0) ?_
            refine zj_iconst (zdk ttX7_readSingle 18 rfl rfl) ?_
            refine zj_callV (av := [.inl 3]) (st := []) (zdk ttX7_readSingle 19 rfl rfl) mb_X6_refuse mv_RX7_81 (ci := 6) rfl rfl (k_L103 s0) rfl rfl (Nat.le_of_ble_eq_true rfl) (s2_X6_refuse l h 3 s0 (by omega)) (rm_ok (by omega) (by decide)) (zq_i fun v1116 h1117 q1115 => ?_)
            obtain ⟨b1118, s1119⟩ := q1115
            exact zj_zret rfl (zdk ttX7_readSingle 20 rfl rfl) (Nat.le_refl _) (Nat.le_refl _) (by omega) ⟨v1116, rfl, by omega, s1119⟩
        · exact absurd c1096 (by omega)
    have hr1 : ∀ (h : zM) (p1 p2 : Int), (okC h) → (zLw p1) → (0 ≤ p2 ∧ p2 ≤ 8) → (9 - p2).toNat < (n0 + 1) → zT shC l yX7_readChoice cX7_readChoice 6 (some .boolean) (rmL (8 + 2 * (n0 + 1) + 1)) 0 0 [.inr 107, .inr p1, .inl p2] h (q_X7_readChoice h p1 p2) := by
      intro h p1 p2 s0 r_p1 b_p2 hm0
      refine zT_of (by decide +kernel) (L0 := [some (.inr 107), some (.inr p1), some (.inl p2), none, none, none]) rfl (Nat.le_of_ble_eq_true rfl) ?_
      have b2001 := zLw_b r_p1
      refine zj_aload_n (zdk ttX7_readChoice 0 rfl rfl) rfl (by decide) ?_
      refine zj_aload_n (zdk ttX7_readChoice 1 rfl rfl) rfl (by omega) ?_
      refine zj_iload_n (zdk ttX7_readChoice 2 rfl rfl) rfl ?_
      refine zj_callV (av := [.inr p1, .inl p2]) (st := []) (zdk ttX7_readChoice 3 rfl rfl) mb_X7_readSingle mv_RX7_74 (ci := 7) rfl rfl (k_L107 s0) rfl rfl (Nat.le_of_ble_eq_true rfl) (hr0 h p1 p2 s0 r_p1 (by omega) (by omega)) (rm_ok (by omega) (by decide)) (zq_i fun v2003 h2004 q2002 => ?_)
      obtain ⟨b2005, s2006⟩ := q2002
      refine zj_if_ne (t := 11) (zdk ttX7_readChoice 4 rfl rfl) (by decide) (by omega) (fun c2007 => ?_) (fun c2007 => ?_)
      · refine zj_iconst (zdk ttX7_readChoice 7 rfl rfl) ?_
        refine zj_istore_n (L' := [some (.inr 107), some (.inr p1), some (.inl p2), some (.inl 0), none, none]) (zdk ttX7_readChoice 8 rfl rfl) (by decide) rfl ?_
        refine zj_iconst (zdk ttX7_readChoice 9 rfl rfl) ?_
        refine zj_istore (L' := [some (.inr 107), some (.inr p1), some (.inl p2), some (.inl 0), some (.inl 0), none]) (zdk ttX7_readChoice 10 rfl rfl) (by decide) rfl ?_
        have lp2704 : ∀ (n : Nat) (x2008 x2009 : Int) (h2010 : zM), (0 ≤ x2008 ∧ x2008 ≤ 1) → (0 ≤ x2009 ∧ x2009 ≤ 400) → okC h2010 → (401 - x2009).toNat < n → zJ shC l yX7_readChoice cX7_readChoice 6 (some .boolean) (rmL (8 + 2 * (n0 + 1) + 1)) 0 0 (q_X7_readChoice h p1 p2) 0 0 16 [some (.inr 107), some (.inr p1), some (.inl p2), some (.inl x2008), some (.inl x2009), none] [] h2010 := by
          intro n
          induction n with
          | zero => intro x2008 x2009 h2010 b2705 b2706 s2011 m2707; exact absurd m2707 (Nat.not_lt_zero _)
          | succ n ih2708 =>
            intro x2008 x2009 h2010 b2705 b2706 s2011 m2707
            refine zj_iload (zdk ttX7_readChoice 11 rfl rfl) rfl ?_
            refine zj_sipush (zdk ttX7_readChoice 12 rfl rfl) (by decide) ?_
            refine zj_icmp_ge (t := 111) (zdk ttX7_readChoice 13 rfl rfl) (by decide) (by omega) (by decide) (fun c2709 => ?_) (fun c2709 => ?_)
            · refine zj_aload_n (zdk ttX7_readChoice 57 rfl rfl) rfl (by decide) ?_
              refine zj_getr (r := 103) (zdk ttX7_readChoice 58 rfl rfl) zf_RX7_9 rfl (k_L107 s2011) (rf_L107_0 s2011) ?_
              refine zj_iconst (zdk ttX7_readChoice 59 rfl rfl) ?_
              refine zj_callV (av := [.inl 1]) (st := []) (zdk ttX7_readChoice 60 rfl rfl) mb_X6_refuse mv_RX7_81 (ci := 6) rfl rfl (k_L103 s2011) rfl rfl (Nat.le_of_ble_eq_true rfl) (s2_X6_refuse l h2010 1 s2011 (by omega)) (rm_ok (by omega) (by decide)) (zq_i fun v2711 h2712 q2710 => ?_)
              obtain ⟨b2713, s2714⟩ := q2710
              exact zj_zret rfl (zdk ttX7_readChoice 61 rfl rfl) (Nat.le_refl _) (Nat.le_refl _) (by omega) ⟨v2711, rfl, by omega, s2714⟩
            · refine zj_aload_n (zdk ttX7_readChoice 14 rfl rfl) rfl (by decide) ?_
              refine zj_getr (r := 103) (zdk ttX7_readChoice 15 rfl rfl) zf_RX7_9 rfl (k_L107 s2011) (rf_L107_0 s2011) ?_
              refine zj_iconst (zdk ttX7_readChoice 16 rfl rfl) ?_
              refine zj_iconst (zdk ttX7_readChoice 17 rfl rfl) ?_
              refine zj_callV (av := [.inl 5, .inl 5]) (st := []) (zdk ttX7_readChoice 18 rfl rfl) mb_X6_isWord mv_RX7_60 (ci := 6) rfl rfl (k_L103 s2011) rfl rfl (Nat.le_of_ble_eq_true rfl) (s_X6_isWord l h2010 5 5 s2011 (by omega) (by omega)) (rm_ok (by omega) (by decide)) (zq_i fun v2716 h2717 q2715 => ?_)
              have j2731 : ∀ (x2728 : Int) (h2729 : zM), (0 ≤ x2728 ∧ x2728 ≤ 1) → okC h2729 → zJ shC l yX7_readChoice cX7_readChoice 6 (some .boolean) (rmL (8 + 2 * (n0 + 1) + 1)) 0 0 (q_X7_readChoice h p1 p2) 0 0 51 [some (.inr 107), some (.inr p1), some (.inl p2), some (.inl x2008), some (.inl x2009), some (.inl x2728)] [] h2729 := by
                intro x2728 h2729 b2732 s2730
                refine zj_iload (zdk ttX7_readChoice 27 rfl rfl) rfl ?_
                refine zj_if_ne (t := 70) (zdk ttX7_readChoice 28 rfl rfl) (by decide) (by omega) (fun c2733 => ?_) (fun c2733 => ?_)
                · refine zj_aload_n (zdk ttX7_readChoice 37 rfl rfl) rfl (by decide) ?_
                  refine zj_getr (r := 103) (zdk ttX7_readChoice 38 rfl rfl) zf_RX7_9 rfl (k_L107 s2730) (rf_L107_0 s2730) ?_
                  refine zj_callV (av := []) (st := []) (zdk ttX7_readChoice 39 rfl rfl) mb_X6_pass mv_RX7_47 (ci := 6) rfl rfl (k_L103 s2730) rfl rfl (Nat.le_of_ble_eq_true rfl) (s_X6_pass l h2729 s2730) (rm_ok (by omega) (by decide)) (zq_v fun h2736 q2734 => ?_)
                  refine zj_aload_n (zdk ttX7_readChoice 40 rfl rfl) rfl (by decide) ?_
                  refine zj_aload_n (zdk ttX7_readChoice 41 rfl rfl) rfl (by omega) ?_
                  refine zj_iload_n (zdk ttX7_readChoice 42 rfl rfl) rfl ?_
                  refine zj_callV (av := [.inr p1, .inl p2]) (st := []) (zdk ttX7_readChoice 43 rfl rfl) mb_X7_readSingle mv_RX7_74 (ci := 7) rfl rfl (k_L107 q2734) rfl rfl (Nat.le_of_ble_eq_true rfl) (hr0 h2736 p1 p2 q2734 r_p1 (by omega) (by omega)) (rm_ok (by omega) (by decide)) (zq_i fun v2740 h2741 q2739 => ?_)
                  obtain ⟨b2742, s2743⟩ := q2739
                  refine zj_if_ne (t := 88) (zdk ttX7_readChoice 44 rfl rfl) (by decide) (by omega) (fun c2744 => ?_) (fun c2744 => ?_)
                  · refine zj_iload (zdk ttX7_readChoice 47 rfl rfl) rfl ?_
                    refine zj_if_eq (t := 103) (zdk ttX7_readChoice 48 rfl rfl) (by decide) (by omega) (fun c2745 => ?_) (fun c2745 => ?_)
                    · exact absurd c2745 (by omega)
                    · refine zj_aload_n (zdk ttX7_readChoice 49 rfl rfl) rfl (by omega) ?_
                      refine zj_sipush (zdk ttX7_readChoice 50 rfl rfl) (by decide) ?_
                      refine zj_callV (av := [.inl 20005]) (st := []) (zdk ttX7_readChoice 51 rfl rfl) mb_X3_put mv_RX7_77 (ci := 3) rfl rfl (k_3_0 s2743 r_p1) rfl rfl (Nat.le_of_ble_eq_true rfl) (s_X3_put l h2741 p1 20005 s2743 r_p1 (by omega)) (rm_ok (by omega) (by decide)) (zq_v fun h2748 q2746 => ?_)
                      refine zj_goto (t := 105) (zdk ttX7_readChoice 52 rfl rfl) (by decide) ?_
                      refine zj_iinc (L' := [some (.inr 107), some (.inr p1), some (.inl p2), some (.inl x2008), some (.inl (x2009 + 1)), some (.inl x2728)]) (zdk ttX7_readChoice 55 rfl rfl) rfl (by decide) rfl ?_
                      refine zj_goto (t := 16) (zdk ttX7_readChoice 56 rfl rfl) (by decide) ?_
                      refine zj_kill (k := 5) (L' := [some (.inr 107), some (.inr p1), some (.inl p2), some (.inl x2008), some (.inl (x2009 + 1)), none]) rfl ?_
                      exact ih2708  x2008 (x2009 + 1) h2748 (by omega) (by omega) q2746 (by omega)
                  · refine zj_iconst (zdk ttX7_readChoice 45 rfl rfl) ?_
                    exact zj_zret rfl (zdk ttX7_readChoice 46 rfl rfl) (Nat.le_refl _) (Nat.le_refl _) (by omega) ⟨0, rfl, by omega, s2743⟩
                · refine zj_aload_n (zdk ttX7_readChoice 29 rfl rfl) rfl (by decide) ?_
                  refine zj_getr (r := 103) (zdk ttX7_readChoice 30 rfl rfl) zf_RX7_9 rfl (k_L107 s2730) (rf_L107_0 s2730) ?_
                  refine zj_iconst (zdk ttX7_readChoice 31 rfl rfl) ?_
                  refine zj_iconst (zdk ttX7_readChoice 32 rfl rfl) ?_
                  refine zj_callV (av := [.inl 4, .inl 4]) (st := []) (zdk ttX7_readChoice 33 rfl rfl) mb_X6_isWord mv_RX7_60 (ci := 6) rfl rfl (k_L103 s2730) rfl rfl (Nat.le_of_ble_eq_true rfl) (s_X6_isWord l h2729 4 4 s2730 (by omega) (by omega)) (rm_ok (by omega) (by decide)) (zq_i fun v2752 h2753 q2751 => ?_)
                  obtain ⟨rfl, b2755, ⟨rfl, b2754⟩ | ⟨rfl, b2754⟩⟩ := q2751
                  · refine zj_if_ne (t := 70) (zdk ttX7_readChoice 34 rfl rfl) (by decide) (by decide) (fun c2756 => ?_) (fun c2756 => ?_)
                    · exact absurd c2756 (by omega)
                    · refine zj_iconst (zdk ttX7_readChoice 35 rfl rfl) ?_
                      exact zj_zret rfl (zdk ttX7_readChoice 36 rfl rfl) (Nat.le_refl _) (Nat.le_refl _) (by omega) ⟨1, rfl, by omega, s2730⟩
                  · refine zj_if_ne (t := 70) (zdk ttX7_readChoice 34 rfl rfl) (by decide) (by decide) (fun c2757 => ?_) (fun c2757 => ?_)
                    · refine zj_aload_n (zdk ttX7_readChoice 37 rfl rfl) rfl (by decide) ?_
                      refine zj_getr (r := 103) (zdk ttX7_readChoice 38 rfl rfl) zf_RX7_9 rfl (k_L107 s2730) (rf_L107_0 s2730) ?_
                      refine zj_callV (av := []) (st := []) (zdk ttX7_readChoice 39 rfl rfl) mb_X6_pass mv_RX7_47 (ci := 6) rfl rfl (k_L103 s2730) rfl rfl (Nat.le_of_ble_eq_true rfl) (s_X6_pass l h2729 s2730) (rm_ok (by omega) (by decide)) (zq_v fun h2760 q2758 => ?_)
                      refine zj_aload_n (zdk ttX7_readChoice 40 rfl rfl) rfl (by decide) ?_
                      refine zj_aload_n (zdk ttX7_readChoice 41 rfl rfl) rfl (by omega) ?_
                      refine zj_iload_n (zdk ttX7_readChoice 42 rfl rfl) rfl ?_
                      refine zj_callV (av := [.inr p1, .inl p2]) (st := []) (zdk ttX7_readChoice 43 rfl rfl) mb_X7_readSingle mv_RX7_74 (ci := 7) rfl rfl (k_L107 q2758) rfl rfl (Nat.le_of_ble_eq_true rfl) (hr0 h2760 p1 p2 q2758 r_p1 (by omega) (by omega)) (rm_ok (by omega) (by decide)) (zq_i fun v2764 h2765 q2763 => ?_)
                      obtain ⟨b2766, s2767⟩ := q2763
                      refine zj_if_ne (t := 88) (zdk ttX7_readChoice 44 rfl rfl) (by decide) (by omega) (fun c2768 => ?_) (fun c2768 => ?_)
                      · refine zj_iload (zdk ttX7_readChoice 47 rfl rfl) rfl ?_
                        refine zj_if_eq (t := 103) (zdk ttX7_readChoice 48 rfl rfl) (by decide) (by omega) (fun c2769 => ?_) (fun c2769 => ?_)
                        · refine zj_iconst (zdk ttX7_readChoice 53 rfl rfl) ?_
                          refine zj_istore_n (L' := [some (.inr 107), some (.inr p1), some (.inl p2), some (.inl 1), some (.inl x2009), some (.inl x2728)]) (zdk ttX7_readChoice 54 rfl rfl) (by decide) rfl ?_
                          refine zj_iinc (L' := [some (.inr 107), some (.inr p1), some (.inl p2), some (.inl 1), some (.inl (x2009 + 1)), some (.inl x2728)]) (zdk ttX7_readChoice 55 rfl rfl) rfl (by decide) rfl ?_
                          refine zj_goto (t := 16) (zdk ttX7_readChoice 56 rfl rfl) (by decide) ?_
                          refine zj_kill (k := 5) (L' := [some (.inr 107), some (.inr p1), some (.inl p2), some (.inl 1), some (.inl (x2009 + 1)), none]) rfl ?_
                          exact ih2708  1 (x2009 + 1) h2765 (by omega) (by omega) s2767 (by omega)
                        · exact absurd c2769 (by omega)
                      · refine zj_iconst (zdk ttX7_readChoice 45 rfl rfl) ?_
                        exact zj_zret rfl (zdk ttX7_readChoice 46 rfl rfl) (Nat.le_refl _) (Nat.le_refl _) (by omega) ⟨0, rfl, by omega, s2767⟩
                    · exact absurd c2757 (by omega)
              obtain ⟨rfl, b2719, ⟨rfl, b2718⟩ | ⟨rfl, b2718⟩⟩ := q2715
              · refine zj_istore (L' := [some (.inr 107), some (.inr p1), some (.inl p2), some (.inl x2008), some (.inl x2009), some (.inl 0)]) (zdk ttX7_readChoice 19 rfl rfl) (by decide) rfl ?_
                refine zj_iload (zdk ttX7_readChoice 20 rfl rfl) rfl ?_
                refine zj_if_ne (t := 51) (zdk ttX7_readChoice 21 rfl rfl) (by decide) (by decide) (fun c2770 => ?_) (fun c2770 => ?_)
                · exact absurd c2770 (by omega)
                · refine zj_iload_n (zdk ttX7_readChoice 22 rfl rfl) rfl ?_
                  refine zj_if_eq (t := 51) (zdk ttX7_readChoice 23 rfl rfl) (by decide) (by omega) (fun c2771 => ?_) (fun c2771 => ?_)
                  · exact j2731 0 h2010 (by omega) s2011
                  · refine zj_aload_n (zdk ttX7_readChoice 24 rfl rfl) rfl (by omega) ?_
                    refine zj_sipush (zdk ttX7_readChoice 25 rfl rfl) (by decide) ?_
                    refine zj_callV (av := [.inl 20004]) (st := []) (zdk ttX7_readChoice 26 rfl rfl) mb_X3_put mv_RX7_77 (ci := 3) rfl rfl (k_3_0 s2011 r_p1) rfl rfl (Nat.le_of_ble_eq_true rfl) (s_X3_put l h2010 p1 20004 s2011 r_p1 (by omega)) (rm_ok (by omega) (by decide)) (zq_v fun h2774 q2772 => ?_)
                    exact j2731 0 h2774 (by omega) q2772
              · refine zj_istore (L' := [some (.inr 107), some (.inr p1), some (.inl p2), some (.inl x2008), some (.inl x2009), some (.inl 1)]) (zdk ttX7_readChoice 19 rfl rfl) (by decide) rfl ?_
                refine zj_iload (zdk ttX7_readChoice 20 rfl rfl) rfl ?_
                refine zj_if_ne (t := 51) (zdk ttX7_readChoice 21 rfl rfl) (by decide) (by decide) (fun c2777 => ?_) (fun c2777 => ?_)
                · exact j2731 1 h2010 (by omega) s2011
                · exact absurd c2777 (by omega)
        exact lp2704 _ 0 0 h2004 (by omega) (by omega) s2006 (Nat.lt_succ_self _)
      · refine zj_iconst (zdk ttX7_readChoice 5 rfl rfl) ?_
        exact zj_zret rfl (zdk ttX7_readChoice 6 rfl rfl) (Nat.le_refl _) (Nat.le_refl _) (by omega) ⟨0, rfl, by omega, s2006⟩
    exact ⟨hr0, hr1⟩

abbrev tX7_readLawLine : List (Nat × Instr × Nat) := [(0, .aload_n 1, 1), (1, .getfield 43, 3), (4, .iload_n 2, 1), (5, .aload_n 0, 1), (6, .getfield 9, 3), (9, .getfield 32, 3), (12, .sipush 200, 3), (15, .isub, 1), (16, .iastore, 1), (17, .aload_n 0, 1), (18, .getfield 9, 3), (21, .invokevirtual 47, 3), (24, .aload_n 1, 1), (25, .getfield 50, 3), (28, .iload_n 2, 1), (29, .aload_n 1, 1), (30, .getfield 29, 3), (33, .iastore, 1), (34, .aload_n 0, 1), (35, .aload_n 1, 1), (36, .invokevirtual 53, 3), (39, .ifCond .ne 5, 3), (42, .iconst 0, 1), (43, .ireturn, 1), (44, .aload_n 1, 1), (45, .getfield 57, 3), (48, .iload_n 2, 1), (49, .aload_n 1, 1), (50, .getfield 29, 3), (53, .iastore, 1), (54, .aload_n 0, 1), (55, .getfield 9, 3), (58, .iconst 3, 1), (59, .iconst 3, 1), (60, .invokevirtual 60, 3), (63, .ifCond .eq 21, 3), (66, .aload_n 0, 1), (67, .getfield 9, 3), (70, .invokevirtual 47, 3), (73, .aload_n 0, 1), (74, .aload_n 1, 1), (75, .iconst 0, 1), (76, .invokevirtual 64, 3), (79, .ifCond .ne 5, 3), (82, .iconst 0, 1), (83, .ireturn, 1), (84, .aload_n 1, 1), (85, .getfield 67, 3), (88, .iload_n 2, 1), (89, .aload_n 1, 1), (90, .getfield 29, 3), (93, .iastore, 1), (94, .aload_n 0, 1), (95, .getfield 9, 3), (98, .bipush 59, 2), (100, .invokevirtual 70, 3), (103, .ireturn, 1)]
theorem ttX7_readLawLine : zdt cX7_readLawLine tX7_readLawLine = true := by decide +kernel
abbrev q_X7_readLawLine (h : zM) (p1 : Int) (p2 : Int) : Option zV → zM → Prop := zqi fun v h' => (0 ≤ v ∧ v ≤ 1) ∧ okC h'
set_option maxRecDepth 100000 in
set_option maxHeartbeats 4000000 in
theorem s_X7_readLawLine (l : Launch) (h : zM) (p1 : Int) (p2 : Int) (s0 : okC h) (r_p1 : zLw p1) (b_p2 : 0 ≤ p2 ∧ p2 ≤ 15) : zT shC l yX7_readLawLine cX7_readLawLine 3 (some .boolean) (rmL 31) 0 0 [.inr 107, .inr p1, .inl p2] h (q_X7_readLawLine h p1 p2) := by
  refine zT_of (by decide +kernel) (L0 := [some (.inr 107), some (.inr p1), some (.inl p2)]) rfl (Nat.le_of_ble_eq_true rfl) ?_
  have b1 := zLw_b r_p1
  refine zj_aload_n (zdk ttX7_readLawLine 0 rfl rfl) rfl (by omega) ?_
  refine zj_getr (r := (p1 + 1)) (zdk ttX7_readLawLine 1 rfl rfl) zf_RX7_43 rfl (k_3_0 s0 r_p1) (rf_3_0_0 s0 r_p1) ?_
  refine zj_iload_n (zdk ttX7_readLawLine 2 rfl rfl) rfl ?_
  refine zj_aload_n (zdk ttX7_readLawLine 3 rfl rfl) rfl (by decide) ?_
  refine zj_getr (r := 103) (zdk ttX7_readLawLine 4 rfl rfl) zf_RX7_9 rfl (k_L107 s0) (rf_L107_0 s0) ?_
  have b2 : -2147483648 ≤ (h.2 103 6) ∧ (h.2 103 6) ≤ 2147483647 := fb_L103_6 s0
  refine zj_geti (v := (h.2 103 6)) (zdk ttX7_readLawLine 5 rfl rfl) zf_RX7_32 rfl (k_L103 s0) rfl ?_
  refine zj_sipush (zdk ttX7_readLawLine 6 rfl rfl) (by decide) ?_
  refine zj_isub (zdk ttX7_readLawLine 7 rfl rfl) ?_
  refine zj_wrap ?_
  have b3 := zwp_in ((h.2 103 6) - 200)
  refine zj_iast (zdk ttX7_readLawLine 8 rfl rfl) (ka_3_0_0 s0 r_p1) (by decide) (by omega) (fun h4 e5 => ?_)
  refine zj_aload_n (zdk ttX7_readLawLine 9 rfl rfl) rfl (by decide) ?_
  have s6 : okC h4 := aw_3_0_0 s0 r_p1 e5 (by omega)
  refine zj_getr (r := 103) (zdk ttX7_readLawLine 10 rfl rfl) zf_RX7_9 rfl (k_L107 s6) (rf_L107_0 s6) ?_
  refine zj_callV (av := []) (st := []) (zdk ttX7_readLawLine 11 rfl rfl) mb_X6_pass mv_RX7_47 (ci := 6) rfl rfl (k_L103 s6) rfl rfl (Nat.le_of_ble_eq_true rfl) (s_X6_pass l h4 s6) (rm_ok (by decide) (by decide)) (zq_v fun h9 q7 => ?_)
  refine zj_aload_n (zdk ttX7_readLawLine 12 rfl rfl) rfl (by omega) ?_
  refine zj_getr (r := (p1 + 2)) (zdk ttX7_readLawLine 13 rfl rfl) zf_RX7_50 rfl (k_3_0 q7 r_p1) (rf_3_0_1 q7 r_p1) ?_
  refine zj_iload_n (zdk ttX7_readLawLine 14 rfl rfl) rfl ?_
  refine zj_aload_n (zdk ttX7_readLawLine 15 rfl rfl) rfl (by omega) ?_
  have b12 : 0 ≤ (h9.2 p1 7) ∧ (h9.2 p1 7) ≤ 400 := fb_3_0_7 q7 r_p1
  refine zj_geti (v := (h9.2 p1 7)) (zdk ttX7_readLawLine 16 rfl rfl) zf_RX7_29 rfl (k_3_0 q7 r_p1) rfl ?_
  refine zj_iast (zdk ttX7_readLawLine 17 rfl rfl) (ka_3_0_1 q7 r_p1) (by decide) (by omega) (fun h13 e14 => ?_)
  refine zj_aload_n (zdk ttX7_readLawLine 18 rfl rfl) rfl (by decide) ?_
  refine zj_aload_n (zdk ttX7_readLawLine 19 rfl rfl) rfl (by omega) ?_
  have s15 : okC h13 := aw_3_0_1 q7 r_p1 e14 (by omega)
  refine zj_callV (av := [.inr p1]) (st := []) (zdk ttX7_readLawLine 20 rfl rfl) mb_X7_readSum mv_RX7_53 (ci := 7) rfl rfl (k_L107 s15) rfl rfl (Nat.le_of_ble_eq_true rfl) (s_X7_readSum l h13 p1 s15 r_p1) (rm_ok (by decide) (by decide)) (zq_i fun v17 h18 q16 => ?_)
  obtain ⟨b19, s20⟩ := q16
  refine zj_if_ne (t := 44) (zdk ttX7_readLawLine 21 rfl rfl) (by decide) (by omega) (fun c21 => ?_) (fun c21 => ?_)
  · refine zj_aload_n (zdk ttX7_readLawLine 24 rfl rfl) rfl (by omega) ?_
    refine zj_getr (r := (p1 + 3)) (zdk ttX7_readLawLine 25 rfl rfl) zf_RX7_57 rfl (k_3_0 s20 r_p1) (rf_3_0_2 s20 r_p1) ?_
    refine zj_iload_n (zdk ttX7_readLawLine 26 rfl rfl) rfl ?_
    refine zj_aload_n (zdk ttX7_readLawLine 27 rfl rfl) rfl (by omega) ?_
    have b22 : 0 ≤ (h18.2 p1 7) ∧ (h18.2 p1 7) ≤ 400 := fb_3_0_7 s20 r_p1
    refine zj_geti (v := (h18.2 p1 7)) (zdk ttX7_readLawLine 28 rfl rfl) zf_RX7_29 rfl (k_3_0 s20 r_p1) rfl ?_
    refine zj_iast (zdk ttX7_readLawLine 29 rfl rfl) (ka_3_0_2 s20 r_p1) (by decide) (by omega) (fun h23 e24 => ?_)
    refine zj_aload_n (zdk ttX7_readLawLine 30 rfl rfl) rfl (by decide) ?_
    have s25 : okC h23 := aw_3_0_2 s20 r_p1 e24 (by omega)
    refine zj_getr (r := 103) (zdk ttX7_readLawLine 31 rfl rfl) zf_RX7_9 rfl (k_L107 s25) (rf_L107_0 s25) ?_
    refine zj_iconst (zdk ttX7_readLawLine 32 rfl rfl) ?_
    refine zj_iconst (zdk ttX7_readLawLine 33 rfl rfl) ?_
    refine zj_callV (av := [.inl 3, .inl 3]) (st := []) (zdk ttX7_readLawLine 34 rfl rfl) mb_X6_isWord mv_RX7_60 (ci := 6) rfl rfl (k_L103 s25) rfl rfl (Nat.le_of_ble_eq_true rfl) (s_X6_isWord l h23 3 3 s25 (by omega) (by omega)) (rm_ok (by decide) (by decide)) (zq_i fun v27 h28 q26 => ?_)
    obtain ⟨rfl, b30, ⟨rfl, b29⟩ | ⟨rfl, b29⟩⟩ := q26
    · refine zj_if_eq (t := 84) (zdk ttX7_readLawLine 35 rfl rfl) (by decide) (by decide) (fun c31 => ?_) (fun c31 => ?_)
      · refine zj_aload_n (zdk ttX7_readLawLine 46 rfl rfl) rfl (by omega) ?_
        refine zj_getr (r := (p1 + 4)) (zdk ttX7_readLawLine 47 rfl rfl) zf_RX7_67 rfl (k_3_0 s25 r_p1) (rf_3_0_3 s25 r_p1) ?_
        refine zj_iload_n (zdk ttX7_readLawLine 48 rfl rfl) rfl ?_
        refine zj_aload_n (zdk ttX7_readLawLine 49 rfl rfl) rfl (by omega) ?_
        refine zj_geti (v := (h18.2 p1 7)) (zdk ttX7_readLawLine 50 rfl rfl) zf_RX7_29 rfl (k_3_0 s25 r_p1) (zwr_r e24 (by omega)) ?_
        refine zj_iast (zdk ttX7_readLawLine 51 rfl rfl) (ka_3_0_3 s25 r_p1) (by decide) (by omega) (fun h32 e33 => ?_)
        refine zj_aload_n (zdk ttX7_readLawLine 52 rfl rfl) rfl (by decide) ?_
        have s34 : okC h32 := aw_3_0_3 s25 r_p1 e33 (by omega)
        refine zj_getr (r := 103) (zdk ttX7_readLawLine 53 rfl rfl) zf_RX7_9 rfl (k_L107 s34) (rf_L107_0 s34) ?_
        refine zj_bipush (zdk ttX7_readLawLine 54 rfl rfl) (by decide) ?_
        refine zj_callV (av := [.inl 59]) (st := []) (zdk ttX7_readLawLine 55 rfl rfl) mb_X6_takes mv_RX7_70 (ci := 6) rfl rfl (k_L103 s34) rfl rfl (Nat.le_of_ble_eq_true rfl) (s_X6_takes l h32 59 s34 (by omega)) (rm_ok (by decide) (by decide)) (zq_i fun v36 h37 q35 => ?_)
        obtain ⟨b38, s39⟩ := q35
        exact zj_zret rfl (zdk ttX7_readLawLine 56 rfl rfl) (Nat.le_refl _) (Nat.le_refl _) (by omega) ⟨v36, rfl, by omega, s39⟩
      · exact absurd c31 (by omega)
    · refine zj_if_eq (t := 84) (zdk ttX7_readLawLine 35 rfl rfl) (by decide) (by decide) (fun c40 => ?_) (fun c40 => ?_)
      · exact absurd c40 (by omega)
      · refine zj_aload_n (zdk ttX7_readLawLine 36 rfl rfl) rfl (by decide) ?_
        refine zj_getr (r := 103) (zdk ttX7_readLawLine 37 rfl rfl) zf_RX7_9 rfl (k_L107 s25) (rf_L107_0 s25) ?_
        refine zj_callV (av := []) (st := []) (zdk ttX7_readLawLine 38 rfl rfl) mb_X6_pass mv_RX7_47 (ci := 6) rfl rfl (k_L103 s25) rfl rfl (Nat.le_of_ble_eq_true rfl) (s_X6_pass l h23 s25) (rm_ok (by decide) (by decide)) (zq_v fun h43 q41 => ?_)
        refine zj_aload_n (zdk ttX7_readLawLine 39 rfl rfl) rfl (by decide) ?_
        refine zj_aload_n (zdk ttX7_readLawLine 40 rfl rfl) rfl (by omega) ?_
        refine zj_iconst (zdk ttX7_readLawLine 41 rfl rfl) ?_
        refine zj_callV (av := [.inr p1, .inl 0]) (st := []) (zdk ttX7_readLawLine 42 rfl rfl) mb_X7_readChoice mv_RX7_64 (ci := 7) rfl rfl (k_L107 q41) rfl rfl (Nat.le_of_ble_eq_true rfl) ((s_X7_readSingle_and_X7_readChoice l 10).2 h43 p1 0 q41 r_p1 (by omega) (by omega)) (rm_ok (by decide) (by decide)) (zq_i fun v47 h48 q46 => ?_)
        obtain ⟨b49, s50⟩ := q46
        refine zj_if_ne (t := 84) (zdk ttX7_readLawLine 43 rfl rfl) (by decide) (by omega) (fun c51 => ?_) (fun c51 => ?_)
        · refine zj_aload_n (zdk ttX7_readLawLine 46 rfl rfl) rfl (by omega) ?_
          refine zj_getr (r := (p1 + 4)) (zdk ttX7_readLawLine 47 rfl rfl) zf_RX7_67 rfl (k_3_0 s50 r_p1) (rf_3_0_3 s50 r_p1) ?_
          refine zj_iload_n (zdk ttX7_readLawLine 48 rfl rfl) rfl ?_
          refine zj_aload_n (zdk ttX7_readLawLine 49 rfl rfl) rfl (by omega) ?_
          have b52 : 0 ≤ (h48.2 p1 7) ∧ (h48.2 p1 7) ≤ 400 := fb_3_0_7 s50 r_p1
          refine zj_geti (v := (h48.2 p1 7)) (zdk ttX7_readLawLine 50 rfl rfl) zf_RX7_29 rfl (k_3_0 s50 r_p1) rfl ?_
          refine zj_iast (zdk ttX7_readLawLine 51 rfl rfl) (ka_3_0_3 s50 r_p1) (by decide) (by omega) (fun h53 e54 => ?_)
          refine zj_aload_n (zdk ttX7_readLawLine 52 rfl rfl) rfl (by decide) ?_
          have s55 : okC h53 := aw_3_0_3 s50 r_p1 e54 (by omega)
          refine zj_getr (r := 103) (zdk ttX7_readLawLine 53 rfl rfl) zf_RX7_9 rfl (k_L107 s55) (rf_L107_0 s55) ?_
          refine zj_bipush (zdk ttX7_readLawLine 54 rfl rfl) (by decide) ?_
          refine zj_callV (av := [.inl 59]) (st := []) (zdk ttX7_readLawLine 55 rfl rfl) mb_X6_takes mv_RX7_70 (ci := 6) rfl rfl (k_L103 s55) rfl rfl (Nat.le_of_ble_eq_true rfl) (s_X6_takes l h53 59 s55 (by omega)) (rm_ok (by decide) (by decide)) (zq_i fun v57 h58 q56 => ?_)
          obtain ⟨b59, s60⟩ := q56
          exact zj_zret rfl (zdk ttX7_readLawLine 56 rfl rfl) (Nat.le_refl _) (Nat.le_refl _) (by omega) ⟨v57, rfl, by omega, s60⟩
        · refine zj_iconst (zdk ttX7_readLawLine 44 rfl rfl) ?_
          exact zj_zret rfl (zdk ttX7_readLawLine 45 rfl rfl) (Nat.le_refl _) (Nat.le_refl _) (by omega) ⟨0, rfl, by omega, s50⟩
  · refine zj_iconst (zdk ttX7_readLawLine 22 rfl rfl) ?_
    exact zj_zret rfl (zdk ttX7_readLawLine 23 rfl rfl) (Nat.le_refl _) (Nat.le_refl _) (by omega) ⟨0, rfl, by omega, s20⟩

abbrev tX7_readLaw : List (Nat × Instr × Nat) := [(0, .aload_n 0, 1), (1, .getfield 9, 3), (4, .ldc 17, 2), (6, .invokevirtual 19, 3), (9, .aload_n 1, 1), (10, .iconst 0, 1), (11, .putfield 25, 3), (14, .aload_n 1, 1), (15, .iconst 0, 1), (16, .putfield 29, 3), (19, .iconst 0, 1), (20, .istore_n 2, 1), (21, .iload_n 2, 1), (22, .bipush 16, 2), (24, .if_icmp .gt 50, 3), (27, .aload_n 0, 1), (28, .getfield 9, 3), (31, .getfield 32, 3), (34, .ifCond .eq 40, 3), (37, .aload_n 0, 1), (38, .getfield 9, 3), (41, .iload_n 2, 1), (42, .iconst 0, 1), (43, .iconst 2, 1), (44, .invokevirtual 35, 3), (47, .ifCond .eq 12, 3), (50, .aload_n 0, 1), (51, .aload_n 1, 1), (52, .iload_n 2, 1), (53, .invokevirtual 39, 3), (56, .ifCond .ne 5, 3), (59, .iconst 0, 1), (60, .ireturn, 1), (61, .aload_n 1, 1), (62, .iload_n 2, 1), (63, .iconst 1, 1), (64, .iadd, 1), (65, .putfield 25, 3), (68, .iinc 2 1, 3), (71, .goto (-50), 3), (74, .iconst 1, 1), (75, .ireturn, 1)]
theorem ttX7_readLaw : zdt cX7_readLaw tX7_readLaw = true := by decide +kernel
abbrev q_X7_readLaw (h : zM) (p1 : Int) : Option zV → zM → Prop := zqi fun v h' => (0 ≤ v ∧ v ≤ 1) ∧ okC h'
set_option maxRecDepth 100000 in
set_option maxHeartbeats 4000000 in
theorem s_X7_readLaw (l : Launch) (h : zM) (p1 : Int) (s0 : okC h) (r_p1 : zLw p1) : zT shC l yX7_readLaw cX7_readLaw 3 (some .boolean) (rmL 32) 0 0 [.inr 107, .inr p1] h (q_X7_readLaw h p1) := by
  refine zT_of (by decide +kernel) (L0 := [some (.inr 107), some (.inr p1), none]) rfl (Nat.le_of_ble_eq_true rfl) ?_
  have b1 := zLw_b r_p1
  refine zj_aload_n (zdk ttX7_readLaw 0 rfl rfl) rfl (by decide) ?_
  refine zj_getr (r := 103) (zdk ttX7_readLaw 1 rfl rfl) zf_RX7_9 rfl (k_L107 s0) (rf_L107_0 s0) ?_
  refine zj_ldcS (i := 0) (zdk ttX7_readLaw 2 rfl rfl) (List.mem_of_getElem? (i := 0) rfl) ?_
  refine zj_callV (av := [.inr (-2 - ((0 : Nat) : Int))]) (st := []) (zdk ttX7_readLaw 3 rfl rfl) mb_X6_cut mv_RX7_19 (ci := 6) rfl rfl (k_L103 s0) rfl rfl (Nat.le_of_ble_eq_true rfl) (s_X6_cut l h 0 s0 (show 0 < 5 by decide)) (rm_ok (by decide) (by decide)) (zq_v fun h4 q2 => ?_)
  refine zj_aload_n (zdk ttX7_readLaw 4 rfl rfl) rfl (by omega) ?_
  refine zj_iconst (zdk ttX7_readLaw 5 rfl rfl) ?_
  refine zj_puti (zdk ttX7_readLaw 6 rfl rfl) zf_RX7_25 rfl (k_3_0 q2 r_p1) (Or.inl zw_RX7_25) (k2 := 6) rfl (fun h7 e8 => ?_)
  refine zj_aload_n (zdk ttX7_readLaw 7 rfl rfl) rfl (by omega) ?_
  refine zj_iconst (zdk ttX7_readLaw 8 rfl rfl) ?_
  have s9 : okC h7 := fw_3_0_6 q2 r_p1 e8 (by omega)
  refine zj_puti (zdk ttX7_readLaw 9 rfl rfl) zf_RX7_29 rfl (k_3_0 s9 r_p1) (Or.inl zw_RX7_29) (k2 := 7) rfl (fun h10 e11 => ?_)
  refine zj_iconst (zdk ttX7_readLaw 10 rfl rfl) ?_
  refine zj_istore_n (L' := [some (.inr 107), some (.inr p1), some (.inl 0)]) (zdk ttX7_readLaw 11 rfl rfl) (by decide) rfl ?_
  have lp141 : ∀ (n : Nat) (x12 : Int) (h13 : zM), (0 ≤ x12 ∧ x12 ≤ 17) → okC h13 → (18 - x12).toNat < n → zJ shC l yX7_readLaw cX7_readLaw 3 (some .boolean) (rmL 32) 0 0 (q_X7_readLaw h p1) 0 0 21 [some (.inr 107), some (.inr p1), some (.inl x12)] [] h13 := by
    intro n
    induction n with
    | zero => intro x12 h13 b142 s14 m143; exact absurd m143 (Nat.not_lt_zero _)
    | succ n ih144 =>
      intro x12 h13 b142 s14 m143
      refine zj_iload_n (zdk ttX7_readLaw 12 rfl rfl) rfl ?_
      refine zj_bipush (zdk ttX7_readLaw 13 rfl rfl) (by decide) ?_
      refine zj_icmp_gt (t := 74) (zdk ttX7_readLaw 14 rfl rfl) (by decide) (by omega) (by decide) (fun c145 => ?_) (fun c145 => ?_)
      · refine zj_iconst (zdk ttX7_readLaw 40 rfl rfl) ?_
        exact zj_zret rfl (zdk ttX7_readLaw 41 rfl rfl) (Nat.le_refl _) (Nat.le_refl _) (by omega) ⟨1, rfl, by omega, s14⟩
      · refine zj_aload_n (zdk ttX7_readLaw 15 rfl rfl) rfl (by decide) ?_
        refine zj_getr (r := 103) (zdk ttX7_readLaw 16 rfl rfl) zf_RX7_9 rfl (k_L107 s14) (rf_L107_0 s14) ?_
        have b146 : -2147483648 ≤ (h13.2 103 6) ∧ (h13.2 103 6) ≤ 2147483647 := fb_L103_6 s14
        refine zj_geti (v := (h13.2 103 6)) (zdk ttX7_readLaw 17 rfl rfl) zf_RX7_32 rfl (k_L103 s14) rfl ?_
        refine zj_if_eq (t := 74) (zdk ttX7_readLaw 18 rfl rfl) (by decide) (by omega) (fun c147 => ?_) (fun c147 => ?_)
        · refine zj_iconst (zdk ttX7_readLaw 40 rfl rfl) ?_
          exact zj_zret rfl (zdk ttX7_readLaw 41 rfl rfl) (Nat.le_refl _) (Nat.le_refl _) (by omega) ⟨1, rfl, by omega, s14⟩
        · refine zj_aload_n (zdk ttX7_readLaw 19 rfl rfl) rfl (by decide) ?_
          refine zj_getr (r := 103) (zdk ttX7_readLaw 20 rfl rfl) zf_RX7_9 rfl (k_L107 s14) (rf_L107_0 s14) ?_
          refine zj_iload_n (zdk ttX7_readLaw 21 rfl rfl) rfl ?_
          refine zj_iconst (zdk ttX7_readLaw 22 rfl rfl) ?_
          refine zj_iconst (zdk ttX7_readLaw 23 rfl rfl) ?_
          refine zj_callV (av := [.inl x12, .inl 0, .inl 2]) (st := []) (zdk ttX7_readLaw 24 rfl rfl) mb_X6_opensLine mv_RX7_35 (ci := 6) rfl rfl (k_L103 s14) rfl rfl (Nat.le_of_ble_eq_true rfl) (s_X6_opensLine l h13 x12 0 2 s14 (by omega) (by omega) (by omega)) (rm_ok (by decide) (by decide)) (zq_i fun v149 h150 q148 => ?_)
          obtain ⟨b151, s152, u153⟩ := q148
          refine zj_if_eq (t := 59) (zdk ttX7_readLaw 25 rfl rfl) (by decide) (by omega) (fun c154 => ?_) (fun c154 => ?_)
          · refine zj_iconst (zdk ttX7_readLaw 31 rfl rfl) ?_
            exact zj_zret rfl (zdk ttX7_readLaw 32 rfl rfl) (Nat.le_refl _) (Nat.le_refl _) (by omega) ⟨0, rfl, by omega, s152⟩
          · refine zj_aload_n (zdk ttX7_readLaw 26 rfl rfl) rfl (by decide) ?_
            refine zj_aload_n (zdk ttX7_readLaw 27 rfl rfl) rfl (by omega) ?_
            refine zj_iload_n (zdk ttX7_readLaw 28 rfl rfl) rfl ?_
            refine zj_callV (av := [.inr p1, .inl x12]) (st := []) (zdk ttX7_readLaw 29 rfl rfl) mb_X7_readLawLine mv_RX7_39 (ci := 7) rfl rfl (k_L107 s152) rfl rfl (Nat.le_of_ble_eq_true rfl) (s_X7_readLawLine l h150 p1 x12 s152 r_p1 (by omega)) (rm_ok (by decide) (by decide)) (zq_i fun v156 h157 q155 => ?_)
            obtain ⟨b158, s159⟩ := q155
            refine zj_if_ne (t := 61) (zdk ttX7_readLaw 30 rfl rfl) (by decide) (by omega) (fun c160 => ?_) (fun c160 => ?_)
            · refine zj_aload_n (zdk ttX7_readLaw 33 rfl rfl) rfl (by omega) ?_
              refine zj_iload_n (zdk ttX7_readLaw 34 rfl rfl) rfl ?_
              refine zj_iconst (zdk ttX7_readLaw 35 rfl rfl) ?_
              refine zj_iadd (zdk ttX7_readLaw 36 rfl rfl) ?_
              refine zj_puti (zdk ttX7_readLaw 37 rfl rfl) zf_RX7_25 rfl (k_3_0 s159 r_p1) (Or.inl zw_RX7_25) (k2 := 6) rfl (fun h161 e162 => ?_)
              refine zj_iinc (L' := [some (.inr 107), some (.inr p1), some (.inl (x12 + 1))]) (zdk ttX7_readLaw 38 rfl rfl) rfl (by decide) rfl ?_
              refine zj_goto (t := 21) (zdk ttX7_readLaw 39 rfl rfl) (by decide) ?_
              have s163 : okC h161 := fw_3_0_6 s159 r_p1 e162 (by omega)
              exact ih144  (x12 + 1) h161 (by omega) s163 (by omega)
            · refine zj_iconst (zdk ttX7_readLaw 31 rfl rfl) ?_
              exact zj_zret rfl (zdk ttX7_readLaw 32 rfl rfl) (Nat.le_refl _) (Nat.le_refl _) (by omega) ⟨0, rfl, by omega, s159⟩
  have s164 : okC h10 := fw_3_0_7 s9 r_p1 e11 (by omega)
  exact lp141 _ 0 h10 (by omega) s164 (Nat.lt_succ_self _)

abbrev tX7_readDay : List (Nat × Instr × Nat) := [(0, .aload_n 0, 1), (1, .getfield 9, 3), (4, .invokevirtual 47, 3), (7, .aload_n 0, 1), (8, .getfield 9, 3), (11, .iconst 0, 1), (12, .sipush 999, 3), (15, .invokevirtual 104, 3), (18, .ifCond .ne 5, 3), (21, .iconst 0, 1), (22, .ireturn, 1), (23, .aload_n 1, 1), (24, .getfield 116, 3), (27, .iload_n 2, 1), (28, .aload_n 0, 1), (29, .getfield 9, 3), (32, .getfield 110, 3), (35, .iastore, 1), (36, .iconst 1, 1), (37, .ireturn, 1)]
theorem ttX7_readDay : zdt cX7_readDay tX7_readDay = true := by decide +kernel
abbrev q_X7_readDay (h : zM) (p1 : Int) (p2 : Int) : Option zV → zM → Prop := zqi fun v h' => (0 ≤ v ∧ v ≤ 1) ∧ okC h'
set_option maxRecDepth 100000 in
set_option maxHeartbeats 4000000 in
theorem s_X7_readDay (l : Launch) (h : zM) (p1 : Int) (p2 : Int) (s0 : okC h) (r_p1 : zPl p1) (b_p2 : 0 ≤ p2 ∧ p2 ≤ 15) : zT shC l yX7_readDay cX7_readDay 3 (some .boolean) (rmL 5) 0 0 [.inr 107, .inr p1, .inl p2] h (q_X7_readDay h p1 p2) := by
  refine zT_of (by decide +kernel) (L0 := [some (.inr 107), some (.inr p1), some (.inl p2)]) rfl (Nat.le_of_ble_eq_true rfl) ?_
  have b1 := zPl_b r_p1
  refine zj_aload_n (zdk ttX7_readDay 0 rfl rfl) rfl (by decide) ?_
  refine zj_getr (r := 103) (zdk ttX7_readDay 1 rfl rfl) zf_RX7_9 rfl (k_L107 s0) (rf_L107_0 s0) ?_
  refine zj_callV (av := []) (st := []) (zdk ttX7_readDay 2 rfl rfl) mb_X6_pass mv_RX7_47 (ci := 6) rfl rfl (k_L103 s0) rfl rfl (Nat.le_of_ble_eq_true rfl) (s_X6_pass l h s0) (rm_ok (by decide) (by decide)) (zq_v fun h4 q2 => ?_)
  refine zj_aload_n (zdk ttX7_readDay 3 rfl rfl) rfl (by decide) ?_
  refine zj_getr (r := 103) (zdk ttX7_readDay 4 rfl rfl) zf_RX7_9 rfl (k_L107 q2) (rf_L107_0 q2) ?_
  refine zj_iconst (zdk ttX7_readDay 5 rfl rfl) ?_
  refine zj_sipush (zdk ttX7_readDay 6 rfl rfl) (by decide) ?_
  refine zj_callV (av := [.inl 0, .inl 999]) (st := []) (zdk ttX7_readDay 7 rfl rfl) mb_X6_takesNumber mv_RX7_104 (ci := 6) rfl rfl (k_L103 q2) rfl rfl (Nat.le_of_ble_eq_true rfl) (s_X6_takesNumber l h4 0 999 q2 (by omega) (by omega)) (rm_ok (by decide) (by decide)) (zq_i fun v8 h9 q7 => ?_)
  obtain ⟨b10, s11⟩ := q7
  refine zj_if_ne (t := 23) (zdk ttX7_readDay 8 rfl rfl) (by decide) (by omega) (fun c12 => ?_) (fun c12 => ?_)
  · refine zj_aload_n (zdk ttX7_readDay 11 rfl rfl) rfl (by omega) ?_
    refine zj_getr (r := (p1 + 1)) (zdk ttX7_readDay 12 rfl rfl) zf_RX7_116 rfl (k_4_0 s11 r_p1) (rf_4_0_0 s11 r_p1) ?_
    refine zj_iload_n (zdk ttX7_readDay 13 rfl rfl) rfl ?_
    refine zj_aload_n (zdk ttX7_readDay 14 rfl rfl) rfl (by decide) ?_
    refine zj_getr (r := 103) (zdk ttX7_readDay 15 rfl rfl) zf_RX7_9 rfl (k_L107 s11) (rf_L107_0 s11) ?_
    have b13 : -2147483648 ≤ (h9.2 103 9) ∧ (h9.2 103 9) ≤ 2147483647 := fb_L103_9 s11
    refine zj_geti (v := (h9.2 103 9)) (zdk ttX7_readDay 16 rfl rfl) zf_RX7_110 rfl (k_L103 s11) rfl ?_
    refine zj_iast (zdk ttX7_readDay 17 rfl rfl) (ka_4_0_0 s11 r_p1) (by decide) (by omega) (fun h14 e15 => ?_)
    refine zj_iconst (zdk ttX7_readDay 18 rfl rfl) ?_
    have s16 : okC h14 := aw_4_0_0 s11 r_p1 e15 (by omega)
    exact zj_zret rfl (zdk ttX7_readDay 19 rfl rfl) (Nat.le_refl _) (Nat.le_refl _) (by omega) ⟨1, rfl, by omega, s16⟩
  · refine zj_iconst (zdk ttX7_readDay 9 rfl rfl) ?_
    exact zj_zret rfl (zdk ttX7_readDay 10 rfl rfl) (Nat.le_refl _) (Nat.le_refl _) (by omega) ⟨0, rfl, by omega, s11⟩

abbrev tX7_readBoat : List (Nat × Instr × Nat) := [(0, .aload_n 0, 1), (1, .aload_n 1, 1), (2, .iload_n 2, 1), (3, .invokevirtual 101, 3), (6, .ifCond .eq 29, 3), (9, .aload_n 0, 1), (10, .getfield 9, 3), (13, .sipush 201, 3), (16, .invokevirtual 70, 3), (19, .ifCond .eq 16, 3), (22, .aload_n 0, 1), (23, .getfield 9, 3), (26, .iconst 1, 1), (27, .bipush 18, 2), (29, .invokevirtual 104, 3), (32, .ifCond .ne 5, 3), (35, .iconst 0, 1), (36, .ireturn, 1), (37, .aload_n 1, 1), (38, .getfield 107, 3), (41, .iload_n 2, 1), (42, .aload_n 0, 1), (43, .getfield 9, 3), (46, .getfield 110, 3), (49, .iastore, 1), (50, .aload_n 0, 1), (51, .getfield 9, 3), (54, .iconst 2, 1), (55, .iconst 3, 1), (56, .invokevirtual 60, 3), (59, .ifCond .ne 12, 3), (62, .aload_n 0, 1), (63, .getfield 9, 3), (66, .iconst 1, 1), (67, .invokevirtual 81, 3), (70, .ireturn, 1), (71, .aload_n 1, 1), (72, .getfield 113, 3), (75, .iload_n 2, 1), (76, .aload_n 0, 1), (77, .getfield 9, 3), (80, .getfield 32, 3), (83, .sipush 200, 3), (86, .isub, 1), (87, .iastore, 1), (88, .aload_n 0, 1), (89, .getfield 9, 3), (92, .invokevirtual 47, 3), (95, .aload_n 0, 1), (96, .getfield 9, 3), (99, .bipush 59, 2), (101, .invokevirtual 70, 3), (104, .ireturn, 1)]
theorem ttX7_readBoat : zdt cX7_readBoat tX7_readBoat = true := by decide +kernel
abbrev q_X7_readBoat (h : zM) (p1 : Int) (p2 : Int) : Option zV → zM → Prop := zqi fun v h' => (0 ≤ v ∧ v ≤ 1) ∧ okC h'
set_option maxRecDepth 100000 in
set_option maxHeartbeats 4000000 in
theorem s_X7_readBoat (l : Launch) (h : zM) (p1 : Int) (p2 : Int) (s0 : okC h) (r_p1 : zPl p1) (b_p2 : 0 ≤ p2 ∧ p2 ≤ 15) : zT shC l yX7_readBoat cX7_readBoat 3 (some .boolean) (rmL 6) 0 0 [.inr 107, .inr p1, .inl p2] h (q_X7_readBoat h p1 p2) := by
  refine zT_of (by decide +kernel) (L0 := [some (.inr 107), some (.inr p1), some (.inl p2)]) rfl (Nat.le_of_ble_eq_true rfl) ?_
  have b1 := zPl_b r_p1
  refine zj_aload_n (zdk ttX7_readBoat 0 rfl rfl) rfl (by decide) ?_
  refine zj_aload_n (zdk ttX7_readBoat 1 rfl rfl) rfl (by omega) ?_
  refine zj_iload_n (zdk ttX7_readBoat 2 rfl rfl) rfl ?_
  refine zj_callV (av := [.inr p1, .inl p2]) (st := []) (zdk ttX7_readBoat 3 rfl rfl) mb_X7_readDay mv_RX7_101 (ci := 7) rfl rfl (k_L107 s0) rfl rfl (Nat.le_of_ble_eq_true rfl) (s_X7_readDay l h p1 p2 s0 r_p1 (by omega)) (rm_ok (by decide) (by decide)) (zq_i fun v3 h4 q2 => ?_)
  obtain ⟨b5, s6⟩ := q2
  refine zj_if_eq (t := 35) (zdk ttX7_readBoat 4 rfl rfl) (by decide) (by omega) (fun c7 => ?_) (fun c7 => ?_)
  · refine zj_iconst (zdk ttX7_readBoat 16 rfl rfl) ?_
    exact zj_zret rfl (zdk ttX7_readBoat 17 rfl rfl) (Nat.le_refl _) (Nat.le_refl _) (by omega) ⟨0, rfl, by omega, s6⟩
  · refine zj_aload_n (zdk ttX7_readBoat 5 rfl rfl) rfl (by decide) ?_
    refine zj_getr (r := 103) (zdk ttX7_readBoat 6 rfl rfl) zf_RX7_9 rfl (k_L107 s6) (rf_L107_0 s6) ?_
    refine zj_sipush (zdk ttX7_readBoat 7 rfl rfl) (by decide) ?_
    refine zj_callV (av := [.inl 201]) (st := []) (zdk ttX7_readBoat 8 rfl rfl) mb_X6_takes mv_RX7_70 (ci := 6) rfl rfl (k_L103 s6) rfl rfl (Nat.le_of_ble_eq_true rfl) (s_X6_takes l h4 201 s6 (by omega)) (rm_ok (by decide) (by decide)) (zq_i fun v9 h10 q8 => ?_)
    obtain ⟨b11, s12⟩ := q8
    refine zj_if_eq (t := 35) (zdk ttX7_readBoat 9 rfl rfl) (by decide) (by omega) (fun c13 => ?_) (fun c13 => ?_)
    · refine zj_iconst (zdk ttX7_readBoat 16 rfl rfl) ?_
      exact zj_zret rfl (zdk ttX7_readBoat 17 rfl rfl) (Nat.le_refl _) (Nat.le_refl _) (by omega) ⟨0, rfl, by omega, s12⟩
    · refine zj_aload_n (zdk ttX7_readBoat 10 rfl rfl) rfl (by decide) ?_
      refine zj_getr (r := 103) (zdk ttX7_readBoat 11 rfl rfl) zf_RX7_9 rfl (k_L107 s12) (rf_L107_0 s12) ?_
      refine zj_iconst (zdk ttX7_readBoat 12 rfl rfl) ?_
      refine zj_bipush (zdk ttX7_readBoat 13 rfl rfl) (by decide) ?_
      refine zj_callV (av := [.inl 1, .inl 18]) (st := []) (zdk ttX7_readBoat 14 rfl rfl) mb_X6_takesNumber mv_RX7_104 (ci := 6) rfl rfl (k_L103 s12) rfl rfl (Nat.le_of_ble_eq_true rfl) (s_X6_takesNumber l h10 1 18 s12 (by omega) (by omega)) (rm_ok (by decide) (by decide)) (zq_i fun v15 h16 q14 => ?_)
      obtain ⟨b17, s18⟩ := q14
      refine zj_if_ne (t := 37) (zdk ttX7_readBoat 15 rfl rfl) (by decide) (by omega) (fun c19 => ?_) (fun c19 => ?_)
      · refine zj_aload_n (zdk ttX7_readBoat 18 rfl rfl) rfl (by omega) ?_
        refine zj_getr (r := (p1 + 3)) (zdk ttX7_readBoat 19 rfl rfl) zf_RX7_107 rfl (k_4_0 s18 r_p1) (rf_4_0_2 s18 r_p1) ?_
        refine zj_iload_n (zdk ttX7_readBoat 20 rfl rfl) rfl ?_
        refine zj_aload_n (zdk ttX7_readBoat 21 rfl rfl) rfl (by decide) ?_
        refine zj_getr (r := 103) (zdk ttX7_readBoat 22 rfl rfl) zf_RX7_9 rfl (k_L107 s18) (rf_L107_0 s18) ?_
        have b20 : -2147483648 ≤ (h16.2 103 9) ∧ (h16.2 103 9) ≤ 2147483647 := fb_L103_9 s18
        refine zj_geti (v := (h16.2 103 9)) (zdk ttX7_readBoat 23 rfl rfl) zf_RX7_110 rfl (k_L103 s18) rfl ?_
        refine zj_iast (zdk ttX7_readBoat 24 rfl rfl) (ka_4_0_2 s18 r_p1) (by decide) (by omega) (fun h21 e22 => ?_)
        refine zj_aload_n (zdk ttX7_readBoat 25 rfl rfl) rfl (by decide) ?_
        have s23 : okC h21 := aw_4_0_2 s18 r_p1 e22 (by omega)
        refine zj_getr (r := 103) (zdk ttX7_readBoat 26 rfl rfl) zf_RX7_9 rfl (k_L107 s23) (rf_L107_0 s23) ?_
        refine zj_iconst (zdk ttX7_readBoat 27 rfl rfl) ?_
        refine zj_iconst (zdk ttX7_readBoat 28 rfl rfl) ?_
        refine zj_callV (av := [.inl 2, .inl 3]) (st := []) (zdk ttX7_readBoat 29 rfl rfl) mb_X6_isWord mv_RX7_60 (ci := 6) rfl rfl (k_L103 s23) rfl rfl (Nat.le_of_ble_eq_true rfl) (s_X6_isWord l h21 2 3 s23 (by omega) (by omega)) (rm_ok (by decide) (by decide)) (zq_i fun v25 h26 q24 => ?_)
        obtain ⟨rfl, b28, ⟨rfl, b27⟩ | ⟨rfl, b27⟩⟩ := q24
        · refine zj_if_ne (t := 71) (zdk ttX7_readBoat 30 rfl rfl) (by decide) (by decide) (fun c29 => ?_) (fun c29 => ?_)
          · exact absurd c29 (by omega)
          · refine zj_aload_n (zdk ttX7_readBoat 31 rfl rfl) rfl (by decide) ?_
            refine zj_getr (r := 103) (zdk ttX7_readBoat 32 rfl rfl) zf_RX7_9 rfl (k_L107 s23) (rf_L107_0 s23) ?_
            refine zj_iconst (zdk ttX7_readBoat 33 rfl rfl) ?_
            refine zj_callV (av := [.inl 1]) (st := []) (zdk ttX7_readBoat 34 rfl rfl) mb_X6_refuse mv_RX7_81 (ci := 6) rfl rfl (k_L103 s23) rfl rfl (Nat.le_of_ble_eq_true rfl) (s2_X6_refuse l h21 1 s23 (by omega)) (rm_ok (by decide) (by decide)) (zq_i fun v31 h32 q30 => ?_)
            obtain ⟨b33, s34⟩ := q30
            exact zj_zret rfl (zdk ttX7_readBoat 35 rfl rfl) (Nat.le_refl _) (Nat.le_refl _) (by omega) ⟨v31, rfl, by omega, s34⟩
        · refine zj_if_ne (t := 71) (zdk ttX7_readBoat 30 rfl rfl) (by decide) (by decide) (fun c35 => ?_) (fun c35 => ?_)
          · refine zj_aload_n (zdk ttX7_readBoat 36 rfl rfl) rfl (by omega) ?_
            refine zj_getr (r := (p1 + 2)) (zdk ttX7_readBoat 37 rfl rfl) zf_RX7_113 rfl (k_4_0 s23 r_p1) (rf_4_0_1 s23 r_p1) ?_
            refine zj_iload_n (zdk ttX7_readBoat 38 rfl rfl) rfl ?_
            refine zj_aload_n (zdk ttX7_readBoat 39 rfl rfl) rfl (by decide) ?_
            refine zj_getr (r := 103) (zdk ttX7_readBoat 40 rfl rfl) zf_RX7_9 rfl (k_L107 s23) (rf_L107_0 s23) ?_
            have b36 : -2147483648 ≤ (h21.2 103 6) ∧ (h21.2 103 6) ≤ 2147483647 := fb_L103_6 s23
            refine zj_geti (v := (h21.2 103 6)) (zdk ttX7_readBoat 41 rfl rfl) zf_RX7_32 rfl (k_L103 s23) rfl ?_
            refine zj_sipush (zdk ttX7_readBoat 42 rfl rfl) (by decide) ?_
            refine zj_isub (zdk ttX7_readBoat 43 rfl rfl) ?_
            refine zj_iast (zdk ttX7_readBoat 44 rfl rfl) (ka_4_0_1 s23 r_p1) (by decide) (by omega) (fun h37 e38 => ?_)
            refine zj_aload_n (zdk ttX7_readBoat 45 rfl rfl) rfl (by decide) ?_
            have s39 : okC h37 := aw_4_0_1 s23 r_p1 e38 (by omega)
            refine zj_getr (r := 103) (zdk ttX7_readBoat 46 rfl rfl) zf_RX7_9 rfl (k_L107 s39) (rf_L107_0 s39) ?_
            refine zj_callV (av := []) (st := []) (zdk ttX7_readBoat 47 rfl rfl) mb_X6_pass mv_RX7_47 (ci := 6) rfl rfl (k_L103 s39) rfl rfl (Nat.le_of_ble_eq_true rfl) (s_X6_pass l h37 s39) (rm_ok (by decide) (by decide)) (zq_v fun h42 q40 => ?_)
            refine zj_aload_n (zdk ttX7_readBoat 48 rfl rfl) rfl (by decide) ?_
            refine zj_getr (r := 103) (zdk ttX7_readBoat 49 rfl rfl) zf_RX7_9 rfl (k_L107 q40) (rf_L107_0 q40) ?_
            refine zj_bipush (zdk ttX7_readBoat 50 rfl rfl) (by decide) ?_
            refine zj_callV (av := [.inl 59]) (st := []) (zdk ttX7_readBoat 51 rfl rfl) mb_X6_takes mv_RX7_70 (ci := 6) rfl rfl (k_L103 q40) rfl rfl (Nat.le_of_ble_eq_true rfl) (s_X6_takes l h42 59 q40 (by omega)) (rm_ok (by decide) (by decide)) (zq_i fun v46 h47 q45 => ?_)
            obtain ⟨b48, s49⟩ := q45
            exact zj_zret rfl (zdk ttX7_readBoat 52 rfl rfl) (Nat.le_refl _) (Nat.le_refl _) (by omega) ⟨v46, rfl, by omega, s49⟩
          · exact absurd c35 (by omega)
      · refine zj_iconst (zdk ttX7_readBoat 16 rfl rfl) ?_
        exact zj_zret rfl (zdk ttX7_readBoat 17 rfl rfl) (Nat.le_refl _) (Nat.le_refl _) (by omega) ⟨0, rfl, by omega, s18⟩

abbrev tX7_readBoats : List (Nat × Instr × Nat) := [(0, .aload_n 0, 1), (1, .getfield 9, 3), (4, .ldc 94, 2), (6, .invokevirtual 19, 3), (9, .aload_n 1, 1), (10, .iconst 0, 1), (11, .putfield 96, 3), (14, .iconst 0, 1), (15, .istore_n 2, 1), (16, .iload_n 2, 1), (17, .bipush 16, 2), (19, .if_icmp .gt 50, 3), (22, .aload_n 0, 1), (23, .getfield 9, 3), (26, .getfield 32, 3), (29, .ifCond .eq 40, 3), (32, .aload_n 0, 1), (33, .getfield 9, 3), (36, .iload_n 2, 1), (37, .iconst 0, 1), (38, .iconst 0, 1), (39, .invokevirtual 35, 3), (42, .ifCond .eq 12, 3), (45, .aload_n 0, 1), (46, .aload_n 1, 1), (47, .iload_n 2, 1), (48, .invokevirtual 97, 3), (51, .ifCond .ne 5, 3), (54, .iconst 0, 1), (55, .ireturn, 1), (56, .aload_n 1, 1), (57, .iload_n 2, 1), (58, .iconst 1, 1), (59, .iadd, 1), (60, .putfield 96, 3), (63, .iinc 2 1, 3), (66, .goto (-50), 3), (69, .iconst 1, 1), (70, .ireturn, 1)]
theorem ttX7_readBoats : zdt cX7_readBoats tX7_readBoats = true := by decide +kernel
abbrev q_X7_readBoats (h : zM) (p1 : Int) : Option zV → zM → Prop := zqi fun v h' => (0 ≤ v ∧ v ≤ 1) ∧ okC h'
set_option maxRecDepth 100000 in
set_option maxHeartbeats 4000000 in
theorem s_X7_readBoats (l : Launch) (h : zM) (p1 : Int) (s0 : okC h) (r_p1 : zPl p1) : zT shC l yX7_readBoats cX7_readBoats 3 (some .boolean) (rmL 9) 0 0 [.inr 107, .inr p1] h (q_X7_readBoats h p1) := by
  refine zT_of (by decide +kernel) (L0 := [some (.inr 107), some (.inr p1), none]) rfl (Nat.le_of_ble_eq_true rfl) ?_
  have b1 := zPl_b r_p1
  refine zj_aload_n (zdk ttX7_readBoats 0 rfl rfl) rfl (by decide) ?_
  refine zj_getr (r := 103) (zdk ttX7_readBoats 1 rfl rfl) zf_RX7_9 rfl (k_L107 s0) (rf_L107_0 s0) ?_
  refine zj_ldcS (i := 2) (zdk ttX7_readBoats 2 rfl rfl) (List.mem_of_getElem? (i := 2) rfl) ?_
  refine zj_callV (av := [.inr (-2 - ((2 : Nat) : Int))]) (st := []) (zdk ttX7_readBoats 3 rfl rfl) mb_X6_cut mv_RX7_19 (ci := 6) rfl rfl (k_L103 s0) rfl rfl (Nat.le_of_ble_eq_true rfl) (s_X6_cut l h 2 s0 (show 2 < 5 by decide)) (rm_ok (by decide) (by decide)) (zq_v fun h4 q2 => ?_)
  refine zj_aload_n (zdk ttX7_readBoats 4 rfl rfl) rfl (by omega) ?_
  refine zj_iconst (zdk ttX7_readBoats 5 rfl rfl) ?_
  refine zj_puti (zdk ttX7_readBoats 6 rfl rfl) zf_RX7_96 rfl (k_4_0 q2 r_p1) (Or.inl zw_RX7_96) (k2 := 3) rfl (fun h7 e8 => ?_)
  refine zj_iconst (zdk ttX7_readBoats 7 rfl rfl) ?_
  refine zj_istore_n (L' := [some (.inr 107), some (.inr p1), some (.inl 0)]) (zdk ttX7_readBoats 8 rfl rfl) (by decide) rfl ?_
  have lp120 : ∀ (n : Nat) (x9 : Int) (h10 : zM), (0 ≤ x9 ∧ x9 ≤ 17) → okC h10 → (18 - x9).toNat < n → zJ shC l yX7_readBoats cX7_readBoats 3 (some .boolean) (rmL 9) 0 0 (q_X7_readBoats h p1) 0 0 16 [some (.inr 107), some (.inr p1), some (.inl x9)] [] h10 := by
    intro n
    induction n with
    | zero => intro x9 h10 b121 s11 m122; exact absurd m122 (Nat.not_lt_zero _)
    | succ n ih123 =>
      intro x9 h10 b121 s11 m122
      refine zj_iload_n (zdk ttX7_readBoats 9 rfl rfl) rfl ?_
      refine zj_bipush (zdk ttX7_readBoats 10 rfl rfl) (by decide) ?_
      refine zj_icmp_gt (t := 69) (zdk ttX7_readBoats 11 rfl rfl) (by decide) (by omega) (by decide) (fun c124 => ?_) (fun c124 => ?_)
      · refine zj_iconst (zdk ttX7_readBoats 37 rfl rfl) ?_
        exact zj_zret rfl (zdk ttX7_readBoats 38 rfl rfl) (Nat.le_refl _) (Nat.le_refl _) (by omega) ⟨1, rfl, by omega, s11⟩
      · refine zj_aload_n (zdk ttX7_readBoats 12 rfl rfl) rfl (by decide) ?_
        refine zj_getr (r := 103) (zdk ttX7_readBoats 13 rfl rfl) zf_RX7_9 rfl (k_L107 s11) (rf_L107_0 s11) ?_
        have b125 : -2147483648 ≤ (h10.2 103 6) ∧ (h10.2 103 6) ≤ 2147483647 := fb_L103_6 s11
        refine zj_geti (v := (h10.2 103 6)) (zdk ttX7_readBoats 14 rfl rfl) zf_RX7_32 rfl (k_L103 s11) rfl ?_
        refine zj_if_eq (t := 69) (zdk ttX7_readBoats 15 rfl rfl) (by decide) (by omega) (fun c126 => ?_) (fun c126 => ?_)
        · refine zj_iconst (zdk ttX7_readBoats 37 rfl rfl) ?_
          exact zj_zret rfl (zdk ttX7_readBoats 38 rfl rfl) (Nat.le_refl _) (Nat.le_refl _) (by omega) ⟨1, rfl, by omega, s11⟩
        · refine zj_aload_n (zdk ttX7_readBoats 16 rfl rfl) rfl (by decide) ?_
          refine zj_getr (r := 103) (zdk ttX7_readBoats 17 rfl rfl) zf_RX7_9 rfl (k_L107 s11) (rf_L107_0 s11) ?_
          refine zj_iload_n (zdk ttX7_readBoats 18 rfl rfl) rfl ?_
          refine zj_iconst (zdk ttX7_readBoats 19 rfl rfl) ?_
          refine zj_iconst (zdk ttX7_readBoats 20 rfl rfl) ?_
          refine zj_callV (av := [.inl x9, .inl 0, .inl 0]) (st := []) (zdk ttX7_readBoats 21 rfl rfl) mb_X6_opensLine mv_RX7_35 (ci := 6) rfl rfl (k_L103 s11) rfl rfl (Nat.le_of_ble_eq_true rfl) (s_X6_opensLine l h10 x9 0 0 s11 (by omega) (by omega) (by omega)) (rm_ok (by decide) (by decide)) (zq_i fun v128 h129 q127 => ?_)
          obtain ⟨b130, s131, u132⟩ := q127
          refine zj_if_eq (t := 54) (zdk ttX7_readBoats 22 rfl rfl) (by decide) (by omega) (fun c133 => ?_) (fun c133 => ?_)
          · refine zj_iconst (zdk ttX7_readBoats 28 rfl rfl) ?_
            exact zj_zret rfl (zdk ttX7_readBoats 29 rfl rfl) (Nat.le_refl _) (Nat.le_refl _) (by omega) ⟨0, rfl, by omega, s131⟩
          · refine zj_aload_n (zdk ttX7_readBoats 23 rfl rfl) rfl (by decide) ?_
            refine zj_aload_n (zdk ttX7_readBoats 24 rfl rfl) rfl (by omega) ?_
            refine zj_iload_n (zdk ttX7_readBoats 25 rfl rfl) rfl ?_
            refine zj_callV (av := [.inr p1, .inl x9]) (st := []) (zdk ttX7_readBoats 26 rfl rfl) mb_X7_readBoat mv_RX7_97 (ci := 7) rfl rfl (k_L107 s131) rfl rfl (Nat.le_of_ble_eq_true rfl) (s_X7_readBoat l h129 p1 x9 s131 r_p1 (by omega)) (rm_ok (by decide) (by decide)) (zq_i fun v135 h136 q134 => ?_)
            obtain ⟨b137, s138⟩ := q134
            refine zj_if_ne (t := 56) (zdk ttX7_readBoats 27 rfl rfl) (by decide) (by omega) (fun c139 => ?_) (fun c139 => ?_)
            · refine zj_aload_n (zdk ttX7_readBoats 30 rfl rfl) rfl (by omega) ?_
              refine zj_iload_n (zdk ttX7_readBoats 31 rfl rfl) rfl ?_
              refine zj_iconst (zdk ttX7_readBoats 32 rfl rfl) ?_
              refine zj_iadd (zdk ttX7_readBoats 33 rfl rfl) ?_
              refine zj_puti (zdk ttX7_readBoats 34 rfl rfl) zf_RX7_96 rfl (k_4_0 s138 r_p1) (Or.inl zw_RX7_96) (k2 := 3) rfl (fun h140 e141 => ?_)
              refine zj_iinc (L' := [some (.inr 107), some (.inr p1), some (.inl (x9 + 1))]) (zdk ttX7_readBoats 35 rfl rfl) rfl (by decide) rfl ?_
              refine zj_goto (t := 16) (zdk ttX7_readBoats 36 rfl rfl) (by decide) ?_
              have s142 : okC h140 := fw_4_0_3 s138 r_p1 e141 (by omega)
              exact ih123  (x9 + 1) h140 (by omega) s142 (by omega)
            · refine zj_iconst (zdk ttX7_readBoats 28 rfl rfl) ?_
              exact zj_zret rfl (zdk ttX7_readBoats 29 rfl rfl) (Nat.le_refl _) (Nat.le_refl _) (by omega) ⟨0, rfl, by omega, s138⟩
  have s143 : okC h7 := fw_4_0_3 q2 r_p1 e8 (by omega)
  exact lp120 _ 0 h7 (by omega) s143 (Nat.lt_succ_self _)

abbrev tX7_readAmount : List (Nat × Instr × Nat) := [(0, .iload_n 1, 1), (1, .lookupswitch 50 #[(5, 27), (6, 38)], 27), (28, .aload_n 0, 1), (29, .getfield 9, 3), (32, .iconst 1, 1), (33, .bipush 99, 2), (35, .invokevirtual 104, 3), (38, .ireturn, 1), (39, .aload_n 0, 1), (40, .getfield 9, 3), (43, .iconst 1, 1), (44, .sipush 719, 3), (47, .invokevirtual 104, 3), (50, .ireturn, 1), (51, .aload_n 0, 1), (52, .getfield 9, 3), (55, .iconst 0, 1), (56, .iload_n 2, 1), (57, .iconst 1, 1), (58, .isub, 1), (59, .invokevirtual 104, 3), (62, .ireturn, 1)]
theorem ttX7_readAmount : zdt cX7_readAmount tX7_readAmount = true := by decide +kernel
abbrev q_X7_readAmount (h : zM) (p1 : Int) (p2 : Int) : Option zV → zM → Prop := zqi fun v h' => (0 ≤ v ∧ v ≤ 1) ∧ okC h'
set_option maxRecDepth 100000 in
set_option maxHeartbeats 4000000 in
theorem s_X7_readAmount (l : Launch) (h : zM) (p1 : Int) (p2 : Int) (s0 : okC h) (b_p1 : (-2147483648) ≤ p1 ∧ p1 ≤ 2147483647) (b_p2 : (-2147483648) ≤ p2 ∧ p2 ≤ 2147483647) : zT shC l yX7_readAmount cX7_readAmount 3 (some .boolean) (rmL 5) 0 0 [.inr 107, .inl p1, .inl p2] h (q_X7_readAmount h p1 p2) := by
  refine zT_of (by decide +kernel) (L0 := [some (.inr 107), some (.inl p1), some (.inl p2)]) rfl (Nat.le_of_ble_eq_true rfl) ?_
  refine zj_iload_n (zdk ttX7_readAmount 0 rfl rfl) rfl ?_
  have k2 : (¬ p1 = 5 ∧ ¬ p1 = 6) → zJ shC l yX7_readAmount cX7_readAmount 3 (some .boolean) (rmL 5) 0 0 (q_X7_readAmount h p1 p2) 0 0 51 [some (.inr 107), some (.inl p1), some (.inl p2)] [] h := by
    intro c1
    refine zj_aload_n (zdk ttX7_readAmount 14 rfl rfl) rfl (by decide) ?_
    refine zj_getr (r := 103) (zdk ttX7_readAmount 15 rfl rfl) zf_RX7_9 rfl (k_L107 s0) (rf_L107_0 s0) ?_
    refine zj_iconst (zdk ttX7_readAmount 16 rfl rfl) ?_
    refine zj_iload_n (zdk ttX7_readAmount 17 rfl rfl) rfl ?_
    refine zj_iconst (zdk ttX7_readAmount 18 rfl rfl) ?_
    refine zj_isub (zdk ttX7_readAmount 19 rfl rfl) ?_
    refine zj_wrap ?_
    have b3 := zwp_in (p2 - 1)
    refine zj_callV (av := [.inl 0, .inl (zwp (p2 - 1))]) (st := []) (zdk ttX7_readAmount 20 rfl rfl) mb_X6_takesNumber mv_RX7_104 (ci := 6) rfl rfl (k_L103 s0) rfl rfl (Nat.le_of_ble_eq_true rfl) (s_X6_takesNumber l h 0 (zwp (p2 - 1)) s0 (by omega) (by omega)) (rm_ok (by decide) (by decide)) (zq_i fun v5 h6 q4 => ?_)
    obtain ⟨b7, s8⟩ := q4
    exact zj_zret rfl (zdk ttX7_readAmount 21 rfl rfl) (Nat.le_refl _) (Nat.le_refl _) (by omega) ⟨v5, rfl, by omega, s8⟩
  have k9 : p1 = 5 → zJ shC l yX7_readAmount cX7_readAmount 3 (some .boolean) (rmL 5) 0 0 (q_X7_readAmount h p1 p2) 0 0 28 [some (.inr 107), some (.inl p1), some (.inl p2)] [] h := by
    intro c1
    refine zj_aload_n (zdk ttX7_readAmount 2 rfl rfl) rfl (by decide) ?_
    refine zj_getr (r := 103) (zdk ttX7_readAmount 3 rfl rfl) zf_RX7_9 rfl (k_L107 s0) (rf_L107_0 s0) ?_
    refine zj_iconst (zdk ttX7_readAmount 4 rfl rfl) ?_
    refine zj_bipush (zdk ttX7_readAmount 5 rfl rfl) (by decide) ?_
    refine zj_callV (av := [.inl 1, .inl 99]) (st := []) (zdk ttX7_readAmount 6 rfl rfl) mb_X6_takesNumber mv_RX7_104 (ci := 6) rfl rfl (k_L103 s0) rfl rfl (Nat.le_of_ble_eq_true rfl) (s_X6_takesNumber l h 1 99 s0 (by omega) (by omega)) (rm_ok (by decide) (by decide)) (zq_i fun v11 h12 q10 => ?_)
    obtain ⟨b13, s14⟩ := q10
    exact zj_zret rfl (zdk ttX7_readAmount 7 rfl rfl) (Nat.le_refl _) (Nat.le_refl _) (by omega) ⟨v11, rfl, by omega, s14⟩
  have k15 : p1 = 6 → zJ shC l yX7_readAmount cX7_readAmount 3 (some .boolean) (rmL 5) 0 0 (q_X7_readAmount h p1 p2) 0 0 39 [some (.inr 107), some (.inl p1), some (.inl p2)] [] h := by
    intro c1
    refine zj_aload_n (zdk ttX7_readAmount 8 rfl rfl) rfl (by decide) ?_
    refine zj_getr (r := 103) (zdk ttX7_readAmount 9 rfl rfl) zf_RX7_9 rfl (k_L107 s0) (rf_L107_0 s0) ?_
    refine zj_iconst (zdk ttX7_readAmount 10 rfl rfl) ?_
    refine zj_sipush (zdk ttX7_readAmount 11 rfl rfl) (by decide) ?_
    refine zj_callV (av := [.inl 1, .inl 719]) (st := []) (zdk ttX7_readAmount 12 rfl rfl) mb_X6_takesNumber mv_RX7_104 (ci := 6) rfl rfl (k_L103 s0) rfl rfl (Nat.le_of_ble_eq_true rfl) (s_X6_takesNumber l h 1 719 s0 (by omega) (by omega)) (rm_ok (by decide) (by decide)) (zq_i fun v17 h18 q16 => ?_)
    obtain ⟨b19, s20⟩ := q16
    exact zj_zret rfl (zdk ttX7_readAmount 13 rfl rfl) (Nat.le_refl _) (Nat.le_refl _) (by omega) ⟨v17, rfl, by omega, s20⟩
  by_cases z21 : p1 = 5
  · exact zj_lookup (t := 28) (zdk ttX7_readAmount 1 rfl rfl) (by omega) rfl (by rw [z21] <;> rfl) (by decide) (k9 z21)
  by_cases z22 : p1 = 6
  · exact zj_lookup (t := 39) (zdk ttX7_readAmount 1 rfl rfl) (by omega) rfl (by rw [z22] <;> rfl) (by decide) (k15 z22)
  exact zj_lookup (t := 51) (zdk ttX7_readAmount 1 rfl rfl) (by omega) rfl (by show Op.lookupswitch.offset [(5, 27), (6, 38)] 50 p1 = _; rw [Op.lookupswitch.offset_cons, if_neg (by omega), Op.lookupswitch.offset_cons, if_neg (by omega), Op.lookupswitch.offset_nil]) (by decide) (k2 (by omega))

abbrev tX7_readDoing : List (Nat × Instr × Nat) := [(0, .aload_n 0, 1), (1, .aload_n 1, 1), (2, .iload_n 2, 1), (3, .invokevirtual 101, 3), (6, .ifCond .ne 5, 3), (9, .iconst 0, 1), (10, .ireturn, 1), (11, .aload_n 0, 1), (12, .getfield 9, 3), (15, .iconst 1, 1), (16, .bipush 6, 2), (18, .invokevirtual 60, 3), (21, .ifCond .ne 12, 3), (24, .aload_n 0, 1), (25, .getfield 9, 3), (28, .iconst 1, 1), (29, .invokevirtual 81, 3), (32, .ireturn, 1), (33, .aload_n 0, 1), (34, .getfield 9, 3), (37, .getfield 32, 3), (40, .sipush 200, 3), (43, .isub, 1), (44, .istore 4, 2), (46, .aload_n 0, 1), (47, .getfield 9, 3), (50, .invokevirtual 47, 3), (53, .aload_n 1, 1), (54, .getfield 113, 3), (57, .iload_n 2, 1), (58, .iload 4, 2), (60, .iastore, 1), (61, .aload_n 1, 1), (62, .getfield 107, 3), (65, .iload_n 2, 1), (66, .iconst 0, 1), (67, .iastore, 1), (68, .iload 4, 2), (70, .iconst 3, 1), (71, .if_icmp .eq 34, 3), (74, .iload 4, 2), (76, .iconst 4, 1), (77, .if_icmp .eq 28, 3), (80, .aload_n 0, 1), (81, .iload 4, 2), (83, .iload_n 3, 1), (84, .invokevirtual 125, 3), (87, .ifCond .ne 5, 3), (90, .iconst 0, 1), (91, .ireturn, 1), (92, .aload_n 1, 1), (93, .getfield 107, 3), (96, .iload_n 2, 1), (97, .aload_n 0, 1), (98, .getfield 9, 3), (101, .getfield 110, 3), (104, .iastore, 1), (105, .aload_n 0, 1), (106, .getfield 9, 3), (109, .bipush 59, 2), (111, .invokevirtual 70, 3), (114, .ireturn, 1)]
theorem ttX7_readDoing : zdt cX7_readDoing tX7_readDoing = true := by decide +kernel
abbrev q_X7_readDoing (h : zM) (p1 : Int) (p2 : Int) (p3 : Int) : Option zV → zM → Prop := zqi fun v h' => (0 ≤ v ∧ v ≤ 1) ∧ okC h'
set_option maxRecDepth 100000 in
set_option maxHeartbeats 4000000 in
theorem s_X7_readDoing (l : Launch) (h : zM) (p1 : Int) (p2 : Int) (p3 : Int) (s0 : okC h) (r_p1 : zPl p1) (b_p2 : 0 ≤ p2 ∧ p2 ≤ 15) (b_p3 : (-2147483648) ≤ p3 ∧ p3 ≤ 2147483647) : zT shC l yX7_readDoing cX7_readDoing 5 (some .boolean) (rmL 6) 0 0 [.inr 107, .inr p1, .inl p2, .inl p3] h (q_X7_readDoing h p1 p2 p3) := by
  refine zT_of (by decide +kernel) (L0 := [some (.inr 107), some (.inr p1), some (.inl p2), some (.inl p3), none]) rfl (Nat.le_of_ble_eq_true rfl) ?_
  have b1 := zPl_b r_p1
  refine zj_aload_n (zdk ttX7_readDoing 0 rfl rfl) rfl (by decide) ?_
  refine zj_aload_n (zdk ttX7_readDoing 1 rfl rfl) rfl (by omega) ?_
  refine zj_iload_n (zdk ttX7_readDoing 2 rfl rfl) rfl ?_
  refine zj_callV (av := [.inr p1, .inl p2]) (st := []) (zdk ttX7_readDoing 3 rfl rfl) mb_X7_readDay mv_RX7_101 (ci := 7) rfl rfl (k_L107 s0) rfl rfl (Nat.le_of_ble_eq_true rfl) (s_X7_readDay l h p1 p2 s0 r_p1 (by omega)) (rm_ok (by decide) (by decide)) (zq_i fun v3 h4 q2 => ?_)
  obtain ⟨b5, s6⟩ := q2
  refine zj_if_ne (t := 11) (zdk ttX7_readDoing 4 rfl rfl) (by decide) (by omega) (fun c7 => ?_) (fun c7 => ?_)
  · refine zj_aload_n (zdk ttX7_readDoing 7 rfl rfl) rfl (by decide) ?_
    refine zj_getr (r := 103) (zdk ttX7_readDoing 8 rfl rfl) zf_RX7_9 rfl (k_L107 s6) (rf_L107_0 s6) ?_
    refine zj_iconst (zdk ttX7_readDoing 9 rfl rfl) ?_
    refine zj_bipush (zdk ttX7_readDoing 10 rfl rfl) (by decide) ?_
    refine zj_callV (av := [.inl 1, .inl 6]) (st := []) (zdk ttX7_readDoing 11 rfl rfl) mb_X6_isWord mv_RX7_60 (ci := 6) rfl rfl (k_L103 s6) rfl rfl (Nat.le_of_ble_eq_true rfl) (s_X6_isWord l h4 1 6 s6 (by omega) (by omega)) (rm_ok (by decide) (by decide)) (zq_i fun v9 h10 q8 => ?_)
    obtain ⟨rfl, b12, ⟨rfl, b11⟩ | ⟨rfl, b11⟩⟩ := q8
    · refine zj_if_ne (t := 33) (zdk ttX7_readDoing 12 rfl rfl) (by decide) (by decide) (fun c13 => ?_) (fun c13 => ?_)
      · exact absurd c13 (by omega)
      · refine zj_aload_n (zdk ttX7_readDoing 13 rfl rfl) rfl (by decide) ?_
        refine zj_getr (r := 103) (zdk ttX7_readDoing 14 rfl rfl) zf_RX7_9 rfl (k_L107 s6) (rf_L107_0 s6) ?_
        refine zj_iconst (zdk ttX7_readDoing 15 rfl rfl) ?_
        refine zj_callV (av := [.inl 1]) (st := []) (zdk ttX7_readDoing 16 rfl rfl) mb_X6_refuse mv_RX7_81 (ci := 6) rfl rfl (k_L103 s6) rfl rfl (Nat.le_of_ble_eq_true rfl) (s2_X6_refuse l h4 1 s6 (by omega)) (rm_ok (by decide) (by decide)) (zq_i fun v15 h16 q14 => ?_)
        obtain ⟨b17, s18⟩ := q14
        exact zj_zret rfl (zdk ttX7_readDoing 17 rfl rfl) (Nat.le_refl _) (Nat.le_refl _) (by omega) ⟨v15, rfl, by omega, s18⟩
    · refine zj_if_ne (t := 33) (zdk ttX7_readDoing 12 rfl rfl) (by decide) (by decide) (fun c19 => ?_) (fun c19 => ?_)
      · refine zj_aload_n (zdk ttX7_readDoing 18 rfl rfl) rfl (by decide) ?_
        refine zj_getr (r := 103) (zdk ttX7_readDoing 19 rfl rfl) zf_RX7_9 rfl (k_L107 s6) (rf_L107_0 s6) ?_
        refine zj_geti (v := (h4.2 103 6)) (zdk ttX7_readDoing 20 rfl rfl) zf_RX7_32 rfl (k_L103 s6) rfl ?_
        refine zj_sipush (zdk ttX7_readDoing 21 rfl rfl) (by decide) ?_
        refine zj_isub (zdk ttX7_readDoing 22 rfl rfl) ?_
        refine zj_istore (L' := [some (.inr 107), some (.inr p1), some (.inl p2), some (.inl p3), some (.inl ((h4.2 103 6) - 200))]) (zdk ttX7_readDoing 23 rfl rfl) (by decide) rfl ?_
        refine zj_aload_n (zdk ttX7_readDoing 24 rfl rfl) rfl (by decide) ?_
        refine zj_getr (r := 103) (zdk ttX7_readDoing 25 rfl rfl) zf_RX7_9 rfl (k_L107 s6) (rf_L107_0 s6) ?_
        refine zj_callV (av := []) (st := []) (zdk ttX7_readDoing 26 rfl rfl) mb_X6_pass mv_RX7_47 (ci := 6) rfl rfl (k_L103 s6) rfl rfl (Nat.le_of_ble_eq_true rfl) (s_X6_pass l h4 s6) (rm_ok (by decide) (by decide)) (zq_v fun h22 q20 => ?_)
        refine zj_aload_n (zdk ttX7_readDoing 27 rfl rfl) rfl (by omega) ?_
        refine zj_getr (r := (p1 + 2)) (zdk ttX7_readDoing 28 rfl rfl) zf_RX7_113 rfl (k_4_0 q20 r_p1) (rf_4_0_1 q20 r_p1) ?_
        refine zj_iload_n (zdk ttX7_readDoing 29 rfl rfl) rfl ?_
        refine zj_iload (zdk ttX7_readDoing 30 rfl rfl) rfl ?_
        refine zj_iast (zdk ttX7_readDoing 31 rfl rfl) (ka_4_0_1 q20 r_p1) (by decide) (by omega) (fun h25 e26 => ?_)
        refine zj_aload_n (zdk ttX7_readDoing 32 rfl rfl) rfl (by omega) ?_
        have s27 : okC h25 := aw_4_0_1 q20 r_p1 e26 (by omega)
        refine zj_getr (r := (p1 + 3)) (zdk ttX7_readDoing 33 rfl rfl) zf_RX7_107 rfl (k_4_0 s27 r_p1) (rf_4_0_2 s27 r_p1) ?_
        refine zj_iload_n (zdk ttX7_readDoing 34 rfl rfl) rfl ?_
        refine zj_iconst (zdk ttX7_readDoing 35 rfl rfl) ?_
        refine zj_iast (zdk ttX7_readDoing 36 rfl rfl) (ka_4_0_2 s27 r_p1) (by decide) (by omega) (fun h28 e29 => ?_)
        refine zj_iload (zdk ttX7_readDoing 37 rfl rfl) rfl ?_
        refine zj_iconst (zdk ttX7_readDoing 38 rfl rfl) ?_
        refine zj_icmp_eq (t := 105) (zdk ttX7_readDoing 39 rfl rfl) (by decide) (by omega) (by decide) (fun c30 => ?_) (fun c30 => ?_)
        · refine zj_aload_n (zdk ttX7_readDoing 57 rfl rfl) rfl (by decide) ?_
          have s31 : okC h28 := aw_4_0_2 s27 r_p1 e29 (by omega)
          refine zj_getr (r := 103) (zdk ttX7_readDoing 58 rfl rfl) zf_RX7_9 rfl (k_L107 s31) (rf_L107_0 s31) ?_
          refine zj_bipush (zdk ttX7_readDoing 59 rfl rfl) (by decide) ?_
          refine zj_callV (av := [.inl 59]) (st := []) (zdk ttX7_readDoing 60 rfl rfl) mb_X6_takes mv_RX7_70 (ci := 6) rfl rfl (k_L103 s31) rfl rfl (Nat.le_of_ble_eq_true rfl) (s_X6_takes l h28 59 s31 (by omega)) (rm_ok (by decide) (by decide)) (zq_i fun v33 h34 q32 => ?_)
          obtain ⟨b35, s36⟩ := q32
          exact zj_zret rfl (zdk ttX7_readDoing 61 rfl rfl) (Nat.le_refl _) (Nat.le_refl _) (by omega) ⟨v33, rfl, by omega, s36⟩
        · refine zj_iload (zdk ttX7_readDoing 40 rfl rfl) rfl ?_
          refine zj_iconst (zdk ttX7_readDoing 41 rfl rfl) ?_
          refine zj_icmp_eq (t := 105) (zdk ttX7_readDoing 42 rfl rfl) (by decide) (by omega) (by decide) (fun c37 => ?_) (fun c37 => ?_)
          · refine zj_aload_n (zdk ttX7_readDoing 57 rfl rfl) rfl (by decide) ?_
            have s38 : okC h28 := aw_4_0_2 s27 r_p1 e29 (by omega)
            refine zj_getr (r := 103) (zdk ttX7_readDoing 58 rfl rfl) zf_RX7_9 rfl (k_L107 s38) (rf_L107_0 s38) ?_
            refine zj_bipush (zdk ttX7_readDoing 59 rfl rfl) (by decide) ?_
            refine zj_callV (av := [.inl 59]) (st := []) (zdk ttX7_readDoing 60 rfl rfl) mb_X6_takes mv_RX7_70 (ci := 6) rfl rfl (k_L103 s38) rfl rfl (Nat.le_of_ble_eq_true rfl) (s_X6_takes l h28 59 s38 (by omega)) (rm_ok (by decide) (by decide)) (zq_i fun v40 h41 q39 => ?_)
            obtain ⟨b42, s43⟩ := q39
            exact zj_zret rfl (zdk ttX7_readDoing 61 rfl rfl) (Nat.le_refl _) (Nat.le_refl _) (by omega) ⟨v40, rfl, by omega, s43⟩
          · refine zj_aload_n (zdk ttX7_readDoing 43 rfl rfl) rfl (by decide) ?_
            refine zj_iload (zdk ttX7_readDoing 44 rfl rfl) rfl ?_
            refine zj_iload_n (zdk ttX7_readDoing 45 rfl rfl) rfl ?_
            have s44 : okC h28 := aw_4_0_2 s27 r_p1 e29 (by omega)
            refine zj_callV (av := [.inl ((h4.2 103 6) - 200), .inl p3]) (st := []) (zdk ttX7_readDoing 46 rfl rfl) mb_X7_readAmount mv_RX7_125 (ci := 7) rfl rfl (k_L107 s44) rfl rfl (Nat.le_of_ble_eq_true rfl) (s_X7_readAmount l h28 ((h4.2 103 6) - 200) p3 s44 (by omega) (by omega)) (rm_ok (by decide) (by decide)) (zq_i fun v46 h47 q45 => ?_)
            obtain ⟨b48, s49⟩ := q45
            refine zj_if_ne (t := 92) (zdk ttX7_readDoing 47 rfl rfl) (by decide) (by omega) (fun c50 => ?_) (fun c50 => ?_)
            · refine zj_aload_n (zdk ttX7_readDoing 50 rfl rfl) rfl (by omega) ?_
              refine zj_getr (r := (p1 + 3)) (zdk ttX7_readDoing 51 rfl rfl) zf_RX7_107 rfl (k_4_0 s49 r_p1) (rf_4_0_2 s49 r_p1) ?_
              refine zj_iload_n (zdk ttX7_readDoing 52 rfl rfl) rfl ?_
              refine zj_aload_n (zdk ttX7_readDoing 53 rfl rfl) rfl (by decide) ?_
              refine zj_getr (r := 103) (zdk ttX7_readDoing 54 rfl rfl) zf_RX7_9 rfl (k_L107 s49) (rf_L107_0 s49) ?_
              have b51 : -2147483648 ≤ (h47.2 103 9) ∧ (h47.2 103 9) ≤ 2147483647 := fb_L103_9 s49
              refine zj_geti (v := (h47.2 103 9)) (zdk ttX7_readDoing 55 rfl rfl) zf_RX7_110 rfl (k_L103 s49) rfl ?_
              refine zj_iast (zdk ttX7_readDoing 56 rfl rfl) (ka_4_0_2 s49 r_p1) (by decide) (by omega) (fun h52 e53 => ?_)
              refine zj_aload_n (zdk ttX7_readDoing 57 rfl rfl) rfl (by decide) ?_
              have s54 : okC h52 := aw_4_0_2 s49 r_p1 e53 (by omega)
              refine zj_getr (r := 103) (zdk ttX7_readDoing 58 rfl rfl) zf_RX7_9 rfl (k_L107 s54) (rf_L107_0 s54) ?_
              refine zj_bipush (zdk ttX7_readDoing 59 rfl rfl) (by decide) ?_
              refine zj_callV (av := [.inl 59]) (st := []) (zdk ttX7_readDoing 60 rfl rfl) mb_X6_takes mv_RX7_70 (ci := 6) rfl rfl (k_L103 s54) rfl rfl (Nat.le_of_ble_eq_true rfl) (s_X6_takes l h52 59 s54 (by omega)) (rm_ok (by decide) (by decide)) (zq_i fun v56 h57 q55 => ?_)
              obtain ⟨b58, s59⟩ := q55
              exact zj_zret rfl (zdk ttX7_readDoing 61 rfl rfl) (Nat.le_refl _) (Nat.le_refl _) (by omega) ⟨v56, rfl, by omega, s59⟩
            · refine zj_iconst (zdk ttX7_readDoing 48 rfl rfl) ?_
              exact zj_zret rfl (zdk ttX7_readDoing 49 rfl rfl) (Nat.le_refl _) (Nat.le_refl _) (by omega) ⟨0, rfl, by omega, s49⟩
      · exact absurd c19 (by omega)
  · refine zj_iconst (zdk ttX7_readDoing 5 rfl rfl) ?_
    exact zj_zret rfl (zdk ttX7_readDoing 6 rfl rfl) (Nat.le_refl _) (Nat.le_refl _) (by omega) ⟨0, rfl, by omega, s6⟩
