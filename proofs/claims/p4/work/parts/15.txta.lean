abbrev tX6_isSame : List (Nat × Instr × Nat) := [(0, .iload_n 2, 1), (1, .istore 5, 2), (3, .iload 5, 2), (5, .iload_n 3, 1), (6, .if_icmp .ge 44, 3), (9, .iload 4, 2), (11, .iload 5, 2), (13, .iadd, 1), (14, .iload_n 2, 1), (15, .isub, 1), (16, .istore 6, 2), (18, .iload 6, 2), (20, .sipush 400, 3), (23, .if_icmp .ge 19, 3), (26, .aload_n 1, 1), (27, .iload 5, 2), (29, .invokevirtual 73, 3), (32, .aload_n 0, 1), (33, .getfield 11, 3), (36, .iload 6, 2), (38, .iaload, 1), (39, .if_icmp .eq 5, 3), (42, .iconst 0, 1), (43, .ireturn, 1), (44, .iinc 5 1, 3), (47, .goto (-44), 3), (50, .iconst 1, 1), (51, .ireturn, 1)]
theorem ttX6_isSame : zdt cX6_isSame tX6_isSame = true := by decide +kernel
abbrev q_X6_isSame (h : zM) (i_p1 : Nat) (p2 : Int) (p3 : Int) (p4 : Int) : Option zV → zM → Prop := zqi fun v h' => h = h' ∧ (0 ≤ v ∧ v ≤ 1)
set_option maxRecDepth 100000 in
set_option maxHeartbeats 4000000 in
theorem s_X6_isSame (l : Launch) (h : zM) (i_p1 : Nat) (p2 : Int) (p3 : Int) (p4 : Int) (s0 : okC h) (hi_p1 : i_p1 < 5) (b_p2 : 0 ≤ p2 ∧ p2 ≤ 99) (b_p3 : 0 ≤ p3 ∧ p3 ≤ 99) (b_p4 : 0 ≤ p4 ∧ p4 ≤ 400) (u_0 : p3 ≤ zln i_p1) : zT shC l yX6_isSame cX6_isSame 7 (some .boolean) (rmL 6) 0 0 [.inr 103, .inr (-2 - ((i_p1 : Nat) : Int)), .inl p2, .inl p3, .inl p4] h (q_X6_isSame h i_p1 p2 p3 p4) := by
  refine zT_of (by decide +kernel) (L0 := [some (.inr 103), some (.inr (-2 - ((i_p1 : Nat) : Int))), some (.inl p2), some (.inl p3), some (.inl p4), none, none]) rfl (Nat.le_of_ble_eq_true rfl) ?_
  refine zj_iload_n (zdk ttX6_isSame 0 rfl rfl) rfl ?_
  refine zj_istore (L' := [some (.inr 103), some (.inr (-2 - ((i_p1 : Nat) : Int))), some (.inl p2), some (.inl p3), some (.inl p4), some (.inl p2), none]) (zdk ttX6_isSame 1 rfl rfl) (by decide) rfl ?_
  have lp10 : ∀ (n : Nat) (x1 : Int), (0 ≤ x1 ∧ x1 ≤ 99) → (p2 ≤ x1) → (100 - x1).toNat < n → zJ shC l yX6_isSame cX6_isSame 7 (some .boolean) (rmL 6) 0 0 (q_X6_isSame h i_p1 p2 p3 p4) 0 0 3 [some (.inr 103), some (.inr (-2 - ((i_p1 : Nat) : Int))), some (.inl p2), some (.inl p3), some (.inl p4), some (.inl x1), none] [] h := by
    intro n
    induction n with
    | zero => intro x1 b11 u12 m13; exact absurd m13 (Nat.not_lt_zero _)
    | succ n ih14 =>
      intro x1 b11 u12 m13
      refine zj_iload (zdk ttX6_isSame 2 rfl rfl) rfl ?_
      refine zj_iload_n (zdk ttX6_isSame 3 rfl rfl) rfl ?_
      refine zj_icmp_ge (t := 50) (zdk ttX6_isSame 4 rfl rfl) (by decide) (by omega) (by omega) (fun c15 => ?_) (fun c15 => ?_)
      · refine zj_iconst (zdk ttX6_isSame 26 rfl rfl) ?_
        exact zj_zret rfl (zdk ttX6_isSame 27 rfl rfl) (Nat.le_refl _) (Nat.le_refl _) (by omega) ⟨1, rfl, rfl, by omega⟩
      · refine zj_iload (zdk ttX6_isSame 5 rfl rfl) rfl ?_
        refine zj_iload (zdk ttX6_isSame 6 rfl rfl) rfl ?_
        refine zj_iadd (zdk ttX6_isSame 7 rfl rfl) ?_
        refine zj_iload_n (zdk ttX6_isSame 8 rfl rfl) rfl ?_
        refine zj_isub (zdk ttX6_isSame 9 rfl rfl) ?_
        refine zj_istore (L' := [some (.inr 103), some (.inr (-2 - ((i_p1 : Nat) : Int))), some (.inl p2), some (.inl p3), some (.inl p4), some (.inl x1), some (.inl ((p4 + x1) - p2))]) (zdk ttX6_isSame 10 rfl rfl) (by decide) rfl ?_
        refine zj_iload (zdk ttX6_isSame 11 rfl rfl) rfl ?_
        refine zj_sipush (zdk ttX6_isSame 12 rfl rfl) (by decide) ?_
        refine zj_icmp_ge (t := 42) (zdk ttX6_isSame 13 rfl rfl) (by decide) (by omega) (by decide) (fun c16 => ?_) (fun c16 => ?_)
        · refine zj_iconst (zdk ttX6_isSame 22 rfl rfl) ?_
          exact zj_zret rfl (zdk ttX6_isSame 23 rfl rfl) (Nat.le_refl _) (Nat.le_refl _) (by omega) ⟨0, rfl, rfl, by omega⟩
        · refine zj_aload_n (zdk ttX6_isSame 14 rfl rfl) rfl (by omega) ?_
          refine zj_iload (zdk ttX6_isSame 15 rfl rfl) rfl ?_
          have b20l := zln_b i_p1 hi_p1
          refine zj_callVs hi_p1 (av := [.inl x1]) (st := []) (zdk ttX6_isSame 16 rfl rfl) mb_J0_charAt_5068e mv_RX6_73 rfl rfl rfl (Nat.le_of_ble_eq_true rfl) (s_J0_charAt_5068e shC l h i_p1 x1 hi_p1 (by omega)) (rm_ok (by decide) (by decide)) (zq_i fun v17 h18 q19 => ?_)
          obtain ⟨rfl, b20e⟩ := q19
          have b20z := zbv_b i_p1 hi_p1 (x1).toNat (by omega)
          have b20 : 0 ≤ v17 ∧ v17 ≤ 127 := by omega
          refine zj_aload_n (zdk ttX6_isSame 17 rfl rfl) rfl (by decide) ?_
          refine zj_getr (r := 104) (zdk ttX6_isSame 18 rfl rfl) zf_RX6_11 rfl (k_L103 s0) (rf_L103_0 s0) ?_
          refine zj_iload (zdk ttX6_isSame 19 rfl rfl) rfl ?_
          have b21 : 0 ≤ (h.2 104 ((p4 + x1) - p2)) ∧ (h.2 104 ((p4 + x1) - p2)) ≤ 255 := ab_L103_0 s0 ((p4 + x1) - p2)
          refine zj_iald (v := (h.2 104 ((p4 + x1) - p2))) (zdk ttX6_isSame 20 rfl rfl) (ka_L103_0 s0) (by decide) (by omega) rfl ?_
          refine zj_icmp_eq (t := 44) (zdk ttX6_isSame 21 rfl rfl) (by decide) (by omega) (by omega) (fun c22 => ?_) (fun c22 => ?_)
          · refine zj_iinc (L' := [some (.inr 103), some (.inr (-2 - ((i_p1 : Nat) : Int))), some (.inl p2), some (.inl p3), some (.inl p4), some (.inl (x1 + 1)), some (.inl ((p4 + x1) - p2))]) (zdk ttX6_isSame 24 rfl rfl) rfl (by decide) rfl ?_
            refine zj_goto (t := 3) (zdk ttX6_isSame 25 rfl rfl) (by decide) ?_
            refine zj_kill (k := 6) (L' := [some (.inr 103), some (.inr (-2 - ((i_p1 : Nat) : Int))), some (.inl p2), some (.inl p3), some (.inl p4), some (.inl (x1 + 1)), none]) rfl ?_
            exact ih14  (x1 + 1) (by omega) (by omega) (by omega)
          · refine zj_iconst (zdk ttX6_isSame 22 rfl rfl) ?_
            exact zj_zret rfl (zdk ttX6_isSame 23 rfl rfl) (Nat.le_refl _) (Nat.le_refl _) (by omega) ⟨0, rfl, rfl, by omega⟩
  exact lp10 _ p2 (by omega) (by omega) (Nat.lt_succ_self _)

abbrev tX6_wordAt : List (Nat × Instr × Nat) := [(0, .iconst 0, 1), (1, .istore 4, 2), (3, .iconst 0, 1), (4, .istore 5, 2), (6, .iconst 0, 1), (7, .istore 6, 2), (9, .iload 6, 2), (11, .aload_n 1, 1), (12, .invokevirtual 70, 3), (15, .if_icmp .ge 63, 3), (18, .aload_n 1, 1), (19, .iload 6, 2), (21, .invokevirtual 73, 3), (24, .bipush 32, 2), (26, .if_icmp .eq 6, 3), (29, .goto 43, 3), (32, .iload 6, 2), (34, .iload 4, 2), (36, .isub, 1), (37, .iload_n 3, 1), (38, .iload_n 2, 1), (39, .isub, 1), (40, .if_icmp .ne 23, 3), (43, .aload_n 0, 1), (44, .aload_n 1, 1), (45, .iload 4, 2), (47, .iload 6, 2), (49, .iload_n 2, 1), (50, .invokevirtual 77, 3), (53, .ifCond .eq 10, 3), (56, .sipush 200, 3), (59, .iload 5, 2), (61, .iadd, 1), (62, .ireturn, 1), (63, .iload 6, 2), (65, .iconst 1, 1), (66, .iadd, 1), (67, .istore 4, 2), (69, .iinc 5 1, 3), (72, .iinc 6 1, 3), (75, .goto (-66), 3), (78, .iconst 1, 1), (79, .ireturn, 1)]
theorem ttX6_wordAt : zdt cX6_wordAt tX6_wordAt = true := by decide +kernel
abbrev q_X6_wordAt (h : zM) (i_p1 : Nat) (p2 : Int) (p3 : Int) : Option zV → zM → Prop := zqi fun v h' => h = h' ∧ ((-2147483648) ≤ v ∧ v ≤ 2147483647)
set_option maxRecDepth 100000 in
set_option maxHeartbeats 4000000 in
theorem s_X6_wordAt (l : Launch) (h : zM) (i_p1 : Nat) (p2 : Int) (p3 : Int) (s0 : okC h) (hi_p1 : i_p1 < 5) (b_p2 : 0 ≤ p2 ∧ p2 ≤ 400) (b_p3 : 0 ≤ p3 ∧ p3 ≤ 400) : zT shC l yX6_wordAt cX6_wordAt 7 (some .int) (rmL 7) 0 0 [.inr 103, .inr (-2 - ((i_p1 : Nat) : Int)), .inl p2, .inl p3] h (q_X6_wordAt h i_p1 p2 p3) := by
  refine zT_of (by decide +kernel) (L0 := [some (.inr 103), some (.inr (-2 - ((i_p1 : Nat) : Int))), some (.inl p2), some (.inl p3), none, none, none]) rfl (Nat.le_of_ble_eq_true rfl) ?_
  refine zj_iconst (zdk ttX6_wordAt 0 rfl rfl) ?_
  refine zj_istore (L' := [some (.inr 103), some (.inr (-2 - ((i_p1 : Nat) : Int))), some (.inl p2), some (.inl p3), some (.inl 0), none, none]) (zdk ttX6_wordAt 1 rfl rfl) (by decide) rfl ?_
  refine zj_iconst (zdk ttX6_wordAt 2 rfl rfl) ?_
  refine zj_istore (L' := [some (.inr 103), some (.inr (-2 - ((i_p1 : Nat) : Int))), some (.inl p2), some (.inl p3), some (.inl 0), some (.inl 0), none]) (zdk ttX6_wordAt 3 rfl rfl) (by decide) rfl ?_
  refine zj_iconst (zdk ttX6_wordAt 4 rfl rfl) ?_
  refine zj_istore (L' := [some (.inr 103), some (.inr (-2 - ((i_p1 : Nat) : Int))), some (.inl p2), some (.inl p3), some (.inl 0), some (.inl 0), some (.inl 0)]) (zdk ttX6_wordAt 5 rfl rfl) (by decide) rfl ?_
  have lp202 : ∀ (n : Nat) (x1 x2 x3 : Int), (0 ≤ x1 ∧ x1 ≤ 99) → (-2147483648 ≤ x2 ∧ x2 ≤ 2147483647) → (0 ≤ x3 ∧ x3 ≤ 99) → (100 - x3).toNat < n → zJ shC l yX6_wordAt cX6_wordAt 7 (some .int) (rmL 7) 0 0 (q_X6_wordAt h i_p1 p2 p3) 0 0 9 [some (.inr 103), some (.inr (-2 - ((i_p1 : Nat) : Int))), some (.inl p2), some (.inl p3), some (.inl x1), some (.inl x2), some (.inl x3)] [] h := by
    intro n
    induction n with
    | zero => intro x1 x2 x3 b203 b204 b205 m206; exact absurd m206 (Nat.not_lt_zero _)
    | succ n ih207 =>
      intro x1 x2 x3 b203 b204 b205 m206
      refine zj_iload (zdk ttX6_wordAt 6 rfl rfl) rfl ?_
      refine zj_aload_n (zdk ttX6_wordAt 7 rfl rfl) rfl (by omega) ?_
      refine zj_callVs hi_p1 (av := []) (st := [.inl x3]) (zdk ttX6_wordAt 8 rfl rfl) mb_J0_length_8abf5 mv_RX6_70 rfl rfl rfl (Nat.le_of_ble_eq_true rfl) (s_J0_length_8abf5 shC l h i_p1 hi_p1) (rm_ok (by decide) (by decide)) (zq_i fun v208 h209 q210 => ?_)
      obtain ⟨rfl, rfl⟩ := q210
      have b211 := zln_b i_p1 hi_p1
      refine zj_icmp_ge (t := 78) (zdk ttX6_wordAt 9 rfl rfl) (by decide) (by omega) (by omega) (fun c212 => ?_) (fun c212 => ?_)
      · refine zj_iconst (zdk ttX6_wordAt 41 rfl rfl) ?_
        exact zj_iret rfl (zdk ttX6_wordAt 42 rfl rfl) (Nat.le_refl _) (Nat.le_refl _) ⟨1, rfl, rfl, by omega⟩
      · refine zj_aload_n (zdk ttX6_wordAt 10 rfl rfl) rfl (by omega) ?_
        refine zj_iload (zdk ttX6_wordAt 11 rfl rfl) rfl ?_
        have b216l := zln_b i_p1 hi_p1
        refine zj_callVs hi_p1 (av := [.inl x3]) (st := []) (zdk ttX6_wordAt 12 rfl rfl) mb_J0_charAt_5068e mv_RX6_73 rfl rfl rfl (Nat.le_of_ble_eq_true rfl) (s_J0_charAt_5068e shC l h i_p1 x3 hi_p1 (by omega)) (rm_ok (by decide) (by decide)) (zq_i fun v213 h214 q215 => ?_)
        obtain ⟨rfl, b216e⟩ := q215
        have b216z := zbv_b i_p1 hi_p1 (x3).toNat (by omega)
        have b216 : 0 ≤ v213 ∧ v213 ≤ 127 := by omega
        refine zj_bipush (zdk ttX6_wordAt 13 rfl rfl) (by decide) ?_
        refine zj_icmp_eq (t := 32) (zdk ttX6_wordAt 14 rfl rfl) (by decide) (by omega) (by decide) (fun c217 => ?_) (fun c217 => ?_)
        · refine zj_iload (zdk ttX6_wordAt 16 rfl rfl) rfl ?_
          refine zj_iload (zdk ttX6_wordAt 17 rfl rfl) rfl ?_
          refine zj_isub (zdk ttX6_wordAt 18 rfl rfl) ?_
          refine zj_iload_n (zdk ttX6_wordAt 19 rfl rfl) rfl ?_
          refine zj_iload_n (zdk ttX6_wordAt 20 rfl rfl) rfl ?_
          refine zj_isub (zdk ttX6_wordAt 21 rfl rfl) ?_
          refine zj_icmp_ne (t := 63) (zdk ttX6_wordAt 22 rfl rfl) (by decide) (by omega) (by omega) (fun c218 => ?_) (fun c218 => ?_)
          · refine zj_iload (zdk ttX6_wordAt 34 rfl rfl) rfl ?_
            refine zj_iconst (zdk ttX6_wordAt 35 rfl rfl) ?_
            refine zj_iadd (zdk ttX6_wordAt 36 rfl rfl) ?_
            refine zj_istore (L' := [some (.inr 103), some (.inr (-2 - ((i_p1 : Nat) : Int))), some (.inl p2), some (.inl p3), some (.inl (x3 + 1)), some (.inl x2), some (.inl x3)]) (zdk ttX6_wordAt 37 rfl rfl) (by decide) rfl ?_
            refine zj_iinc (L' := [some (.inr 103), some (.inr (-2 - ((i_p1 : Nat) : Int))), some (.inl p2), some (.inl p3), some (.inl (x3 + 1)), some (.inl (x2 + 1)), some (.inl x3)]) (zdk ttX6_wordAt 38 rfl rfl) rfl (by decide) rfl ?_
            have b219 := zwp_in (x2 + 1)
            refine zj_wrapl (k := 5) (L' := [some (.inr 103), some (.inr (-2 - ((i_p1 : Nat) : Int))), some (.inl p2), some (.inl p3), some (.inl (x3 + 1)), some (.inl (zwp (x2 + 1))), some (.inl x3)]) rfl rfl ?_
            refine zj_iinc (L' := [some (.inr 103), some (.inr (-2 - ((i_p1 : Nat) : Int))), some (.inl p2), some (.inl p3), some (.inl (x3 + 1)), some (.inl (zwp (x2 + 1))), some (.inl (x3 + 1))]) (zdk ttX6_wordAt 39 rfl rfl) rfl (by decide) rfl ?_
            refine zj_goto (t := 9) (zdk ttX6_wordAt 40 rfl rfl) (by decide) ?_
            exact ih207  (x3 + 1) (zwp (x2 + 1)) (x3 + 1) (by omega) (by omega) (by omega) (by omega)
          · refine zj_aload_n (zdk ttX6_wordAt 23 rfl rfl) rfl (by decide) ?_
            refine zj_aload_n (zdk ttX6_wordAt 24 rfl rfl) rfl (by omega) ?_
            refine zj_iload (zdk ttX6_wordAt 25 rfl rfl) rfl ?_
            refine zj_iload (zdk ttX6_wordAt 26 rfl rfl) rfl ?_
            refine zj_iload_n (zdk ttX6_wordAt 27 rfl rfl) rfl ?_
            refine zj_callV (av := [.inr (-2 - ((i_p1 : Nat) : Int)), .inl x1, .inl x3, .inl p2]) (st := []) (zdk ttX6_wordAt 28 rfl rfl) mb_X6_isSame mv_RX6_77 (ci := 6) rfl rfl (k_L103 s0) rfl rfl (Nat.le_of_ble_eq_true rfl) (s_X6_isSame l h i_p1 x1 x3 p2 s0 hi_p1 (by omega) (by omega) (by omega) (by omega)) (rm_ok (by decide) (by decide)) (zq_i fun v221 h222 q220 => ?_)
            obtain ⟨rfl, b223⟩ := q220
            refine zj_if_eq (t := 63) (zdk ttX6_wordAt 29 rfl rfl) (by decide) (by omega) (fun c224 => ?_) (fun c224 => ?_)
            · refine zj_iload (zdk ttX6_wordAt 34 rfl rfl) rfl ?_
              refine zj_iconst (zdk ttX6_wordAt 35 rfl rfl) ?_
              refine zj_iadd (zdk ttX6_wordAt 36 rfl rfl) ?_
              refine zj_istore (L' := [some (.inr 103), some (.inr (-2 - ((i_p1 : Nat) : Int))), some (.inl p2), some (.inl p3), some (.inl (x3 + 1)), some (.inl x2), some (.inl x3)]) (zdk ttX6_wordAt 37 rfl rfl) (by decide) rfl ?_
              refine zj_iinc (L' := [some (.inr 103), some (.inr (-2 - ((i_p1 : Nat) : Int))), some (.inl p2), some (.inl p3), some (.inl (x3 + 1)), some (.inl (x2 + 1)), some (.inl x3)]) (zdk ttX6_wordAt 38 rfl rfl) rfl (by decide) rfl ?_
              have b225 := zwp_in (x2 + 1)
              refine zj_wrapl (k := 5) (L' := [some (.inr 103), some (.inr (-2 - ((i_p1 : Nat) : Int))), some (.inl p2), some (.inl p3), some (.inl (x3 + 1)), some (.inl (zwp (x2 + 1))), some (.inl x3)]) rfl rfl ?_
              refine zj_iinc (L' := [some (.inr 103), some (.inr (-2 - ((i_p1 : Nat) : Int))), some (.inl p2), some (.inl p3), some (.inl (x3 + 1)), some (.inl (zwp (x2 + 1))), some (.inl (x3 + 1))]) (zdk ttX6_wordAt 39 rfl rfl) rfl (by decide) rfl ?_
              refine zj_goto (t := 9) (zdk ttX6_wordAt 40 rfl rfl) (by decide) ?_
              exact ih207  (x3 + 1) (zwp (x2 + 1)) (x3 + 1) (by omega) (by omega) (by omega) (by omega)
            · refine zj_sipush (zdk ttX6_wordAt 30 rfl rfl) (by decide) ?_
              refine zj_iload (zdk ttX6_wordAt 31 rfl rfl) rfl ?_
              refine zj_iadd (zdk ttX6_wordAt 32 rfl rfl) ?_
              refine zj_wrap ?_
              have b226 := zwp_in (200 + x2)
              exact zj_iret rfl (zdk ttX6_wordAt 33 rfl rfl) (Nat.le_refl _) (Nat.le_refl _) ⟨(zwp (200 + x2)), rfl, rfl, by omega⟩
        · refine zj_goto (t := 72) (zdk ttX6_wordAt 15 rfl rfl) (by decide) ?_
          refine zj_iinc (L' := [some (.inr 103), some (.inr (-2 - ((i_p1 : Nat) : Int))), some (.inl p2), some (.inl p3), some (.inl x1), some (.inl x2), some (.inl (x3 + 1))]) (zdk ttX6_wordAt 39 rfl rfl) rfl (by decide) rfl ?_
          refine zj_goto (t := 9) (zdk ttX6_wordAt 40 rfl rfl) (by decide) ?_
          exact ih207  x1 x2 (x3 + 1) (by omega) (by omega) (by omega) (by omega)
  exact lp202 _ 0 0 0 (by omega) (by omega) (by omega) (Nat.lt_succ_self _)

abbrev tX6_cut : List (Nat × Instr × Nat) := [(0, .aload_n 0, 1), (1, .iconst 0, 1), (2, .putfield 25, 3), (5, .aload_n 0, 1), (6, .iconst 0, 1), (7, .putfield 28, 3), (10, .iconst 0, 1), (11, .istore_n 2, 1), (12, .iconst 0, 1), (13, .istore_n 3, 1), (14, .iload_n 3, 1), (15, .aload_n 0, 1), (16, .getfield 21, 3), (19, .if_icmp .ge 153, 3), (22, .iload_n 3, 1), (23, .iconst 1, 1), (24, .iadd, 1), (25, .istore_n 2, 1), (26, .aload_n 0, 1), (27, .getfield 11, 3), (30, .iload_n 3, 1), (31, .iaload, 1), (32, .istore 4, 2), (34, .iload 4, 2), (36, .invokestatic 43, 3), (39, .ifCond .eq 44, 3), (42, .iload_n 2, 1), (43, .aload_n 0, 1), (44, .getfield 21, 3), (47, .if_icmp .ge 21, 3), (50, .aload_n 0, 1), (51, .getfield 11, 3), (54, .iload_n 2, 1), (55, .iaload, 1), (56, .invokestatic 43, 3), (59, .ifCond .eq 9, 3), (62, .iinc 2 1, 3), (65, .goto (-23), 3), (68, .aload_n 0, 1), (69, .aload_n 0, 1), (70, .aload_n 1, 1), (71, .iload_n 3, 1), (72, .iload_n 2, 1), (73, .invokevirtual 47, 3), (76, .iload_n 3, 1), (77, .invokevirtual 51, 3), (80, .goto 87, 3), (83, .iload 4, 2), (85, .invokestatic 55, 3), (88, .ifCond .eq 43, 3), (91, .iload_n 2, 1), (92, .aload_n 0, 1), (93, .getfield 21, 3), (96, .if_icmp .ge 21, 3), (99, .aload_n 0, 1), (100, .getfield 11, 3), (103, .iload_n 2, 1), (104, .iaload, 1), (105, .invokestatic 55, 3), (108, .ifCond .eq 9, 3), (111, .iinc 2 1, 3), (114, .goto (-23), 3), (117, .aload_n 0, 1), (118, .aload_n 0, 1), (119, .iload_n 3, 1), (120, .iload_n 2, 1), (121, .invokevirtual 58, 3), (124, .iload_n 3, 1), (125, .invokevirtual 51, 3), (128, .goto 39, 3), (131, .iload 4, 2), (133, .bipush 32, 2), (135, .if_icmp .eq 32, 3), (138, .iload 4, 2), (140, .bipush 10, 2), (142, .if_icmp .eq 25, 3), (145, .aload_n 0, 1), (146, .ldc 62, 2), (148, .iload 4, 2), (150, .i2c, 1), (151, .invokevirtual 64, 3), (154, .ifCond .lt 8, 3), (157, .iload 4, 2), (159, .goto 4, 3), (162, .iconst 1, 1), (163, .iload_n 3, 1), (164, .invokevirtual 51, 3), (167, .iload_n 2, 1), (168, .istore_n 3, 1), (169, .goto (-155), 3), (172, .aload_n 0, 1), (173, .iconst 0, 1), (174, .aload_n 0, 1), (175, .getfield 21, 3), (178, .invokevirtual 51, 3), (181, .aload_n 0, 1), (182, .aload_n 0, 1), (183, .getfield 15, 3), (186, .iconst 0, 1), (187, .iaload, 1), (188, .putfield 31, 3), (191, .return_, 1)]
theorem ttX6_cut : zdt cX6_cut tX6_cut = true := by decide +kernel
abbrev w_X6_cut (a b : Int) : Prop := (a = 103 ∧ 4 ≤ b ∧ b ≤ 6) ∨ (105 ≤ a ∧ a ≤ 106)
abbrev q_X6_cut (h : zM) (i_p1 : Nat) : Option zV → zM → Prop := zqv fun h' => okC h' ∧ zfC w_X6_cut h h'
set_option maxRecDepth 100000 in
set_option maxHeartbeats 4000000 in
theorem s_X6_cut (l : Launch) (h : zM) (i_p1 : Nat) (s0 : okC h) (hi_p1 : i_p1 < 5) : zT shC l yX6_cut cX6_cut 5 none (rmL 8) 0 0 [.inr 103, .inr (-2 - ((i_p1 : Nat) : Int))] h (q_X6_cut h i_p1) := by
  refine zT_of (by decide +kernel) (L0 := [some (.inr 103), some (.inr (-2 - ((i_p1 : Nat) : Int))), none, none, none]) rfl (Nat.le_of_ble_eq_true rfl) ?_
  refine zj_aload_n (zdk ttX6_cut 0 rfl rfl) rfl (by decide) ?_
  refine zj_iconst (zdk ttX6_cut 1 rfl rfl) ?_
  refine zj_puti (zdk ttX6_cut 2 rfl rfl) zf_RX6_25 rfl (k_L103 s0) (Or.inl zw_RX6_25) (k2 := 4) rfl (fun h1 e2 => ?_)
  refine zj_aload_n (zdk ttX6_cut 3 rfl rfl) rfl (by decide) ?_
  refine zj_iconst (zdk ttX6_cut 4 rfl rfl) ?_
  have s3 : okC h1 := fw_L103_4 s0 e2 (by omega)
  refine zj_puti (zdk ttX6_cut 5 rfl rfl) zf_RX6_28 rfl (k_L103 s3) (Or.inl zw_RX6_28) (k2 := 5) rfl (fun h4 e5 => ?_)
  refine zj_iconst (zdk ttX6_cut 6 rfl rfl) ?_
  refine zj_istore_n (L' := [some (.inr 103), some (.inr (-2 - ((i_p1 : Nat) : Int))), some (.inl 0), none, none]) (zdk ttX6_cut 7 rfl rfl) (by decide) rfl ?_
  refine zj_iconst (zdk ttX6_cut 8 rfl rfl) ?_
  refine zj_istore_n (L' := [some (.inr 103), some (.inr (-2 - ((i_p1 : Nat) : Int))), some (.inl 0), some (.inl 0), none]) (zdk ttX6_cut 9 rfl rfl) (by decide) rfl ?_
  have lp407 : ∀ (n : Nat) (x6 x7 : Int) (h8 : zM), (0 ≤ x6 ∧ x6 ≤ 400) → (0 ≤ x7 ∧ x7 ≤ 400) → okC h8 → zfC w_X6_cut h h8 → (401 - x7).toNat < n → zJ shC l yX6_cut cX6_cut 5 none (rmL 8) 0 0 (q_X6_cut h i_p1) 0 0 14 [some (.inr 103), some (.inr (-2 - ((i_p1 : Nat) : Int))), some (.inl x6), some (.inl x7), none] [] h8 := by
    intro n
    induction n with
    | zero => intro x6 x7 h8 b408 b409 s9 f10 m410; exact absurd m410 (Nat.not_lt_zero _)
    | succ n ih411 =>
      intro x6 x7 h8 b408 b409 s9 f10 m410
      refine zj_iload_n (zdk ttX6_cut 10 rfl rfl) rfl ?_
      refine zj_aload_n (zdk ttX6_cut 11 rfl rfl) rfl (by decide) ?_
      have b412 : 0 ≤ (h.2 103 3) ∧ (h.2 103 3) ≤ 400 := fb_L103_3 s0
      refine zj_geti (v := (h.2 103 3)) (zdk ttX6_cut 12 rfl rfl) zf_RX6_21 rfl (k_L103 s9) (zfC_a f10 (fun z9 => by unfold w_X6_cut at z9; first | (revert z9; decide) | omega)) ?_
      refine zj_icmp_ge (t := 172) (zdk ttX6_cut 13 rfl rfl) (by decide) (by omega) (by omega) (fun c413 => ?_) (fun c413 => ?_)
      · refine zj_aload_n (zdk ttX6_cut 90 rfl rfl) rfl (by decide) ?_
        refine zj_iconst (zdk ttX6_cut 91 rfl rfl) ?_
        refine zj_aload_n (zdk ttX6_cut 92 rfl rfl) rfl (by decide) ?_
        refine zj_geti (v := (h.2 103 3)) (zdk ttX6_cut 93 rfl rfl) zf_RX6_21 rfl (k_L103 s9) (zfC_a f10 (fun z9 => by unfold w_X6_cut at z9; first | (revert z9; decide) | omega)) ?_
        refine zj_callV (av := [.inl 0, .inl (h.2 103 3)]) (st := []) (zdk ttX6_cut 94 rfl rfl) mb_X6_putToken mv_RX6_51 (ci := 6) rfl rfl (k_L103 s9) rfl rfl (Nat.le_of_ble_eq_true rfl) (s_X6_putToken l h8 0 (h.2 103 3) s9 (by omega) (by omega)) (rm_ok (by decide) (by decide)) (zq_v fun h416 q414 => ?_)
        obtain ⟨s418, f419⟩ := q414
        refine zj_aload_n (zdk ttX6_cut 95 rfl rfl) rfl (by decide) ?_
        refine zj_aload_n (zdk ttX6_cut 96 rfl rfl) rfl (by decide) ?_
        refine zj_getr (r := 105) (zdk ttX6_cut 97 rfl rfl) zf_RX6_15 rfl (k_L103 s418) (rf_L103_1 s418) ?_
        refine zj_iconst (zdk ttX6_cut 98 rfl rfl) ?_
        have b420 : -2147483648 ≤ (h416.2 105 0) ∧ (h416.2 105 0) ≤ 2147483647 := ab_L103_1 s418 0
        refine zj_iald (v := (h416.2 105 0)) (zdk ttX6_cut 99 rfl rfl) (ka_L103_1 s418) (by decide) (by omega) rfl ?_
        refine zj_puti (zdk ttX6_cut 100 rfl rfl) zf_RX6_31 rfl (k_L103 s418) (Or.inl zw_RX6_31) (k2 := 6) rfl (fun h421 e422 => ?_)
        have s423 : okC h421 := fw_L103_6 s418 e422 (by omega)
        have f425 : zfC w_X6_cut h h416 := zfC_t f10 f419 (fun a9 b9 z9 => by
          rcases z9 with z9 | z9
          · exact (Or.inl (by omega))
          · exact (Or.inr z9))
        have f424 : zfC w_X6_cut h h421 := zfC_w f425 e422 (Or.inl (by omega))
        exact zj_vret rfl (zdk ttX6_cut 101 rfl rfl) (Nat.le_refl _) (Nat.le_refl _) ⟨rfl, s423, f424⟩
      · refine zj_iload_n (zdk ttX6_cut 14 rfl rfl) rfl ?_
        refine zj_iconst (zdk ttX6_cut 15 rfl rfl) ?_
        refine zj_iadd (zdk ttX6_cut 16 rfl rfl) ?_
        refine zj_istore_n (L' := [some (.inr 103), some (.inr (-2 - ((i_p1 : Nat) : Int))), some (.inl (x7 + 1)), some (.inl x7), none]) (zdk ttX6_cut 17 rfl rfl) (by decide) rfl ?_
        refine zj_aload_n (zdk ttX6_cut 18 rfl rfl) rfl (by decide) ?_
        refine zj_getr (r := 104) (zdk ttX6_cut 19 rfl rfl) zf_RX6_11 rfl (k_L103 s9) (rf_L103_0 s9) ?_
        refine zj_iload_n (zdk ttX6_cut 20 rfl rfl) rfl ?_
        have b426 : 0 ≤ (h.2 104 x7) ∧ (h.2 104 x7) ≤ 255 := ab_L103_0 s0 x7
        refine zj_iald (v := (h.2 104 x7)) (zdk ttX6_cut 21 rfl rfl) (ka_L103_0 s9) (by decide) (by omega) (zfC_a f10 (fun z9 => by unfold w_X6_cut at z9; first | (revert z9; decide) | omega)) ?_
        refine zj_istore (L' := [some (.inr 103), some (.inr (-2 - ((i_p1 : Nat) : Int))), some (.inl (x7 + 1)), some (.inl x7), some (.inl (h.2 104 x7))]) (zdk ttX6_cut 22 rfl rfl) (by decide) rfl ?_
        refine zj_iload (zdk ttX6_cut 23 rfl rfl) rfl ?_
        refine zj_callS (av := [.inl (h.2 104 x7)]) (st := []) (zdk ttX6_cut 24 rfl rfl) mb_X6_isLetter ms_RX6_43 rfl rfl (Nat.le_of_ble_eq_true rfl) (s_X6_isLetter l h8 (h.2 104 x7) s9 (by omega)) (rm_ok (by decide) (by decide)) (zq_i fun v428 h429 q427 => ?_)
        obtain ⟨rfl, ⟨rfl, b430⟩ | ⟨rfl, b430⟩⟩ := q427
        · refine zj_if_eq (t := 83) (zdk ttX6_cut 25 rfl rfl) (by decide) (by decide) (fun c431 => ?_) (fun c431 => ?_)
          · refine zj_iload (zdk ttX6_cut 47 rfl rfl) rfl ?_
            refine zj_callS (av := [.inl (h.2 104 x7)]) (st := []) (zdk ttX6_cut 48 rfl rfl) mb_X6_isDigit ms_RX6_55 rfl rfl (Nat.le_of_ble_eq_true rfl) (s_X6_isDigit l h8 (h.2 104 x7) s9 (by omega)) (rm_ok (by decide) (by decide)) (zq_i fun v433 h434 q432 => ?_)
            obtain ⟨rfl, ⟨rfl, b435⟩ | ⟨rfl, b435⟩⟩ := q432
            · refine zj_if_eq (t := 131) (zdk ttX6_cut 49 rfl rfl) (by decide) (by decide) (fun c436 => ?_) (fun c436 => ?_)
              · refine zj_iload (zdk ttX6_cut 70 rfl rfl) rfl ?_
                refine zj_bipush (zdk ttX6_cut 71 rfl rfl) (by decide) ?_
                refine zj_icmp_eq (t := 167) (zdk ttX6_cut 72 rfl rfl) (by decide) (by omega) (by decide) (fun c437 => ?_) (fun c437 => ?_)
                · refine zj_iload_n (zdk ttX6_cut 87 rfl rfl) rfl ?_
                  refine zj_istore_n (L' := [some (.inr 103), some (.inr (-2 - ((i_p1 : Nat) : Int))), some (.inl (x7 + 1)), some (.inl (x7 + 1)), some (.inl (h.2 104 x7))]) (zdk ttX6_cut 88 rfl rfl) (by decide) rfl ?_
                  refine zj_goto (t := 14) (zdk ttX6_cut 89 rfl rfl) (by decide) ?_
                  refine zj_kill (k := 4) (L' := [some (.inr 103), some (.inr (-2 - ((i_p1 : Nat) : Int))), some (.inl (x7 + 1)), some (.inl (x7 + 1)), none]) rfl ?_
                  exact ih411  (x7 + 1) (x7 + 1) h8 (by omega) (by omega) s9 f10 (by omega)
                · refine zj_iload (zdk ttX6_cut 73 rfl rfl) rfl ?_
                  refine zj_bipush (zdk ttX6_cut 74 rfl rfl) (by decide) ?_
                  refine zj_icmp_eq (t := 167) (zdk ttX6_cut 75 rfl rfl) (by decide) (by omega) (by decide) (fun c438 => ?_) (fun c438 => ?_)
                  · refine zj_iload_n (zdk ttX6_cut 87 rfl rfl) rfl ?_
                    refine zj_istore_n (L' := [some (.inr 103), some (.inr (-2 - ((i_p1 : Nat) : Int))), some (.inl (x7 + 1)), some (.inl (x7 + 1)), some (.inl (h.2 104 x7))]) (zdk ttX6_cut 88 rfl rfl) (by decide) rfl ?_
                    refine zj_goto (t := 14) (zdk ttX6_cut 89 rfl rfl) (by decide) ?_
                    refine zj_kill (k := 4) (L' := [some (.inr 103), some (.inr (-2 - ((i_p1 : Nat) : Int))), some (.inl (x7 + 1)), some (.inl (x7 + 1)), none]) rfl ?_
                    exact ih411  (x7 + 1) (x7 + 1) h8 (by omega) (by omega) s9 f10 (by omega)
                  · refine zj_aload_n (zdk ttX6_cut 76 rfl rfl) rfl (by decide) ?_
                    refine zj_ldcS (i := 1) (zdk ttX6_cut 77 rfl rfl) (List.mem_of_getElem? (i := 1) rfl) ?_
                    refine zj_iload (zdk ttX6_cut 78 rfl rfl) rfl ?_
                    refine zj_i2c (zdk ttX6_cut 79 rfl rfl) (by omega) ?_
                    refine zj_callVs (show 1 < 5 by decide) (av := [.inl (h.2 104 x7)]) (st := [.inr 103]) (zdk ttX6_cut 80 rfl rfl) mb_J0_indexOf_0f7a4 mv_RX6_64 rfl rfl rfl (Nat.le_of_ble_eq_true rfl) (s_J0_indexOf_0f7a4 shC l h8 1 (h.2 104 x7) (show 1 < 5 by decide) (by decide) (by omega)) (rm_ok (by decide) (by decide)) (zq_i fun v439 h440 q441 => ?_)
                    obtain ⟨rfl, b442e⟩ := q441
                    have b442l := zln_b 1 (show 1 < 5 by decide)
                    have b442 : -1 ≤ v439 ∧ v439 ≤ 99 := by
                      rcases b442e with ⟨z1, _⟩ | ⟨z1, z2, _⟩ <;> omega
                    refine zj_if_lt (t := 162) (zdk ttX6_cut 81 rfl rfl) (by decide) (by omega) (fun c443 => ?_) (fun c443 => ?_)
                    · refine zj_iconst (zdk ttX6_cut 84 rfl rfl) ?_
                      refine zj_iload_n (zdk ttX6_cut 85 rfl rfl) rfl ?_
                      refine zj_callV (av := [.inl 1, .inl x7]) (st := []) (zdk ttX6_cut 86 rfl rfl) mb_X6_putToken mv_RX6_51 (ci := 6) rfl rfl (k_L103 s9) rfl rfl (Nat.le_of_ble_eq_true rfl) (s_X6_putToken l h8 1 x7 s9 (by omega) (by omega)) (rm_ok (by decide) (by decide)) (zq_v fun h446 q444 => ?_)
                      obtain ⟨s448, f449⟩ := q444
                      refine zj_iload_n (zdk ttX6_cut 87 rfl rfl) rfl ?_
                      refine zj_istore_n (L' := [some (.inr 103), some (.inr (-2 - ((i_p1 : Nat) : Int))), some (.inl (x7 + 1)), some (.inl (x7 + 1)), some (.inl (h.2 104 x7))]) (zdk ttX6_cut 88 rfl rfl) (by decide) rfl ?_
                      refine zj_goto (t := 14) (zdk ttX6_cut 89 rfl rfl) (by decide) ?_
                      refine zj_kill (k := 4) (L' := [some (.inr 103), some (.inr (-2 - ((i_p1 : Nat) : Int))), some (.inl (x7 + 1)), some (.inl (x7 + 1)), none]) rfl ?_
                      have f450 : zfC w_X6_cut h h446 := zfC_t f10 f449 (fun a9 b9 z9 => by
                        rcases z9 with z9 | z9
                        · exact (Or.inl (by omega))
                        · exact (Or.inr z9))
                      exact ih411  (x7 + 1) (x7 + 1) h446 (by omega) (by omega) s448 f450 (by omega)
                    · refine zj_iload (zdk ttX6_cut 82 rfl rfl) rfl ?_
                      refine zj_goto (t := 163) (zdk ttX6_cut 83 rfl rfl) (by decide) ?_
                      refine zj_iload_n (zdk ttX6_cut 85 rfl rfl) rfl ?_
                      refine zj_callV (av := [.inl (h.2 104 x7), .inl x7]) (st := []) (zdk ttX6_cut 86 rfl rfl) mb_X6_putToken mv_RX6_51 (ci := 6) rfl rfl (k_L103 s9) rfl rfl (Nat.le_of_ble_eq_true rfl) (s_X6_putToken l h8 (h.2 104 x7) x7 s9 (by omega) (by omega)) (rm_ok (by decide) (by decide)) (zq_v fun h453 q451 => ?_)
                      obtain ⟨s455, f456⟩ := q451
                      refine zj_iload_n (zdk ttX6_cut 87 rfl rfl) rfl ?_
                      refine zj_istore_n (L' := [some (.inr 103), some (.inr (-2 - ((i_p1 : Nat) : Int))), some (.inl (x7 + 1)), some (.inl (x7 + 1)), some (.inl (h.2 104 x7))]) (zdk ttX6_cut 88 rfl rfl) (by decide) rfl ?_
                      refine zj_goto (t := 14) (zdk ttX6_cut 89 rfl rfl) (by decide) ?_
                      refine zj_kill (k := 4) (L' := [some (.inr 103), some (.inr (-2 - ((i_p1 : Nat) : Int))), some (.inl (x7 + 1)), some (.inl (x7 + 1)), none]) rfl ?_
                      have f457 : zfC w_X6_cut h h453 := zfC_t f10 f456 (fun a9 b9 z9 => by
                        rcases z9 with z9 | z9
                        · exact (Or.inl (by omega))
                        · exact (Or.inr z9))
                      exact ih411  (x7 + 1) (x7 + 1) h453 (by omega) (by omega) s455 f457 (by omega)
              · exact absurd c436 (by omega)
            · refine zj_if_eq (t := 131) (zdk ttX6_cut 49 rfl rfl) (by decide) (by decide) (fun c458 => ?_) (fun c458 => ?_)
              · exact absurd c458 (by omega)
              · have lp468 : ∀ (n : Nat) (x459 : Int), (1 ≤ x459 ∧ x459 ≤ 400) → (x7 + 1 ≤ x459) → (401 - x459).toNat < n → zJ shC l yX6_cut cX6_cut 5 none (rmL 8) 0 0 (q_X6_cut h i_p1) 0 0 91 [some (.inr 103), some (.inr (-2 - ((i_p1 : Nat) : Int))), some (.inl x459), some (.inl x7), some (.inl (h.2 104 x7))] [] h8 := by
                  intro n
                  induction n with
                  | zero => intro x459 b469 u470 m471; exact absurd m471 (Nat.not_lt_zero _)
                  | succ n ih472 =>
                    intro x459 b469 u470 m471
                    refine zj_iload_n (zdk ttX6_cut 50 rfl rfl) rfl ?_
                    refine zj_aload_n (zdk ttX6_cut 51 rfl rfl) rfl (by decide) ?_
                    refine zj_geti (v := (h.2 103 3)) (zdk ttX6_cut 52 rfl rfl) zf_RX6_21 rfl (k_L103 s9) (zfC_a f10 (fun z9 => by unfold w_X6_cut at z9; first | (revert z9; decide) | omega)) ?_
                    refine zj_icmp_ge (t := 117) (zdk ttX6_cut 53 rfl rfl) (by decide) (by omega) (by omega) (fun c473 => ?_) (fun c473 => ?_)
                    · refine zj_aload_n (zdk ttX6_cut 62 rfl rfl) rfl (by decide) ?_
                      refine zj_aload_n (zdk ttX6_cut 63 rfl rfl) rfl (by decide) ?_
                      refine zj_iload_n (zdk ttX6_cut 64 rfl rfl) rfl ?_
                      refine zj_iload_n (zdk ttX6_cut 65 rfl rfl) rfl ?_
                      refine zj_callV (av := [.inl x7, .inl x459]) (st := [.inr 103]) (zdk ttX6_cut 66 rfl rfl) mb_X6_numberAt mv_RX6_58 (ci := 6) rfl rfl (k_L103 s9) rfl rfl (Nat.le_of_ble_eq_true rfl) (s_X6_numberAt l h8 x7 x459 s9 (by omega) (by omega)) (rm_ok (by decide) (by decide)) (zq_i fun v475 h476 q474 => ?_)
                      obtain ⟨rfl, b477⟩ := q474
                      refine zj_iload_n (zdk ttX6_cut 67 rfl rfl) rfl ?_
                      refine zj_callV (av := [.inl v475, .inl x7]) (st := []) (zdk ttX6_cut 68 rfl rfl) mb_X6_putToken mv_RX6_51 (ci := 6) rfl rfl (k_L103 s9) rfl rfl (Nat.le_of_ble_eq_true rfl) (s_X6_putToken l h8 v475 x7 s9 (by omega) (by omega)) (rm_ok (by decide) (by decide)) (zq_v fun h480 q478 => ?_)
                      obtain ⟨s482, f483⟩ := q478
                      refine zj_goto (t := 167) (zdk ttX6_cut 69 rfl rfl) (by decide) ?_
                      refine zj_iload_n (zdk ttX6_cut 87 rfl rfl) rfl ?_
                      refine zj_istore_n (L' := [some (.inr 103), some (.inr (-2 - ((i_p1 : Nat) : Int))), some (.inl x459), some (.inl x459), some (.inl (h.2 104 x7))]) (zdk ttX6_cut 88 rfl rfl) (by decide) rfl ?_
                      refine zj_goto (t := 14) (zdk ttX6_cut 89 rfl rfl) (by decide) ?_
                      refine zj_kill (k := 4) (L' := [some (.inr 103), some (.inr (-2 - ((i_p1 : Nat) : Int))), some (.inl x459), some (.inl x459), none]) rfl ?_
                      have f484 : zfC w_X6_cut h h480 := zfC_t f10 f483 (fun a9 b9 z9 => by
                        rcases z9 with z9 | z9
                        · exact (Or.inl (by omega))
                        · exact (Or.inr z9))
                      exact ih411  x459 x459 h480 (by omega) (by omega) s482 f484 (by omega)
                    · refine zj_aload_n (zdk ttX6_cut 54 rfl rfl) rfl (by decide) ?_
                      refine zj_getr (r := 104) (zdk ttX6_cut 55 rfl rfl) zf_RX6_11 rfl (k_L103 s9) (rf_L103_0 s9) ?_
                      refine zj_iload_n (zdk ttX6_cut 56 rfl rfl) rfl ?_
                      have b485 : 0 ≤ (h.2 104 x459) ∧ (h.2 104 x459) ≤ 255 := ab_L103_0 s0 x459
                      refine zj_iald (v := (h.2 104 x459)) (zdk ttX6_cut 57 rfl rfl) (ka_L103_0 s9) (by decide) (by omega) (zfC_a f10 (fun z9 => by unfold w_X6_cut at z9; first | (revert z9; decide) | omega)) ?_
                      refine zj_callS (av := [.inl (h.2 104 x459)]) (st := []) (zdk ttX6_cut 58 rfl rfl) mb_X6_isDigit ms_RX6_55 rfl rfl (Nat.le_of_ble_eq_true rfl) (s_X6_isDigit l h8 (h.2 104 x459) s9 (by omega)) (rm_ok (by decide) (by decide)) (zq_i fun v487 h488 q486 => ?_)
                      obtain ⟨rfl, ⟨rfl, b489⟩ | ⟨rfl, b489⟩⟩ := q486
                      · refine zj_if_eq (t := 117) (zdk ttX6_cut 59 rfl rfl) (by decide) (by decide) (fun c490 => ?_) (fun c490 => ?_)
                        · refine zj_aload_n (zdk ttX6_cut 62 rfl rfl) rfl (by decide) ?_
                          refine zj_aload_n (zdk ttX6_cut 63 rfl rfl) rfl (by decide) ?_
                          refine zj_iload_n (zdk ttX6_cut 64 rfl rfl) rfl ?_
                          refine zj_iload_n (zdk ttX6_cut 65 rfl rfl) rfl ?_
                          refine zj_callV (av := [.inl x7, .inl x459]) (st := [.inr 103]) (zdk ttX6_cut 66 rfl rfl) mb_X6_numberAt mv_RX6_58 (ci := 6) rfl rfl (k_L103 s9) rfl rfl (Nat.le_of_ble_eq_true rfl) (s_X6_numberAt l h8 x7 x459 s9 (by omega) (by omega)) (rm_ok (by decide) (by decide)) (zq_i fun v492 h493 q491 => ?_)
                          obtain ⟨rfl, b494⟩ := q491
                          refine zj_iload_n (zdk ttX6_cut 67 rfl rfl) rfl ?_
                          refine zj_callV (av := [.inl v492, .inl x7]) (st := []) (zdk ttX6_cut 68 rfl rfl) mb_X6_putToken mv_RX6_51 (ci := 6) rfl rfl (k_L103 s9) rfl rfl (Nat.le_of_ble_eq_true rfl) (s_X6_putToken l h8 v492 x7 s9 (by omega) (by omega)) (rm_ok (by decide) (by decide)) (zq_v fun h497 q495 => ?_)
                          obtain ⟨s499, f500⟩ := q495
                          refine zj_goto (t := 167) (zdk ttX6_cut 69 rfl rfl) (by decide) ?_
                          refine zj_iload_n (zdk ttX6_cut 87 rfl rfl) rfl ?_
                          refine zj_istore_n (L' := [some (.inr 103), some (.inr (-2 - ((i_p1 : Nat) : Int))), some (.inl x459), some (.inl x459), some (.inl (h.2 104 x7))]) (zdk ttX6_cut 88 rfl rfl) (by decide) rfl ?_
                          refine zj_goto (t := 14) (zdk ttX6_cut 89 rfl rfl) (by decide) ?_
                          refine zj_kill (k := 4) (L' := [some (.inr 103), some (.inr (-2 - ((i_p1 : Nat) : Int))), some (.inl x459), some (.inl x459), none]) rfl ?_
                          have f501 : zfC w_X6_cut h h497 := zfC_t f10 f500 (fun a9 b9 z9 => by
                            rcases z9 with z9 | z9
                            · exact (Or.inl (by omega))
                            · exact (Or.inr z9))
                          exact ih411  x459 x459 h497 (by omega) (by omega) s499 f501 (by omega)
                        · exact absurd c490 (by omega)
                      · refine zj_if_eq (t := 117) (zdk ttX6_cut 59 rfl rfl) (by decide) (by decide) (fun c502 => ?_) (fun c502 => ?_)
                        · exact absurd c502 (by omega)
                        · refine zj_iinc (L' := [some (.inr 103), some (.inr (-2 - ((i_p1 : Nat) : Int))), some (.inl (x459 + 1)), some (.inl x7), some (.inl (h.2 104 x7))]) (zdk ttX6_cut 60 rfl rfl) rfl (by decide) rfl ?_
                          refine zj_goto (t := 91) (zdk ttX6_cut 61 rfl rfl) (by decide) ?_
                          exact ih472  (x459 + 1) (by omega) (by omega) (by omega)
                exact lp468 _ (x7 + 1) (by omega) (by omega) (Nat.lt_succ_self _)
          · exact absurd c431 (by omega)
        · refine zj_if_eq (t := 83) (zdk ttX6_cut 25 rfl rfl) (by decide) (by decide) (fun c503 => ?_) (fun c503 => ?_)
          · exact absurd c503 (by omega)
          · have lp513 : ∀ (n : Nat) (x504 : Int), (1 ≤ x504 ∧ x504 ≤ 400) → (x7 + 1 ≤ x504) → (401 - x504).toNat < n → zJ shC l yX6_cut cX6_cut 5 none (rmL 8) 0 0 (q_X6_cut h i_p1) 0 0 42 [some (.inr 103), some (.inr (-2 - ((i_p1 : Nat) : Int))), some (.inl x504), some (.inl x7), some (.inl (h.2 104 x7))] [] h8 := by
              intro n
              induction n with
              | zero => intro x504 b514 u515 m516; exact absurd m516 (Nat.not_lt_zero _)
              | succ n ih517 =>
                intro x504 b514 u515 m516
                refine zj_iload_n (zdk ttX6_cut 26 rfl rfl) rfl ?_
                refine zj_aload_n (zdk ttX6_cut 27 rfl rfl) rfl (by decide) ?_
                refine zj_geti (v := (h.2 103 3)) (zdk ttX6_cut 28 rfl rfl) zf_RX6_21 rfl (k_L103 s9) (zfC_a f10 (fun z9 => by unfold w_X6_cut at z9; first | (revert z9; decide) | omega)) ?_
                refine zj_icmp_ge (t := 68) (zdk ttX6_cut 29 rfl rfl) (by decide) (by omega) (by omega) (fun c518 => ?_) (fun c518 => ?_)
                · refine zj_aload_n (zdk ttX6_cut 38 rfl rfl) rfl (by decide) ?_
                  refine zj_aload_n (zdk ttX6_cut 39 rfl rfl) rfl (by decide) ?_
                  refine zj_aload_n (zdk ttX6_cut 40 rfl rfl) rfl (by omega) ?_
                  refine zj_iload_n (zdk ttX6_cut 41 rfl rfl) rfl ?_
                  refine zj_iload_n (zdk ttX6_cut 42 rfl rfl) rfl ?_
                  refine zj_callV (av := [.inr (-2 - ((i_p1 : Nat) : Int)), .inl x7, .inl x504]) (st := [.inr 103]) (zdk ttX6_cut 43 rfl rfl) mb_X6_wordAt mv_RX6_47 (ci := 6) rfl rfl (k_L103 s9) rfl rfl (Nat.le_of_ble_eq_true rfl) (s_X6_wordAt l h8 i_p1 x7 x504 s9 hi_p1 (by omega) (by omega)) (rm_ok (by decide) (by decide)) (zq_i fun v520 h521 q519 => ?_)
                  obtain ⟨rfl, b522⟩ := q519
                  refine zj_iload_n (zdk ttX6_cut 44 rfl rfl) rfl ?_
                  refine zj_callV (av := [.inl v520, .inl x7]) (st := []) (zdk ttX6_cut 45 rfl rfl) mb_X6_putToken mv_RX6_51 (ci := 6) rfl rfl (k_L103 s9) rfl rfl (Nat.le_of_ble_eq_true rfl) (s_X6_putToken l h8 v520 x7 s9 (by omega) (by omega)) (rm_ok (by decide) (by decide)) (zq_v fun h525 q523 => ?_)
                  obtain ⟨s527, f528⟩ := q523
                  refine zj_goto (t := 167) (zdk ttX6_cut 46 rfl rfl) (by decide) ?_
                  refine zj_iload_n (zdk ttX6_cut 87 rfl rfl) rfl ?_
                  refine zj_istore_n (L' := [some (.inr 103), some (.inr (-2 - ((i_p1 : Nat) : Int))), some (.inl x504), some (.inl x504), some (.inl (h.2 104 x7))]) (zdk ttX6_cut 88 rfl rfl) (by decide) rfl ?_
                  refine zj_goto (t := 14) (zdk ttX6_cut 89 rfl rfl) (by decide) ?_
                  refine zj_kill (k := 4) (L' := [some (.inr 103), some (.inr (-2 - ((i_p1 : Nat) : Int))), some (.inl x504), some (.inl x504), none]) rfl ?_
                  have f529 : zfC w_X6_cut h h525 := zfC_t f10 f528 (fun a9 b9 z9 => by
                    rcases z9 with z9 | z9
                    · exact (Or.inl (by omega))
                    · exact (Or.inr z9))
                  exact ih411  x504 x504 h525 (by omega) (by omega) s527 f529 (by omega)
                · refine zj_aload_n (zdk ttX6_cut 30 rfl rfl) rfl (by decide) ?_
                  refine zj_getr (r := 104) (zdk ttX6_cut 31 rfl rfl) zf_RX6_11 rfl (k_L103 s9) (rf_L103_0 s9) ?_
                  refine zj_iload_n (zdk ttX6_cut 32 rfl rfl) rfl ?_
                  have b530 : 0 ≤ (h.2 104 x504) ∧ (h.2 104 x504) ≤ 255 := ab_L103_0 s0 x504
                  refine zj_iald (v := (h.2 104 x504)) (zdk ttX6_cut 33 rfl rfl) (ka_L103_0 s9) (by decide) (by omega) (zfC_a f10 (fun z9 => by unfold w_X6_cut at z9; first | (revert z9; decide) | omega)) ?_
                  refine zj_callS (av := [.inl (h.2 104 x504)]) (st := []) (zdk ttX6_cut 34 rfl rfl) mb_X6_isLetter ms_RX6_43 rfl rfl (Nat.le_of_ble_eq_true rfl) (s_X6_isLetter l h8 (h.2 104 x504) s9 (by omega)) (rm_ok (by decide) (by decide)) (zq_i fun v532 h533 q531 => ?_)
                  obtain ⟨rfl, ⟨rfl, b534⟩ | ⟨rfl, b534⟩⟩ := q531
                  · refine zj_if_eq (t := 68) (zdk ttX6_cut 35 rfl rfl) (by decide) (by decide) (fun c535 => ?_) (fun c535 => ?_)
                    · refine zj_aload_n (zdk ttX6_cut 38 rfl rfl) rfl (by decide) ?_
                      refine zj_aload_n (zdk ttX6_cut 39 rfl rfl) rfl (by decide) ?_
                      refine zj_aload_n (zdk ttX6_cut 40 rfl rfl) rfl (by omega) ?_
                      refine zj_iload_n (zdk ttX6_cut 41 rfl rfl) rfl ?_
                      refine zj_iload_n (zdk ttX6_cut 42 rfl rfl) rfl ?_
                      refine zj_callV (av := [.inr (-2 - ((i_p1 : Nat) : Int)), .inl x7, .inl x504]) (st := [.inr 103]) (zdk ttX6_cut 43 rfl rfl) mb_X6_wordAt mv_RX6_47 (ci := 6) rfl rfl (k_L103 s9) rfl rfl (Nat.le_of_ble_eq_true rfl) (s_X6_wordAt l h8 i_p1 x7 x504 s9 hi_p1 (by omega) (by omega)) (rm_ok (by decide) (by decide)) (zq_i fun v537 h538 q536 => ?_)
                      obtain ⟨rfl, b539⟩ := q536
                      refine zj_iload_n (zdk ttX6_cut 44 rfl rfl) rfl ?_
                      refine zj_callV (av := [.inl v537, .inl x7]) (st := []) (zdk ttX6_cut 45 rfl rfl) mb_X6_putToken mv_RX6_51 (ci := 6) rfl rfl (k_L103 s9) rfl rfl (Nat.le_of_ble_eq_true rfl) (s_X6_putToken l h8 v537 x7 s9 (by omega) (by omega)) (rm_ok (by decide) (by decide)) (zq_v fun h542 q540 => ?_)
                      obtain ⟨s544, f545⟩ := q540
                      refine zj_goto (t := 167) (zdk ttX6_cut 46 rfl rfl) (by decide) ?_
                      refine zj_iload_n (zdk ttX6_cut 87 rfl rfl) rfl ?_
                      refine zj_istore_n (L' := [some (.inr 103), some (.inr (-2 - ((i_p1 : Nat) : Int))), some (.inl x504), some (.inl x504), some (.inl (h.2 104 x7))]) (zdk ttX6_cut 88 rfl rfl) (by decide) rfl ?_
                      refine zj_goto (t := 14) (zdk ttX6_cut 89 rfl rfl) (by decide) ?_
                      refine zj_kill (k := 4) (L' := [some (.inr 103), some (.inr (-2 - ((i_p1 : Nat) : Int))), some (.inl x504), some (.inl x504), none]) rfl ?_
                      have f546 : zfC w_X6_cut h h542 := zfC_t f10 f545 (fun a9 b9 z9 => by
                        rcases z9 with z9 | z9
                        · exact (Or.inl (by omega))
                        · exact (Or.inr z9))
                      exact ih411  x504 x504 h542 (by omega) (by omega) s544 f546 (by omega)
                    · exact absurd c535 (by omega)
                  · refine zj_if_eq (t := 68) (zdk ttX6_cut 35 rfl rfl) (by decide) (by decide) (fun c547 => ?_) (fun c547 => ?_)
                    · exact absurd c547 (by omega)
                    · refine zj_iinc (L' := [some (.inr 103), some (.inr (-2 - ((i_p1 : Nat) : Int))), some (.inl (x504 + 1)), some (.inl x7), some (.inl (h.2 104 x7))]) (zdk ttX6_cut 36 rfl rfl) rfl (by decide) rfl ?_
                      refine zj_goto (t := 42) (zdk ttX6_cut 37 rfl rfl) (by decide) ?_
                      exact ih517  (x504 + 1) (by omega) (by omega) (by omega)
            exact lp513 _ (x7 + 1) (by omega) (by omega) (Nat.lt_succ_self _)
  have s548 : okC h4 := fw_L103_5 s3 e5 (by omega)
  have f550 : zfC w_X6_cut h h1 := zfC_w (zfC_r _ _) e2 (Or.inl (by omega))
  have f549 : zfC w_X6_cut h h4 := zfC_w f550 e5 (Or.inl (by omega))
  exact lp407 _ 0 0 h4 (by omega) (by omega) s548 f549 (Nat.lt_succ_self _)

abbrev tX6_opensLine : List (Nat × Instr × Nat) := [(0, .aload_n 0, 1), (1, .iload_n 2, 1), (2, .iload_n 3, 1), (3, .invokevirtual 95, 3), (6, .ifCond .ne 9, 3), (9, .aload_n 0, 1), (10, .iconst 1, 1), (11, .invokevirtual 81, 3), (14, .ireturn, 1), (15, .iload_n 1, 1), (16, .bipush 16, 2), (18, .if_icmp .lt 11, 3), (21, .aload_n 0, 1), (22, .iconst 3, 1), (23, .invokevirtual 81, 3), (26, .ifCond .eq 7, 3), (29, .iconst 1, 1), (30, .goto 4, 3), (33, .iconst 0, 1), (34, .ireturn, 1)]
theorem ttX6_opensLine : zdt cX6_opensLine tX6_opensLine = true := by decide +kernel
abbrev w_X6_opensLine (a b : Int) : Prop := (a = 103 ∧ 7 ≤ b ∧ b ≤ 8)
abbrev q_X6_opensLine (h : zM) (p1 : Int) (p2 : Int) (p3 : Int) : Option zV → zM → Prop := zqi fun v h' => (0 ≤ v ∧ v ≤ 1) ∧ okC h' ∧ zfC w_X6_opensLine h h' ∧ (v = 1 → p1 ≤ 15)
set_option maxRecDepth 100000 in
set_option maxHeartbeats 4000000 in
theorem s_X6_opensLine (l : Launch) (h : zM) (p1 : Int) (p2 : Int) (p3 : Int) (s0 : okC h) (b_p1 : (-2147483648) ≤ p1 ∧ p1 ≤ 2147483647) (b_p2 : 0 ≤ p2 ∧ p2 ≤ 20) (b_p3 : 0 ≤ p3 ∧ p3 ≤ 20) : zT shC l yX6_opensLine cX6_opensLine 4 (some .boolean) (rmL 4) 0 0 [.inr 103, .inl p1, .inl p2, .inl p3] h (q_X6_opensLine h p1 p2 p3) := by
  refine zT_of (by decide +kernel) (L0 := [some (.inr 103), some (.inl p1), some (.inl p2), some (.inl p3)]) rfl (Nat.le_of_ble_eq_true rfl) ?_
  refine zj_aload_n (zdk ttX6_opensLine 0 rfl rfl) rfl (by decide) ?_
  refine zj_iload_n (zdk ttX6_opensLine 1 rfl rfl) rfl ?_
  refine zj_iload_n (zdk ttX6_opensLine 2 rfl rfl) rfl ?_
  refine zj_callV (av := [.inl p2, .inl p3]) (st := []) (zdk ttX6_opensLine 3 rfl rfl) mb_X6_isWord mv_RX6_95 (ci := 6) rfl rfl (k_L103 s0) rfl rfl (Nat.le_of_ble_eq_true rfl) (s_X6_isWord l h p2 p3 s0 (by omega) (by omega)) (rm_ok (by decide) (by decide)) (zq_i fun v2 h3 q1 => ?_)
  obtain ⟨rfl, b5, ⟨rfl, b4⟩ | ⟨rfl, b4⟩⟩ := q1
  · refine zj_if_ne (t := 15) (zdk ttX6_opensLine 4 rfl rfl) (by decide) (by decide) (fun c6 => ?_) (fun c6 => ?_)
    · exact absurd c6 (by omega)
    · refine zj_aload_n (zdk ttX6_opensLine 5 rfl rfl) rfl (by decide) ?_
      refine zj_iconst (zdk ttX6_opensLine 6 rfl rfl) ?_
      refine zj_callV (av := [.inl 1]) (st := []) (zdk ttX6_opensLine 7 rfl rfl) mb_X6_refuse mv_RX6_81 (ci := 6) rfl rfl (k_L103 s0) rfl rfl (Nat.le_of_ble_eq_true rfl) (s_X6_refuse l h 1 s0 (by omega)) (rm_ok (by decide) (by decide)) (zq_i fun v8 h9 q7 => ?_)
      obtain ⟨b10, s11, f12⟩ := q7
      have f13 : zfC w_X6_opensLine h h9 := zfC_t (zfC_r _ _) f12 (fun a9 b9 z9 => by
        exact z9)
      exact zj_zret rfl (zdk ttX6_opensLine 8 rfl rfl) (Nat.le_refl _) (Nat.le_refl _) (by omega) ⟨v8, rfl, by omega, s11, f13, by omega⟩
  · refine zj_if_ne (t := 15) (zdk ttX6_opensLine 4 rfl rfl) (by decide) (by decide) (fun c14 => ?_) (fun c14 => ?_)
    · refine zj_iload_n (zdk ttX6_opensLine 9 rfl rfl) rfl ?_
      refine zj_bipush (zdk ttX6_opensLine 10 rfl rfl) (by decide) ?_
      refine zj_icmp_lt (t := 29) (zdk ttX6_opensLine 11 rfl rfl) (by decide) (by omega) (by decide) (fun c15 => ?_) (fun c15 => ?_)
      · refine zj_iconst (zdk ttX6_opensLine 16 rfl rfl) ?_
        refine zj_goto (t := 34) (zdk ttX6_opensLine 17 rfl rfl) (by decide) ?_
        exact zj_zret rfl (zdk ttX6_opensLine 19 rfl rfl) (Nat.le_refl _) (Nat.le_refl _) (by omega) ⟨1, rfl, by omega, s0, (zfC_r _ _), by omega⟩
      · refine zj_aload_n (zdk ttX6_opensLine 12 rfl rfl) rfl (by decide) ?_
        refine zj_iconst (zdk ttX6_opensLine 13 rfl rfl) ?_
        refine zj_callV (av := [.inl 3]) (st := []) (zdk ttX6_opensLine 14 rfl rfl) mb_X6_refuse mv_RX6_81 (ci := 6) rfl rfl (k_L103 s0) rfl rfl (Nat.le_of_ble_eq_true rfl) (s_X6_refuse l h 3 s0 (by omega)) (rm_ok (by decide) (by decide)) (zq_i fun v17 h18 q16 => ?_)
        obtain ⟨b19, s20, f21⟩ := q16
        refine zj_if_eq (t := 33) (zdk ttX6_opensLine 15 rfl rfl) (by decide) (by omega) (fun c22 => ?_) (fun c22 => ?_)
        · refine zj_iconst (zdk ttX6_opensLine 18 rfl rfl) ?_
          have f23 : zfC w_X6_opensLine h h18 := zfC_t (zfC_r _ _) f21 (fun a9 b9 z9 => by
            exact z9)
          exact zj_zret rfl (zdk ttX6_opensLine 19 rfl rfl) (Nat.le_refl _) (Nat.le_refl _) (by omega) ⟨0, rfl, by omega, s20, f23, by omega⟩
        · exact absurd c22 (by omega)
    · exact absurd c14 (by omega)

abbrev tX7_readOperand : List (Nat × Instr × Nat) := [(0, .aload_n 0, 1), (1, .getfield 9, 3), (4, .getfield 32, 3), (7, .istore_n 3, 1), (8, .aload_n 0, 1), (9, .getfield 9, 3), (12, .invokevirtual 88, 3), (15, .ifCond .eq 35, 3), (18, .iload_n 2, 1), (19, .ifCond .eq 19, 3), (22, .iload_n 3, 1), (23, .sipush 1000, 3), (26, .if_icmp .ne 12, 3), (29, .aload_n 0, 1), (30, .getfield 9, 3), (33, .iconst 2, 1), (34, .invokevirtual 81, 3), (37, .ireturn, 1), (38, .aload_n 1, 1), (39, .iload_n 3, 1), (40, .sipush 1000, 3), (43, .isub, 1), (44, .invokevirtual 77, 3), (47, .goto 46, 3), (50, .iload_n 2, 1), (51, .ifCond .ne 33, 3), (54, .aload_n 0, 1), (55, .getfield 9, 3), (58, .bipush 7, 2), (60, .bipush 16, 2), (62, .invokevirtual 60, 3), (65, .ifCond .eq 19, 3), (68, .aload_n 1, 1), (69, .sipush 10000, 3), (72, .iload_n 3, 1), (73, .iadd, 1), (74, .sipush 200, 3), (77, .isub, 1), (78, .invokevirtual 77, 3), (81, .goto 12, 3), (84, .aload_n 0, 1), (85, .getfield 9, 3), (88, .iconst 1, 1), (89, .invokevirtual 81, 3), (92, .ireturn, 1), (93, .aload_n 0, 1), (94, .getfield 9, 3), (97, .invokevirtual 47, 3), (100, .iconst 1, 1), (101, .ireturn, 1)]
theorem ttX7_readOperand : zdt cX7_readOperand tX7_readOperand = true := by decide +kernel
abbrev w_X7_readOperand (p1 a b : Int) : Prop := (a = 103 ∧ 5 ≤ b ∧ b ≤ 8) ∨ (a = p1 ∧ b = 7) ∨ a = p1 + 5
abbrev q_X7_readOperand (h : zM) (p1 : Int) (p2 : Int) : Option zV → zM → Prop := zqi fun v h' => (0 ≤ v ∧ v ≤ 1) ∧ okC h' ∧ zfC (w_X7_readOperand p1) h h'
set_option maxRecDepth 100000 in
set_option maxHeartbeats 4000000 in
theorem s_X7_readOperand (l : Launch) (h : zM) (p1 : Int) (p2 : Int) (s0 : okC h) (r_p1 : zLw p1) (b_p2 : 0 ≤ p2 ∧ p2 ≤ 1) : zT shC l yX7_readOperand cX7_readOperand 4 (some .boolean) (rmL 5) 0 0 [.inr 107, .inr p1, .inl p2] h (q_X7_readOperand h p1 p2) := by
  refine zT_of (by decide +kernel) (L0 := [some (.inr 107), some (.inr p1), some (.inl p2), none]) rfl (Nat.le_of_ble_eq_true rfl) ?_
  have b1 := zLw_b r_p1
  refine zj_aload_n (zdk ttX7_readOperand 0 rfl rfl) rfl (by decide) ?_
  refine zj_getr (r := 103) (zdk ttX7_readOperand 1 rfl rfl) zf_RX7_9 rfl (k_L107 s0) (rf_L107_0 s0) ?_
  have b2 : -2147483648 ≤ (h.2 103 6) ∧ (h.2 103 6) ≤ 2147483647 := fb_L103_6 s0
  refine zj_geti (v := (h.2 103 6)) (zdk ttX7_readOperand 2 rfl rfl) zf_RX7_32 rfl (k_L103 s0) rfl ?_
  refine zj_istore_n (L' := [some (.inr 107), some (.inr p1), some (.inl p2), some (.inl (h.2 103 6))]) (zdk ttX7_readOperand 3 rfl rfl) (by decide) rfl ?_
  refine zj_aload_n (zdk ttX7_readOperand 4 rfl rfl) rfl (by decide) ?_
  refine zj_getr (r := 103) (zdk ttX7_readOperand 5 rfl rfl) zf_RX7_9 rfl (k_L107 s0) (rf_L107_0 s0) ?_
  refine zj_callV (av := []) (st := []) (zdk ttX7_readOperand 6 rfl rfl) mb_X6_isNumber mv_RX7_88 (ci := 6) rfl rfl (k_L103 s0) rfl rfl (Nat.le_of_ble_eq_true rfl) (s_X6_isNumber l h s0) (rm_ok (by decide) (by decide)) (zq_i fun v4 h5 q3 => ?_)
  obtain ⟨rfl, b7, ⟨rfl, b6⟩ | ⟨rfl, b6⟩⟩ := q3
  · refine zj_if_eq (t := 50) (zdk ttX7_readOperand 7 rfl rfl) (by decide) (by decide) (fun c8 => ?_) (fun c8 => ?_)
    · refine zj_iload_n (zdk ttX7_readOperand 24 rfl rfl) rfl ?_
      refine zj_if_ne (t := 84) (zdk ttX7_readOperand 25 rfl rfl) (by decide) (by omega) (fun c9 => ?_) (fun c9 => ?_)
      · refine zj_aload_n (zdk ttX7_readOperand 40 rfl rfl) rfl (by decide) ?_
        refine zj_getr (r := 103) (zdk ttX7_readOperand 41 rfl rfl) zf_RX7_9 rfl (k_L107 s0) (rf_L107_0 s0) ?_
        refine zj_iconst (zdk ttX7_readOperand 42 rfl rfl) ?_
        refine zj_callV (av := [.inl 1]) (st := []) (zdk ttX7_readOperand 43 rfl rfl) mb_X6_refuse mv_RX7_81 (ci := 6) rfl rfl (k_L103 s0) rfl rfl (Nat.le_of_ble_eq_true rfl) (s_X6_refuse l h 1 s0 (by omega)) (rm_ok (by decide) (by decide)) (zq_i fun v11 h12 q10 => ?_)
        obtain ⟨b13, s14, f15⟩ := q10
        have f16 : zfC (w_X7_readOperand p1) h h12 := zfC_t (zfC_r _ _) f15 (fun a9 b9 z9 => by
          exact (Or.inl (by omega)))
        exact zj_zret rfl (zdk ttX7_readOperand 44 rfl rfl) (Nat.le_refl _) (Nat.le_refl _) (by omega) ⟨v11, rfl, by omega, s14, f16⟩
      · refine zj_aload_n (zdk ttX7_readOperand 26 rfl rfl) rfl (by decide) ?_
        refine zj_getr (r := 103) (zdk ttX7_readOperand 27 rfl rfl) zf_RX7_9 rfl (k_L107 s0) (rf_L107_0 s0) ?_
        refine zj_bipush (zdk ttX7_readOperand 28 rfl rfl) (by decide) ?_
        refine zj_bipush (zdk ttX7_readOperand 29 rfl rfl) (by decide) ?_
        refine zj_callV (av := [.inl 7, .inl 16]) (st := []) (zdk ttX7_readOperand 30 rfl rfl) mb_X6_isWord mv_RX7_60 (ci := 6) rfl rfl (k_L103 s0) rfl rfl (Nat.le_of_ble_eq_true rfl) (s_X6_isWord l h 7 16 s0 (by omega) (by omega)) (rm_ok (by decide) (by decide)) (zq_i fun v18 h19 q17 => ?_)
        obtain ⟨rfl, b21, ⟨rfl, b20⟩ | ⟨rfl, b20⟩⟩ := q17
        · refine zj_if_eq (t := 84) (zdk ttX7_readOperand 31 rfl rfl) (by decide) (by decide) (fun c22 => ?_) (fun c22 => ?_)
          · refine zj_aload_n (zdk ttX7_readOperand 40 rfl rfl) rfl (by decide) ?_
            refine zj_getr (r := 103) (zdk ttX7_readOperand 41 rfl rfl) zf_RX7_9 rfl (k_L107 s0) (rf_L107_0 s0) ?_
            refine zj_iconst (zdk ttX7_readOperand 42 rfl rfl) ?_
            refine zj_callV (av := [.inl 1]) (st := []) (zdk ttX7_readOperand 43 rfl rfl) mb_X6_refuse mv_RX7_81 (ci := 6) rfl rfl (k_L103 s0) rfl rfl (Nat.le_of_ble_eq_true rfl) (s_X6_refuse l h 1 s0 (by omega)) (rm_ok (by decide) (by decide)) (zq_i fun v24 h25 q23 => ?_)
            obtain ⟨b26, s27, f28⟩ := q23
            have f29 : zfC (w_X7_readOperand p1) h h25 := zfC_t (zfC_r _ _) f28 (fun a9 b9 z9 => by
              exact (Or.inl (by omega)))
            exact zj_zret rfl (zdk ttX7_readOperand 44 rfl rfl) (Nat.le_refl _) (Nat.le_refl _) (by omega) ⟨v24, rfl, by omega, s27, f29⟩
          · exact absurd c22 (by omega)
        · refine zj_if_eq (t := 84) (zdk ttX7_readOperand 31 rfl rfl) (by decide) (by decide) (fun c30 => ?_) (fun c30 => ?_)
          · exact absurd c30 (by omega)
          · refine zj_aload_n (zdk ttX7_readOperand 32 rfl rfl) rfl (by omega) ?_
            refine zj_sipush (zdk ttX7_readOperand 33 rfl rfl) (by decide) ?_
            refine zj_iload_n (zdk ttX7_readOperand 34 rfl rfl) rfl ?_
            refine zj_iadd (zdk ttX7_readOperand 35 rfl rfl) ?_
            refine zj_sipush (zdk ttX7_readOperand 36 rfl rfl) (by decide) ?_
            refine zj_isub (zdk ttX7_readOperand 37 rfl rfl) ?_
            refine zj_callV (av := [.inl ((10000 + (h.2 103 6)) - 200)]) (st := []) (zdk ttX7_readOperand 38 rfl rfl) mb_X3_put mv_RX7_77 (ci := 3) rfl rfl (k_3_0 s0 r_p1) rfl rfl (Nat.le_of_ble_eq_true rfl) (s_X3_put l h p1 ((10000 + (h.2 103 6)) - 200) s0 r_p1 (by omega)) (rm_ok (by decide) (by decide)) (zq_v fun h33 q31 => ?_)
            obtain ⟨s35, f36⟩ := q31
            refine zj_goto (t := 93) (zdk ttX7_readOperand 39 rfl rfl) (by decide) ?_
            refine zj_aload_n (zdk ttX7_readOperand 45 rfl rfl) rfl (by decide) ?_
            refine zj_getr (r := 103) (zdk ttX7_readOperand 46 rfl rfl) zf_RX7_9 rfl (k_L107 s35) (rf_L107_0 s35) ?_
            refine zj_callV (av := []) (st := []) (zdk ttX7_readOperand 47 rfl rfl) mb_X6_pass mv_RX7_47 (ci := 6) rfl rfl (k_L103 s35) rfl rfl (Nat.le_of_ble_eq_true rfl) (s_X6_pass l h33 s35) (rm_ok (by decide) (by decide)) (zq_v fun h39 q37 => ?_)
            obtain ⟨s41, f42⟩ := q37
            refine zj_iconst (zdk ttX7_readOperand 48 rfl rfl) ?_
            have f44 : zfC (w_X7_readOperand p1) h h33 := zfC_t (zfC_r _ _) f36 (fun a9 b9 z9 => by
              rcases z9 with z9 | z9
              · exact (Or.inr (Or.inl (by omega)))
              · exact (Or.inr (Or.inr (by omega))))
            have f43 : zfC (w_X7_readOperand p1) h h39 := zfC_t f44 f42 (fun a9 b9 z9 => by
              exact (Or.inl (by omega)))
            exact zj_zret rfl (zdk ttX7_readOperand 49 rfl rfl) (Nat.le_refl _) (Nat.le_refl _) (by omega) ⟨1, rfl, by omega, s41, f43⟩
    · exact absurd c8 (by omega)
  · refine zj_if_eq (t := 50) (zdk ttX7_readOperand 7 rfl rfl) (by decide) (by decide) (fun c45 => ?_) (fun c45 => ?_)
    · exact absurd c45 (by omega)
    · refine zj_iload_n (zdk ttX7_readOperand 8 rfl rfl) rfl ?_
      refine zj_if_eq (t := 38) (zdk ttX7_readOperand 9 rfl rfl) (by decide) (by omega) (fun c46 => ?_) (fun c46 => ?_)
      · refine zj_aload_n (zdk ttX7_readOperand 18 rfl rfl) rfl (by omega) ?_
        refine zj_iload_n (zdk ttX7_readOperand 19 rfl rfl) rfl ?_
        refine zj_sipush (zdk ttX7_readOperand 20 rfl rfl) (by decide) ?_
        refine zj_isub (zdk ttX7_readOperand 21 rfl rfl) ?_
        refine zj_callV (av := [.inl ((h.2 103 6) - 1000)]) (st := []) (zdk ttX7_readOperand 22 rfl rfl) mb_X3_put mv_RX7_77 (ci := 3) rfl rfl (k_3_0 s0 r_p1) rfl rfl (Nat.le_of_ble_eq_true rfl) (s_X3_put l h p1 ((h.2 103 6) - 1000) s0 r_p1 (by omega)) (rm_ok (by decide) (by decide)) (zq_v fun h49 q47 => ?_)
        obtain ⟨s51, f52⟩ := q47
        refine zj_goto (t := 93) (zdk ttX7_readOperand 23 rfl rfl) (by decide) ?_
        refine zj_aload_n (zdk ttX7_readOperand 45 rfl rfl) rfl (by decide) ?_
        refine zj_getr (r := 103) (zdk ttX7_readOperand 46 rfl rfl) zf_RX7_9 rfl (k_L107 s51) (rf_L107_0 s51) ?_
        refine zj_callV (av := []) (st := []) (zdk ttX7_readOperand 47 rfl rfl) mb_X6_pass mv_RX7_47 (ci := 6) rfl rfl (k_L103 s51) rfl rfl (Nat.le_of_ble_eq_true rfl) (s_X6_pass l h49 s51) (rm_ok (by decide) (by decide)) (zq_v fun h55 q53 => ?_)
        obtain ⟨s57, f58⟩ := q53
        refine zj_iconst (zdk ttX7_readOperand 48 rfl rfl) ?_
        have f60 : zfC (w_X7_readOperand p1) h h49 := zfC_t (zfC_r _ _) f52 (fun a9 b9 z9 => by
          rcases z9 with z9 | z9
          · exact (Or.inr (Or.inl (by omega)))
          · exact (Or.inr (Or.inr (by omega))))
        have f59 : zfC (w_X7_readOperand p1) h h55 := zfC_t f60 f58 (fun a9 b9 z9 => by
          exact (Or.inl (by omega)))
        exact zj_zret rfl (zdk ttX7_readOperand 49 rfl rfl) (Nat.le_refl _) (Nat.le_refl _) (by omega) ⟨1, rfl, by omega, s57, f59⟩
      · refine zj_iload_n (zdk ttX7_readOperand 10 rfl rfl) rfl ?_
        refine zj_sipush (zdk ttX7_readOperand 11 rfl rfl) (by decide) ?_
        refine zj_icmp_ne (t := 38) (zdk ttX7_readOperand 12 rfl rfl) (by decide) (by omega) (by decide) (fun c61 => ?_) (fun c61 => ?_)
        · refine zj_aload_n (zdk ttX7_readOperand 18 rfl rfl) rfl (by omega) ?_
          refine zj_iload_n (zdk ttX7_readOperand 19 rfl rfl) rfl ?_
          refine zj_sipush (zdk ttX7_readOperand 20 rfl rfl) (by decide) ?_
          refine zj_isub (zdk ttX7_readOperand 21 rfl rfl) ?_
          refine zj_callV (av := [.inl ((h.2 103 6) - 1000)]) (st := []) (zdk ttX7_readOperand 22 rfl rfl) mb_X3_put mv_RX7_77 (ci := 3) rfl rfl (k_3_0 s0 r_p1) rfl rfl (Nat.le_of_ble_eq_true rfl) (s_X3_put l h p1 ((h.2 103 6) - 1000) s0 r_p1 (by omega)) (rm_ok (by decide) (by decide)) (zq_v fun h64 q62 => ?_)
          obtain ⟨s66, f67⟩ := q62
          refine zj_goto (t := 93) (zdk ttX7_readOperand 23 rfl rfl) (by decide) ?_
          refine zj_aload_n (zdk ttX7_readOperand 45 rfl rfl) rfl (by decide) ?_
          refine zj_getr (r := 103) (zdk ttX7_readOperand 46 rfl rfl) zf_RX7_9 rfl (k_L107 s66) (rf_L107_0 s66) ?_
          refine zj_callV (av := []) (st := []) (zdk ttX7_readOperand 47 rfl rfl) mb_X6_pass mv_RX7_47 (ci := 6) rfl rfl (k_L103 s66) rfl rfl (Nat.le_of_ble_eq_true rfl) (s_X6_pass l h64 s66) (rm_ok (by decide) (by decide)) (zq_v fun h70 q68 => ?_)
          obtain ⟨s72, f73⟩ := q68
          refine zj_iconst (zdk ttX7_readOperand 48 rfl rfl) ?_
          have f75 : zfC (w_X7_readOperand p1) h h64 := zfC_t (zfC_r _ _) f67 (fun a9 b9 z9 => by
            rcases z9 with z9 | z9
            · exact (Or.inr (Or.inl (by omega)))
            · exact (Or.inr (Or.inr (by omega))))
          have f74 : zfC (w_X7_readOperand p1) h h70 := zfC_t f75 f73 (fun a9 b9 z9 => by
            exact (Or.inl (by omega)))
          exact zj_zret rfl (zdk ttX7_readOperand 49 rfl rfl) (Nat.le_refl _) (Nat.le_refl _) (by omega) ⟨1, rfl, by omega, s72, f74⟩
        · refine zj_aload_n (zdk ttX7_readOperand 13 rfl rfl) rfl (by decide) ?_
          refine zj_getr (r := 103) (zdk ttX7_readOperand 14 rfl rfl) zf_RX7_9 rfl (k_L107 s0) (rf_L107_0 s0) ?_
          refine zj_iconst (zdk ttX7_readOperand 15 rfl rfl) ?_
          refine zj_callV (av := [.inl 2]) (st := []) (zdk ttX7_readOperand 16 rfl rfl) mb_X6_refuse mv_RX7_81 (ci := 6) rfl rfl (k_L103 s0) rfl rfl (Nat.le_of_ble_eq_true rfl) (s_X6_refuse l h 2 s0 (by omega)) (rm_ok (by decide) (by decide)) (zq_i fun v77 h78 q76 => ?_)
          obtain ⟨b79, s80, f81⟩ := q76
          have f82 : zfC (w_X7_readOperand p1) h h78 := zfC_t (zfC_r _ _) f81 (fun a9 b9 z9 => by
            exact (Or.inl (by omega)))
          exact zj_zret rfl (zdk ttX7_readOperand 17 rfl rfl) (Nat.le_refl _) (Nat.le_refl _) (by omega) ⟨v77, rfl, by omega, s80, f82⟩

abbrev tX7_readSum : List (Nat × Instr × Nat) := [(0, .aload_n 0, 1), (1, .aload_n 1, 1), (2, .iconst 0, 1), (3, .invokevirtual 84, 3), (6, .ifCond .ne 5, 3), (9, .iconst 0, 1), (10, .ireturn, 1), (11, .iconst 0, 1), (12, .istore_n 2, 1), (13, .iconst 0, 1), (14, .istore_n 3, 1), (15, .iload_n 3, 1), (16, .sipush 400, 3), (19, .if_icmp .ge 128, 3), (22, .aload_n 0, 1), (23, .getfield 9, 3), (26, .getfield 32, 3), (29, .istore 4, 2), (31, .iload 4, 2), (33, .bipush 42, 2), (35, .if_icmp .eq 10, 3), (38, .iload 4, 2), (40, .bipush 47, 2), (42, .if_icmp .ne 7, 3), (45, .iconst 1, 1), (46, .goto 4, 3), (49, .iconst 0, 1), (50, .istore 5, 2), (52, .iload 5, 2), (54, .ifCond .ne 16, 3), (57, .iload_n 2, 1), (58, .ifCond .eq 12, 3), (61, .aload_n 1, 1), (62, .sipush 20000, 3), (65, .iload_n 2, 1), (66, .iadd, 1), (67, .invokevirtual 77, 3), (70, .iload 5, 2), (72, .ifCond .ne 19, 3), (75, .iload 4, 2), (77, .bipush 43, 2), (79, .if_icmp .eq 12, 3), (82, .iload 4, 2), (84, .bipush 45, 2), (86, .if_icmp .eq 5, 3), (89, .iconst 1, 1), (90, .ireturn, 1), (91, .aload_n 0, 1), (92, .getfield 9, 3), (95, .invokevirtual 47, 3), (98, .aload_n 0, 1), (99, .aload_n 1, 1), (100, .iload 4, 2), (102, .bipush 47, 2), (104, .if_icmp .ne 7, 3), (107, .iconst 1, 1), (108, .goto 4, 3), (111, .iconst 0, 1), (112, .invokevirtual 84, 3), (115, .ifCond .ne 5, 3), (118, .iconst 0, 1), (119, .ireturn, 1), (120, .iload 5, 2), (122, .ifCond .eq 16, 3), (125, .aload_n 1, 1), (126, .sipush 20000, 3), (129, .iload 4, 2), (131, .iadd, 1), (132, .invokevirtual 77, 3), (135, .goto 6, 3), (138, .iload 4, 2), (140, .istore_n 2, 1), (141, .iinc 3 1, 3), (144, .goto (-129), 3), (147, .aload_n 0, 1), (148, .getfield 9, 3), (151, .iconst 1, 1), (152, .invokevirtual 81, 3), (155, .ireturn, 1)]
theorem ttX7_readSum : zdt cX7_readSum tX7_readSum = true := by decide +kernel
abbrev w_X7_readSum (p1 a b : Int) : Prop := (a = 103 ∧ 5 ≤ b ∧ b ≤ 8) ∨ (a = p1 ∧ b = 7) ∨ a = p1 + 5
abbrev q_X7_readSum (h : zM) (p1 : Int) : Option zV → zM → Prop := zqi fun v h' => (0 ≤ v ∧ v ≤ 1) ∧ okC h' ∧ zfC (w_X7_readSum p1) h h'
set_option maxRecDepth 100000 in
set_option maxHeartbeats 4000000 in
theorem s_X7_readSum (l : Launch) (h : zM) (p1 : Int) (s0 : okC h) (r_p1 : zLw p1) : zT shC l yX7_readSum cX7_readSum 6 (some .boolean) (rmL 6) 0 0 [.inr 107, .inr p1] h (q_X7_readSum h p1) := by
  refine zT_of (by decide +kernel) (L0 := [some (.inr 107), some (.inr p1), none, none, none, none]) rfl (Nat.le_of_ble_eq_true rfl) ?_
  have b1 := zLw_b r_p1
  refine zj_aload_n (zdk ttX7_readSum 0 rfl rfl) rfl (by decide) ?_
  refine zj_aload_n (zdk ttX7_readSum 1 rfl rfl) rfl (by omega) ?_
  refine zj_iconst (zdk ttX7_readSum 2 rfl rfl) ?_
  refine zj_callV (av := [.inr p1, .inl 0]) (st := []) (zdk ttX7_readSum 3 rfl rfl) mb_X7_readOperand mv_RX7_84 (ci := 7) rfl rfl (k_L107 s0) rfl rfl (Nat.le_of_ble_eq_true rfl) (s_X7_readOperand l h p1 0 s0 r_p1 (by omega)) (rm_ok (by decide) (by decide)) (zq_i fun v3 h4 q2 => ?_)
  obtain ⟨b5, s6, f7⟩ := q2
  refine zj_if_ne (t := 11) (zdk ttX7_readSum 4 rfl rfl) (by decide) (by omega) (fun c8 => ?_) (fun c8 => ?_)
  · refine zj_iconst (zdk ttX7_readSum 7 rfl rfl) ?_
    refine zj_istore_n (L' := [some (.inr 107), some (.inr p1), some (.inl 0), none, none, none]) (zdk ttX7_readSum 8 rfl rfl) (by decide) rfl ?_
    refine zj_iconst (zdk ttX7_readSum 9 rfl rfl) ?_
    refine zj_istore_n (L' := [some (.inr 107), some (.inr p1), some (.inl 0), some (.inl 0), none, none]) (zdk ttX7_readSum 10 rfl rfl) (by decide) rfl ?_
    have lp944 : ∀ (n : Nat) (x9 x10 : Int) (h11 : zM), (0 ≤ x9 ∧ x9 ≤ 45) → (0 ≤ x10 ∧ x10 ≤ 400) → okC h11 → zfC (w_X7_readSum p1) h h11 → (401 - x10).toNat < n → zJ shC l yX7_readSum cX7_readSum 6 (some .boolean) (rmL 6) 0 0 (q_X7_readSum h p1) 0 0 15 [some (.inr 107), some (.inr p1), some (.inl x9), some (.inl x10), none, none] [] h11 := by
      intro n
      induction n with
      | zero => intro x9 x10 h11 b945 b946 s12 f13 m947; exact absurd m947 (Nat.not_lt_zero _)
      | succ n ih948 =>
        intro x9 x10 h11 b945 b946 s12 f13 m947
        refine zj_iload_n (zdk ttX7_readSum 11 rfl rfl) rfl ?_
        refine zj_sipush (zdk ttX7_readSum 12 rfl rfl) (by decide) ?_
        refine zj_icmp_ge (t := 147) (zdk ttX7_readSum 13 rfl rfl) (by decide) (by omega) (by decide) (fun c949 => ?_) (fun c949 => ?_)
        · refine zj_aload_n (zdk ttX7_readSum 74 rfl rfl) rfl (by decide) ?_
          refine zj_getr (r := 103) (zdk ttX7_readSum 75 rfl rfl) zf_RX7_9 rfl (k_L107 s12) (rf_L107_0 s12) ?_
          refine zj_iconst (zdk ttX7_readSum 76 rfl rfl) ?_
          refine zj_callV (av := [.inl 1]) (st := []) (zdk ttX7_readSum 77 rfl rfl) mb_X6_refuse mv_RX7_81 (ci := 6) rfl rfl (k_L103 s12) rfl rfl (Nat.le_of_ble_eq_true rfl) (s_X6_refuse l h11 1 s12 (by omega)) (rm_ok (by decide) (by decide)) (zq_i fun v951 h952 q950 => ?_)
          obtain ⟨b953, s954, f955⟩ := q950
          have f956 : zfC (w_X7_readSum p1) h h952 := zfC_t f13 f955 (fun a9 b9 z9 => by
            exact (Or.inl (by omega)))
          exact zj_zret rfl (zdk ttX7_readSum 78 rfl rfl) (Nat.le_refl _) (Nat.le_refl _) (by omega) ⟨v951, rfl, by omega, s954, f956⟩
        · refine zj_aload_n (zdk ttX7_readSum 14 rfl rfl) rfl (by decide) ?_
          refine zj_getr (r := 103) (zdk ttX7_readSum 15 rfl rfl) zf_RX7_9 rfl (k_L107 s12) (rf_L107_0 s12) ?_
          have b957 : -2147483648 ≤ (h11.2 103 6) ∧ (h11.2 103 6) ≤ 2147483647 := fb_L103_6 s12
          refine zj_geti (v := (h11.2 103 6)) (zdk ttX7_readSum 16 rfl rfl) zf_RX7_32 rfl (k_L103 s12) rfl ?_
          refine zj_istore (L' := [some (.inr 107), some (.inr p1), some (.inl x9), some (.inl x10), some (.inl (h11.2 103 6)), none]) (zdk ttX7_readSum 17 rfl rfl) (by decide) rfl ?_
          refine zj_iload (zdk ttX7_readSum 18 rfl rfl) rfl ?_
          refine zj_bipush (zdk ttX7_readSum 19 rfl rfl) (by decide) ?_
          have j961 : ∀ (y960 : Int), (0 ≤ y960 ∧ y960 ≤ 1) → zJ shC l yX7_readSum cX7_readSum 6 (some .boolean) (rmL 6) 0 0 (q_X7_readSum h p1) 0 0 50 [some (.inr 107), some (.inr p1), some (.inl x9), some (.inl x10), some (.inl (h11.2 103 6)), none] [.inl y960] h11 := by
            intro y960 b962
            refine zj_istore (L' := [some (.inr 107), some (.inr p1), some (.inl x9), some (.inl x10), some (.inl (h11.2 103 6)), some (.inl y960)]) (zdk ttX7_readSum 27 rfl rfl) (by decide) rfl ?_
            refine zj_iload (zdk ttX7_readSum 28 rfl rfl) rfl ?_
            have j974 : ∀ (h971 : zM), okC h971 → zfC (w_X7_readSum p1) h h971 → zJ shC l yX7_readSum cX7_readSum 6 (some .boolean) (rmL 6) 0 0 (q_X7_readSum h p1) 0 0 70 [some (.inr 107), some (.inr p1), some (.inl x9), some (.inl x10), some (.inl (h11.2 103 6)), some (.inl y960)] [] h971 := by
              intro h971 s972 f973
              refine zj_iload (zdk ttX7_readSum 37 rfl rfl) rfl ?_
              refine zj_if_ne (t := 91) (zdk ttX7_readSum 38 rfl rfl) (by decide) (by omega) (fun c975 => ?_) (fun c975 => ?_)
              · refine zj_aload_n (zdk ttX7_readSum 47 rfl rfl) rfl (by decide) ?_
                refine zj_getr (r := 103) (zdk ttX7_readSum 48 rfl rfl) zf_RX7_9 rfl (k_L107 s972) (rf_L107_0 s972) ?_
                refine zj_callV (av := []) (st := []) (zdk ttX7_readSum 49 rfl rfl) mb_X6_pass mv_RX7_47 (ci := 6) rfl rfl (k_L103 s972) rfl rfl (Nat.le_of_ble_eq_true rfl) (s_X6_pass l h971 s972) (rm_ok (by decide) (by decide)) (zq_v fun h978 q976 => ?_)
                obtain ⟨s980, f981⟩ := q976
                refine zj_aload_n (zdk ttX7_readSum 50 rfl rfl) rfl (by decide) ?_
                refine zj_aload_n (zdk ttX7_readSum 51 rfl rfl) rfl (by omega) ?_
                refine zj_iload (zdk ttX7_readSum 52 rfl rfl) rfl ?_
                refine zj_bipush (zdk ttX7_readSum 53 rfl rfl) (by decide) ?_
                have j984 : ∀ (y983 : Int), (0 ≤ y983 ∧ y983 ≤ 1) → zJ shC l yX7_readSum cX7_readSum 6 (some .boolean) (rmL 6) 0 0 (q_X7_readSum h p1) 0 0 112 [some (.inr 107), some (.inr p1), some (.inl x9), some (.inl x10), some (.inl (h11.2 103 6)), some (.inl y960)] [.inl y983, .inr p1, .inr 107] h978 := by
                  intro y983 b985
                  refine zj_callV (av := [.inr p1, .inl y983]) (st := []) (zdk ttX7_readSum 58 rfl rfl) mb_X7_readOperand mv_RX7_84 (ci := 7) rfl rfl (k_L107 s980) rfl rfl (Nat.le_of_ble_eq_true rfl) (s_X7_readOperand l h978 p1 y983 s980 r_p1 (by omega)) (rm_ok (by decide) (by decide)) (zq_i fun v987 h988 q986 => ?_)
                  obtain ⟨b989, s990, f991⟩ := q986
                  refine zj_if_ne (t := 120) (zdk ttX7_readSum 59 rfl rfl) (by decide) (by omega) (fun c992 => ?_) (fun c992 => ?_)
                  · refine zj_iload (zdk ttX7_readSum 62 rfl rfl) rfl ?_
                    refine zj_if_eq (t := 138) (zdk ttX7_readSum 63 rfl rfl) (by decide) (by omega) (fun c993 => ?_) (fun c993 => ?_)
                    · exact absurd c993 (by omega)
                    · refine zj_aload_n (zdk ttX7_readSum 64 rfl rfl) rfl (by omega) ?_
                      refine zj_sipush (zdk ttX7_readSum 65 rfl rfl) (by decide) ?_
                      refine zj_iload (zdk ttX7_readSum 66 rfl rfl) rfl ?_
                      refine zj_iadd (zdk ttX7_readSum 67 rfl rfl) ?_
                      refine zj_wrap ?_
                      have b994 := zwp_in (20000 + (h11.2 103 6))
                      refine zj_callV (av := [.inl (zwp (20000 + (h11.2 103 6)))]) (st := []) (zdk ttX7_readSum 68 rfl rfl) mb_X3_put mv_RX7_77 (ci := 3) rfl rfl (k_3_0 s990 r_p1) rfl rfl (Nat.le_of_ble_eq_true rfl) (s_X3_put l h988 p1 (zwp (20000 + (h11.2 103 6))) s990 r_p1 (by omega)) (rm_ok (by decide) (by decide)) (zq_v fun h997 q995 => ?_)
                      obtain ⟨s999, f1000⟩ := q995
                      refine zj_goto (t := 141) (zdk ttX7_readSum 69 rfl rfl) (by decide) ?_
                      refine zj_iinc (L' := [some (.inr 107), some (.inr p1), some (.inl x9), some (.inl (x10 + 1)), some (.inl (h11.2 103 6)), some (.inl y960)]) (zdk ttX7_readSum 72 rfl rfl) rfl (by decide) rfl ?_
                      refine zj_goto (t := 15) (zdk ttX7_readSum 73 rfl rfl) (by decide) ?_
                      refine zj_kill (k := 4) (L' := [some (.inr 107), some (.inr p1), some (.inl x9), some (.inl (x10 + 1)), none, some (.inl y960)]) rfl ?_
                      refine zj_kill (k := 5) (L' := [some (.inr 107), some (.inr p1), some (.inl x9), some (.inl (x10 + 1)), none, none]) rfl ?_
                      have f1003 : zfC (w_X7_readSum p1) h h978 := zfC_t f973 f981 (fun a9 b9 z9 => by
                        exact (Or.inl (by omega)))
                      have f1002 : zfC (w_X7_readSum p1) h h988 := zfC_t f1003 f991 (fun a9 b9 z9 => by
                        rcases z9 with z9 | z9 | z9
                        · exact (Or.inl z9)
                        · exact (Or.inr (Or.inl (by omega)))
                        · exact (Or.inr (Or.inr (by omega))))
                      have f1001 : zfC (w_X7_readSum p1) h h997 := zfC_t f1002 f1000 (fun a9 b9 z9 => by
                        rcases z9 with z9 | z9
                        · exact (Or.inr (Or.inl (by omega)))
                        · exact (Or.inr (Or.inr (by omega))))
                      exact ih948  x9 (x10 + 1) h997 (by omega) (by omega) s999 f1001 (by omega)
                  · refine zj_iconst (zdk ttX7_readSum 60 rfl rfl) ?_
                    have f1005 : zfC (w_X7_readSum p1) h h978 := zfC_t f973 f981 (fun a9 b9 z9 => by
                      exact (Or.inl (by omega)))
                    have f1004 : zfC (w_X7_readSum p1) h h988 := zfC_t f1005 f991 (fun a9 b9 z9 => by
                      rcases z9 with z9 | z9 | z9
                      · exact (Or.inl z9)
                      · exact (Or.inr (Or.inl (by omega)))
                      · exact (Or.inr (Or.inr (by omega))))
                    exact zj_zret rfl (zdk ttX7_readSum 61 rfl rfl) (Nat.le_refl _) (Nat.le_refl _) (by omega) ⟨0, rfl, by omega, s990, f1004⟩
                refine zj_icmp_ne (t := 111) (zdk ttX7_readSum 54 rfl rfl) (by decide) (by omega) (by decide) (fun c982 => ?_) (fun c982 => ?_)
                · refine zj_iconst (zdk ttX7_readSum 57 rfl rfl) ?_
                  exact j984 0 (by omega)
                · refine zj_iconst (zdk ttX7_readSum 55 rfl rfl) ?_
                  refine zj_goto (t := 112) (zdk ttX7_readSum 56 rfl rfl) (by decide) ?_
                  exact j984 1 (by omega)
              · refine zj_iload (zdk ttX7_readSum 39 rfl rfl) rfl ?_
                refine zj_bipush (zdk ttX7_readSum 40 rfl rfl) (by decide) ?_
                refine zj_icmp_eq (t := 91) (zdk ttX7_readSum 41 rfl rfl) (by decide) (by omega) (by decide) (fun c1006 => ?_) (fun c1006 => ?_)
                · refine zj_aload_n (zdk ttX7_readSum 47 rfl rfl) rfl (by decide) ?_
                  refine zj_getr (r := 103) (zdk ttX7_readSum 48 rfl rfl) zf_RX7_9 rfl (k_L107 s972) (rf_L107_0 s972) ?_
                  refine zj_callV (av := []) (st := []) (zdk ttX7_readSum 49 rfl rfl) mb_X6_pass mv_RX7_47 (ci := 6) rfl rfl (k_L103 s972) rfl rfl (Nat.le_of_ble_eq_true rfl) (s_X6_pass l h971 s972) (rm_ok (by decide) (by decide)) (zq_v fun h1009 q1007 => ?_)
                  obtain ⟨s1011, f1012⟩ := q1007
                  refine zj_aload_n (zdk ttX7_readSum 50 rfl rfl) rfl (by decide) ?_
                  refine zj_aload_n (zdk ttX7_readSum 51 rfl rfl) rfl (by omega) ?_
                  refine zj_iload (zdk ttX7_readSum 52 rfl rfl) rfl ?_
                  refine zj_bipush (zdk ttX7_readSum 53 rfl rfl) (by decide) ?_
                  refine zj_icmp_ne (t := 111) (zdk ttX7_readSum 54 rfl rfl) (by decide) (by omega) (by decide) (fun c1013 => ?_) (fun c1013 => ?_)
                  · refine zj_iconst (zdk ttX7_readSum 57 rfl rfl) ?_
                    refine zj_callV (av := [.inr p1, .inl 0]) (st := []) (zdk ttX7_readSum 58 rfl rfl) mb_X7_readOperand mv_RX7_84 (ci := 7) rfl rfl (k_L107 s1011) rfl rfl (Nat.le_of_ble_eq_true rfl) (s_X7_readOperand l h1009 p1 0 s1011 r_p1 (by omega)) (rm_ok (by decide) (by decide)) (zq_i fun v1015 h1016 q1014 => ?_)
                    obtain ⟨b1017, s1018, f1019⟩ := q1014
                    refine zj_if_ne (t := 120) (zdk ttX7_readSum 59 rfl rfl) (by decide) (by omega) (fun c1020 => ?_) (fun c1020 => ?_)
                    · refine zj_iload (zdk ttX7_readSum 62 rfl rfl) rfl ?_
                      refine zj_if_eq (t := 138) (zdk ttX7_readSum 63 rfl rfl) (by decide) (by omega) (fun c1021 => ?_) (fun c1021 => ?_)
                      · refine zj_iload (zdk ttX7_readSum 70 rfl rfl) rfl ?_
                        refine zj_istore_n (L' := [some (.inr 107), some (.inr p1), some (.inl (h11.2 103 6)), some (.inl x10), some (.inl (h11.2 103 6)), some (.inl y960)]) (zdk ttX7_readSum 71 rfl rfl) (by decide) rfl ?_
                        refine zj_iinc (L' := [some (.inr 107), some (.inr p1), some (.inl (h11.2 103 6)), some (.inl (x10 + 1)), some (.inl (h11.2 103 6)), some (.inl y960)]) (zdk ttX7_readSum 72 rfl rfl) rfl (by decide) rfl ?_
                        refine zj_goto (t := 15) (zdk ttX7_readSum 73 rfl rfl) (by decide) ?_
                        refine zj_kill (k := 4) (L' := [some (.inr 107), some (.inr p1), some (.inl (h11.2 103 6)), some (.inl (x10 + 1)), none, some (.inl y960)]) rfl ?_
                        refine zj_kill (k := 5) (L' := [some (.inr 107), some (.inr p1), some (.inl (h11.2 103 6)), some (.inl (x10 + 1)), none, none]) rfl ?_
                        have f1023 : zfC (w_X7_readSum p1) h h1009 := zfC_t f973 f1012 (fun a9 b9 z9 => by
                          exact (Or.inl (by omega)))
                        have f1022 : zfC (w_X7_readSum p1) h h1016 := zfC_t f1023 f1019 (fun a9 b9 z9 => by
                          rcases z9 with z9 | z9 | z9
                          · exact (Or.inl z9)
                          · exact (Or.inr (Or.inl (by omega)))
                          · exact (Or.inr (Or.inr (by omega))))
                        exact ih948  (h11.2 103 6) (x10 + 1) h1016 (by omega) (by omega) s1018 f1022 (by omega)
                      · exact absurd c1021 (by omega)
                    · refine zj_iconst (zdk ttX7_readSum 60 rfl rfl) ?_
                      have f1025 : zfC (w_X7_readSum p1) h h1009 := zfC_t f973 f1012 (fun a9 b9 z9 => by
                        exact (Or.inl (by omega)))
                      have f1024 : zfC (w_X7_readSum p1) h h1016 := zfC_t f1025 f1019 (fun a9 b9 z9 => by
                        rcases z9 with z9 | z9 | z9
                        · exact (Or.inl z9)
                        · exact (Or.inr (Or.inl (by omega)))
                        · exact (Or.inr (Or.inr (by omega))))
                      exact zj_zret rfl (zdk ttX7_readSum 61 rfl rfl) (Nat.le_refl _) (Nat.le_refl _) (by omega) ⟨0, rfl, by omega, s1018, f1024⟩
                  · exact absurd c1013 (by omega)
                · refine zj_iload (zdk ttX7_readSum 42 rfl rfl) rfl ?_
                  refine zj_bipush (zdk ttX7_readSum 43 rfl rfl) (by decide) ?_
                  refine zj_icmp_eq (t := 91) (zdk ttX7_readSum 44 rfl rfl) (by decide) (by omega) (by decide) (fun c1026 => ?_) (fun c1026 => ?_)
                  · refine zj_aload_n (zdk ttX7_readSum 47 rfl rfl) rfl (by decide) ?_
                    refine zj_getr (r := 103) (zdk ttX7_readSum 48 rfl rfl) zf_RX7_9 rfl (k_L107 s972) (rf_L107_0 s972) ?_
                    refine zj_callV (av := []) (st := []) (zdk ttX7_readSum 49 rfl rfl) mb_X6_pass mv_RX7_47 (ci := 6) rfl rfl (k_L103 s972) rfl rfl (Nat.le_of_ble_eq_true rfl) (s_X6_pass l h971 s972) (rm_ok (by decide) (by decide)) (zq_v fun h1029 q1027 => ?_)
                    obtain ⟨s1031, f1032⟩ := q1027
                    refine zj_aload_n (zdk ttX7_readSum 50 rfl rfl) rfl (by decide) ?_
                    refine zj_aload_n (zdk ttX7_readSum 51 rfl rfl) rfl (by omega) ?_
                    refine zj_iload (zdk ttX7_readSum 52 rfl rfl) rfl ?_
                    refine zj_bipush (zdk ttX7_readSum 53 rfl rfl) (by decide) ?_
                    refine zj_icmp_ne (t := 111) (zdk ttX7_readSum 54 rfl rfl) (by decide) (by omega) (by decide) (fun c1033 => ?_) (fun c1033 => ?_)
                    · refine zj_iconst (zdk ttX7_readSum 57 rfl rfl) ?_
                      refine zj_callV (av := [.inr p1, .inl 0]) (st := []) (zdk ttX7_readSum 58 rfl rfl) mb_X7_readOperand mv_RX7_84 (ci := 7) rfl rfl (k_L107 s1031) rfl rfl (Nat.le_of_ble_eq_true rfl) (s_X7_readOperand l h1029 p1 0 s1031 r_p1 (by omega)) (rm_ok (by decide) (by decide)) (zq_i fun v1035 h1036 q1034 => ?_)
                      obtain ⟨b1037, s1038, f1039⟩ := q1034
                      refine zj_if_ne (t := 120) (zdk ttX7_readSum 59 rfl rfl) (by decide) (by omega) (fun c1040 => ?_) (fun c1040 => ?_)
                      · refine zj_iload (zdk ttX7_readSum 62 rfl rfl) rfl ?_
                        refine zj_if_eq (t := 138) (zdk ttX7_readSum 63 rfl rfl) (by decide) (by omega) (fun c1041 => ?_) (fun c1041 => ?_)
                        · refine zj_iload (zdk ttX7_readSum 70 rfl rfl) rfl ?_
                          refine zj_istore_n (L' := [some (.inr 107), some (.inr p1), some (.inl (h11.2 103 6)), some (.inl x10), some (.inl (h11.2 103 6)), some (.inl y960)]) (zdk ttX7_readSum 71 rfl rfl) (by decide) rfl ?_
                          refine zj_iinc (L' := [some (.inr 107), some (.inr p1), some (.inl (h11.2 103 6)), some (.inl (x10 + 1)), some (.inl (h11.2 103 6)), some (.inl y960)]) (zdk ttX7_readSum 72 rfl rfl) rfl (by decide) rfl ?_
                          refine zj_goto (t := 15) (zdk ttX7_readSum 73 rfl rfl) (by decide) ?_
                          refine zj_kill (k := 4) (L' := [some (.inr 107), some (.inr p1), some (.inl (h11.2 103 6)), some (.inl (x10 + 1)), none, some (.inl y960)]) rfl ?_
                          refine zj_kill (k := 5) (L' := [some (.inr 107), some (.inr p1), some (.inl (h11.2 103 6)), some (.inl (x10 + 1)), none, none]) rfl ?_
                          have f1043 : zfC (w_X7_readSum p1) h h1029 := zfC_t f973 f1032 (fun a9 b9 z9 => by
                            exact (Or.inl (by omega)))
                          have f1042 : zfC (w_X7_readSum p1) h h1036 := zfC_t f1043 f1039 (fun a9 b9 z9 => by
                            rcases z9 with z9 | z9 | z9
                            · exact (Or.inl z9)
                            · exact (Or.inr (Or.inl (by omega)))
                            · exact (Or.inr (Or.inr (by omega))))
                          exact ih948  (h11.2 103 6) (x10 + 1) h1036 (by omega) (by omega) s1038 f1042 (by omega)
                        · exact absurd c1041 (by omega)
                      · refine zj_iconst (zdk ttX7_readSum 60 rfl rfl) ?_
                        have f1045 : zfC (w_X7_readSum p1) h h1029 := zfC_t f973 f1032 (fun a9 b9 z9 => by
                          exact (Or.inl (by omega)))
                        have f1044 : zfC (w_X7_readSum p1) h h1036 := zfC_t f1045 f1039 (fun a9 b9 z9 => by
                          rcases z9 with z9 | z9 | z9
                          · exact (Or.inl z9)
                          · exact (Or.inr (Or.inl (by omega)))
                          · exact (Or.inr (Or.inr (by omega))))
                        exact zj_zret rfl (zdk ttX7_readSum 61 rfl rfl) (Nat.le_refl _) (Nat.le_refl _) (by omega) ⟨0, rfl, by omega, s1038, f1044⟩
                    · exact absurd c1033 (by omega)
                  · refine zj_iconst (zdk ttX7_readSum 45 rfl rfl) ?_
                    exact zj_zret rfl (zdk ttX7_readSum 46 rfl rfl) (Nat.le_refl _) (Nat.le_refl _) (by omega) ⟨1, rfl, by omega, s972, f973⟩
            refine zj_if_ne (t := 70) (zdk ttX7_readSum 29 rfl rfl) (by decide) (by omega) (fun c963 => ?_) (fun c963 => ?_)
            · exact j974 h11 s12 f13
            · refine zj_iload_n (zdk ttX7_readSum 30 rfl rfl) rfl ?_
              refine zj_if_eq (t := 70) (zdk ttX7_readSum 31 rfl rfl) (by decide) (by omega) (fun c1046 => ?_) (fun c1046 => ?_)
              · exact j974 h11 s12 f13
              · refine zj_aload_n (zdk ttX7_readSum 32 rfl rfl) rfl (by omega) ?_
                refine zj_sipush (zdk ttX7_readSum 33 rfl rfl) (by decide) ?_
                refine zj_iload_n (zdk ttX7_readSum 34 rfl rfl) rfl ?_
                refine zj_iadd (zdk ttX7_readSum 35 rfl rfl) ?_
                refine zj_callV (av := [.inl (20000 + x9)]) (st := []) (zdk ttX7_readSum 36 rfl rfl) mb_X3_put mv_RX7_77 (ci := 3) rfl rfl (k_3_0 s12 r_p1) rfl rfl (Nat.le_of_ble_eq_true rfl) (s_X3_put l h11 p1 (20000 + x9) s12 r_p1 (by omega)) (rm_ok (by decide) (by decide)) (zq_v fun h1049 q1047 => ?_)
                obtain ⟨s1051, f1052⟩ := q1047
                have f1053 : zfC (w_X7_readSum p1) h h1049 := zfC_t f13 f1052 (fun a9 b9 z9 => by
                  rcases z9 with z9 | z9
                  · exact (Or.inr (Or.inl (by omega)))
                  · exact (Or.inr (Or.inr (by omega))))
                exact j974 h1049 s1051 f1053
          refine zj_icmp_eq (t := 45) (zdk ttX7_readSum 20 rfl rfl) (by decide) (by omega) (by decide) (fun c958 => ?_) (fun c958 => ?_)
          · refine zj_iconst (zdk ttX7_readSum 24 rfl rfl) ?_
            refine zj_goto (t := 50) (zdk ttX7_readSum 25 rfl rfl) (by decide) ?_
            exact j961 1 (by omega)
          · refine zj_iload (zdk ttX7_readSum 21 rfl rfl) rfl ?_
            refine zj_bipush (zdk ttX7_readSum 22 rfl rfl) (by decide) ?_
            refine zj_icmp_ne (t := 49) (zdk ttX7_readSum 23 rfl rfl) (by decide) (by omega) (by decide) (fun c1054 => ?_) (fun c1054 => ?_)
            · refine zj_iconst (zdk ttX7_readSum 26 rfl rfl) ?_
              exact j961 0 (by omega)
            · refine zj_iconst (zdk ttX7_readSum 24 rfl rfl) ?_
              refine zj_goto (t := 50) (zdk ttX7_readSum 25 rfl rfl) (by decide) ?_
              exact j961 1 (by omega)
    have f1055 : zfC (w_X7_readSum p1) h h4 := zfC_t (zfC_r _ _) f7 (fun a9 b9 z9 => by
      rcases z9 with z9 | z9 | z9
      · exact (Or.inl z9)
      · exact (Or.inr (Or.inl (by omega)))
      · exact (Or.inr (Or.inr (by omega))))
    exact lp944 _ 0 0 h4 (by omega) (by omega) s6 f1055 (Nat.lt_succ_self _)
  · refine zj_iconst (zdk ttX7_readSum 5 rfl rfl) ?_
    have f1056 : zfC (w_X7_readSum p1) h h4 := zfC_t (zfC_r _ _) f7 (fun a9 b9 z9 => by
      rcases z9 with z9 | z9 | z9
      · exact (Or.inl z9)
      · exact (Or.inr (Or.inl (by omega)))
      · exact (Or.inr (Or.inr (by omega))))
    exact zj_zret rfl (zdk ttX7_readSum 6 rfl rfl) (Nat.le_refl _) (Nat.le_refl _) (by omega) ⟨0, rfl, by omega, s6, f1056⟩

abbrev tX7_readSingle : List (Nat × Instr × Nat) := [(0, .aload_n 0, 1), (1, .getfield 9, 3), (4, .bipush 6, 2), (6, .bipush 6, 2), (8, .invokevirtual 60, 3), (11, .istore_n 3, 1), (12, .iload_n 3, 1), (13, .ifCond .ne 15, 3), (16, .aload_n 0, 1), (17, .getfield 9, 3), (20, .getfield 32, 3), (23, .bipush 40, 2), (25, .if_icmp .ne 80, 3), (28, .iload_n 2, 1), (29, .bipush 8, 2), (31, .if_icmp .lt 12, 3), (34, .aload_n 0, 1), (35, .getfield 9, 3), (38, .iconst 3, 1), (39, .invokevirtual 81, 3), (42, .ireturn, 1), (43, .aload_n 0, 1), (44, .getfield 9, 3), (47, .invokevirtual 47, 3), (50, .iload_n 3, 1), (51, .ifCond .ne 32, 3), (54, .aload_n 0, 1), (55, .aload_n 1, 1), (56, .iload_n 2, 1), (57, .iconst 1, 1), (58, .iadd, 1), (59, .invokevirtual 64, 3), (62, .ifCond .eq 19, 3), (65, .aload_n 0, 1), (66, .getfield 9, 3), (69, .bipush 41, 2), (71, .invokevirtual 70, 3), (74, .ifCond .eq 7, 3), (77, .iconst 1, 1), (78, .goto 4, 3), (81, .iconst 0, 1), (82, .ireturn, 1), (83, .aload_n 0, 1), (84, .aload_n 1, 1), (85, .iload_n 2, 1), (86, .iconst 1, 1), (87, .iadd, 1), (88, .invokevirtual 74, 3), (91, .ifCond .ne 5, 3), (94, .iconst 0, 1), (95, .ireturn, 1), (96, .aload_n 1, 1), (97, .sipush 20006, 3), (100, .invokevirtual 77, 3), (103, .iconst 1, 1), (104, .ireturn, 1), (105, .aload_n 0, 1), (106, .aload_n 1, 1), (107, .invokevirtual 53, 3), (110, .ifCond .ne 5, 3), (113, .iconst 0, 1), (114, .ireturn, 1), (115, .aload_n 0, 1), (116, .getfield 9, 3), (119, .getfield 32, 3), (122, .istore 4, 2), (124, .iload 4, 2), (126, .bipush 60, 2), (128, .if_icmp .eq 26, 3), (131, .iload 4, 2), (133, .bipush 61, 2), (135, .if_icmp .eq 19, 3), (138, .iload 4, 2), (140, .bipush 62, 2), (142, .if_icmp .eq 12, 3), (145, .aload_n 0, 1), (146, .getfield 9, 3), (149, .iconst 1, 1), (150, .invokevirtual 81, 3), (153, .ireturn, 1), (154, .aload_n 0, 1), (155, .getfield 9, 3), (158, .invokevirtual 47, 3), (161, .aload_n 0, 1), (162, .aload_n 1, 1), (163, .invokevirtual 53, 3), (166, .ifCond .ne 5, 3), (169, .iconst 0, 1), (170, .ireturn, 1), (171, .aload_n 1, 1), (172, .sipush 20000, 3), (175, .iload 4, 2), (177, .iadd, 1), (178, .invokevirtual 77, 3), (181, .iconst 1, 1), (182, .ireturn, 1)]
theorem ttX7_readSingle : zdt cX7_readSingle tX7_readSingle = true := by decide +kernel
abbrev w_X7_readSingle (p1 a b : Int) : Prop := (a = 103 ∧ 5 ≤ b ∧ b ≤ 8) ∨ (a = p1 ∧ b = 7) ∨ a = p1 + 5
abbrev q_X7_readSingle (h : zM) (p1 p2 : Int) : Option zV → zM → Prop := zqi fun v h' => (0 ≤ v ∧ v ≤ 1) ∧ okC h' ∧ zfC (w_X7_readSingle p1) h h'
abbrev tX7_readChoice : List (Nat × Instr × Nat) := [(0, .aload_n 0, 1), (1, .aload_n 1, 1), (2, .iload_n 2, 1), (3, .invokevirtual 74, 3), (6, .ifCond .ne 5, 3), (9, .iconst 0, 1), (10, .ireturn, 1), (11, .iconst 0, 1), (12, .istore_n 3, 1), (13, .iconst 0, 1), (14, .istore 4, 2), (16, .iload 4, 2), (18, .sipush 400, 3), (21, .if_icmp .ge 90, 3), (24, .aload_n 0, 1), (25, .getfield 9, 3), (28, .iconst 5, 1), (29, .iconst 5, 1), (30, .invokevirtual 60, 3), (33, .istore 5, 2), (35, .iload 5, 2), (37, .ifCond .ne 14, 3), (40, .iload_n 3, 1), (41, .ifCond .eq 10, 3), (44, .aload_n 1, 1), (45, .sipush 20004, 3), (48, .invokevirtual 77, 3), (51, .iload 5, 2), (53, .ifCond .ne 17, 3), (56, .aload_n 0, 1), (57, .getfield 9, 3), (60, .iconst 4, 1), (61, .iconst 4, 1), (62, .invokevirtual 60, 3), (65, .ifCond .ne 5, 3), (68, .iconst 1, 1), (69, .ireturn, 1), (70, .aload_n 0, 1), (71, .getfield 9, 3), (74, .invokevirtual 47, 3), (77, .aload_n 0, 1), (78, .aload_n 1, 1), (79, .iload_n 2, 1), (80, .invokevirtual 74, 3), (83, .ifCond .ne 5, 3), (86, .iconst 0, 1), (87, .ireturn, 1), (88, .iload 5, 2), (90, .ifCond .eq 13, 3), (93, .aload_n 1, 1), (94, .sipush 20005, 3), (97, .invokevirtual 77, 3), (100, .goto 5, 3), (103, .iconst 1, 1), (104, .istore_n 3, 1), (105, .iinc 4 1, 3), (108, .goto (-92), 3), (111, .aload_n 0, 1), (112, .getfield 9, 3), (115, .iconst 1, 1), (116, .invokevirtual 81, 3), (119, .ireturn, 1)]
theorem ttX7_readChoice : zdt cX7_readChoice tX7_readChoice = true := by decide +kernel
abbrev w_X7_readChoice (p1 a b : Int) : Prop := (a = 103 ∧ 5 ≤ b ∧ b ≤ 8) ∨ (a = p1 ∧ b = 7) ∨ a = p1 + 5
abbrev q_X7_readChoice (h : zM) (p1 p2 : Int) : Option zV → zM → Prop := zqi fun v h' => (0 ≤ v ∧ v ≤ 1) ∧ okC h' ∧ zfC (w_X7_readChoice p1) h h'
set_option maxRecDepth 100000 in
set_option maxHeartbeats 8000000 in
theorem s_X7_readSingle_and_X7_readChoice (l : Launch) : ∀ n0 : Nat, (∀ (h : zM) (p1 p2 : Int), (okC h) → (zLw p1) → (0 ≤ p2 ∧ p2 ≤ 8) → (9 - p2).toNat < n0 → zT shC l yX7_readSingle cX7_readSingle 5 (some .boolean) (rmL (8 + 2 * n0 + 0)) 0 0 [.inr 107, .inr p1, .inl p2] h (q_X7_readSingle h p1 p2)) ∧ (∀ (h : zM) (p1 p2 : Int), (okC h) → (zLw p1) → (0 ≤ p2 ∧ p2 ≤ 8) → (9 - p2).toNat < n0 → zT shC l yX7_readChoice cX7_readChoice 6 (some .boolean) (rmL (8 + 2 * n0 + 1)) 0 0 [.inr 107, .inr p1, .inl p2] h (q_X7_readChoice h p1 p2)) := by
  intro n0
  induction n0 with
  | zero => exact ⟨(fun h p1 p2 s0 r_p1 b_p2 hm => absurd hm (Nat.not_lt_zero _)), (fun h p1 p2 s0 r_p1 b_p2 hm => absurd hm (Nat.not_lt_zero _))⟩
  | succ n0 ihr =>
    have hr0 : ∀ (h : zM) (p1 p2 : Int), (okC h) → (zLw p1) → (0 ≤ p2 ∧ p2 ≤ 8) → (9 - p2).toNat < (n0 + 1) → zT shC l yX7_readSingle cX7_readSingle 5 (some .boolean) (rmL (8 + 2 * (n0 + 1) + 0)) 0 0 [.inr 107, .inr p1, .inl p2] h (q_X7_readSingle h p1 p2) := by
      intro h p1 p2 s0 r_p1 b_p2 hm0
      refine zT_of (by decide +kernel) (L0 := [some (.inr 107), some (.inr p1), some (.inl p2), none, none]) rfl (Nat.le_of_ble_eq_true rfl) ?_
      have b1001 := zLw_b r_p1
      refine zj_aload_n (zdk ttX7_readSingle 0 rfl rfl) rfl (by decide) ?_
      refine zj_getr (r := 103) (zdk ttX7_readSingle 1 rfl rfl) zf_RX7_9 rfl (k_L107 s0) (rf_L107_0 s0) ?_
      refine zj_bipush (zdk ttX7_readSingle 2 rfl rfl) (by decide) ?_
      refine zj_bipush (zdk ttX7_readSingle 3 rfl rfl) (by decide) ?_
      refine zj_callV (av := [.inl 6, .inl 6]) (st := []) (zdk ttX7_readSingle 4 rfl rfl) mb_X6_isWord mv_RX7_60 (ci := 6) rfl rfl (k_L103 s0) rfl rfl (Nat.le_of_ble_eq_true rfl) (s_X6_isWord l h 6 6 s0 (by omega) (by omega)) (rm_ok (by omega) (by decide)) (zq_i fun v1003 h1004 q1002 => ?_)
      obtain ⟨rfl, b1006, ⟨rfl, b1005⟩ | ⟨rfl, b1005⟩⟩ := q1002
      · refine zj_istore_n (L' := [some (.inr 107), some (.inr p1), some (.inl p2), some (.inl 0), none]) (zdk ttX7_readSingle 5 rfl rfl) (by decide) rfl ?_
        refine zj_iload_n (zdk ttX7_readSingle 6 rfl rfl) rfl ?_
        refine zj_if_ne (t := 28) (zdk ttX7_readSingle 7 rfl rfl) (by decide) (by decide) (fun c1007 => ?_) (fun c1007 => ?_)
        · exact absurd c1007 (by omega)
        · refine zj_aload_n (zdk ttX7_readSingle 8 rfl rfl) rfl (by decide) ?_
          refine zj_getr (r := 103) (zdk ttX7_readSingle 9 rfl rfl) zf_RX7_9 rfl (k_L107 s0) (rf_L107_0 s0) ?_
          refine zj_geti (v := (h.2 103 6)) (zdk ttX7_readSingle 10 rfl rfl) zf_RX7_32 rfl (k_L103 s0) rfl ?_
          refine zj_bipush (zdk ttX7_readSingle 11 rfl rfl) (by decide) ?_
          refine zj_icmp_ne (t := 105) (zdk ttX7_readSingle 12 rfl rfl) (by decide) (by omega) (by decide) (fun c1008 => ?_) (fun c1008 => ?_)
          · refine zj_aload_n (zdk ttX7_readSingle 56 rfl rfl) rfl (by decide) ?_
            refine zj_aload_n (zdk ttX7_readSingle 57 rfl rfl) rfl (by omega) ?_
            refine zj_callV (av := [.inr p1]) (st := []) (zdk ttX7_readSingle 58 rfl rfl) mb_X7_readSum mv_RX7_53 (ci := 7) rfl rfl (k_L107 s0) rfl rfl (Nat.le_of_ble_eq_true rfl) (s_X7_readSum l h p1 s0 r_p1) (rm_ok (by omega) (by decide)) (zq_i fun v1010 h1011 q1009 => ?_)
            obtain ⟨b1012, s1013, f1014⟩ := q1009
            refine zj_if_ne (t := 115) (zdk ttX7_readSingle 59 rfl rfl) (by decide) (by omega) (fun c1015 => ?_) (fun c1015 => ?_)
            · refine zj_aload_n (zdk ttX7_readSingle 62 rfl rfl) rfl (by decide) ?_
              refine zj_getr (r := 103) (zdk ttX7_readSingle 63 rfl rfl) zf_RX7_9 rfl (k_L107 s1013) (rf_L107_0 s1013) ?_
              have b1016 : -2147483648 ≤ (h1011.2 103 6) ∧ (h1011.2 103 6) ≤ 2147483647 := fb_L103_6 s1013
              refine zj_geti (v := (h1011.2 103 6)) (zdk ttX7_readSingle 64 rfl rfl) zf_RX7_32 rfl (k_L103 s1013) rfl ?_
              refine zj_istore (L' := [some (.inr 107), some (.inr p1), some (.inl p2), some (.inl 0), some (.inl (h1011.2 103 6))]) (zdk ttX7_readSingle 65 rfl rfl) (by decide) rfl ?_
              refine zj_iload (zdk ttX7_readSingle 66 rfl rfl) rfl ?_
              refine zj_bipush (zdk ttX7_readSingle 67 rfl rfl) (by decide) ?_
              refine zj_icmp_eq (t := 154) (zdk ttX7_readSingle 68 rfl rfl) (by decide) (by omega) (by decide) (fun c1017 => ?_) (fun c1017 => ?_)
              · refine zj_aload_n (zdk ttX7_readSingle 80 rfl rfl) rfl (by decide) ?_
                refine zj_getr (r := 103) (zdk ttX7_readSingle 81 rfl rfl) zf_RX7_9 rfl (k_L107 s1013) (rf_L107_0 s1013) ?_
                refine zj_callV (av := []) (st := []) (zdk ttX7_readSingle 82 rfl rfl) mb_X6_pass mv_RX7_47 (ci := 6) rfl rfl (k_L103 s1013) rfl rfl (Nat.le_of_ble_eq_true rfl) (s_X6_pass l h1011 s1013) (rm_ok (by omega) (by decide)) (zq_v fun h1020 q1018 => ?_)
                obtain ⟨s1022, f1023⟩ := q1018
                refine zj_aload_n (zdk ttX7_readSingle 83 rfl rfl) rfl (by decide) ?_
                refine zj_aload_n (zdk ttX7_readSingle 84 rfl rfl) rfl (by omega) ?_
                refine zj_callV (av := [.inr p1]) (st := []) (zdk ttX7_readSingle 85 rfl rfl) mb_X7_readSum mv_RX7_53 (ci := 7) rfl rfl (k_L107 s1022) rfl rfl (Nat.le_of_ble_eq_true rfl) (s_X7_readSum l h1020 p1 s1022 r_p1) (rm_ok (by omega) (by decide)) (zq_i fun v1025 h1026 q1024 => ?_)
                obtain ⟨b1027, s1028, f1029⟩ := q1024
                refine zj_if_ne (t := 171) (zdk ttX7_readSingle 86 rfl rfl) (by decide) (by omega) (fun c1030 => ?_) (fun c1030 => ?_)
                · refine zj_aload_n (zdk ttX7_readSingle 89 rfl rfl) rfl (by omega) ?_
                  refine zj_sipush (zdk ttX7_readSingle 90 rfl rfl) (by decide) ?_
                  refine zj_iload (zdk ttX7_readSingle 91 rfl rfl) rfl ?_
                  refine zj_iadd (zdk ttX7_readSingle 92 rfl rfl) ?_
                  refine zj_callV (av := [.inl (20000 + (h1011.2 103 6))]) (st := []) (zdk ttX7_readSingle 93 rfl rfl) mb_X3_put mv_RX7_77 (ci := 3) rfl rfl (k_3_0 s1028 r_p1) rfl rfl (Nat.le_of_ble_eq_true rfl) (s_X3_put l h1026 p1 (20000 + (h1011.2 103 6)) s1028 r_p1 (by omega)) (rm_ok (by omega) (by decide)) (zq_v fun h1033 q1031 => ?_)
                  obtain ⟨s1035, f1036⟩ := q1031
                  refine zj_iconst (zdk ttX7_readSingle 94 rfl rfl) ?_
                  have f1040 : zfC (w_X7_readSingle p1) h h1011 := zfC_t (zfC_r _ _) f1014 (fun a9 b9 z9 => by
                    rcases z9 with z9 | z9 | z9
                    · exact (Or.inl z9)
                    · exact (Or.inr (Or.inl (by omega)))
                    · exact (Or.inr (Or.inr (by omega))))
                  have f1039 : zfC (w_X7_readSingle p1) h h1020 := zfC_t f1040 f1023 (fun a9 b9 z9 => by
                    exact (Or.inl (by omega)))
                  have f1038 : zfC (w_X7_readSingle p1) h h1026 := zfC_t f1039 f1029 (fun a9 b9 z9 => by
                    rcases z9 with z9 | z9 | z9
                    · exact (Or.inl z9)
                    · exact (Or.inr (Or.inl (by omega)))
                    · exact (Or.inr (Or.inr (by omega))))
                  have f1037 : zfC (w_X7_readSingle p1) h h1033 := zfC_t f1038 f1036 (fun a9 b9 z9 => by
                    rcases z9 with z9 | z9
                    · exact (Or.inr (Or.inl (by omega)))
                    · exact (Or.inr (Or.inr (by omega))))
                  exact zj_zret rfl (zdk ttX7_readSingle 95 rfl rfl) (Nat.le_refl _) (Nat.le_refl _) (by omega) ⟨1, rfl, by omega, s1035, f1037⟩
                · refine zj_iconst (zdk ttX7_readSingle 87 rfl rfl) ?_
                  have f1043 : zfC (w_X7_readSingle p1) h h1011 := zfC_t (zfC_r _ _) f1014 (fun a9 b9 z9 => by
                    rcases z9 with z9 | z9 | z9
                    · exact (Or.inl z9)
                    · exact (Or.inr (Or.inl (by omega)))
                    · exact (Or.inr (Or.inr (by omega))))
                  have f1042 : zfC (w_X7_readSingle p1) h h1020 := zfC_t f1043 f1023 (fun a9 b9 z9 => by
                    exact (Or.inl (by omega)))
                  have f1041 : zfC (w_X7_readSingle p1) h h1026 := zfC_t f1042 f1029 (fun a9 b9 z9 => by
                    rcases z9 with z9 | z9 | z9
                    · exact (Or.inl z9)
                    · exact (Or.inr (Or.inl (by omega)))
                    · exact (Or.inr (Or.inr (by omega))))
                  exact zj_zret rfl (zdk ttX7_readSingle 88 rfl rfl) (Nat.le_refl _) (Nat.le_refl _) (by omega) ⟨0, rfl, by omega, s1028, f1041⟩
              · refine zj_iload (zdk ttX7_readSingle 69 rfl rfl) rfl ?_
                refine zj_bipush (zdk ttX7_readSingle 70 rfl rfl) (by decide) ?_
                refine zj_icmp_eq (t := 154) (zdk ttX7_readSingle 71 rfl rfl) (by decide) (by omega) (by decide) (fun c1044 => ?_) (fun c1044 => ?_)
                · refine zj_aload_n (zdk ttX7_readSingle 80 rfl rfl) rfl (by decide) ?_
                  refine zj_getr (r := 103) (zdk ttX7_readSingle 81 rfl rfl) zf_RX7_9 rfl (k_L107 s1013) (rf_L107_0 s1013) ?_
                  refine zj_callV (av := []) (st := []) (zdk ttX7_readSingle 82 rfl rfl) mb_X6_pass mv_RX7_47 (ci := 6) rfl rfl (k_L103 s1013) rfl rfl (Nat.le_of_ble_eq_true rfl) (s_X6_pass l h1011 s1013) (rm_ok (by omega) (by decide)) (zq_v fun h1047 q1045 => ?_)
                  obtain ⟨s1049, f1050⟩ := q1045
                  refine zj_aload_n (zdk ttX7_readSingle 83 rfl rfl) rfl (by decide) ?_
                  refine zj_aload_n (zdk ttX7_readSingle 84 rfl rfl) rfl (by omega) ?_
                  refine zj_callV (av := [.inr p1]) (st := []) (zdk ttX7_readSingle 85 rfl rfl) mb_X7_readSum mv_RX7_53 (ci := 7) rfl rfl (k_L107 s1049) rfl rfl (Nat.le_of_ble_eq_true rfl) (s_X7_readSum l h1047 p1 s1049 r_p1) (rm_ok (by omega) (by decide)) (zq_i fun v1052 h1053 q1051 => ?_)
                  obtain ⟨b1054, s1055, f1056⟩ := q1051
                  refine zj_if_ne (t := 171) (zdk ttX7_readSingle 86 rfl rfl) (by decide) (by omega) (fun c1057 => ?_) (fun c1057 => ?_)
                  · refine zj_aload_n (zdk ttX7_readSingle 89 rfl rfl) rfl (by omega) ?_
                    refine zj_sipush (zdk ttX7_readSingle 90 rfl rfl) (by decide) ?_
                    refine zj_iload (zdk ttX7_readSingle 91 rfl rfl) rfl ?_
                    refine zj_iadd (zdk ttX7_readSingle 92 rfl rfl) ?_
                    refine zj_callV (av := [.inl (20000 + (h1011.2 103 6))]) (st := []) (zdk ttX7_readSingle 93 rfl rfl) mb_X3_put mv_RX7_77 (ci := 3) rfl rfl (k_3_0 s1055 r_p1) rfl rfl (Nat.le_of_ble_eq_true rfl) (s_X3_put l h1053 p1 (20000 + (h1011.2 103 6)) s1055 r_p1 (by omega)) (rm_ok (by omega) (by decide)) (zq_v fun h1060 q1058 => ?_)
                    obtain ⟨s1062, f1063⟩ := q1058
                    refine zj_iconst (zdk ttX7_readSingle 94 rfl rfl) ?_
                    have f1067 : zfC (w_X7_readSingle p1) h h1011 := zfC_t (zfC_r _ _) f1014 (fun a9 b9 z9 => by
                      rcases z9 with z9 | z9 | z9
                      · exact (Or.inl z9)
                      · exact (Or.inr (Or.inl (by omega)))
                      · exact (Or.inr (Or.inr (by omega))))
                    have f1066 : zfC (w_X7_readSingle p1) h h1047 := zfC_t f1067 f1050 (fun a9 b9 z9 => by
                      exact (Or.inl (by omega)))
                    have f1065 : zfC (w_X7_readSingle p1) h h1053 := zfC_t f1066 f1056 (fun a9 b9 z9 => by
                      rcases z9 with z9 | z9 | z9
                      · exact (Or.inl z9)
                      · exact (Or.inr (Or.inl (by omega)))
                      · exact (Or.inr (Or.inr (by omega))))
                    have f1064 : zfC (w_X7_readSingle p1) h h1060 := zfC_t f1065 f1063 (fun a9 b9 z9 => by
                      rcases z9 with z9 | z9
                      · exact (Or.inr (Or.inl (by omega)))
                      · exact (Or.inr (Or.inr (by omega))))
                    exact zj_zret rfl (zdk ttX7_readSingle 95 rfl rfl) (Nat.le_refl _) (Nat.le_refl _) (by omega) ⟨1, rfl, by omega, s1062, f1064⟩
                  · refine zj_iconst (zdk ttX7_readSingle 87 rfl rfl) ?_
                    have f1070 : zfC (w_X7_readSingle p1) h h1011 := zfC_t (zfC_r _ _) f1014 (fun a9 b9 z9 => by
                      rcases z9 with z9 | z9 | z9
                      · exact (Or.inl z9)
                      · exact (Or.inr (Or.inl (by omega)))
                      · exact (Or.inr (Or.inr (by omega))))
                    have f1069 : zfC (w_X7_readSingle p1) h h1047 := zfC_t f1070 f1050 (fun a9 b9 z9 => by
                      exact (Or.inl (by omega)))
                    have f1068 : zfC (w_X7_readSingle p1) h h1053 := zfC_t f1069 f1056 (fun a9 b9 z9 => by
                      rcases z9 with z9 | z9 | z9
                      · exact (Or.inl z9)
                      · exact (Or.inr (Or.inl (by omega)))
                      · exact (Or.inr (Or.inr (by omega))))
                    exact zj_zret rfl (zdk ttX7_readSingle 88 rfl rfl) (Nat.le_refl _) (Nat.le_refl _) (by omega) ⟨0, rfl, by omega, s1055, f1068⟩
                · refine zj_iload (zdk ttX7_readSingle 72 rfl rfl) rfl ?_
                  refine zj_bipush (zdk ttX7_readSingle 73 rfl rfl) (by decide) ?_
                  refine zj_icmp_eq (t := 154) (zdk ttX7_readSingle 74 rfl rfl) (by decide) (by omega) (by decide) (fun c1071 => ?_) (fun c1071 => ?_)
                  · refine zj_aload_n (zdk ttX7_readSingle 80 rfl rfl) rfl (by decide) ?_
                    refine zj_getr (r := 103) (zdk ttX7_readSingle 81 rfl rfl) zf_RX7_9 rfl (k_L107 s1013) (rf_L107_0 s1013) ?_
                    refine zj_callV (av := []) (st := []) (zdk ttX7_readSingle 82 rfl rfl) mb_X6_pass mv_RX7_47 (ci := 6) rfl rfl (k_L103 s1013) rfl rfl (Nat.le_of_ble_eq_true rfl) (s_X6_pass l h1011 s1013) (rm_ok (by omega) (by decide)) (zq_v fun h1074 q1072 => ?_)
                    obtain ⟨s1076, f1077⟩ := q1072
                    refine zj_aload_n (zdk ttX7_readSingle 83 rfl rfl) rfl (by decide) ?_
                    refine zj_aload_n (zdk ttX7_readSingle 84 rfl rfl) rfl (by omega) ?_
                    refine zj_callV (av := [.inr p1]) (st := []) (zdk ttX7_readSingle 85 rfl rfl) mb_X7_readSum mv_RX7_53 (ci := 7) rfl rfl (k_L107 s1076) rfl rfl (Nat.le_of_ble_eq_true rfl) (s_X7_readSum l h1074 p1 s1076 r_p1) (rm_ok (by omega) (by decide)) (zq_i fun v1079 h1080 q1078 => ?_)
                    obtain ⟨b1081, s1082, f1083⟩ := q1078
                    refine zj_if_ne (t := 171) (zdk ttX7_readSingle 86 rfl rfl) (by decide) (by omega) (fun c1084 => ?_) (fun c1084 => ?_)
                    · refine zj_aload_n (zdk ttX7_readSingle 89 rfl rfl) rfl (by omega) ?_
                      refine zj_sipush (zdk ttX7_readSingle 90 rfl rfl) (by decide) ?_
                      refine zj_iload (zdk ttX7_readSingle 91 rfl rfl) rfl ?_
                      refine zj_iadd (zdk ttX7_readSingle 92 rfl rfl) ?_
                      refine zj_callV (av := [.inl (20000 + (h1011.2 103 6))]) (st := []) (zdk ttX7_readSingle 93 rfl rfl) mb_X3_put mv_RX7_77 (ci := 3) rfl rfl (k_3_0 s1082 r_p1) rfl rfl (Nat.le_of_ble_eq_true rfl) (s_X3_put l h1080 p1 (20000 + (h1011.2 103 6)) s1082 r_p1 (by omega)) (rm_ok (by omega) (by decide)) (zq_v fun h1087 q1085 => ?_)
                      obtain ⟨s1089, f1090⟩ := q1085
                      refine zj_iconst (zdk ttX7_readSingle 94 rfl rfl) ?_
                      have f1094 : zfC (w_X7_readSingle p1) h h1011 := zfC_t (zfC_r _ _) f1014 (fun a9 b9 z9 => by
                        rcases z9 with z9 | z9 | z9
                        · exact (Or.inl z9)
                        · exact (Or.inr (Or.inl (by omega)))
                        · exact (Or.inr (Or.inr (by omega))))
                      have f1093 : zfC (w_X7_readSingle p1) h h1074 := zfC_t f1094 f1077 (fun a9 b9 z9 => by
                        exact (Or.inl (by omega)))
                      have f1092 : zfC (w_X7_readSingle p1) h h1080 := zfC_t f1093 f1083 (fun a9 b9 z9 => by
                        rcases z9 with z9 | z9 | z9
                        · exact (Or.inl z9)
                        · exact (Or.inr (Or.inl (by omega)))
                        · exact (Or.inr (Or.inr (by omega))))
                      have f1091 : zfC (w_X7_readSingle p1) h h1087 := zfC_t f1092 f1090 (fun a9 b9 z9 => by
                        rcases z9 with z9 | z9
                        · exact (Or.inr (Or.inl (by omega)))
                        · exact (Or.inr (Or.inr (by omega))))
                      exact zj_zret rfl (zdk ttX7_readSingle 95 rfl rfl) (Nat.le_refl _) (Nat.le_refl _) (by omega) ⟨1, rfl, by omega, s1089, f1091⟩
                    · refine zj_iconst (zdk ttX7_readSingle 87 rfl rfl) ?_
                      have f1097 : zfC (w_X7_readSingle p1) h h1011 := zfC_t (zfC_r _ _) f1014 (fun a9 b9 z9 => by
                        rcases z9 with z9 | z9 | z9
                        · exact (Or.inl z9)
                        · exact (Or.inr (Or.inl (by omega)))
                        · exact (Or.inr (Or.inr (by omega))))
                      have f1096 : zfC (w_X7_readSingle p1) h h1074 := zfC_t f1097 f1077 (fun a9 b9 z9 => by
                        exact (Or.inl (by omega)))
                      have f1095 : zfC (w_X7_readSingle p1) h h1080 := zfC_t f1096 f1083 (fun a9 b9 z9 => by
                        rcases z9 with z9 | z9 | z9
                        · exact (Or.inl z9)
                        · exact (Or.inr (Or.inl (by omega)))
                        · exact (Or.inr (Or.inr (by omega))))
                      exact zj_zret rfl (zdk ttX7_readSingle 88 rfl rfl) (Nat.le_refl _) (Nat.le_refl _) (by omega) ⟨0, rfl, by omega, s1082, f1095⟩
                  · refine zj_aload_n (zdk ttX7_readSingle 75 rfl rfl) rfl (by decide) ?_
                    refine zj_getr (r := 103) (zdk ttX7_readSingle 76 rfl rfl) zf_RX7_9 rfl (k_L107 s1013) (rf_L107_0 s1013) ?_
                    refine zj_iconst (zdk ttX7_readSingle 77 rfl rfl) ?_
                    refine zj_callV (av := [.inl 1]) (st := []) (zdk ttX7_readSingle 78 rfl rfl) mb_X6_refuse mv_RX7_81 (ci := 6) rfl rfl (k_L103 s1013) rfl rfl (Nat.le_of_ble_eq_true rfl) (s_X6_refuse l h1011 1 s1013 (by omega)) (rm_ok (by omega) (by decide)) (zq_i fun v1099 h1100 q1098 => ?_)
                    obtain ⟨b1101, s1102, f1103⟩ := q1098
                    have f1105 : zfC (w_X7_readSingle p1) h h1011 := zfC_t (zfC_r _ _) f1014 (fun a9 b9 z9 => by
                      rcases z9 with z9 | z9 | z9
                      · exact (Or.inl z9)
                      · exact (Or.inr (Or.inl (by omega)))
                      · exact (Or.inr (Or.inr (by omega))))
                    have f1104 : zfC (w_X7_readSingle p1) h h1100 := zfC_t f1105 f1103 (fun a9 b9 z9 => by
                      exact (Or.inl (by omega)))
                    exact zj_zret rfl (zdk ttX7_readSingle 79 rfl rfl) (Nat.le_refl _) (Nat.le_refl _) (by omega) ⟨v1099, rfl, by omega, s1102, f1104⟩
            · refine zj_iconst (zdk ttX7_readSingle 60 rfl rfl) ?_
              have f1106 : zfC (w_X7_readSingle p1) h h1011 := zfC_t (zfC_r _ _) f1014 (fun a9 b9 z9 => by
                rcases z9 with z9 | z9 | z9
                · exact (Or.inl z9)
                · exact (Or.inr (Or.inl (by omega)))
                · exact (Or.inr (Or.inr (by omega))))
              exact zj_zret rfl (zdk ttX7_readSingle 61 rfl rfl) (Nat.le_refl _) (Nat.le_refl _) (by omega) ⟨0, rfl, by omega, s1013, f1106⟩
          · refine zj_iload_n (zdk ttX7_readSingle 13 rfl rfl) rfl ?_
            refine zj_bipush (zdk ttX7_readSingle 14 rfl rfl) (by decide) ?_
            refine zj_icmp_lt (t := 43) (zdk ttX7_readSingle 15 rfl rfl) (by decide) (by omega) (by decide) (fun c1107 => ?_) (fun c1107 => ?_)
            · refine zj_aload_n (zdk ttX7_readSingle 21 rfl rfl) rfl (by decide) ?_
              refine zj_getr (r := 103) (zdk ttX7_readSingle 22 rfl rfl) zf_RX7_9 rfl (k_L107 s0) (rf_L107_0 s0) ?_
              refine zj_callV (av := []) (st := []) (zdk ttX7_readSingle 23 rfl rfl) mb_X6_pass mv_RX7_47 (ci := 6) rfl rfl (k_L103 s0) rfl rfl (Nat.le_of_ble_eq_true rfl) (s_X6_pass l h s0) (rm_ok (by omega) (by decide)) (zq_v fun h1110 q1108 => ?_)
              obtain ⟨s1112, f1113⟩ := q1108
              refine zj_iload_n (zdk ttX7_readSingle 24 rfl rfl) rfl ?_
              refine zj_if_ne (t := 83) (zdk ttX7_readSingle 25 rfl rfl) (by decide) (by decide) (fun c1114 => ?_) (fun c1114 => ?_)
              · exact absurd c1114 (by omega)
              · refine zj_aload_n (zdk ttX7_readSingle 26 rfl rfl) rfl (by decide) ?_
                refine zj_aload_n (zdk ttX7_readSingle 27 rfl rfl) rfl (by omega) ?_
                refine zj_iload_n (zdk ttX7_readSingle 28 rfl rfl) rfl ?_
                refine zj_iconst (zdk ttX7_readSingle 29 rfl rfl) ?_
                refine zj_iadd (zdk ttX7_readSingle 30 rfl rfl) ?_
                refine zj_callV (av := [.inr p1, .inl (p2 + 1)]) (st := []) (zdk ttX7_readSingle 31 rfl rfl) mb_X7_readChoice mv_RX7_64 (ci := 7) rfl rfl (k_L107 s1112) rfl rfl (Nat.le_of_ble_eq_true rfl) (ihr.2 h1110 p1 (p2 + 1) s1112 r_p1 (by omega) (by omega)) (rm_ok (by omega) (by decide)) (zq_i fun v1116 h1117 q1115 => ?_)
                obtain ⟨b1118, s1119, f1120⟩ := q1115
                refine zj_if_eq (t := 81) (zdk ttX7_readSingle 32 rfl rfl) (by decide) (by omega) (fun c1121 => ?_) (fun c1121 => ?_)
                · refine zj_iconst (zdk ttX7_readSingle 40 rfl rfl) ?_
                  have f1123 : zfC (w_X7_readSingle p1) h h1110 := zfC_t (zfC_r _ _) f1113 (fun a9 b9 z9 => by
                    exact (Or.inl (by omega)))
                  have f1122 : zfC (w_X7_readSingle p1) h h1117 := zfC_t f1123 f1120 (fun a9 b9 z9 => by
                    rcases z9 with z9 | z9 | z9
                    · exact (Or.inl z9)
                    · exact (Or.inr (Or.inl (by omega)))
                    · exact (Or.inr (Or.inr (by omega))))
                  exact zj_zret rfl (zdk ttX7_readSingle 41 rfl rfl) (Nat.le_refl _) (Nat.le_refl _) (by omega) ⟨0, rfl, by omega, s1119, f1122⟩
                · refine zj_aload_n (zdk ttX7_readSingle 33 rfl rfl) rfl (by decide) ?_
                  refine zj_getr (r := 103) (zdk ttX7_readSingle 34 rfl rfl) zf_RX7_9 rfl (k_L107 s1119) (rf_L107_0 s1119) ?_
                  refine zj_bipush (zdk ttX7_readSingle 35 rfl rfl) (by decide) ?_
                  refine zj_callV (av := [.inl 41]) (st := []) (zdk ttX7_readSingle 36 rfl rfl) mb_X6_takes mv_RX7_70 (ci := 6) rfl rfl (k_L103 s1119) rfl rfl (Nat.le_of_ble_eq_true rfl) (s_X6_takes l h1117 41 s1119 (by omega)) (rm_ok (by omega) (by decide)) (zq_i fun v1125 h1126 q1124 => ?_)
                  obtain ⟨b1127, s1128, f1129⟩ := q1124
                  refine zj_if_eq (t := 81) (zdk ttX7_readSingle 37 rfl rfl) (by decide) (by omega) (fun c1130 => ?_) (fun c1130 => ?_)
                  · refine zj_iconst (zdk ttX7_readSingle 40 rfl rfl) ?_
                    have f1133 : zfC (w_X7_readSingle p1) h h1110 := zfC_t (zfC_r _ _) f1113 (fun a9 b9 z9 => by
                      exact (Or.inl (by omega)))
                    have f1132 : zfC (w_X7_readSingle p1) h h1117 := zfC_t f1133 f1120 (fun a9 b9 z9 => by
                      rcases z9 with z9 | z9 | z9
                      · exact (Or.inl z9)
                      · exact (Or.inr (Or.inl (by omega)))
                      · exact (Or.inr (Or.inr (by omega))))
                    have f1131 : zfC (w_X7_readSingle p1) h h1126 := zfC_t f1132 f1129 (fun a9 b9 z9 => by
                      exact (Or.inl z9))
                    exact zj_zret rfl (zdk ttX7_readSingle 41 rfl rfl) (Nat.le_refl _) (Nat.le_refl _) (by omega) ⟨0, rfl, by omega, s1128, f1131⟩
                  · refine zj_iconst (zdk ttX7_readSingle 38 rfl rfl) ?_
                    refine zj_goto (t := 82) (zdk ttX7_readSingle 39 rfl rfl) (by decide) ?_
                    have f1136 : zfC (w_X7_readSingle p1) h h1110 := zfC_t (zfC_r _ _) f1113 (fun a9 b9 z9 => by
                      exact (Or.inl (by omega)))
                    have f1135 : zfC (w_X7_readSingle p1) h h1117 := zfC_t f1136 f1120 (fun a9 b9 z9 => by
                      rcases z9 with z9 | z9 | z9
                      · exact (Or.inl z9)
                      · exact (Or.inr (Or.inl (by omega)))
                      · exact (Or.inr (Or.inr (by omega))))
                    have f1134 : zfC (w_X7_readSingle p1) h h1126 := zfC_t f1135 f1129 (fun a9 b9 z9 => by
                      exact (Or.inl z9))
                    exact zj_zret rfl (zdk ttX7_readSingle 41 rfl rfl) (Nat.le_refl _) (Nat.le_refl _) (by omega) ⟨1, rfl, by omega, s1128, f1134⟩
            · refine zj_aload_n (zdk ttX7_readSingle 16 rfl rfl) rfl (by decide) ?_
              refine zj_getr (r := 103) (zdk ttX7_readSingle 17 rfl rfl) zf_RX7_9 rfl (k_L107 s0) (rf_L107_0 s0) ?_
              refine zj_iconst (zdk ttX7_readSingle 18 rfl rfl) ?_
              refine zj_callV (av := [.inl 3]) (st := []) (zdk ttX7_readSingle 19 rfl rfl) mb_X6_refuse mv_RX7_81 (ci := 6) rfl rfl (k_L103 s0) rfl rfl (Nat.le_of_ble_eq_true rfl) (s_X6_refuse l h 3 s0 (by omega)) (rm_ok (by omega) (by decide)) (zq_i fun v1138 h1139 q1137 => ?_)
              obtain ⟨b1140, s1141, f1142⟩ := q1137
              have f1143 : zfC (w_X7_readSingle p1) h h1139 := zfC_t (zfC_r _ _) f1142 (fun a9 b9 z9 => by
                exact (Or.inl (by omega)))
              exact zj_zret rfl (zdk ttX7_readSingle 20 rfl rfl) (Nat.le_refl _) (Nat.le_refl _) (by omega) ⟨v1138, rfl, by omega, s1141, f1143⟩
      · refine zj_istore_n (L' := [some (.inr 107), some (.inr p1), some (.inl p2), some (.inl 1), none]) (zdk ttX7_readSingle 5 rfl rfl) (by decide) rfl ?_
        refine zj_iload_n (zdk ttX7_readSingle 6 rfl rfl) rfl ?_
        refine zj_if_ne (t := 28) (zdk ttX7_readSingle 7 rfl rfl) (by decide) (by decide) (fun c1144 => ?_) (fun c1144 => ?_)
        · refine zj_iload_n (zdk ttX7_readSingle 13 rfl rfl) rfl ?_
          refine zj_bipush (zdk ttX7_readSingle 14 rfl rfl) (by decide) ?_
          refine zj_icmp_lt (t := 43) (zdk ttX7_readSingle 15 rfl rfl) (by decide) (by omega) (by decide) (fun c1145 => ?_) (fun c1145 => ?_)
          · refine zj_aload_n (zdk ttX7_readSingle 21 rfl rfl) rfl (by decide) ?_
            refine zj_getr (r := 103) (zdk ttX7_readSingle 22 rfl rfl) zf_RX7_9 rfl (k_L107 s0) (rf_L107_0 s0) ?_
            refine zj_callV (av := []) (st := []) (zdk ttX7_readSingle 23 rfl rfl) mb_X6_pass mv_RX7_47 (ci := 6) rfl rfl (k_L103 s0) rfl rfl (Nat.le_of_ble_eq_true rfl) (s_X6_pass l h s0) (rm_ok (by omega) (by decide)) (zq_v fun h1148 q1146 => ?_)
            obtain ⟨s1150, f1151⟩ := q1146
            refine zj_iload_n (zdk ttX7_readSingle 24 rfl rfl) rfl ?_
            refine zj_if_ne (t := 83) (zdk ttX7_readSingle 25 rfl rfl) (by decide) (by decide) (fun c1152 => ?_) (fun c1152 => ?_)
            · refine zj_aload_n (zdk ttX7_readSingle 42 rfl rfl) rfl (by decide) ?_
              refine zj_aload_n (zdk ttX7_readSingle 43 rfl rfl) rfl (by omega) ?_
              refine zj_iload_n (zdk ttX7_readSingle 44 rfl rfl) rfl ?_
              refine zj_iconst (zdk ttX7_readSingle 45 rfl rfl) ?_
              refine zj_iadd (zdk ttX7_readSingle 46 rfl rfl) ?_
              refine zj_callV (av := [.inr p1, .inl (p2 + 1)]) (st := []) (zdk ttX7_readSingle 47 rfl rfl) mb_X7_readSingle mv_RX7_74 (ci := 7) rfl rfl (k_L107 s1150) rfl rfl (Nat.le_of_ble_eq_true rfl) (ihr.1 h1148 p1 (p2 + 1) s1150 r_p1 (by omega) (by omega)) (rm_ok (by omega) (by decide)) (zq_i fun v1154 h1155 q1153 => ?_)
              obtain ⟨b1156, s1157, f1158⟩ := q1153
              refine zj_if_ne (t := 96) (zdk ttX7_readSingle 48 rfl rfl) (by decide) (by omega) (fun c1159 => ?_) (fun c1159 => ?_)
              · refine zj_aload_n (zdk ttX7_readSingle 51 rfl rfl) rfl (by omega) ?_
                refine zj_sipush (zdk ttX7_readSingle 52 rfl rfl) (by decide) ?_
                refine zj_callV (av := [.inl 20006]) (st := []) (zdk ttX7_readSingle 53 rfl rfl) mb_X3_put mv_RX7_77 (ci := 3) rfl rfl (k_3_0 s1157 r_p1) rfl rfl (Nat.le_of_ble_eq_true rfl) (s_X3_put l h1155 p1 20006 s1157 r_p1 (by omega)) (rm_ok (by omega) (by decide)) (zq_v fun h1162 q1160 => ?_)
                obtain ⟨s1164, f1165⟩ := q1160
                refine zj_iconst (zdk ttX7_readSingle 54 rfl rfl) ?_
                have f1168 : zfC (w_X7_readSingle p1) h h1148 := zfC_t (zfC_r _ _) f1151 (fun a9 b9 z9 => by
                  exact (Or.inl (by omega)))
                have f1167 : zfC (w_X7_readSingle p1) h h1155 := zfC_t f1168 f1158 (fun a9 b9 z9 => by
                  rcases z9 with z9 | z9 | z9
                  · exact (Or.inl z9)
                  · exact (Or.inr (Or.inl (by omega)))
                  · exact (Or.inr (Or.inr (by omega))))
                have f1166 : zfC (w_X7_readSingle p1) h h1162 := zfC_t f1167 f1165 (fun a9 b9 z9 => by
                  rcases z9 with z9 | z9
                  · exact (Or.inr (Or.inl (by omega)))
                  · exact (Or.inr (Or.inr (by omega))))
                exact zj_zret rfl (zdk ttX7_readSingle 55 rfl rfl) (Nat.le_refl _) (Nat.le_refl _) (by omega) ⟨1, rfl, by omega, s1164, f1166⟩
              · refine zj_iconst (zdk ttX7_readSingle 49 rfl rfl) ?_
                have f1170 : zfC (w_X7_readSingle p1) h h1148 := zfC_t (zfC_r _ _) f1151 (fun a9 b9 z9 => by
                  exact (Or.inl (by omega)))
                have f1169 : zfC (w_X7_readSingle p1) h h1155 := zfC_t f1170 f1158 (fun a9 b9 z9 => by
                  rcases z9 with z9 | z9 | z9
                  · exact (Or.inl z9)
                  · exact (Or.inr (Or.inl (by omega)))
                  · exact (Or.inr (Or.inr (by omega))))
                exact zj_zret rfl (zdk ttX7_readSingle 50 rfl rfl) (Nat.le_refl _) (Nat.le_refl _) (by omega) ⟨0, rfl, by omega, s1157, f1169⟩
            · exact absurd c1152 (by omega)
          · refine zj_aload_n (zdk ttX7_readSingle 16 rfl rfl) rfl (by decide) ?_
            refine zj_getr (r := 103) (zdk ttX7_readSingle 17 rfl rfl) zf_RX7_9 rfl (k_L107 s0) (rf_L107_0 s0) ?_
            refine zj_iconst (zdk ttX7_readSingle 18 rfl rfl) ?_
            refine zj_callV (av := [.inl 3]) (st := []) (zdk ttX7_readSingle 19 rfl rfl) mb_X6_refuse mv_RX7_81 (ci := 6) rfl rfl (k_L103 s0) rfl rfl (Nat.le_of_ble_eq_true rfl) (s_X6_refuse l h 3 s0 (by omega)) (rm_ok (by omega) (by decide)) (zq_i fun v1172 h1173 q1171 => ?_)
            obtain ⟨b1174, s1175, f1176⟩ := q1171
            have f1177 : zfC (w_X7_readSingle p1) h h1173 := zfC_t (zfC_r _ _) f1176 (fun a9 b9 z9 => by
              exact (Or.inl (by omega)))
            exact zj_zret rfl (zdk ttX7_readSingle 20 rfl rfl) (Nat.le_refl _) (Nat.le_refl _) (by omega) ⟨v1172, rfl, by omega, s1175, f1177⟩
        · exact absurd c1144 (by omega)
    have hr1 : ∀ (h : zM) (p1 p2 : Int), (okC h) → (zLw p1) → (0 ≤ p2 ∧ p2 ≤ 8) → (9 - p2).toNat < (n0 + 1) → zT shC l yX7_readChoice cX7_readChoice 6 (some .boolean) (rmL (8 + 2 * (n0 + 1) + 1)) 0 0 [.inr 107, .inr p1, .inl p2] h (q_X7_readChoice h p1 p2) := by
      intro h p1 p2 s0 r_p1 b_p2 hm0
      refine zT_of (by decide +kernel) (L0 := [some (.inr 107), some (.inr p1), some (.inl p2), none, none, none]) rfl (Nat.le_of_ble_eq_true rfl) ?_
      have b2001 := zLw_b r_p1
      refine zj_aload_n (zdk ttX7_readChoice 0 rfl rfl) rfl (by decide) ?_
      refine zj_aload_n (zdk ttX7_readChoice 1 rfl rfl) rfl (by omega) ?_
      refine zj_iload_n (zdk ttX7_readChoice 2 rfl rfl) rfl ?_
      refine zj_callV (av := [.inr p1, .inl p2]) (st := []) (zdk ttX7_readChoice 3 rfl rfl) mb_X7_readSingle mv_RX7_74 (ci := 7) rfl rfl (k_L107 s0) rfl rfl (Nat.le_of_ble_eq_true rfl) (hr0 h p1 p2 s0 r_p1 (by omega) (by omega)) (rm_ok (by omega) (by decide)) (zq_i fun v2003 h2004 q2002 => ?_)
      obtain ⟨b2005, s2006, f2007⟩ := q2002
      refine zj_if_ne (t := 11) (zdk ttX7_readChoice 4 rfl rfl) (by decide) (by omega) (fun c2008 => ?_) (fun c2008 => ?_)
      · refine zj_iconst (zdk ttX7_readChoice 7 rfl rfl) ?_
        refine zj_istore_n (L' := [some (.inr 107), some (.inr p1), some (.inl p2), some (.inl 0), none, none]) (zdk ttX7_readChoice 8 rfl rfl) (by decide) rfl ?_
        refine zj_iconst (zdk ttX7_readChoice 9 rfl rfl) ?_
        refine zj_istore (L' := [some (.inr 107), some (.inr p1), some (.inl p2), some (.inl 0), some (.inl 0), none]) (zdk ttX7_readChoice 10 rfl rfl) (by decide) rfl ?_
        have lp2801 : ∀ (n : Nat) (x2009 x2010 : Int) (h2011 : zM), (0 ≤ x2009 ∧ x2009 ≤ 1) → (0 ≤ x2010 ∧ x2010 ≤ 400) → okC h2011 → zfC (w_X7_readChoice p1) h h2011 → (401 - x2010).toNat < n → zJ shC l yX7_readChoice cX7_readChoice 6 (some .boolean) (rmL (8 + 2 * (n0 + 1) + 1)) 0 0 (q_X7_readChoice h p1 p2) 0 0 16 [some (.inr 107), some (.inr p1), some (.inl p2), some (.inl x2009), some (.inl x2010), none] [] h2011 := by
          intro n
          induction n with
          | zero => intro x2009 x2010 h2011 b2802 b2803 s2012 f2013 m2804; exact absurd m2804 (Nat.not_lt_zero _)
          | succ n ih2805 =>
            intro x2009 x2010 h2011 b2802 b2803 s2012 f2013 m2804
            refine zj_iload (zdk ttX7_readChoice 11 rfl rfl) rfl ?_
            refine zj_sipush (zdk ttX7_readChoice 12 rfl rfl) (by decide) ?_
            refine zj_icmp_ge (t := 111) (zdk ttX7_readChoice 13 rfl rfl) (by decide) (by omega) (by decide) (fun c2806 => ?_) (fun c2806 => ?_)
            · refine zj_aload_n (zdk ttX7_readChoice 57 rfl rfl) rfl (by decide) ?_
              refine zj_getr (r := 103) (zdk ttX7_readChoice 58 rfl rfl) zf_RX7_9 rfl (k_L107 s2012) (rf_L107_0 s2012) ?_
              refine zj_iconst (zdk ttX7_readChoice 59 rfl rfl) ?_
              refine zj_callV (av := [.inl 1]) (st := []) (zdk ttX7_readChoice 60 rfl rfl) mb_X6_refuse mv_RX7_81 (ci := 6) rfl rfl (k_L103 s2012) rfl rfl (Nat.le_of_ble_eq_true rfl) (s_X6_refuse l h2011 1 s2012 (by omega)) (rm_ok (by omega) (by decide)) (zq_i fun v2808 h2809 q2807 => ?_)
              obtain ⟨b2810, s2811, f2812⟩ := q2807
              have f2813 : zfC (w_X7_readChoice p1) h h2809 := zfC_t f2013 f2812 (fun a9 b9 z9 => by
                exact (Or.inl (by omega)))
              exact zj_zret rfl (zdk ttX7_readChoice 61 rfl rfl) (Nat.le_refl _) (Nat.le_refl _) (by omega) ⟨v2808, rfl, by omega, s2811, f2813⟩
            · refine zj_aload_n (zdk ttX7_readChoice 14 rfl rfl) rfl (by decide) ?_
              refine zj_getr (r := 103) (zdk ttX7_readChoice 15 rfl rfl) zf_RX7_9 rfl (k_L107 s2012) (rf_L107_0 s2012) ?_
              refine zj_iconst (zdk ttX7_readChoice 16 rfl rfl) ?_
              refine zj_iconst (zdk ttX7_readChoice 17 rfl rfl) ?_
              refine zj_callV (av := [.inl 5, .inl 5]) (st := []) (zdk ttX7_readChoice 18 rfl rfl) mb_X6_isWord mv_RX7_60 (ci := 6) rfl rfl (k_L103 s2012) rfl rfl (Nat.le_of_ble_eq_true rfl) (s_X6_isWord l h2011 5 5 s2012 (by omega) (by omega)) (rm_ok (by omega) (by decide)) (zq_i fun v2815 h2816 q2814 => ?_)
              have j2832 : ∀ (x2828 : Int) (h2829 : zM), (0 ≤ x2828 ∧ x2828 ≤ 1) → okC h2829 → zfC (w_X7_readChoice p1) h h2829 → zJ shC l yX7_readChoice cX7_readChoice 6 (some .boolean) (rmL (8 + 2 * (n0 + 1) + 1)) 0 0 (q_X7_readChoice h p1 p2) 0 0 51 [some (.inr 107), some (.inr p1), some (.inl p2), some (.inl x2009), some (.inl x2010), some (.inl x2828)] [] h2829 := by
                intro x2828 h2829 b2833 s2830 f2831
                refine zj_iload (zdk ttX7_readChoice 27 rfl rfl) rfl ?_
                refine zj_if_ne (t := 70) (zdk ttX7_readChoice 28 rfl rfl) (by decide) (by omega) (fun c2834 => ?_) (fun c2834 => ?_)
                · refine zj_aload_n (zdk ttX7_readChoice 37 rfl rfl) rfl (by decide) ?_
                  refine zj_getr (r := 103) (zdk ttX7_readChoice 38 rfl rfl) zf_RX7_9 rfl (k_L107 s2830) (rf_L107_0 s2830) ?_
                  refine zj_callV (av := []) (st := []) (zdk ttX7_readChoice 39 rfl rfl) mb_X6_pass mv_RX7_47 (ci := 6) rfl rfl (k_L103 s2830) rfl rfl (Nat.le_of_ble_eq_true rfl) (s_X6_pass l h2829 s2830) (rm_ok (by omega) (by decide)) (zq_v fun h2837 q2835 => ?_)
                  obtain ⟨s2839, f2840⟩ := q2835
                  refine zj_aload_n (zdk ttX7_readChoice 40 rfl rfl) rfl (by decide) ?_
                  refine zj_aload_n (zdk ttX7_readChoice 41 rfl rfl) rfl (by omega) ?_
                  refine zj_iload_n (zdk ttX7_readChoice 42 rfl rfl) rfl ?_
                  refine zj_callV (av := [.inr p1, .inl p2]) (st := []) (zdk ttX7_readChoice 43 rfl rfl) mb_X7_readSingle mv_RX7_74 (ci := 7) rfl rfl (k_L107 s2839) rfl rfl (Nat.le_of_ble_eq_true rfl) (hr0 h2837 p1 p2 s2839 r_p1 (by omega) (by omega)) (rm_ok (by omega) (by decide)) (zq_i fun v2842 h2843 q2841 => ?_)
                  obtain ⟨b2844, s2845, f2846⟩ := q2841
                  refine zj_if_ne (t := 88) (zdk ttX7_readChoice 44 rfl rfl) (by decide) (by omega) (fun c2847 => ?_) (fun c2847 => ?_)
                  · refine zj_iload (zdk ttX7_readChoice 47 rfl rfl) rfl ?_
                    refine zj_if_eq (t := 103) (zdk ttX7_readChoice 48 rfl rfl) (by decide) (by omega) (fun c2848 => ?_) (fun c2848 => ?_)
                    · exact absurd c2848 (by omega)
                    · refine zj_aload_n (zdk ttX7_readChoice 49 rfl rfl) rfl (by omega) ?_
                      refine zj_sipush (zdk ttX7_readChoice 50 rfl rfl) (by decide) ?_
                      refine zj_callV (av := [.inl 20005]) (st := []) (zdk ttX7_readChoice 51 rfl rfl) mb_X3_put mv_RX7_77 (ci := 3) rfl rfl (k_3_0 s2845 r_p1) rfl rfl (Nat.le_of_ble_eq_true rfl) (s_X3_put l h2843 p1 20005 s2845 r_p1 (by omega)) (rm_ok (by omega) (by decide)) (zq_v fun h2851 q2849 => ?_)
                      obtain ⟨s2853, f2854⟩ := q2849
                      refine zj_goto (t := 105) (zdk ttX7_readChoice 52 rfl rfl) (by decide) ?_
                      refine zj_iinc (L' := [some (.inr 107), some (.inr p1), some (.inl p2), some (.inl x2009), some (.inl (x2010 + 1)), some (.inl x2828)]) (zdk ttX7_readChoice 55 rfl rfl) rfl (by decide) rfl ?_
                      refine zj_goto (t := 16) (zdk ttX7_readChoice 56 rfl rfl) (by decide) ?_
                      refine zj_kill (k := 5) (L' := [some (.inr 107), some (.inr p1), some (.inl p2), some (.inl x2009), some (.inl (x2010 + 1)), none]) rfl ?_
                      have f2857 : zfC (w_X7_readChoice p1) h h2837 := zfC_t f2831 f2840 (fun a9 b9 z9 => by
                        exact (Or.inl (by omega)))
                      have f2856 : zfC (w_X7_readChoice p1) h h2843 := zfC_t f2857 f2846 (fun a9 b9 z9 => by
                        rcases z9 with z9 | z9 | z9
                        · exact (Or.inl z9)
                        · exact (Or.inr (Or.inl (by omega)))
                        · exact (Or.inr (Or.inr (by omega))))
                      have f2855 : zfC (w_X7_readChoice p1) h h2851 := zfC_t f2856 f2854 (fun a9 b9 z9 => by
                        rcases z9 with z9 | z9
                        · exact (Or.inr (Or.inl (by omega)))
                        · exact (Or.inr (Or.inr (by omega))))
                      exact ih2805  x2009 (x2010 + 1) h2851 (by omega) (by omega) s2853 f2855 (by omega)
                  · refine zj_iconst (zdk ttX7_readChoice 45 rfl rfl) ?_
                    have f2859 : zfC (w_X7_readChoice p1) h h2837 := zfC_t f2831 f2840 (fun a9 b9 z9 => by
                      exact (Or.inl (by omega)))
                    have f2858 : zfC (w_X7_readChoice p1) h h2843 := zfC_t f2859 f2846 (fun a9 b9 z9 => by
                      rcases z9 with z9 | z9 | z9
                      · exact (Or.inl z9)
                      · exact (Or.inr (Or.inl (by omega)))
                      · exact (Or.inr (Or.inr (by omega))))
                    exact zj_zret rfl (zdk ttX7_readChoice 46 rfl rfl) (Nat.le_refl _) (Nat.le_refl _) (by omega) ⟨0, rfl, by omega, s2845, f2858⟩
                · refine zj_aload_n (zdk ttX7_readChoice 29 rfl rfl) rfl (by decide) ?_
                  refine zj_getr (r := 103) (zdk ttX7_readChoice 30 rfl rfl) zf_RX7_9 rfl (k_L107 s2830) (rf_L107_0 s2830) ?_
                  refine zj_iconst (zdk ttX7_readChoice 31 rfl rfl) ?_
                  refine zj_iconst (zdk ttX7_readChoice 32 rfl rfl) ?_
                  refine zj_callV (av := [.inl 4, .inl 4]) (st := []) (zdk ttX7_readChoice 33 rfl rfl) mb_X6_isWord mv_RX7_60 (ci := 6) rfl rfl (k_L103 s2830) rfl rfl (Nat.le_of_ble_eq_true rfl) (s_X6_isWord l h2829 4 4 s2830 (by omega) (by omega)) (rm_ok (by omega) (by decide)) (zq_i fun v2861 h2862 q2860 => ?_)
                  obtain ⟨rfl, b2864, ⟨rfl, b2863⟩ | ⟨rfl, b2863⟩⟩ := q2860
                  · refine zj_if_ne (t := 70) (zdk ttX7_readChoice 34 rfl rfl) (by decide) (by decide) (fun c2865 => ?_) (fun c2865 => ?_)
                    · exact absurd c2865 (by omega)
                    · refine zj_iconst (zdk ttX7_readChoice 35 rfl rfl) ?_
                      exact zj_zret rfl (zdk ttX7_readChoice 36 rfl rfl) (Nat.le_refl _) (Nat.le_refl _) (by omega) ⟨1, rfl, by omega, s2830, f2831⟩
                  · refine zj_if_ne (t := 70) (zdk ttX7_readChoice 34 rfl rfl) (by decide) (by decide) (fun c2866 => ?_) (fun c2866 => ?_)
                    · refine zj_aload_n (zdk ttX7_readChoice 37 rfl rfl) rfl (by decide) ?_
                      refine zj_getr (r := 103) (zdk ttX7_readChoice 38 rfl rfl) zf_RX7_9 rfl (k_L107 s2830) (rf_L107_0 s2830) ?_
                      refine zj_callV (av := []) (st := []) (zdk ttX7_readChoice 39 rfl rfl) mb_X6_pass mv_RX7_47 (ci := 6) rfl rfl (k_L103 s2830) rfl rfl (Nat.le_of_ble_eq_true rfl) (s_X6_pass l h2829 s2830) (rm_ok (by omega) (by decide)) (zq_v fun h2869 q2867 => ?_)
                      obtain ⟨s2871, f2872⟩ := q2867
                      refine zj_aload_n (zdk ttX7_readChoice 40 rfl rfl) rfl (by decide) ?_
                      refine zj_aload_n (zdk ttX7_readChoice 41 rfl rfl) rfl (by omega) ?_
                      refine zj_iload_n (zdk ttX7_readChoice 42 rfl rfl) rfl ?_
                      refine zj_callV (av := [.inr p1, .inl p2]) (st := []) (zdk ttX7_readChoice 43 rfl rfl) mb_X7_readSingle mv_RX7_74 (ci := 7) rfl rfl (k_L107 s2871) rfl rfl (Nat.le_of_ble_eq_true rfl) (hr0 h2869 p1 p2 s2871 r_p1 (by omega) (by omega)) (rm_ok (by omega) (by decide)) (zq_i fun v2874 h2875 q2873 => ?_)
                      obtain ⟨b2876, s2877, f2878⟩ := q2873
                      refine zj_if_ne (t := 88) (zdk ttX7_readChoice 44 rfl rfl) (by decide) (by omega) (fun c2879 => ?_) (fun c2879 => ?_)
                      · refine zj_iload (zdk ttX7_readChoice 47 rfl rfl) rfl ?_
                        refine zj_if_eq (t := 103) (zdk ttX7_readChoice 48 rfl rfl) (by decide) (by omega) (fun c2880 => ?_) (fun c2880 => ?_)
                        · refine zj_iconst (zdk ttX7_readChoice 53 rfl rfl) ?_
                          refine zj_istore_n (L' := [some (.inr 107), some (.inr p1), some (.inl p2), some (.inl 1), some (.inl x2010), some (.inl x2828)]) (zdk ttX7_readChoice 54 rfl rfl) (by decide) rfl ?_
                          refine zj_iinc (L' := [some (.inr 107), some (.inr p1), some (.inl p2), some (.inl 1), some (.inl (x2010 + 1)), some (.inl x2828)]) (zdk ttX7_readChoice 55 rfl rfl) rfl (by decide) rfl ?_
                          refine zj_goto (t := 16) (zdk ttX7_readChoice 56 rfl rfl) (by decide) ?_
                          refine zj_kill (k := 5) (L' := [some (.inr 107), some (.inr p1), some (.inl p2), some (.inl 1), some (.inl (x2010 + 1)), none]) rfl ?_
                          have f2882 : zfC (w_X7_readChoice p1) h h2869 := zfC_t f2831 f2872 (fun a9 b9 z9 => by
                            exact (Or.inl (by omega)))
                          have f2881 : zfC (w_X7_readChoice p1) h h2875 := zfC_t f2882 f2878 (fun a9 b9 z9 => by
                            rcases z9 with z9 | z9 | z9
                            · exact (Or.inl z9)
                            · exact (Or.inr (Or.inl (by omega)))
                            · exact (Or.inr (Or.inr (by omega))))
                          exact ih2805  1 (x2010 + 1) h2875 (by omega) (by omega) s2877 f2881 (by omega)
                        · exact absurd c2880 (by omega)
                      · refine zj_iconst (zdk ttX7_readChoice 45 rfl rfl) ?_
                        have f2884 : zfC (w_X7_readChoice p1) h h2869 := zfC_t f2831 f2872 (fun a9 b9 z9 => by
                          exact (Or.inl (by omega)))
                        have f2883 : zfC (w_X7_readChoice p1) h h2875 := zfC_t f2884 f2878 (fun a9 b9 z9 => by
                          rcases z9 with z9 | z9 | z9
                          · exact (Or.inl z9)
                          · exact (Or.inr (Or.inl (by omega)))
                          · exact (Or.inr (Or.inr (by omega))))
                        exact zj_zret rfl (zdk ttX7_readChoice 46 rfl rfl) (Nat.le_refl _) (Nat.le_refl _) (by omega) ⟨0, rfl, by omega, s2877, f2883⟩
                    · exact absurd c2866 (by omega)
              obtain ⟨rfl, b2818, ⟨rfl, b2817⟩ | ⟨rfl, b2817⟩⟩ := q2814
              · refine zj_istore (L' := [some (.inr 107), some (.inr p1), some (.inl p2), some (.inl x2009), some (.inl x2010), some (.inl 0)]) (zdk ttX7_readChoice 19 rfl rfl) (by decide) rfl ?_
                refine zj_iload (zdk ttX7_readChoice 20 rfl rfl) rfl ?_
                refine zj_if_ne (t := 51) (zdk ttX7_readChoice 21 rfl rfl) (by decide) (by decide) (fun c2885 => ?_) (fun c2885 => ?_)
                · exact absurd c2885 (by omega)
                · refine zj_iload_n (zdk ttX7_readChoice 22 rfl rfl) rfl ?_
                  refine zj_if_eq (t := 51) (zdk ttX7_readChoice 23 rfl rfl) (by decide) (by omega) (fun c2886 => ?_) (fun c2886 => ?_)
                  · exact j2832 0 h2011 (by omega) s2012 f2013
                  · refine zj_aload_n (zdk ttX7_readChoice 24 rfl rfl) rfl (by omega) ?_
                    refine zj_sipush (zdk ttX7_readChoice 25 rfl rfl) (by decide) ?_
                    refine zj_callV (av := [.inl 20004]) (st := []) (zdk ttX7_readChoice 26 rfl rfl) mb_X3_put mv_RX7_77 (ci := 3) rfl rfl (k_3_0 s2012 r_p1) rfl rfl (Nat.le_of_ble_eq_true rfl) (s_X3_put l h2011 p1 20004 s2012 r_p1 (by omega)) (rm_ok (by omega) (by decide)) (zq_v fun h2889 q2887 => ?_)
                    obtain ⟨s2891, f2892⟩ := q2887
                    have f2893 : zfC (w_X7_readChoice p1) h h2889 := zfC_t f2013 f2892 (fun a9 b9 z9 => by
                      rcases z9 with z9 | z9
                      · exact (Or.inr (Or.inl (by omega)))
                      · exact (Or.inr (Or.inr (by omega))))
                    exact j2832 0 h2889 (by omega) s2891 f2893
              · refine zj_istore (L' := [some (.inr 107), some (.inr p1), some (.inl p2), some (.inl x2009), some (.inl x2010), some (.inl 1)]) (zdk ttX7_readChoice 19 rfl rfl) (by decide) rfl ?_
                refine zj_iload (zdk ttX7_readChoice 20 rfl rfl) rfl ?_
                refine zj_if_ne (t := 51) (zdk ttX7_readChoice 21 rfl rfl) (by decide) (by decide) (fun c2894 => ?_) (fun c2894 => ?_)
                · exact j2832 1 h2011 (by omega) s2012 f2013
                · exact absurd c2894 (by omega)
        have f2895 : zfC (w_X7_readChoice p1) h h2004 := zfC_t (zfC_r _ _) f2007 (fun a9 b9 z9 => by
          rcases z9 with z9 | z9 | z9
          · exact (Or.inl z9)
          · exact (Or.inr (Or.inl (by omega)))
          · exact (Or.inr (Or.inr (by omega))))
        exact lp2801 _ 0 0 h2004 (by omega) (by omega) s2006 f2895 (Nat.lt_succ_self _)
      · refine zj_iconst (zdk ttX7_readChoice 5 rfl rfl) ?_
        have f2896 : zfC (w_X7_readChoice p1) h h2004 := zfC_t (zfC_r _ _) f2007 (fun a9 b9 z9 => by
          rcases z9 with z9 | z9 | z9
          · exact (Or.inl z9)
          · exact (Or.inr (Or.inl (by omega)))
          · exact (Or.inr (Or.inr (by omega))))
        exact zj_zret rfl (zdk ttX7_readChoice 6 rfl rfl) (Nat.le_refl _) (Nat.le_refl _) (by omega) ⟨0, rfl, by omega, s2006, f2896⟩
    exact ⟨hr0, hr1⟩

abbrev tX7_readLawLine : List (Nat × Instr × Nat) := [(0, .aload_n 1, 1), (1, .getfield 43, 3), (4, .iload_n 2, 1), (5, .aload_n 0, 1), (6, .getfield 9, 3), (9, .getfield 32, 3), (12, .sipush 200, 3), (15, .isub, 1), (16, .iastore, 1), (17, .aload_n 0, 1), (18, .getfield 9, 3), (21, .invokevirtual 47, 3), (24, .aload_n 1, 1), (25, .getfield 50, 3), (28, .iload_n 2, 1), (29, .aload_n 1, 1), (30, .getfield 29, 3), (33, .iastore, 1), (34, .aload_n 0, 1), (35, .aload_n 1, 1), (36, .invokevirtual 53, 3), (39, .ifCond .ne 5, 3), (42, .iconst 0, 1), (43, .ireturn, 1), (44, .aload_n 1, 1), (45, .getfield 57, 3), (48, .iload_n 2, 1), (49, .aload_n 1, 1), (50, .getfield 29, 3), (53, .iastore, 1), (54, .aload_n 0, 1), (55, .getfield 9, 3), (58, .iconst 3, 1), (59, .iconst 3, 1), (60, .invokevirtual 60, 3), (63, .ifCond .eq 21, 3), (66, .aload_n 0, 1), (67, .getfield 9, 3), (70, .invokevirtual 47, 3), (73, .aload_n 0, 1), (74, .aload_n 1, 1), (75, .iconst 0, 1), (76, .invokevirtual 64, 3), (79, .ifCond .ne 5, 3), (82, .iconst 0, 1), (83, .ireturn, 1), (84, .aload_n 1, 1), (85, .getfield 67, 3), (88, .iload_n 2, 1), (89, .aload_n 1, 1), (90, .getfield 29, 3), (93, .iastore, 1), (94, .aload_n 0, 1), (95, .getfield 9, 3), (98, .bipush 59, 2), (100, .invokevirtual 70, 3), (103, .ireturn, 1)]
theorem ttX7_readLawLine : zdt cX7_readLawLine tX7_readLawLine = true := by decide +kernel
abbrev w_X7_readLawLine (p1 a b : Int) : Prop := (a = 103 ∧ 5 ≤ b ∧ b ≤ 8) ∨ (a = p1 ∧ b = 7) ∨ (p1 + 1 ≤ a ∧ a ≤ p1 + 5)
abbrev q_X7_readLawLine (h : zM) (p1 : Int) (p2 : Int) : Option zV → zM → Prop := zqi fun v h' => (0 ≤ v ∧ v ≤ 1) ∧ okC h' ∧ zfC (w_X7_readLawLine p1) h h'
set_option maxRecDepth 100000 in
set_option maxHeartbeats 4000000 in
theorem s_X7_readLawLine (l : Launch) (h : zM) (p1 : Int) (p2 : Int) (s0 : okC h) (r_p1 : zLw p1) (b_p2 : 0 ≤ p2 ∧ p2 ≤ 15) : zT shC l yX7_readLawLine cX7_readLawLine 3 (some .boolean) (rmL 31) 0 0 [.inr 107, .inr p1, .inl p2] h (q_X7_readLawLine h p1 p2) := by
  refine zT_of (by decide +kernel) (L0 := [some (.inr 107), some (.inr p1), some (.inl p2)]) rfl (Nat.le_of_ble_eq_true rfl) ?_
  have b1 := zLw_b r_p1
  refine zj_aload_n (zdk ttX7_readLawLine 0 rfl rfl) rfl (by omega) ?_
  refine zj_getr (r := (p1 + 1)) (zdk ttX7_readLawLine 1 rfl rfl) zf_RX7_43 rfl (k_3_0 s0 r_p1) (rf_3_0_0 s0 r_p1) ?_
  refine zj_iload_n (zdk ttX7_readLawLine 2 rfl rfl) rfl ?_
  refine zj_aload_n (zdk ttX7_readLawLine 3 rfl rfl) rfl (by decide) ?_
  refine zj_getr (r := 103) (zdk ttX7_readLawLine 4 rfl rfl) zf_RX7_9 rfl (k_L107 s0) (rf_L107_0 s0) ?_
  have b2 : -2147483648 ≤ (h.2 103 6) ∧ (h.2 103 6) ≤ 2147483647 := fb_L103_6 s0
  refine zj_geti (v := (h.2 103 6)) (zdk ttX7_readLawLine 5 rfl rfl) zf_RX7_32 rfl (k_L103 s0) rfl ?_
  refine zj_sipush (zdk ttX7_readLawLine 6 rfl rfl) (by decide) ?_
  refine zj_isub (zdk ttX7_readLawLine 7 rfl rfl) ?_
  refine zj_wrap ?_
  have b3 := zwp_in ((h.2 103 6) - 200)
  refine zj_iast (zdk ttX7_readLawLine 8 rfl rfl) (ka_3_0_0 s0 r_p1) (by decide) (by omega) (fun h4 e5 => ?_)
  refine zj_aload_n (zdk ttX7_readLawLine 9 rfl rfl) rfl (by decide) ?_
  have s6 : okC h4 := aw_3_0_0 s0 r_p1 e5 (by omega)
  refine zj_getr (r := 103) (zdk ttX7_readLawLine 10 rfl rfl) zf_RX7_9 rfl (k_L107 s6) (rf_L107_0 s6) ?_
  refine zj_callV (av := []) (st := []) (zdk ttX7_readLawLine 11 rfl rfl) mb_X6_pass mv_RX7_47 (ci := 6) rfl rfl (k_L103 s6) rfl rfl (Nat.le_of_ble_eq_true rfl) (s_X6_pass l h4 s6) (rm_ok (by decide) (by decide)) (zq_v fun h9 q7 => ?_)
  obtain ⟨s11, f12⟩ := q7
  refine zj_aload_n (zdk ttX7_readLawLine 12 rfl rfl) rfl (by omega) ?_
  refine zj_getr (r := (p1 + 2)) (zdk ttX7_readLawLine 13 rfl rfl) zf_RX7_50 rfl (k_3_0 s11 r_p1) (rf_3_0_1 s11 r_p1) ?_
  refine zj_iload_n (zdk ttX7_readLawLine 14 rfl rfl) rfl ?_
  refine zj_aload_n (zdk ttX7_readLawLine 15 rfl rfl) rfl (by omega) ?_
  have b13 : 0 ≤ (h.2 p1 7) ∧ (h.2 p1 7) ≤ 400 := fb_3_0_7 s0 r_p1
  refine zj_geti (v := (h.2 p1 7)) (zdk ttX7_readLawLine 16 rfl rfl) zf_RX7_29 rfl (k_3_0 s11 r_p1) ((zfC_a f12 (fun z9 => by unfold w_X6_pass at z9; first | (revert z9; decide) | omega)).trans (zwr_r e5 (by first | decide | exact (absurd ·.1 (by decide)) | exact (absurd ·.2 (by decide)) | omega))) ?_
  refine zj_iast (zdk ttX7_readLawLine 17 rfl rfl) (ka_3_0_1 s11 r_p1) (by decide) (by omega) (fun h14 e15 => ?_)
  refine zj_aload_n (zdk ttX7_readLawLine 18 rfl rfl) rfl (by decide) ?_
  refine zj_aload_n (zdk ttX7_readLawLine 19 rfl rfl) rfl (by omega) ?_
  have s16 : okC h14 := aw_3_0_1 s11 r_p1 e15 (by omega)
  refine zj_callV (av := [.inr p1]) (st := []) (zdk ttX7_readLawLine 20 rfl rfl) mb_X7_readSum mv_RX7_53 (ci := 7) rfl rfl (k_L107 s16) rfl rfl (Nat.le_of_ble_eq_true rfl) (s_X7_readSum l h14 p1 s16 r_p1) (rm_ok (by decide) (by decide)) (zq_i fun v18 h19 q17 => ?_)
  obtain ⟨b20, s21, f22⟩ := q17
  refine zj_if_ne (t := 44) (zdk ttX7_readLawLine 21 rfl rfl) (by decide) (by omega) (fun c23 => ?_) (fun c23 => ?_)
  · refine zj_aload_n (zdk ttX7_readLawLine 24 rfl rfl) rfl (by omega) ?_
    refine zj_getr (r := (p1 + 3)) (zdk ttX7_readLawLine 25 rfl rfl) zf_RX7_57 rfl (k_3_0 s21 r_p1) (rf_3_0_2 s21 r_p1) ?_
    refine zj_iload_n (zdk ttX7_readLawLine 26 rfl rfl) rfl ?_
    refine zj_aload_n (zdk ttX7_readLawLine 27 rfl rfl) rfl (by omega) ?_
    have b24 : 0 ≤ (h19.2 p1 7) ∧ (h19.2 p1 7) ≤ 400 := fb_3_0_7 s21 r_p1
    refine zj_geti (v := (h19.2 p1 7)) (zdk ttX7_readLawLine 28 rfl rfl) zf_RX7_29 rfl (k_3_0 s21 r_p1) rfl ?_
    refine zj_iast (zdk ttX7_readLawLine 29 rfl rfl) (ka_3_0_2 s21 r_p1) (by decide) (by omega) (fun h25 e26 => ?_)
    refine zj_aload_n (zdk ttX7_readLawLine 30 rfl rfl) rfl (by decide) ?_
    have s27 : okC h25 := aw_3_0_2 s21 r_p1 e26 (by omega)
    refine zj_getr (r := 103) (zdk ttX7_readLawLine 31 rfl rfl) zf_RX7_9 rfl (k_L107 s27) (rf_L107_0 s27) ?_
    refine zj_iconst (zdk ttX7_readLawLine 32 rfl rfl) ?_
    refine zj_iconst (zdk ttX7_readLawLine 33 rfl rfl) ?_
    refine zj_callV (av := [.inl 3, .inl 3]) (st := []) (zdk ttX7_readLawLine 34 rfl rfl) mb_X6_isWord mv_RX7_60 (ci := 6) rfl rfl (k_L103 s27) rfl rfl (Nat.le_of_ble_eq_true rfl) (s_X6_isWord l h25 3 3 s27 (by omega) (by omega)) (rm_ok (by decide) (by decide)) (zq_i fun v29 h30 q28 => ?_)
    obtain ⟨rfl, b32, ⟨rfl, b31⟩ | ⟨rfl, b31⟩⟩ := q28
    · refine zj_if_eq (t := 84) (zdk ttX7_readLawLine 35 rfl rfl) (by decide) (by decide) (fun c33 => ?_) (fun c33 => ?_)
      · refine zj_aload_n (zdk ttX7_readLawLine 46 rfl rfl) rfl (by omega) ?_
        refine zj_getr (r := (p1 + 4)) (zdk ttX7_readLawLine 47 rfl rfl) zf_RX7_67 rfl (k_3_0 s27 r_p1) (rf_3_0_3 s27 r_p1) ?_
        refine zj_iload_n (zdk ttX7_readLawLine 48 rfl rfl) rfl ?_
        refine zj_aload_n (zdk ttX7_readLawLine 49 rfl rfl) rfl (by omega) ?_
        refine zj_geti (v := (h19.2 p1 7)) (zdk ttX7_readLawLine 50 rfl rfl) zf_RX7_29 rfl (k_3_0 s27 r_p1) (zwr_r e26 (by first | decide | exact (absurd ·.1 (by decide)) | exact (absurd ·.2 (by decide)) | omega)) ?_
        refine zj_iast (zdk ttX7_readLawLine 51 rfl rfl) (ka_3_0_3 s27 r_p1) (by decide) (by omega) (fun h34 e35 => ?_)
        refine zj_aload_n (zdk ttX7_readLawLine 52 rfl rfl) rfl (by decide) ?_
        have s36 : okC h34 := aw_3_0_3 s27 r_p1 e35 (by omega)
        refine zj_getr (r := 103) (zdk ttX7_readLawLine 53 rfl rfl) zf_RX7_9 rfl (k_L107 s36) (rf_L107_0 s36) ?_
        refine zj_bipush (zdk ttX7_readLawLine 54 rfl rfl) (by decide) ?_
        refine zj_callV (av := [.inl 59]) (st := []) (zdk ttX7_readLawLine 55 rfl rfl) mb_X6_takes mv_RX7_70 (ci := 6) rfl rfl (k_L103 s36) rfl rfl (Nat.le_of_ble_eq_true rfl) (s_X6_takes l h34 59 s36 (by omega)) (rm_ok (by decide) (by decide)) (zq_i fun v38 h39 q37 => ?_)
        obtain ⟨b40, s41, f42⟩ := q37
        have f49 : zfC (w_X7_readLawLine p1) h h4 := zfC_w (zfC_r _ _) e5 (Or.inr (Or.inr (by omega)))
        have f48 : zfC (w_X7_readLawLine p1) h h9 := zfC_t f49 f12 (fun a9 b9 z9 => by
          exact (Or.inl (by omega)))
        have f47 : zfC (w_X7_readLawLine p1) h h14 := zfC_w f48 e15 (Or.inr (Or.inr (by omega)))
        have f46 : zfC (w_X7_readLawLine p1) h h19 := zfC_t f47 f22 (fun a9 b9 z9 => by
          rcases z9 with z9 | z9 | z9
          · exact (Or.inl z9)
          · exact (Or.inr (Or.inl (by omega)))
          · exact (Or.inr (Or.inr (by omega))))
        have f45 : zfC (w_X7_readLawLine p1) h h25 := zfC_w f46 e26 (Or.inr (Or.inr (by omega)))
        have f44 : zfC (w_X7_readLawLine p1) h h34 := zfC_w f45 e35 (Or.inr (Or.inr (by omega)))
        have f43 : zfC (w_X7_readLawLine p1) h h39 := zfC_t f44 f42 (fun a9 b9 z9 => by
          exact (Or.inl z9))
        exact zj_zret rfl (zdk ttX7_readLawLine 56 rfl rfl) (Nat.le_refl _) (Nat.le_refl _) (by omega) ⟨v38, rfl, by omega, s41, f43⟩
      · exact absurd c33 (by omega)
    · refine zj_if_eq (t := 84) (zdk ttX7_readLawLine 35 rfl rfl) (by decide) (by decide) (fun c50 => ?_) (fun c50 => ?_)
      · exact absurd c50 (by omega)
      · refine zj_aload_n (zdk ttX7_readLawLine 36 rfl rfl) rfl (by decide) ?_
        refine zj_getr (r := 103) (zdk ttX7_readLawLine 37 rfl rfl) zf_RX7_9 rfl (k_L107 s27) (rf_L107_0 s27) ?_
        refine zj_callV (av := []) (st := []) (zdk ttX7_readLawLine 38 rfl rfl) mb_X6_pass mv_RX7_47 (ci := 6) rfl rfl (k_L103 s27) rfl rfl (Nat.le_of_ble_eq_true rfl) (s_X6_pass l h25 s27) (rm_ok (by decide) (by decide)) (zq_v fun h53 q51 => ?_)
        obtain ⟨s55, f56⟩ := q51
        refine zj_aload_n (zdk ttX7_readLawLine 39 rfl rfl) rfl (by decide) ?_
        refine zj_aload_n (zdk ttX7_readLawLine 40 rfl rfl) rfl (by omega) ?_
        refine zj_iconst (zdk ttX7_readLawLine 41 rfl rfl) ?_
        refine zj_callV (av := [.inr p1, .inl 0]) (st := []) (zdk ttX7_readLawLine 42 rfl rfl) mb_X7_readChoice mv_RX7_64 (ci := 7) rfl rfl (k_L107 s55) rfl rfl (Nat.le_of_ble_eq_true rfl) ((s_X7_readSingle_and_X7_readChoice l 10).2 h53 p1 0 s55 r_p1 (by omega) (by omega)) (rm_ok (by decide) (by decide)) (zq_i fun v58 h59 q57 => ?_)
        obtain ⟨b60, s61, f62⟩ := q57
        refine zj_if_ne (t := 84) (zdk ttX7_readLawLine 43 rfl rfl) (by decide) (by omega) (fun c63 => ?_) (fun c63 => ?_)
        · refine zj_aload_n (zdk ttX7_readLawLine 46 rfl rfl) rfl (by omega) ?_
          refine zj_getr (r := (p1 + 4)) (zdk ttX7_readLawLine 47 rfl rfl) zf_RX7_67 rfl (k_3_0 s61 r_p1) (rf_3_0_3 s61 r_p1) ?_
          refine zj_iload_n (zdk ttX7_readLawLine 48 rfl rfl) rfl ?_
          refine zj_aload_n (zdk ttX7_readLawLine 49 rfl rfl) rfl (by omega) ?_
          have b64 : 0 ≤ (h59.2 p1 7) ∧ (h59.2 p1 7) ≤ 400 := fb_3_0_7 s61 r_p1
          refine zj_geti (v := (h59.2 p1 7)) (zdk ttX7_readLawLine 50 rfl rfl) zf_RX7_29 rfl (k_3_0 s61 r_p1) rfl ?_
          refine zj_iast (zdk ttX7_readLawLine 51 rfl rfl) (ka_3_0_3 s61 r_p1) (by decide) (by omega) (fun h65 e66 => ?_)
          refine zj_aload_n (zdk ttX7_readLawLine 52 rfl rfl) rfl (by decide) ?_
          have s67 : okC h65 := aw_3_0_3 s61 r_p1 e66 (by omega)
          refine zj_getr (r := 103) (zdk ttX7_readLawLine 53 rfl rfl) zf_RX7_9 rfl (k_L107 s67) (rf_L107_0 s67) ?_
          refine zj_bipush (zdk ttX7_readLawLine 54 rfl rfl) (by decide) ?_
          refine zj_callV (av := [.inl 59]) (st := []) (zdk ttX7_readLawLine 55 rfl rfl) mb_X6_takes mv_RX7_70 (ci := 6) rfl rfl (k_L103 s67) rfl rfl (Nat.le_of_ble_eq_true rfl) (s_X6_takes l h65 59 s67 (by omega)) (rm_ok (by decide) (by decide)) (zq_i fun v69 h70 q68 => ?_)
          obtain ⟨b71, s72, f73⟩ := q68
          have f82 : zfC (w_X7_readLawLine p1) h h4 := zfC_w (zfC_r _ _) e5 (Or.inr (Or.inr (by omega)))
          have f81 : zfC (w_X7_readLawLine p1) h h9 := zfC_t f82 f12 (fun a9 b9 z9 => by
            exact (Or.inl (by omega)))
          have f80 : zfC (w_X7_readLawLine p1) h h14 := zfC_w f81 e15 (Or.inr (Or.inr (by omega)))
          have f79 : zfC (w_X7_readLawLine p1) h h19 := zfC_t f80 f22 (fun a9 b9 z9 => by
            rcases z9 with z9 | z9 | z9
            · exact (Or.inl z9)
            · exact (Or.inr (Or.inl (by omega)))
            · exact (Or.inr (Or.inr (by omega))))
          have f78 : zfC (w_X7_readLawLine p1) h h25 := zfC_w f79 e26 (Or.inr (Or.inr (by omega)))
          have f77 : zfC (w_X7_readLawLine p1) h h53 := zfC_t f78 f56 (fun a9 b9 z9 => by
            exact (Or.inl (by omega)))
          have f76 : zfC (w_X7_readLawLine p1) h h59 := zfC_t f77 f62 (fun a9 b9 z9 => by
            rcases z9 with z9 | z9 | z9
            · exact (Or.inl z9)
            · exact (Or.inr (Or.inl (by omega)))
            · exact (Or.inr (Or.inr (by omega))))
          have f75 : zfC (w_X7_readLawLine p1) h h65 := zfC_w f76 e66 (Or.inr (Or.inr (by omega)))
          have f74 : zfC (w_X7_readLawLine p1) h h70 := zfC_t f75 f73 (fun a9 b9 z9 => by
            exact (Or.inl z9))
          exact zj_zret rfl (zdk ttX7_readLawLine 56 rfl rfl) (Nat.le_refl _) (Nat.le_refl _) (by omega) ⟨v69, rfl, by omega, s72, f74⟩
        · refine zj_iconst (zdk ttX7_readLawLine 44 rfl rfl) ?_
          have f89 : zfC (w_X7_readLawLine p1) h h4 := zfC_w (zfC_r _ _) e5 (Or.inr (Or.inr (by omega)))
          have f88 : zfC (w_X7_readLawLine p1) h h9 := zfC_t f89 f12 (fun a9 b9 z9 => by
            exact (Or.inl (by omega)))
          have f87 : zfC (w_X7_readLawLine p1) h h14 := zfC_w f88 e15 (Or.inr (Or.inr (by omega)))
          have f86 : zfC (w_X7_readLawLine p1) h h19 := zfC_t f87 f22 (fun a9 b9 z9 => by
            rcases z9 with z9 | z9 | z9
            · exact (Or.inl z9)
            · exact (Or.inr (Or.inl (by omega)))
            · exact (Or.inr (Or.inr (by omega))))
          have f85 : zfC (w_X7_readLawLine p1) h h25 := zfC_w f86 e26 (Or.inr (Or.inr (by omega)))
          have f84 : zfC (w_X7_readLawLine p1) h h53 := zfC_t f85 f56 (fun a9 b9 z9 => by
            exact (Or.inl (by omega)))
          have f83 : zfC (w_X7_readLawLine p1) h h59 := zfC_t f84 f62 (fun a9 b9 z9 => by
            rcases z9 with z9 | z9 | z9
            · exact (Or.inl z9)
            · exact (Or.inr (Or.inl (by omega)))
            · exact (Or.inr (Or.inr (by omega))))
          exact zj_zret rfl (zdk ttX7_readLawLine 45 rfl rfl) (Nat.le_refl _) (Nat.le_refl _) (by omega) ⟨0, rfl, by omega, s61, f83⟩
  · refine zj_iconst (zdk ttX7_readLawLine 22 rfl rfl) ?_
    have f93 : zfC (w_X7_readLawLine p1) h h4 := zfC_w (zfC_r _ _) e5 (Or.inr (Or.inr (by omega)))
    have f92 : zfC (w_X7_readLawLine p1) h h9 := zfC_t f93 f12 (fun a9 b9 z9 => by
      exact (Or.inl (by omega)))
    have f91 : zfC (w_X7_readLawLine p1) h h14 := zfC_w f92 e15 (Or.inr (Or.inr (by omega)))
    have f90 : zfC (w_X7_readLawLine p1) h h19 := zfC_t f91 f22 (fun a9 b9 z9 => by
      rcases z9 with z9 | z9 | z9
      · exact (Or.inl z9)
      · exact (Or.inr (Or.inl (by omega)))
      · exact (Or.inr (Or.inr (by omega))))
    exact zj_zret rfl (zdk ttX7_readLawLine 23 rfl rfl) (Nat.le_refl _) (Nat.le_refl _) (by omega) ⟨0, rfl, by omega, s21, f90⟩
