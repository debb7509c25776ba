abbrev tX11_isIn : List (Nat × Instr × Nat) := [(0, .iload_n 1, 1), (1, .iload_n 2, 1), (2, .if_icmp .lt 12, 3), (5, .iload_n 1, 1), (6, .iload_n 3, 1), (7, .if_icmp .gt 7, 3), (10, .iconst 1, 1), (11, .goto 4, 3), (14, .iconst 0, 1), (15, .ireturn, 1)]
theorem ttX11_isIn : zdt cX11_isIn tX11_isIn = true := by decide +kernel
abbrev q_X11_isIn (h : zM) (p1 : Int) (p2 : Int) (p3 : Int) : Option zV → zM → Prop := zqi fun v h' => h = h' ∧ ((v = 0 ∧ ((p1 < p2) ∨ (p2 ≤ p1 ∧ p3 < p1))) ∨ (v = 1 ∧ (p2 ≤ p1 ∧ p1 ≤ p3)))
set_option maxRecDepth 100000 in
set_option maxHeartbeats 4000000 in
theorem s_X11_isIn (l : Launch) (h : zM) (p1 : Int) (p2 : Int) (p3 : Int) (s0 : okM h) (b_p1 : (-2147483648) ≤ p1 ∧ p1 ≤ 2147483647) (b_p2 : (-2147483648) ≤ p2 ∧ p2 ≤ 2147483647) (b_p3 : (-2147483648) ≤ p3 ∧ p3 ≤ 2147483647) : zT shM l yX11_isIn cX11_isIn 4 (some .boolean) (rmL 1) 0 0 [.inr 0, .inl p1, .inl p2, .inl p3] h (q_X11_isIn h p1 p2 p3) := by
  refine zT_of (by decide +kernel) (L0 := [some (.inr 0), some (.inl p1), some (.inl p2), some (.inl p3)]) rfl (Nat.le_of_ble_eq_true rfl) ?_
  refine zj_iload_n (zdk ttX11_isIn 0 rfl rfl) rfl ?_
  refine zj_iload_n (zdk ttX11_isIn 1 rfl rfl) rfl ?_
  refine zj_icmp_lt (t := 14) (zdk ttX11_isIn 2 rfl rfl) (by decide) (by omega) (by omega) (fun c1 => ?_) (fun c1 => ?_)
  · refine zj_iconst (zdk ttX11_isIn 8 rfl rfl) ?_
    exact zj_zret rfl (zdk ttX11_isIn 9 rfl rfl) (Nat.le_refl _) (Nat.le_refl _) (by omega) ⟨0, rfl, rfl, (Or.inl ⟨rfl, (Or.inl (by omega))⟩)⟩
  · refine zj_iload_n (zdk ttX11_isIn 3 rfl rfl) rfl ?_
    refine zj_iload_n (zdk ttX11_isIn 4 rfl rfl) rfl ?_
    refine zj_icmp_gt (t := 14) (zdk ttX11_isIn 5 rfl rfl) (by decide) (by omega) (by omega) (fun c2 => ?_) (fun c2 => ?_)
    · refine zj_iconst (zdk ttX11_isIn 8 rfl rfl) ?_
      exact zj_zret rfl (zdk ttX11_isIn 9 rfl rfl) (Nat.le_refl _) (Nat.le_refl _) (by omega) ⟨0, rfl, rfl, (Or.inl ⟨rfl, (Or.inr (by omega))⟩)⟩
    · refine zj_iconst (zdk ttX11_isIn 6 rfl rfl) ?_
      refine zj_goto (t := 15) (zdk ttX11_isIn 7 rfl rfl) (by decide) ?_
      exact zj_zret rfl (zdk ttX11_isIn 9 rfl rfl) (Nat.le_refl _) (Nat.le_refl _) (by omega) ⟨1, rfl, rfl, (Or.inr ⟨rfl, by omega⟩)⟩

abbrev tX11_held : List (Nat × Instr × Nat) := [(0, .iload_n 1, 1), (1, .iload_n 2, 1), (2, .if_icmp .ge 7, 3), (5, .iload_n 2, 1), (6, .goto 13, 3), (9, .iload_n 1, 1), (10, .iload_n 3, 1), (11, .if_icmp .le 7, 3), (14, .iload_n 3, 1), (15, .goto 4, 3), (18, .iload_n 1, 1), (19, .ireturn, 1)]
theorem ttX11_held : zdt cX11_held tX11_held = true := by decide +kernel
abbrev q_X11_held (h : zM) (p1 : Int) (p2 : Int) (p3 : Int) : Option zV → zM → Prop := zqi fun v h' => h = h' ∧ (((p2 ≤ p1 ∧ p1 ≤ p3) ∧ v = p1 ∧ (-2147483648) ≤ v ∧ v ≤ 2147483647) ∨ ((p2 ≤ p1 ∧ p3 < p1) ∧ v = p3 ∧ (-2147483648) ≤ v ∧ v ≤ 2147483646) ∨ ((p1 < p2) ∧ v = p2 ∧ (-2147483647) ≤ v ∧ v ≤ 2147483647))
set_option maxRecDepth 100000 in
set_option maxHeartbeats 4000000 in
theorem s_X11_held (l : Launch) (h : zM) (p1 : Int) (p2 : Int) (p3 : Int) (s0 : okM h) (b_p1 : (-2147483648) ≤ p1 ∧ p1 ≤ 2147483647) (b_p2 : (-2147483648) ≤ p2 ∧ p2 ≤ 2147483647) (b_p3 : (-2147483648) ≤ p3 ∧ p3 ≤ 2147483647) : zT shM l yX11_held cX11_held 4 (some .int) (rmL 1) 0 0 [.inr 0, .inl p1, .inl p2, .inl p3] h (q_X11_held h p1 p2 p3) := by
  refine zT_of (by decide +kernel) (L0 := [some (.inr 0), some (.inl p1), some (.inl p2), some (.inl p3)]) rfl (Nat.le_of_ble_eq_true rfl) ?_
  refine zj_iload_n (zdk ttX11_held 0 rfl rfl) rfl ?_
  refine zj_iload_n (zdk ttX11_held 1 rfl rfl) rfl ?_
  refine zj_icmp_ge (t := 9) (zdk ttX11_held 2 rfl rfl) (by decide) (by omega) (by omega) (fun c1 => ?_) (fun c1 => ?_)
  · refine zj_iload_n (zdk ttX11_held 5 rfl rfl) rfl ?_
    refine zj_iload_n (zdk ttX11_held 6 rfl rfl) rfl ?_
    refine zj_icmp_le (t := 18) (zdk ttX11_held 7 rfl rfl) (by decide) (by omega) (by omega) (fun c2 => ?_) (fun c2 => ?_)
    · refine zj_iload_n (zdk ttX11_held 10 rfl rfl) rfl ?_
      exact zj_iret rfl (zdk ttX11_held 11 rfl rfl) (Nat.le_refl _) (Nat.le_refl _) ⟨p1, rfl, rfl, (Or.inl ⟨by omega, rfl, by omega⟩)⟩
    · refine zj_iload_n (zdk ttX11_held 8 rfl rfl) rfl ?_
      refine zj_goto (t := 19) (zdk ttX11_held 9 rfl rfl) (by decide) ?_
      exact zj_iret rfl (zdk ttX11_held 11 rfl rfl) (Nat.le_refl _) (Nat.le_refl _) ⟨p3, rfl, rfl, (Or.inr (Or.inl ⟨by omega, rfl, by omega⟩))⟩
  · refine zj_iload_n (zdk ttX11_held 3 rfl rfl) rfl ?_
    refine zj_goto (t := 19) (zdk ttX11_held 4 rfl rfl) (by decide) ?_
    exact zj_iret rfl (zdk ttX11_held 11 rfl rfl) (Nat.le_refl _) (Nat.le_refl _) ⟨p2, rfl, rfl, (Or.inr (Or.inr ⟨by omega, rfl, by omega⟩))⟩

abbrev tX11_greater : List (Nat × Instr × Nat) := [(0, .iload_n 1, 1), (1, .iload_n 2, 1), (2, .if_icmp .le 7, 3), (5, .iload_n 1, 1), (6, .goto 4, 3), (9, .iload_n 2, 1), (10, .ireturn, 1)]
theorem ttX11_greater : zdt cX11_greater tX11_greater = true := by decide +kernel
abbrev q_X11_greater (h : zM) (p1 : Int) (p2 : Int) : Option zV → zM → Prop := zqi fun v h' => h = h' ∧ (((p1 ≤ p2) ∧ v = p2 ∧ (-2147483648) ≤ v ∧ v ≤ 2147483647) ∨ ((p2 < p1) ∧ v = p1 ∧ (-2147483647) ≤ v ∧ v ≤ 2147483647))
set_option maxRecDepth 100000 in
set_option maxHeartbeats 4000000 in
theorem s_X11_greater (l : Launch) (h : zM) (p1 : Int) (p2 : Int) (s0 : okM h) (b_p1 : (-2147483648) ≤ p1 ∧ p1 ≤ 2147483647) (b_p2 : (-2147483648) ≤ p2 ∧ p2 ≤ 2147483647) : zT shM l yX11_greater cX11_greater 3 (some .int) (rmL 1) 0 0 [.inr 0, .inl p1, .inl p2] h (q_X11_greater h p1 p2) := by
  refine zT_of (by decide +kernel) (L0 := [some (.inr 0), some (.inl p1), some (.inl p2)]) rfl (Nat.le_of_ble_eq_true rfl) ?_
  refine zj_iload_n (zdk ttX11_greater 0 rfl rfl) rfl ?_
  refine zj_iload_n (zdk ttX11_greater 1 rfl rfl) rfl ?_
  refine zj_icmp_le (t := 9) (zdk ttX11_greater 2 rfl rfl) (by decide) (by omega) (by omega) (fun c1 => ?_) (fun c1 => ?_)
  · refine zj_iload_n (zdk ttX11_greater 5 rfl rfl) rfl ?_
    exact zj_iret rfl (zdk ttX11_greater 6 rfl rfl) (Nat.le_refl _) (Nat.le_refl _) ⟨p2, rfl, rfl, (Or.inl ⟨by omega, rfl, by omega⟩)⟩
  · refine zj_iload_n (zdk ttX11_greater 3 rfl rfl) rfl ?_
    refine zj_goto (t := 10) (zdk ttX11_greater 4 rfl rfl) (by decide) ?_
    exact zj_iret rfl (zdk ttX11_greater 6 rfl rfl) (Nat.le_refl _) (Nat.le_refl _) ⟨p1, rfl, rfl, (Or.inr ⟨by omega, rfl, by omega⟩)⟩

abbrev tX11_lesser : List (Nat × Instr × Nat) := [(0, .iload_n 1, 1), (1, .iload_n 2, 1), (2, .if_icmp .ge 7, 3), (5, .iload_n 1, 1), (6, .goto 4, 3), (9, .iload_n 2, 1), (10, .ireturn, 1)]
theorem ttX11_lesser : zdt cX11_lesser tX11_lesser = true := by decide +kernel
abbrev q_X11_lesser (h : zM) (p1 : Int) (p2 : Int) : Option zV → zM → Prop := zqi fun v h' => h = h' ∧ (((p2 ≤ p1) ∧ v = p2 ∧ (-2147483648) ≤ v ∧ v ≤ 2147483647) ∨ ((p1 < p2) ∧ v = p1 ∧ (-2147483648) ≤ v ∧ v ≤ 2147483646))
set_option maxRecDepth 100000 in
set_option maxHeartbeats 4000000 in
theorem s_X11_lesser (l : Launch) (h : zM) (p1 : Int) (p2 : Int) (s0 : okM h) (b_p1 : (-2147483648) ≤ p1 ∧ p1 ≤ 2147483647) (b_p2 : (-2147483648) ≤ p2 ∧ p2 ≤ 2147483647) : zT shM l yX11_lesser cX11_lesser 3 (some .int) (rmL 1) 0 0 [.inr 0, .inl p1, .inl p2] h (q_X11_lesser h p1 p2) := by
  refine zT_of (by decide +kernel) (L0 := [some (.inr 0), some (.inl p1), some (.inl p2)]) rfl (Nat.le_of_ble_eq_true rfl) ?_
  refine zj_iload_n (zdk ttX11_lesser 0 rfl rfl) rfl ?_
  refine zj_iload_n (zdk ttX11_lesser 1 rfl rfl) rfl ?_
  refine zj_icmp_ge (t := 9) (zdk ttX11_lesser 2 rfl rfl) (by decide) (by omega) (by omega) (fun c1 => ?_) (fun c1 => ?_)
  · refine zj_iload_n (zdk ttX11_lesser 5 rfl rfl) rfl ?_
    exact zj_iret rfl (zdk ttX11_lesser 6 rfl rfl) (Nat.le_refl _) (Nat.le_refl _) ⟨p2, rfl, rfl, (Or.inl ⟨by omega, rfl, by omega⟩)⟩
  · refine zj_iload_n (zdk ttX11_lesser 3 rfl rfl) rfl ?_
    refine zj_goto (t := 10) (zdk ttX11_lesser 4 rfl rfl) (by decide) ?_
    exact zj_iret rfl (zdk ttX11_lesser 6 rfl rfl) (Nat.le_refl _) (Nat.le_refl _) ⟨p1, rfl, rfl, (Or.inr ⟨by omega, rfl, by omega⟩)⟩

abbrev tX11_plain : List (Nat × Instr × Nat) := [(0, .iload_n 1, 1), (1, .ifCond .ge 8, 3), (4, .iload_n 1, 1), (5, .ineg, 1), (6, .goto 4, 3), (9, .iload_n 1, 1), (10, .ireturn, 1)]
theorem ttX11_plain : zdt cX11_plain tX11_plain = true := by decide +kernel
abbrev q_X11_plain (h : zM) (p1 : Int) : Option zV → zM → Prop := zqi fun v h' => h = h' ∧ (((0 ≤ p1) ∧ v = p1 ∧ 0 ≤ v ∧ v ≤ 2147483647) ∨ ((p1 < 0) ∧ v = (zwp (-p1)) ∧ (-2147483648) ≤ v ∧ v ≤ 2147483647))
set_option maxRecDepth 100000 in
set_option maxHeartbeats 4000000 in
theorem s_X11_plain (l : Launch) (h : zM) (p1 : Int) (s0 : okM h) (b_p1 : (-2147483648) ≤ p1 ∧ p1 ≤ 2147483647) : zT shM l yX11_plain cX11_plain 2 (some .int) (rmL 1) 0 0 [.inr 0, .inl p1] h (q_X11_plain h p1) := by
  refine zT_of (by decide +kernel) (L0 := [some (.inr 0), some (.inl p1)]) rfl (Nat.le_of_ble_eq_true rfl) ?_
  refine zj_iload_n (zdk ttX11_plain 0 rfl rfl) rfl ?_
  refine zj_if_ge (t := 9) (zdk ttX11_plain 1 rfl rfl) (by decide) (by omega) (fun c1 => ?_) (fun c1 => ?_)
  · refine zj_iload_n (zdk ttX11_plain 5 rfl rfl) rfl ?_
    exact zj_iret rfl (zdk ttX11_plain 6 rfl rfl) (Nat.le_refl _) (Nat.le_refl _) ⟨p1, rfl, rfl, (Or.inl ⟨by omega, rfl, by omega⟩)⟩
  · refine zj_iload_n (zdk ttX11_plain 2 rfl rfl) rfl ?_
    refine zj_ineg (zdk ttX11_plain 3 rfl rfl) ?_
    refine zj_wrap ?_
    have b2 := zwp_in (-p1)
    refine zj_goto (t := 10) (zdk ttX11_plain 4 rfl rfl) (by decide) ?_
    exact zj_iret rfl (zdk ttX11_plain 6 rfl rfl) (Nat.le_refl _) (Nat.le_refl _) ⟨(zwp (-p1)), rfl, rfl, (Or.inr ⟨by omega, rfl, by omega⟩)⟩

abbrev tX11_has : List (Nat × Instr × Nat) := [(0, .iload_n 1, 1), (1, .iload_n 2, 1), (2, .ishr, 1), (3, .iconst 1, 1), (4, .iand, 1), (5, .iconst 1, 1), (6, .if_icmp .ne 7, 3), (9, .iconst 1, 1), (10, .goto 4, 3), (13, .iconst 0, 1), (14, .ireturn, 1)]
theorem ttX11_has : zdt cX11_has tX11_has = true := by decide +kernel
abbrev q_X11_has (h : zM) (p1 : Int) (p2 : Int) : Option zV → zM → Prop := zqi fun v h' => h = h' ∧ ((v = 0 ∧ (¬ (zand (zshr p1 p2) 1) = 1)) ∨ (v = 1 ∧ ((zand (zshr p1 p2) 1) = 1)))
set_option maxRecDepth 100000 in
set_option maxHeartbeats 4000000 in
theorem s_X11_has (l : Launch) (h : zM) (p1 : Int) (p2 : Int) (s0 : okM h) (b_p1 : (-2147483648) ≤ p1 ∧ p1 ≤ 2147483647) (b_p2 : (-2147483648) ≤ p2 ∧ p2 ≤ 2147483647) : zT shM l yX11_has cX11_has 3 (some .boolean) (rmL 1) 0 0 [.inr 0, .inl p1, .inl p2] h (q_X11_has h p1 p2) := by
  refine zT_of (by decide +kernel) (L0 := [some (.inr 0), some (.inl p1), some (.inl p2)]) rfl (Nat.le_of_ble_eq_true rfl) ?_
  refine zj_iload_n (zdk ttX11_has 0 rfl rfl) rfl ?_
  refine zj_iload_n (zdk ttX11_has 1 rfl rfl) rfl ?_
  refine zj_ishr (zdk ttX11_has 2 rfl rfl) ?_
  have b1 := zshr_in p1 p2
  refine zj_iconst (zdk ttX11_has 3 rfl rfl) ?_
  refine zj_iand (zdk ttX11_has 4 rfl rfl) ?_
  have b2 := zand_m (d := 2) 1 (by decide) (c := 1) (by decide) (by decide) (zshr p1 p2)
  refine zj_iconst (zdk ttX11_has 5 rfl rfl) ?_
  refine zj_icmp_ne (t := 13) (zdk ttX11_has 6 rfl rfl) (by decide) (by omega) (by decide) (fun c3 => ?_) (fun c3 => ?_)
  · refine zj_iconst (zdk ttX11_has 9 rfl rfl) ?_
    exact zj_zret rfl (zdk ttX11_has 10 rfl rfl) (Nat.le_refl _) (Nat.le_refl _) (by omega) ⟨0, rfl, rfl, (Or.inl ⟨rfl, by omega⟩)⟩
  · refine zj_iconst (zdk ttX11_has 7 rfl rfl) ?_
    refine zj_goto (t := 14) (zdk ttX11_has 8 rfl rfl) (by decide) ?_
    exact zj_zret rfl (zdk ttX11_has 10 rfl rfl) (Nat.le_refl _) (Nat.le_refl _) (by omega) ⟨1, rfl, rfl, (Or.inr ⟨rfl, by omega⟩)⟩

abbrev tX11_isIslander : List (Nat × Instr × Nat) := [(0, .iload_n 1, 1), (1, .ifCond .lt 15, 3), (4, .iload_n 1, 1), (5, .aload_n 0, 1), (6, .getfield 132, 3), (9, .if_icmp .ge 7, 3), (12, .iconst 1, 1), (13, .goto 4, 3), (16, .iconst 0, 1), (17, .ireturn, 1)]
theorem ttX11_isIslander : zdt cX11_isIslander tX11_isIslander = true := by decide +kernel
abbrev q_X11_isIslander (h : zM) (p1 : Int) : Option zV → zM → Prop := zqi fun v h' => h = h' ∧ (0 ≤ (h.2 0 6) ∧ (h.2 0 6) ≤ 18) ∧ ((v = 0 ∧ ((p1 < 0) ∨ (0 ≤ p1 ∧ (h.2 0 6) ≤ p1))) ∨ (v = 1 ∧ (0 ≤ p1 ∧ p1 < (h.2 0 6))))
set_option maxRecDepth 100000 in
set_option maxHeartbeats 4000000 in
theorem s_X11_isIslander (l : Launch) (h : zM) (p1 : Int) (s0 : okM h) (b_p1 : (-2147483648) ≤ p1 ∧ p1 ≤ 2147483647) : zT shM l yX11_isIslander cX11_isIslander 2 (some .boolean) (rmL 1) 0 0 [.inr 0, .inl p1] h (q_X11_isIslander h p1) := by
  refine zT_of (by decide +kernel) (L0 := [some (.inr 0), some (.inl p1)]) rfl (Nat.le_of_ble_eq_true rfl) ?_
  have b1 : 0 ≤ (h.2 0 6) ∧ (h.2 0 6) ≤ 18 := fM_6 s0
  refine zj_iload_n (zdk ttX11_isIslander 0 rfl rfl) rfl ?_
  refine zj_if_lt (t := 16) (zdk ttX11_isIslander 1 rfl rfl) (by decide) (by omega) (fun c2 => ?_) (fun c2 => ?_)
  · refine zj_iconst (zdk ttX11_isIslander 8 rfl rfl) ?_
    exact zj_zret rfl (zdk ttX11_isIslander 9 rfl rfl) (Nat.le_refl _) (Nat.le_refl _) (by omega) ⟨0, rfl, rfl, b1, (Or.inl ⟨rfl, (Or.inl (by omega))⟩)⟩
  · refine zj_iload_n (zdk ttX11_isIslander 2 rfl rfl) rfl ?_
    refine zj_aload_n (zdk ttX11_isIslander 3 rfl rfl) rfl (by decide) ?_
    refine zj_geti (v := (h.2 0 6)) (zdk ttX11_isIslander 4 rfl rfl) zf_RX11_132 rfl (k_M s0) rfl ?_
    refine zj_icmp_ge (t := 16) (zdk ttX11_isIslander 5 rfl rfl) (by decide) (by omega) (by omega) (fun c3 => ?_) (fun c3 => ?_)
    · refine zj_iconst (zdk ttX11_isIslander 8 rfl rfl) ?_
      exact zj_zret rfl (zdk ttX11_isIslander 9 rfl rfl) (Nat.le_refl _) (Nat.le_refl _) (by omega) ⟨0, rfl, rfl, b1, (Or.inl ⟨rfl, (Or.inr (by omega))⟩)⟩
    · refine zj_iconst (zdk ttX11_isIslander 6 rfl rfl) ?_
      refine zj_goto (t := 17) (zdk ttX11_isIslander 7 rfl rfl) (by decide) ?_
      exact zj_zret rfl (zdk ttX11_isIslander 9 rfl rfl) (Nat.le_refl _) (Nat.le_refl _) (by omega) ⟨1, rfl, rfl, b1, (Or.inr ⟨rfl, by omega⟩)⟩

abbrev tX11_isLetter : List (Nat × Instr × Nat) := [(0, .aload_n 0, 1), (1, .iload_n 1, 1), (2, .bipush 97, 2), (4, .bipush 122, 2), (6, .invokevirtual 139, 3), (9, .ifCond .ne 15, 3), (12, .aload_n 0, 1), (13, .iload_n 1, 1), (14, .bipush 65, 2), (16, .bipush 90, 2), (18, .invokevirtual 139, 3), (21, .ifCond .eq 7, 3), (24, .iconst 1, 1), (25, .goto 4, 3), (28, .iconst 0, 1), (29, .ireturn, 1)]
theorem ttX11_isLetter : zdt cX11_isLetter tX11_isLetter = true := by decide +kernel
abbrev q_X11_isLetter (h : zM) (p1 : Int) : Option zV → zM → Prop := zqi fun v h' => h = h' ∧ ((v = 0 ∧ (((p1 < 97) ∨ (97 ≤ p1 ∧ 122 < p1)) ∧ ((p1 < 65) ∨ (65 ≤ p1 ∧ 90 < p1)))) ∨ (v = 1 ∧ ((((p1 < 97) ∨ (97 ≤ p1 ∧ 122 < p1)) ∧ (65 ≤ p1 ∧ p1 ≤ 90)) ∨ ((97 ≤ p1 ∧ p1 ≤ 122)))))
set_option maxRecDepth 100000 in
set_option maxHeartbeats 4000000 in
theorem s_X11_isLetter (l : Launch) (h : zM) (p1 : Int) (s0 : okM h) (b_p1 : (-2147483648) ≤ p1 ∧ p1 ≤ 2147483647) : zT shM l yX11_isLetter cX11_isLetter 2 (some .boolean) (rmL 2) 0 0 [.inr 0, .inl p1] h (q_X11_isLetter h p1) := by
  refine zT_of (by decide +kernel) (L0 := [some (.inr 0), some (.inl p1)]) rfl (Nat.le_of_ble_eq_true rfl) ?_
  refine zj_aload_n (zdk ttX11_isLetter 0 rfl rfl) rfl (by decide) ?_
  refine zj_iload_n (zdk ttX11_isLetter 1 rfl rfl) rfl ?_
  refine zj_bipush (zdk ttX11_isLetter 2 rfl rfl) (by decide) ?_
  refine zj_bipush (zdk ttX11_isLetter 3 rfl rfl) (by decide) ?_
  refine zj_callV (av := [.inl p1, .inl 97, .inl 122]) (st := []) (zdk ttX11_isLetter 4 rfl rfl) mb_X11_isIn mv_RX11_139 (ci := 11) rfl rfl (k_M s0) rfl rfl (Nat.le_of_ble_eq_true rfl) (s_X11_isIn l h p1 97 122 s0 (by omega) (by omega) (by omega)) (rm_ok (by decide) (by decide)) (zq_i fun v2 h3 q1 => ?_)
  obtain ⟨rfl, ⟨rfl, b4⟩ | ⟨rfl, b4⟩⟩ := q1
  · refine zj_if_ne (t := 24) (zdk ttX11_isLetter 5 rfl rfl) (by decide) (by decide) (fun c5 => ?_) (fun c5 => ?_)
    · exact absurd c5 (by omega)
    · refine zj_aload_n (zdk ttX11_isLetter 6 rfl rfl) rfl (by decide) ?_
      refine zj_iload_n (zdk ttX11_isLetter 7 rfl rfl) rfl ?_
      refine zj_bipush (zdk ttX11_isLetter 8 rfl rfl) (by decide) ?_
      refine zj_bipush (zdk ttX11_isLetter 9 rfl rfl) (by decide) ?_
      refine zj_callV (av := [.inl p1, .inl 65, .inl 90]) (st := []) (zdk ttX11_isLetter 10 rfl rfl) mb_X11_isIn mv_RX11_139 (ci := 11) rfl rfl (k_M s0) rfl rfl (Nat.le_of_ble_eq_true rfl) (s_X11_isIn l h p1 65 90 s0 (by omega) (by omega) (by omega)) (rm_ok (by decide) (by decide)) (zq_i fun v7 h8 q6 => ?_)
      obtain ⟨rfl, ⟨rfl, b9⟩ | ⟨rfl, b9⟩⟩ := q6
      · refine zj_if_eq (t := 28) (zdk ttX11_isLetter 11 rfl rfl) (by decide) (by decide) (fun c10 => ?_) (fun c10 => ?_)
        · refine zj_iconst (zdk ttX11_isLetter 14 rfl rfl) ?_
          exact zj_zret rfl (zdk ttX11_isLetter 15 rfl rfl) (Nat.le_refl _) (Nat.le_refl _) (by omega) ⟨0, rfl, rfl, (Or.inl ⟨rfl, by omega⟩)⟩
        · exact absurd c10 (by omega)
      · refine zj_if_eq (t := 28) (zdk ttX11_isLetter 11 rfl rfl) (by decide) (by decide) (fun c11 => ?_) (fun c11 => ?_)
        · exact absurd c11 (by omega)
        · refine zj_iconst (zdk ttX11_isLetter 12 rfl rfl) ?_
          refine zj_goto (t := 29) (zdk ttX11_isLetter 13 rfl rfl) (by decide) ?_
          exact zj_zret rfl (zdk ttX11_isLetter 15 rfl rfl) (Nat.le_refl _) (Nat.le_refl _) (by omega) ⟨1, rfl, rfl, (Or.inr ⟨rfl, (Or.inl (by omega))⟩)⟩
  · refine zj_if_ne (t := 24) (zdk ttX11_isLetter 5 rfl rfl) (by decide) (by decide) (fun c12 => ?_) (fun c12 => ?_)
    · refine zj_iconst (zdk ttX11_isLetter 12 rfl rfl) ?_
      refine zj_goto (t := 29) (zdk ttX11_isLetter 13 rfl rfl) (by decide) ?_
      exact zj_zret rfl (zdk ttX11_isLetter 15 rfl rfl) (Nat.le_refl _) (Nat.le_refl _) (by omega) ⟨1, rfl, rfl, (Or.inr ⟨rfl, (Or.inr (by omega))⟩)⟩
    · exact absurd c12 (by omega)

abbrev tX11_isDigit : List (Nat × Instr × Nat) := [(0, .aload_n 0, 1), (1, .iload_n 1, 1), (2, .bipush 48, 2), (4, .bipush 57, 2), (6, .invokevirtual 139, 3), (9, .ireturn, 1)]
theorem ttX11_isDigit : zdt cX11_isDigit tX11_isDigit = true := by decide +kernel
abbrev q_X11_isDigit (h : zM) (p1 : Int) : Option zV → zM → Prop := zqi fun v h' => h = h' ∧ ((v = 0 ∧ (((p1 < 48) ∨ (48 ≤ p1 ∧ 57 < p1)))) ∨ (v = 1 ∧ ((48 ≤ p1 ∧ p1 ≤ 57))))
set_option maxRecDepth 100000 in
set_option maxHeartbeats 4000000 in
theorem s_X11_isDigit (l : Launch) (h : zM) (p1 : Int) (s0 : okM h) (b_p1 : (-2147483648) ≤ p1 ∧ p1 ≤ 2147483647) : zT shM l yX11_isDigit cX11_isDigit 2 (some .boolean) (rmL 2) 0 0 [.inr 0, .inl p1] h (q_X11_isDigit h p1) := by
  refine zT_of (by decide +kernel) (L0 := [some (.inr 0), some (.inl p1)]) rfl (Nat.le_of_ble_eq_true rfl) ?_
  refine zj_aload_n (zdk ttX11_isDigit 0 rfl rfl) rfl (by decide) ?_
  refine zj_iload_n (zdk ttX11_isDigit 1 rfl rfl) rfl ?_
  refine zj_bipush (zdk ttX11_isDigit 2 rfl rfl) (by decide) ?_
  refine zj_bipush (zdk ttX11_isDigit 3 rfl rfl) (by decide) ?_
  refine zj_callV (av := [.inl p1, .inl 48, .inl 57]) (st := []) (zdk ttX11_isDigit 4 rfl rfl) mb_X11_isIn mv_RX11_139 (ci := 11) rfl rfl (k_M s0) rfl rfl (Nat.le_of_ble_eq_true rfl) (s_X11_isIn l h p1 48 57 s0 (by omega) (by omega) (by omega)) (rm_ok (by decide) (by decide)) (zq_i fun v2 h3 q1 => ?_)
  obtain ⟨rfl, ⟨rfl, b4⟩ | ⟨rfl, b4⟩⟩ := q1
  · exact zj_zret rfl (zdk ttX11_isDigit 5 rfl rfl) (Nat.le_refl _) (Nat.le_refl _) (by omega) ⟨0, rfl, rfl, (Or.inl ⟨rfl, by omega⟩)⟩
  · exact zj_zret rfl (zdk ttX11_isDigit 5 rfl rfl) (Nat.le_refl _) (Nat.le_refl _) (by omega) ⟨1, rfl, rfl, (Or.inr ⟨rfl, by omega⟩)⟩

abbrev tX11_isMarkSign : List (Nat × Instr × Nat) := [(0, .iload_n 1, 1), (1, .bipush 59, 2), (3, .if_icmp .eq 57, 3), (6, .iload_n 1, 1), (7, .bipush 43, 2), (9, .if_icmp .eq 51, 3), (12, .iload_n 1, 1), (13, .bipush 45, 2), (15, .if_icmp .eq 45, 3), (18, .iload_n 1, 1), (19, .bipush 42, 2), (21, .if_icmp .eq 39, 3), (24, .iload_n 1, 1), (25, .bipush 47, 2), (27, .if_icmp .eq 33, 3), (30, .iload_n 1, 1), (31, .bipush 40, 2), (33, .if_icmp .eq 27, 3), (36, .iload_n 1, 1), (37, .bipush 41, 2), (39, .if_icmp .eq 21, 3), (42, .iload_n 1, 1), (43, .bipush 60, 2), (45, .if_icmp .eq 15, 3), (48, .iload_n 1, 1), (49, .bipush 61, 2), (51, .if_icmp .eq 9, 3), (54, .iload_n 1, 1), (55, .bipush 62, 2), (57, .if_icmp .ne 7, 3), (60, .iconst 1, 1), (61, .goto 4, 3), (64, .iconst 0, 1), (65, .ireturn, 1)]
theorem ttX11_isMarkSign : zdt cX11_isMarkSign tX11_isMarkSign = true := by decide +kernel
abbrev q_X11_isMarkSign (h : zM) (p1 : Int) : Option zV → zM → Prop := zqi fun v h' => h = h' ∧ ((v = 1 ∧ ((p1 = 59) ∨ (¬ p1 = 59 ∧ p1 = 43) ∨ (¬ p1 = 59 ∧ ¬ p1 = 43 ∧ p1 = 45) ∨ (¬ p1 = 59 ∧ ¬ p1 = 43 ∧ ¬ p1 = 45 ∧ p1 = 42) ∨ (¬ p1 = 59 ∧ ¬ p1 = 43 ∧ ¬ p1 = 45 ∧ ¬ p1 = 42 ∧ p1 = 47) ∨ (¬ p1 = 59 ∧ ¬ p1 = 43 ∧ ¬ p1 = 45 ∧ ¬ p1 = 42 ∧ ¬ p1 = 47 ∧ p1 = 40) ∨ (¬ p1 = 59 ∧ ¬ p1 = 43 ∧ ¬ p1 = 45 ∧ ¬ p1 = 42 ∧ ¬ p1 = 47 ∧ ¬ p1 = 40 ∧ p1 = 41) ∨ (¬ p1 = 59 ∧ ¬ p1 = 43 ∧ ¬ p1 = 45 ∧ ¬ p1 = 42 ∧ ¬ p1 = 47 ∧ ¬ p1 = 40 ∧ ¬ p1 = 41 ∧ p1 = 60) ∨ (¬ p1 = 59 ∧ ¬ p1 = 43 ∧ ¬ p1 = 45 ∧ ¬ p1 = 42 ∧ ¬ p1 = 47 ∧ ¬ p1 = 40 ∧ ¬ p1 = 41 ∧ ¬ p1 = 60 ∧ p1 = 61) ∨ (¬ p1 = 59 ∧ ¬ p1 = 43 ∧ ¬ p1 = 45 ∧ ¬ p1 = 42 ∧ ¬ p1 = 47 ∧ ¬ p1 = 40 ∧ ¬ p1 = 41 ∧ ¬ p1 = 60 ∧ ¬ p1 = 61 ∧ p1 = 62))) ∨ (v = 0 ∧ (¬ p1 = 59 ∧ ¬ p1 = 43 ∧ ¬ p1 = 45 ∧ ¬ p1 = 42 ∧ ¬ p1 = 47 ∧ ¬ p1 = 40 ∧ ¬ p1 = 41 ∧ ¬ p1 = 60 ∧ ¬ p1 = 61 ∧ ¬ p1 = 62)))
set_option maxRecDepth 100000 in
set_option maxHeartbeats 4000000 in
theorem s_X11_isMarkSign (l : Launch) (h : zM) (p1 : Int) (s0 : okM h) (b_p1 : (-2147483648) ≤ p1 ∧ p1 ≤ 2147483647) : zT shM l yX11_isMarkSign cX11_isMarkSign 2 (some .boolean) (rmL 1) 0 0 [.inr 0, .inl p1] h (q_X11_isMarkSign h p1) := by
  refine zT_of (by decide +kernel) (L0 := [some (.inr 0), some (.inl p1)]) rfl (Nat.le_of_ble_eq_true rfl) ?_
  refine zj_iload_n (zdk ttX11_isMarkSign 0 rfl rfl) rfl ?_
  refine zj_bipush (zdk ttX11_isMarkSign 1 rfl rfl) (by decide) ?_
  refine zj_icmp_eq (t := 60) (zdk ttX11_isMarkSign 2 rfl rfl) (by decide) (by omega) (by decide) (fun c1 => ?_) (fun c1 => ?_)
  · refine zj_iconst (zdk ttX11_isMarkSign 30 rfl rfl) ?_
    refine zj_goto (t := 65) (zdk ttX11_isMarkSign 31 rfl rfl) (by decide) ?_
    exact zj_zret rfl (zdk ttX11_isMarkSign 33 rfl rfl) (Nat.le_refl _) (Nat.le_refl _) (by omega) ⟨1, rfl, rfl, (Or.inl ⟨rfl, (Or.inl (by omega))⟩)⟩
  · refine zj_iload_n (zdk ttX11_isMarkSign 3 rfl rfl) rfl ?_
    refine zj_bipush (zdk ttX11_isMarkSign 4 rfl rfl) (by decide) ?_
    refine zj_icmp_eq (t := 60) (zdk ttX11_isMarkSign 5 rfl rfl) (by decide) (by omega) (by decide) (fun c2 => ?_) (fun c2 => ?_)
    · refine zj_iconst (zdk ttX11_isMarkSign 30 rfl rfl) ?_
      refine zj_goto (t := 65) (zdk ttX11_isMarkSign 31 rfl rfl) (by decide) ?_
      exact zj_zret rfl (zdk ttX11_isMarkSign 33 rfl rfl) (Nat.le_refl _) (Nat.le_refl _) (by omega) ⟨1, rfl, rfl, (Or.inl ⟨rfl, (Or.inr (Or.inl (by omega)))⟩)⟩
    · refine zj_iload_n (zdk ttX11_isMarkSign 6 rfl rfl) rfl ?_
      refine zj_bipush (zdk ttX11_isMarkSign 7 rfl rfl) (by decide) ?_
      refine zj_icmp_eq (t := 60) (zdk ttX11_isMarkSign 8 rfl rfl) (by decide) (by omega) (by decide) (fun c3 => ?_) (fun c3 => ?_)
      · refine zj_iconst (zdk ttX11_isMarkSign 30 rfl rfl) ?_
        refine zj_goto (t := 65) (zdk ttX11_isMarkSign 31 rfl rfl) (by decide) ?_
        exact zj_zret rfl (zdk ttX11_isMarkSign 33 rfl rfl) (Nat.le_refl _) (Nat.le_refl _) (by omega) ⟨1, rfl, rfl, (Or.inl ⟨rfl, (Or.inr (Or.inr (Or.inl (by omega))))⟩)⟩
      · refine zj_iload_n (zdk ttX11_isMarkSign 9 rfl rfl) rfl ?_
        refine zj_bipush (zdk ttX11_isMarkSign 10 rfl rfl) (by decide) ?_
        refine zj_icmp_eq (t := 60) (zdk ttX11_isMarkSign 11 rfl rfl) (by decide) (by omega) (by decide) (fun c4 => ?_) (fun c4 => ?_)
        · refine zj_iconst (zdk ttX11_isMarkSign 30 rfl rfl) ?_
          refine zj_goto (t := 65) (zdk ttX11_isMarkSign 31 rfl rfl) (by decide) ?_
          exact zj_zret rfl (zdk ttX11_isMarkSign 33 rfl rfl) (Nat.le_refl _) (Nat.le_refl _) (by omega) ⟨1, rfl, rfl, (Or.inl ⟨rfl, (Or.inr (Or.inr (Or.inr (Or.inl (by omega)))))⟩)⟩
        · refine zj_iload_n (zdk ttX11_isMarkSign 12 rfl rfl) rfl ?_
          refine zj_bipush (zdk ttX11_isMarkSign 13 rfl rfl) (by decide) ?_
          refine zj_icmp_eq (t := 60) (zdk ttX11_isMarkSign 14 rfl rfl) (by decide) (by omega) (by decide) (fun c5 => ?_) (fun c5 => ?_)
          · refine zj_iconst (zdk ttX11_isMarkSign 30 rfl rfl) ?_
            refine zj_goto (t := 65) (zdk ttX11_isMarkSign 31 rfl rfl) (by decide) ?_
            exact zj_zret rfl (zdk ttX11_isMarkSign 33 rfl rfl) (Nat.le_refl _) (Nat.le_refl _) (by omega) ⟨1, rfl, rfl, (Or.inl ⟨rfl, (Or.inr (Or.inr (Or.inr (Or.inr (Or.inl (by omega))))))⟩)⟩
          · refine zj_iload_n (zdk ttX11_isMarkSign 15 rfl rfl) rfl ?_
            refine zj_bipush (zdk ttX11_isMarkSign 16 rfl rfl) (by decide) ?_
            refine zj_icmp_eq (t := 60) (zdk ttX11_isMarkSign 17 rfl rfl) (by decide) (by omega) (by decide) (fun c6 => ?_) (fun c6 => ?_)
            · refine zj_iconst (zdk ttX11_isMarkSign 30 rfl rfl) ?_
              refine zj_goto (t := 65) (zdk ttX11_isMarkSign 31 rfl rfl) (by decide) ?_
              exact zj_zret rfl (zdk ttX11_isMarkSign 33 rfl rfl) (Nat.le_refl _) (Nat.le_refl _) (by omega) ⟨1, rfl, rfl, (Or.inl ⟨rfl, (Or.inr (Or.inr (Or.inr (Or.inr (Or.inr (Or.inl (by omega)))))))⟩)⟩
            · refine zj_iload_n (zdk ttX11_isMarkSign 18 rfl rfl) rfl ?_
              refine zj_bipush (zdk ttX11_isMarkSign 19 rfl rfl) (by decide) ?_
              refine zj_icmp_eq (t := 60) (zdk ttX11_isMarkSign 20 rfl rfl) (by decide) (by omega) (by decide) (fun c7 => ?_) (fun c7 => ?_)
              · refine zj_iconst (zdk ttX11_isMarkSign 30 rfl rfl) ?_
                refine zj_goto (t := 65) (zdk ttX11_isMarkSign 31 rfl rfl) (by decide) ?_
                exact zj_zret rfl (zdk ttX11_isMarkSign 33 rfl rfl) (Nat.le_refl _) (Nat.le_refl _) (by omega) ⟨1, rfl, rfl, (Or.inl ⟨rfl, (Or.inr (Or.inr (Or.inr (Or.inr (Or.inr (Or.inr (Or.inl (by omega))))))))⟩)⟩
              · refine zj_iload_n (zdk ttX11_isMarkSign 21 rfl rfl) rfl ?_
                refine zj_bipush (zdk ttX11_isMarkSign 22 rfl rfl) (by decide) ?_
                refine zj_icmp_eq (t := 60) (zdk ttX11_isMarkSign 23 rfl rfl) (by decide) (by omega) (by decide) (fun c8 => ?_) (fun c8 => ?_)
                · refine zj_iconst (zdk ttX11_isMarkSign 30 rfl rfl) ?_
                  refine zj_goto (t := 65) (zdk ttX11_isMarkSign 31 rfl rfl) (by decide) ?_
                  exact zj_zret rfl (zdk ttX11_isMarkSign 33 rfl rfl) (Nat.le_refl _) (Nat.le_refl _) (by omega) ⟨1, rfl, rfl, (Or.inl ⟨rfl, (Or.inr (Or.inr (Or.inr (Or.inr (Or.inr (Or.inr (Or.inr (Or.inl (by omega)))))))))⟩)⟩
                · refine zj_iload_n (zdk ttX11_isMarkSign 24 rfl rfl) rfl ?_
                  refine zj_bipush (zdk ttX11_isMarkSign 25 rfl rfl) (by decide) ?_
                  refine zj_icmp_eq (t := 60) (zdk ttX11_isMarkSign 26 rfl rfl) (by decide) (by omega) (by decide) (fun c9 => ?_) (fun c9 => ?_)
                  · refine zj_iconst (zdk ttX11_isMarkSign 30 rfl rfl) ?_
                    refine zj_goto (t := 65) (zdk ttX11_isMarkSign 31 rfl rfl) (by decide) ?_
                    exact zj_zret rfl (zdk ttX11_isMarkSign 33 rfl rfl) (Nat.le_refl _) (Nat.le_refl _) (by omega) ⟨1, rfl, rfl, (Or.inl ⟨rfl, (Or.inr (Or.inr (Or.inr (Or.inr (Or.inr (Or.inr (Or.inr (Or.inr (Or.inl (by omega))))))))))⟩)⟩
                  · refine zj_iload_n (zdk ttX11_isMarkSign 27 rfl rfl) rfl ?_
                    refine zj_bipush (zdk ttX11_isMarkSign 28 rfl rfl) (by decide) ?_
                    refine zj_icmp_ne (t := 64) (zdk ttX11_isMarkSign 29 rfl rfl) (by decide) (by omega) (by decide) (fun c10 => ?_) (fun c10 => ?_)
                    · refine zj_iconst (zdk ttX11_isMarkSign 32 rfl rfl) ?_
                      exact zj_zret rfl (zdk ttX11_isMarkSign 33 rfl rfl) (Nat.le_refl _) (Nat.le_refl _) (by omega) ⟨0, rfl, rfl, (Or.inr ⟨rfl, by omega⟩)⟩
                    · refine zj_iconst (zdk ttX11_isMarkSign 30 rfl rfl) ?_
                      refine zj_goto (t := 65) (zdk ttX11_isMarkSign 31 rfl rfl) (by decide) ?_
                      exact zj_zret rfl (zdk ttX11_isMarkSign 33 rfl rfl) (Nat.le_refl _) (Nat.le_refl _) (by omega) ⟨1, rfl, rfl, (Or.inl ⟨rfl, (Or.inr (Or.inr (Or.inr (Or.inr (Or.inr (Or.inr (Or.inr (Or.inr (Or.inr (by omega))))))))))⟩)⟩

abbrev tX11_canAsk : List (Nat × Instr × Nat) := [(0, .aload_n 0, 1), (1, .iload_n 1, 1), (2, .bipush 7, 2), (4, .bipush 16, 2), (6, .invokevirtual 139, 3), (9, .ireturn, 1)]
theorem ttX11_canAsk : zdt cX11_canAsk tX11_canAsk = true := by decide +kernel
abbrev q_X11_canAsk (h : zM) (p1 : Int) : Option zV → zM → Prop := zqi fun v h' => h = h' ∧ ((v = 0 ∧ (((p1 < 7) ∨ (7 ≤ p1 ∧ 16 < p1)))) ∨ (v = 1 ∧ ((7 ≤ p1 ∧ p1 ≤ 16))))
set_option maxRecDepth 100000 in
set_option maxHeartbeats 4000000 in
theorem s_X11_canAsk (l : Launch) (h : zM) (p1 : Int) (s0 : okM h) (b_p1 : (-2147483648) ≤ p1 ∧ p1 ≤ 2147483647) : zT shM l yX11_canAsk cX11_canAsk 2 (some .boolean) (rmL 2) 0 0 [.inr 0, .inl p1] h (q_X11_canAsk h p1) := by
  refine zT_of (by decide +kernel) (L0 := [some (.inr 0), some (.inl p1)]) rfl (Nat.le_of_ble_eq_true rfl) ?_
  refine zj_aload_n (zdk ttX11_canAsk 0 rfl rfl) rfl (by decide) ?_
  refine zj_iload_n (zdk ttX11_canAsk 1 rfl rfl) rfl ?_
  refine zj_bipush (zdk ttX11_canAsk 2 rfl rfl) (by decide) ?_
  refine zj_bipush (zdk ttX11_canAsk 3 rfl rfl) (by decide) ?_
  refine zj_callV (av := [.inl p1, .inl 7, .inl 16]) (st := []) (zdk ttX11_canAsk 4 rfl rfl) mb_X11_isIn mv_RX11_139 (ci := 11) rfl rfl (k_M s0) rfl rfl (Nat.le_of_ble_eq_true rfl) (s_X11_isIn l h p1 7 16 s0 (by omega) (by omega) (by omega)) (rm_ok (by decide) (by decide)) (zq_i fun v2 h3 q1 => ?_)
  obtain ⟨rfl, ⟨rfl, b4⟩ | ⟨rfl, b4⟩⟩ := q1
  · exact zj_zret rfl (zdk ttX11_canAsk 5 rfl rfl) (Nat.le_refl _) (Nat.le_refl _) (by omega) ⟨0, rfl, rfl, (Or.inl ⟨rfl, by omega⟩)⟩
  · exact zj_zret rfl (zdk ttX11_canAsk 5 rfl rfl) (Nat.le_refl _) (Nat.le_refl _) (by omega) ⟨1, rfl, rfl, (Or.inr ⟨rfl, by omega⟩)⟩

abbrev tX11_isWord : List (Nat × Instr × Nat) := [(0, .aload_n 0, 1), (1, .getfield 166, 3), (4, .iconst 2, 1), (5, .if_icmp .ne 15, 3), (8, .aload_n 0, 1), (9, .getfield 169, 3), (12, .iload_n 1, 1), (13, .if_icmp .ne 7, 3), (16, .iconst 1, 1), (17, .goto 4, 3), (20, .iconst 0, 1), (21, .ireturn, 1)]
theorem ttX11_isWord : zdt cX11_isWord tX11_isWord = true := by decide +kernel
abbrev q_X11_isWord (h : zM) (p1 : Int) : Option zV → zM → Prop := zqi fun v h' => h = h' ∧ (0 ≤ (h.2 0 14) ∧ (h.2 0 14) ≤ 4) ∧ ((-2147483648) ≤ (h.2 0 15) ∧ (h.2 0 15) ≤ 2147483647) ∧ ((v = 0 ∧ ((¬ (h.2 0 14) = 2) ∨ ((h.2 0 14) = 2 ∧ ¬ (h.2 0 15) = p1))) ∨ (v = 1 ∧ ((h.2 0 14) = 2 ∧ (h.2 0 15) = p1)))
set_option maxRecDepth 100000 in
set_option maxHeartbeats 4000000 in
theorem s_X11_isWord (l : Launch) (h : zM) (p1 : Int) (s0 : okM h) (b_p1 : (-2147483648) ≤ p1 ∧ p1 ≤ 2147483647) : zT shM l yX11_isWord cX11_isWord 2 (some .boolean) (rmL 1) 0 0 [.inr 0, .inl p1] h (q_X11_isWord h p1) := by
  refine zT_of (by decide +kernel) (L0 := [some (.inr 0), some (.inl p1)]) rfl (Nat.le_of_ble_eq_true rfl) ?_
  have b1 : 0 ≤ (h.2 0 14) ∧ (h.2 0 14) ≤ 4 := fM_14 s0
  have b2 : (-2147483648) ≤ (h.2 0 15) ∧ (h.2 0 15) ≤ 2147483647 := fM_15 s0
  refine zj_aload_n (zdk ttX11_isWord 0 rfl rfl) rfl (by decide) ?_
  refine zj_geti (v := (h.2 0 14)) (zdk ttX11_isWord 1 rfl rfl) zf_RX11_166 rfl (k_M s0) rfl ?_
  refine zj_iconst (zdk ttX11_isWord 2 rfl rfl) ?_
  refine zj_icmp_ne (t := 20) (zdk ttX11_isWord 3 rfl rfl) (by decide) (by omega) (by decide) (fun c3 => ?_) (fun c3 => ?_)
  · refine zj_iconst (zdk ttX11_isWord 10 rfl rfl) ?_
    exact zj_zret rfl (zdk ttX11_isWord 11 rfl rfl) (Nat.le_refl _) (Nat.le_refl _) (by omega) ⟨0, rfl, rfl, b1, b2, (Or.inl ⟨rfl, (Or.inl (by omega))⟩)⟩
  · refine zj_aload_n (zdk ttX11_isWord 4 rfl rfl) rfl (by decide) ?_
    refine zj_geti (v := (h.2 0 15)) (zdk ttX11_isWord 5 rfl rfl) zf_RX11_169 rfl (k_M s0) rfl ?_
    refine zj_iload_n (zdk ttX11_isWord 6 rfl rfl) rfl ?_
    refine zj_icmp_ne (t := 20) (zdk ttX11_isWord 7 rfl rfl) (by decide) (by omega) (by omega) (fun c4 => ?_) (fun c4 => ?_)
    · refine zj_iconst (zdk ttX11_isWord 10 rfl rfl) ?_
      exact zj_zret rfl (zdk ttX11_isWord 11 rfl rfl) (Nat.le_refl _) (Nat.le_refl _) (by omega) ⟨0, rfl, rfl, b1, b2, (Or.inl ⟨rfl, (Or.inr (by omega))⟩)⟩
    · refine zj_iconst (zdk ttX11_isWord 8 rfl rfl) ?_
      refine zj_goto (t := 21) (zdk ttX11_isWord 9 rfl rfl) (by decide) ?_
      exact zj_zret rfl (zdk ttX11_isWord 11 rfl rfl) (Nat.le_refl _) (Nat.le_refl _) (by omega) ⟨1, rfl, rfl, b1, b2, (Or.inr ⟨rfl, by omega⟩)⟩

abbrev tX11_isSign : List (Nat × Instr × Nat) := [(0, .aload_n 0, 1), (1, .getfield 166, 3), (4, .iconst 4, 1), (5, .if_icmp .ne 15, 3), (8, .aload_n 0, 1), (9, .getfield 169, 3), (12, .iload_n 1, 1), (13, .if_icmp .ne 7, 3), (16, .iconst 1, 1), (17, .goto 4, 3), (20, .iconst 0, 1), (21, .ireturn, 1)]
theorem ttX11_isSign : zdt cX11_isSign tX11_isSign = true := by decide +kernel
abbrev q_X11_isSign (h : zM) (p1 : Int) : Option zV → zM → Prop := zqi fun v h' => h = h' ∧ (0 ≤ (h.2 0 14) ∧ (h.2 0 14) ≤ 4) ∧ ((-2147483648) ≤ (h.2 0 15) ∧ (h.2 0 15) ≤ 2147483647) ∧ ((v = 0 ∧ ((¬ (h.2 0 14) = 4) ∨ ((h.2 0 14) = 4 ∧ ¬ (h.2 0 15) = p1))) ∨ (v = 1 ∧ ((h.2 0 14) = 4 ∧ (h.2 0 15) = p1)))
set_option maxRecDepth 100000 in
set_option maxHeartbeats 4000000 in
theorem s_X11_isSign (l : Launch) (h : zM) (p1 : Int) (s0 : okM h) (b_p1 : (-2147483648) ≤ p1 ∧ p1 ≤ 2147483647) : zT shM l yX11_isSign cX11_isSign 2 (some .boolean) (rmL 1) 0 0 [.inr 0, .inl p1] h (q_X11_isSign h p1) := by
  refine zT_of (by decide +kernel) (L0 := [some (.inr 0), some (.inl p1)]) rfl (Nat.le_of_ble_eq_true rfl) ?_
  have b1 : 0 ≤ (h.2 0 14) ∧ (h.2 0 14) ≤ 4 := fM_14 s0
  have b2 : (-2147483648) ≤ (h.2 0 15) ∧ (h.2 0 15) ≤ 2147483647 := fM_15 s0
  refine zj_aload_n (zdk ttX11_isSign 0 rfl rfl) rfl (by decide) ?_
  refine zj_geti (v := (h.2 0 14)) (zdk ttX11_isSign 1 rfl rfl) zf_RX11_166 rfl (k_M s0) rfl ?_
  refine zj_iconst (zdk ttX11_isSign 2 rfl rfl) ?_
  refine zj_icmp_ne (t := 20) (zdk ttX11_isSign 3 rfl rfl) (by decide) (by omega) (by decide) (fun c3 => ?_) (fun c3 => ?_)
  · refine zj_iconst (zdk ttX11_isSign 10 rfl rfl) ?_
    exact zj_zret rfl (zdk ttX11_isSign 11 rfl rfl) (Nat.le_refl _) (Nat.le_refl _) (by omega) ⟨0, rfl, rfl, b1, b2, (Or.inl ⟨rfl, (Or.inl (by omega))⟩)⟩
  · refine zj_aload_n (zdk ttX11_isSign 4 rfl rfl) rfl (by decide) ?_
    refine zj_geti (v := (h.2 0 15)) (zdk ttX11_isSign 5 rfl rfl) zf_RX11_169 rfl (k_M s0) rfl ?_
    refine zj_iload_n (zdk ttX11_isSign 6 rfl rfl) rfl ?_
    refine zj_icmp_ne (t := 20) (zdk ttX11_isSign 7 rfl rfl) (by decide) (by omega) (by omega) (fun c4 => ?_) (fun c4 => ?_)
    · refine zj_iconst (zdk ttX11_isSign 10 rfl rfl) ?_
      exact zj_zret rfl (zdk ttX11_isSign 11 rfl rfl) (Nat.le_refl _) (Nat.le_refl _) (by omega) ⟨0, rfl, rfl, b1, b2, (Or.inl ⟨rfl, (Or.inr (by omega))⟩)⟩
    · refine zj_iconst (zdk ttX11_isSign 8 rfl rfl) ?_
      refine zj_goto (t := 21) (zdk ttX11_isSign 9 rfl rfl) (by decide) ?_
      exact zj_zret rfl (zdk ttX11_isSign 11 rfl rfl) (Nat.le_refl _) (Nat.le_refl _) (by omega) ⟨1, rfl, rfl, b1, b2, (Or.inr ⟨rfl, by omega⟩)⟩

abbrev tX11_isLineWord : List (Nat × Instr × Nat) := [(0, .aload_n 0, 1), (1, .getfield 166, 3), (4, .iconst 2, 1), (5, .if_icmp .ne 20, 3), (8, .aload_n 0, 1), (9, .aload_n 0, 1), (10, .getfield 169, 3), (13, .iconst 0, 1), (14, .iconst 2, 1), (15, .invokevirtual 139, 3), (18, .ifCond .eq 7, 3), (21, .iconst 1, 1), (22, .goto 4, 3), (25, .iconst 0, 1), (26, .ireturn, 1)]
theorem ttX11_isLineWord : zdt cX11_isLineWord tX11_isLineWord = true := by decide +kernel
abbrev q_X11_isLineWord (h : zM) : Option zV → zM → Prop := zqi fun v h' => h = h' ∧ (0 ≤ (h.2 0 14) ∧ (h.2 0 14) ≤ 4) ∧ ((-2147483648) ≤ (h.2 0 15) ∧ (h.2 0 15) ≤ 2147483647) ∧ ((v = 0 ∧ ((¬ (h.2 0 14) = 2) ∨ ((h.2 0 14) = 2 ∧ (((h.2 0 15) < 0) ∨ (0 ≤ (h.2 0 15) ∧ 2 < (h.2 0 15)))))) ∨ (v = 1 ∧ ((h.2 0 14) = 2 ∧ (0 ≤ (h.2 0 15) ∧ (h.2 0 15) ≤ 2))))
set_option maxRecDepth 100000 in
set_option maxHeartbeats 4000000 in
theorem s_X11_isLineWord (l : Launch) (h : zM) (s0 : okM h) : zT shM l yX11_isLineWord cX11_isLineWord 1 (some .boolean) (rmL 2) 0 0 [.inr 0] h (q_X11_isLineWord h) := by
  refine zT_of (by decide +kernel) (L0 := [some (.inr 0)]) rfl (Nat.le_of_ble_eq_true rfl) ?_
  have b1 : 0 ≤ (h.2 0 14) ∧ (h.2 0 14) ≤ 4 := fM_14 s0
  have b2 : (-2147483648) ≤ (h.2 0 15) ∧ (h.2 0 15) ≤ 2147483647 := fM_15 s0
  refine zj_aload_n (zdk ttX11_isLineWord 0 rfl rfl) rfl (by decide) ?_
  refine zj_geti (v := (h.2 0 14)) (zdk ttX11_isLineWord 1 rfl rfl) zf_RX11_166 rfl (k_M s0) rfl ?_
  refine zj_iconst (zdk ttX11_isLineWord 2 rfl rfl) ?_
  refine zj_icmp_ne (t := 25) (zdk ttX11_isLineWord 3 rfl rfl) (by decide) (by omega) (by decide) (fun c3 => ?_) (fun c3 => ?_)
  · refine zj_iconst (zdk ttX11_isLineWord 13 rfl rfl) ?_
    exact zj_zret rfl (zdk ttX11_isLineWord 14 rfl rfl) (Nat.le_refl _) (Nat.le_refl _) (by omega) ⟨0, rfl, rfl, b1, b2, (Or.inl ⟨rfl, (Or.inl (by omega))⟩)⟩
  · refine zj_aload_n (zdk ttX11_isLineWord 4 rfl rfl) rfl (by decide) ?_
    refine zj_aload_n (zdk ttX11_isLineWord 5 rfl rfl) rfl (by decide) ?_
    refine zj_geti (v := (h.2 0 15)) (zdk ttX11_isLineWord 6 rfl rfl) zf_RX11_169 rfl (k_M s0) rfl ?_
    refine zj_iconst (zdk ttX11_isLineWord 7 rfl rfl) ?_
    refine zj_iconst (zdk ttX11_isLineWord 8 rfl rfl) ?_
    refine zj_callV (av := [.inl (h.2 0 15), .inl 0, .inl 2]) (st := []) (zdk ttX11_isLineWord 9 rfl rfl) mb_X11_isIn mv_RX11_139 (ci := 11) rfl rfl (k_M s0) rfl rfl (Nat.le_of_ble_eq_true rfl) (s_X11_isIn l h (h.2 0 15) 0 2 s0 (by omega) (by omega) (by omega)) (rm_ok (by decide) (by decide)) (zq_i fun v5 h6 q4 => ?_)
    obtain ⟨rfl, ⟨rfl, b7⟩ | ⟨rfl, b7⟩⟩ := q4
    · refine zj_if_eq (t := 25) (zdk ttX11_isLineWord 10 rfl rfl) (by decide) (by decide) (fun c8 => ?_) (fun c8 => ?_)
      · refine zj_iconst (zdk ttX11_isLineWord 13 rfl rfl) ?_
        exact zj_zret rfl (zdk ttX11_isLineWord 14 rfl rfl) (Nat.le_refl _) (Nat.le_refl _) (by omega) ⟨0, rfl, rfl, b1, b2, (Or.inl ⟨rfl, (Or.inr (by omega))⟩)⟩
      · exact absurd c8 (by omega)
    · refine zj_if_eq (t := 25) (zdk ttX11_isLineWord 10 rfl rfl) (by decide) (by decide) (fun c9 => ?_) (fun c9 => ?_)
      · exact absurd c9 (by omega)
      · refine zj_iconst (zdk ttX11_isLineWord 11 rfl rfl) ?_
        refine zj_goto (t := 26) (zdk ttX11_isLineWord 12 rfl rfl) (by decide) ?_
        exact zj_zret rfl (zdk ttX11_isLineWord 14 rfl rfl) (Nat.le_refl _) (Nat.le_refl _) (by omega) ⟨1, rfl, rfl, b1, b2, (Or.inr ⟨rfl, by omega⟩)⟩

abbrev tX11_kindOfDeed : List (Nat × Instr × Nat) := [(0, .aload_n 0, 1), (1, .bipush 21, 2), (3, .invokevirtual 226, 3), (6, .ifCond .eq 5, 3), (9, .iconst 0, 1), (10, .ireturn, 1), (11, .aload_n 0, 1), (12, .bipush 23, 2), (14, .invokevirtual 226, 3), (17, .ifCond .eq 5, 3), (20, .iconst 1, 1), (21, .ireturn, 1), (22, .aload_n 0, 1), (23, .bipush 14, 2), (25, .invokevirtual 226, 3), (28, .ifCond .eq 5, 3), (31, .iconst 2, 1), (32, .ireturn, 1), (33, .aload_n 0, 1), (34, .getfield 166, 3), (37, .iconst 2, 1), (38, .if_icmp .ne 30, 3), (41, .aload_n 0, 1), (42, .aload_n 0, 1), (43, .getfield 169, 3), (46, .bipush 24, 2), (48, .bipush 26, 2), (50, .invokevirtual 139, 3), (53, .ifCond .eq 15, 3), (56, .iconst 3, 1), (57, .aload_n 0, 1), (58, .getfield 169, 3), (61, .iadd, 1), (62, .bipush 24, 2), (64, .isub, 1), (65, .goto 4, 3), (68, .iconst (-1), 1), (69, .ireturn, 1)]
theorem ttX11_kindOfDeed : zdt cX11_kindOfDeed tX11_kindOfDeed = true := by decide +kernel
abbrev q_X11_kindOfDeed (h : zM) : Option zV → zM → Prop := zqi fun v h' => h = h' ∧ (0 ≤ (h.2 0 14) ∧ (h.2 0 14) ≤ 4) ∧ ((-2147483648) ≤ (h.2 0 15) ∧ (h.2 0 15) ≤ 2147483647) ∧ ((v = (-1) ∧ ((((¬ (h.2 0 14) = 2) ∨ ((h.2 0 14) = 2 ∧ ¬ (h.2 0 15) = 21)) ∧ ((¬ (h.2 0 14) = 2) ∨ ((h.2 0 14) = 2 ∧ ¬ (h.2 0 15) = 23)) ∧ ((¬ (h.2 0 14) = 2) ∨ ((h.2 0 14) = 2 ∧ ¬ (h.2 0 15) = 14)) ∧ ¬ (h.2 0 14) = 2) ∨ (((¬ (h.2 0 14) = 2) ∨ ((h.2 0 14) = 2 ∧ ¬ (h.2 0 15) = 21)) ∧ ((¬ (h.2 0 14) = 2) ∨ ((h.2 0 14) = 2 ∧ ¬ (h.2 0 15) = 23)) ∧ ((¬ (h.2 0 14) = 2) ∨ ((h.2 0 14) = 2 ∧ ¬ (h.2 0 15) = 14)) ∧ (h.2 0 14) = 2 ∧ (((h.2 0 15) < 24) ∨ (24 ≤ (h.2 0 15) ∧ 26 < (h.2 0 15)))))) ∨ ((((¬ (h.2 0 14) = 2) ∨ ((h.2 0 14) = 2 ∧ ¬ (h.2 0 15) = 21)) ∧ ((¬ (h.2 0 14) = 2) ∨ ((h.2 0 14) = 2 ∧ ¬ (h.2 0 15) = 23)) ∧ ((¬ (h.2 0 14) = 2) ∨ ((h.2 0 14) = 2 ∧ ¬ (h.2 0 15) = 14)) ∧ (h.2 0 14) = 2 ∧ (24 ≤ (h.2 0 15) ∧ (h.2 0 15) ≤ 26)) ∧ v = ((3 + (h.2 0 15)) - 24) ∧ 3 ≤ v ∧ v ≤ 5) ∨ (v = 2 ∧ (((¬ (h.2 0 14) = 2) ∨ ((h.2 0 14) = 2 ∧ ¬ (h.2 0 15) = 21)) ∧ ((¬ (h.2 0 14) = 2) ∨ ((h.2 0 14) = 2 ∧ ¬ (h.2 0 15) = 23)) ∧ ((h.2 0 14) = 2 ∧ (h.2 0 15) = 14))) ∨ (v = 1 ∧ (((¬ (h.2 0 14) = 2) ∨ ((h.2 0 14) = 2 ∧ ¬ (h.2 0 15) = 21)) ∧ ((h.2 0 14) = 2 ∧ (h.2 0 15) = 23))) ∨ (v = 0 ∧ (((h.2 0 14) = 2 ∧ (h.2 0 15) = 21))))
set_option maxRecDepth 100000 in
set_option maxHeartbeats 4000000 in
theorem s_X11_kindOfDeed (l : Launch) (h : zM) (s0 : okM h) : zT shM l yX11_kindOfDeed cX11_kindOfDeed 1 (some .int) (rmL 2) 0 0 [.inr 0] h (q_X11_kindOfDeed h) := by
  refine zT_of (by decide +kernel) (L0 := [some (.inr 0)]) rfl (Nat.le_of_ble_eq_true rfl) ?_
  have b1 : 0 ≤ (h.2 0 14) ∧ (h.2 0 14) ≤ 4 := fM_14 s0
  have b2 : (-2147483648) ≤ (h.2 0 15) ∧ (h.2 0 15) ≤ 2147483647 := fM_15 s0
  refine zj_aload_n (zdk ttX11_kindOfDeed 0 rfl rfl) rfl (by decide) ?_
  refine zj_bipush (zdk ttX11_kindOfDeed 1 rfl rfl) (by decide) ?_
  refine zj_callV (av := [.inl 21]) (st := []) (zdk ttX11_kindOfDeed 2 rfl rfl) mb_X11_isWord mv_RX11_226 (ci := 11) rfl rfl (k_M s0) rfl rfl (Nat.le_of_ble_eq_true rfl) (s_X11_isWord l h 21 s0 (by omega)) (rm_ok (by decide) (by decide)) (zq_i fun v4 h5 q3 => ?_)
  obtain ⟨rfl, b7, b8, ⟨rfl, b6⟩ | ⟨rfl, b6⟩⟩ := q3
  · refine zj_if_eq (t := 11) (zdk ttX11_kindOfDeed 3 rfl rfl) (by decide) (by decide) (fun c9 => ?_) (fun c9 => ?_)
    · refine zj_aload_n (zdk ttX11_kindOfDeed 6 rfl rfl) rfl (by decide) ?_
      refine zj_bipush (zdk ttX11_kindOfDeed 7 rfl rfl) (by decide) ?_
      refine zj_callV (av := [.inl 23]) (st := []) (zdk ttX11_kindOfDeed 8 rfl rfl) mb_X11_isWord mv_RX11_226 (ci := 11) rfl rfl (k_M s0) rfl rfl (Nat.le_of_ble_eq_true rfl) (s_X11_isWord l h 23 s0 (by omega)) (rm_ok (by decide) (by decide)) (zq_i fun v11 h12 q10 => ?_)
      obtain ⟨rfl, b14, b15, ⟨rfl, b13⟩ | ⟨rfl, b13⟩⟩ := q10
      · refine zj_if_eq (t := 22) (zdk ttX11_kindOfDeed 9 rfl rfl) (by decide) (by decide) (fun c16 => ?_) (fun c16 => ?_)
        · refine zj_aload_n (zdk ttX11_kindOfDeed 12 rfl rfl) rfl (by decide) ?_
          refine zj_bipush (zdk ttX11_kindOfDeed 13 rfl rfl) (by decide) ?_
          refine zj_callV (av := [.inl 14]) (st := []) (zdk ttX11_kindOfDeed 14 rfl rfl) mb_X11_isWord mv_RX11_226 (ci := 11) rfl rfl (k_M s0) rfl rfl (Nat.le_of_ble_eq_true rfl) (s_X11_isWord l h 14 s0 (by omega)) (rm_ok (by decide) (by decide)) (zq_i fun v18 h19 q17 => ?_)
          obtain ⟨rfl, b21, b22, ⟨rfl, b20⟩ | ⟨rfl, b20⟩⟩ := q17
          · refine zj_if_eq (t := 33) (zdk ttX11_kindOfDeed 15 rfl rfl) (by decide) (by decide) (fun c23 => ?_) (fun c23 => ?_)
            · refine zj_aload_n (zdk ttX11_kindOfDeed 18 rfl rfl) rfl (by decide) ?_
              refine zj_geti (v := (h.2 0 14)) (zdk ttX11_kindOfDeed 19 rfl rfl) zf_RX11_166 rfl (k_M s0) rfl ?_
              refine zj_iconst (zdk ttX11_kindOfDeed 20 rfl rfl) ?_
              refine zj_icmp_ne (t := 68) (zdk ttX11_kindOfDeed 21 rfl rfl) (by decide) (by omega) (by decide) (fun c24 => ?_) (fun c24 => ?_)
              · refine zj_iconst (zdk ttX11_kindOfDeed 36 rfl rfl) ?_
                exact zj_iret rfl (zdk ttX11_kindOfDeed 37 rfl rfl) (Nat.le_refl _) (Nat.le_refl _) ⟨(-1), rfl, rfl, b1, b2, (Or.inl ⟨rfl, (Or.inl (by omega))⟩)⟩
              · refine zj_aload_n (zdk ttX11_kindOfDeed 22 rfl rfl) rfl (by decide) ?_
                refine zj_aload_n (zdk ttX11_kindOfDeed 23 rfl rfl) rfl (by decide) ?_
                refine zj_geti (v := (h.2 0 15)) (zdk ttX11_kindOfDeed 24 rfl rfl) zf_RX11_169 rfl (k_M s0) rfl ?_
                refine zj_bipush (zdk ttX11_kindOfDeed 25 rfl rfl) (by decide) ?_
                refine zj_bipush (zdk ttX11_kindOfDeed 26 rfl rfl) (by decide) ?_
                refine zj_callV (av := [.inl (h.2 0 15), .inl 24, .inl 26]) (st := []) (zdk ttX11_kindOfDeed 27 rfl rfl) mb_X11_isIn mv_RX11_139 (ci := 11) rfl rfl (k_M s0) rfl rfl (Nat.le_of_ble_eq_true rfl) (s_X11_isIn l h (h.2 0 15) 24 26 s0 (by omega) (by omega) (by omega)) (rm_ok (by decide) (by decide)) (zq_i fun v26 h27 q25 => ?_)
                obtain ⟨rfl, ⟨rfl, b28⟩ | ⟨rfl, b28⟩⟩ := q25
                · refine zj_if_eq (t := 68) (zdk ttX11_kindOfDeed 28 rfl rfl) (by decide) (by decide) (fun c29 => ?_) (fun c29 => ?_)
                  · refine zj_iconst (zdk ttX11_kindOfDeed 36 rfl rfl) ?_
                    exact zj_iret rfl (zdk ttX11_kindOfDeed 37 rfl rfl) (Nat.le_refl _) (Nat.le_refl _) ⟨(-1), rfl, rfl, b1, b2, (Or.inl ⟨rfl, (Or.inr (by omega))⟩)⟩
                  · exact absurd c29 (by omega)
                · refine zj_if_eq (t := 68) (zdk ttX11_kindOfDeed 28 rfl rfl) (by decide) (by decide) (fun c30 => ?_) (fun c30 => ?_)
                  · exact absurd c30 (by omega)
                  · refine zj_iconst (zdk ttX11_kindOfDeed 29 rfl rfl) ?_
                    refine zj_aload_n (zdk ttX11_kindOfDeed 30 rfl rfl) rfl (by decide) ?_
                    refine zj_geti (v := (h.2 0 15)) (zdk ttX11_kindOfDeed 31 rfl rfl) zf_RX11_169 rfl (k_M s0) rfl ?_
                    refine zj_iadd (zdk ttX11_kindOfDeed 32 rfl rfl) ?_
                    refine zj_bipush (zdk ttX11_kindOfDeed 33 rfl rfl) (by decide) ?_
                    refine zj_isub (zdk ttX11_kindOfDeed 34 rfl rfl) ?_
                    refine zj_goto (t := 69) (zdk ttX11_kindOfDeed 35 rfl rfl) (by decide) ?_
                    exact zj_iret rfl (zdk ttX11_kindOfDeed 37 rfl rfl) (Nat.le_refl _) (Nat.le_refl _) ⟨((3 + (h.2 0 15)) - 24), rfl, rfl, b1, b2, (Or.inr (Or.inl ⟨by omega, rfl, by omega⟩))⟩
            · exact absurd c23 (by omega)
          · refine zj_if_eq (t := 33) (zdk ttX11_kindOfDeed 15 rfl rfl) (by decide) (by decide) (fun c31 => ?_) (fun c31 => ?_)
            · exact absurd c31 (by omega)
            · refine zj_iconst (zdk ttX11_kindOfDeed 16 rfl rfl) ?_
              exact zj_iret rfl (zdk ttX11_kindOfDeed 17 rfl rfl) (Nat.le_refl _) (Nat.le_refl _) ⟨2, rfl, rfl, b1, b2, (Or.inr (Or.inr (Or.inl ⟨rfl, by omega⟩)))⟩
        · exact absurd c16 (by omega)
      · refine zj_if_eq (t := 22) (zdk ttX11_kindOfDeed 9 rfl rfl) (by decide) (by decide) (fun c32 => ?_) (fun c32 => ?_)
        · exact absurd c32 (by omega)
        · refine zj_iconst (zdk ttX11_kindOfDeed 10 rfl rfl) ?_
          exact zj_iret rfl (zdk ttX11_kindOfDeed 11 rfl rfl) (Nat.le_refl _) (Nat.le_refl _) ⟨1, rfl, rfl, b1, b2, (Or.inr (Or.inr (Or.inr (Or.inl ⟨rfl, by omega⟩))))⟩
    · exact absurd c9 (by omega)
  · refine zj_if_eq (t := 11) (zdk ttX11_kindOfDeed 3 rfl rfl) (by decide) (by decide) (fun c33 => ?_) (fun c33 => ?_)
    · exact absurd c33 (by omega)
    · refine zj_iconst (zdk ttX11_kindOfDeed 4 rfl rfl) ?_
      exact zj_iret rfl (zdk ttX11_kindOfDeed 5 rfl rfl) (Nat.le_refl _) (Nat.le_refl _) ⟨0, rfl, rfl, b1, b2, (Or.inr (Or.inr (Or.inr (Or.inr ⟨rfl, by omega⟩))))⟩

abbrev tX11_strokesAt : List (Nat × Instr × Nat) := [(0, .iload_n 1, 1), (1, .bipush 60, 2), (3, .irem, 1), (4, .ifCond .eq 7, 3), (7, .iconst 0, 1), (8, .goto 16, 3), (11, .iload_n 1, 1), (12, .ifCond .ne 8, 3), (15, .bipush 12, 2), (17, .goto 7, 3), (20, .iload_n 1, 1), (21, .bipush 60, 2), (23, .idiv, 1), (24, .ireturn, 1)]
theorem ttX11_strokesAt : zdt cX11_strokesAt tX11_strokesAt = true := by decide +kernel
abbrev q_X11_strokesAt (h : zM) (p1 : Int) : Option zV → zM → Prop := zqi fun v h' => h = h' ∧ ((((p1.tmod 60) = 0 ∧ ¬ p1 = 0) ∧ v = (p1.tdiv 60) ∧ (-35791394) ≤ v ∧ v ≤ 35791394) ∨ (v = 12 ∧ ((p1.tmod 60) = 0 ∧ p1 = 0)) ∨ (v = 0 ∧ (¬ (p1.tmod 60) = 0)))
set_option maxRecDepth 100000 in
set_option maxHeartbeats 4000000 in
theorem s_X11_strokesAt (l : Launch) (h : zM) (p1 : Int) (s0 : okM h) (b_p1 : (-2147483648) ≤ p1 ∧ p1 ≤ 2147483647) : zT shM l yX11_strokesAt cX11_strokesAt 2 (some .int) (rmL 1) 0 0 [.inr 0, .inl p1] h (q_X11_strokesAt h p1) := by
  refine zT_of (by decide +kernel) (L0 := [some (.inr 0), some (.inl p1)]) rfl (Nat.le_of_ble_eq_true rfl) ?_
  refine zj_iload_n (zdk ttX11_strokesAt 0 rfl rfl) rfl ?_
  refine zj_bipush (zdk ttX11_strokesAt 1 rfl rfl) (by decide) ?_
  refine zj_irem (zdk ttX11_strokesAt 2 rfl rfl) (by omega) (by decide) (by omega) ?_
  have b1 := ztm_c p1 60 (by decide)
  refine zj_if_eq (t := 11) (zdk ttX11_strokesAt 3 rfl rfl) (by decide) (by omega) (fun c2 => ?_) (fun c2 => ?_)
  · refine zj_iload_n (zdk ttX11_strokesAt 6 rfl rfl) rfl ?_
    refine zj_if_ne (t := 20) (zdk ttX11_strokesAt 7 rfl rfl) (by decide) (by omega) (fun c3 => ?_) (fun c3 => ?_)
    · refine zj_iload_n (zdk ttX11_strokesAt 10 rfl rfl) rfl ?_
      refine zj_bipush (zdk ttX11_strokesAt 11 rfl rfl) (by decide) ?_
      refine zj_idiv (zdk ttX11_strokesAt 12 rfl rfl) (by omega) (by decide) (by omega) ?_
      have b4 := ztd_c p1 60 (by decide)
      exact zj_iret rfl (zdk ttX11_strokesAt 13 rfl rfl) (Nat.le_refl _) (Nat.le_refl _) ⟨(p1.tdiv 60), rfl, rfl, (Or.inl ⟨by omega, rfl, by omega⟩)⟩
    · refine zj_bipush (zdk ttX11_strokesAt 8 rfl rfl) (by decide) ?_
      refine zj_goto (t := 24) (zdk ttX11_strokesAt 9 rfl rfl) (by decide) ?_
      exact zj_iret rfl (zdk ttX11_strokesAt 13 rfl rfl) (Nat.le_refl _) (Nat.le_refl _) ⟨12, rfl, rfl, (Or.inr (Or.inl ⟨rfl, by omega⟩))⟩
  · refine zj_iconst (zdk ttX11_strokesAt 4 rfl rfl) ?_
    refine zj_goto (t := 24) (zdk ttX11_strokesAt 5 rfl rfl) (by decide) ?_
    exact zj_iret rfl (zdk ttX11_strokesAt 13 rfl rfl) (Nat.le_refl _) (Nat.le_refl _) ⟨0, rfl, rfl, (Or.inr (Or.inr ⟨rfl, by omega⟩))⟩

abbrev tX11_canSet : List (Nat × Instr × Nat) := [(0, .iload_n 1, 1), (1, .ifCond .eq 8, 3), (4, .iload_n 1, 1), (5, .iconst 1, 1), (6, .if_icmp .ne 46, 3), (9, .aload_n 0, 1), (10, .iload_n 2, 1), (11, .invokevirtual 143, 3), (14, .ifCond .eq 36, 3), (17, .aload_n 0, 1), (18, .iload_n 3, 1), (19, .iload_n 1, 1), (20, .ifCond .ne 7, 3), (23, .iconst 1, 1), (24, .goto 4, 3), (27, .iconst 0, 1), (28, .iload_n 1, 1), (29, .ifCond .ne 9, 3), (32, .sipush 200, 3), (35, .goto 5, 3), (38, .bipush 9, 2), (40, .invokevirtual 139, 3), (43, .ifCond .eq 7, 3), (46, .iconst 1, 1), (47, .goto 4, 3), (50, .iconst 0, 1), (51, .ireturn, 1), (52, .iload_n 1, 1), (53, .iconst 2, 1), (54, .if_icmp .ne 15, 3), (57, .aload_n 0, 1), (58, .iload_n 3, 1), (59, .iconst 0, 1), (60, .sipush 719, 3), (63, .invokevirtual 139, 3), (66, .ifCond .ne 39, 3), (69, .iload_n 1, 1), (70, .iconst 3, 1), (71, .if_icmp .ne 17, 3), (74, .aload_n 0, 1), (75, .iload_n 3, 1), (76, .sipush (-9999), 3), (79, .sipush 9999, 3), (82, .invokevirtual 139, 3), (85, .ifCond .ne 20, 3), (88, .iload_n 1, 1), (89, .iconst 4, 1), (90, .if_icmp .ne 19, 3), (93, .aload_n 0, 1), (94, .iload_n 3, 1), (95, .iconst 0, 1), (96, .sipush 9999, 3), (99, .invokevirtual 139, 3), (102, .ifCond .eq 7, 3), (105, .iconst 1, 1), (106, .goto 4, 3), (109, .iconst 0, 1), (110, .ireturn, 1)]
theorem ttX11_canSet : zdt cX11_canSet tX11_canSet = true := by decide +kernel
abbrev q_X11_canSet (h : zM) (p1 : Int) (p2 : Int) (p3 : Int) : Option zV → zM → Prop := zqi fun v h' => h = h' ∧ (0 ≤ (h.2 0 6) ∧ (h.2 0 6) ≤ 18) ∧ ((v = 0 ∧ ((p1 = 0 ∧ ((p2 < 0) ∨ (0 ≤ p2 ∧ (h.2 0 6) ≤ p2))) ∨ (p1 = 0 ∧ (0 ≤ p2 ∧ p2 < (h.2 0 6)) ∧ p1 = 0 ∧ p1 = 0 ∧ ((p3 < 1) ∨ (1 ≤ p3 ∧ 200 < p3))) ∨ (¬ p1 = 0 ∧ ¬ p1 = 1 ∧ ¬ p1 = 2 ∧ ¬ p1 = 3 ∧ ¬ p1 = 4) ∨ (¬ p1 = 0 ∧ ¬ p1 = 1 ∧ ¬ p1 = 2 ∧ ¬ p1 = 3 ∧ p1 = 4 ∧ ((p3 < 0) ∨ (0 ≤ p3 ∧ 9999 < p3))) ∨ (¬ p1 = 0 ∧ ¬ p1 = 1 ∧ ¬ p1 = 2 ∧ p1 = 3 ∧ ((p3 < (-9999)) ∨ ((-9999) ≤ p3 ∧ 9999 < p3)) ∧ ¬ p1 = 4) ∨ (¬ p1 = 0 ∧ ¬ p1 = 1 ∧ p1 = 2 ∧ ((p3 < 0) ∨ (0 ≤ p3 ∧ 719 < p3)) ∧ ¬ p1 = 3 ∧ ¬ p1 = 4) ∨ (¬ p1 = 0 ∧ p1 = 1 ∧ ((p2 < 0) ∨ (0 ≤ p2 ∧ (h.2 0 6) ≤ p2))) ∨ (¬ p1 = 0 ∧ p1 = 1 ∧ (0 ≤ p2 ∧ p2 < (h.2 0 6)) ∧ ¬ p1 = 0 ∧ ¬ p1 = 0 ∧ ((p3 < 0) ∨ (0 ≤ p3 ∧ 9 < p3))))) ∨ (v = 1 ∧ ((p1 = 0 ∧ (0 ≤ p2 ∧ p2 < (h.2 0 6)) ∧ p1 = 0 ∧ p1 = 0 ∧ (1 ≤ p3 ∧ p3 ≤ 200)) ∨ (¬ p1 = 0 ∧ ¬ p1 = 1 ∧ ¬ p1 = 2 ∧ ¬ p1 = 3 ∧ p1 = 4 ∧ (0 ≤ p3 ∧ p3 ≤ 9999)) ∨ (¬ p1 = 0 ∧ ¬ p1 = 1 ∧ ¬ p1 = 2 ∧ p1 = 3 ∧ ((-9999) ≤ p3 ∧ p3 ≤ 9999)) ∨ (¬ p1 = 0 ∧ ¬ p1 = 1 ∧ p1 = 2 ∧ (0 ≤ p3 ∧ p3 ≤ 719)) ∨ (¬ p1 = 0 ∧ p1 = 1 ∧ (0 ≤ p2 ∧ p2 < (h.2 0 6)) ∧ ¬ p1 = 0 ∧ ¬ p1 = 0 ∧ (0 ≤ p3 ∧ p3 ≤ 9)))))
set_option maxRecDepth 100000 in
set_option maxHeartbeats 4000000 in
theorem s_X11_canSet (l : Launch) (h : zM) (p1 : Int) (p2 : Int) (p3 : Int) (s0 : okM h) (b_p1 : (-2147483648) ≤ p1 ∧ p1 ≤ 2147483647) (b_p2 : (-2147483648) ≤ p2 ∧ p2 ≤ 2147483647) (b_p3 : (-2147483648) ≤ p3 ∧ p3 ≤ 2147483647) : zT shM l yX11_canSet cX11_canSet 4 (some .boolean) (rmL 2) 0 0 [.inr 0, .inl p1, .inl p2, .inl p3] h (q_X11_canSet h p1 p2 p3) := by
  refine zT_of (by decide +kernel) (L0 := [some (.inr 0), some (.inl p1), some (.inl p2), some (.inl p3)]) rfl (Nat.le_of_ble_eq_true rfl) ?_
  have b1 : 0 ≤ (h.2 0 6) ∧ (h.2 0 6) ≤ 18 := fM_6 s0
  refine zj_iload_n (zdk ttX11_canSet 0 rfl rfl) rfl ?_
  refine zj_if_eq (t := 9) (zdk ttX11_canSet 1 rfl rfl) (by decide) (by omega) (fun c2 => ?_) (fun c2 => ?_)
  · refine zj_aload_n (zdk ttX11_canSet 5 rfl rfl) rfl (by decide) ?_
    refine zj_iload_n (zdk ttX11_canSet 6 rfl rfl) rfl ?_
    refine zj_callV (av := [.inl p2]) (st := []) (zdk ttX11_canSet 7 rfl rfl) mb_X11_isIslander mv_RX11_143 (ci := 11) rfl rfl (k_M s0) rfl rfl (Nat.le_of_ble_eq_true rfl) (s_X11_isIslander l h p2 s0 (by omega)) (rm_ok (by decide) (by decide)) (zq_i fun v4 h5 q3 => ?_)
    obtain ⟨rfl, b7, ⟨rfl, b6⟩ | ⟨rfl, b6⟩⟩ := q3
    · refine zj_if_eq (t := 50) (zdk ttX11_canSet 8 rfl rfl) (by decide) (by decide) (fun c8 => ?_) (fun c8 => ?_)
      · refine zj_iconst (zdk ttX11_canSet 25 rfl rfl) ?_
        exact zj_zret rfl (zdk ttX11_canSet 26 rfl rfl) (Nat.le_refl _) (Nat.le_refl _) (by omega) ⟨0, rfl, rfl, b1, (Or.inl ⟨rfl, (Or.inl (by omega))⟩)⟩
      · exact absurd c8 (by omega)
    · refine zj_if_eq (t := 50) (zdk ttX11_canSet 8 rfl rfl) (by decide) (by decide) (fun c9 => ?_) (fun c9 => ?_)
      · exact absurd c9 (by omega)
      · refine zj_aload_n (zdk ttX11_canSet 9 rfl rfl) rfl (by decide) ?_
        refine zj_iload_n (zdk ttX11_canSet 10 rfl rfl) rfl ?_
        refine zj_iload_n (zdk ttX11_canSet 11 rfl rfl) rfl ?_
        refine zj_if_ne (t := 27) (zdk ttX11_canSet 12 rfl rfl) (by decide) (by omega) (fun c10 => ?_) (fun c10 => ?_)
        · exact absurd c10 (by omega)
        · refine zj_iconst (zdk ttX11_canSet 13 rfl rfl) ?_
          refine zj_goto (t := 28) (zdk ttX11_canSet 14 rfl rfl) (by decide) ?_
          refine zj_iload_n (zdk ttX11_canSet 16 rfl rfl) rfl ?_
          refine zj_if_ne (t := 38) (zdk ttX11_canSet 17 rfl rfl) (by decide) (by omega) (fun c11 => ?_) (fun c11 => ?_)
          · exact absurd c11 (by omega)
          · refine zj_sipush (zdk ttX11_canSet 18 rfl rfl) (by decide) ?_
            refine zj_goto (t := 40) (zdk ttX11_canSet 19 rfl rfl) (by decide) ?_
            refine zj_callV (av := [.inl p3, .inl 1, .inl 200]) (st := []) (zdk ttX11_canSet 21 rfl rfl) mb_X11_isIn mv_RX11_139 (ci := 11) rfl rfl (k_M s0) rfl rfl (Nat.le_of_ble_eq_true rfl) (s_X11_isIn l h p3 1 200 s0 (by omega) (by omega) (by omega)) (rm_ok (by decide) (by decide)) (zq_i fun v13 h14 q12 => ?_)
            obtain ⟨rfl, ⟨rfl, b15⟩ | ⟨rfl, b15⟩⟩ := q12
            · refine zj_if_eq (t := 50) (zdk ttX11_canSet 22 rfl rfl) (by decide) (by decide) (fun c16 => ?_) (fun c16 => ?_)
              · refine zj_iconst (zdk ttX11_canSet 25 rfl rfl) ?_
                exact zj_zret rfl (zdk ttX11_canSet 26 rfl rfl) (Nat.le_refl _) (Nat.le_refl _) (by omega) ⟨0, rfl, rfl, b1, (Or.inl ⟨rfl, (Or.inr (Or.inl (by omega)))⟩)⟩
              · exact absurd c16 (by omega)
            · refine zj_if_eq (t := 50) (zdk ttX11_canSet 22 rfl rfl) (by decide) (by decide) (fun c17 => ?_) (fun c17 => ?_)
              · exact absurd c17 (by omega)
              · refine zj_iconst (zdk ttX11_canSet 23 rfl rfl) ?_
                refine zj_goto (t := 51) (zdk ttX11_canSet 24 rfl rfl) (by decide) ?_
                exact zj_zret rfl (zdk ttX11_canSet 26 rfl rfl) (Nat.le_refl _) (Nat.le_refl _) (by omega) ⟨1, rfl, rfl, b1, (Or.inr ⟨rfl, (Or.inl (by omega))⟩)⟩
  · refine zj_iload_n (zdk ttX11_canSet 2 rfl rfl) rfl ?_
    refine zj_iconst (zdk ttX11_canSet 3 rfl rfl) ?_
    refine zj_icmp_ne (t := 52) (zdk ttX11_canSet 4 rfl rfl) (by decide) (by omega) (by decide) (fun c18 => ?_) (fun c18 => ?_)
    · refine zj_iload_n (zdk ttX11_canSet 27 rfl rfl) rfl ?_
      refine zj_iconst (zdk ttX11_canSet 28 rfl rfl) ?_
      refine zj_icmp_ne (t := 69) (zdk ttX11_canSet 29 rfl rfl) (by decide) (by omega) (by decide) (fun c19 => ?_) (fun c19 => ?_)
      · refine zj_iload_n (zdk ttX11_canSet 36 rfl rfl) rfl ?_
        refine zj_iconst (zdk ttX11_canSet 37 rfl rfl) ?_
        refine zj_icmp_ne (t := 88) (zdk ttX11_canSet 38 rfl rfl) (by decide) (by omega) (by decide) (fun c20 => ?_) (fun c20 => ?_)
        · refine zj_iload_n (zdk ttX11_canSet 45 rfl rfl) rfl ?_
          refine zj_iconst (zdk ttX11_canSet 46 rfl rfl) ?_
          refine zj_icmp_ne (t := 109) (zdk ttX11_canSet 47 rfl rfl) (by decide) (by omega) (by decide) (fun c21 => ?_) (fun c21 => ?_)
          · refine zj_iconst (zdk ttX11_canSet 56 rfl rfl) ?_
            exact zj_zret rfl (zdk ttX11_canSet 57 rfl rfl) (Nat.le_refl _) (Nat.le_refl _) (by omega) ⟨0, rfl, rfl, b1, (Or.inl ⟨rfl, (Or.inr (Or.inr (Or.inl (by omega))))⟩)⟩
          · refine zj_aload_n (zdk ttX11_canSet 48 rfl rfl) rfl (by decide) ?_
            refine zj_iload_n (zdk ttX11_canSet 49 rfl rfl) rfl ?_
            refine zj_iconst (zdk ttX11_canSet 50 rfl rfl) ?_
            refine zj_sipush (zdk ttX11_canSet 51 rfl rfl) (by decide) ?_
            refine zj_callV (av := [.inl p3, .inl 0, .inl 9999]) (st := []) (zdk ttX11_canSet 52 rfl rfl) mb_X11_isIn mv_RX11_139 (ci := 11) rfl rfl (k_M s0) rfl rfl (Nat.le_of_ble_eq_true rfl) (s_X11_isIn l h p3 0 9999 s0 (by omega) (by omega) (by omega)) (rm_ok (by decide) (by decide)) (zq_i fun v23 h24 q22 => ?_)
            obtain ⟨rfl, ⟨rfl, b25⟩ | ⟨rfl, b25⟩⟩ := q22
            · refine zj_if_eq (t := 109) (zdk ttX11_canSet 53 rfl rfl) (by decide) (by decide) (fun c26 => ?_) (fun c26 => ?_)
              · refine zj_iconst (zdk ttX11_canSet 56 rfl rfl) ?_
                exact zj_zret rfl (zdk ttX11_canSet 57 rfl rfl) (Nat.le_refl _) (Nat.le_refl _) (by omega) ⟨0, rfl, rfl, b1, (Or.inl ⟨rfl, (Or.inr (Or.inr (Or.inr (Or.inl (by omega)))))⟩)⟩
              · exact absurd c26 (by omega)
            · refine zj_if_eq (t := 109) (zdk ttX11_canSet 53 rfl rfl) (by decide) (by decide) (fun c27 => ?_) (fun c27 => ?_)
              · exact absurd c27 (by omega)
              · refine zj_iconst (zdk ttX11_canSet 54 rfl rfl) ?_
                refine zj_goto (t := 110) (zdk ttX11_canSet 55 rfl rfl) (by decide) ?_
                exact zj_zret rfl (zdk ttX11_canSet 57 rfl rfl) (Nat.le_refl _) (Nat.le_refl _) (by omega) ⟨1, rfl, rfl, b1, (Or.inr ⟨rfl, (Or.inr (Or.inl (by omega)))⟩)⟩
        · refine zj_aload_n (zdk ttX11_canSet 39 rfl rfl) rfl (by decide) ?_
          refine zj_iload_n (zdk ttX11_canSet 40 rfl rfl) rfl ?_
          refine zj_sipush (zdk ttX11_canSet 41 rfl rfl) (by decide) ?_
          refine zj_sipush (zdk ttX11_canSet 42 rfl rfl) (by decide) ?_
          refine zj_callV (av := [.inl p3, .inl (-9999), .inl 9999]) (st := []) (zdk ttX11_canSet 43 rfl rfl) mb_X11_isIn mv_RX11_139 (ci := 11) rfl rfl (k_M s0) rfl rfl (Nat.le_of_ble_eq_true rfl) (s_X11_isIn l h p3 (-9999) 9999 s0 (by omega) (by omega) (by omega)) (rm_ok (by decide) (by decide)) (zq_i fun v29 h30 q28 => ?_)
          obtain ⟨rfl, ⟨rfl, b31⟩ | ⟨rfl, b31⟩⟩ := q28
          · refine zj_if_ne (t := 105) (zdk ttX11_canSet 44 rfl rfl) (by decide) (by decide) (fun c32 => ?_) (fun c32 => ?_)
            · exact absurd c32 (by omega)
            · refine zj_iload_n (zdk ttX11_canSet 45 rfl rfl) rfl ?_
              refine zj_iconst (zdk ttX11_canSet 46 rfl rfl) ?_
              refine zj_icmp_ne (t := 109) (zdk ttX11_canSet 47 rfl rfl) (by decide) (by omega) (by decide) (fun c33 => ?_) (fun c33 => ?_)
              · refine zj_iconst (zdk ttX11_canSet 56 rfl rfl) ?_
                exact zj_zret rfl (zdk ttX11_canSet 57 rfl rfl) (Nat.le_refl _) (Nat.le_refl _) (by omega) ⟨0, rfl, rfl, b1, (Or.inl ⟨rfl, (Or.inr (Or.inr (Or.inr (Or.inr (Or.inl (by omega))))))⟩)⟩
              · exact absurd c33 (by omega)
          · refine zj_if_ne (t := 105) (zdk ttX11_canSet 44 rfl rfl) (by decide) (by decide) (fun c34 => ?_) (fun c34 => ?_)
            · refine zj_iconst (zdk ttX11_canSet 54 rfl rfl) ?_
              refine zj_goto (t := 110) (zdk ttX11_canSet 55 rfl rfl) (by decide) ?_
              exact zj_zret rfl (zdk ttX11_canSet 57 rfl rfl) (Nat.le_refl _) (Nat.le_refl _) (by omega) ⟨1, rfl, rfl, b1, (Or.inr ⟨rfl, (Or.inr (Or.inr (Or.inl (by omega))))⟩)⟩
            · exact absurd c34 (by omega)
      · refine zj_aload_n (zdk ttX11_canSet 30 rfl rfl) rfl (by decide) ?_
        refine zj_iload_n (zdk ttX11_canSet 31 rfl rfl) rfl ?_
        refine zj_iconst (zdk ttX11_canSet 32 rfl rfl) ?_
        refine zj_sipush (zdk ttX11_canSet 33 rfl rfl) (by decide) ?_
        refine zj_callV (av := [.inl p3, .inl 0, .inl 719]) (st := []) (zdk ttX11_canSet 34 rfl rfl) mb_X11_isIn mv_RX11_139 (ci := 11) rfl rfl (k_M s0) rfl rfl (Nat.le_of_ble_eq_true rfl) (s_X11_isIn l h p3 0 719 s0 (by omega) (by omega) (by omega)) (rm_ok (by decide) (by decide)) (zq_i fun v36 h37 q35 => ?_)
        obtain ⟨rfl, ⟨rfl, b38⟩ | ⟨rfl, b38⟩⟩ := q35
        · refine zj_if_ne (t := 105) (zdk ttX11_canSet 35 rfl rfl) (by decide) (by decide) (fun c39 => ?_) (fun c39 => ?_)
          · exact absurd c39 (by omega)
          · refine zj_iload_n (zdk ttX11_canSet 36 rfl rfl) rfl ?_
            refine zj_iconst (zdk ttX11_canSet 37 rfl rfl) ?_
            refine zj_icmp_ne (t := 88) (zdk ttX11_canSet 38 rfl rfl) (by decide) (by omega) (by decide) (fun c40 => ?_) (fun c40 => ?_)
            · refine zj_iload_n (zdk ttX11_canSet 45 rfl rfl) rfl ?_
              refine zj_iconst (zdk ttX11_canSet 46 rfl rfl) ?_
              refine zj_icmp_ne (t := 109) (zdk ttX11_canSet 47 rfl rfl) (by decide) (by omega) (by decide) (fun c41 => ?_) (fun c41 => ?_)
              · refine zj_iconst (zdk ttX11_canSet 56 rfl rfl) ?_
                exact zj_zret rfl (zdk ttX11_canSet 57 rfl rfl) (Nat.le_refl _) (Nat.le_refl _) (by omega) ⟨0, rfl, rfl, b1, (Or.inl ⟨rfl, (Or.inr (Or.inr (Or.inr (Or.inr (Or.inr (Or.inl (by omega)))))))⟩)⟩
              · exact absurd c41 (by omega)
            · exact absurd c40 (by omega)
        · refine zj_if_ne (t := 105) (zdk ttX11_canSet 35 rfl rfl) (by decide) (by decide) (fun c42 => ?_) (fun c42 => ?_)
          · refine zj_iconst (zdk ttX11_canSet 54 rfl rfl) ?_
            refine zj_goto (t := 110) (zdk ttX11_canSet 55 rfl rfl) (by decide) ?_
            exact zj_zret rfl (zdk ttX11_canSet 57 rfl rfl) (Nat.le_refl _) (Nat.le_refl _) (by omega) ⟨1, rfl, rfl, b1, (Or.inr ⟨rfl, (Or.inr (Or.inr (Or.inr (Or.inl (by omega)))))⟩)⟩
          · exact absurd c42 (by omega)
    · refine zj_aload_n (zdk ttX11_canSet 5 rfl rfl) rfl (by decide) ?_
      refine zj_iload_n (zdk ttX11_canSet 6 rfl rfl) rfl ?_
      refine zj_callV (av := [.inl p2]) (st := []) (zdk ttX11_canSet 7 rfl rfl) mb_X11_isIslander mv_RX11_143 (ci := 11) rfl rfl (k_M s0) rfl rfl (Nat.le_of_ble_eq_true rfl) (s_X11_isIslander l h p2 s0 (by omega)) (rm_ok (by decide) (by decide)) (zq_i fun v44 h45 q43 => ?_)
      obtain ⟨rfl, b47, ⟨rfl, b46⟩ | ⟨rfl, b46⟩⟩ := q43
      · refine zj_if_eq (t := 50) (zdk ttX11_canSet 8 rfl rfl) (by decide) (by decide) (fun c48 => ?_) (fun c48 => ?_)
        · refine zj_iconst (zdk ttX11_canSet 25 rfl rfl) ?_
          exact zj_zret rfl (zdk ttX11_canSet 26 rfl rfl) (Nat.le_refl _) (Nat.le_refl _) (by omega) ⟨0, rfl, rfl, b1, (Or.inl ⟨rfl, (Or.inr (Or.inr (Or.inr (Or.inr (Or.inr (Or.inr (Or.inl (by omega))))))))⟩)⟩
        · exact absurd c48 (by omega)
      · refine zj_if_eq (t := 50) (zdk ttX11_canSet 8 rfl rfl) (by decide) (by decide) (fun c49 => ?_) (fun c49 => ?_)
        · exact absurd c49 (by omega)
        · refine zj_aload_n (zdk ttX11_canSet 9 rfl rfl) rfl (by decide) ?_
          refine zj_iload_n (zdk ttX11_canSet 10 rfl rfl) rfl ?_
          refine zj_iload_n (zdk ttX11_canSet 11 rfl rfl) rfl ?_
          refine zj_if_ne (t := 27) (zdk ttX11_canSet 12 rfl rfl) (by decide) (by omega) (fun c50 => ?_) (fun c50 => ?_)
          · refine zj_iconst (zdk ttX11_canSet 15 rfl rfl) ?_
            refine zj_iload_n (zdk ttX11_canSet 16 rfl rfl) rfl ?_
            refine zj_if_ne (t := 38) (zdk ttX11_canSet 17 rfl rfl) (by decide) (by omega) (fun c51 => ?_) (fun c51 => ?_)
            · refine zj_bipush (zdk ttX11_canSet 20 rfl rfl) (by decide) ?_
              refine zj_callV (av := [.inl p3, .inl 0, .inl 9]) (st := []) (zdk ttX11_canSet 21 rfl rfl) mb_X11_isIn mv_RX11_139 (ci := 11) rfl rfl (k_M s0) rfl rfl (Nat.le_of_ble_eq_true rfl) (s_X11_isIn l h p3 0 9 s0 (by omega) (by omega) (by omega)) (rm_ok (by decide) (by decide)) (zq_i fun v53 h54 q52 => ?_)
              obtain ⟨rfl, ⟨rfl, b55⟩ | ⟨rfl, b55⟩⟩ := q52
              · refine zj_if_eq (t := 50) (zdk ttX11_canSet 22 rfl rfl) (by decide) (by decide) (fun c56 => ?_) (fun c56 => ?_)
                · refine zj_iconst (zdk ttX11_canSet 25 rfl rfl) ?_
                  exact zj_zret rfl (zdk ttX11_canSet 26 rfl rfl) (Nat.le_refl _) (Nat.le_refl _) (by omega) ⟨0, rfl, rfl, b1, (Or.inl ⟨rfl, (Or.inr (Or.inr (Or.inr (Or.inr (Or.inr (Or.inr (Or.inr (by omega))))))))⟩)⟩
                · exact absurd c56 (by omega)
              · refine zj_if_eq (t := 50) (zdk ttX11_canSet 22 rfl rfl) (by decide) (by decide) (fun c57 => ?_) (fun c57 => ?_)
                · exact absurd c57 (by omega)
                · refine zj_iconst (zdk ttX11_canSet 23 rfl rfl) ?_
                  refine zj_goto (t := 51) (zdk ttX11_canSet 24 rfl rfl) (by decide) ?_
                  exact zj_zret rfl (zdk ttX11_canSet 26 rfl rfl) (Nat.le_refl _) (Nat.le_refl _) (by omega) ⟨1, rfl, rfl, b1, (Or.inr ⟨rfl, (Or.inr (Or.inr (Or.inr (Or.inr (by omega)))))⟩)⟩
            · exact absurd c51 (by omega)
          · exact absurd c50 (by omega)

abbrev tX11_isHere : List (Nat × Instr × Nat) := [(0, .aload_n 0, 1), (1, .getfield 7, 3), (4, .bipush 9, 2), (6, .iload_n 1, 1), (7, .iadd, 1), (8, .iaload, 1), (9, .ifCond .ne 7, 3), (12, .iconst 1, 1), (13, .goto 4, 3), (16, .iconst 0, 1), (17, .ireturn, 1)]
theorem ttX11_isHere : zdt cX11_isHere tX11_isHere = true := by decide +kernel
abbrev q_X11_isHere (h : zM) (p1 : Int) : Option zV → zM → Prop := zqi fun v h' => h = h' ∧ ((v = 0 ∧ (¬ (h.2 1 (9 + p1)) = 0)) ∨ (v = 1 ∧ ((h.2 1 (9 + p1)) = 0)))
set_option maxRecDepth 100000 in
set_option maxHeartbeats 4000000 in
theorem s_X11_isHere (l : Launch) (h : zM) (p1 : Int) (s0 : okM h) (b_p1 : 0 ≤ p1 ∧ p1 ≤ 17) : zT shM l yX11_isHere cX11_isHere 2 (some .boolean) (rmL 1) 0 0 [.inr 0, .inl p1] h (q_X11_isHere h p1) := by
  refine zT_of (by decide +kernel) (L0 := [some (.inr 0), some (.inl p1)]) rfl (Nat.le_of_ble_eq_true rfl) ?_
  refine zj_aload_n (zdk ttX11_isHere 0 rfl rfl) rfl (by decide) ?_
  refine zj_getr (r := 1) (zdk ttX11_isHere 1 rfl rfl) zf_RX11_7 rfl (k_M s0) (rfM_1 s0) ?_
  refine zj_bipush (zdk ttX11_isHere 2 rfl rfl) (by decide) ?_
  refine zj_iload_n (zdk ttX11_isHere 3 rfl rfl) rfl ?_
  refine zj_iadd (zdk ttX11_isHere 4 rfl rfl) ?_
  have b1 := (rM_b s0 1 (9 + p1) (by omega)).2
  have b2 : -2147483648 ≤ (h.2 1 (9 + p1)) ∧ (h.2 1 (9 + p1)) ≤ 2147483647 := (rM_b s0 1 (9 + p1) (by omega)).1
  refine zj_iald (v := (h.2 1 (9 + p1))) (zdk ttX11_isHere 5 rfl rfl) (kaM_1 s0) (by decide) (by omega) rfl ?_
  refine zj_if_ne (t := 16) (zdk ttX11_isHere 6 rfl rfl) (by decide) (by omega) (fun c3 => ?_) (fun c3 => ?_)
  · refine zj_iconst (zdk ttX11_isHere 9 rfl rfl) ?_
    exact zj_zret rfl (zdk ttX11_isHere 10 rfl rfl) (Nat.le_refl _) (Nat.le_refl _) (by omega) ⟨0, rfl, rfl, (Or.inl ⟨rfl, by omega⟩)⟩
  · refine zj_iconst (zdk ttX11_isHere 7 rfl rfl) ?_
    refine zj_goto (t := 17) (zdk ttX11_isHere 8 rfl rfl) (by decide) ?_
    exact zj_zret rfl (zdk ttX11_isHere 10 rfl rfl) (Nat.le_refl _) (Nat.le_refl _) (by omega) ⟨1, rfl, rfl, (Or.inr ⟨rfl, by omega⟩)⟩

abbrev tX11_canAct : List (Nat × Instr × Nat) := [(0, .aload_n 0, 1), (1, .iload_n 2, 1), (2, .invokevirtual 143, 3), (5, .ifCond .ne 5, 3), (8, .iconst 0, 1), (9, .ireturn, 1), (10, .iload_n 1, 1), (11, .ifCond .ne 9, 3), (14, .aload_n 0, 1), (15, .iload_n 2, 1), (16, .invokevirtual 135, 3), (19, .ireturn, 1), (20, .iload_n 1, 1), (21, .iconst 1, 1), (22, .if_icmp .ne 17, 3), (25, .aload_n 0, 1), (26, .iload_n 2, 1), (27, .invokevirtual 135, 3), (30, .ifCond .ne 7, 3), (33, .iconst 1, 1), (34, .goto 4, 3), (37, .iconst 0, 1), (38, .ireturn, 1), (39, .iload_n 1, 1), (40, .iconst 2, 1), (41, .if_icmp .ne 15, 3), (44, .aload_n 0, 1), (45, .getfield 7, 3), (48, .bipush 27, 2), (50, .iload_n 2, 1), (51, .iadd, 1), (52, .iaload, 1), (53, .ifCond .eq 21, 3), (56, .iload_n 1, 1), (57, .iconst 3, 1), (58, .if_icmp .ne 20, 3), (61, .aload_n 0, 1), (62, .getfield 7, 3), (65, .bipush 27, 2), (67, .iload_n 2, 1), (68, .iadd, 1), (69, .iaload, 1), (70, .iconst 1, 1), (71, .if_icmp .ne 7, 3), (74, .iconst 1, 1), (75, .goto 4, 3), (78, .iconst 0, 1), (79, .ireturn, 1)]
theorem ttX11_canAct : zdt cX11_canAct tX11_canAct = true := by decide +kernel
abbrev q_X11_canAct (h : zM) (p1 : Int) (p2 : Int) : Option zV → zM → Prop := zqi fun v h' => h = h' ∧ (0 ≤ (h.2 0 6) ∧ (h.2 0 6) ≤ 18) ∧ ((v = 0 ∧ ((((p2 < 0) ∨ (0 ≤ p2 ∧ (h.2 0 6) ≤ p2))) ∨ ((0 ≤ p2 ∧ p2 < (h.2 0 6)) ∧ ¬ p1 = 0 ∧ ¬ p1 = 1 ∧ ¬ p1 = 2 ∧ ¬ p1 = 3) ∨ ((0 ≤ p2 ∧ p2 < (h.2 0 6)) ∧ ¬ p1 = 0 ∧ ¬ p1 = 1 ∧ ¬ p1 = 2 ∧ p1 = 3 ∧ ¬ (h.2 1 (27 + p2)) = 1) ∨ ((0 ≤ p2 ∧ p2 < (h.2 0 6)) ∧ ¬ p1 = 0 ∧ ¬ p1 = 1 ∧ p1 = 2 ∧ ¬ (h.2 1 (27 + p2)) = 0 ∧ ¬ p1 = 3) ∨ ((0 ≤ p2 ∧ p2 < (h.2 0 6)) ∧ ¬ p1 = 0 ∧ p1 = 1 ∧ ((h.2 1 (9 + p2)) = 0)) ∨ ((0 ≤ p2 ∧ p2 < (h.2 0 6)) ∧ p1 = 0 ∧ (¬ (h.2 1 (9 + p2)) = 0)))) ∨ (v = 1 ∧ (((0 ≤ p2 ∧ p2 < (h.2 0 6)) ∧ ¬ p1 = 0 ∧ ¬ p1 = 1 ∧ ¬ p1 = 2 ∧ p1 = 3 ∧ (h.2 1 (27 + p2)) = 1) ∨ ((0 ≤ p2 ∧ p2 < (h.2 0 6)) ∧ ¬ p1 = 0 ∧ ¬ p1 = 1 ∧ p1 = 2 ∧ (h.2 1 (27 + p2)) = 0) ∨ ((0 ≤ p2 ∧ p2 < (h.2 0 6)) ∧ ¬ p1 = 0 ∧ p1 = 1 ∧ (¬ (h.2 1 (9 + p2)) = 0)) ∨ ((0 ≤ p2 ∧ p2 < (h.2 0 6)) ∧ p1 = 0 ∧ ((h.2 1 (9 + p2)) = 0)))))
set_option maxRecDepth 100000 in
set_option maxHeartbeats 4000000 in
theorem s_X11_canAct (l : Launch) (h : zM) (p1 : Int) (p2 : Int) (s0 : okM h) (b_p1 : (-2147483648) ≤ p1 ∧ p1 ≤ 2147483647) (b_p2 : (-2147483648) ≤ p2 ∧ p2 ≤ 2147483647) : zT shM l yX11_canAct cX11_canAct 3 (some .boolean) (rmL 2) 0 0 [.inr 0, .inl p1, .inl p2] h (q_X11_canAct h p1 p2) := by
  refine zT_of (by decide +kernel) (L0 := [some (.inr 0), some (.inl p1), some (.inl p2)]) rfl (Nat.le_of_ble_eq_true rfl) ?_
  have b1 : 0 ≤ (h.2 0 6) ∧ (h.2 0 6) ≤ 18 := fM_6 s0
  refine zj_aload_n (zdk ttX11_canAct 0 rfl rfl) rfl (by decide) ?_
  refine zj_iload_n (zdk ttX11_canAct 1 rfl rfl) rfl ?_
  refine zj_callV (av := [.inl p2]) (st := []) (zdk ttX11_canAct 2 rfl rfl) mb_X11_isIslander mv_RX11_143 (ci := 11) rfl rfl (k_M s0) rfl rfl (Nat.le_of_ble_eq_true rfl) (s_X11_isIslander l h p2 s0 (by omega)) (rm_ok (by decide) (by decide)) (zq_i fun v3 h4 q2 => ?_)
  obtain ⟨rfl, b6, ⟨rfl, b5⟩ | ⟨rfl, b5⟩⟩ := q2
  · refine zj_if_ne (t := 10) (zdk ttX11_canAct 3 rfl rfl) (by decide) (by decide) (fun c7 => ?_) (fun c7 => ?_)
    · exact absurd c7 (by omega)
    · refine zj_iconst (zdk ttX11_canAct 4 rfl rfl) ?_
      exact zj_zret rfl (zdk ttX11_canAct 5 rfl rfl) (Nat.le_refl _) (Nat.le_refl _) (by omega) ⟨0, rfl, rfl, b1, (Or.inl ⟨rfl, (Or.inl (by omega))⟩)⟩
  · refine zj_if_ne (t := 10) (zdk ttX11_canAct 3 rfl rfl) (by decide) (by decide) (fun c8 => ?_) (fun c8 => ?_)
    · refine zj_iload_n (zdk ttX11_canAct 6 rfl rfl) rfl ?_
      refine zj_if_ne (t := 20) (zdk ttX11_canAct 7 rfl rfl) (by decide) (by omega) (fun c9 => ?_) (fun c9 => ?_)
      · refine zj_iload_n (zdk ttX11_canAct 12 rfl rfl) rfl ?_
        refine zj_iconst (zdk ttX11_canAct 13 rfl rfl) ?_
        refine zj_icmp_ne (t := 39) (zdk ttX11_canAct 14 rfl rfl) (by decide) (by omega) (by decide) (fun c10 => ?_) (fun c10 => ?_)
        · refine zj_iload_n (zdk ttX11_canAct 23 rfl rfl) rfl ?_
          refine zj_iconst (zdk ttX11_canAct 24 rfl rfl) ?_
          refine zj_icmp_ne (t := 56) (zdk ttX11_canAct 25 rfl rfl) (by decide) (by omega) (by decide) (fun c11 => ?_) (fun c11 => ?_)
          · refine zj_iload_n (zdk ttX11_canAct 33 rfl rfl) rfl ?_
            refine zj_iconst (zdk ttX11_canAct 34 rfl rfl) ?_
            refine zj_icmp_ne (t := 78) (zdk ttX11_canAct 35 rfl rfl) (by decide) (by omega) (by decide) (fun c12 => ?_) (fun c12 => ?_)
            · refine zj_iconst (zdk ttX11_canAct 46 rfl rfl) ?_
              exact zj_zret rfl (zdk ttX11_canAct 47 rfl rfl) (Nat.le_refl _) (Nat.le_refl _) (by omega) ⟨0, rfl, rfl, b1, (Or.inl ⟨rfl, (Or.inr (Or.inl (by omega)))⟩)⟩
            · refine zj_aload_n (zdk ttX11_canAct 36 rfl rfl) rfl (by decide) ?_
              refine zj_getr (r := 1) (zdk ttX11_canAct 37 rfl rfl) zf_RX11_7 rfl (k_M s0) (rfM_1 s0) ?_
              refine zj_bipush (zdk ttX11_canAct 38 rfl rfl) (by decide) ?_
              refine zj_iload_n (zdk ttX11_canAct 39 rfl rfl) rfl ?_
              refine zj_iadd (zdk ttX11_canAct 40 rfl rfl) ?_
              have b13 := (rM_b s0 1 (27 + p2) (by omega)).2
              have b14 : -2147483648 ≤ (h.2 1 (27 + p2)) ∧ (h.2 1 (27 + p2)) ≤ 2147483647 := (rM_b s0 1 (27 + p2) (by omega)).1
              refine zj_iald (v := (h.2 1 (27 + p2))) (zdk ttX11_canAct 41 rfl rfl) (kaM_1 s0) (by decide) (by omega) rfl ?_
              refine zj_iconst (zdk ttX11_canAct 42 rfl rfl) ?_
              refine zj_icmp_ne (t := 78) (zdk ttX11_canAct 43 rfl rfl) (by decide) (by omega) (by decide) (fun c15 => ?_) (fun c15 => ?_)
              · refine zj_iconst (zdk ttX11_canAct 46 rfl rfl) ?_
                exact zj_zret rfl (zdk ttX11_canAct 47 rfl rfl) (Nat.le_refl _) (Nat.le_refl _) (by omega) ⟨0, rfl, rfl, b1, (Or.inl ⟨rfl, (Or.inr (Or.inr (Or.inl (by omega))))⟩)⟩
              · refine zj_iconst (zdk ttX11_canAct 44 rfl rfl) ?_
                refine zj_goto (t := 79) (zdk ttX11_canAct 45 rfl rfl) (by decide) ?_
                exact zj_zret rfl (zdk ttX11_canAct 47 rfl rfl) (Nat.le_refl _) (Nat.le_refl _) (by omega) ⟨1, rfl, rfl, b1, (Or.inr ⟨rfl, (Or.inl (by omega))⟩)⟩
          · refine zj_aload_n (zdk ttX11_canAct 26 rfl rfl) rfl (by decide) ?_
            refine zj_getr (r := 1) (zdk ttX11_canAct 27 rfl rfl) zf_RX11_7 rfl (k_M s0) (rfM_1 s0) ?_
            refine zj_bipush (zdk ttX11_canAct 28 rfl rfl) (by decide) ?_
            refine zj_iload_n (zdk ttX11_canAct 29 rfl rfl) rfl ?_
            refine zj_iadd (zdk ttX11_canAct 30 rfl rfl) ?_
            have b16 := (rM_b s0 1 (27 + p2) (by omega)).2
            have b17 : -2147483648 ≤ (h.2 1 (27 + p2)) ∧ (h.2 1 (27 + p2)) ≤ 2147483647 := (rM_b s0 1 (27 + p2) (by omega)).1
            refine zj_iald (v := (h.2 1 (27 + p2))) (zdk ttX11_canAct 31 rfl rfl) (kaM_1 s0) (by decide) (by omega) rfl ?_
            refine zj_if_eq (t := 74) (zdk ttX11_canAct 32 rfl rfl) (by decide) (by omega) (fun c18 => ?_) (fun c18 => ?_)
            · refine zj_iconst (zdk ttX11_canAct 44 rfl rfl) ?_
              refine zj_goto (t := 79) (zdk ttX11_canAct 45 rfl rfl) (by decide) ?_
              exact zj_zret rfl (zdk ttX11_canAct 47 rfl rfl) (Nat.le_refl _) (Nat.le_refl _) (by omega) ⟨1, rfl, rfl, b1, (Or.inr ⟨rfl, (Or.inr (Or.inl (by omega)))⟩)⟩
            · refine zj_iload_n (zdk ttX11_canAct 33 rfl rfl) rfl ?_
              refine zj_iconst (zdk ttX11_canAct 34 rfl rfl) ?_
              refine zj_icmp_ne (t := 78) (zdk ttX11_canAct 35 rfl rfl) (by decide) (by omega) (by decide) (fun c19 => ?_) (fun c19 => ?_)
              · refine zj_iconst (zdk ttX11_canAct 46 rfl rfl) ?_
                exact zj_zret rfl (zdk ttX11_canAct 47 rfl rfl) (Nat.le_refl _) (Nat.le_refl _) (by omega) ⟨0, rfl, rfl, b1, (Or.inl ⟨rfl, (Or.inr (Or.inr (Or.inr (Or.inl (by omega)))))⟩)⟩
              · exact absurd c19 (by omega)
        · refine zj_aload_n (zdk ttX11_canAct 15 rfl rfl) rfl (by decide) ?_
          refine zj_iload_n (zdk ttX11_canAct 16 rfl rfl) rfl ?_
          refine zj_callV (av := [.inl p2]) (st := []) (zdk ttX11_canAct 17 rfl rfl) mb_X11_isHere mv_RX11_135 (ci := 11) rfl rfl (k_M s0) rfl rfl (Nat.le_of_ble_eq_true rfl) (s_X11_isHere l h p2 s0 (by omega)) (rm_ok (by decide) (by decide)) (zq_i fun v21 h22 q20 => ?_)
          obtain ⟨rfl, ⟨rfl, b23⟩ | ⟨rfl, b23⟩⟩ := q20
          · refine zj_if_ne (t := 37) (zdk ttX11_canAct 18 rfl rfl) (by decide) (by decide) (fun c24 => ?_) (fun c24 => ?_)
            · exact absurd c24 (by omega)
            · refine zj_iconst (zdk ttX11_canAct 19 rfl rfl) ?_
              refine zj_goto (t := 38) (zdk ttX11_canAct 20 rfl rfl) (by decide) ?_
              exact zj_zret rfl (zdk ttX11_canAct 22 rfl rfl) (Nat.le_refl _) (Nat.le_refl _) (by omega) ⟨1, rfl, rfl, b1, (Or.inr ⟨rfl, (Or.inr (Or.inr (Or.inl (by omega))))⟩)⟩
          · refine zj_if_ne (t := 37) (zdk ttX11_canAct 18 rfl rfl) (by decide) (by decide) (fun c25 => ?_) (fun c25 => ?_)
            · refine zj_iconst (zdk ttX11_canAct 21 rfl rfl) ?_
              exact zj_zret rfl (zdk ttX11_canAct 22 rfl rfl) (Nat.le_refl _) (Nat.le_refl _) (by omega) ⟨0, rfl, rfl, b1, (Or.inl ⟨rfl, (Or.inr (Or.inr (Or.inr (Or.inr (Or.inl (by omega))))))⟩)⟩
            · exact absurd c25 (by omega)
      · refine zj_aload_n (zdk ttX11_canAct 8 rfl rfl) rfl (by decide) ?_
        refine zj_iload_n (zdk ttX11_canAct 9 rfl rfl) rfl ?_
        refine zj_callV (av := [.inl p2]) (st := []) (zdk ttX11_canAct 10 rfl rfl) mb_X11_isHere mv_RX11_135 (ci := 11) rfl rfl (k_M s0) rfl rfl (Nat.le_of_ble_eq_true rfl) (s_X11_isHere l h p2 s0 (by omega)) (rm_ok (by decide) (by decide)) (zq_i fun v27 h28 q26 => ?_)
        obtain ⟨rfl, ⟨rfl, b29⟩ | ⟨rfl, b29⟩⟩ := q26
        · exact zj_zret rfl (zdk ttX11_canAct 11 rfl rfl) (Nat.le_refl _) (Nat.le_refl _) (by omega) ⟨0, rfl, rfl, b1, (Or.inl ⟨rfl, (Or.inr (Or.inr (Or.inr (Or.inr (Or.inr (by omega))))))⟩)⟩
        · exact zj_zret rfl (zdk ttX11_canAct 11 rfl rfl) (Nat.le_refl _) (Nat.le_refl _) (by omega) ⟨1, rfl, rfl, b1, (Or.inr ⟨rfl, (Or.inr (Or.inr (Or.inr (by omega))))⟩)⟩
    · exact absurd c8 (by omega)

abbrev tX11_raw : List (Nat × Instr × Nat) := [(0, .iload_n 1, 1), (1, .aload_n 0, 1), (2, .getfield 149, 3), (5, .if_icmp .ge 12, 3), (8, .aload_n 0, 1), (9, .getfield 28, 3), (12, .iload_n 1, 1), (13, .iaload, 1), (14, .goto 4, 3), (17, .iconst (-1), 1), (18, .ireturn, 1)]
theorem ttX11_raw : zdt cX11_raw tX11_raw = true := by decide +kernel
abbrev q_X11_raw (h : zM) (p1 : Int) : Option zV → zM → Prop := zqi fun v h' => h = h' ∧ (0 ≤ (h.2 0 11) ∧ (h.2 0 11) ≤ 400) ∧ ((v = (-1) ∧ ((h.2 0 11) ≤ p1)) ∨ ((p1 < (h.2 0 11)) ∧ v = (h.2 7 p1) ∧ 0 ≤ v ∧ v ≤ 255))
set_option maxRecDepth 100000 in
set_option maxHeartbeats 4000000 in
theorem s_X11_raw (l : Launch) (h : zM) (p1 : Int) (s0 : okM h) (b_p1 : 0 ≤ p1 ∧ p1 ≤ 400) : zT shM l yX11_raw cX11_raw 2 (some .int) (rmL 1) 0 0 [.inr 0, .inl p1] h (q_X11_raw h p1) := by
  refine zT_of (by decide +kernel) (L0 := [some (.inr 0), some (.inl p1)]) rfl (Nat.le_of_ble_eq_true rfl) ?_
  have b1 : 0 ≤ (h.2 0 11) ∧ (h.2 0 11) ≤ 400 := fM_11 s0
  refine zj_iload_n (zdk ttX11_raw 0 rfl rfl) rfl ?_
  refine zj_aload_n (zdk ttX11_raw 1 rfl rfl) rfl (by decide) ?_
  refine zj_geti (v := (h.2 0 11)) (zdk ttX11_raw 2 rfl rfl) zf_RX11_149 rfl (k_M s0) rfl ?_
  refine zj_icmp_ge (t := 17) (zdk ttX11_raw 3 rfl rfl) (by decide) (by omega) (by omega) (fun c2 => ?_) (fun c2 => ?_)
  · refine zj_iconst (zdk ttX11_raw 9 rfl rfl) ?_
    exact zj_iret rfl (zdk ttX11_raw 10 rfl rfl) (Nat.le_refl _) (Nat.le_refl _) ⟨(-1), rfl, rfl, b1, (Or.inl ⟨rfl, by omega⟩)⟩
  · refine zj_aload_n (zdk ttX11_raw 4 rfl rfl) rfl (by decide) ?_
    refine zj_getr (r := 7) (zdk ttX11_raw 5 rfl rfl) zf_RX11_28 rfl (k_M s0) (rfM_10 s0) ?_
    refine zj_iload_n (zdk ttX11_raw 6 rfl rfl) rfl ?_
    have b3 : 0 ≤ (h.2 7 p1) ∧ (h.2 7 p1) ≤ 255 := abM_7 s0 p1
    refine zj_iald (v := (h.2 7 p1)) (zdk ttX11_raw 7 rfl rfl) (kaM_7 s0) (by decide) (by omega) rfl ?_
    refine zj_goto (t := 18) (zdk ttX11_raw 8 rfl rfl) (by decide) ?_
    exact zj_iret rfl (zdk ttX11_raw 10 rfl rfl) (Nat.le_refl _) (Nat.le_refl _) ⟨(h.2 7 p1), rfl, rfl, b1, (Or.inr ⟨by omega, rfl, by omega⟩)⟩

abbrev tX11_glassAt : List (Nat × Instr × Nat) := [(0, .sipush 961, 3), (3, .iload_n 1, 1), (4, .imul, 1), (5, .bipush 31, 2), (7, .iload_n 2, 1), (8, .imul, 1), (9, .iadd, 1), (10, .iload_n 3, 1), (11, .iadd, 1), (12, .ireturn, 1)]
theorem ttX11_glassAt : zdt cX11_glassAt tX11_glassAt = true := by decide +kernel
abbrev q_X11_glassAt (h : zM) (p1 : Int) (p2 : Int) (p3 : Int) : Option zV → zM → Prop := zqi fun v h' => h = h' ∧ (v = (((961 * p1) + (31 * p2)) + p3) ∧ 0 ≤ v ∧ v ≤ 116280)
set_option maxRecDepth 100000 in
set_option maxHeartbeats 4000000 in
theorem s_X11_glassAt (l : Launch) (h : zM) (p1 : Int) (p2 : Int) (p3 : Int) (s0 : okM h) (b_p1 : 0 ≤ p1 ∧ p1 ≤ 120) (b_p2 : 0 ≤ p2 ∧ p2 ≤ 30) (b_p3 : 0 ≤ p3 ∧ p3 ≤ 30) : zT shM l yX11_glassAt cX11_glassAt 4 (some .int) (rmL 1) 0 0 [.inr 0, .inl p1, .inl p2, .inl p3] h (q_X11_glassAt h p1 p2 p3) := by
  refine zT_of (by decide +kernel) (L0 := [some (.inr 0), some (.inl p1), some (.inl p2), some (.inl p3)]) rfl (Nat.le_of_ble_eq_true rfl) ?_
  refine zj_sipush (zdk ttX11_glassAt 0 rfl rfl) (by decide) ?_
  refine zj_iload_n (zdk ttX11_glassAt 1 rfl rfl) rfl ?_
  refine zj_imul (zdk ttX11_glassAt 2 rfl rfl) ?_
  refine zj_bipush (zdk ttX11_glassAt 3 rfl rfl) (by decide) ?_
  refine zj_iload_n (zdk ttX11_glassAt 4 rfl rfl) rfl ?_
  refine zj_imul (zdk ttX11_glassAt 5 rfl rfl) ?_
  refine zj_iadd (zdk ttX11_glassAt 6 rfl rfl) ?_
  refine zj_iload_n (zdk ttX11_glassAt 7 rfl rfl) rfl ?_
  refine zj_iadd (zdk ttX11_glassAt 8 rfl rfl) ?_
  exact zj_iret rfl (zdk ttX11_glassAt 9 rfl rfl) (Nat.le_refl _) (Nat.le_refl _) ⟨(((961 * p1) + (31 * p2)) + p3), rfl, rfl, by omega⟩

abbrev tX11_leadsTo : List (Nat × Instr × Nat) := [(0, .iload_n 2, 1), (1, .iload_n 3, 1), (2, .iadd, 1), (3, .iload_n 1, 1), (4, .irem, 1), (5, .ireturn, 1)]
theorem ttX11_leadsTo : zdt cX11_leadsTo tX11_leadsTo = true := by decide +kernel
abbrev q_X11_leadsTo (h : zM) (p1 : Int) (p2 : Int) (p3 : Int) : Option zV → zM → Prop := zqi fun v h' => h = h' ∧ (v = ((p2 + p3) % p1) ∧ 0 ≤ v ∧ v ≤ 59)
set_option maxRecDepth 100000 in
set_option maxHeartbeats 4000000 in
theorem s_X11_leadsTo (l : Launch) (h : zM) (p1 : Int) (p2 : Int) (p3 : Int) (s0 : okM h) (b_p1 : 2 ≤ p1 ∧ p1 ≤ 60) (b_p2 : 0 ≤ p2 ∧ p2 ≤ 59) (b_p3 : 1 ≤ p3 ∧ p3 ≤ 10) : zT shM l yX11_leadsTo cX11_leadsTo 4 (some .int) (rmL 1) 0 0 [.inr 0, .inl p1, .inl p2, .inl p3] h (q_X11_leadsTo h p1 p2 p3) := by
  refine zT_of (by decide +kernel) (L0 := [some (.inr 0), some (.inl p1), some (.inl p2), some (.inl p3)]) rfl (Nat.le_of_ble_eq_true rfl) ?_
  refine zj_iload_n (zdk ttX11_leadsTo 0 rfl rfl) rfl ?_
  refine zj_iload_n (zdk ttX11_leadsTo 1 rfl rfl) rfl ?_
  refine zj_iadd (zdk ttX11_leadsTo 2 rfl rfl) ?_
  refine zj_iload_n (zdk ttX11_leadsTo 3 rfl rfl) rfl ?_
  refine zj_iremP (zdk ttX11_leadsTo 4 rfl rfl) (by omega) (by omega) ?_
  have b1 := zmod_b (x := (p2 + p3)) (b := p1) (by omega) (by omega)
  exact zj_iret rfl (zdk ttX11_leadsTo 5 rfl rfl) (Nat.le_refl _) (Nat.le_refl _) ⟨((p2 + p3) % p1), rfl, rfl, by omega⟩

abbrev tX11_handsAt : List (Nat × Instr × Nat) := [(0, .aload_n 0, 1), (1, .bipush 11, 2), (3, .iload_n 1, 1), (4, .imul, 1), (5, .sipush 720, 3), (8, .irem, 1), (9, .sipush 720, 3), (12, .bipush 11, 2), (14, .iload_n 1, 1), (15, .imul, 1), (16, .sipush 720, 3), (19, .irem, 1), (20, .isub, 1), (21, .invokevirtual 371, 3), (24, .ireturn, 1)]
theorem ttX11_handsAt : zdt cX11_handsAt tX11_handsAt = true := by decide +kernel
abbrev q_X11_handsAt (h : zM) (p1 : Int) : Option zV → zM → Prop := zqi fun v h' => h = h' ∧ (0 ≤ v ∧ v ≤ 360)
set_option maxRecDepth 100000 in
set_option maxHeartbeats 4000000 in
theorem s_X11_handsAt (l : Launch) (h : zM) (p1 : Int) (s0 : okM h) (b_p1 : 0 ≤ p1 ∧ p1 ≤ 719) : zT shM l yX11_handsAt cX11_handsAt 2 (some .int) (rmL 2) 0 0 [.inr 0, .inl p1] h (q_X11_handsAt h p1) := by
  refine zT_of (by decide +kernel) (L0 := [some (.inr 0), some (.inl p1)]) rfl (Nat.le_of_ble_eq_true rfl) ?_
  refine zj_aload_n (zdk ttX11_handsAt 0 rfl rfl) rfl (by decide) ?_
  refine zj_bipush (zdk ttX11_handsAt 1 rfl rfl) (by decide) ?_
  refine zj_iload_n (zdk ttX11_handsAt 2 rfl rfl) rfl ?_
  refine zj_imul (zdk ttX11_handsAt 3 rfl rfl) ?_
  refine zj_sipush (zdk ttX11_handsAt 4 rfl rfl) (by decide) ?_
  refine zj_iremP (zdk ttX11_handsAt 5 rfl rfl) (by omega) (by omega) ?_
  refine zj_sipush (zdk ttX11_handsAt 6 rfl rfl) (by decide) ?_
  refine zj_bipush (zdk ttX11_handsAt 7 rfl rfl) (by decide) ?_
  refine zj_iload_n (zdk ttX11_handsAt 8 rfl rfl) rfl ?_
  refine zj_imul (zdk ttX11_handsAt 9 rfl rfl) ?_
  refine zj_sipush (zdk ttX11_handsAt 10 rfl rfl) (by decide) ?_
  refine zj_iremP (zdk ttX11_handsAt 11 rfl rfl) (by omega) (by omega) ?_
  refine zj_isub (zdk ttX11_handsAt 12 rfl rfl) ?_
  refine zj_callV (av := [.inl ((11 * p1) % 720), .inl (720 - ((11 * p1) % 720))]) (st := []) (zdk ttX11_handsAt 13 rfl rfl) mb_X11_lesser mv_RX11_371 (ci := 11) rfl rfl (k_M s0) rfl rfl (Nat.le_of_ble_eq_true rfl) (s_X11_lesser l h ((11 * p1) % 720) (720 - ((11 * p1) % 720)) s0 (by omega) (by omega)) (rm_ok (by decide) (by decide)) (zq_i fun v2 h3 q1 => ?_)
  obtain ⟨rfl, b4⟩ := q1
  have b5 : 0 ≤ v2 ∧ v2 ≤ 360 := by omega
  exact zj_iret rfl (zdk ttX11_handsAt 14 rfl rfl) (Nat.le_refl _) (Nat.le_refl _) ⟨v2, rfl, rfl, by omega⟩

abbrev tX11_onesOf : List (Nat × Instr × Nat) := [(0, .iconst 0, 1), (1, .istore_n 2, 1), (2, .iload_n 1, 1), (3, .istore_n 3, 1), (4, .iload_n 3, 1), (5, .ifCond .eq 16, 3), (8, .iload_n 2, 1), (9, .iconst 1, 1), (10, .iadd, 1), (11, .istore_n 2, 1), (12, .iload_n 3, 1), (13, .iload_n 3, 1), (14, .iconst 1, 1), (15, .isub, 1), (16, .iand, 1), (17, .istore_n 3, 1), (18, .goto (-14), 3), (21, .iload_n 2, 1), (22, .ireturn, 1)]
theorem ttX11_onesOf : zdt cX11_onesOf tX11_onesOf = true := by decide +kernel
abbrev q_X11_onesOf (h : zM) (p1 : Int) : Option zV → zM → Prop := zqi fun v h' => h = h' ∧ ((-2147483648) ≤ v ∧ v ≤ 2147483647)
set_option maxRecDepth 100000 in
set_option maxHeartbeats 4000000 in
theorem s_X11_onesOf (l : Launch) (h : zM) (p1 : Int) (s0 : okM h) (b_p1 : 0 ≤ p1 ∧ p1 ≤ 2147483647) : zT shM l yX11_onesOf cX11_onesOf 4 (some .int) (rmL 1) 0 0 [.inr 0, .inl p1] h (q_X11_onesOf h p1) := by
  refine zT_of (by decide +kernel) (L0 := [some (.inr 0), some (.inl p1), none, none]) rfl (Nat.le_of_ble_eq_true rfl) ?_
  refine zj_iconst (zdk ttX11_onesOf 0 rfl rfl) ?_
  refine zj_istore_n (L' := [some (.inr 0), some (.inl p1), some (.inl 0), none]) (zdk ttX11_onesOf 1 rfl rfl) (by decide) rfl ?_
  refine zj_iload_n (zdk ttX11_onesOf 2 rfl rfl) rfl ?_
  refine zj_istore_n (L' := [some (.inr 0), some (.inl p1), some (.inl 0), some (.inl p1)]) (zdk ttX11_onesOf 3 rfl rfl) (by decide) rfl ?_
  have lp15 : ∀ (n4 : Nat) (x1 x2 : Int), (-2147483648 ≤ x1 ∧ x1 ≤ 2147483647) → (0 ≤ x2 ∧ x2 ≤ 2147483647) → x2.toNat < n4 → zJ shM l yX11_onesOf cX11_onesOf 4 (some .int) (rmL 1) 0 0 (q_X11_onesOf h p1) 0 0 4 [some (.inr 0), some (.inl p1), some (.inl x1), some (.inl x2)] [] h := by
    intro n4
    induction n4 with
    | zero => intro x1 x2 b16 b17 m18; exact absurd m18 (Nat.not_lt_zero _)
    | succ n4 ih19 =>
      intro x1 x2 b16 b17 m18
      refine zj_iload_n (zdk ttX11_onesOf 4 rfl rfl) rfl ?_
      refine zj_if_eq (t := 21) (zdk ttX11_onesOf 5 rfl rfl) (by decide) (by omega) (fun c20 => ?_) (fun c20 => ?_)
      · refine zj_iload_n (zdk ttX11_onesOf 17 rfl rfl) rfl ?_
        exact zj_iret rfl (zdk ttX11_onesOf 18 rfl rfl) (Nat.le_refl _) (Nat.le_refl _) ⟨x1, rfl, rfl, by omega⟩
      · refine zj_iload_n (zdk ttX11_onesOf 6 rfl rfl) rfl ?_
        refine zj_iconst (zdk ttX11_onesOf 7 rfl rfl) ?_
        refine zj_iadd (zdk ttX11_onesOf 8 rfl rfl) ?_
        refine zj_wrap ?_
        have b21 := zwp_in (x1 + 1)
        refine zj_istore_n (L' := [some (.inr 0), some (.inl p1), some (.inl (zwp (x1 + 1))), some (.inl x2)]) (zdk ttX11_onesOf 9 rfl rfl) (by decide) rfl ?_
        refine zj_iload_n (zdk ttX11_onesOf 10 rfl rfl) rfl ?_
        refine zj_iload_n (zdk ttX11_onesOf 11 rfl rfl) rfl ?_
        refine zj_iconst (zdk ttX11_onesOf 12 rfl rfl) ?_
        refine zj_isub (zdk ttX11_onesOf 13 rfl rfl) ?_
        refine zj_iand (zdk ttX11_onesOf 14 rfl rfl) ?_
        have b22 := And.intro (zand_l (a := x2) (by omega) (x2 - 1)) (zand_r x2 (b := (x2 - 1)) (by omega))
        refine zj_istore_n (L' := [some (.inr 0), some (.inl p1), some (.inl (zwp (x1 + 1))), some (.inl (zand x2 (x2 - 1)))]) (zdk ttX11_onesOf 15 rfl rfl) (by decide) rfl ?_
        refine zj_goto (t := 4) (zdk ttX11_onesOf 16 rfl rfl) (by decide) ?_
        exact ih19  (zwp (x1 + 1)) (zand x2 (x2 - 1)) (by omega) (by omega) (by omega)
  exact lp15 _ 0 p1 (by omega) (by omega) (Nat.lt_succ_self _)
