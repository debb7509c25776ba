abbrev q2_X3_joined (h : zM) (p1 : Int) (p2 : Int) (p3 : Int) : Option zV → zM → Prop := zqi fun v h' => h = h' ∧ ((-2147483648) ≤ v ∧ v ≤ 2147483647) ∧ (fJg p1 p2 p3 → v = fJn p1 p2 p3)
set_option maxRecDepth 100000 in
set_option maxHeartbeats 4000000 in
theorem s2_X3_joined (l : Launch) (h : zM) (p1 : Int) (p2 : Int) (p3 : Int) (s0 : okC h) (b_p1 : (-2147483648) ≤ p1 ∧ p1 ≤ 2147483647) (b_p2 : (-2147483648) ≤ p2 ∧ p2 ≤ 2147483647) (b_p3 : (-2147483648) ≤ p3 ∧ p3 ≤ 2147483647) : zT shC l yX3_joined cX3_joined 3 (some .int) (rmL 1) 0 0 [.inl p1, .inl p2, .inl p3] h (q2_X3_joined h p1 p2 p3) := by
  refine zT_of (by decide +kernel) (L0 := [some (.inl p1), some (.inl p2), some (.inl p3)]) rfl (Nat.le_of_ble_eq_true rfl) ?_
  refine zj_iload_n (zdk ttX3_joined 0 rfl rfl) rfl ?_
  have k2 : (¬ p1 = 5 ∧ ¬ p1 = 42 ∧ ¬ p1 = 43 ∧ ¬ p1 = 45 ∧ ¬ p1 = 47 ∧ ¬ p1 = 60 ∧ ¬ p1 = 61 ∧ ¬ p1 = 62) → zJ shC l yX3_joined cX3_joined 3 (some .int) (rmL 1) 0 0 (q2_X3_joined h p1 p2 p3) 0 0 137 [some (.inl p1), some (.inl p2), some (.inl p3)] [] h := by
    intro c1
    refine zj_iload_n (zdk ttX3_joined 47 rfl rfl) rfl ?_
    refine zj_iload_n (zdk ttX3_joined 48 rfl rfl) rfl ?_
    refine zj_ior (zdk ttX3_joined 49 rfl rfl) ?_
    have b3 := zor_in p2 p3
    exact zj_iret rfl (zdk ttX3_joined 50 rfl rfl) (Nat.le_refl _) (Nat.le_refl _) ⟨(zor p2 p3), rfl, rfl, by omega, (fun g9 => by have f9 := fJn_f p1 p2 p3; unfold fJg at g9; first | omega | (have q9 := (fJn_5 (x := p2) (y := p3) (by omega) (by omega)).1; rw [show p1 = 5 by omega]; exact q9.symm) | (have q9 := (fJn_4 (x := p2) (y := p3) (by omega) (by omega)).1; rw [show p1 = 4 by omega]; exact q9.symm))⟩
  have k4 : p1 = 5 → zJ shC l yX3_joined cX3_joined 3 (some .int) (rmL 1) 0 0 (q2_X3_joined h p1 p2 p3) 0 0 133 [some (.inl p1), some (.inl p2), some (.inl p3)] [] h := by
    intro c1
    refine zj_iload_n (zdk ttX3_joined 43 rfl rfl) rfl ?_
    refine zj_iload_n (zdk ttX3_joined 44 rfl rfl) rfl ?_
    refine zj_iand (zdk ttX3_joined 45 rfl rfl) ?_
    have b5 := zand_in p2 p3
    exact zj_iret rfl (zdk ttX3_joined 46 rfl rfl) (Nat.le_refl _) (Nat.le_refl _) ⟨(zand p2 p3), rfl, rfl, by omega, (fun g9 => by have f9 := fJn_f p1 p2 p3; unfold fJg at g9; first | omega | (have q9 := (fJn_5 (x := p2) (y := p3) (by omega) (by omega)).1; rw [show p1 = 5 by omega]; exact q9.symm) | (have q9 := (fJn_4 (x := p2) (y := p3) (by omega) (by omega)).1; rw [show p1 = 4 by omega]; exact q9.symm))⟩
  have k6 : p1 = 42 → zJ shC l yX3_joined cX3_joined 3 (some .int) (rmL 1) 0 0 (q2_X3_joined h p1 p2 p3) 0 0 84 [some (.inl p1), some (.inl p2), some (.inl p3)] [] h := by
    intro c1
    refine zj_iload_n (zdk ttX3_joined 10 rfl rfl) rfl ?_
    refine zj_iload_n (zdk ttX3_joined 11 rfl rfl) rfl ?_
    refine zj_imul (zdk ttX3_joined 12 rfl rfl) ?_
    refine zj_wrap ?_
    have b7 := zwp_in (p2 * p3)
    exact zj_iret rfl (zdk ttX3_joined 13 rfl rfl) (Nat.le_refl _) (Nat.le_refl _) ⟨(zwp (p2 * p3)), rfl, rfl, by omega, (fun g9 => by have f9 := fJn_f p1 p2 p3; unfold fJg at g9; first | omega | (have q9 := (fJn_5 (x := p2) (y := p3) (by omega) (by omega)).1; rw [show p1 = 5 by omega]; exact q9.symm) | (have q9 := (fJn_4 (x := p2) (y := p3) (by omega) (by omega)).1; rw [show p1 = 4 by omega]; exact q9.symm))⟩
  have k8 : p1 = 43 → zJ shC l yX3_joined cX3_joined 3 (some .int) (rmL 1) 0 0 (q2_X3_joined h p1 p2 p3) 0 0 76 [some (.inl p1), some (.inl p2), some (.inl p3)] [] h := by
    intro c1
    refine zj_iload_n (zdk ttX3_joined 2 rfl rfl) rfl ?_
    refine zj_iload_n (zdk ttX3_joined 3 rfl rfl) rfl ?_
    refine zj_iadd (zdk ttX3_joined 4 rfl rfl) ?_
    refine zj_wrap ?_
    have b9 := zwp_in (p2 + p3)
    exact zj_iret rfl (zdk ttX3_joined 5 rfl rfl) (Nat.le_refl _) (Nat.le_refl _) ⟨(zwp (p2 + p3)), rfl, rfl, by omega, (fun g9 => by have f9 := fJn_f p1 p2 p3; unfold fJg at g9; first | omega | (have q9 := (fJn_5 (x := p2) (y := p3) (by omega) (by omega)).1; rw [show p1 = 5 by omega]; exact q9.symm) | (have q9 := (fJn_4 (x := p2) (y := p3) (by omega) (by omega)).1; rw [show p1 = 4 by omega]; exact q9.symm))⟩
  have k10 : p1 = 45 → zJ shC l yX3_joined cX3_joined 3 (some .int) (rmL 1) 0 0 (q2_X3_joined h p1 p2 p3) 0 0 80 [some (.inl p1), some (.inl p2), some (.inl p3)] [] h := by
    intro c1
    refine zj_iload_n (zdk ttX3_joined 6 rfl rfl) rfl ?_
    refine zj_iload_n (zdk ttX3_joined 7 rfl rfl) rfl ?_
    refine zj_isub (zdk ttX3_joined 8 rfl rfl) ?_
    refine zj_wrap ?_
    have b11 := zwp_in (p2 - p3)
    exact zj_iret rfl (zdk ttX3_joined 9 rfl rfl) (Nat.le_refl _) (Nat.le_refl _) ⟨(zwp (p2 - p3)), rfl, rfl, by omega, (fun g9 => by have f9 := fJn_f p1 p2 p3; unfold fJg at g9; first | omega | (have q9 := (fJn_5 (x := p2) (y := p3) (by omega) (by omega)).1; rw [show p1 = 5 by omega]; exact q9.symm) | (have q9 := (fJn_4 (x := p2) (y := p3) (by omega) (by omega)).1; rw [show p1 = 4 by omega]; exact q9.symm))⟩
  have k12 : p1 = 47 → zJ shC l yX3_joined cX3_joined 3 (some .int) (rmL 1) 0 0 (q2_X3_joined h p1 p2 p3) 0 0 88 [some (.inl p1), some (.inl p2), some (.inl p3)] [] h := by
    intro c1
    refine zj_iload_n (zdk ttX3_joined 14 rfl rfl) rfl ?_
    refine zj_if_ne (t := 96) (zdk ttX3_joined 15 rfl rfl) (by decide) (by omega) (fun c13 => ?_) (fun c13 => ?_)
    · refine zj_iload_n (zdk ttX3_joined 18 rfl rfl) rfl ?_
      refine zj_iload_n (zdk ttX3_joined 19 rfl rfl) rfl ?_
      refine zj_idiv (zdk ttX3_joined 20 rfl rfl) (by omega) (by omega) (by omega) ?_
      have b14 := ztd_b p2 p3
      refine zj_wrap ?_
      have b15 := zwp_in (p2.tdiv p3)
      exact zj_iret rfl (zdk ttX3_joined 21 rfl rfl) (Nat.le_refl _) (Nat.le_refl _) ⟨(zwp (p2.tdiv p3)), rfl, rfl, by omega, (fun g9 => by have f9 := fJn_f p1 p2 p3; unfold fJg at g9; first | omega | (have q9 := (fJn_5 (x := p2) (y := p3) (by omega) (by omega)).1; rw [show p1 = 5 by omega]; exact q9.symm) | (have q9 := (fJn_4 (x := p2) (y := p3) (by omega) (by omega)).1; rw [show p1 = 4 by omega]; exact q9.symm))⟩
    · refine zj_iconst (zdk ttX3_joined 16 rfl rfl) ?_
      refine zj_goto (t := 99) (zdk ttX3_joined 17 rfl rfl) (by decide) ?_
      exact zj_iret rfl (zdk ttX3_joined 21 rfl rfl) (Nat.le_refl _) (Nat.le_refl _) ⟨0, rfl, rfl, by omega, (fun g9 => by have f9 := fJn_f p1 p2 p3; unfold fJg at g9; first | omega | (have q9 := (fJn_5 (x := p2) (y := p3) (by omega) (by omega)).1; rw [show p1 = 5 by omega]; exact q9.symm) | (have q9 := (fJn_4 (x := p2) (y := p3) (by omega) (by omega)).1; rw [show p1 = 4 by omega]; exact q9.symm))⟩
  have k16 : p1 = 60 → zJ shC l yX3_joined cX3_joined 3 (some .int) (rmL 1) 0 0 (q2_X3_joined h p1 p2 p3) 0 0 100 [some (.inl p1), some (.inl p2), some (.inl p3)] [] h := by
    intro c1
    refine zj_iload_n (zdk ttX3_joined 22 rfl rfl) rfl ?_
    refine zj_iload_n (zdk ttX3_joined 23 rfl rfl) rfl ?_
    refine zj_icmp_ge (t := 109) (zdk ttX3_joined 24 rfl rfl) (by decide) (by omega) (by omega) (fun c17 => ?_) (fun c17 => ?_)
    · refine zj_iconst (zdk ttX3_joined 27 rfl rfl) ?_
      exact zj_iret rfl (zdk ttX3_joined 28 rfl rfl) (Nat.le_refl _) (Nat.le_refl _) ⟨0, rfl, rfl, by omega, (fun g9 => by have f9 := fJn_f p1 p2 p3; unfold fJg at g9; first | omega | (have q9 := (fJn_5 (x := p2) (y := p3) (by omega) (by omega)).1; rw [show p1 = 5 by omega]; exact q9.symm) | (have q9 := (fJn_4 (x := p2) (y := p3) (by omega) (by omega)).1; rw [show p1 = 4 by omega]; exact q9.symm))⟩
    · refine zj_iconst (zdk ttX3_joined 25 rfl rfl) ?_
      refine zj_goto (t := 110) (zdk ttX3_joined 26 rfl rfl) (by decide) ?_
      exact zj_iret rfl (zdk ttX3_joined 28 rfl rfl) (Nat.le_refl _) (Nat.le_refl _) ⟨1, rfl, rfl, by omega, (fun g9 => by have f9 := fJn_f p1 p2 p3; unfold fJg at g9; first | omega | (have q9 := (fJn_5 (x := p2) (y := p3) (by omega) (by omega)).1; rw [show p1 = 5 by omega]; exact q9.symm) | (have q9 := (fJn_4 (x := p2) (y := p3) (by omega) (by omega)).1; rw [show p1 = 4 by omega]; exact q9.symm))⟩
  have k18 : p1 = 61 → zJ shC l yX3_joined cX3_joined 3 (some .int) (rmL 1) 0 0 (q2_X3_joined h p1 p2 p3) 0 0 111 [some (.inl p1), some (.inl p2), some (.inl p3)] [] h := by
    intro c1
    refine zj_iload_n (zdk ttX3_joined 29 rfl rfl) rfl ?_
    refine zj_iload_n (zdk ttX3_joined 30 rfl rfl) rfl ?_
    refine zj_icmp_ne (t := 120) (zdk ttX3_joined 31 rfl rfl) (by decide) (by omega) (by omega) (fun c19 => ?_) (fun c19 => ?_)
    · refine zj_iconst (zdk ttX3_joined 34 rfl rfl) ?_
      exact zj_iret rfl (zdk ttX3_joined 35 rfl rfl) (Nat.le_refl _) (Nat.le_refl _) ⟨0, rfl, rfl, by omega, (fun g9 => by have f9 := fJn_f p1 p2 p3; unfold fJg at g9; first | omega | (have q9 := (fJn_5 (x := p2) (y := p3) (by omega) (by omega)).1; rw [show p1 = 5 by omega]; exact q9.symm) | (have q9 := (fJn_4 (x := p2) (y := p3) (by omega) (by omega)).1; rw [show p1 = 4 by omega]; exact q9.symm))⟩
    · refine zj_iconst (zdk ttX3_joined 32 rfl rfl) ?_
      refine zj_goto (t := 121) (zdk ttX3_joined 33 rfl rfl) (by decide) ?_
      exact zj_iret rfl (zdk ttX3_joined 35 rfl rfl) (Nat.le_refl _) (Nat.le_refl _) ⟨1, rfl, rfl, by omega, (fun g9 => by have f9 := fJn_f p1 p2 p3; unfold fJg at g9; first | omega | (have q9 := (fJn_5 (x := p2) (y := p3) (by omega) (by omega)).1; rw [show p1 = 5 by omega]; exact q9.symm) | (have q9 := (fJn_4 (x := p2) (y := p3) (by omega) (by omega)).1; rw [show p1 = 4 by omega]; exact q9.symm))⟩
  have k20 : p1 = 62 → zJ shC l yX3_joined cX3_joined 3 (some .int) (rmL 1) 0 0 (q2_X3_joined h p1 p2 p3) 0 0 122 [some (.inl p1), some (.inl p2), some (.inl p3)] [] h := by
    intro c1
    refine zj_iload_n (zdk ttX3_joined 36 rfl rfl) rfl ?_
    refine zj_iload_n (zdk ttX3_joined 37 rfl rfl) rfl ?_
    refine zj_icmp_le (t := 131) (zdk ttX3_joined 38 rfl rfl) (by decide) (by omega) (by omega) (fun c21 => ?_) (fun c21 => ?_)
    · refine zj_iconst (zdk ttX3_joined 41 rfl rfl) ?_
      exact zj_iret rfl (zdk ttX3_joined 42 rfl rfl) (Nat.le_refl _) (Nat.le_refl _) ⟨0, rfl, rfl, by omega, (fun g9 => by have f9 := fJn_f p1 p2 p3; unfold fJg at g9; first | omega | (have q9 := (fJn_5 (x := p2) (y := p3) (by omega) (by omega)).1; rw [show p1 = 5 by omega]; exact q9.symm) | (have q9 := (fJn_4 (x := p2) (y := p3) (by omega) (by omega)).1; rw [show p1 = 4 by omega]; exact q9.symm))⟩
    · refine zj_iconst (zdk ttX3_joined 39 rfl rfl) ?_
      refine zj_goto (t := 132) (zdk ttX3_joined 40 rfl rfl) (by decide) ?_
      exact zj_iret rfl (zdk ttX3_joined 42 rfl rfl) (Nat.le_refl _) (Nat.le_refl _) ⟨1, rfl, rfl, by omega, (fun g9 => by have f9 := fJn_f p1 p2 p3; unfold fJg at g9; first | omega | (have q9 := (fJn_5 (x := p2) (y := p3) (by omega) (by omega)).1; rw [show p1 = 5 by omega]; exact q9.symm) | (have q9 := (fJn_4 (x := p2) (y := p3) (by omega) (by omega)).1; rw [show p1 = 4 by omega]; exact q9.symm))⟩
  by_cases z22 : p1 = 5
  · exact zj_lookup (t := 133) (zdk ttX3_joined 1 rfl rfl) (by omega) rfl (by rw [z22] <;> rfl) (by decide) (k4 z22)
  by_cases z23 : p1 = 42
  · exact zj_lookup (t := 84) (zdk ttX3_joined 1 rfl rfl) (by omega) rfl (by rw [z23] <;> rfl) (by decide) (k6 z23)
  by_cases z24 : p1 = 43
  · exact zj_lookup (t := 76) (zdk ttX3_joined 1 rfl rfl) (by omega) rfl (by rw [z24] <;> rfl) (by decide) (k8 z24)
  by_cases z25 : p1 = 45
  · exact zj_lookup (t := 80) (zdk ttX3_joined 1 rfl rfl) (by omega) rfl (by rw [z25] <;> rfl) (by decide) (k10 z25)
  by_cases z26 : p1 = 47
  · exact zj_lookup (t := 88) (zdk ttX3_joined 1 rfl rfl) (by omega) rfl (by rw [z26] <;> rfl) (by decide) (k12 z26)
  by_cases z27 : p1 = 60
  · exact zj_lookup (t := 100) (zdk ttX3_joined 1 rfl rfl) (by omega) rfl (by rw [z27] <;> rfl) (by decide) (k16 z27)
  by_cases z28 : p1 = 61
  · exact zj_lookup (t := 111) (zdk ttX3_joined 1 rfl rfl) (by omega) rfl (by rw [z28] <;> rfl) (by decide) (k18 z28)
  by_cases z29 : p1 = 62
  · exact zj_lookup (t := 122) (zdk ttX3_joined 1 rfl rfl) (by omega) rfl (by rw [z29] <;> rfl) (by decide) (k20 z29)
  exact zj_lookup (t := 137) (zdk ttX3_joined 1 rfl rfl) (by omega) rfl (by show Op.lookupswitch.offset [(5, 132), (42, 83), (43, 75), (45, 79), (47, 87), (60, 99), (61, 110), (62, 121)] 136 p1 = _; rw [Op.lookupswitch.offset_cons, if_neg (by omega), Op.lookupswitch.offset_cons, if_neg (by omega), Op.lookupswitch.offset_cons, if_neg (by omega), Op.lookupswitch.offset_cons, if_neg (by omega), Op.lookupswitch.offset_cons, if_neg (by omega), Op.lookupswitch.offset_cons, if_neg (by omega), Op.lookupswitch.offset_cons, if_neg (by omega), Op.lookupswitch.offset_cons, if_neg (by omega), Op.lookupswitch.offset_nil]) (by decide) (k2 (by omega))

abbrev q2_X9_valueOf (h : zM) (c : Int) (p1 : Int) (p2 : Int) : Option zV → zM → Prop := zqi fun v h' => h = h' ∧ ((-2147483648) ≤ v ∧ v ≤ 2147483647) ∧ (∀ E th x, xC h c E th x → (0 ≤ p2 ∧ p2 < E.n) → (7 ≤ p1 ∧ p1 ≤ 16) → v = fAsk E x.1 p2 (p1 - 7))
set_option maxRecDepth 100000 in
set_option maxHeartbeats 4000000 in
theorem s2_X9_valueOf (l : Launch) (h : zM) (c : Int) (p1 : Int) (p2 : Int) (s0 : okC h) (hc : zWd c) (b_p1 : (-2147483648) ≤ p1 ∧ p1 ≤ 2147483647) (b_p2 : 0 ≤ p2 ∧ p2 ≤ 17) : zT shC l yX9_valueOf cX9_valueOf 3 (some .int) (rmL 2) 0 0 [.inr c, .inl p1, .inl p2] h (q2_X9_valueOf h c p1 p2) := by
  refine zT_of (by decide +kernel) (L0 := [some (.inr c), some (.inl p1), some (.inl p2)]) rfl (Nat.le_of_ble_eq_true rfl) ?_
  have b1 := zWd_b hc
  refine zj_iload_n (zdk ttX9_valueOf 0 rfl rfl) rfl ?_
  have k3 : (p1 < 7 ∨ 15 < p1) → zJ shC l yX9_valueOf cX9_valueOf 3 (some .int) (rmL 2) 0 0 (q2_X9_valueOf h c p1 p2) 0 0 181 [some (.inr c), some (.inl p1), some (.inl p2)] [] h := by
    intro c2
    refine zj_aload_n (zdk ttX9_valueOf 67 rfl rfl) rfl (by omega) ?_
    refine zj_getr (r := (c + 1)) (zdk ttX9_valueOf 68 rfl rfl) zf_RX9_12 rfl (k_9_0 s0 hc) (rf_9_0_0 s0 hc) ?_
    have b4 : -2147483648 ≤ (h.2 (c + 1) 12) ∧ (h.2 (c + 1) 12) ≤ 2147483647 := fb_9_1_12 s0 hc
    refine zj_geti (v := (h.2 (c + 1) 12)) (zdk ttX9_valueOf 69 rfl rfl) zf_RX9_83 rfl (k_9_1 s0 hc) rfl ?_
    exact zj_iret rfl (zdk ttX9_valueOf 70 rfl rfl) (Nat.le_refl _) (Nat.le_refl _) ⟨(h.2 (c + 1) 12), rfl, rfl, by omega, (by intro E th x t0 i0 k0; have g0 := xC_g t0; have n0 := xC_n t0; have i1 := xC_i t0 i0.1 (by omega); have a0 := fAsk_f E x.1 p2 (p1 - 7); omega)⟩
  have k5 : p1 = 7 → zJ shC l yX9_valueOf cX9_valueOf 3 (some .int) (rmL 2) 0 0 (q2_X9_valueOf h c p1 p2) 0 0 52 [some (.inr c), some (.inl p1), some (.inl p2)] [] h := by
    intro c2
    refine zj_aload_n (zdk ttX9_valueOf 2 rfl rfl) rfl (by omega) ?_
    refine zj_getr (r := (c + 1)) (zdk ttX9_valueOf 3 rfl rfl) zf_RX9_12 rfl (k_9_0 s0 hc) (rf_9_0_0 s0 hc) ?_
    refine zj_getr (r := (c + 2)) (zdk ttX9_valueOf 4 rfl rfl) zf_RX9_205 rfl (k_9_1 s0 hc) (rf_9_1_0 s0 hc) ?_
    refine zj_iload_n (zdk ttX9_valueOf 5 rfl rfl) rfl ?_
    have b6 : -2147483648 ≤ (h.2 (c + 2) p2) ∧ (h.2 (c + 2) p2) ≤ 2147483647 := ab_9_1_0 s0 hc p2
    refine zj_iald (v := (h.2 (c + 2) p2)) (zdk ttX9_valueOf 6 rfl rfl) (ka_9_1_0 s0 hc) (by decide) (by omega) rfl ?_
    exact zj_iret rfl (zdk ttX9_valueOf 7 rfl rfl) (Nat.le_refl _) (Nat.le_refl _) ⟨(h.2 (c + 2) p2), rfl, rfl, by omega, (by intro E th x t0 i0 k0; have g0 := xC_g t0; have n0 := xC_n t0; have i1 := xC_i t0 i0.1 (by omega); have a0 := fAsk_f E x.1 p2 (p1 - 7); omega)⟩
  have k7 : p1 = 8 → zJ shC l yX9_valueOf cX9_valueOf 3 (some .int) (rmL 2) 0 0 (q2_X9_valueOf h c p1 p2) 0 0 62 [some (.inr c), some (.inl p1), some (.inl p2)] [] h := by
    intro c2
    refine zj_aload_n (zdk ttX9_valueOf 8 rfl rfl) rfl (by omega) ?_
    refine zj_getr (r := (c + 1)) (zdk ttX9_valueOf 9 rfl rfl) zf_RX9_12 rfl (k_9_0 s0 hc) (rf_9_0_0 s0 hc) ?_
    refine zj_getr (r := (c + 3)) (zdk ttX9_valueOf 10 rfl rfl) zf_RX9_202 rfl (k_9_1 s0 hc) (rf_9_1_1 s0 hc) ?_
    refine zj_iload_n (zdk ttX9_valueOf 11 rfl rfl) rfl ?_
    have b8 : -2147483648 ≤ (h.2 (c + 3) p2) ∧ (h.2 (c + 3) p2) ≤ 2147483647 := ab_9_1_1 s0 hc p2
    refine zj_iald (v := (h.2 (c + 3) p2)) (zdk ttX9_valueOf 12 rfl rfl) (ka_9_1_1 s0 hc) (by decide) (by omega) rfl ?_
    exact zj_iret rfl (zdk ttX9_valueOf 13 rfl rfl) (Nat.le_refl _) (Nat.le_refl _) ⟨(h.2 (c + 3) p2), rfl, rfl, by omega, (by intro E th x t0 i0 k0; have g0 := xC_g t0; have n0 := xC_n t0; have i1 := xC_i t0 i0.1 (by omega); have a0 := fAsk_f E x.1 p2 (p1 - 7); omega)⟩
  have k9 : p1 = 9 → zJ shC l yX9_valueOf cX9_valueOf 3 (some .int) (rmL 2) 0 0 (q2_X9_valueOf h c p1 p2) 0 0 72 [some (.inr c), some (.inl p1), some (.inl p2)] [] h := by
    intro c2
    refine zj_aload_n (zdk ttX9_valueOf 14 rfl rfl) rfl (by omega) ?_
    refine zj_getr (r := (c + 1)) (zdk ttX9_valueOf 15 rfl rfl) zf_RX9_12 rfl (k_9_0 s0 hc) (rf_9_0_0 s0 hc) ?_
    refine zj_getr (r := (c + 4)) (zdk ttX9_valueOf 16 rfl rfl) zf_RX9_156 rfl (k_9_1 s0 hc) (rf_9_1_2 s0 hc) ?_
    refine zj_iload_n (zdk ttX9_valueOf 17 rfl rfl) rfl ?_
    have b10 : -2147483648 ≤ (h.2 (c + 4) p2) ∧ (h.2 (c + 4) p2) ≤ 2147483647 := ab_9_1_2 s0 hc p2
    refine zj_iald (v := (h.2 (c + 4) p2)) (zdk ttX9_valueOf 18 rfl rfl) (ka_9_1_2 s0 hc) (by decide) (by omega) rfl ?_
    exact zj_iret rfl (zdk ttX9_valueOf 19 rfl rfl) (Nat.le_refl _) (Nat.le_refl _) ⟨(h.2 (c + 4) p2), rfl, rfl, by omega, (by intro E th x t0 i0 k0; have g0 := xC_g t0; have n0 := xC_n t0; have i1 := xC_i t0 i0.1 (by omega); have a0 := fAsk_f E x.1 p2 (p1 - 7); omega)⟩
  have k11 : p1 = 10 → zJ shC l yX9_valueOf cX9_valueOf 3 (some .int) (rmL 2) 0 0 (q2_X9_valueOf h c p1 p2) 0 0 82 [some (.inr c), some (.inl p1), some (.inl p2)] [] h := by
    intro c2
    refine zj_aload_n (zdk ttX9_valueOf 20 rfl rfl) rfl (by omega) ?_
    refine zj_getr (r := (c + 1)) (zdk ttX9_valueOf 21 rfl rfl) zf_RX9_12 rfl (k_9_0 s0 hc) (rf_9_0_0 s0 hc) ?_
    have b12 : -2147483648 ≤ (h.2 (c + 1) 4) ∧ (h.2 (c + 1) 4) ≤ 2147483647 := fb_9_1_4 s0 hc
    refine zj_geti (v := (h.2 (c + 1) 4)) (zdk ttX9_valueOf 22 rfl rfl) zf_RX9_153 rfl (k_9_1 s0 hc) rfl ?_
    refine zj_callS (av := [.inl (h.2 (c + 1) 4)]) (st := []) (zdk ttX9_valueOf 23 rfl rfl) mb_J6_bitCount_0f7a4 ms_RX9_208 rfl rfl (Nat.le_of_ble_eq_true rfl) (s2_J6_bitCount_0f7a4 shC l h (h.2 (c + 1) 4)) (rm_ok (by decide) (by decide)) (zq_i fun v13 h14 q15 => ?_)
    obtain ⟨rfl, b16⟩ := q15
    have b16b := zbcF_b (h.2 (c + 1) 4)
    have b16c : 0 ≤ v13 ∧ v13 ≤ 63 := by omega
    exact zj_iret rfl (zdk ttX9_valueOf 24 rfl rfl) (Nat.le_refl _) (Nat.le_refl _) ⟨v13, rfl, rfl, by omega, (by intro E th x t0 i0 k0; have g0 := xC_g t0; have n0 := xC_n t0; have i1 := xC_i t0 i0.1 (by omega); have a0 := fAsk_f E x.1 p2 (p1 - 7); have ct := xC_ct t0 (by omega); omega)⟩
  have k17 : p1 = 11 → zJ shC l yX9_valueOf cX9_valueOf 3 (some .int) (rmL 2) 0 0 (q2_X9_valueOf h c p1 p2) 0 0 93 [some (.inr c), some (.inl p1), some (.inl p2)] [] h := by
    intro c2
    refine zj_aload_n (zdk ttX9_valueOf 25 rfl rfl) rfl (by omega) ?_
    refine zj_getr (r := (c + 1)) (zdk ttX9_valueOf 26 rfl rfl) zf_RX9_12 rfl (k_9_0 s0 hc) (rf_9_0_0 s0 hc) ?_
    have b18 : 0 ≤ (h.2 (c + 1) 3) ∧ (h.2 (c + 1) 3) ≤ 18 := fb_9_1_3 s0 hc
    refine zj_geti (v := (h.2 (c + 1) 3)) (zdk ttX9_valueOf 27 rfl rfl) zf_RX9_121 rfl (k_9_1 s0 hc) rfl ?_
    exact zj_iret rfl (zdk ttX9_valueOf 28 rfl rfl) (Nat.le_refl _) (Nat.le_refl _) ⟨(h.2 (c + 1) 3), rfl, rfl, by omega, (by intro E th x t0 i0 k0; have g0 := xC_g t0; have n0 := xC_n t0; have i1 := xC_i t0 i0.1 (by omega); have a0 := fAsk_f E x.1 p2 (p1 - 7); omega)⟩
  have k19 : p1 = 12 → zJ shC l yX9_valueOf cX9_valueOf 3 (some .int) (rmL 2) 0 0 (q2_X9_valueOf h c p1 p2) 0 0 101 [some (.inr c), some (.inl p1), some (.inl p2)] [] h := by
    intro c2
    refine zj_sipush (zdk ttX9_valueOf 29 rfl rfl) (by decide) ?_
    refine zj_sipush (zdk ttX9_valueOf 30 rfl rfl) (by decide) ?_
    refine zj_aload_n (zdk ttX9_valueOf 31 rfl rfl) rfl (by omega) ?_
    refine zj_getr (r := (c + 1)) (zdk ttX9_valueOf 32 rfl rfl) zf_RX9_12 rfl (k_9_0 s0 hc) (rf_9_0_0 s0 hc) ?_
    have b20 : -2147483648 ≤ (h.2 (c + 1) 7) ∧ (h.2 (c + 1) 7) ≤ 2147483647 := fb_9_1_7 s0 hc
    refine zj_geti (v := (h.2 (c + 1) 7)) (zdk ttX9_valueOf 33 rfl rfl) zf_RX9_159 rfl (k_9_1 s0 hc) rfl ?_
    refine zj_min (zdk ttX9_valueOf 34 rfl rfl) mx_RX9_166 (by decide) (by omega) (Nat.le_of_ble_eq_true rfl) (rm_m (by decide)) ?_
    have b21 := zm_min_f 9999 (h.2 (c + 1) 7)
    refine zj_max (zdk ttX9_valueOf 35 rfl rfl) mx_RX9_171 (by decide) (by omega) (Nat.le_of_ble_eq_true rfl) (rm_m (by decide)) ?_
    have b22 := zm_max_f (-9999) (zm_min 9999 (h.2 (c + 1) 7))
    exact zj_iret rfl (zdk ttX9_valueOf 36 rfl rfl) (Nat.le_refl _) (Nat.le_refl _) ⟨(zm_max (-9999) (zm_min 9999 (h.2 (c + 1) 7))), rfl, rfl, by omega, (by intro E th x t0 i0 k0; have g0 := xC_g t0; have n0 := xC_n t0; have i1 := xC_i t0 i0.1 (by omega); have a0 := fAsk_f E x.1 p2 (p1 - 7); have m1 := fHeld_m (lo := -9999) (hi := 9999) (v := h.2 (c + 1) 7) (by decide); have m2 : fHeld (x.1 4) (-9999) 9999 = fHeld (h.2 (c + 1) 7) (-9999) 9999 := (by rw [g0.2.2.1]); omega)⟩
  have k23 : p1 = 13 → zJ shC l yX9_valueOf cX9_valueOf 3 (some .int) (rmL 2) 0 0 (q2_X9_valueOf h c p1 p2) 0 0 121 [some (.inr c), some (.inl p1), some (.inl p2)] [] h := by
    intro c2
    refine zj_aload_n (zdk ttX9_valueOf 37 rfl rfl) rfl (by omega) ?_
    refine zj_getr (r := (c + 1)) (zdk ttX9_valueOf 38 rfl rfl) zf_RX9_12 rfl (k_9_0 s0 hc) (rf_9_0_0 s0 hc) ?_
    have b24 : 0 ≤ (h.2 (c + 1) 6) ∧ (h.2 (c + 1) 6) ≤ 719 := fb_9_1_6 s0 hc
    refine zj_geti (v := (h.2 (c + 1) 6)) (zdk ttX9_valueOf 39 rfl rfl) zf_RX9_114 rfl (k_9_1 s0 hc) rfl ?_
    exact zj_iret rfl (zdk ttX9_valueOf 40 rfl rfl) (Nat.le_refl _) (Nat.le_refl _) ⟨(h.2 (c + 1) 6), rfl, rfl, by omega, (by intro E th x t0 i0 k0; have g0 := xC_g t0; have n0 := xC_n t0; have i1 := xC_i t0 i0.1 (by omega); have a0 := fAsk_f E x.1 p2 (p1 - 7); omega)⟩
  have k25 : p1 = 14 → zJ shC l yX9_valueOf cX9_valueOf 3 (some .int) (rmL 2) 0 0 (q2_X9_valueOf h c p1 p2) 0 0 129 [some (.inr c), some (.inl p1), some (.inl p2)] [] h := by
    intro c2
    refine zj_aload_n (zdk ttX9_valueOf 41 rfl rfl) rfl (by omega) ?_
    refine zj_getr (r := (c + 1)) (zdk ttX9_valueOf 42 rfl rfl) zf_RX9_12 rfl (k_9_0 s0 hc) (rf_9_0_0 s0 hc) ?_
    have b26 : -2147483648 ≤ (h.2 (c + 1) 10) ∧ (h.2 (c + 1) 10) ≤ 2147483647 := fb_9_1_10 s0 hc
    refine zj_geti (v := (h.2 (c + 1) 10)) (zdk ttX9_valueOf 43 rfl rfl) zf_RX9_108 rfl (k_9_1 s0 hc) rfl ?_
    exact zj_iret rfl (zdk ttX9_valueOf 44 rfl rfl) (Nat.le_refl _) (Nat.le_refl _) ⟨(h.2 (c + 1) 10), rfl, rfl, by omega, (by intro E th x t0 i0 k0; have g0 := xC_g t0; have n0 := xC_n t0; have i1 := xC_i t0 i0.1 (by omega); have a0 := fAsk_f E x.1 p2 (p1 - 7); omega)⟩
  have k27 : p1 = 15 → zJ shC l yX9_valueOf cX9_valueOf 3 (some .int) (rmL 2) 0 0 (q2_X9_valueOf h c p1 p2) 0 0 137 [some (.inr c), some (.inl p1), some (.inl p2)] [] h := by
    intro c2
    refine zj_aload_n (zdk ttX9_valueOf 45 rfl rfl) rfl (by omega) ?_
    refine zj_getr (r := (c + 20)) (zdk ttX9_valueOf 46 rfl rfl) zf_RX9_38 rfl (k_9_0 s0 hc) (rf_9_0_4 s0 hc) ?_
    refine zj_getr (r := (c + 21)) (zdk ttX9_valueOf 47 rfl rfl) zf_RX9_214 rfl (k_9_20 s0 hc) (rf_9_20_0 s0 hc) ?_
    refine zj_iload_n (zdk ttX9_valueOf 48 rfl rfl) rfl ?_
    have b28 : -2147483648 ≤ (h.2 (c + 21) p2) ∧ (h.2 (c + 21) p2) ≤ 2147483647 := ab_9_20_0 s0 hc p2
    refine zj_iald (v := (h.2 (c + 21) p2)) (zdk ttX9_valueOf 49 rfl rfl) (ka_9_20_0 s0 hc) (by decide) (by omega) rfl ?_
    refine zj_aload_n (zdk ttX9_valueOf 50 rfl rfl) rfl (by omega) ?_
    refine zj_getr (r := (c + 1)) (zdk ttX9_valueOf 51 rfl rfl) zf_RX9_12 rfl (k_9_0 s0 hc) (rf_9_0_0 s0 hc) ?_
    refine zj_iload_n (zdk ttX9_valueOf 52 rfl rfl) rfl ?_
    refine zj_callV (av := [.inl p2]) (st := [.inl (h.2 (c + 21) p2)]) (zdk ttX9_valueOf 53 rfl rfl) mb_X1_isHere mv_RX9_124 (ci := 1) rfl rfl (k_9_1 s0 hc) rfl rfl (Nat.le_of_ble_eq_true rfl) (s_X1_isHere l h (c + 1) p2 s0 (zs_9_1 hc) (by omega)) (rm_ok (by decide) (by decide)) (zq_i fun v30 h31 q29 => ?_)
    obtain ⟨rfl, b33, ⟨rfl, b32⟩ | ⟨rfl, b32⟩⟩ := q29
    · refine zj_if_eq (t := 169) (zdk ttX9_valueOf 54 rfl rfl) (by decide) (by decide) (fun c34 => ?_) (fun c34 => ?_)
      · refine zj_aload_n (zdk ttX9_valueOf 61 rfl rfl) rfl (by omega) ?_
        refine zj_getr (r := (c + 1)) (zdk ttX9_valueOf 62 rfl rfl) zf_RX9_12 rfl (k_9_0 s0 hc) (rf_9_0_0 s0 hc) ?_
        refine zj_geti (v := (h.2 (c + 1) 4)) (zdk ttX9_valueOf 63 rfl rfl) zf_RX9_153 rfl (k_9_1 s0 hc) rfl ?_
        refine zj_iand (zdk ttX9_valueOf 64 rfl rfl) ?_
        have b35 := zand_in (h.2 (c + 21) p2) (h.2 (c + 1) 4)
        refine zj_callS (av := [.inl (zand (h.2 (c + 21) p2) (h.2 (c + 1) 4))]) (st := []) (zdk ttX9_valueOf 65 rfl rfl) mb_J6_bitCount_0f7a4 ms_RX9_208 rfl rfl (Nat.le_of_ble_eq_true rfl) (s2_J6_bitCount_0f7a4 shC l h (zand (h.2 (c + 21) p2) (h.2 (c + 1) 4))) (rm_ok (by decide) (by decide)) (zq_i fun v36 h37 q38 => ?_)
        obtain ⟨rfl, b39⟩ := q38
        have b39b := zbcF_b (zand (h.2 (c + 21) p2) (h.2 (c + 1) 4))
        have b39c : 0 ≤ v36 ∧ v36 ≤ 63 := by omega
        exact zj_iret rfl (zdk ttX9_valueOf 66 rfl rfl) (Nat.le_refl _) (Nat.le_refl _) ⟨v36, rfl, rfl, by omega, (by intro E th x t0 i0 k0; have g0 := xC_g t0; have n0 := xC_n t0; have i1 := xC_i t0 i0.1 (by omega); have a0 := fAsk_f E x.1 p2 (p1 - 7); have he := xC_he t0 i0 (by omega); have ka := xC_ka (y := (h.2 (c + 1) 4)) t0 i0 (by omega) (Or.inr ⟨by omega, rfl⟩); omega)⟩
      · exact absurd c34 (by omega)
    · refine zj_if_eq (t := 169) (zdk ttX9_valueOf 54 rfl rfl) (by decide) (by decide) (fun c40 => ?_) (fun c40 => ?_)
      · exact absurd c40 (by omega)
      · refine zj_aload_n (zdk ttX9_valueOf 55 rfl rfl) rfl (by omega) ?_
        refine zj_getr (r := (c + 1)) (zdk ttX9_valueOf 56 rfl rfl) zf_RX9_12 rfl (k_9_0 s0 hc) (rf_9_0_0 s0 hc) ?_
        refine zj_geti (v := (h.2 (c + 1) 4)) (zdk ttX9_valueOf 57 rfl rfl) zf_RX9_153 rfl (k_9_1 s0 hc) rfl ?_
        refine zj_iconst (zdk ttX9_valueOf 58 rfl rfl) ?_
        refine zj_ixor (zdk ttX9_valueOf 59 rfl rfl) ?_
        have b41 := zxor_in (h.2 (c + 1) 4) (-1)
        refine zj_goto (t := 176) (zdk ttX9_valueOf 60 rfl rfl) (by decide) ?_
        refine zj_iand (zdk ttX9_valueOf 64 rfl rfl) ?_
        have b42 := zand_in (h.2 (c + 21) p2) (zxor (h.2 (c + 1) 4) (-1))
        refine zj_callS (av := [.inl (zand (h.2 (c + 21) p2) (zxor (h.2 (c + 1) 4) (-1)))]) (st := []) (zdk ttX9_valueOf 65 rfl rfl) mb_J6_bitCount_0f7a4 ms_RX9_208 rfl rfl (Nat.le_of_ble_eq_true rfl) (s2_J6_bitCount_0f7a4 shC l h (zand (h.2 (c + 21) p2) (zxor (h.2 (c + 1) 4) (-1)))) (rm_ok (by decide) (by decide)) (zq_i fun v43 h44 q45 => ?_)
        obtain ⟨rfl, b46⟩ := q45
        have b46b := zbcF_b (zand (h.2 (c + 21) p2) (zxor (h.2 (c + 1) 4) (-1)))
        have b46c : 0 ≤ v43 ∧ v43 ≤ 63 := by omega
        exact zj_iret rfl (zdk ttX9_valueOf 66 rfl rfl) (Nat.le_refl _) (Nat.le_refl _) ⟨v43, rfl, rfl, by omega, (by intro E th x t0 i0 k0; have g0 := xC_g t0; have n0 := xC_n t0; have i1 := xC_i t0 i0.1 (by omega); have a0 := fAsk_f E x.1 p2 (p1 - 7); have he := xC_he t0 i0 (by omega); have ka := xC_ka (y := (zxor (h.2 (c + 1) 4) (-1))) t0 i0 (by omega) (Or.inl ⟨by omega, rfl⟩); omega)⟩
  refine zj_table (t := 181) (zdk ttX9_valueOf 1 rfl rfl) (by omega) (by decide) k3 (fun z1 z2 => ?_)
  have z3 : p1 = 7 ∨ p1 = 8 ∨ p1 = 9 ∨ p1 = 10 ∨ p1 = 11 ∨ p1 = 12 ∨ p1 = 13 ∨ p1 = 14 ∨ p1 = 15 := by omega
  rcases z3 with z3 | z3 | z3 | z3 | z3 | z3 | z3 | z3 | z3
  · exact ⟨51, 52, by rw [z3] <;> rfl, by decide, k5 z3⟩
  · exact ⟨61, 62, by rw [z3] <;> rfl, by decide, k7 z3⟩
  · exact ⟨71, 72, by rw [z3] <;> rfl, by decide, k9 z3⟩
  · exact ⟨81, 82, by rw [z3] <;> rfl, by decide, k11 z3⟩
  · exact ⟨92, 93, by rw [z3] <;> rfl, by decide, k17 z3⟩
  · exact ⟨100, 101, by rw [z3] <;> rfl, by decide, k19 z3⟩
  · exact ⟨120, 121, by rw [z3] <;> rfl, by decide, k23 z3⟩
  · exact ⟨128, 129, by rw [z3] <;> rfl, by decide, k25 z3⟩
  · exact ⟨136, 137, by rw [z3] <;> rfl, by decide, k27 z3⟩

abbrev q2_X3_run (h : zM) (c : Int) (p1 : Int) (p2 : Int) (p3 : Int) (p4 : Int) : Option zV → zM → Prop := zqi fun v h' => ((-2147483648) ≤ v ∧ v ≤ 2147483647) ∧ okC h' ∧ zfC (w_X3_run c) h h' ∧ (∀ E th x, zRn h c p1 p2 p3 p4 E th x → v = fRun E x.1 p4 p1 p2)
set_option maxRecDepth 100000 in
set_option maxHeartbeats 4000000 in
theorem s2_X3_run (l : Launch) (h : zM) (c : Int) (p1 : Int) (p2 : Int) (p3 : Int) (p4 : Int) (s0 : okC h) (hc : zLw c) (b_p1 : 0 ≤ p1 ∧ p1 ≤ 400) (b_p2 : 0 ≤ p2 ∧ p2 ≤ 400) (r_p3 : zWd p3) (b_p4 : 0 ≤ p4 ∧ p4 ≤ 17) : zT shC l yX3_run cX3_run 8 (some .int) (rmL 3) 0 0 [.inr c, .inl p1, .inl p2, .inr p3, .inl p4] h (q2_X3_run h c p1 p2 p3 p4) := by
  refine zT_of (by decide +kernel) (L0 := [some (.inr c), some (.inl p1), some (.inl p2), some (.inr p3), some (.inl p4), none, none, none]) rfl (Nat.le_of_ble_eq_true rfl) ?_
  have b1 := zLw_b hc
  have b2 := zWd_b r_p3
  refine zj_iconst (zdk ttX3_run 0 rfl rfl) ?_
  refine zj_istore (L' := [some (.inr c), some (.inl p1), some (.inl p2), some (.inr p3), some (.inl p4), some (.inl 0), none, none]) (zdk ttX3_run 1 rfl rfl) (by decide) rfl ?_
  refine zj_iload_n (zdk ttX3_run 2 rfl rfl) rfl ?_
  refine zj_istore (L' := [some (.inr c), some (.inl p1), some (.inl p2), some (.inr p3), some (.inl p4), some (.inl 0), some (.inl p1), none]) (zdk ttX3_run 3 rfl rfl) (by decide) rfl ?_
  have lp39 : ∀ (n : Nat) (x3 x4 : Int) (h5 : zM), (0 ≤ x3 ∧ x3 ≤ 64) → (0 ≤ x4 ∧ x4 ≤ 400) → okC h5 → zfC (w_X3_run c) h h5 → (∀ E th x, zRn h c p1 p2 p3 p4 E th x → (p1 ≤ x4 ∧ x4 ≤ p2) ∧ tSk (h5.2 (c + 6)) x3.toNat = fEv (fAsk E x.1 p4) (tSk E.cd x4.toNat) (x4 - p1).toNat) → (401 - x4).toNat < n → zJ shC l yX3_run cX3_run 8 (some .int) (rmL 3) 0 0 (q2_X3_run h c p1 p2 p3 p4) 0 0 6 [some (.inr c), some (.inl p1), some (.inl p2), some (.inr p3), some (.inl p4), some (.inl x3), some (.inl x4), none] [] h5 := by
    intro n
    induction n with
    | zero => intro x3 x4 h5 b40 b41 s6 f7 u42 m43; exact absurd m43 (Nat.not_lt_zero _)
    | succ n ih44 =>
      intro x3 x4 h5 b40 b41 s6 f7 u42 m43
      refine zj_iload (zdk ttX3_run 4 rfl rfl) rfl ?_
      refine zj_iload_n (zdk ttX3_run 5 rfl rfl) rfl ?_
      refine zj_icmp_ge (t := 167) (zdk ttX3_run 6 rfl rfl) (by decide) (by omega) (by omega) (fun c45 => ?_) (fun c45 => ?_)
      · refine zj_iload (zdk ttX3_run 84 rfl rfl) rfl ?_
        refine zj_if_le (t := 184) (zdk ttX3_run 85 rfl rfl) (by decide) (by omega) (fun c46 => ?_) (fun c46 => ?_)
        · refine zj_iconst (zdk ttX3_run 93 rfl rfl) ?_
          exact zj_iret rfl (zdk ttX3_run 94 rfl rfl) (Nat.le_refl _) (Nat.le_refl _) ⟨0, rfl, by omega, s6, f7, (by intro E th x r0; have u0 := u42 E th x r0; obtain ⟨ec, t0, i0, l0, y0, ty⟩ := r0; have ln := t0.1.2.2.2.1.2.1; have e6 : x4 = p2 := (by omega); rw [e6] at u0; have o1 := fEv_1 (f := h5.2 (c + 6)) (by omega) ty u0.2; exfalso; omega)⟩
        · refine zj_aload_n (zdk ttX3_run 86 rfl rfl) rfl (by omega) ?_
          refine zj_getr (r := (c + 6)) (zdk ttX3_run 87 rfl rfl) zf_RX3_29 rfl (k_3_0 s6 hc) (rf_3_0_5 s6 hc) ?_
          refine zj_iload (zdk ttX3_run 88 rfl rfl) rfl ?_
          refine zj_iconst (zdk ttX3_run 89 rfl rfl) ?_
          refine zj_isub (zdk ttX3_run 90 rfl rfl) ?_
          have b47 : -2147483648 ≤ (h5.2 (c + 6) (x3 - 1)) ∧ (h5.2 (c + 6) (x3 - 1)) ≤ 2147483647 := ab_3_0_5 s6 hc (x3 - 1)
          refine zj_iald (v := (h5.2 (c + 6) (x3 - 1))) (zdk ttX3_run 91 rfl rfl) (ka_3_0_5 s6 hc) (by decide) (by omega) rfl ?_
          refine zj_goto (t := 185) (zdk ttX3_run 92 rfl rfl) (by decide) ?_
          exact zj_iret rfl (zdk ttX3_run 94 rfl rfl) (Nat.le_refl _) (Nat.le_refl _) ⟨(h5.2 (c + 6) (x3 - 1)), rfl, by omega, s6, f7, (by intro E th x r0; have u0 := u42 E th x r0; obtain ⟨ec, t0, i0, l0, y0, ty⟩ := r0; have ln := t0.1.2.2.2.1.2.1; have e6 : x4 = p2 := (by omega); rw [e6] at u0; have o1 := fEv_1 (f := h5.2 (c + 6)) (by omega) ty u0.2; unfold fRun; rw [fEv_h (f := h5.2 (c + 6)) (top := x3) (by omega) u0.2])⟩
      · refine zj_iload (zdk ttX3_run 7 rfl rfl) rfl ?_
        refine zj_sipush (zdk ttX3_run 8 rfl rfl) (by decide) ?_
        refine zj_icmp_ge (t := 167) (zdk ttX3_run 9 rfl rfl) (by decide) (by omega) (by decide) (fun c48 => ?_) (fun c48 => ?_)
        · exact absurd c48 (by omega)
        · refine zj_aload_n (zdk ttX3_run 10 rfl rfl) rfl (by omega) ?_
          refine zj_getr (r := (c + 5)) (zdk ttX3_run 11 rfl rfl) zf_RX3_26 rfl (k_3_0 s6 hc) (rf_3_0_4 s6 hc) ?_
          refine zj_iload (zdk ttX3_run 12 rfl rfl) rfl ?_
          have b49 : -2147483648 ≤ (h.2 (c + 5) x4) ∧ (h.2 (c + 5) x4) ≤ 2147483647 := ab_3_0_4 s0 hc x4
          refine zj_iald (v := (h.2 (c + 5) x4)) (zdk ttX3_run 13 rfl rfl) (ka_3_0_4 s6 hc) (by decide) (by omega) (zfC_a f7 (fun z9 => by unfold w_X3_run at z9; first | (revert z9; decide) | omega)) ?_
          refine zj_istore (L' := [some (.inr c), some (.inl p1), some (.inl p2), some (.inr p3), some (.inl p4), some (.inl x3), some (.inl x4), some (.inl (h.2 (c + 5) x4))]) (zdk ttX3_run 14 rfl rfl) (by decide) rfl ?_
          refine zj_iload (zdk ttX3_run 15 rfl rfl) rfl ?_
          refine zj_sipush (zdk ttX3_run 16 rfl rfl) (by decide) ?_
          refine zj_icmp_ge (t := 82) (zdk ttX3_run 17 rfl rfl) (by decide) (by omega) (by decide) (fun c50 => ?_) (fun c50 => ?_)
          · refine zj_iload (zdk ttX3_run 38 rfl rfl) rfl ?_
            refine zj_sipush (zdk ttX3_run 39 rfl rfl) (by decide) ?_
            refine zj_icmp_ne (t := 118) (zdk ttX3_run 40 rfl rfl) (by decide) (by omega) (by decide) (fun c51 => ?_) (fun c51 => ?_)
            · refine zj_iload (zdk ttX3_run 58 rfl rfl) rfl ?_
              refine zj_iconst (zdk ttX3_run 59 rfl rfl) ?_
              refine zj_icmp_le (t := 161) (zdk ttX3_run 60 rfl rfl) (by decide) (by omega) (by decide) (fun c52 => ?_) (fun c52 => ?_)
              · refine zj_iinc (L' := [some (.inr c), some (.inl p1), some (.inl p2), some (.inr p3), some (.inl p4), some (.inl x3), some (.inl (x4 + 1)), some (.inl (h.2 (c + 5) x4))]) (zdk ttX3_run 82 rfl rfl) rfl (by decide) rfl ?_
                refine zj_goto (t := 6) (zdk ttX3_run 83 rfl rfl) (by decide) ?_
                refine zj_kill (k := 7) (L' := [some (.inr c), some (.inl p1), some (.inl p2), some (.inr p3), some (.inl p4), some (.inl x3), some (.inl (x4 + 1)), none]) rfl ?_
                exact ih44  x3 (x4 + 1) h5 (by omega) (by omega) s6 f7 (by intro E th x r0; have u0 := u42 E th x r0; obtain ⟨ec, t0, i0, l0, y0, ty⟩ := r0; have ln := t0.1.2.2.2.1.2.1; have cd0 : h.2 (c + 5) x4 = E.cd x4 := (by rw [show c + 5 = p3 + 10 by omega]; exact xC_c t0 (by omega) (by omega)); have tc := fTy_c (f := h5.2 (c + 6)) (top := x3) l0.1 u0.1.1 (show x4 < p2 by omega) ty (by omega) u0.2; unfold fTc at tc; exfalso; omega) (by omega)
              · refine zj_iinc (L' := [some (.inr c), some (.inl p1), some (.inl p2), some (.inr p3), some (.inl p4), some (.inl (x3 + (-1))), some (.inl x4), some (.inl (h.2 (c + 5) x4))]) (zdk ttX3_run 61 rfl rfl) rfl (by decide) rfl ?_
                refine zj_aload_n (zdk ttX3_run 62 rfl rfl) rfl (by omega) ?_
                refine zj_getr (r := (c + 6)) (zdk ttX3_run 63 rfl rfl) zf_RX3_29 rfl (k_3_0 s6 hc) (rf_3_0_5 s6 hc) ?_
                refine zj_iload (zdk ttX3_run 64 rfl rfl) rfl ?_
                refine zj_iconst (zdk ttX3_run 65 rfl rfl) ?_
                refine zj_isub (zdk ttX3_run 66 rfl rfl) ?_
                refine zj_iload (zdk ttX3_run 67 rfl rfl) rfl ?_
                refine zj_sipush (zdk ttX3_run 68 rfl rfl) (by decide) ?_
                refine zj_isub (zdk ttX3_run 69 rfl rfl) ?_
                refine zj_aload_n (zdk ttX3_run 70 rfl rfl) rfl (by omega) ?_
                refine zj_getr (r := (c + 6)) (zdk ttX3_run 71 rfl rfl) zf_RX3_29 rfl (k_3_0 s6 hc) (rf_3_0_5 s6 hc) ?_
                refine zj_iload (zdk ttX3_run 72 rfl rfl) rfl ?_
                refine zj_iconst (zdk ttX3_run 73 rfl rfl) ?_
                refine zj_isub (zdk ttX3_run 74 rfl rfl) ?_
                have b53 : -2147483648 ≤ (h5.2 (c + 6) ((x3 + (-1)) - 1)) ∧ (h5.2 (c + 6) ((x3 + (-1)) - 1)) ≤ 2147483647 := ab_3_0_5 s6 hc ((x3 + (-1)) - 1)
                refine zj_iald (v := (h5.2 (c + 6) ((x3 + (-1)) - 1))) (zdk ttX3_run 75 rfl rfl) (ka_3_0_5 s6 hc) (by decide) (by omega) rfl ?_
                refine zj_aload_n (zdk ttX3_run 76 rfl rfl) rfl (by omega) ?_
                refine zj_getr (r := (c + 6)) (zdk ttX3_run 77 rfl rfl) zf_RX3_29 rfl (k_3_0 s6 hc) (rf_3_0_5 s6 hc) ?_
                refine zj_iload (zdk ttX3_run 78 rfl rfl) rfl ?_
                have b54 : -2147483648 ≤ (h5.2 (c + 6) (x3 + (-1))) ∧ (h5.2 (c + 6) (x3 + (-1))) ≤ 2147483647 := ab_3_0_5 s6 hc (x3 + (-1))
                refine zj_iald (v := (h5.2 (c + 6) (x3 + (-1)))) (zdk ttX3_run 79 rfl rfl) (ka_3_0_5 s6 hc) (by decide) (by omega) rfl ?_
                refine zj_callS (av := [.inl ((h.2 (c + 5) x4) - 20000), .inl (h5.2 (c + 6) ((x3 + (-1)) - 1)), .inl (h5.2 (c + 6) (x3 + (-1)))]) (st := [.inl ((x3 + (-1)) - 1), .inr (c + 6)]) (zdk ttX3_run 80 rfl rfl) mb_X3_joined ms_RX3_51 rfl rfl (Nat.le_of_ble_eq_true rfl) (s2_X3_joined l h5 ((h.2 (c + 5) x4) - 20000) (h5.2 (c + 6) ((x3 + (-1)) - 1)) (h5.2 (c + 6) (x3 + (-1))) s6 (by omega) (by omega) (by omega)) (rm_ok (by decide) (by decide)) (zq_i fun v56 h57 q55 => ?_)
                obtain ⟨rfl, b58, u59⟩ := q55
                refine zj_iast (zdk ttX3_run 81 rfl rfl) (ka_3_0_5 s6 hc) (by decide) (by omega) (fun h60 e61 => ?_)
                refine zj_iinc (L' := [some (.inr c), some (.inl p1), some (.inl p2), some (.inr p3), some (.inl p4), some (.inl (x3 + (-1))), some (.inl (x4 + 1)), some (.inl (h.2 (c + 5) x4))]) (zdk ttX3_run 82 rfl rfl) rfl (by decide) rfl ?_
                refine zj_goto (t := 6) (zdk ttX3_run 83 rfl rfl) (by decide) ?_
                refine zj_kill (k := 7) (L' := [some (.inr c), some (.inl p1), some (.inl p2), some (.inr p3), some (.inl p4), some (.inl (x3 + (-1))), some (.inl (x4 + 1)), none]) rfl ?_
                have s62 : okC h60 := aw_3_0_5 s6 hc e61 (by omega)
                have f63 : zfC (w_X3_run c) h h60 := zfC_w f7 e61 (by omega)
                exact ih44  (x3 + (-1)) (x4 + 1) h60 (by omega) (by omega) s62 f63 (by intro E th x r0; have u0 := u42 E th x r0; obtain ⟨ec, t0, i0, l0, y0, ty⟩ := r0; have ln := t0.1.2.2.2.1.2.1; have cd0 : h.2 (c + 5) x4 = E.cd x4 := (by rw [show c + 5 = p3 + 10 by omega]; exact xC_c t0 (by omega) (by omega)); have tc := fTy_c (f := h5.2 (c + 6)) (top := x3) l0.1 u0.1.1 (show x4 < p2 by omega) ty (by omega) u0.2; unfold fTc at tc; have i2 : ((x3 + (-1)) - 1) = x3 - 2 := (by omega); have i3 : (x3 + (-1)) = x3 - 1 := (by omega); have w0 := u59 (by unfold fJg; rw [i2, i3]; omega); rw [i2, i3, show ((h.2 (c + 5) x4) - 20000) = E.cd x4 - 20000 by omega] at w0; have z2 : h60.2 (c + 6) (x3 - 2) = v56 := (by rw [← i2]; exact zwr_v e61); have z3 := fEv_j l0.1 u0.1.1 (by omega) u0.2 (z2.trans w0) (fun j9 z9 => zwr_r e61 (by first | decide | exact (absurd ·.1 (by decide)) | exact (absurd ·.2 (by decide)) | omega)) (by omega) (by omega); rw [← i3] at z3; exact ⟨by omega, z3⟩) (by omega)
            · refine zj_iload (zdk ttX3_run 41 rfl rfl) rfl ?_
              refine zj_if_le (t := 161) (zdk ttX3_run 42 rfl rfl) (by decide) (by omega) (fun c64 => ?_) (fun c64 => ?_)
              · refine zj_iinc (L' := [some (.inr c), some (.inl p1), some (.inl p2), some (.inr p3), some (.inl p4), some (.inl x3), some (.inl (x4 + 1)), some (.inl (h.2 (c + 5) x4))]) (zdk ttX3_run 82 rfl rfl) rfl (by decide) rfl ?_
                refine zj_goto (t := 6) (zdk ttX3_run 83 rfl rfl) (by decide) ?_
                refine zj_kill (k := 7) (L' := [some (.inr c), some (.inl p1), some (.inl p2), some (.inr p3), some (.inl p4), some (.inl x3), some (.inl (x4 + 1)), none]) rfl ?_
                exact ih44  x3 (x4 + 1) h5 (by omega) (by omega) s6 f7 (by intro E th x r0; have u0 := u42 E th x r0; obtain ⟨ec, t0, i0, l0, y0, ty⟩ := r0; have ln := t0.1.2.2.2.1.2.1; have cd0 : h.2 (c + 5) x4 = E.cd x4 := (by rw [show c + 5 = p3 + 10 by omega]; exact xC_c t0 (by omega) (by omega)); have tc := fTy_c (f := h5.2 (c + 6)) (top := x3) l0.1 u0.1.1 (show x4 < p2 by omega) ty (by omega) u0.2; unfold fTc at tc; exfalso; omega) (by omega)
              · refine zj_aload_n (zdk ttX3_run 43 rfl rfl) rfl (by omega) ?_
                refine zj_getr (r := (c + 6)) (zdk ttX3_run 44 rfl rfl) zf_RX3_29 rfl (k_3_0 s6 hc) (rf_3_0_5 s6 hc) ?_
                refine zj_iload (zdk ttX3_run 45 rfl rfl) rfl ?_
                refine zj_iconst (zdk ttX3_run 46 rfl rfl) ?_
                refine zj_isub (zdk ttX3_run 47 rfl rfl) ?_
                refine zj_iconst (zdk ttX3_run 48 rfl rfl) ?_
                refine zj_aload_n (zdk ttX3_run 49 rfl rfl) rfl (by omega) ?_
                refine zj_getr (r := (c + 6)) (zdk ttX3_run 50 rfl rfl) zf_RX3_29 rfl (k_3_0 s6 hc) (rf_3_0_5 s6 hc) ?_
                refine zj_iload (zdk ttX3_run 51 rfl rfl) rfl ?_
                refine zj_iconst (zdk ttX3_run 52 rfl rfl) ?_
                refine zj_isub (zdk ttX3_run 53 rfl rfl) ?_
                have b65 : -2147483648 ≤ (h5.2 (c + 6) (x3 - 1)) ∧ (h5.2 (c + 6) (x3 - 1)) ≤ 2147483647 := ab_3_0_5 s6 hc (x3 - 1)
                refine zj_iald (v := (h5.2 (c + 6) (x3 - 1))) (zdk ttX3_run 54 rfl rfl) (ka_3_0_5 s6 hc) (by decide) (by omega) rfl ?_
                refine zj_isub (zdk ttX3_run 55 rfl rfl) ?_
                refine zj_wrap ?_
                have b66 := zwp_in (1 - (h5.2 (c + 6) (x3 - 1)))
                refine zj_iast (zdk ttX3_run 56 rfl rfl) (ka_3_0_5 s6 hc) (by decide) (by omega) (fun h67 e68 => ?_)
                refine zj_goto (t := 161) (zdk ttX3_run 57 rfl rfl) (by decide) ?_
                refine zj_iinc (L' := [some (.inr c), some (.inl p1), some (.inl p2), some (.inr p3), some (.inl p4), some (.inl x3), some (.inl (x4 + 1)), some (.inl (h.2 (c + 5) x4))]) (zdk ttX3_run 82 rfl rfl) rfl (by decide) rfl ?_
                refine zj_goto (t := 6) (zdk ttX3_run 83 rfl rfl) (by decide) ?_
                refine zj_kill (k := 7) (L' := [some (.inr c), some (.inl p1), some (.inl p2), some (.inr p3), some (.inl p4), some (.inl x3), some (.inl (x4 + 1)), none]) rfl ?_
                have s69 : okC h67 := aw_3_0_5 s6 hc e68 (by omega)
                have f70 : zfC (w_X3_run c) h h67 := zfC_w f7 e68 (by omega)
                exact ih44  x3 (x4 + 1) h67 (by omega) (by omega) s69 f70 (by intro E th x r0; have u0 := u42 E th x r0; obtain ⟨ec, t0, i0, l0, y0, ty⟩ := r0; have ln := t0.1.2.2.2.1.2.1; have cd0 : h.2 (c + 5) x4 = E.cd x4 := (by rw [show c + 5 = p3 + 10 by omega]; exact xC_c t0 (by omega) (by omega)); have tc := fTy_c (f := h5.2 (c + 6)) (top := x3) l0.1 u0.1.1 (show x4 < p2 by omega) ty (by omega) u0.2; unfold fTc at tc; exact ⟨by omega, fEv_n l0.1 u0.1.1 (by omega) u0.2 (by rw [zwr_v e68]; exact zwp_id (by unfold zin; omega)) (fun j9 z9 => zwr_r e68 (by first | decide | exact (absurd ·.1 (by decide)) | exact (absurd ·.2 (by decide)) | omega)) (by omega)⟩) (by omega)
          · refine zj_iload (zdk ttX3_run 18 rfl rfl) rfl ?_
            refine zj_bipush (zdk ttX3_run 19 rfl rfl) (by decide) ?_
            refine zj_icmp_ge (t := 161) (zdk ttX3_run 20 rfl rfl) (by decide) (by omega) (by decide) (fun c71 => ?_) (fun c71 => ?_)
            · refine zj_iinc (L' := [some (.inr c), some (.inl p1), some (.inl p2), some (.inr p3), some (.inl p4), some (.inl x3), some (.inl (x4 + 1)), some (.inl (h.2 (c + 5) x4))]) (zdk ttX3_run 82 rfl rfl) rfl (by decide) rfl ?_
              refine zj_goto (t := 6) (zdk ttX3_run 83 rfl rfl) (by decide) ?_
              refine zj_kill (k := 7) (L' := [some (.inr c), some (.inl p1), some (.inl p2), some (.inr p3), some (.inl p4), some (.inl x3), some (.inl (x4 + 1)), none]) rfl ?_
              exact ih44  x3 (x4 + 1) h5 (by omega) (by omega) s6 f7 (by intro E th x r0; have u0 := u42 E th x r0; obtain ⟨ec, t0, i0, l0, y0, ty⟩ := r0; have ln := t0.1.2.2.2.1.2.1; have cd0 : h.2 (c + 5) x4 = E.cd x4 := (by rw [show c + 5 = p3 + 10 by omega]; exact xC_c t0 (by omega) (by omega)); have tc := fTy_c (f := h5.2 (c + 6)) (top := x3) l0.1 u0.1.1 (show x4 < p2 by omega) ty (by omega) u0.2; unfold fTc at tc; exfalso; omega) (by omega)
            · refine zj_aload_n (zdk ttX3_run 21 rfl rfl) rfl (by omega) ?_
              refine zj_getr (r := (c + 6)) (zdk ttX3_run 22 rfl rfl) zf_RX3_29 rfl (k_3_0 s6 hc) (rf_3_0_5 s6 hc) ?_
              refine zj_iload (zdk ttX3_run 23 rfl rfl) rfl ?_
              refine zj_iinc (L' := [some (.inr c), some (.inl p1), some (.inl p2), some (.inr p3), some (.inl p4), some (.inl (x3 + 1)), some (.inl x4), some (.inl (h.2 (c + 5) x4))]) (zdk ttX3_run 24 rfl rfl) rfl (by decide) rfl ?_
              refine zj_iload (zdk ttX3_run 25 rfl rfl) rfl ?_
              refine zj_sipush (zdk ttX3_run 26 rfl rfl) (by decide) ?_
              refine zj_icmp_ge (t := 66) (zdk ttX3_run 27 rfl rfl) (by decide) (by omega) (by decide) (fun c72 => ?_) (fun c72 => ?_)
              · refine zj_aload_n (zdk ttX3_run 30 rfl rfl) rfl (by omega) ?_
                refine zj_iload (zdk ttX3_run 31 rfl rfl) rfl ?_
                refine zj_sipush (zdk ttX3_run 32 rfl rfl) (by decide) ?_
                refine zj_isub (zdk ttX3_run 33 rfl rfl) ?_
                refine zj_iload (zdk ttX3_run 34 rfl rfl) rfl ?_
                refine zj_callV (av := [.inl ((h.2 (c + 5) x4) - 10000), .inl p4]) (st := [.inl x3, .inr (c + 6)]) (zdk ttX3_run 35 rfl rfl) mb_X9_valueOf mv_RX3_45 (ci := 9) rfl rfl (k_9_0 s6 r_p3) rfl rfl (Nat.le_of_ble_eq_true rfl) (s2_X9_valueOf l h5 p3 ((h.2 (c + 5) x4) - 10000) p4 s6 r_p3 (by omega) (by omega)) (rm_ok (by decide) (by decide)) (zq_i fun v74 h75 q73 => ?_)
                obtain ⟨rfl, b76, u77⟩ := q73
                refine zj_iast (zdk ttX3_run 36 rfl rfl) (ka_3_0_5 s6 hc) (by decide) (by omega) (fun h78 e79 => ?_)
                refine zj_goto (t := 161) (zdk ttX3_run 37 rfl rfl) (by decide) ?_
                refine zj_iinc (L' := [some (.inr c), some (.inl p1), some (.inl p2), some (.inr p3), some (.inl p4), some (.inl (x3 + 1)), some (.inl (x4 + 1)), some (.inl (h.2 (c + 5) x4))]) (zdk ttX3_run 82 rfl rfl) rfl (by decide) rfl ?_
                refine zj_goto (t := 6) (zdk ttX3_run 83 rfl rfl) (by decide) ?_
                refine zj_kill (k := 7) (L' := [some (.inr c), some (.inl p1), some (.inl p2), some (.inr p3), some (.inl p4), some (.inl (x3 + 1)), some (.inl (x4 + 1)), none]) rfl ?_
                have s80 : okC h78 := aw_3_0_5 s6 hc e79 (by omega)
                have f81 : zfC (w_X3_run c) h h78 := zfC_w f7 e79 (by omega)
                exact ih44  (x3 + 1) (x4 + 1) h78 (by omega) (by omega) s80 f81 (by intro E th x r0; have u0 := u42 E th x r0; obtain ⟨ec, t0, i0, l0, y0, ty⟩ := r0; have ln := t0.1.2.2.2.1.2.1; have cd0 : h.2 (c + 5) x4 = E.cd x4 := (by rw [show c + 5 = p3 + 10 by omega]; exact xC_c t0 (by omega) (by omega)); have tc := fTy_c (f := h5.2 (c + 6)) (top := x3) l0.1 u0.1.1 (show x4 < p2 by omega) ty (by omega) u0.2; unfold fTc at tc; have tH := (xC_f t0 (fun a9 b9 y9 => by unfold zD at y9; exact (zfC_a f7 (fun z9 => by unfold w_X3_run at z9; first | (revert z9; decide) | omega)))); have w0 := u77 E th x tH i0 (by omega); exact ⟨by omega, fEv_p l0.1 u0.1.1 (by omega) u0.2 (zwr_v e79) (fun j9 z9 => zwr_r e79 (by first | decide | exact (absurd ·.1 (by decide)) | exact (absurd ·.2 (by decide)) | omega)) (by omega) (by rw [if_neg (by omega), w0, show ((h.2 (c + 5) x4) - 10000) - 7 = E.cd x4 - 10007 by omega])⟩) (by omega)
              · refine zj_iload (zdk ttX3_run 28 rfl rfl) rfl ?_
                refine zj_goto (t := 78) (zdk ttX3_run 29 rfl rfl) (by decide) ?_
                refine zj_iast (zdk ttX3_run 36 rfl rfl) (ka_3_0_5 s6 hc) (by decide) (by omega) (fun h82 e83 => ?_)
                refine zj_goto (t := 161) (zdk ttX3_run 37 rfl rfl) (by decide) ?_
                refine zj_iinc (L' := [some (.inr c), some (.inl p1), some (.inl p2), some (.inr p3), some (.inl p4), some (.inl (x3 + 1)), some (.inl (x4 + 1)), some (.inl (h.2 (c + 5) x4))]) (zdk ttX3_run 82 rfl rfl) rfl (by decide) rfl ?_
                refine zj_goto (t := 6) (zdk ttX3_run 83 rfl rfl) (by decide) ?_
                refine zj_kill (k := 7) (L' := [some (.inr c), some (.inl p1), some (.inl p2), some (.inr p3), some (.inl p4), some (.inl (x3 + 1)), some (.inl (x4 + 1)), none]) rfl ?_
                have s84 : okC h82 := aw_3_0_5 s6 hc e83 (by omega)
                have f85 : zfC (w_X3_run c) h h82 := zfC_w f7 e83 (by omega)
                exact ih44  (x3 + 1) (x4 + 1) h82 (by omega) (by omega) s84 f85 (by intro E th x r0; have u0 := u42 E th x r0; obtain ⟨ec, t0, i0, l0, y0, ty⟩ := r0; have ln := t0.1.2.2.2.1.2.1; have cd0 : h.2 (c + 5) x4 = E.cd x4 := (by rw [show c + 5 = p3 + 10 by omega]; exact xC_c t0 (by omega) (by omega)); have tc := fTy_c (f := h5.2 (c + 6)) (top := x3) l0.1 u0.1.1 (show x4 < p2 by omega) ty (by omega) u0.2; unfold fTc at tc; exact ⟨by omega, fEv_p l0.1 u0.1.1 (by omega) u0.2 (zwr_v e83) (fun j9 z9 => zwr_r e83 (by first | decide | exact (absurd ·.1 (by decide)) | exact (absurd ·.2 (by decide)) | omega)) (by omega) (by rw [if_pos (by omega)]; omega)⟩) (by omega)
  exact lp39 _ 0 p1 h (by omega) (by omega) s0 (zfC_r _ _) (fun E th x r0 => ⟨by have z9 := r0.2.2.2.1; omega, by rw [show (p1 - p1).toNat = 0 by omega, fEv_0]; rfl⟩) (Nat.lt_succ_self _)

abbrev q2_X9_tells (h : zM) (c : Int) (p1 : Int) (p2 : Int) : Option zV → zM → Prop := zqi fun v h' => (0 ≤ v ∧ v ≤ 1000) ∧ okC h' ∧ zfC (w_X9_tells c) h h' ∧ (∀ E th x, xC h c E th x → (0 ≤ p2 ∧ p2 < E.n) → (0 ≤ p1 ∧ p1 ≤ 2) → v = fTl E x.1 p1 p2)
set_option maxRecDepth 100000 in
set_option maxHeartbeats 4000000 in
theorem s2_X9_tells (l : Launch) (h : zM) (c : Int) (p1 : Int) (p2 : Int) (s0 : okC h) (hc : zWd c) (b_p1 : (-2147483648) ≤ p1 ∧ p1 ≤ 2147483647) (b_p2 : 0 ≤ p2 ∧ p2 ≤ 17) : zT shC l yX9_tells cX9_tells 6 (some .int) (rmL 4) 0 0 [.inr c, .inl p1, .inl p2] h (q2_X9_tells h c p1 p2) := by
  refine zT_of (by decide +kernel) (L0 := [some (.inr c), some (.inl p1), some (.inl p2), none, none, none]) rfl (Nat.le_of_ble_eq_true rfl) ?_
  have b1 := zWd_b hc
  refine zj_iload_n (zdk ttX9_tells 0 rfl rfl) rfl ?_
  refine zj_iconst (zdk ttX9_tells 1 rfl rfl) ?_
  refine zj_icmp_ne (t := 11) (zdk ttX9_tells 2 rfl rfl) (by decide) (by omega) (by decide) (fun c2 => ?_) (fun c2 => ?_)
  · refine zj_sipush (zdk ttX9_tells 5 rfl rfl) (by decide) ?_
    refine zj_istore_n (L' := [some (.inr c), some (.inl p1), some (.inl p2), some (.inl 1000), none, none]) (zdk ttX9_tells 6 rfl rfl) (by decide) rfl ?_
    refine zj_iconst (zdk ttX9_tells 7 rfl rfl) ?_
    refine zj_istore (L' := [some (.inr c), some (.inl p1), some (.inl p2), some (.inl 1000), some (.inl 0), none]) (zdk ttX9_tells 8 rfl rfl) (by decide) rfl ?_
    have lp24 : ∀ (n : Nat) (x3 : Int) (h4 : zM), (0 ≤ x3 ∧ x3 ≤ 16) → okC h4 → zfC (w_X9_tells c) h h4 → (∀ E th x, xC h c E th x → (0 ≤ p2 ∧ p2 < E.n) → (0 ≤ p1 ∧ p1 ≤ 2) → fLn E x.1 p2 p1 (E.lm - x3).toNat x3 = fLn E x.1 p2 p1 E.lm.toNat 0) → (17 - x3).toNat < n → zJ shC l yX9_tells cX9_tells 6 (some .int) (rmL 4) 0 0 (q2_X9_tells h c p1 p2) 0 0 18 [some (.inr c), some (.inl p1), some (.inl p2), some (.inl 1000), some (.inl x3), none] [] h4 := by
      intro n
      induction n with
      | zero => intro x3 h4 b25 s5 f6 u26 m27; exact absurd m27 (Nat.not_lt_zero _)
      | succ n ih28 =>
        intro x3 h4 b25 s5 f6 u26 m27
        refine zj_iload (zdk ttX9_tells 9 rfl rfl) rfl ?_
        refine zj_aload_n (zdk ttX9_tells 10 rfl rfl) rfl (by omega) ?_
        refine zj_getr (r := (c + 5)) (zdk ttX9_tells 11 rfl rfl) zf_RX9_21 rfl (k_9_0 s5 hc) (rf_9_0_1 s5 hc) ?_
        have b29 : 0 ≤ (h.2 (c + 5) 6) ∧ (h.2 (c + 5) 6) ≤ 16 := fb_9_5_6 s0 hc
        refine zj_geti (v := (h.2 (c + 5) 6)) (zdk ttX9_tells 12 rfl rfl) zf_RX9_182 rfl (k_9_5 s5 hc) (zfC_a f6 (fun z9 => by unfold w_X9_tells at z9; first | (revert z9; decide) | omega)) ?_
        refine zj_icmp_ge (t := 154) (zdk ttX9_tells 13 rfl rfl) (by decide) (by omega) (by omega) (fun c30 => ?_) (fun c30 => ?_)
        · refine zj_iload_n (zdk ttX9_tells 75 rfl rfl) rfl ?_
          have k32 : (¬ p1 = 0 ∧ ¬ p1 = 1) → zJ shC l yX9_tells cX9_tells 6 (some .int) (rmL 4) 0 0 (q2_X9_tells h c p1 p2) 0 0 211 [some (.inr c), some (.inl p1), some (.inl p2), some (.inl 1000), some (.inl x3), none] [] h4 := by
            intro c31
            refine zj_sipush (zdk ttX9_tells 95 rfl rfl) (by decide) ?_
            refine zj_bipush (zdk ttX9_tells 96 rfl rfl) (by decide) ?_
            refine zj_aload_n (zdk ttX9_tells 97 rfl rfl) rfl (by omega) ?_
            refine zj_getr (r := (c + 1)) (zdk ttX9_tells 98 rfl rfl) zf_RX9_12 rfl (k_9_0 s5 hc) (rf_9_0_0 s5 hc) ?_
            refine zj_getr (r := (c + 3)) (zdk ttX9_tells 99 rfl rfl) zf_RX9_202 rfl (k_9_1 s5 hc) (rf_9_1_1 s5 hc) ?_
            refine zj_iload_n (zdk ttX9_tells 100 rfl rfl) rfl ?_
            have b33 : -2147483648 ≤ (h.2 (c + 3) p2) ∧ (h.2 (c + 3) p2) ≤ 2147483647 := ab_9_1_1 s0 hc p2
            refine zj_iald (v := (h.2 (c + 3) p2)) (zdk ttX9_tells 101 rfl rfl) (ka_9_1_1 s5 hc) (by decide) (by omega) (zfC_a f6 (fun z9 => by unfold w_X9_tells at z9; first | (revert z9; decide) | omega)) ?_
            refine zj_imul (zdk ttX9_tells 102 rfl rfl) ?_
            refine zj_wrap ?_
            have b34 := zwp_in (50 * (h.2 (c + 3) p2))
            refine zj_isub (zdk ttX9_tells 103 rfl rfl) ?_
            refine zj_wrap ?_
            have b35 := zwp_in (500 - (zwp (50 * (h.2 (c + 3) p2))))
            refine zj_iload_n (zdk ttX9_tells 104 rfl rfl) rfl ?_
            refine zj_callS (av := [.inl (zwp (500 - (zwp (50 * (h.2 (c + 3) p2))))), .inl 1000]) (st := []) (zdk ttX9_tells 105 rfl rfl) mb_X9_held ms_RX9_199 rfl rfl (Nat.le_of_ble_eq_true rfl) (s_X9_held l h4 (zwp (500 - (zwp (50 * (h.2 (c + 3) p2))))) 1000 s5 (by omega) (by omega)) (rm_ok (by decide) (by decide)) (zq_i fun v37 h38 q36 => ?_)
            obtain ⟨rfl, b39, u40, u41⟩ := q36
            exact zj_iret rfl (zdk ttX9_tells 106 rfl rfl) (Nat.le_refl _) (Nat.le_refl _) ⟨v37, rfl, by omega, s5, f6, (by intro E th x t0 i0 w0; have u0 := u26 E th x t0 i0 w0; have m0 := xC_m t0; have e0 := fLn_e (E := E) (r := x.1) (i := p2) (w := p1) (l := x3) (by omega); rw [u0] at e0; have i1 := xC_i t0 i0.1 (by have n0 := xC_n t0; omega); have fm : fMo p1 = 1000 := (by first | (exfalso; omega) | (unfold fMo; first | rw [if_pos (by omega)] | rw [if_neg (by omega)])); have hv := u41; rw [fHeld_m (by omega)] at hv; have n0 := xC_n t0; have wi := xC_wi t0 i0.1 (by omega); have z8 : zwp (80 * (h.2 (c + 3) p2)) = 80 * (h.2 (c + 3) p2) := zwp_id (by unfold zin; omega); have z9 : zwp (50 * (h.2 (c + 3) p2)) = 50 * (h.2 (c + 3) p2) := zwp_id (by unfold zin; omega); have z7 : zwp (500 - zwp (50 * (h.2 (c + 3) p2))) = 500 - 50 * (h.2 (c + 3) p2) := (by rw [z9]; exact zwp_id (by unfold zin; omega)); refine fTl_n e0 ?_; rw [hv, fm]; have df : fDf E p1 p2 = (zwp (500 - (zwp (50 * (h.2 (c + 3) p2))))) := (by unfold fDf; first | (rw [if_pos (by omega)]; omega) | (rw [if_neg (by omega), if_pos (by omega)]; omega) | (rw [if_neg (by omega), if_neg (by omega)]; omega)); rw [df])⟩
          have k42 : p1 = 0 → zJ shC l yX9_tells cX9_tells 6 (some .int) (rmL 4) 0 0 (q2_X9_tells h c p1 p2) 0 0 180 [some (.inr c), some (.inl p1), some (.inl p2), some (.inl 1000), some (.inl x3), none] [] h4 := by
            intro c31
            refine zj_bipush (zdk ttX9_tells 77 rfl rfl) (by decide) ?_
            refine zj_aload_n (zdk ttX9_tells 78 rfl rfl) rfl (by omega) ?_
            refine zj_getr (r := (c + 1)) (zdk ttX9_tells 79 rfl rfl) zf_RX9_12 rfl (k_9_0 s5 hc) (rf_9_0_0 s5 hc) ?_
            refine zj_getr (r := (c + 3)) (zdk ttX9_tells 80 rfl rfl) zf_RX9_202 rfl (k_9_1 s5 hc) (rf_9_1_1 s5 hc) ?_
            refine zj_iload_n (zdk ttX9_tells 81 rfl rfl) rfl ?_
            have b43 : -2147483648 ≤ (h.2 (c + 3) p2) ∧ (h.2 (c + 3) p2) ≤ 2147483647 := ab_9_1_1 s0 hc p2
            refine zj_iald (v := (h.2 (c + 3) p2)) (zdk ttX9_tells 82 rfl rfl) (ka_9_1_1 s5 hc) (by decide) (by omega) (zfC_a f6 (fun z9 => by unfold w_X9_tells at z9; first | (revert z9; decide) | omega)) ?_
            refine zj_imul (zdk ttX9_tells 83 rfl rfl) ?_
            refine zj_wrap ?_
            have b44 := zwp_in (80 * (h.2 (c + 3) p2))
            refine zj_iload_n (zdk ttX9_tells 84 rfl rfl) rfl ?_
            refine zj_callS (av := [.inl (zwp (80 * (h.2 (c + 3) p2))), .inl 1000]) (st := []) (zdk ttX9_tells 85 rfl rfl) mb_X9_held ms_RX9_199 rfl rfl (Nat.le_of_ble_eq_true rfl) (s_X9_held l h4 (zwp (80 * (h.2 (c + 3) p2))) 1000 s5 (by omega) (by omega)) (rm_ok (by decide) (by decide)) (zq_i fun v46 h47 q45 => ?_)
            obtain ⟨rfl, b48, u49, u50⟩ := q45
            exact zj_iret rfl (zdk ttX9_tells 86 rfl rfl) (Nat.le_refl _) (Nat.le_refl _) ⟨v46, rfl, by omega, s5, f6, (by intro E th x t0 i0 w0; have u0 := u26 E th x t0 i0 w0; have m0 := xC_m t0; have e0 := fLn_e (E := E) (r := x.1) (i := p2) (w := p1) (l := x3) (by omega); rw [u0] at e0; have i1 := xC_i t0 i0.1 (by have n0 := xC_n t0; omega); have fm : fMo p1 = 1000 := (by first | (exfalso; omega) | (unfold fMo; first | rw [if_pos (by omega)] | rw [if_neg (by omega)])); have hv := u50; rw [fHeld_m (by omega)] at hv; have n0 := xC_n t0; have wi := xC_wi t0 i0.1 (by omega); have z8 : zwp (80 * (h.2 (c + 3) p2)) = 80 * (h.2 (c + 3) p2) := zwp_id (by unfold zin; omega); have z9 : zwp (50 * (h.2 (c + 3) p2)) = 50 * (h.2 (c + 3) p2) := zwp_id (by unfold zin; omega); have z7 : zwp (500 - zwp (50 * (h.2 (c + 3) p2))) = 500 - 50 * (h.2 (c + 3) p2) := (by rw [z9]; exact zwp_id (by unfold zin; omega)); refine fTl_n e0 ?_; rw [hv, fm]; have df : fDf E p1 p2 = (zwp (80 * (h.2 (c + 3) p2))) := (by unfold fDf; first | (rw [if_pos (by omega)]; omega) | (rw [if_neg (by omega), if_pos (by omega)]; omega) | (rw [if_neg (by omega), if_neg (by omega)]; omega)); rw [df])⟩
          have k51 : p1 = 1 → zJ shC l yX9_tells cX9_tells 6 (some .int) (rmL 4) 0 0 (q2_X9_tells h c p1 p2) 0 0 197 [some (.inr c), some (.inl p1), some (.inl p2), some (.inl 1000), some (.inl x3), none] [] h4 := by
            intro c31
            refine zj_aload_n (zdk ttX9_tells 87 rfl rfl) rfl (by omega) ?_
            refine zj_getr (r := (c + 1)) (zdk ttX9_tells 88 rfl rfl) zf_RX9_12 rfl (k_9_0 s5 hc) (rf_9_0_0 s5 hc) ?_
            refine zj_getr (r := (c + 2)) (zdk ttX9_tells 89 rfl rfl) zf_RX9_205 rfl (k_9_1 s5 hc) (rf_9_1_0 s5 hc) ?_
            refine zj_iload_n (zdk ttX9_tells 90 rfl rfl) rfl ?_
            have b52 : -2147483648 ≤ (h.2 (c + 2) p2) ∧ (h.2 (c + 2) p2) ≤ 2147483647 := ab_9_1_0 s0 hc p2
            refine zj_iald (v := (h.2 (c + 2) p2)) (zdk ttX9_tells 91 rfl rfl) (ka_9_1_0 s5 hc) (by decide) (by omega) (zfC_a f6 (fun z9 => by unfold w_X9_tells at z9; first | (revert z9; decide) | omega)) ?_
            refine zj_iload_n (zdk ttX9_tells 92 rfl rfl) rfl ?_
            refine zj_callS (av := [.inl (h.2 (c + 2) p2), .inl 1000]) (st := []) (zdk ttX9_tells 93 rfl rfl) mb_X9_held ms_RX9_199 rfl rfl (Nat.le_of_ble_eq_true rfl) (s_X9_held l h4 (h.2 (c + 2) p2) 1000 s5 (by omega) (by omega)) (rm_ok (by decide) (by decide)) (zq_i fun v54 h55 q53 => ?_)
            obtain ⟨rfl, b56, u57, u58⟩ := q53
            exact zj_iret rfl (zdk ttX9_tells 94 rfl rfl) (Nat.le_refl _) (Nat.le_refl _) ⟨v54, rfl, by omega, s5, f6, (by intro E th x t0 i0 w0; have u0 := u26 E th x t0 i0 w0; have m0 := xC_m t0; have e0 := fLn_e (E := E) (r := x.1) (i := p2) (w := p1) (l := x3) (by omega); rw [u0] at e0; have i1 := xC_i t0 i0.1 (by have n0 := xC_n t0; omega); have fm : fMo p1 = 1000 := (by first | (exfalso; omega) | (unfold fMo; first | rw [if_pos (by omega)] | rw [if_neg (by omega)])); have hv := u58; rw [fHeld_m (by omega)] at hv; have n0 := xC_n t0; have wi := xC_wi t0 i0.1 (by omega); have z8 : zwp (80 * (h.2 (c + 3) p2)) = 80 * (h.2 (c + 3) p2) := zwp_id (by unfold zin; omega); have z9 : zwp (50 * (h.2 (c + 3) p2)) = 50 * (h.2 (c + 3) p2) := zwp_id (by unfold zin; omega); have z7 : zwp (500 - zwp (50 * (h.2 (c + 3) p2))) = 500 - 50 * (h.2 (c + 3) p2) := (by rw [z9]; exact zwp_id (by unfold zin; omega)); refine fTl_n e0 ?_; rw [hv, fm]; have df : fDf E p1 p2 = (h.2 (c + 2) p2) := (by unfold fDf; first | (rw [if_pos (by omega)]; omega) | (rw [if_neg (by omega), if_pos (by omega)]; omega) | (rw [if_neg (by omega), if_neg (by omega)]; omega)); rw [df])⟩
          by_cases z59 : p1 = 0
          · exact zj_lookup (t := 180) (zdk ttX9_tells 76 rfl rfl) (by omega) rfl (by rw [z59] <;> rfl) (by decide) (k42 z59)
          by_cases z60 : p1 = 1
          · exact zj_lookup (t := 197) (zdk ttX9_tells 76 rfl rfl) (by omega) rfl (by rw [z60] <;> rfl) (by decide) (k51 z60)
          exact zj_lookup (t := 211) (zdk ttX9_tells 76 rfl rfl) (by omega) rfl (by show Op.lookupswitch.offset [(0, 25), (1, 42)] 56 p1 = _; rw [Op.lookupswitch.offset_cons, if_neg (by omega), Op.lookupswitch.offset_cons, if_neg (by omega), Op.lookupswitch.offset_nil]) (by decide) (k32 (by omega))
        · refine zj_aload_n (zdk ttX9_tells 14 rfl rfl) rfl (by omega) ?_
          refine zj_getr (r := (c + 5)) (zdk ttX9_tells 15 rfl rfl) zf_RX9_21 rfl (k_9_0 s5 hc) (rf_9_0_1 s5 hc) ?_
          refine zj_getr (r := (c + 6)) (zdk ttX9_tells 16 rfl rfl) zf_RX9_183 rfl (k_9_5 s5 hc) (rf_9_5_0 s5 hc) ?_
          refine zj_iload (zdk ttX9_tells 17 rfl rfl) rfl ?_
          have b61 : -2147483648 ≤ (h.2 (c + 6) x3) ∧ (h.2 (c + 6) x3) ≤ 2147483647 := ab_9_5_0 s0 hc x3
          refine zj_iald (v := (h.2 (c + 6) x3)) (zdk ttX9_tells 18 rfl rfl) (ka_9_5_0 s5 hc) (by decide) (by omega) (zfC_a f6 (fun z9 => by unfold w_X9_tells at z9; first | (revert z9; decide) | omega)) ?_
          refine zj_iload_n (zdk ttX9_tells 19 rfl rfl) rfl ?_
          refine zj_icmp_eq (t := 47) (zdk ttX9_tells 20 rfl rfl) (by decide) (by omega) (by omega) (fun c62 => ?_) (fun c62 => ?_)
          · refine zj_aload_n (zdk ttX9_tells 22 rfl rfl) rfl (by omega) ?_
            refine zj_getr (r := (c + 5)) (zdk ttX9_tells 23 rfl rfl) zf_RX9_21 rfl (k_9_0 s5 hc) (rf_9_0_1 s5 hc) ?_
            refine zj_getr (r := (c + 8)) (zdk ttX9_tells 24 rfl rfl) zf_RX9_186 rfl (k_9_5 s5 hc) (rf_9_5_2 s5 hc) ?_
            refine zj_iload (zdk ttX9_tells 25 rfl rfl) rfl ?_
            have b63 : 0 ≤ (h.2 (c + 8) x3) ∧ (h.2 (c + 8) x3) ≤ 400 := ab_9_5_2 s0 hc x3
            refine zj_iald (v := (h.2 (c + 8) x3)) (zdk ttX9_tells 26 rfl rfl) (ka_9_5_2 s5 hc) (by decide) (by omega) (zfC_a f6 (fun z9 => by unfold w_X9_tells at z9; first | (revert z9; decide) | omega)) ?_
            refine zj_aload_n (zdk ttX9_tells 27 rfl rfl) rfl (by omega) ?_
            refine zj_getr (r := (c + 5)) (zdk ttX9_tells 28 rfl rfl) zf_RX9_21 rfl (k_9_0 s5 hc) (rf_9_0_1 s5 hc) ?_
            refine zj_getr (r := (c + 9)) (zdk ttX9_tells 29 rfl rfl) zf_RX9_189 rfl (k_9_5 s5 hc) (rf_9_5_3 s5 hc) ?_
            refine zj_iload (zdk ttX9_tells 30 rfl rfl) rfl ?_
            have b64 : 0 ≤ (h.2 (c + 9) x3) ∧ (h.2 (c + 9) x3) ≤ 400 := ab_9_5_3 s0 hc x3
            refine zj_iald (v := (h.2 (c + 9) x3)) (zdk ttX9_tells 31 rfl rfl) (ka_9_5_3 s5 hc) (by decide) (by omega) (zfC_a f6 (fun z9 => by unfold w_X9_tells at z9; first | (revert z9; decide) | omega)) ?_
            refine zj_icmp_ne (t := 74) (zdk ttX9_tells 32 rfl rfl) (by decide) (by omega) (by omega) (fun c65 => ?_) (fun c65 => ?_)
            · refine zj_iconst (zdk ttX9_tells 35 rfl rfl) ?_
              refine zj_istore (L' := [some (.inr c), some (.inl p1), some (.inl p2), some (.inl 1000), some (.inl x3), some (.inl 0)]) (zdk ttX9_tells 36 rfl rfl) (by decide) rfl ?_
              refine zj_iload (zdk ttX9_tells 37 rfl rfl) rfl ?_
              refine zj_if_ne (t := 114) (zdk ttX9_tells 38 rfl rfl) (by decide) (by decide) (fun c66 => ?_) (fun c66 => ?_)
              · exact absurd c66 (by omega)
              · refine zj_aload_n (zdk ttX9_tells 39 rfl rfl) rfl (by omega) ?_
                refine zj_getr (r := (c + 5)) (zdk ttX9_tells 40 rfl rfl) zf_RX9_21 rfl (k_9_0 s5 hc) (rf_9_0_1 s5 hc) ?_
                refine zj_aload_n (zdk ttX9_tells 41 rfl rfl) rfl (by omega) ?_
                refine zj_getr (r := (c + 5)) (zdk ttX9_tells 42 rfl rfl) zf_RX9_21 rfl (k_9_0 s5 hc) (rf_9_0_1 s5 hc) ?_
                refine zj_getr (r := (c + 8)) (zdk ttX9_tells 43 rfl rfl) zf_RX9_186 rfl (k_9_5 s5 hc) (rf_9_5_2 s5 hc) ?_
                refine zj_iload (zdk ttX9_tells 44 rfl rfl) rfl ?_
                refine zj_iald (v := (h.2 (c + 8) x3)) (zdk ttX9_tells 45 rfl rfl) (ka_9_5_2 s5 hc) (by decide) (by omega) (zfC_a f6 (fun z9 => by unfold w_X9_tells at z9; first | (revert z9; decide) | omega)) ?_
                refine zj_aload_n (zdk ttX9_tells 46 rfl rfl) rfl (by omega) ?_
                refine zj_getr (r := (c + 5)) (zdk ttX9_tells 47 rfl rfl) zf_RX9_21 rfl (k_9_0 s5 hc) (rf_9_0_1 s5 hc) ?_
                refine zj_getr (r := (c + 9)) (zdk ttX9_tells 48 rfl rfl) zf_RX9_189 rfl (k_9_5 s5 hc) (rf_9_5_3 s5 hc) ?_
                refine zj_iload (zdk ttX9_tells 49 rfl rfl) rfl ?_
                refine zj_iald (v := (h.2 (c + 9) x3)) (zdk ttX9_tells 50 rfl rfl) (ka_9_5_3 s5 hc) (by decide) (by omega) (zfC_a f6 (fun z9 => by unfold w_X9_tells at z9; first | (revert z9; decide) | omega)) ?_
                refine zj_aload_n (zdk ttX9_tells 51 rfl rfl) rfl (by omega) ?_
                refine zj_iload_n (zdk ttX9_tells 52 rfl rfl) rfl ?_
                refine zj_callV (av := [.inl (h.2 (c + 8) x3), .inl (h.2 (c + 9) x3), .inr c, .inl p2]) (st := []) (zdk ttX9_tells 53 rfl rfl) mb_X3_run mv_RX9_192 (ci := 3) rfl rfl (k_9_5 s5 hc) rfl rfl (Nat.le_of_ble_eq_true rfl) (s2_X3_run l h4 (c + 5) (h.2 (c + 8) x3) (h.2 (c + 9) x3) c p2 s5 (zs_9_5 hc) (by omega) (by omega) hc (by omega)) (rm_ok (by decide) (by decide)) (zq_i fun v68 h69 q67 => ?_)
                obtain ⟨b70, s71, f73, u72⟩ := q67
                refine zj_if_eq (t := 148) (zdk ttX9_tells 54 rfl rfl) (by decide) (by omega) (fun c74 => ?_) (fun c74 => ?_)
                · refine zj_iinc (L' := [some (.inr c), some (.inl p1), some (.inl p2), some (.inl 1000), some (.inl (x3 + 1)), some (.inl 0)]) (zdk ttX9_tells 73 rfl rfl) rfl (by decide) rfl ?_
                  refine zj_goto (t := 18) (zdk ttX9_tells 74 rfl rfl) (by decide) ?_
                  refine zj_kill (k := 5) (L' := [some (.inr c), some (.inl p1), some (.inl p2), some (.inl 1000), some (.inl (x3 + 1)), none]) rfl ?_
                  have f75 : zfC (w_X9_tells c) h h69 := zfC_t f6 f73 (fun a9 b9 z9 => by
                    exact (by omega))
                  exact ih28  (x3 + 1) h69 (by omega) s71 f75 (by intro E th x t0 i0 w0; have u0 := u26 E th x t0 i0 w0; have m0 := xC_m t0; have l0 := xC_l t0 (show 0 ≤ x3 by omega) (show x3 < E.lm by omega); have wl := xC_wl t0 (show 0 ≤ x3 by omega) (show x3 < E.lm by omega); have wa := wl.1; have rc := u72 E th x ⟨by omega, (xC_f t0 (fun a9 b9 y9 => by unfold zD at y9; exact (zfC_a f6 (fun z9 => by unfold w_X9_tells at z9; first | (revert z9; decide) | omega)))), i0, by omega, (by rw [show (h.2 (c + 8) x3) = E.lh x3 by omega, show (h.2 (c + 9) x3) = E.lt x3 by omega]; exact (wl.2.2.elim (fun z9 => absurd z9 (by omega)) (fun z9 => ⟨_, z9⟩)))⟩; rw [show (h.2 (c + 8) x3) = E.lh x3 by omega, show (h.2 (c + 9) x3) = E.lt x3 by omega] at rc; rw [← u0]; exact (fLn_n (by omega) (fun z9 => z9.2.elim (fun q9 => by omega) (fun q9 => by omega))).symm) (by omega)
                · refine zj_aload_n (zdk ttX9_tells 55 rfl rfl) rfl (by omega) ?_
                  refine zj_getr (r := (c + 5)) (zdk ttX9_tells 56 rfl rfl) zf_RX9_21 rfl (k_9_0 s71 hc) (rf_9_0_1 s71 hc) ?_
                  refine zj_aload_n (zdk ttX9_tells 57 rfl rfl) rfl (by omega) ?_
                  refine zj_getr (r := (c + 5)) (zdk ttX9_tells 58 rfl rfl) zf_RX9_21 rfl (k_9_0 s71 hc) (rf_9_0_1 s71 hc) ?_
                  refine zj_getr (r := (c + 7)) (zdk ttX9_tells 59 rfl rfl) zf_RX9_196 rfl (k_9_5 s71 hc) (rf_9_5_1 s71 hc) ?_
                  refine zj_iload (zdk ttX9_tells 60 rfl rfl) rfl ?_
                  have b76 : 0 ≤ (h.2 (c + 7) x3) ∧ (h.2 (c + 7) x3) ≤ 400 := ab_9_5_1 s0 hc x3
                  refine zj_iald (v := (h.2 (c + 7) x3)) (zdk ttX9_tells 61 rfl rfl) (ka_9_5_1 s71 hc) (by decide) (by omega) ((zfC_a f73 (fun z9 => by unfold w_X3_run at z9; first | (revert z9; decide) | omega)).trans (zfC_a f6 (fun z9 => by unfold w_X9_tells at z9; first | (revert z9; decide) | omega))) ?_
                  refine zj_aload_n (zdk ttX9_tells 62 rfl rfl) rfl (by omega) ?_
                  refine zj_getr (r := (c + 5)) (zdk ttX9_tells 63 rfl rfl) zf_RX9_21 rfl (k_9_0 s71 hc) (rf_9_0_1 s71 hc) ?_
                  refine zj_getr (r := (c + 8)) (zdk ttX9_tells 64 rfl rfl) zf_RX9_186 rfl (k_9_5 s71 hc) (rf_9_5_2 s71 hc) ?_
                  refine zj_iload (zdk ttX9_tells 65 rfl rfl) rfl ?_
                  refine zj_iald (v := (h.2 (c + 8) x3)) (zdk ttX9_tells 66 rfl rfl) (ka_9_5_2 s71 hc) (by decide) (by omega) ((zfC_a f73 (fun z9 => by unfold w_X3_run at z9; first | (revert z9; decide) | omega)).trans (zfC_a f6 (fun z9 => by unfold w_X9_tells at z9; first | (revert z9; decide) | omega))) ?_
                  refine zj_aload_n (zdk ttX9_tells 67 rfl rfl) rfl (by omega) ?_
                  refine zj_iload_n (zdk ttX9_tells 68 rfl rfl) rfl ?_
                  refine zj_callV (av := [.inl (h.2 (c + 7) x3), .inl (h.2 (c + 8) x3), .inr c, .inl p2]) (st := []) (zdk ttX9_tells 69 rfl rfl) mb_X3_run mv_RX9_192 (ci := 3) rfl rfl (k_9_5 s71 hc) rfl rfl (Nat.le_of_ble_eq_true rfl) (s2_X3_run l h69 (c + 5) (h.2 (c + 7) x3) (h.2 (c + 8) x3) c p2 s71 (zs_9_5 hc) (by omega) (by omega) hc (by omega)) (rm_ok (by decide) (by decide)) (zq_i fun v78 h79 q77 => ?_)
                  obtain ⟨b80, s81, f83, u82⟩ := q77
                  refine zj_iload_n (zdk ttX9_tells 70 rfl rfl) rfl ?_
                  refine zj_callS (av := [.inl v78, .inl 1000]) (st := []) (zdk ttX9_tells 71 rfl rfl) mb_X9_held ms_RX9_199 rfl rfl (Nat.le_of_ble_eq_true rfl) (s_X9_held l h79 v78 1000 s81 (by omega) (by omega)) (rm_ok (by decide) (by decide)) (zq_i fun v85 h86 q84 => ?_)
                  obtain ⟨rfl, b87, u88, u89⟩ := q84
                  have f91 : zfC (w_X9_tells c) h h69 := zfC_t f6 f73 (fun a9 b9 z9 => by
                    exact (by omega))
                  have f90 : zfC (w_X9_tells c) h h79 := zfC_t f91 f83 (fun a9 b9 z9 => by
                    exact (by omega))
                  exact zj_iret rfl (zdk ttX9_tells 72 rfl rfl) (Nat.le_refl _) (Nat.le_refl _) ⟨v85, rfl, by omega, s81, f90, (by intro E th x t0 i0 w0; have u0 := u26 E th x t0 i0 w0; have m0 := xC_m t0; have l0 := xC_l t0 (show 0 ≤ x3 by omega) (show x3 < E.lm by omega); have wl := xC_wl t0 (show 0 ≤ x3 by omega) (show x3 < E.lm by omega); have wa := wl.1; have rc := u72 E th x ⟨by omega, (xC_f t0 (fun a9 b9 y9 => by unfold zD at y9; exact (zfC_a f6 (fun z9 => by unfold w_X9_tells at z9; first | (revert z9; decide) | omega)))), i0, by omega, (by rw [show (h.2 (c + 8) x3) = E.lh x3 by omega, show (h.2 (c + 9) x3) = E.lt x3 by omega]; exact (wl.2.2.elim (fun z9 => absurd z9 (by omega)) (fun z9 => ⟨_, z9⟩)))⟩; rw [show (h.2 (c + 8) x3) = E.lh x3 by omega, show (h.2 (c + 9) x3) = E.lt x3 by omega] at rc; have rv := u82 E th x ⟨by omega, (xC_f (xC_f t0 (fun a9 b9 y9 => by unfold zD at y9; exact (zfC_a f6 (fun z9 => by unfold w_X9_tells at z9; first | (revert z9; decide) | omega)))) (fun a9 b9 y9 => by unfold zD at y9; exact (zfC_a f73 (fun z9 => by unfold w_X3_run at z9; first | (revert z9; decide) | omega)))), i0, by omega, (by rw [show (h.2 (c + 7) x3) = E.lf x3 by omega, show (h.2 (c + 8) x3) = E.lh x3 by omega]; exact ⟨_, wl.2.1⟩)⟩; rw [show (h.2 (c + 7) x3) = E.lf x3 by omega, show (h.2 (c + 8) x3) = E.lh x3 by omega] at rv; have e0 := fLn_y (E := E) (r := x.1) (i := p2) (w := p1) (l := x3) (by omega) ⟨by omega, Or.inr (by omega)⟩; rw [u0] at e0; have fm : fMo p1 = 1000 := (by first | (exfalso; omega) | (unfold fMo; first | rw [if_pos (by omega)] | rw [if_neg (by omega)])); have hv := u89; rw [fHeld_m (by omega)] at hv; refine fTl_y e0 (by omega) ?_; rw [hv, fm, rv])⟩
            · refine zj_iconst (zdk ttX9_tells 33 rfl rfl) ?_
              refine zj_goto (t := 75) (zdk ttX9_tells 34 rfl rfl) (by decide) ?_
              refine zj_istore (L' := [some (.inr c), some (.inl p1), some (.inl p2), some (.inl 1000), some (.inl x3), some (.inl 1)]) (zdk ttX9_tells 36 rfl rfl) (by decide) rfl ?_
              refine zj_iload (zdk ttX9_tells 37 rfl rfl) rfl ?_
              refine zj_if_ne (t := 114) (zdk ttX9_tells 38 rfl rfl) (by decide) (by decide) (fun c92 => ?_) (fun c92 => ?_)
              · refine zj_aload_n (zdk ttX9_tells 55 rfl rfl) rfl (by omega) ?_
                refine zj_getr (r := (c + 5)) (zdk ttX9_tells 56 rfl rfl) zf_RX9_21 rfl (k_9_0 s5 hc) (rf_9_0_1 s5 hc) ?_
                refine zj_aload_n (zdk ttX9_tells 57 rfl rfl) rfl (by omega) ?_
                refine zj_getr (r := (c + 5)) (zdk ttX9_tells 58 rfl rfl) zf_RX9_21 rfl (k_9_0 s5 hc) (rf_9_0_1 s5 hc) ?_
                refine zj_getr (r := (c + 7)) (zdk ttX9_tells 59 rfl rfl) zf_RX9_196 rfl (k_9_5 s5 hc) (rf_9_5_1 s5 hc) ?_
                refine zj_iload (zdk ttX9_tells 60 rfl rfl) rfl ?_
                have b93 : 0 ≤ (h.2 (c + 7) x3) ∧ (h.2 (c + 7) x3) ≤ 400 := ab_9_5_1 s0 hc x3
                refine zj_iald (v := (h.2 (c + 7) x3)) (zdk ttX9_tells 61 rfl rfl) (ka_9_5_1 s5 hc) (by decide) (by omega) (zfC_a f6 (fun z9 => by unfold w_X9_tells at z9; first | (revert z9; decide) | omega)) ?_
                refine zj_aload_n (zdk ttX9_tells 62 rfl rfl) rfl (by omega) ?_
                refine zj_getr (r := (c + 5)) (zdk ttX9_tells 63 rfl rfl) zf_RX9_21 rfl (k_9_0 s5 hc) (rf_9_0_1 s5 hc) ?_
                refine zj_getr (r := (c + 8)) (zdk ttX9_tells 64 rfl rfl) zf_RX9_186 rfl (k_9_5 s5 hc) (rf_9_5_2 s5 hc) ?_
                refine zj_iload (zdk ttX9_tells 65 rfl rfl) rfl ?_
                refine zj_iald (v := (h.2 (c + 8) x3)) (zdk ttX9_tells 66 rfl rfl) (ka_9_5_2 s5 hc) (by decide) (by omega) (zfC_a f6 (fun z9 => by unfold w_X9_tells at z9; first | (revert z9; decide) | omega)) ?_
                refine zj_aload_n (zdk ttX9_tells 67 rfl rfl) rfl (by omega) ?_
                refine zj_iload_n (zdk ttX9_tells 68 rfl rfl) rfl ?_
                refine zj_callV (av := [.inl (h.2 (c + 7) x3), .inl (h.2 (c + 8) x3), .inr c, .inl p2]) (st := []) (zdk ttX9_tells 69 rfl rfl) mb_X3_run mv_RX9_192 (ci := 3) rfl rfl (k_9_5 s5 hc) rfl rfl (Nat.le_of_ble_eq_true rfl) (s2_X3_run l h4 (c + 5) (h.2 (c + 7) x3) (h.2 (c + 8) x3) c p2 s5 (zs_9_5 hc) (by omega) (by omega) hc (by omega)) (rm_ok (by decide) (by decide)) (zq_i fun v95 h96 q94 => ?_)
                obtain ⟨b97, s98, f100, u99⟩ := q94
                refine zj_iload_n (zdk ttX9_tells 70 rfl rfl) rfl ?_
                refine zj_callS (av := [.inl v95, .inl 1000]) (st := []) (zdk ttX9_tells 71 rfl rfl) mb_X9_held ms_RX9_199 rfl rfl (Nat.le_of_ble_eq_true rfl) (s_X9_held l h96 v95 1000 s98 (by omega) (by omega)) (rm_ok (by decide) (by decide)) (zq_i fun v102 h103 q101 => ?_)
                obtain ⟨rfl, b104, u105, u106⟩ := q101
                have f107 : zfC (w_X9_tells c) h h96 := zfC_t f6 f100 (fun a9 b9 z9 => by
                  exact (by omega))
                exact zj_iret rfl (zdk ttX9_tells 72 rfl rfl) (Nat.le_refl _) (Nat.le_refl _) ⟨v102, rfl, by omega, s98, f107, (by intro E th x t0 i0 w0; have u0 := u26 E th x t0 i0 w0; have m0 := xC_m t0; have l0 := xC_l t0 (show 0 ≤ x3 by omega) (show x3 < E.lm by omega); have wl := xC_wl t0 (show 0 ≤ x3 by omega) (show x3 < E.lm by omega); have wa := wl.1; have rv := u99 E th x ⟨by omega, (xC_f t0 (fun a9 b9 y9 => by unfold zD at y9; exact (zfC_a f6 (fun z9 => by unfold w_X9_tells at z9; first | (revert z9; decide) | omega)))), i0, by omega, (by rw [show (h.2 (c + 7) x3) = E.lf x3 by omega, show (h.2 (c + 8) x3) = E.lh x3 by omega]; exact ⟨_, wl.2.1⟩)⟩; rw [show (h.2 (c + 7) x3) = E.lf x3 by omega, show (h.2 (c + 8) x3) = E.lh x3 by omega] at rv; have e0 := fLn_y (E := E) (r := x.1) (i := p2) (w := p1) (l := x3) (by omega) ⟨by omega, Or.inl (by omega)⟩; rw [u0] at e0; have fm : fMo p1 = 1000 := (by first | (exfalso; omega) | (unfold fMo; first | rw [if_pos (by omega)] | rw [if_neg (by omega)])); have hv := u106; rw [fHeld_m (by omega)] at hv; refine fTl_y e0 (by omega) ?_; rw [hv, fm, rv])⟩
              · exact absurd c92 (by omega)
          · refine zj_goto (t := 148) (zdk ttX9_tells 21 rfl rfl) (by decide) ?_
            refine zj_iinc (L' := [some (.inr c), some (.inl p1), some (.inl p2), some (.inl 1000), some (.inl (x3 + 1)), none]) (zdk ttX9_tells 73 rfl rfl) rfl (by decide) rfl ?_
            refine zj_goto (t := 18) (zdk ttX9_tells 74 rfl rfl) (by decide) ?_
            exact ih28  (x3 + 1) h4 (by omega) s5 f6 (by intro E th x t0 i0 w0; have u0 := u26 E th x t0 i0 w0; have m0 := xC_m t0; have l0 := xC_l t0 (show 0 ≤ x3 by omega) (show x3 < E.lm by omega); have wl := xC_wl t0 (show 0 ≤ x3 by omega) (show x3 < E.lm by omega); have wa := wl.1; rw [← u0]; exact (fLn_n (by omega) (fun z9 => by have q9 := z9.1; omega)).symm) (by omega)
    exact lp24 _ 0 h (by omega) s0 (zfC_r _ _) (fun E th x t0 i0 w0 => by rw [show E.lm - 0 = E.lm by omega]) (Nat.lt_succ_self _)
  · refine zj_sipush (zdk ttX9_tells 3 rfl rfl) (by decide) ?_
    refine zj_goto (t := 14) (zdk ttX9_tells 4 rfl rfl) (by decide) ?_
    refine zj_istore_n (L' := [some (.inr c), some (.inl p1), some (.inl p2), some (.inl 999), none, none]) (zdk ttX9_tells 6 rfl rfl) (by decide) rfl ?_
    refine zj_iconst (zdk ttX9_tells 7 rfl rfl) ?_
    refine zj_istore (L' := [some (.inr c), some (.inl p1), some (.inl p2), some (.inl 999), some (.inl 0), none]) (zdk ttX9_tells 8 rfl rfl) (by decide) rfl ?_
    have lp129 : ∀ (n : Nat) (x108 : Int) (h109 : zM), (0 ≤ x108 ∧ x108 ≤ 16) → okC h109 → zfC (w_X9_tells c) h h109 → (∀ E th x, xC h c E th x → (0 ≤ p2 ∧ p2 < E.n) → (0 ≤ p1 ∧ p1 ≤ 2) → fLn E x.1 p2 p1 (E.lm - x108).toNat x108 = fLn E x.1 p2 p1 E.lm.toNat 0) → (17 - x108).toNat < n → zJ shC l yX9_tells cX9_tells 6 (some .int) (rmL 4) 0 0 (q2_X9_tells h c p1 p2) 0 0 18 [some (.inr c), some (.inl p1), some (.inl p2), some (.inl 999), some (.inl x108), none] [] h109 := by
      intro n
      induction n with
      | zero => intro x108 h109 b130 s110 f111 u131 m132; exact absurd m132 (Nat.not_lt_zero _)
      | succ n ih133 =>
        intro x108 h109 b130 s110 f111 u131 m132
        refine zj_iload (zdk ttX9_tells 9 rfl rfl) rfl ?_
        refine zj_aload_n (zdk ttX9_tells 10 rfl rfl) rfl (by omega) ?_
        refine zj_getr (r := (c + 5)) (zdk ttX9_tells 11 rfl rfl) zf_RX9_21 rfl (k_9_0 s110 hc) (rf_9_0_1 s110 hc) ?_
        have b134 : 0 ≤ (h.2 (c + 5) 6) ∧ (h.2 (c + 5) 6) ≤ 16 := fb_9_5_6 s0 hc
        refine zj_geti (v := (h.2 (c + 5) 6)) (zdk ttX9_tells 12 rfl rfl) zf_RX9_182 rfl (k_9_5 s110 hc) (zfC_a f111 (fun z9 => by unfold w_X9_tells at z9; first | (revert z9; decide) | omega)) ?_
        refine zj_icmp_ge (t := 154) (zdk ttX9_tells 13 rfl rfl) (by decide) (by omega) (by omega) (fun c135 => ?_) (fun c135 => ?_)
        · refine zj_iload_n (zdk ttX9_tells 75 rfl rfl) rfl ?_
          have k137 : (¬ p1 = 0 ∧ ¬ p1 = 1) → zJ shC l yX9_tells cX9_tells 6 (some .int) (rmL 4) 0 0 (q2_X9_tells h c p1 p2) 0 0 211 [some (.inr c), some (.inl p1), some (.inl p2), some (.inl 999), some (.inl x108), none] [] h109 := by
            intro c136
            exact absurd c136 (by omega)
          have k138 : p1 = 0 → zJ shC l yX9_tells cX9_tells 6 (some .int) (rmL 4) 0 0 (q2_X9_tells h c p1 p2) 0 0 180 [some (.inr c), some (.inl p1), some (.inl p2), some (.inl 999), some (.inl x108), none] [] h109 := by
            intro c136
            exact absurd c136 (by omega)
          have k139 : p1 = 1 → zJ shC l yX9_tells cX9_tells 6 (some .int) (rmL 4) 0 0 (q2_X9_tells h c p1 p2) 0 0 197 [some (.inr c), some (.inl p1), some (.inl p2), some (.inl 999), some (.inl x108), none] [] h109 := by
            intro c136
            refine zj_aload_n (zdk ttX9_tells 87 rfl rfl) rfl (by omega) ?_
            refine zj_getr (r := (c + 1)) (zdk ttX9_tells 88 rfl rfl) zf_RX9_12 rfl (k_9_0 s110 hc) (rf_9_0_0 s110 hc) ?_
            refine zj_getr (r := (c + 2)) (zdk ttX9_tells 89 rfl rfl) zf_RX9_205 rfl (k_9_1 s110 hc) (rf_9_1_0 s110 hc) ?_
            refine zj_iload_n (zdk ttX9_tells 90 rfl rfl) rfl ?_
            have b140 : -2147483648 ≤ (h.2 (c + 2) p2) ∧ (h.2 (c + 2) p2) ≤ 2147483647 := ab_9_1_0 s0 hc p2
            refine zj_iald (v := (h.2 (c + 2) p2)) (zdk ttX9_tells 91 rfl rfl) (ka_9_1_0 s110 hc) (by decide) (by omega) (zfC_a f111 (fun z9 => by unfold w_X9_tells at z9; first | (revert z9; decide) | omega)) ?_
            refine zj_iload_n (zdk ttX9_tells 92 rfl rfl) rfl ?_
            refine zj_callS (av := [.inl (h.2 (c + 2) p2), .inl 999]) (st := []) (zdk ttX9_tells 93 rfl rfl) mb_X9_held ms_RX9_199 rfl rfl (Nat.le_of_ble_eq_true rfl) (s_X9_held l h109 (h.2 (c + 2) p2) 999 s110 (by omega) (by omega)) (rm_ok (by decide) (by decide)) (zq_i fun v142 h143 q141 => ?_)
            obtain ⟨rfl, b144, u145, u146⟩ := q141
            exact zj_iret rfl (zdk ttX9_tells 94 rfl rfl) (Nat.le_refl _) (Nat.le_refl _) ⟨v142, rfl, by omega, s110, f111, (by intro E th x t0 i0 w0; have u0 := u131 E th x t0 i0 w0; have m0 := xC_m t0; have e0 := fLn_e (E := E) (r := x.1) (i := p2) (w := p1) (l := x108) (by omega); rw [u0] at e0; have i1 := xC_i t0 i0.1 (by have n0 := xC_n t0; omega); have fm : fMo p1 = 999 := (by first | (exfalso; omega) | (unfold fMo; first | rw [if_pos (by omega)] | rw [if_neg (by omega)])); have hv := u146; rw [fHeld_m (by omega)] at hv; have n0 := xC_n t0; have wi := xC_wi t0 i0.1 (by omega); have z8 : zwp (80 * (h.2 (c + 3) p2)) = 80 * (h.2 (c + 3) p2) := zwp_id (by unfold zin; omega); have z9 : zwp (50 * (h.2 (c + 3) p2)) = 50 * (h.2 (c + 3) p2) := zwp_id (by unfold zin; omega); have z7 : zwp (500 - zwp (50 * (h.2 (c + 3) p2))) = 500 - 50 * (h.2 (c + 3) p2) := (by rw [z9]; exact zwp_id (by unfold zin; omega)); refine fTl_n e0 ?_; rw [hv, fm]; have df : fDf E p1 p2 = (h.2 (c + 2) p2) := (by unfold fDf; first | (rw [if_pos (by omega)]; omega) | (rw [if_neg (by omega), if_pos (by omega)]; omega) | (rw [if_neg (by omega), if_neg (by omega)]; omega)); rw [df])⟩
          by_cases z147 : p1 = 0
          · exact zj_lookup (t := 180) (zdk ttX9_tells 76 rfl rfl) (by omega) rfl (by rw [z147] <;> rfl) (by decide) (k138 z147)
          by_cases z148 : p1 = 1
          · exact zj_lookup (t := 197) (zdk ttX9_tells 76 rfl rfl) (by omega) rfl (by rw [z148] <;> rfl) (by decide) (k139 z148)
          exact zj_lookup (t := 211) (zdk ttX9_tells 76 rfl rfl) (by omega) rfl (by show Op.lookupswitch.offset [(0, 25), (1, 42)] 56 p1 = _; rw [Op.lookupswitch.offset_cons, if_neg (by omega), Op.lookupswitch.offset_cons, if_neg (by omega), Op.lookupswitch.offset_nil]) (by decide) (k137 (by omega))
        · refine zj_aload_n (zdk ttX9_tells 14 rfl rfl) rfl (by omega) ?_
          refine zj_getr (r := (c + 5)) (zdk ttX9_tells 15 rfl rfl) zf_RX9_21 rfl (k_9_0 s110 hc) (rf_9_0_1 s110 hc) ?_
          refine zj_getr (r := (c + 6)) (zdk ttX9_tells 16 rfl rfl) zf_RX9_183 rfl (k_9_5 s110 hc) (rf_9_5_0 s110 hc) ?_
          refine zj_iload (zdk ttX9_tells 17 rfl rfl) rfl ?_
          have b149 : -2147483648 ≤ (h.2 (c + 6) x108) ∧ (h.2 (c + 6) x108) ≤ 2147483647 := ab_9_5_0 s0 hc x108
          refine zj_iald (v := (h.2 (c + 6) x108)) (zdk ttX9_tells 18 rfl rfl) (ka_9_5_0 s110 hc) (by decide) (by omega) (zfC_a f111 (fun z9 => by unfold w_X9_tells at z9; first | (revert z9; decide) | omega)) ?_
          refine zj_iload_n (zdk ttX9_tells 19 rfl rfl) rfl ?_
          refine zj_icmp_eq (t := 47) (zdk ttX9_tells 20 rfl rfl) (by decide) (by omega) (by omega) (fun c150 => ?_) (fun c150 => ?_)
          · refine zj_aload_n (zdk ttX9_tells 22 rfl rfl) rfl (by omega) ?_
            refine zj_getr (r := (c + 5)) (zdk ttX9_tells 23 rfl rfl) zf_RX9_21 rfl (k_9_0 s110 hc) (rf_9_0_1 s110 hc) ?_
            refine zj_getr (r := (c + 8)) (zdk ttX9_tells 24 rfl rfl) zf_RX9_186 rfl (k_9_5 s110 hc) (rf_9_5_2 s110 hc) ?_
            refine zj_iload (zdk ttX9_tells 25 rfl rfl) rfl ?_
            have b151 : 0 ≤ (h.2 (c + 8) x108) ∧ (h.2 (c + 8) x108) ≤ 400 := ab_9_5_2 s0 hc x108
            refine zj_iald (v := (h.2 (c + 8) x108)) (zdk ttX9_tells 26 rfl rfl) (ka_9_5_2 s110 hc) (by decide) (by omega) (zfC_a f111 (fun z9 => by unfold w_X9_tells at z9; first | (revert z9; decide) | omega)) ?_
            refine zj_aload_n (zdk ttX9_tells 27 rfl rfl) rfl (by omega) ?_
            refine zj_getr (r := (c + 5)) (zdk ttX9_tells 28 rfl rfl) zf_RX9_21 rfl (k_9_0 s110 hc) (rf_9_0_1 s110 hc) ?_
            refine zj_getr (r := (c + 9)) (zdk ttX9_tells 29 rfl rfl) zf_RX9_189 rfl (k_9_5 s110 hc) (rf_9_5_3 s110 hc) ?_
            refine zj_iload (zdk ttX9_tells 30 rfl rfl) rfl ?_
            have b152 : 0 ≤ (h.2 (c + 9) x108) ∧ (h.2 (c + 9) x108) ≤ 400 := ab_9_5_3 s0 hc x108
            refine zj_iald (v := (h.2 (c + 9) x108)) (zdk ttX9_tells 31 rfl rfl) (ka_9_5_3 s110 hc) (by decide) (by omega) (zfC_a f111 (fun z9 => by unfold w_X9_tells at z9; first | (revert z9; decide) | omega)) ?_
            refine zj_icmp_ne (t := 74) (zdk ttX9_tells 32 rfl rfl) (by decide) (by omega) (by omega) (fun c153 => ?_) (fun c153 => ?_)
            · refine zj_iconst (zdk ttX9_tells 35 rfl rfl) ?_
              refine zj_istore (L' := [some (.inr c), some (.inl p1), some (.inl p2), some (.inl 999), some (.inl x108), some (.inl 0)]) (zdk ttX9_tells 36 rfl rfl) (by decide) rfl ?_
              refine zj_iload (zdk ttX9_tells 37 rfl rfl) rfl ?_
              refine zj_if_ne (t := 114) (zdk ttX9_tells 38 rfl rfl) (by decide) (by decide) (fun c154 => ?_) (fun c154 => ?_)
              · exact absurd c154 (by omega)
              · refine zj_aload_n (zdk ttX9_tells 39 rfl rfl) rfl (by omega) ?_
                refine zj_getr (r := (c + 5)) (zdk ttX9_tells 40 rfl rfl) zf_RX9_21 rfl (k_9_0 s110 hc) (rf_9_0_1 s110 hc) ?_
                refine zj_aload_n (zdk ttX9_tells 41 rfl rfl) rfl (by omega) ?_
                refine zj_getr (r := (c + 5)) (zdk ttX9_tells 42 rfl rfl) zf_RX9_21 rfl (k_9_0 s110 hc) (rf_9_0_1 s110 hc) ?_
                refine zj_getr (r := (c + 8)) (zdk ttX9_tells 43 rfl rfl) zf_RX9_186 rfl (k_9_5 s110 hc) (rf_9_5_2 s110 hc) ?_
                refine zj_iload (zdk ttX9_tells 44 rfl rfl) rfl ?_
                refine zj_iald (v := (h.2 (c + 8) x108)) (zdk ttX9_tells 45 rfl rfl) (ka_9_5_2 s110 hc) (by decide) (by omega) (zfC_a f111 (fun z9 => by unfold w_X9_tells at z9; first | (revert z9; decide) | omega)) ?_
                refine zj_aload_n (zdk ttX9_tells 46 rfl rfl) rfl (by omega) ?_
                refine zj_getr (r := (c + 5)) (zdk ttX9_tells 47 rfl rfl) zf_RX9_21 rfl (k_9_0 s110 hc) (rf_9_0_1 s110 hc) ?_
                refine zj_getr (r := (c + 9)) (zdk ttX9_tells 48 rfl rfl) zf_RX9_189 rfl (k_9_5 s110 hc) (rf_9_5_3 s110 hc) ?_
                refine zj_iload (zdk ttX9_tells 49 rfl rfl) rfl ?_
                refine zj_iald (v := (h.2 (c + 9) x108)) (zdk ttX9_tells 50 rfl rfl) (ka_9_5_3 s110 hc) (by decide) (by omega) (zfC_a f111 (fun z9 => by unfold w_X9_tells at z9; first | (revert z9; decide) | omega)) ?_
                refine zj_aload_n (zdk ttX9_tells 51 rfl rfl) rfl (by omega) ?_
                refine zj_iload_n (zdk ttX9_tells 52 rfl rfl) rfl ?_
                refine zj_callV (av := [.inl (h.2 (c + 8) x108), .inl (h.2 (c + 9) x108), .inr c, .inl p2]) (st := []) (zdk ttX9_tells 53 rfl rfl) mb_X3_run mv_RX9_192 (ci := 3) rfl rfl (k_9_5 s110 hc) rfl rfl (Nat.le_of_ble_eq_true rfl) (s2_X3_run l h109 (c + 5) (h.2 (c + 8) x108) (h.2 (c + 9) x108) c p2 s110 (zs_9_5 hc) (by omega) (by omega) hc (by omega)) (rm_ok (by decide) (by decide)) (zq_i fun v156 h157 q155 => ?_)
                obtain ⟨b158, s159, f161, u160⟩ := q155
                refine zj_if_eq (t := 148) (zdk ttX9_tells 54 rfl rfl) (by decide) (by omega) (fun c162 => ?_) (fun c162 => ?_)
                · refine zj_iinc (L' := [some (.inr c), some (.inl p1), some (.inl p2), some (.inl 999), some (.inl (x108 + 1)), some (.inl 0)]) (zdk ttX9_tells 73 rfl rfl) rfl (by decide) rfl ?_
                  refine zj_goto (t := 18) (zdk ttX9_tells 74 rfl rfl) (by decide) ?_
                  refine zj_kill (k := 5) (L' := [some (.inr c), some (.inl p1), some (.inl p2), some (.inl 999), some (.inl (x108 + 1)), none]) rfl ?_
                  have f163 : zfC (w_X9_tells c) h h157 := zfC_t f111 f161 (fun a9 b9 z9 => by
                    exact (by omega))
                  exact ih133  (x108 + 1) h157 (by omega) s159 f163 (by intro E th x t0 i0 w0; have u0 := u131 E th x t0 i0 w0; have m0 := xC_m t0; have l0 := xC_l t0 (show 0 ≤ x108 by omega) (show x108 < E.lm by omega); have wl := xC_wl t0 (show 0 ≤ x108 by omega) (show x108 < E.lm by omega); have wa := wl.1; have rc := u160 E th x ⟨by omega, (xC_f t0 (fun a9 b9 y9 => by unfold zD at y9; exact (zfC_a f111 (fun z9 => by unfold w_X9_tells at z9; first | (revert z9; decide) | omega)))), i0, by omega, (by rw [show (h.2 (c + 8) x108) = E.lh x108 by omega, show (h.2 (c + 9) x108) = E.lt x108 by omega]; exact (wl.2.2.elim (fun z9 => absurd z9 (by omega)) (fun z9 => ⟨_, z9⟩)))⟩; rw [show (h.2 (c + 8) x108) = E.lh x108 by omega, show (h.2 (c + 9) x108) = E.lt x108 by omega] at rc; rw [← u0]; exact (fLn_n (by omega) (fun z9 => z9.2.elim (fun q9 => by omega) (fun q9 => by omega))).symm) (by omega)
                · refine zj_aload_n (zdk ttX9_tells 55 rfl rfl) rfl (by omega) ?_
                  refine zj_getr (r := (c + 5)) (zdk ttX9_tells 56 rfl rfl) zf_RX9_21 rfl (k_9_0 s159 hc) (rf_9_0_1 s159 hc) ?_
                  refine zj_aload_n (zdk ttX9_tells 57 rfl rfl) rfl (by omega) ?_
                  refine zj_getr (r := (c + 5)) (zdk ttX9_tells 58 rfl rfl) zf_RX9_21 rfl (k_9_0 s159 hc) (rf_9_0_1 s159 hc) ?_
                  refine zj_getr (r := (c + 7)) (zdk ttX9_tells 59 rfl rfl) zf_RX9_196 rfl (k_9_5 s159 hc) (rf_9_5_1 s159 hc) ?_
                  refine zj_iload (zdk ttX9_tells 60 rfl rfl) rfl ?_
                  have b164 : 0 ≤ (h.2 (c + 7) x108) ∧ (h.2 (c + 7) x108) ≤ 400 := ab_9_5_1 s0 hc x108
                  refine zj_iald (v := (h.2 (c + 7) x108)) (zdk ttX9_tells 61 rfl rfl) (ka_9_5_1 s159 hc) (by decide) (by omega) ((zfC_a f161 (fun z9 => by unfold w_X3_run at z9; first | (revert z9; decide) | omega)).trans (zfC_a f111 (fun z9 => by unfold w_X9_tells at z9; first | (revert z9; decide) | omega))) ?_
                  refine zj_aload_n (zdk ttX9_tells 62 rfl rfl) rfl (by omega) ?_
                  refine zj_getr (r := (c + 5)) (zdk ttX9_tells 63 rfl rfl) zf_RX9_21 rfl (k_9_0 s159 hc) (rf_9_0_1 s159 hc) ?_
                  refine zj_getr (r := (c + 8)) (zdk ttX9_tells 64 rfl rfl) zf_RX9_186 rfl (k_9_5 s159 hc) (rf_9_5_2 s159 hc) ?_
                  refine zj_iload (zdk ttX9_tells 65 rfl rfl) rfl ?_
                  refine zj_iald (v := (h.2 (c + 8) x108)) (zdk ttX9_tells 66 rfl rfl) (ka_9_5_2 s159 hc) (by decide) (by omega) ((zfC_a f161 (fun z9 => by unfold w_X3_run at z9; first | (revert z9; decide) | omega)).trans (zfC_a f111 (fun z9 => by unfold w_X9_tells at z9; first | (revert z9; decide) | omega))) ?_
                  refine zj_aload_n (zdk ttX9_tells 67 rfl rfl) rfl (by omega) ?_
                  refine zj_iload_n (zdk ttX9_tells 68 rfl rfl) rfl ?_
                  refine zj_callV (av := [.inl (h.2 (c + 7) x108), .inl (h.2 (c + 8) x108), .inr c, .inl p2]) (st := []) (zdk ttX9_tells 69 rfl rfl) mb_X3_run mv_RX9_192 (ci := 3) rfl rfl (k_9_5 s159 hc) rfl rfl (Nat.le_of_ble_eq_true rfl) (s2_X3_run l h157 (c + 5) (h.2 (c + 7) x108) (h.2 (c + 8) x108) c p2 s159 (zs_9_5 hc) (by omega) (by omega) hc (by omega)) (rm_ok (by decide) (by decide)) (zq_i fun v166 h167 q165 => ?_)
                  obtain ⟨b168, s169, f171, u170⟩ := q165
                  refine zj_iload_n (zdk ttX9_tells 70 rfl rfl) rfl ?_
                  refine zj_callS (av := [.inl v166, .inl 999]) (st := []) (zdk ttX9_tells 71 rfl rfl) mb_X9_held ms_RX9_199 rfl rfl (Nat.le_of_ble_eq_true rfl) (s_X9_held l h167 v166 999 s169 (by omega) (by omega)) (rm_ok (by decide) (by decide)) (zq_i fun v173 h174 q172 => ?_)
                  obtain ⟨rfl, b175, u176, u177⟩ := q172
                  have f179 : zfC (w_X9_tells c) h h157 := zfC_t f111 f161 (fun a9 b9 z9 => by
                    exact (by omega))
                  have f178 : zfC (w_X9_tells c) h h167 := zfC_t f179 f171 (fun a9 b9 z9 => by
                    exact (by omega))
                  exact zj_iret rfl (zdk ttX9_tells 72 rfl rfl) (Nat.le_refl _) (Nat.le_refl _) ⟨v173, rfl, by omega, s169, f178, (by intro E th x t0 i0 w0; have u0 := u131 E th x t0 i0 w0; have m0 := xC_m t0; have l0 := xC_l t0 (show 0 ≤ x108 by omega) (show x108 < E.lm by omega); have wl := xC_wl t0 (show 0 ≤ x108 by omega) (show x108 < E.lm by omega); have wa := wl.1; have rc := u160 E th x ⟨by omega, (xC_f t0 (fun a9 b9 y9 => by unfold zD at y9; exact (zfC_a f111 (fun z9 => by unfold w_X9_tells at z9; first | (revert z9; decide) | omega)))), i0, by omega, (by rw [show (h.2 (c + 8) x108) = E.lh x108 by omega, show (h.2 (c + 9) x108) = E.lt x108 by omega]; exact (wl.2.2.elim (fun z9 => absurd z9 (by omega)) (fun z9 => ⟨_, z9⟩)))⟩; rw [show (h.2 (c + 8) x108) = E.lh x108 by omega, show (h.2 (c + 9) x108) = E.lt x108 by omega] at rc; have rv := u170 E th x ⟨by omega, (xC_f (xC_f t0 (fun a9 b9 y9 => by unfold zD at y9; exact (zfC_a f111 (fun z9 => by unfold w_X9_tells at z9; first | (revert z9; decide) | omega)))) (fun a9 b9 y9 => by unfold zD at y9; exact (zfC_a f161 (fun z9 => by unfold w_X3_run at z9; first | (revert z9; decide) | omega)))), i0, by omega, (by rw [show (h.2 (c + 7) x108) = E.lf x108 by omega, show (h.2 (c + 8) x108) = E.lh x108 by omega]; exact ⟨_, wl.2.1⟩)⟩; rw [show (h.2 (c + 7) x108) = E.lf x108 by omega, show (h.2 (c + 8) x108) = E.lh x108 by omega] at rv; have e0 := fLn_y (E := E) (r := x.1) (i := p2) (w := p1) (l := x108) (by omega) ⟨by omega, Or.inr (by omega)⟩; rw [u0] at e0; have fm : fMo p1 = 999 := (by first | (exfalso; omega) | (unfold fMo; first | rw [if_pos (by omega)] | rw [if_neg (by omega)])); have hv := u177; rw [fHeld_m (by omega)] at hv; refine fTl_y e0 (by omega) ?_; rw [hv, fm, rv])⟩
            · refine zj_iconst (zdk ttX9_tells 33 rfl rfl) ?_
              refine zj_goto (t := 75) (zdk ttX9_tells 34 rfl rfl) (by decide) ?_
              refine zj_istore (L' := [some (.inr c), some (.inl p1), some (.inl p2), some (.inl 999), some (.inl x108), some (.inl 1)]) (zdk ttX9_tells 36 rfl rfl) (by decide) rfl ?_
              refine zj_iload (zdk ttX9_tells 37 rfl rfl) rfl ?_
              refine zj_if_ne (t := 114) (zdk ttX9_tells 38 rfl rfl) (by decide) (by decide) (fun c180 => ?_) (fun c180 => ?_)
              · refine zj_aload_n (zdk ttX9_tells 55 rfl rfl) rfl (by omega) ?_
                refine zj_getr (r := (c + 5)) (zdk ttX9_tells 56 rfl rfl) zf_RX9_21 rfl (k_9_0 s110 hc) (rf_9_0_1 s110 hc) ?_
                refine zj_aload_n (zdk ttX9_tells 57 rfl rfl) rfl (by omega) ?_
                refine zj_getr (r := (c + 5)) (zdk ttX9_tells 58 rfl rfl) zf_RX9_21 rfl (k_9_0 s110 hc) (rf_9_0_1 s110 hc) ?_
                refine zj_getr (r := (c + 7)) (zdk ttX9_tells 59 rfl rfl) zf_RX9_196 rfl (k_9_5 s110 hc) (rf_9_5_1 s110 hc) ?_
                refine zj_iload (zdk ttX9_tells 60 rfl rfl) rfl ?_
                have b181 : 0 ≤ (h.2 (c + 7) x108) ∧ (h.2 (c + 7) x108) ≤ 400 := ab_9_5_1 s0 hc x108
                refine zj_iald (v := (h.2 (c + 7) x108)) (zdk ttX9_tells 61 rfl rfl) (ka_9_5_1 s110 hc) (by decide) (by omega) (zfC_a f111 (fun z9 => by unfold w_X9_tells at z9; first | (revert z9; decide) | omega)) ?_
                refine zj_aload_n (zdk ttX9_tells 62 rfl rfl) rfl (by omega) ?_
                refine zj_getr (r := (c + 5)) (zdk ttX9_tells 63 rfl rfl) zf_RX9_21 rfl (k_9_0 s110 hc) (rf_9_0_1 s110 hc) ?_
                refine zj_getr (r := (c + 8)) (zdk ttX9_tells 64 rfl rfl) zf_RX9_186 rfl (k_9_5 s110 hc) (rf_9_5_2 s110 hc) ?_
                refine zj_iload (zdk ttX9_tells 65 rfl rfl) rfl ?_
                refine zj_iald (v := (h.2 (c + 8) x108)) (zdk ttX9_tells 66 rfl rfl) (ka_9_5_2 s110 hc) (by decide) (by omega) (zfC_a f111 (fun z9 => by unfold w_X9_tells at z9; first | (revert z9; decide) | omega)) ?_
                refine zj_aload_n (zdk ttX9_tells 67 rfl rfl) rfl (by omega) ?_
                refine zj_iload_n (zdk ttX9_tells 68 rfl rfl) rfl ?_
                refine zj_callV (av := [.inl (h.2 (c + 7) x108), .inl (h.2 (c + 8) x108), .inr c, .inl p2]) (st := []) (zdk ttX9_tells 69 rfl rfl) mb_X3_run mv_RX9_192 (ci := 3) rfl rfl (k_9_5 s110 hc) rfl rfl (Nat.le_of_ble_eq_true rfl) (s2_X3_run l h109 (c + 5) (h.2 (c + 7) x108) (h.2 (c + 8) x108) c p2 s110 (zs_9_5 hc) (by omega) (by omega) hc (by omega)) (rm_ok (by decide) (by decide)) (zq_i fun v183 h184 q182 => ?_)
                obtain ⟨b185, s186, f188, u187⟩ := q182
                refine zj_iload_n (zdk ttX9_tells 70 rfl rfl) rfl ?_
                refine zj_callS (av := [.inl v183, .inl 999]) (st := []) (zdk ttX9_tells 71 rfl rfl) mb_X9_held ms_RX9_199 rfl rfl (Nat.le_of_ble_eq_true rfl) (s_X9_held l h184 v183 999 s186 (by omega) (by omega)) (rm_ok (by decide) (by decide)) (zq_i fun v190 h191 q189 => ?_)
                obtain ⟨rfl, b192, u193, u194⟩ := q189
                have f195 : zfC (w_X9_tells c) h h184 := zfC_t f111 f188 (fun a9 b9 z9 => by
                  exact (by omega))
                exact zj_iret rfl (zdk ttX9_tells 72 rfl rfl) (Nat.le_refl _) (Nat.le_refl _) ⟨v190, rfl, by omega, s186, f195, (by intro E th x t0 i0 w0; have u0 := u131 E th x t0 i0 w0; have m0 := xC_m t0; have l0 := xC_l t0 (show 0 ≤ x108 by omega) (show x108 < E.lm by omega); have wl := xC_wl t0 (show 0 ≤ x108 by omega) (show x108 < E.lm by omega); have wa := wl.1; have rv := u187 E th x ⟨by omega, (xC_f t0 (fun a9 b9 y9 => by unfold zD at y9; exact (zfC_a f111 (fun z9 => by unfold w_X9_tells at z9; first | (revert z9; decide) | omega)))), i0, by omega, (by rw [show (h.2 (c + 7) x108) = E.lf x108 by omega, show (h.2 (c + 8) x108) = E.lh x108 by omega]; exact ⟨_, wl.2.1⟩)⟩; rw [show (h.2 (c + 7) x108) = E.lf x108 by omega, show (h.2 (c + 8) x108) = E.lh x108 by omega] at rv; have e0 := fLn_y (E := E) (r := x.1) (i := p2) (w := p1) (l := x108) (by omega) ⟨by omega, Or.inl (by omega)⟩; rw [u0] at e0; have fm : fMo p1 = 999 := (by first | (exfalso; omega) | (unfold fMo; first | rw [if_pos (by omega)] | rw [if_neg (by omega)])); have hv := u194; rw [fHeld_m (by omega)] at hv; refine fTl_y e0 (by omega) ?_; rw [hv, fm, rv])⟩
              · exact absurd c180 (by omega)
          · refine zj_goto (t := 148) (zdk ttX9_tells 21 rfl rfl) (by decide) ?_
            refine zj_iinc (L' := [some (.inr c), some (.inl p1), some (.inl p2), some (.inl 999), some (.inl (x108 + 1)), none]) (zdk ttX9_tells 73 rfl rfl) rfl (by decide) rfl ?_
            refine zj_goto (t := 18) (zdk ttX9_tells 74 rfl rfl) (by decide) ?_
            exact ih133  (x108 + 1) h109 (by omega) s110 f111 (by intro E th x t0 i0 w0; have u0 := u131 E th x t0 i0 w0; have m0 := xC_m t0; have l0 := xC_l t0 (show 0 ≤ x108 by omega) (show x108 < E.lm by omega); have wl := xC_wl t0 (show 0 ≤ x108 by omega) (show x108 < E.lm by omega); have wa := wl.1; rw [← u0]; exact (fLn_n (by omega) (fun z9 => by have q9 := z9.1; omega)).symm) (by omega)
    exact lp129 _ 0 h (by omega) s0 (zfC_r _ _) (fun E th x t0 i0 w0 => by rw [show E.lm - 0 = E.lm by omega]) (Nat.lt_succ_self _)

abbrev q2_X0_write (h : zM) (c : Int) (p1 : Int) (p2 : Int) (p3 : Int) (p4 : Int) : Option zV → zM → Prop := zqv fun h' => okC h' ∧ zfC (w_X0_write c) h h' ∧ (fBw h h' c p1 p2 p3 p4)
set_option maxRecDepth 100000 in
set_option maxHeartbeats 4000000 in
theorem s2_X0_write (l : Launch) (h : zM) (c : Int) (p1 : Int) (p2 : Int) (p3 : Int) (p4 : Int) (s0 : okC h) (hc : zBo c) (b_p1 : (-2147483648) ≤ p1 ∧ p1 ≤ 2147483647) (b_p2 : (-2147483648) ≤ p2 ∧ p2 ≤ 2147483647) (b_p3 : (-2147483648) ≤ p3 ∧ p3 ≤ 2147483647) (b_p4 : (-2147483648) ≤ p4 ∧ p4 ≤ 2147483647) : zT shC l yX0_write cX0_write 5 none (rmL 1) 0 0 [.inr c, .inl p1, .inl p2, .inl p3, .inl p4] h (q2_X0_write h c p1 p2 p3 p4) := by
  refine zT_of (by decide +kernel) (L0 := [some (.inr c), some (.inl p1), some (.inl p2), some (.inl p3), some (.inl p4)]) rfl (Nat.le_of_ble_eq_true rfl) ?_
  have b1 := zBo_b hc
  refine zj_aload_n (zdk ttX0_write 0 rfl rfl) rfl (by omega) ?_
  have b2 : 0 ≤ (h.2 c 4) ∧ (h.2 c 4) ≤ 150 := fb_0_0_4 s0 hc
  refine zj_geti (v := (h.2 c 4)) (zdk ttX0_write 1 rfl rfl) zf_RX0_22 rfl (k_0_0 s0 hc) rfl ?_
  refine zj_sipush (zdk ttX0_write 2 rfl rfl) (by decide) ?_
  refine zj_icmp_lt (t := 11) (zdk ttX0_write 3 rfl rfl) (by decide) (by omega) (by decide) (fun c3 => ?_) (fun c3 => ?_)
  · refine zj_aload_n (zdk ttX0_write 5 rfl rfl) rfl (by omega) ?_
    refine zj_getr (r := (c + 1)) (zdk ttX0_write 6 rfl rfl) zf_RX0_9 rfl (k_0_0 s0 hc) (rf_0_0_0 s0 hc) ?_
    refine zj_aload_n (zdk ttX0_write 7 rfl rfl) rfl (by omega) ?_
    refine zj_geti (v := (h.2 c 4)) (zdk ttX0_write 8 rfl rfl) zf_RX0_22 rfl (k_0_0 s0 hc) rfl ?_
    refine zj_iload_n (zdk ttX0_write 9 rfl rfl) rfl ?_
    refine zj_iast (zdk ttX0_write 10 rfl rfl) (ka_0_0_0 s0 hc) (by decide) (by omega) (fun h4 e5 => ?_)
    refine zj_aload_n (zdk ttX0_write 11 rfl rfl) rfl (by omega) ?_
    have s6 : okC h4 := aw_0_0_0 s0 hc e5 (by omega)
    refine zj_getr (r := (c + 2)) (zdk ttX0_write 12 rfl rfl) zf_RX0_13 rfl (k_0_0 s6 hc) (rf_0_0_1 s6 hc) ?_
    refine zj_aload_n (zdk ttX0_write 13 rfl rfl) rfl (by omega) ?_
    refine zj_geti (v := (h.2 c 4)) (zdk ttX0_write 14 rfl rfl) zf_RX0_22 rfl (k_0_0 s6 hc) (zwr_r e5 (by first | decide | exact (absurd ·.1 (by decide)) | exact (absurd ·.2 (by decide)) | omega)) ?_
    refine zj_iload_n (zdk ttX0_write 15 rfl rfl) rfl ?_
    refine zj_iast (zdk ttX0_write 16 rfl rfl) (ka_0_0_1 s6 hc) (by decide) (by omega) (fun h7 e8 => ?_)
    refine zj_aload_n (zdk ttX0_write 17 rfl rfl) rfl (by omega) ?_
    have s9 : okC h7 := aw_0_0_1 s6 hc e8 (by omega)
    refine zj_getr (r := (c + 3)) (zdk ttX0_write 18 rfl rfl) zf_RX0_16 rfl (k_0_0 s9 hc) (rf_0_0_2 s9 hc) ?_
    refine zj_aload_n (zdk ttX0_write 19 rfl rfl) rfl (by omega) ?_
    refine zj_geti (v := (h.2 c 4)) (zdk ttX0_write 20 rfl rfl) zf_RX0_22 rfl (k_0_0 s9 hc) ((zwr_r e8 (by first | decide | exact (absurd ·.1 (by decide)) | exact (absurd ·.2 (by decide)) | omega)).trans (zwr_r e5 (by first | decide | exact (absurd ·.1 (by decide)) | exact (absurd ·.2 (by decide)) | omega))) ?_
    refine zj_iload_n (zdk ttX0_write 21 rfl rfl) rfl ?_
    refine zj_iast (zdk ttX0_write 22 rfl rfl) (ka_0_0_2 s9 hc) (by decide) (by omega) (fun h10 e11 => ?_)
    refine zj_aload_n (zdk ttX0_write 23 rfl rfl) rfl (by omega) ?_
    have s12 : okC h10 := aw_0_0_2 s9 hc e11 (by omega)
    refine zj_getr (r := (c + 4)) (zdk ttX0_write 24 rfl rfl) zf_RX0_19 rfl (k_0_0 s12 hc) (rf_0_0_3 s12 hc) ?_
    refine zj_aload_n (zdk ttX0_write 25 rfl rfl) rfl (by omega) ?_
    refine zj_geti (v := (h.2 c 4)) (zdk ttX0_write 26 rfl rfl) zf_RX0_22 rfl (k_0_0 s12 hc) (((zwr_r e11 (by first | decide | exact (absurd ·.1 (by decide)) | exact (absurd ·.2 (by decide)) | omega)).trans (zwr_r e8 (by first | decide | exact (absurd ·.1 (by decide)) | exact (absurd ·.2 (by decide)) | omega))).trans (zwr_r e5 (by first | decide | exact (absurd ·.1 (by decide)) | exact (absurd ·.2 (by decide)) | omega))) ?_
    refine zj_iload (zdk ttX0_write 27 rfl rfl) rfl ?_
    refine zj_iast (zdk ttX0_write 28 rfl rfl) (ka_0_0_3 s12 hc) (by decide) (by omega) (fun h13 e14 => ?_)
    refine zj_aload_n (zdk ttX0_write 29 rfl rfl) rfl (by omega) ?_
    refine zj_dup (zdk ttX0_write 30 rfl rfl) ?_
    have s15 : okC h13 := aw_0_0_3 s12 hc e14 (by omega)
    refine zj_geti (v := (h.2 c 4)) (zdk ttX0_write 31 rfl rfl) zf_RX0_22 rfl (k_0_0 s15 hc) ((((zwr_r e14 (by first | decide | exact (absurd ·.1 (by decide)) | exact (absurd ·.2 (by decide)) | omega)).trans (zwr_r e11 (by first | decide | exact (absurd ·.1 (by decide)) | exact (absurd ·.2 (by decide)) | omega))).trans (zwr_r e8 (by first | decide | exact (absurd ·.1 (by decide)) | exact (absurd ·.2 (by decide)) | omega))).trans (zwr_r e5 (by first | decide | exact (absurd ·.1 (by decide)) | exact (absurd ·.2 (by decide)) | omega))) ?_
    refine zj_iconst (zdk ttX0_write 32 rfl rfl) ?_
    refine zj_iadd (zdk ttX0_write 33 rfl rfl) ?_
    refine zj_puti (zdk ttX0_write 34 rfl rfl) zf_RX0_22 rfl (k_0_0 s15 hc) (Or.inl zw_RX0_22) (k2 := 4) rfl (fun h16 e17 => ?_)
    have s18 : okC h16 := fw_0_0_4 s15 hc e17 (by omega)
    have f23 : zfC (w_X0_write c) h h4 := zfC_w (zfC_r _ _) e5 (Or.inr (by omega))
    have f22 : zfC (w_X0_write c) h h7 := zfC_w f23 e8 (Or.inr (by omega))
    have f21 : zfC (w_X0_write c) h h10 := zfC_w f22 e11 (Or.inr (by omega))
    have f20 : zfC (w_X0_write c) h h13 := zfC_w f21 e14 (Or.inr (by omega))
    have f19 : zfC (w_X0_write c) h h16 := zfC_w f20 e17 (Or.inl (by omega))
    exact zj_vret rfl (zdk ttX0_write 35 rfl rfl) (Nat.le_refl _) (Nat.le_refl _) ⟨rfl, s18, f19, ⟨fun z9 => absurd z9 (by omega), fun _ => ⟨zwr_v e17, fun j9 => ⟨(by rw [zwr_r (a := c + 1) (b := j9) e17 (by omega)]; rw [zwr_r (a := c + 1) (b := j9) e14 (by omega)]; rw [zwr_r (a := c + 1) (b := j9) e11 (by omega)]; rw [zwr_r (a := c + 1) (b := j9) e8 (by omega)]; rw [zwr_if e5 j9]), (by rw [zwr_r (a := c + 2) (b := j9) e17 (by omega)]; rw [zwr_r (a := c + 2) (b := j9) e14 (by omega)]; rw [zwr_r (a := c + 2) (b := j9) e11 (by omega)]; rw [zwr_if e8 j9]; rw [zwr_r (a := c + 2) (b := j9) e5 (by omega)]), (by rw [zwr_r (a := c + 3) (b := j9) e17 (by omega)]; rw [zwr_r (a := c + 3) (b := j9) e14 (by omega)]; rw [zwr_if e11 j9]; rw [zwr_r (a := c + 3) (b := j9) e8 (by omega)]; rw [zwr_r (a := c + 3) (b := j9) e5 (by omega)]), (by rw [zwr_r (a := c + 4) (b := j9) e17 (by omega)]; rw [zwr_if e14 j9]; rw [zwr_r (a := c + 4) (b := j9) e11 (by omega)]; rw [zwr_r (a := c + 4) (b := j9) e8 (by omega)]; rw [zwr_r (a := c + 4) (b := j9) e5 (by omega)])⟩⟩⟩⟩
  · exact zj_vret rfl (zdk ttX0_write 4 rfl rfl) (Nat.le_refl _) (Nat.le_refl _) ⟨rfl, s0, (zfC_r _ _), ⟨fun _ a9 b9 _ _ => rfl, fun z9 => absurd z9 (by omega)⟩⟩

abbrev q2_X9_goAboard (h : zM) (c : Int) (p1 : Int) : Option zV → zM → Prop := zqv fun h' => okC h' ∧ zfC (w_X9_goAboard c) h h' ∧ (∀ E th x, xC h c E th x → (0 ≤ p1 ∧ p1 < E.n) → xC h' c E th (fGo E th p1 x))
set_option maxRecDepth 100000 in
set_option maxHeartbeats 4000000 in
theorem s2_X9_goAboard (l : Launch) (h : zM) (c : Int) (p1 : Int) (s0 : okC h) (hc : zWd c) (b_p1 : 0 ≤ p1 ∧ p1 ≤ 17) : zT shC l yX9_goAboard cX9_goAboard 3 none (rmL 5) 0 0 [.inr c, .inl p1] h (q2_X9_goAboard h c p1) := by
  refine zT_of (by decide +kernel) (L0 := [some (.inr c), some (.inl p1), none]) rfl (Nat.le_of_ble_eq_true rfl) ?_
  have b1 := zWd_b hc
  refine zj_aload_n (zdk ttX9_goAboard 0 rfl rfl) rfl (by omega) ?_
  refine zj_getr (r := (c + 1)) (zdk ttX9_goAboard 1 rfl rfl) zf_RX9_12 rfl (k_9_0 s0 hc) (rf_9_0_0 s0 hc) ?_
  refine zj_dup (zdk ttX9_goAboard 2 rfl rfl) ?_
  have b2 : -2147483648 ≤ (h.2 (c + 1) 4) ∧ (h.2 (c + 1) 4) ≤ 2147483647 := fb_9_1_4 s0 hc
  refine zj_geti (v := (h.2 (c + 1) 4)) (zdk ttX9_goAboard 3 rfl rfl) zf_RX9_153 rfl (k_9_1 s0 hc) rfl ?_
  refine zj_iconst (zdk ttX9_goAboard 4 rfl rfl) ?_
  refine zj_iload_n (zdk ttX9_goAboard 5 rfl rfl) rfl ?_
  refine zj_ishl (zdk ttX9_goAboard 6 rfl rfl) ?_
  have b3 := zshl_1 (n := p1) (a := 0) (b := 17) (lo := 1) (hi := 131072) (by omega) (by decide) (by decide) (by decide)
  refine zj_iconst (zdk ttX9_goAboard 7 rfl rfl) ?_
  refine zj_ixor (zdk ttX9_goAboard 8 rfl rfl) ?_
  have b4 := zxor_in (zshl 1 p1) (-1)
  refine zj_iand (zdk ttX9_goAboard 9 rfl rfl) ?_
  have b5 := zand_in (h.2 (c + 1) 4) (zxor (zshl 1 p1) (-1))
  refine zj_puti (zdk ttX9_goAboard 10 rfl rfl) zf_RX9_153 rfl (k_9_1 s0 hc) (Or.inl zw_RX9_153) (k2 := 4) rfl (fun h6 e7 => ?_)
  refine zj_aload_n (zdk ttX9_goAboard 11 rfl rfl) rfl (by omega) ?_
  have s8 : okC h6 := fw_9_1_4 s0 hc e7 (by omega)
  refine zj_getr (r := (c + 1)) (zdk ttX9_goAboard 12 rfl rfl) zf_RX9_12 rfl (k_9_0 s8 hc) (rf_9_0_0 s8 hc) ?_
  refine zj_getr (r := (c + 4)) (zdk ttX9_goAboard 13 rfl rfl) zf_RX9_156 rfl (k_9_1 s8 hc) (rf_9_1_2 s8 hc) ?_
  refine zj_iload_n (zdk ttX9_goAboard 14 rfl rfl) rfl ?_
  refine zj_dup2 (zdk ttX9_goAboard 15 rfl rfl) ?_
  have b9 : -2147483648 ≤ (h.2 (c + 4) p1) ∧ (h.2 (c + 4) p1) ≤ 2147483647 := ab_9_1_2 s0 hc p1
  refine zj_iald (v := (h.2 (c + 4) p1)) (zdk ttX9_goAboard 16 rfl rfl) (ka_9_1_2 s8 hc) (by decide) (by omega) (zwr_r e7 (by first | decide | exact (absurd ·.1 (by decide)) | exact (absurd ·.2 (by decide)) | omega)) ?_
  refine zj_iconst (zdk ttX9_goAboard 17 rfl rfl) ?_
  refine zj_iadd (zdk ttX9_goAboard 18 rfl rfl) ?_
  refine zj_wrap ?_
  have b10 := zwp_in ((h.2 (c + 4) p1) + 1)
  refine zj_iast (zdk ttX9_goAboard 19 rfl rfl) (ka_9_1_2 s8 hc) (by decide) (by omega) (fun h11 e12 => ?_)
  refine zj_aload_n (zdk ttX9_goAboard 20 rfl rfl) rfl (by omega) ?_
  refine zj_iconst (zdk ttX9_goAboard 21 rfl rfl) ?_
  refine zj_iload_n (zdk ttX9_goAboard 22 rfl rfl) rfl ?_
  have s13 : okC h11 := aw_9_1_2 s8 hc e12 (by omega)
  refine zj_callV (av := [.inl 1, .inl p1]) (st := []) (zdk ttX9_goAboard 23 rfl rfl) mb_X9_tells mv_RX9_145 (ci := 9) rfl rfl (k_9_0 s13 hc) rfl rfl (Nat.le_of_ble_eq_true rfl) (s2_X9_tells l h11 c 1 p1 s13 hc (by omega) (by omega)) (rm_ok (by decide) (by decide)) (zq_i fun v15 h16 q14 => ?_)
  obtain ⟨b17, s18, f20, u19⟩ := q14
  refine zj_istore_n (L' := [some (.inr c), some (.inl p1), some (.inl v15)]) (zdk ttX9_goAboard 24 rfl rfl) (by decide) rfl ?_
  refine zj_aload_n (zdk ttX9_goAboard 25 rfl rfl) rfl (by omega) ?_
  refine zj_getr (r := (c + 1)) (zdk ttX9_goAboard 26 rfl rfl) zf_RX9_12 rfl (k_9_0 s18 hc) (rf_9_0_0 s18 hc) ?_
  refine zj_dup (zdk ttX9_goAboard 27 rfl rfl) ?_
  have b21 : -2147483648 ≤ (h.2 (c + 1) 7) ∧ (h.2 (c + 1) 7) ≤ 2147483647 := fb_9_1_7 s0 hc
  refine zj_geti (v := (h.2 (c + 1) 7)) (zdk ttX9_goAboard 28 rfl rfl) zf_RX9_159 rfl (k_9_1 s18 hc) (((zfC_a f20 (fun z9 => by unfold w_X9_tells at z9; first | (revert z9; decide) | omega)).trans (zwr_r e12 (by first | decide | exact (absurd ·.1 (by decide)) | exact (absurd ·.2 (by decide)) | omega))).trans (zwr_r e7 (by first | decide | exact (absurd ·.1 (by decide)) | exact (absurd ·.2 (by decide)) | omega))) ?_
  refine zj_iload_n (zdk ttX9_goAboard 29 rfl rfl) rfl ?_
  refine zj_iadd (zdk ttX9_goAboard 30 rfl rfl) ?_
  refine zj_wrap ?_
  have b22 := zwp_in ((h.2 (c + 1) 7) + v15)
  refine zj_puti (zdk ttX9_goAboard 31 rfl rfl) zf_RX9_159 rfl (k_9_1 s18 hc) (Or.inl zw_RX9_159) (k2 := 7) rfl (fun h23 e24 => ?_)
  refine zj_aload_n (zdk ttX9_goAboard 32 rfl rfl) rfl (by omega) ?_
  have s25 : okC h23 := fw_9_1_7 s18 hc e24 (by omega)
  refine zj_getr (r := (c + 22)) (zdk ttX9_goAboard 33 rfl rfl) zf_RX9_45 rfl (k_9_0 s25 hc) (rf_9_0_5 s25 hc) ?_
  refine zj_aload_n (zdk ttX9_goAboard 34 rfl rfl) rfl (by omega) ?_
  refine zj_getr (r := (c + 1)) (zdk ttX9_goAboard 35 rfl rfl) zf_RX9_12 rfl (k_9_0 s25 hc) (rf_9_0_0 s25 hc) ?_
  have b26 : -2147483648 ≤ (h.2 (c + 1) 12) ∧ (h.2 (c + 1) 12) ≤ 2147483647 := fb_9_1_12 s0 hc
  refine zj_geti (v := (h.2 (c + 1) 12)) (zdk ttX9_goAboard 36 rfl rfl) zf_RX9_83 rfl (k_9_1 s25 hc) ((((zwr_r e24 (by first | decide | exact (absurd ·.1 (by decide)) | exact (absurd ·.2 (by decide)) | omega)).trans (zfC_a f20 (fun z9 => by unfold w_X9_tells at z9; first | (revert z9; decide) | omega))).trans (zwr_r e12 (by first | decide | exact (absurd ·.1 (by decide)) | exact (absurd ·.2 (by decide)) | omega))).trans (zwr_r e7 (by first | decide | exact (absurd ·.1 (by decide)) | exact (absurd ·.2 (by decide)) | omega))) ?_
  refine zj_iconst (zdk ttX9_goAboard 37 rfl rfl) ?_
  refine zj_iload_n (zdk ttX9_goAboard 38 rfl rfl) rfl ?_
  refine zj_iload_n (zdk ttX9_goAboard 39 rfl rfl) rfl ?_
  refine zj_callV (av := [.inl (h.2 (c + 1) 12), .inl 0, .inl p1, .inl v15]) (st := []) (zdk ttX9_goAboard 40 rfl rfl) mb_X0_write mv_RX9_162 (ci := 0) rfl rfl (k_9_22 s25 hc) rfl rfl (Nat.le_of_ble_eq_true rfl) (s2_X0_write l h23 (c + 22) (h.2 (c + 1) 12) 0 p1 v15 s25 (zs_9_22 hc) (by omega) (by omega) (by omega) (by omega)) (rm_ok (by decide) (by decide)) (zq_v fun h29 q27 => ?_)
  obtain ⟨s31, f33, u32⟩ := q27
  have f38 : zfC (w_X9_goAboard c) h h6 := zfC_w (zfC_r _ _) e7 (Or.inl (by omega))
  have f37 : zfC (w_X9_goAboard c) h h11 := zfC_w f38 e12 (Or.inr (Or.inr (Or.inl (by omega))))
  have f36 : zfC (w_X9_goAboard c) h h16 := zfC_t f37 f20 (fun a9 b9 z9 => by
    exact (Or.inr (Or.inr (Or.inr (Or.inl (by omega))))))
  have f35 : zfC (w_X9_goAboard c) h h23 := zfC_w f36 e24 (Or.inr (Or.inl (by omega)))
  have f34 : zfC (w_X9_goAboard c) h h29 := zfC_t f35 f33 (fun a9 b9 z9 => by
    rcases z9 with z9 | z9
    · exact (Or.inr (Or.inr (Or.inr (Or.inr (Or.inl (by omega))))))
    · exact (Or.inr (Or.inr (Or.inr (Or.inr (Or.inr (by omega)))))))
  have b39 : h29.2 (c + 1) 12 = (h.2 (c + 1) 12) := (((((zfC_a f33 (fun z9 => by unfold w_X0_write at z9; first | (revert z9; decide) | omega)).trans (zwr_r e24 (by first | decide | exact (absurd ·.1 (by decide)) | exact (absurd ·.2 (by decide)) | omega))).trans (zfC_a f20 (fun z9 => by unfold w_X9_tells at z9; first | (revert z9; decide) | omega))).trans (zwr_r e12 (by first | decide | exact (absurd ·.1 (by decide)) | exact (absurd ·.2 (by decide)) | omega))).trans (zwr_r e7 (by first | decide | exact (absurd ·.1 (by decide)) | exact (absurd ·.2 (by decide)) | omega)))
  have b40 : h23.2 (c + 1) 12 = (h.2 (c + 1) 12) := ((((zwr_r e24 (by first | decide | exact (absurd ·.1 (by decide)) | exact (absurd ·.2 (by decide)) | omega)).trans (zfC_a f20 (fun z9 => by unfold w_X9_tells at z9; first | (revert z9; decide) | omega))).trans (zwr_r e12 (by first | decide | exact (absurd ·.1 (by decide)) | exact (absurd ·.2 (by decide)) | omega))).trans (zwr_r e7 (by first | decide | exact (absurd ·.1 (by decide)) | exact (absurd ·.2 (by decide)) | omega)))
  exact zj_vret rfl (zdk ttX9_goAboard 41 rfl rfl) (Nat.le_refl _) (Nat.le_refl _) ⟨rfl, s31, f34, (by intro E th x t0 i0; have n0 := xC_n t0; have g0 := xC_g t0; have i1 := xC_i t0 i0.1 (by omega); have t1 := xC_c4 (o := p1) t0 e7 rfl (by omega); have t2 : xC h11 c E th (fG1 x.1 p1, x.2) := (by have z9 := xC_le t1 e12 (by omega); rw [show (zwp ((h.2 (c + 4) p1) + 1)) = zwp (x.1 (45 + p1) + 1) by rw [i1.2.2]] at z9; exact z9); have e3 : v15 = fTl E (fG1 x.1 p1) 1 p1 := u19 E th (fG1 x.1 p1, x.2) t2 i0 (by omega); have t3 := (xC_f t2 (fun a9 b9 y9 => by unfold zD at y9; exact (zfC_a f20 (fun z9 => by unfold w_X9_tells at z9; first | (revert z9; decide) | omega)))); have t4 : xC h23 c E th (fup (fG1 x.1 p1) 4 (zwp (x.1 4 + fTl E (fG1 x.1 p1) 1 p1)), x.2) := (by have z9 := xC_w (k := 4) t3 e24 (Or.inr (Or.inl ⟨rfl, rfl⟩)); rw [show (zwp ((h.2 (c + 1) 7) + v15)) = zwp (x.1 4 + fTl E (fG1 x.1 p1) 1 p1) by rw [e3, g0.2.2.1]] at z9; exact z9); have d4 := (xC_g t4).2.2.2.2.2.2.2.1; have t5 := (xC_nt t4 (fun a9 b9 y9 z9 => zfC_a f33 (fun q9 => by unfold w_X0_write at q9; first | (revert q9; decide) | omega)) (by have z8 := u32; exact z8) (by omega)); rw [e3] at t5; exact t5)⟩

abbrev q2_X9_comeBack (h : zM) (c : Int) (p1 : Int) : Option zV → zM → Prop := zqv fun h' => okC h' ∧ zfC (w_X9_comeBack c) h h' ∧ (∀ E th x, xC h c E th x → (0 ≤ p1 ∧ p1 < E.n) → xC h' c E th (fBk E th p1 x))
set_option maxRecDepth 100000 in
set_option maxHeartbeats 4000000 in
theorem s2_X9_comeBack (l : Launch) (h : zM) (c : Int) (p1 : Int) (s0 : okC h) (hc : zWd c) (b_p1 : 0 ≤ p1 ∧ p1 ≤ 17) : zT shC l yX9_comeBack cX9_comeBack 3 none (rmL 5) 0 0 [.inr c, .inl p1] h (q2_X9_comeBack h c p1) := by
  refine zT_of (by decide +kernel) (L0 := [some (.inr c), some (.inl p1), none]) rfl (Nat.le_of_ble_eq_true rfl) ?_
  have b1 := zWd_b hc
  refine zj_aload_n (zdk ttX9_comeBack 0 rfl rfl) rfl (by omega) ?_
  refine zj_getr (r := (c + 1)) (zdk ttX9_comeBack 1 rfl rfl) zf_RX9_12 rfl (k_9_0 s0 hc) (rf_9_0_0 s0 hc) ?_
  refine zj_dup (zdk ttX9_comeBack 2 rfl rfl) ?_
  have b2 : -2147483648 ≤ (h.2 (c + 1) 4) ∧ (h.2 (c + 1) 4) ≤ 2147483647 := fb_9_1_4 s0 hc
  refine zj_geti (v := (h.2 (c + 1) 4)) (zdk ttX9_comeBack 3 rfl rfl) zf_RX9_153 rfl (k_9_1 s0 hc) rfl ?_
  refine zj_iconst (zdk ttX9_comeBack 4 rfl rfl) ?_
  refine zj_iload_n (zdk ttX9_comeBack 5 rfl rfl) rfl ?_
  refine zj_ishl (zdk ttX9_comeBack 6 rfl rfl) ?_
  have b3 := zshl_1 (n := p1) (a := 0) (b := 17) (lo := 1) (hi := 131072) (by omega) (by decide) (by decide) (by decide)
  refine zj_ior (zdk ttX9_comeBack 7 rfl rfl) ?_
  have b4 := zor_in (h.2 (c + 1) 4) (zshl 1 p1)
  refine zj_puti (zdk ttX9_comeBack 8 rfl rfl) zf_RX9_153 rfl (k_9_1 s0 hc) (Or.inl zw_RX9_153) (k2 := 4) rfl (fun h5 e6 => ?_)
  refine zj_aload_n (zdk ttX9_comeBack 9 rfl rfl) rfl (by omega) ?_
  refine zj_iconst (zdk ttX9_comeBack 10 rfl rfl) ?_
  refine zj_iload_n (zdk ttX9_comeBack 11 rfl rfl) rfl ?_
  have s7 : okC h5 := fw_9_1_4 s0 hc e6 (by omega)
  refine zj_callV (av := [.inl 1, .inl p1]) (st := []) (zdk ttX9_comeBack 12 rfl rfl) mb_X9_tells mv_RX9_145 (ci := 9) rfl rfl (k_9_0 s7 hc) rfl rfl (Nat.le_of_ble_eq_true rfl) (s2_X9_tells l h5 c 1 p1 s7 hc (by omega) (by omega)) (rm_ok (by decide) (by decide)) (zq_i fun v9 h10 q8 => ?_)
  obtain ⟨b11, s12, f14, u13⟩ := q8
  refine zj_istore_n (L' := [some (.inr c), some (.inl p1), some (.inl v9)]) (zdk ttX9_comeBack 13 rfl rfl) (by decide) rfl ?_
  refine zj_aload_n (zdk ttX9_comeBack 14 rfl rfl) rfl (by omega) ?_
  refine zj_getr (r := (c + 1)) (zdk ttX9_comeBack 15 rfl rfl) zf_RX9_12 rfl (k_9_0 s12 hc) (rf_9_0_0 s12 hc) ?_
  refine zj_dup (zdk ttX9_comeBack 16 rfl rfl) ?_
  have b15 : -2147483648 ≤ (h.2 (c + 1) 7) ∧ (h.2 (c + 1) 7) ≤ 2147483647 := fb_9_1_7 s0 hc
  refine zj_geti (v := (h.2 (c + 1) 7)) (zdk ttX9_comeBack 17 rfl rfl) zf_RX9_159 rfl (k_9_1 s12 hc) ((zfC_a f14 (fun z9 => by unfold w_X9_tells at z9; first | (revert z9; decide) | omega)).trans (zwr_r e6 (by first | decide | exact (absurd ·.1 (by decide)) | exact (absurd ·.2 (by decide)) | omega))) ?_
  refine zj_iload_n (zdk ttX9_comeBack 18 rfl rfl) rfl ?_
  refine zj_isub (zdk ttX9_comeBack 19 rfl rfl) ?_
  refine zj_wrap ?_
  have b16 := zwp_in ((h.2 (c + 1) 7) - v9)
  refine zj_puti (zdk ttX9_comeBack 20 rfl rfl) zf_RX9_159 rfl (k_9_1 s12 hc) (Or.inl zw_RX9_159) (k2 := 7) rfl (fun h17 e18 => ?_)
  refine zj_aload_n (zdk ttX9_comeBack 21 rfl rfl) rfl (by omega) ?_
  have s19 : okC h17 := fw_9_1_7 s12 hc e18 (by omega)
  refine zj_getr (r := (c + 22)) (zdk ttX9_comeBack 22 rfl rfl) zf_RX9_45 rfl (k_9_0 s19 hc) (rf_9_0_5 s19 hc) ?_
  refine zj_aload_n (zdk ttX9_comeBack 23 rfl rfl) rfl (by omega) ?_
  refine zj_getr (r := (c + 1)) (zdk ttX9_comeBack 24 rfl rfl) zf_RX9_12 rfl (k_9_0 s19 hc) (rf_9_0_0 s19 hc) ?_
  have b20 : -2147483648 ≤ (h.2 (c + 1) 12) ∧ (h.2 (c + 1) 12) ≤ 2147483647 := fb_9_1_12 s0 hc
  refine zj_geti (v := (h.2 (c + 1) 12)) (zdk ttX9_comeBack 25 rfl rfl) zf_RX9_83 rfl (k_9_1 s19 hc) (((zwr_r e18 (by first | decide | exact (absurd ·.1 (by decide)) | exact (absurd ·.2 (by decide)) | omega)).trans (zfC_a f14 (fun z9 => by unfold w_X9_tells at z9; first | (revert z9; decide) | omega))).trans (zwr_r e6 (by first | decide | exact (absurd ·.1 (by decide)) | exact (absurd ·.2 (by decide)) | omega))) ?_
  refine zj_iconst (zdk ttX9_comeBack 26 rfl rfl) ?_
  refine zj_iload_n (zdk ttX9_comeBack 27 rfl rfl) rfl ?_
  refine zj_iload_n (zdk ttX9_comeBack 28 rfl rfl) rfl ?_
  refine zj_callV (av := [.inl (h.2 (c + 1) 12), .inl 1, .inl p1, .inl v9]) (st := []) (zdk ttX9_comeBack 29 rfl rfl) mb_X0_write mv_RX9_162 (ci := 0) rfl rfl (k_9_22 s19 hc) rfl rfl (Nat.le_of_ble_eq_true rfl) (s2_X0_write l h17 (c + 22) (h.2 (c + 1) 12) 1 p1 v9 s19 (zs_9_22 hc) (by omega) (by omega) (by omega) (by omega)) (rm_ok (by decide) (by decide)) (zq_v fun h23 q21 => ?_)
  obtain ⟨s25, f27, u26⟩ := q21
  have f31 : zfC (w_X9_comeBack c) h h5 := zfC_w (zfC_r _ _) e6 (Or.inl (by omega))
  have f30 : zfC (w_X9_comeBack c) h h10 := zfC_t f31 f14 (fun a9 b9 z9 => by
    exact (Or.inr (Or.inr (Or.inl (by omega)))))
  have f29 : zfC (w_X9_comeBack c) h h17 := zfC_w f30 e18 (Or.inr (Or.inl (by omega)))
  have f28 : zfC (w_X9_comeBack c) h h23 := zfC_t f29 f27 (fun a9 b9 z9 => by
    rcases z9 with z9 | z9
    · exact (Or.inr (Or.inr (Or.inr (Or.inl (by omega)))))
    · exact (Or.inr (Or.inr (Or.inr (Or.inr (by omega))))))
  have b32 : h17.2 (c + 1) 12 = (h.2 (c + 1) 12) := (((zwr_r e18 (by first | decide | exact (absurd ·.1 (by decide)) | exact (absurd ·.2 (by decide)) | omega)).trans (zfC_a f14 (fun z9 => by unfold w_X9_tells at z9; first | (revert z9; decide) | omega))).trans (zwr_r e6 (by first | decide | exact (absurd ·.1 (by decide)) | exact (absurd ·.2 (by decide)) | omega)))
  exact zj_vret rfl (zdk ttX9_comeBack 30 rfl rfl) (Nat.le_refl _) (Nat.le_refl _) ⟨rfl, s25, f28, (by intro E th x t0 i0; have n0 := xC_n t0; have g0 := xC_g t0; have t2 := xC_s4 (o := p1) t0 e6 rfl (by omega); have e3 : v9 = fTl E (fup x.1 (9 + p1) 0) 1 p1 := u13 E th ((fup x.1 (9 + p1) 0), x.2) t2 i0 (by omega); have t3 := (xC_f t2 (fun a9 b9 y9 => by unfold zD at y9; exact (zfC_a f14 (fun z9 => by unfold w_X9_tells at z9; first | (revert z9; decide) | omega)))); have t4 : xC h17 c E th (fup (fup x.1 (9 + p1) 0) 4 (zwp (x.1 4 - fTl E (fup x.1 (9 + p1) 0) 1 p1)), x.2) := (by have z9 := xC_w (k := 4) t3 e18 (Or.inr (Or.inl ⟨rfl, rfl⟩)); rw [show (zwp ((h.2 (c + 1) 7) - v9)) = zwp (x.1 4 - fTl E (fup x.1 (9 + p1) 0) 1 p1) by rw [e3, g0.2.2.1]] at z9; exact z9); have d4 := (xC_g t4).2.2.2.2.2.2.2.1; have t5 := (xC_nt t4 (fun a9 b9 y9 z9 => zfC_a f27 (fun q9 => by unfold w_X0_write at q9; first | (revert q9; decide) | omega)) (by have z8 := u26; exact z8) (by omega)); rw [e3] at t5; exact t5)⟩

abbrev q2_X1_drawOfThousand (h : zM) (c : Int) : Option zV → zM → Prop := zqi fun v h' => (0 ≤ v ∧ v ≤ 999) ∧ okC h' ∧ zfC (w_X1_drawOfThousand c) h h' ∧ (∀ w E th x, c = w + 1 → xC h w E th x → xC h' w E th (fup x.1 1 (fDr (x.1 1)), x.2) ∧ v = zushr (fDr (x.1 1)) 8 % 1000)
set_option maxRecDepth 100000 in
set_option maxHeartbeats 4000000 in
theorem s2_X1_drawOfThousand (l : Launch) (h : zM) (c : Int) (s0 : okC h) (hc : zIs c) : zT shC l yX1_drawOfThousand cX1_drawOfThousand 1 (some .int) (rmL 1) 0 0 [.inr c] h (q2_X1_drawOfThousand h c) := by
  refine zT_of (by decide +kernel) (L0 := [some (.inr c)]) rfl (Nat.le_of_ble_eq_true rfl) ?_
  have b1 := zIs_b hc
  refine zj_aload_n (zdk ttX1_drawOfThousand 0 rfl rfl) rfl (by omega) ?_
  refine zj_ldc (z := 1664525) (zdk ttX1_drawOfThousand 1 rfl rfl) wc_RX1_61 ?_
  refine zj_aload_n (zdk ttX1_drawOfThousand 2 rfl rfl) rfl (by omega) ?_
  have b2 : -2147483648 ≤ (h.2 c 13) ∧ (h.2 c 13) ≤ 2147483647 := fb_1_0_13 s0 hc
  refine zj_geti (v := (h.2 c 13)) (zdk ttX1_drawOfThousand 3 rfl rfl) zf_RX1_52 rfl (k_1_0 s0 hc) rfl ?_
  refine zj_imul (zdk ttX1_drawOfThousand 4 rfl rfl) ?_
  refine zj_wrap ?_
  have b3 := zwp_in (1664525 * (h.2 c 13))
  refine zj_ldc (z := 1013904223) (zdk ttX1_drawOfThousand 5 rfl rfl) wc_RX1_62 ?_
  refine zj_iadd (zdk ttX1_drawOfThousand 6 rfl rfl) ?_
  refine zj_wrap ?_
  have b4 := zwp_in ((zwp (1664525 * (h.2 c 13))) + 1013904223)
  refine zj_puti (zdk ttX1_drawOfThousand 7 rfl rfl) zf_RX1_52 rfl (k_1_0 s0 hc) (Or.inl zw_RX1_52) (k2 := 13) rfl (fun h5 e6 => ?_)
  refine zj_aload_n (zdk ttX1_drawOfThousand 8 rfl rfl) rfl (by omega) ?_
  have s7 : okC h5 := fw_1_0_13 s0 hc e6 (by omega)
  refine zj_geti (v := (zwp ((zwp (1664525 * (h.2 c 13))) + 1013904223))) (zdk ttX1_drawOfThousand 9 rfl rfl) zf_RX1_52 rfl (k_1_0 s7 hc) (zwr_v e6) ?_
  refine zj_bipush (zdk ttX1_drawOfThousand 10 rfl rfl) (by decide) ?_
  refine zj_iushr (zdk ttX1_drawOfThousand 11 rfl rfl) ?_
  have b8 := zushr_c (a := (zwp ((zwp (1664525 * (h.2 c 13))) + 1013904223))) (c := 8) (K := 16777216) 8 (by decide) (by decide) (by decide)
  refine zj_sipush (zdk ttX1_drawOfThousand 12 rfl rfl) (by decide) ?_
  refine zj_iremP (zdk ttX1_drawOfThousand 13 rfl rfl) (by omega) (by omega) ?_
  have f9 : zfC (w_X1_drawOfThousand c) h h5 := zfC_w (zfC_r _ _) e6 (by omega)
  exact zj_iret rfl (zdk ttX1_drawOfThousand 14 rfl rfl) (Nat.le_refl _) (Nat.le_refl _) ⟨((zushr (zwp ((zwp (1664525 * (h.2 c 13))) + 1013904223)) 8) % 1000), rfl, by omega, s7, f9, (by intro w E th x ec t0; subst ec; have g0 := xC_g t0; have dv : (zwp ((zwp (1664525 * (h.2 (w + 1) 13))) + 1013904223)) = fDr (x.1 1) := (by unfold fDr; rw [g0.2.2.2.2.2.2.2.2]); have t1 := xC_w (k := 1) t0 e6 (Or.inr (Or.inr (Or.inr (Or.inr (Or.inr (Or.inr ⟨rfl, rfl⟩)))))); rw [dv] at t1; exact ⟨t1, by rw [dv]⟩)⟩

abbrev q2_X9_isWilling (h : zM) (c : Int) (p1 : Int) (p2 : Int) (p3 : Int) : Option zV → zM → Prop := zqi fun v h' => (0 ≤ v ∧ v ≤ 1) ∧ okC h' ∧ zfC (w_X9_isWilling c) h h' ∧ (∀ E x, xC h c E (fth p3) x → (0 ≤ p2 ∧ p2 < E.n) → (0 ≤ p1 ∧ p1 ≤ 2) → xC h' c E (fth p3) (fHx (fth p3) (fTl E x.1 p1 p2) x) ∧ (v = 1 ↔ fHp (fth p3) (fTl E x.1 p1 p2) x = true))
set_option maxRecDepth 100000 in
set_option maxHeartbeats 4000000 in
theorem s2_X9_isWilling (l : Launch) (h : zM) (c : Int) (p1 : Int) (p2 : Int) (p3 : Int) (s0 : okC h) (hc : zWd c) (b_p1 : (-2147483648) ≤ p1 ∧ p1 ≤ 2147483647) (b_p2 : 0 ≤ p2 ∧ p2 ≤ 17) (b_p3 : 0 ≤ p3 ∧ p3 ≤ 1) : zT shC l yX9_isWilling cX9_isWilling 5 (some .boolean) (rmL 5) 0 0 [.inr c, .inl p1, .inl p2, .inl p3] h (q2_X9_isWilling h c p1 p2 p3) := by
  refine zT_of (by decide +kernel) (L0 := [some (.inr c), some (.inl p1), some (.inl p2), some (.inl p3), none]) rfl (Nat.le_of_ble_eq_true rfl) ?_
  have b1 := zWd_b hc
  refine zj_aload_n (zdk ttX9_isWilling 0 rfl rfl) rfl (by omega) ?_
  refine zj_iload_n (zdk ttX9_isWilling 1 rfl rfl) rfl ?_
  refine zj_iload_n (zdk ttX9_isWilling 2 rfl rfl) rfl ?_
  refine zj_callV (av := [.inl p1, .inl p2]) (st := []) (zdk ttX9_isWilling 3 rfl rfl) mb_X9_tells mv_RX9_145 (ci := 9) rfl rfl (k_9_0 s0 hc) rfl rfl (Nat.le_of_ble_eq_true rfl) (s2_X9_tells l h c p1 p2 s0 hc (by omega) (by omega)) (rm_ok (by decide) (by decide)) (zq_i fun v3 h4 q2 => ?_)
  obtain ⟨b5, s6, f8, u7⟩ := q2
  refine zj_istore (L' := [some (.inr c), some (.inl p1), some (.inl p2), some (.inl p3), some (.inl v3)]) (zdk ttX9_isWilling 4 rfl rfl) (by decide) rfl ?_
  refine zj_iload_n (zdk ttX9_isWilling 5 rfl rfl) rfl ?_
  refine zj_if_eq (t := 26) (zdk ttX9_isWilling 6 rfl rfl) (by decide) (by omega) (fun c9 => ?_) (fun c9 => ?_)
  · refine zj_iload (zdk ttX9_isWilling 14 rfl rfl) rfl ?_
    refine zj_if_le (t := 47) (zdk ttX9_isWilling 15 rfl rfl) (by decide) (by omega) (fun c10 => ?_) (fun c10 => ?_)
    · refine zj_iconst (zdk ttX9_isWilling 23 rfl rfl) ?_
      have f11 : zfC (w_X9_isWilling c) h h4 := zfC_t (zfC_r _ _) f8 (fun a9 b9 z9 => by
        exact (Or.inr (by omega)))
      exact zj_zret rfl (zdk ttX9_isWilling 24 rfl rfl) (Nat.le_refl _) (Nat.le_refl _) (by omega) ⟨0, rfl, by omega, s6, f11, (by intro E x t0 i0 w0; have e1 : v3 = fTl E x.1 p1 p2 := u7 E (fth p3) x t0 i0 w0; have t1 := (xC_f t0 (fun a9 b9 y9 => by unfold zD at y9; exact (zfC_a f8 (fun z9 => by unfold w_X9_tells at z9; first | (revert z9; decide) | omega)))); rw [← e1]; have th1 := fth_f (p := p3) (by omega); rw [th1]; rw [th1] at t1; refine ⟨by unfold fHx; rw [if_pos (Or.inr (by omega))]; exact t1, ?_⟩; unfold fHp; rw [if_neg (by decide), decide_eq_true_iff]; omega)⟩
    · refine zj_aload_n (zdk ttX9_isWilling 16 rfl rfl) rfl (by omega) ?_
      refine zj_getr (r := (c + 1)) (zdk ttX9_isWilling 17 rfl rfl) zf_RX9_12 rfl (k_9_0 s6 hc) (rf_9_0_0 s6 hc) ?_
      refine zj_callV (av := []) (st := []) (zdk ttX9_isWilling 18 rfl rfl) mb_X1_drawOfThousand mv_RX9_149 (ci := 1) rfl rfl (k_9_1 s6 hc) rfl rfl (Nat.le_of_ble_eq_true rfl) (s2_X1_drawOfThousand l h4 (c + 1) s6 (zs_9_1 hc)) (rm_ok (by decide) (by decide)) (zq_i fun v13 h14 q12 => ?_)
      obtain ⟨b15, s16, f18, u17⟩ := q12
      refine zj_iload (zdk ttX9_isWilling 19 rfl rfl) rfl ?_
      refine zj_icmp_ge (t := 47) (zdk ttX9_isWilling 20 rfl rfl) (by decide) (by omega) (by omega) (fun c19 => ?_) (fun c19 => ?_)
      · refine zj_iconst (zdk ttX9_isWilling 23 rfl rfl) ?_
        have f21 : zfC (w_X9_isWilling c) h h4 := zfC_t (zfC_r _ _) f8 (fun a9 b9 z9 => by
          exact (Or.inr (by omega)))
        have f20 : zfC (w_X9_isWilling c) h h14 := zfC_t f21 f18 (fun a9 b9 z9 => by
          exact (Or.inl (by omega)))
        exact zj_zret rfl (zdk ttX9_isWilling 24 rfl rfl) (Nat.le_refl _) (Nat.le_refl _) (by omega) ⟨0, rfl, by omega, s16, f20, (by intro E x t0 i0 w0; have e1 : v3 = fTl E x.1 p1 p2 := u7 E (fth p3) x t0 i0 w0; have t1 := (xC_f t0 (fun a9 b9 y9 => by unfold zD at y9; exact (zfC_a f8 (fun z9 => by unfold w_X9_tells at z9; first | (revert z9; decide) | omega)))); rw [← e1]; have th1 := fth_f (p := p3) (by omega); rw [th1]; rw [th1] at t1; obtain ⟨t2, d2⟩ := u17 c E false x rfl t1; refine ⟨by unfold fHx; rw [if_neg (by rintro (z9 | z9); exact absurd z9 (by decide); exact z9 (by omega))]; exact t2, ?_⟩; unfold fHp; rw [if_neg (by decide), decide_eq_true_iff, ← d2]; omega)⟩
      · refine zj_iconst (zdk ttX9_isWilling 21 rfl rfl) ?_
        refine zj_goto (t := 48) (zdk ttX9_isWilling 22 rfl rfl) (by decide) ?_
        have f23 : zfC (w_X9_isWilling c) h h4 := zfC_t (zfC_r _ _) f8 (fun a9 b9 z9 => by
          exact (Or.inr (by omega)))
        have f22 : zfC (w_X9_isWilling c) h h14 := zfC_t f23 f18 (fun a9 b9 z9 => by
          exact (Or.inl (by omega)))
        exact zj_zret rfl (zdk ttX9_isWilling 24 rfl rfl) (Nat.le_refl _) (Nat.le_refl _) (by omega) ⟨1, rfl, by omega, s16, f22, (by intro E x t0 i0 w0; have e1 : v3 = fTl E x.1 p1 p2 := u7 E (fth p3) x t0 i0 w0; have t1 := (xC_f t0 (fun a9 b9 y9 => by unfold zD at y9; exact (zfC_a f8 (fun z9 => by unfold w_X9_tells at z9; first | (revert z9; decide) | omega)))); rw [← e1]; have th1 := fth_f (p := p3) (by omega); rw [th1]; rw [th1] at t1; obtain ⟨t2, d2⟩ := u17 c E false x rfl t1; refine ⟨by unfold fHx; rw [if_neg (by rintro (z9 | z9); exact absurd z9 (by decide); exact z9 (by omega))]; exact t2, ?_⟩; unfold fHp; rw [if_neg (by decide), decide_eq_true_iff, ← d2]; omega)⟩
  · refine zj_iload (zdk ttX9_isWilling 7 rfl rfl) rfl ?_
    refine zj_sipush (zdk ttX9_isWilling 8 rfl rfl) (by decide) ?_
    refine zj_icmp_lt (t := 24) (zdk ttX9_isWilling 9 rfl rfl) (by decide) (by omega) (by decide) (fun c24 => ?_) (fun c24 => ?_)
    · refine zj_iconst (zdk ttX9_isWilling 12 rfl rfl) ?_
      have f25 : zfC (w_X9_isWilling c) h h4 := zfC_t (zfC_r _ _) f8 (fun a9 b9 z9 => by
        exact (Or.inr (by omega)))
      exact zj_zret rfl (zdk ttX9_isWilling 13 rfl rfl) (Nat.le_refl _) (Nat.le_refl _) (by omega) ⟨0, rfl, by omega, s6, f25, (by intro E x t0 i0 w0; have e1 : v3 = fTl E x.1 p1 p2 := u7 E (fth p3) x t0 i0 w0; have t1 := (xC_f t0 (fun a9 b9 y9 => by unfold zD at y9; exact (zfC_a f8 (fun z9 => by unfold w_X9_tells at z9; first | (revert z9; decide) | omega)))); rw [← e1]; have th1 := fth_t (p := p3) (by omega) (by omega); rw [th1]; rw [th1] at t1; refine ⟨by unfold fHx; rw [if_pos (Or.inl rfl)]; exact t1, ?_⟩; unfold fHp; rw [if_pos rfl, decide_eq_true_iff]; omega)⟩
    · refine zj_iconst (zdk ttX9_isWilling 10 rfl rfl) ?_
      refine zj_goto (t := 25) (zdk ttX9_isWilling 11 rfl rfl) (by decide) ?_
      have f26 : zfC (w_X9_isWilling c) h h4 := zfC_t (zfC_r _ _) f8 (fun a9 b9 z9 => by
        exact (Or.inr (by omega)))
      exact zj_zret rfl (zdk ttX9_isWilling 13 rfl rfl) (Nat.le_refl _) (Nat.le_refl _) (by omega) ⟨1, rfl, by omega, s6, f26, (by intro E x t0 i0 w0; have e1 : v3 = fTl E x.1 p1 p2 := u7 E (fth p3) x t0 i0 w0; have t1 := (xC_f t0 (fun a9 b9 y9 => by unfold zD at y9; exact (zfC_a f8 (fun z9 => by unfold w_X9_tells at z9; first | (revert z9; decide) | omega)))); rw [← e1]; have th1 := fth_t (p := p3) (by omega) (by omega); rw [th1]; rw [th1] at t1; refine ⟨by unfold fHx; rw [if_pos (Or.inl rfl)]; exact t1, ?_⟩; unfold fHp; rw [if_pos rfl, decide_eq_true_iff]; omega)⟩

abbrev q2_X9_sailOut (h : zM) (c : Int) (p1 : Int) (p2 : Int) : Option zV → zM → Prop := zqv fun h' => okC h' ∧ zfC (w_X9_sailOut c) h h' ∧ (∀ E x, xC h c E (fth p2) x → xC h' c E (fth p2) (fOu E (fth p2) E.n.toNat 0 p1 x))
set_option maxRecDepth 100000 in
set_option maxHeartbeats 4000000 in
theorem s2_X9_sailOut (l : Launch) (h : zM) (c : Int) (p1 : Int) (p2 : Int) (s0 : okC h) (hc : zWd c) (b_p1 : (-2147483648) ≤ p1 ∧ p1 ≤ 2147483647) (b_p2 : 0 ≤ p2 ∧ p2 ≤ 1) : zT shC l yX9_sailOut cX9_sailOut 6 none (rmL 6) 0 0 [.inr c, .inl p1, .inl p2] h (q2_X9_sailOut h c p1 p2) := by
  refine zT_of (by decide +kernel) (L0 := [some (.inr c), some (.inl p1), some (.inl p2), none, none, none]) rfl (Nat.le_of_ble_eq_true rfl) ?_
  have b1 := zWd_b hc
  refine zj_iload_n (zdk ttX9_sailOut 0 rfl rfl) rfl ?_
  refine zj_istore_n (L' := [some (.inr c), some (.inl p1), some (.inl p2), some (.inl p1), none, none]) (zdk ttX9_sailOut 1 rfl rfl) (by decide) rfl ?_
  refine zj_iconst (zdk ttX9_sailOut 2 rfl rfl) ?_
  refine zj_istore (L' := [some (.inr c), some (.inl p1), some (.inl p2), some (.inl p1), some (.inl 0), none]) (zdk ttX9_sailOut 3 rfl rfl) (by decide) rfl ?_
  have lp1201 : ∀ (n : Nat) (x2 x3 : Int) (h4 : zM), (-2147483648 ≤ x2 ∧ x2 ≤ 2147483647) → (0 ≤ x3 ∧ x3 ≤ 18) → okC h4 → zfC (w_X9_sailOut c) h h4 → (∀ E x, xC h c E (fth p2) x → ∃ y, xC h4 c E (fth p2) y ∧ fOu E (fth p2) (E.n - x3).toNat x3 x2 y = fOu E (fth p2) E.n.toNat 0 p1 x) → (19 - x3).toNat < n → zJ shC l yX9_sailOut cX9_sailOut 6 none (rmL 6) 0 0 (q2_X9_sailOut h c p1 p2) 0 0 5 [some (.inr c), some (.inl p1), some (.inl p2), some (.inl x2), some (.inl x3), none] [] h4 := by
    intro n
    induction n with
    | zero => intro x2 x3 h4 b1202 b1203 s5 f6 u1204 m1205; exact absurd m1205 (Nat.not_lt_zero _)
    | succ n ih1206 =>
      intro x2 x3 h4 b1202 b1203 s5 f6 u1204 m1205
      refine zj_iload (zdk ttX9_sailOut 4 rfl rfl) rfl ?_
      refine zj_aload_n (zdk ttX9_sailOut 5 rfl rfl) rfl (by omega) ?_
      refine zj_getr (r := (c + 1)) (zdk ttX9_sailOut 6 rfl rfl) zf_RX9_12 rfl (k_9_0 s5 hc) (rf_9_0_0 s5 hc) ?_
      have b1207 : 0 ≤ (h.2 (c + 1) 3) ∧ (h.2 (c + 1) 3) ≤ 18 := fb_9_1_3 s0 hc
      refine zj_geti (v := (h.2 (c + 1) 3)) (zdk ttX9_sailOut 7 rfl rfl) zf_RX9_121 rfl (k_9_1 s5 hc) (zfC_a f6 (fun z9 => by unfold w_X9_sailOut at z9; first | (revert z9; decide) | omega)) ?_
      refine zj_icmp_ge (t := 134) (zdk ttX9_sailOut 8 rfl rfl) (by decide) (by omega) (by omega) (fun c1208 => ?_) (fun c1208 => ?_)
      · exact zj_vret rfl (zdk ttX9_sailOut 60 rfl rfl) (Nat.le_refl _) (Nat.le_refl _) ⟨rfl, s5, f6, (by intro E x t0; obtain ⟨y, t1, r1⟩ := u1204 E x t0; have n1 := (xC_g t0).1; rw [fOu_e (by omega)] at r1; rw [← r1]; exact t1)⟩
      · refine zj_iload_n (zdk ttX9_sailOut 9 rfl rfl) rfl ?_
        refine zj_if_le (t := 134) (zdk ttX9_sailOut 10 rfl rfl) (by decide) (by omega) (fun c1209 => ?_) (fun c1209 => ?_)
        · exact zj_vret rfl (zdk ttX9_sailOut 60 rfl rfl) (Nat.le_refl _) (Nat.le_refl _) ⟨rfl, s5, f6, (by intro E x t0; obtain ⟨y, t1, r1⟩ := u1204 E x t0; have n1 := (xC_g t0).1; rw [fOu_e (by omega)] at r1; rw [← r1]; exact t1)⟩
        · refine zj_aload_n (zdk ttX9_sailOut 11 rfl rfl) rfl (by omega) ?_
          refine zj_getr (r := (c + 1)) (zdk ttX9_sailOut 12 rfl rfl) zf_RX9_12 rfl (k_9_0 s5 hc) (rf_9_0_0 s5 hc) ?_
          refine zj_iload (zdk ttX9_sailOut 13 rfl rfl) rfl ?_
          refine zj_callV (av := [.inl x3]) (st := []) (zdk ttX9_sailOut 14 rfl rfl) mb_X1_isHere mv_RX9_124 (ci := 1) rfl rfl (k_9_1 s5 hc) rfl rfl (Nat.le_of_ble_eq_true rfl) (s_X1_isHere l h4 (c + 1) x3 s5 (zs_9_1 hc) (by omega)) (rm_ok (by decide) (by decide)) (zq_i fun v1211 h1212 q1210 => ?_)
          obtain ⟨rfl, b1214, ⟨rfl, b1213⟩ | ⟨rfl, b1213⟩⟩ := q1210
          · refine zj_if_eq (t := 128) (zdk ttX9_sailOut 15 rfl rfl) (by decide) (by decide) (fun c1215 => ?_) (fun c1215 => ?_)
            · refine zj_iinc (L' := [some (.inr c), some (.inl p1), some (.inl p2), some (.inl x2), some (.inl (x3 + 1)), none]) (zdk ttX9_sailOut 58 rfl rfl) rfl (by decide) rfl ?_
              refine zj_goto (t := 5) (zdk ttX9_sailOut 59 rfl rfl) (by decide) ?_
              exact ih1206  x2 (x3 + 1) h4 (by omega) (by omega) s5 f6 (by intro E x t0; obtain ⟨y, t1, r1⟩ := u1204 E x t0; have n1 := (xC_g t0).1; have n0 := xC_n t1; have he := xC_he (i := x3) t1 (by omega) (by omega); have ob : fOb E (fth p2) x3 x2 y = (x2, y) := (by unfold fOb; rw [if_neg (fun z9 => by first | (have q9 := z9.1; omega) | (have be := xC_be (i := x3) t1 (by omega) (by omega); have q9 := z9.2; omega))]); exact ⟨y, t1, (fOu_s (by omega) (by omega) ob).symm.trans r1⟩) (by omega)
            · exact absurd c1215 (by omega)
          · refine zj_if_eq (t := 128) (zdk ttX9_sailOut 15 rfl rfl) (by decide) (by decide) (fun c1216 => ?_) (fun c1216 => ?_)
            · exact absurd c1216 (by omega)
            · refine zj_aload_n (zdk ttX9_sailOut 16 rfl rfl) rfl (by omega) ?_
              refine zj_getr (r := (c + 1)) (zdk ttX9_sailOut 17 rfl rfl) zf_RX9_12 rfl (k_9_0 s5 hc) (rf_9_0_0 s5 hc) ?_
              refine zj_iload (zdk ttX9_sailOut 18 rfl rfl) rfl ?_
              refine zj_callV (av := [.inl x3]) (st := []) (zdk ttX9_sailOut 19 rfl rfl) mb_X1_isBegged mv_RX9_128 (ci := 1) rfl rfl (k_9_1 s5 hc) rfl rfl (Nat.le_of_ble_eq_true rfl) (s_X1_isBegged l h4 (c + 1) x3 s5 (zs_9_1 hc) (by omega)) (rm_ok (by decide) (by decide)) (zq_i fun v1218 h1219 q1217 => ?_)
              obtain ⟨rfl, b1221, ⟨rfl, b1220⟩ | ⟨rfl, b1220⟩⟩ := q1217
              · refine zj_if_ne (t := 128) (zdk ttX9_sailOut 20 rfl rfl) (by decide) (by decide) (fun c1222 => ?_) (fun c1222 => ?_)
                · exact absurd c1222 (by omega)
                · refine zj_aload_n (zdk ttX9_sailOut 21 rfl rfl) rfl (by omega) ?_
                  refine zj_iconst (zdk ttX9_sailOut 22 rfl rfl) ?_
                  refine zj_iload (zdk ttX9_sailOut 23 rfl rfl) rfl ?_
                  refine zj_iload_n (zdk ttX9_sailOut 24 rfl rfl) rfl ?_
                  refine zj_callV (av := [.inl 0, .inl x3, .inl p2]) (st := []) (zdk ttX9_sailOut 25 rfl rfl) mb_X9_isWilling mv_RX9_131 (ci := 9) rfl rfl (k_9_0 s5 hc) rfl rfl (Nat.le_of_ble_eq_true rfl) (s2_X9_isWilling l h4 c 0 x3 p2 s5 hc (by omega) (by omega) (by omega)) (rm_ok (by decide) (by decide)) (zq_i fun v1224 h1225 q1223 => ?_)
                  obtain ⟨b1226, s1227, f1229, u1228⟩ := q1223
                  refine zj_if_ne (t := 59) (zdk ttX9_sailOut 26 rfl rfl) (by decide) (by omega) (fun c1230 => ?_) (fun c1230 => ?_)
                  · refine zj_aload_n (zdk ttX9_sailOut 28 rfl rfl) rfl (by omega) ?_
                    refine zj_iload (zdk ttX9_sailOut 29 rfl rfl) rfl ?_
                    refine zj_callV (av := [.inl x3]) (st := []) (zdk ttX9_sailOut 30 rfl rfl) mb_X9_goAboard mv_RX9_135 (ci := 9) rfl rfl (k_9_0 s1227 hc) rfl rfl (Nat.le_of_ble_eq_true rfl) (s2_X9_goAboard l h1225 c x3 s1227 hc (by omega)) (rm_ok (by decide) (by decide)) (zq_v fun h1233 q1231 => ?_)
                    obtain ⟨s1235, f1237, u1236⟩ := q1231
                    refine zj_iinc (L' := [some (.inr c), some (.inl p1), some (.inl p2), some (.inl (x2 + (-1))), some (.inl x3), none]) (zdk ttX9_sailOut 31 rfl rfl) rfl (by decide) rfl ?_
                    refine zj_iconst (zdk ttX9_sailOut 32 rfl rfl) ?_
                    refine zj_istore (L' := [some (.inr c), some (.inl p1), some (.inl p2), some (.inl (x2 + (-1))), some (.inl x3), some (.inl 0)]) (zdk ttX9_sailOut 33 rfl rfl) (by decide) rfl ?_
                    have lp1375 : ∀ (n : Nat) (x1238 x1239 : Int) (h1240 : zM), (0 ≤ x1238 ∧ x1238 ≤ 2147483646) → (0 ≤ x1239 ∧ x1239 ≤ 18) → okC h1240 → zfC (w_X9_sailOut c) h h1240 → (∀ E x, xC h c E (fth p2) x → ∃ y, xC h1240 c E (fth p2) y ∧ fOu E (fth p2) (E.n - (x3 + 1)).toNat (x3 + 1) (fO2 E (fth p2) x3 (E.n - x1239).toNat x1239 x1238 y).1 (fO2 E (fth p2) x3 (E.n - x1239).toNat x1239 x1238 y).2 = fOu E (fth p2) E.n.toNat 0 p1 x) → (19 - x1239).toNat < n → zJ shC l yX9_sailOut cX9_sailOut 6 none (rmL 6) 0 0 (q2_X9_sailOut h c p1 p2) 0 0 71 [some (.inr c), some (.inl p1), some (.inl p2), some (.inl x1238), some (.inl x3), some (.inl x1239)] [] h1240 := by
                      intro n
                      induction n with
                      | zero => intro x1238 x1239 h1240 b1376 b1377 s1241 f1242 u1378 m1379; exact absurd m1379 (Nat.not_lt_zero _)
                      | succ n ih1380 =>
                        intro x1238 x1239 h1240 b1376 b1377 s1241 f1242 u1378 m1379
                        refine zj_iload (zdk ttX9_sailOut 34 rfl rfl) rfl ?_
                        refine zj_aload_n (zdk ttX9_sailOut 35 rfl rfl) rfl (by omega) ?_
                        refine zj_getr (r := (c + 1)) (zdk ttX9_sailOut 36 rfl rfl) zf_RX9_12 rfl (k_9_0 s1241 hc) (rf_9_0_0 s1241 hc) ?_
                        refine zj_geti (v := (h.2 (c + 1) 3)) (zdk ttX9_sailOut 37 rfl rfl) zf_RX9_121 rfl (k_9_1 s1241 hc) (zfC_a f1242 (fun z9 => by unfold w_X9_sailOut at z9; first | (revert z9; decide) | omega)) ?_
                        refine zj_icmp_ge (t := 128) (zdk ttX9_sailOut 38 rfl rfl) (by decide) (by omega) (by omega) (fun c1381 => ?_) (fun c1381 => ?_)
                        · refine zj_iinc (L' := [some (.inr c), some (.inl p1), some (.inl p2), some (.inl x1238), some (.inl (x3 + 1)), some (.inl x1239)]) (zdk ttX9_sailOut 58 rfl rfl) rfl (by decide) rfl ?_
                          refine zj_goto (t := 5) (zdk ttX9_sailOut 59 rfl rfl) (by decide) ?_
                          refine zj_kill (k := 5) (L' := [some (.inr c), some (.inl p1), some (.inl p2), some (.inl x1238), some (.inl (x3 + 1)), none]) rfl ?_
                          exact ih1206  x1238 (x3 + 1) h1240 (by omega) (by omega) s1241 f1242 (by intro E x t0; obtain ⟨y, t1, r1⟩ := u1378 E x t0; have n1 := (xC_g t0).1; rw [fO2_e (by omega)] at r1; exact ⟨y, t1, r1⟩) (by omega)
                        · refine zj_iload_n (zdk ttX9_sailOut 39 rfl rfl) rfl ?_
                          refine zj_if_le (t := 128) (zdk ttX9_sailOut 40 rfl rfl) (by decide) (by omega) (fun c1382 => ?_) (fun c1382 => ?_)
                          · refine zj_iinc (L' := [some (.inr c), some (.inl p1), some (.inl p2), some (.inl x1238), some (.inl (x3 + 1)), some (.inl x1239)]) (zdk ttX9_sailOut 58 rfl rfl) rfl (by decide) rfl ?_
                            refine zj_goto (t := 5) (zdk ttX9_sailOut 59 rfl rfl) (by decide) ?_
                            refine zj_kill (k := 5) (L' := [some (.inr c), some (.inl p1), some (.inl p2), some (.inl x1238), some (.inl (x3 + 1)), none]) rfl ?_
                            exact ih1206  x1238 (x3 + 1) h1240 (by omega) (by omega) s1241 f1242 (by intro E x t0; obtain ⟨y, t1, r1⟩ := u1378 E x t0; have n1 := (xC_g t0).1; rw [fO2_e (by omega)] at r1; exact ⟨y, t1, r1⟩) (by omega)
                          · refine zj_aload_n (zdk ttX9_sailOut 41 rfl rfl) rfl (by omega) ?_
                            refine zj_getr (r := (c + 20)) (zdk ttX9_sailOut 42 rfl rfl) zf_RX9_38 rfl (k_9_0 s1241 hc) (rf_9_0_4 s1241 hc) ?_
                            refine zj_iload (zdk ttX9_sailOut 43 rfl rfl) rfl ?_
                            refine zj_iload (zdk ttX9_sailOut 44 rfl rfl) rfl ?_
                            refine zj_callV (av := [.inl x3, .inl x1239]) (st := []) (zdk ttX9_sailOut 45 rfl rfl) mb_X2_areKin mv_RX9_138 (ci := 2) rfl rfl (k_9_20 s1241 hc) rfl rfl (Nat.le_of_ble_eq_true rfl) (s_X2_areKin l h1240 (c + 20) x3 x1239 s1241 (zs_9_20 hc) (by omega) (by omega)) (rm_ok (by decide) (by decide)) (zq_i fun v1384 h1385 q1383 => ?_)
                            obtain ⟨rfl, ⟨rfl, b1386⟩ | ⟨rfl, b1386⟩⟩ := q1383
                            · refine zj_if_eq (t := 122) (zdk ttX9_sailOut 46 rfl rfl) (by decide) (by decide) (fun c1387 => ?_) (fun c1387 => ?_)
                              · refine zj_iinc (L' := [some (.inr c), some (.inl p1), some (.inl p2), some (.inl x1238), some (.inl x3), some (.inl (x1239 + 1))]) (zdk ttX9_sailOut 56 rfl rfl) rfl (by decide) rfl ?_
                                refine zj_goto (t := 71) (zdk ttX9_sailOut 57 rfl rfl) (by decide) ?_
                                exact ih1380  x1238 (x1239 + 1) h1240 (by omega) (by omega) s1241 f1242 (by intro E x t0; obtain ⟨y, t1, r1⟩ := u1378 E x t0; have n1 := (xC_g t0).1; have n0 := xC_n t1; have kn : zand (zshr (h1240.2 (c + 20 + 1) x3) x1239) 1 = 1 ↔ fgb (E.kn x3) (x1239).toNat = true := (by rw [show c + 20 + 1 = c + 21 by omega]; exact xC_kn t1 (by omega) (by omega)); rw [fO2_n (by omega) (by omega) (fun z9 => by first | (have q9 := kn.2 z9.1; omega) | (have he := xC_he (i := x1239) t1 (by omega) (by omega); have q9 := z9.2; omega))] at r1; exact ⟨y, t1, r1⟩) (by omega)
                              · exact absurd c1387 (by omega)
                            · refine zj_if_eq (t := 122) (zdk ttX9_sailOut 46 rfl rfl) (by decide) (by decide) (fun c1388 => ?_) (fun c1388 => ?_)
                              · exact absurd c1388 (by omega)
                              · refine zj_aload_n (zdk ttX9_sailOut 47 rfl rfl) rfl (by omega) ?_
                                refine zj_getr (r := (c + 1)) (zdk ttX9_sailOut 48 rfl rfl) zf_RX9_12 rfl (k_9_0 s1241 hc) (rf_9_0_0 s1241 hc) ?_
                                refine zj_iload (zdk ttX9_sailOut 49 rfl rfl) rfl ?_
                                refine zj_callV (av := [.inl x1239]) (st := []) (zdk ttX9_sailOut 50 rfl rfl) mb_X1_isHere mv_RX9_124 (ci := 1) rfl rfl (k_9_1 s1241 hc) rfl rfl (Nat.le_of_ble_eq_true rfl) (s_X1_isHere l h1240 (c + 1) x1239 s1241 (zs_9_1 hc) (by omega)) (rm_ok (by decide) (by decide)) (zq_i fun v1390 h1391 q1389 => ?_)
                                obtain ⟨rfl, b1393, ⟨rfl, b1392⟩ | ⟨rfl, b1392⟩⟩ := q1389
                                · refine zj_if_eq (t := 122) (zdk ttX9_sailOut 51 rfl rfl) (by decide) (by decide) (fun c1394 => ?_) (fun c1394 => ?_)
                                  · refine zj_iinc (L' := [some (.inr c), some (.inl p1), some (.inl p2), some (.inl x1238), some (.inl x3), some (.inl (x1239 + 1))]) (zdk ttX9_sailOut 56 rfl rfl) rfl (by decide) rfl ?_
                                    refine zj_goto (t := 71) (zdk ttX9_sailOut 57 rfl rfl) (by decide) ?_
                                    exact ih1380  x1238 (x1239 + 1) h1240 (by omega) (by omega) s1241 f1242 (by intro E x t0; obtain ⟨y, t1, r1⟩ := u1378 E x t0; have n1 := (xC_g t0).1; have n0 := xC_n t1; have kn : zand (zshr (h1240.2 (c + 20 + 1) x3) x1239) 1 = 1 ↔ fgb (E.kn x3) (x1239).toNat = true := (by rw [show c + 20 + 1 = c + 21 by omega]; exact xC_kn t1 (by omega) (by omega)); rw [fO2_n (by omega) (by omega) (fun z9 => by first | (have q9 := kn.2 z9.1; omega) | (have he := xC_he (i := x1239) t1 (by omega) (by omega); have q9 := z9.2; omega))] at r1; exact ⟨y, t1, r1⟩) (by omega)
                                  · exact absurd c1394 (by omega)
                                · refine zj_if_eq (t := 122) (zdk ttX9_sailOut 51 rfl rfl) (by decide) (by decide) (fun c1395 => ?_) (fun c1395 => ?_)
                                  · exact absurd c1395 (by omega)
                                  · refine zj_aload_n (zdk ttX9_sailOut 52 rfl rfl) rfl (by omega) ?_
                                    refine zj_iload (zdk ttX9_sailOut 53 rfl rfl) rfl ?_
                                    refine zj_callV (av := [.inl x1239]) (st := []) (zdk ttX9_sailOut 54 rfl rfl) mb_X9_goAboard mv_RX9_135 (ci := 9) rfl rfl (k_9_0 s1241 hc) rfl rfl (Nat.le_of_ble_eq_true rfl) (s2_X9_goAboard l h1240 c x1239 s1241 hc (by omega)) (rm_ok (by decide) (by decide)) (zq_v fun h1398 q1396 => ?_)
                                    obtain ⟨s1400, f1402, u1401⟩ := q1396
                                    refine zj_iinc (L' := [some (.inr c), some (.inl p1), some (.inl p2), some (.inl (x1238 + (-1))), some (.inl x3), some (.inl x1239)]) (zdk ttX9_sailOut 55 rfl rfl) rfl (by decide) rfl ?_
                                    refine zj_iinc (L' := [some (.inr c), some (.inl p1), some (.inl p2), some (.inl (x1238 + (-1))), some (.inl x3), some (.inl (x1239 + 1))]) (zdk ttX9_sailOut 56 rfl rfl) rfl (by decide) rfl ?_
                                    refine zj_goto (t := 71) (zdk ttX9_sailOut 57 rfl rfl) (by decide) ?_
                                    have f1403 : zfC (w_X9_sailOut c) h h1398 := zfC_t f1242 f1402 (fun a9 b9 z9 => by
                                      rcases z9 with z9 | z9 | z9 | z9 | z9 | z9
                                      · exact (Or.inl (by omega))
                                      · exact (Or.inr (Or.inl (by omega)))
                                      · exact (Or.inr (Or.inr (Or.inr (Or.inl (by omega)))))
                                      · exact (Or.inr (Or.inr (Or.inr (Or.inr (Or.inl (by omega))))))
                                      · exact (Or.inr (Or.inr (Or.inr (Or.inr (Or.inr (Or.inl (by omega)))))))
                                      · exact (Or.inr (Or.inr (Or.inr (Or.inr (Or.inr (Or.inr (by omega))))))))
                                    exact ih1380  (x1238 + (-1)) (x1239 + 1) h1398 (by omega) (by omega) s1400 f1403 (by intro E x t0; obtain ⟨y, t1, r1⟩ := u1378 E x t0; have n1 := (xC_g t0).1; have n0 := xC_n t1; have kn : zand (zshr (h1240.2 (c + 20 + 1) x3) x1239) 1 = 1 ↔ fgb (E.kn x3) (x1239).toNat = true := (by rw [show c + 20 + 1 = c + 21 by omega]; exact xC_kn t1 (by omega) (by omega)); have he := xC_he (i := x1239) t1 (by omega) (by omega); have t2 := u1401 E (fth p2) y t1 (by omega); refine ⟨_, t2, ?_⟩; rw [fO2_y (by omega) (by omega) ⟨kn.1 (by omega), by omega⟩, show x1238 - 1 = (x1238 + (-1)) by omega] at r1; exact r1) (by omega)
                    have f1405 : zfC (w_X9_sailOut c) h h1225 := zfC_t f6 f1229 (fun a9 b9 z9 => by
                      rcases z9 with z9 | z9
                      · exact (Or.inr (Or.inr (Or.inl (by omega))))
                      · exact (Or.inr (Or.inr (Or.inr (Or.inr (Or.inl (by omega)))))))
                    have f1404 : zfC (w_X9_sailOut c) h h1233 := zfC_t f1405 f1237 (fun a9 b9 z9 => by
                      rcases z9 with z9 | z9 | z9 | z9 | z9 | z9
                      · exact (Or.inl (by omega))
                      · exact (Or.inr (Or.inl (by omega)))
                      · exact (Or.inr (Or.inr (Or.inr (Or.inl (by omega)))))
                      · exact (Or.inr (Or.inr (Or.inr (Or.inr (Or.inl (by omega))))))
                      · exact (Or.inr (Or.inr (Or.inr (Or.inr (Or.inr (Or.inl (by omega)))))))
                      · exact (Or.inr (Or.inr (Or.inr (Or.inr (Or.inr (Or.inr (by omega))))))))
                    exact lp1375 _ (x2 + (-1)) 0 h1233 (by omega) (by omega) s1235 f1404 (by intro E x t0; obtain ⟨y, t1, r1⟩ := u1204 E x t0; have n1 := (xC_g t0).1; have n0 := xC_n t1; have he := xC_he (i := x3) t1 (by omega) (by omega); have be := xC_be (i := x3) t1 (by omega) (by omega); obtain ⟨t2, w2⟩ := u1228 E y t1 (by omega) (by omega); have t3 := u1236 E (fth p2) _ t2 (by omega); have ob : fOb E (fth p2) x3 x2 y = fO2 E (fth p2) x3 E.n.toNat 0 (x2 + (-1)) (fGo E (fth p2) x3 (fHx (fth p2) (fTl E y.1 0 x3) y)) := (by unfold fOb; rw [if_pos ⟨by omega, by omega⟩, if_pos (w2.1 (by omega)), show x2 - 1 = (x2 + (-1)) by omega]); refine ⟨_, t3, ?_⟩; rw [show E.n - 0 = E.n by omega]; exact (fOu_s (by omega) (by omega) ob).symm.trans r1) (Nat.lt_succ_self _)
                  · refine zj_goto (t := 128) (zdk ttX9_sailOut 27 rfl rfl) (by decide) ?_
                    refine zj_iinc (L' := [some (.inr c), some (.inl p1), some (.inl p2), some (.inl x2), some (.inl (x3 + 1)), none]) (zdk ttX9_sailOut 58 rfl rfl) rfl (by decide) rfl ?_
                    refine zj_goto (t := 5) (zdk ttX9_sailOut 59 rfl rfl) (by decide) ?_
                    have f1406 : zfC (w_X9_sailOut c) h h1225 := zfC_t f6 f1229 (fun a9 b9 z9 => by
                      rcases z9 with z9 | z9
                      · exact (Or.inr (Or.inr (Or.inl (by omega))))
                      · exact (Or.inr (Or.inr (Or.inr (Or.inr (Or.inl (by omega)))))))
                    exact ih1206  x2 (x3 + 1) h1225 (by omega) (by omega) s1227 f1406 (by intro E x t0; obtain ⟨y, t1, r1⟩ := u1204 E x t0; have n1 := (xC_g t0).1; have n0 := xC_n t1; have he := xC_he (i := x3) t1 (by omega) (by omega); have be := xC_be (i := x3) t1 (by omega) (by omega); obtain ⟨t2, w2⟩ := u1228 E y t1 (by omega) (by omega); have ob : fOb E (fth p2) x3 x2 y = (x2, fHx (fth p2) (fTl E y.1 0 x3) y) := (by unfold fOb; rw [if_pos ⟨by omega, by omega⟩, if_neg (fun z9 => by have q9 := w2.2 z9; omega)]); exact ⟨_, t2, (fOu_s (by omega) (by omega) ob).symm.trans r1⟩) (by omega)
              · refine zj_if_ne (t := 128) (zdk ttX9_sailOut 20 rfl rfl) (by decide) (by decide) (fun c1407 => ?_) (fun c1407 => ?_)
                · refine zj_iinc (L' := [some (.inr c), some (.inl p1), some (.inl p2), some (.inl x2), some (.inl (x3 + 1)), none]) (zdk ttX9_sailOut 58 rfl rfl) rfl (by decide) rfl ?_
                  refine zj_goto (t := 5) (zdk ttX9_sailOut 59 rfl rfl) (by decide) ?_
                  exact ih1206  x2 (x3 + 1) h4 (by omega) (by omega) s5 f6 (by intro E x t0; obtain ⟨y, t1, r1⟩ := u1204 E x t0; have n1 := (xC_g t0).1; have n0 := xC_n t1; have he := xC_he (i := x3) t1 (by omega) (by omega); have ob : fOb E (fth p2) x3 x2 y = (x2, y) := (by unfold fOb; rw [if_neg (fun z9 => by first | (have q9 := z9.1; omega) | (have be := xC_be (i := x3) t1 (by omega) (by omega); have q9 := z9.2; omega))]); exact ⟨y, t1, (fOu_s (by omega) (by omega) ob).symm.trans r1⟩) (by omega)
                · exact absurd c1407 (by omega)
  exact lp1201 _ p1 0 h (by omega) (by omega) s0 (zfC_r _ _) (fun E x t0 => ⟨x, t0, by rw [show E.n - 0 = E.n by omega]⟩) (Nat.lt_succ_self _)

abbrev q2_X9_sailBack (h : zM) (c : Int) (p1 : Int) (p2 : Int) : Option zV → zM → Prop := zqv fun h' => okC h' ∧ zfC (w_X9_sailBack c) h h' ∧ (∀ E x, xC h c E (fth p2) x → xC h' c E (fth p2) (fBa E (fth p2) E.n.toNat 0 p1 x))
set_option maxRecDepth 100000 in
set_option maxHeartbeats 4000000 in
theorem s2_X9_sailBack (l : Launch) (h : zM) (c : Int) (p1 : Int) (p2 : Int) (s0 : okC h) (hc : zWd c) (b_p1 : (-2147483648) ≤ p1 ∧ p1 ≤ 2147483647) (b_p2 : 0 ≤ p2 ∧ p2 ≤ 1) : zT shC l yX9_sailBack cX9_sailBack 5 none (rmL 6) 0 0 [.inr c, .inl p1, .inl p2] h (q2_X9_sailBack h c p1 p2) := by
  refine zT_of (by decide +kernel) (L0 := [some (.inr c), some (.inl p1), some (.inl p2), none, none]) rfl (Nat.le_of_ble_eq_true rfl) ?_
  have b1 := zWd_b hc
  refine zj_iload_n (zdk ttX9_sailBack 0 rfl rfl) rfl ?_
  refine zj_istore_n (L' := [some (.inr c), some (.inl p1), some (.inl p2), some (.inl p1), none]) (zdk ttX9_sailBack 1 rfl rfl) (by decide) rfl ?_
  refine zj_iconst (zdk ttX9_sailBack 2 rfl rfl) ?_
  refine zj_istore (L' := [some (.inr c), some (.inl p1), some (.inl p2), some (.inl p1), some (.inl 0)]) (zdk ttX9_sailBack 3 rfl rfl) (by decide) rfl ?_
  have lp157 : ∀ (n : Nat) (x2 x3 : Int) (h4 : zM), (-2147483648 ≤ x2 ∧ x2 ≤ 2147483647) → (0 ≤ x3 ∧ x3 ≤ 18) → okC h4 → zfC (w_X9_sailBack c) h h4 → (∀ E x, xC h c E (fth p2) x → ∃ y, xC h4 c E (fth p2) y ∧ fBa E (fth p2) (E.n - x3).toNat x3 x2 y = fBa E (fth p2) E.n.toNat 0 p1 x) → (19 - x3).toNat < n → zJ shC l yX9_sailBack cX9_sailBack 5 none (rmL 6) 0 0 (q2_X9_sailBack h c p1 p2) 0 0 5 [some (.inr c), some (.inl p1), some (.inl p2), some (.inl x2), some (.inl x3)] [] h4 := by
    intro n
    induction n with
    | zero => intro x2 x3 h4 b158 b159 s5 f6 u160 m161; exact absurd m161 (Nat.not_lt_zero _)
    | succ n ih162 =>
      intro x2 x3 h4 b158 b159 s5 f6 u160 m161
      refine zj_iload (zdk ttX9_sailBack 4 rfl rfl) rfl ?_
      refine zj_aload_n (zdk ttX9_sailBack 5 rfl rfl) rfl (by omega) ?_
      refine zj_getr (r := (c + 1)) (zdk ttX9_sailBack 6 rfl rfl) zf_RX9_12 rfl (k_9_0 s5 hc) (rf_9_0_0 s5 hc) ?_
      have b163 : 0 ≤ (h.2 (c + 1) 3) ∧ (h.2 (c + 1) 3) ≤ 18 := fb_9_1_3 s0 hc
      refine zj_geti (v := (h.2 (c + 1) 3)) (zdk ttX9_sailBack 7 rfl rfl) zf_RX9_121 rfl (k_9_1 s5 hc) (zfC_a f6 (fun z9 => by unfold w_X9_sailBack at z9; first | (revert z9; decide) | omega)) ?_
      refine zj_icmp_ge (t := 59) (zdk ttX9_sailBack 8 rfl rfl) (by decide) (by omega) (by omega) (fun c164 => ?_) (fun c164 => ?_)
      · exact zj_vret rfl (zdk ttX9_sailBack 28 rfl rfl) (Nat.le_refl _) (Nat.le_refl _) ⟨rfl, s5, f6, (by intro E x t0; obtain ⟨y, t1, r1⟩ := u160 E x t0; have n1 := (xC_g t0).1; rw [fBa_e (by omega)] at r1; rw [← r1]; exact t1)⟩
      · refine zj_iload_n (zdk ttX9_sailBack 9 rfl rfl) rfl ?_
        refine zj_if_le (t := 59) (zdk ttX9_sailBack 10 rfl rfl) (by decide) (by omega) (fun c165 => ?_) (fun c165 => ?_)
        · exact zj_vret rfl (zdk ttX9_sailBack 28 rfl rfl) (Nat.le_refl _) (Nat.le_refl _) ⟨rfl, s5, f6, (by intro E x t0; obtain ⟨y, t1, r1⟩ := u160 E x t0; have n1 := (xC_g t0).1; rw [fBa_e (by omega)] at r1; rw [← r1]; exact t1)⟩
        · refine zj_aload_n (zdk ttX9_sailBack 11 rfl rfl) rfl (by omega) ?_
          refine zj_getr (r := (c + 1)) (zdk ttX9_sailBack 12 rfl rfl) zf_RX9_12 rfl (k_9_0 s5 hc) (rf_9_0_0 s5 hc) ?_
          refine zj_iload (zdk ttX9_sailBack 13 rfl rfl) rfl ?_
          refine zj_callV (av := [.inl x3]) (st := []) (zdk ttX9_sailBack 14 rfl rfl) mb_X1_isHere mv_RX9_124 (ci := 1) rfl rfl (k_9_1 s5 hc) rfl rfl (Nat.le_of_ble_eq_true rfl) (s_X1_isHere l h4 (c + 1) x3 s5 (zs_9_1 hc) (by omega)) (rm_ok (by decide) (by decide)) (zq_i fun v167 h168 q166 => ?_)
          obtain ⟨rfl, b170, ⟨rfl, b169⟩ | ⟨rfl, b169⟩⟩ := q166
          · refine zj_if_ne (t := 53) (zdk ttX9_sailBack 15 rfl rfl) (by decide) (by decide) (fun c171 => ?_) (fun c171 => ?_)
            · exact absurd c171 (by omega)
            · refine zj_aload_n (zdk ttX9_sailBack 16 rfl rfl) rfl (by omega) ?_
              refine zj_iconst (zdk ttX9_sailBack 17 rfl rfl) ?_
              refine zj_iload (zdk ttX9_sailBack 18 rfl rfl) rfl ?_
              refine zj_iload_n (zdk ttX9_sailBack 19 rfl rfl) rfl ?_
              refine zj_callV (av := [.inl 2, .inl x3, .inl p2]) (st := []) (zdk ttX9_sailBack 20 rfl rfl) mb_X9_isWilling mv_RX9_131 (ci := 9) rfl rfl (k_9_0 s5 hc) rfl rfl (Nat.le_of_ble_eq_true rfl) (s2_X9_isWilling l h4 c 2 x3 p2 s5 hc (by omega) (by omega) (by omega)) (rm_ok (by decide) (by decide)) (zq_i fun v173 h174 q172 => ?_)
              obtain ⟨b175, s176, f178, u177⟩ := q172
              refine zj_if_eq (t := 53) (zdk ttX9_sailBack 21 rfl rfl) (by decide) (by omega) (fun c179 => ?_) (fun c179 => ?_)
              · refine zj_iinc (L' := [some (.inr c), some (.inl p1), some (.inl p2), some (.inl x2), some (.inl (x3 + 1))]) (zdk ttX9_sailBack 26 rfl rfl) rfl (by decide) rfl ?_
                refine zj_goto (t := 5) (zdk ttX9_sailBack 27 rfl rfl) (by decide) ?_
                have f180 : zfC (w_X9_sailBack c) h h174 := zfC_t f6 f178 (fun a9 b9 z9 => by
                  rcases z9 with z9 | z9
                  · exact (Or.inr (Or.inr (Or.inl (by omega))))
                  · exact (Or.inr (Or.inr (Or.inr (Or.inl (by omega))))))
                exact ih162  x2 (x3 + 1) h174 (by omega) (by omega) s176 f180 (by intro E x t0; obtain ⟨y, t1, r1⟩ := u160 E x t0; have n1 := (xC_g t0).1; have n0 := xC_n t1; have he := xC_he (i := x3) t1 (by omega) (by omega); obtain ⟨t2, w2⟩ := u177 E y t1 (by omega) (by omega); have ob : fBb E (fth p2) x3 x2 y = (x2, fHx (fth p2) (fTl E y.1 2 x3) y) := (by unfold fBb; rw [if_neg (by omega), if_neg (fun z9 => by have q9 := w2.2 z9; omega)]); exact ⟨_, t2, (fBa_s (by omega) (by omega) ob).symm.trans r1⟩) (by omega)
              · refine zj_aload_n (zdk ttX9_sailBack 22 rfl rfl) rfl (by omega) ?_
                refine zj_iload (zdk ttX9_sailBack 23 rfl rfl) rfl ?_
                refine zj_callV (av := [.inl x3]) (st := []) (zdk ttX9_sailBack 24 rfl rfl) mb_X9_comeBack mv_RX9_142 (ci := 9) rfl rfl (k_9_0 s176 hc) rfl rfl (Nat.le_of_ble_eq_true rfl) (s2_X9_comeBack l h174 c x3 s176 hc (by omega)) (rm_ok (by decide) (by decide)) (zq_v fun h183 q181 => ?_)
                obtain ⟨s185, f187, u186⟩ := q181
                refine zj_iinc (L' := [some (.inr c), some (.inl p1), some (.inl p2), some (.inl (x2 + (-1))), some (.inl x3)]) (zdk ttX9_sailBack 25 rfl rfl) rfl (by decide) rfl ?_
                refine zj_iinc (L' := [some (.inr c), some (.inl p1), some (.inl p2), some (.inl (x2 + (-1))), some (.inl (x3 + 1))]) (zdk ttX9_sailBack 26 rfl rfl) rfl (by decide) rfl ?_
                refine zj_goto (t := 5) (zdk ttX9_sailBack 27 rfl rfl) (by decide) ?_
                have f189 : zfC (w_X9_sailBack c) h h174 := zfC_t f6 f178 (fun a9 b9 z9 => by
                  rcases z9 with z9 | z9
                  · exact (Or.inr (Or.inr (Or.inl (by omega))))
                  · exact (Or.inr (Or.inr (Or.inr (Or.inl (by omega))))))
                have f188 : zfC (w_X9_sailBack c) h h183 := zfC_t f189 f187 (fun a9 b9 z9 => by
                  rcases z9 with z9 | z9 | z9 | z9 | z9
                  · exact (Or.inl (by omega))
                  · exact (Or.inr (Or.inl (by omega)))
                  · exact (Or.inr (Or.inr (Or.inr (Or.inl (by omega)))))
                  · exact (Or.inr (Or.inr (Or.inr (Or.inr (Or.inl (by omega))))))
                  · exact (Or.inr (Or.inr (Or.inr (Or.inr (Or.inr (by omega)))))))
                exact ih162  (x2 + (-1)) (x3 + 1) h183 (by omega) (by omega) s185 f188 (by intro E x t0; obtain ⟨y, t1, r1⟩ := u160 E x t0; have n1 := (xC_g t0).1; have n0 := xC_n t1; have he := xC_he (i := x3) t1 (by omega) (by omega); obtain ⟨t2, w2⟩ := u177 E y t1 (by omega) (by omega); have t3 := u186 E (fth p2) _ t2 (by omega); have ob : fBb E (fth p2) x3 x2 y = ((x2 + (-1)), fBk E (fth p2) x3 (fHx (fth p2) (fTl E y.1 2 x3) y)) := (by unfold fBb; rw [if_neg (by omega), if_pos (w2.1 (by omega)), show x2 - 1 = (x2 + (-1)) by omega]); exact ⟨_, t3, (fBa_s (by omega) (by omega) ob).symm.trans r1⟩) (by omega)
          · refine zj_if_ne (t := 53) (zdk ttX9_sailBack 15 rfl rfl) (by decide) (by decide) (fun c190 => ?_) (fun c190 => ?_)
            · refine zj_iinc (L' := [some (.inr c), some (.inl p1), some (.inl p2), some (.inl x2), some (.inl (x3 + 1))]) (zdk ttX9_sailBack 26 rfl rfl) rfl (by decide) rfl ?_
              refine zj_goto (t := 5) (zdk ttX9_sailBack 27 rfl rfl) (by decide) ?_
              exact ih162  x2 (x3 + 1) h4 (by omega) (by omega) s5 f6 (by intro E x t0; obtain ⟨y, t1, r1⟩ := u160 E x t0; have n1 := (xC_g t0).1; have n0 := xC_n t1; have he := xC_he (i := x3) t1 (by omega) (by omega); have ob : fBb E (fth p2) x3 x2 y = (x2, y) := (by unfold fBb; rw [if_pos (by omega)]); exact ⟨y, t1, (fBa_s (by omega) (by omega) ob).symm.trans r1⟩) (by omega)
            · exact absurd c190 (by omega)
  exact lp157 _ p1 0 h (by omega) (by omega) s0 (zfC_r _ _) (fun E x t0 => ⟨x, t0, by rw [show E.n - 0 = E.n by omega]⟩) (Nat.lt_succ_self _)

abbrev q2_X1_moveHands (h : zM) (c : Int) (p1 : Int) : Option zV → zM → Prop := zqv fun h' => okC h' ∧ zfC (w_X1_moveHands c) h h' ∧ (∀ w E th x, c = w + 1 → xC h w E th x → (-1440 ≤ p1 ∧ p1 ≤ 1440) → xC h' w E th (fup (fup x.1 6 (zwp (x.1 6 + (x.1 3 + p1) / 720))) 3 ((x.1 3 + p1) % 720), x.2))
set_option maxRecDepth 100000 in
set_option maxHeartbeats 4000000 in
theorem s2_X1_moveHands (l : Launch) (h : zM) (c : Int) (p1 : Int) (s0 : okC h) (hc : zIs c) (b_p1 : (-2147483648) ≤ p1 ∧ p1 ≤ 2147483647) : zT shC l yX1_moveHands cX1_moveHands 3 none (rmL 2) 0 0 [.inr c, .inl p1] h (q2_X1_moveHands h c p1) := by
  refine zT_of (by decide +kernel) (L0 := [some (.inr c), some (.inl p1), none]) rfl (Nat.le_of_ble_eq_true rfl) ?_
  have b1 := zIs_b hc
  refine zj_aload_n (zdk ttX1_moveHands 0 rfl rfl) rfl (by omega) ?_
  have b2 : 0 ≤ (h.2 c 6) ∧ (h.2 c 6) ≤ 719 := fb_1_0_6 s0 hc
  refine zj_geti (v := (h.2 c 6)) (zdk ttX1_moveHands 1 rfl rfl) zf_RX1_31 rfl (k_1_0 s0 hc) rfl ?_
  refine zj_iload_n (zdk ttX1_moveHands 2 rfl rfl) rfl ?_
  refine zj_iadd (zdk ttX1_moveHands 3 rfl rfl) ?_
  refine zj_wrap ?_
  have b3 := zwp_in ((h.2 c 6) + p1)
  refine zj_istore_n (L' := [some (.inr c), some (.inl p1), some (.inl (zwp ((h.2 c 6) + p1)))]) (zdk ttX1_moveHands 4 rfl rfl) (by decide) rfl ?_
  refine zj_aload_n (zdk ttX1_moveHands 5 rfl rfl) rfl (by omega) ?_
  refine zj_dup (zdk ttX1_moveHands 6 rfl rfl) ?_
  have b4 : -2147483648 ≤ (h.2 c 9) ∧ (h.2 c 9) ≤ 2147483647 := fb_1_0_9 s0 hc
  refine zj_geti (v := (h.2 c 9)) (zdk ttX1_moveHands 7 rfl rfl) zf_RX1_40 rfl (k_1_0 s0 hc) rfl ?_
  refine zj_iload_n (zdk ttX1_moveHands 8 rfl rfl) rfl ?_
  refine zj_sipush (zdk ttX1_moveHands 9 rfl rfl) (by decide) ?_
  refine zj_callS (av := [.inl (zwp ((h.2 c 6) + p1)), .inl 720]) (st := [.inl (h.2 c 9), .inr c]) (zdk ttX1_moveHands 10 rfl rfl) mb_J9_floorDiv_7cf53 ms_RX1_63 rfl rfl (Nat.le_of_ble_eq_true rfl) (s_J9_floorDiv_7cf53 shC l h (zwp ((h.2 c 6) + p1)) 720 (by omega) (by omega)) (rm_ok (by decide) (by decide)) (zq_i fun v5 h6 q7 => ?_)
  obtain ⟨rfl, b8⟩ := q7
  refine zj_iadd (zdk ttX1_moveHands 11 rfl rfl) ?_
  refine zj_wrap ?_
  have b9 := zwp_in ((h.2 c 9) + v5)
  refine zj_puti (zdk ttX1_moveHands 12 rfl rfl) zf_RX1_40 rfl (k_1_0 s0 hc) (Or.inl zw_RX1_40) (k2 := 9) rfl (fun h10 e11 => ?_)
  refine zj_aload_n (zdk ttX1_moveHands 13 rfl rfl) rfl (by omega) ?_
  refine zj_iload_n (zdk ttX1_moveHands 14 rfl rfl) rfl ?_
  refine zj_sipush (zdk ttX1_moveHands 15 rfl rfl) (by decide) ?_
  refine zj_callS (av := [.inl (zwp ((h.2 c 6) + p1)), .inl 720]) (st := [.inr c]) (zdk ttX1_moveHands 16 rfl rfl) mb_J9_floorMod_7cf53 ms_RX1_69 rfl rfl (Nat.le_of_ble_eq_true rfl) (s_J9_floorMod_7cf53 shC l h10 (zwp ((h.2 c 6) + p1)) 720 (by omega) (by omega)) (rm_ok (by decide) (by decide)) (zq_i fun v12 h13 q14 => ?_)
  obtain ⟨rfl, b15⟩ := q14
  have s16 : okC h10 := fw_1_0_9 s0 hc e11 (by omega)
  refine zj_puti (zdk ttX1_moveHands 17 rfl rfl) zf_RX1_31 rfl (k_1_0 s16 hc) (Or.inl zw_RX1_31) (k2 := 6) rfl (fun h17 e18 => ?_)
  have s19 : okC h17 := fw_1_0_6 s16 hc e18 (by omega)
  have f21 : zfC (w_X1_moveHands c) h h10 := zfC_w (zfC_r _ _) e11 (Or.inr (by omega))
  have f20 : zfC (w_X1_moveHands c) h h17 := zfC_w f21 e18 (Or.inl (by omega))
  exact zj_vret rfl (zdk ttX1_moveHands 18 rfl rfl) (Nat.le_refl _) (Nat.le_refl _) ⟨rfl, s19, f20, (by intro w E th x ec t0 b0; subst ec; have g0 := xC_g t0; have k0 := t0.2.1.1; have mv : (zwp ((h.2 (w + 1) 6) + p1)) = x.1 3 + p1 := (zwp_id (by unfold zin; omega)).trans (by omega); have t1 := xC_w (k := 6) t0 e11 (Or.inr (Or.inr (Or.inr (Or.inl ⟨rfl, rfl⟩)))); have t2 := xC_w (k := 3) t1 e18 (Or.inl ⟨rfl, rfl, by omega, by omega⟩); have d1 : v5 = (x.1 3 + p1) / 720 := (by omega); have d2 : v12 = (x.1 3 + p1) % 720 := (by omega); rw [d1, d2, g0.2.2.2.2.1] at t2; exact t2)⟩

abbrev q2_X9_happen (h : zM) (c : Int) (p1 : Int) (p2 : Int) : Option zV → zM → Prop := zqv fun h' => okC h' ∧ zfC (w_X9_happen c) h h' ∧ (∀ E th x l, xC h c E th x → (0 ≤ l ∧ l < E.dm) → p1 = E.dw l + 1 → p2 = E.dn l → xC h' c E th (fDd E l x.1, x.2))
set_option maxRecDepth 100000 in
set_option maxHeartbeats 4000000 in
theorem s2_X9_happen (l : Launch) (h : zM) (c : Int) (p1 : Int) (p2 : Int) (s0 : okC h) (hc : zWd c) (b_p1 : (-2147483648) ≤ p1 ∧ p1 ≤ 2147483647) (b_p2 : (-2147483648) ≤ p2 ∧ p2 ≤ 2147483647) : zT shC l yX9_happen cX9_happen 3 none (rmL 3) 0 0 [.inr c, .inl p1, .inl p2] h (q2_X9_happen h c p1 p2) := by
  refine zT_of (by decide +kernel) (L0 := [some (.inr c), some (.inl p1), some (.inl p2)]) rfl (Nat.le_of_ble_eq_true rfl) ?_
  have b1 := zWd_b hc
  refine zj_iload_n (zdk ttX9_happen 0 rfl rfl) rfl ?_
  have k3 : (p1 < 1 ∨ 5 < p1) → zJ shC l yX9_happen cX9_happen 3 none (rmL 3) 0 0 (q2_X9_happen h c p1 p2) 0 0 123 [some (.inr c), some (.inl p1), some (.inl p2)] [] h := by
    intro c2
    refine zj_aload_n (zdk ttX9_happen 48 rfl rfl) rfl (by omega) ?_
    refine zj_getr (r := (c + 1)) (zdk ttX9_happen 49 rfl rfl) zf_RX9_12 rfl (k_9_0 s0 hc) (rf_9_0_0 s0 hc) ?_
    refine zj_iload_n (zdk ttX9_happen 50 rfl rfl) rfl ?_
    refine zj_callV (av := [.inl p2]) (st := []) (zdk ttX9_happen 51 rfl rfl) mb_X1_moveHands mv_RX9_117 (ci := 1) rfl rfl (k_9_1 s0 hc) rfl rfl (Nat.le_of_ble_eq_true rfl) (s2_X1_moveHands l h (c + 1) p2 s0 (zs_9_1 hc) (by omega)) (rm_ok (by decide) (by decide)) (zq_v fun h6 q4 => ?_)
    obtain ⟨s8, f10, u9⟩ := q4
    have f11 : zfC (w_X9_happen c) h h6 := zfC_t (zfC_r _ _) f10 (fun a9 b9 z9 => by
      rcases z9 with z9 | z9
      · exact (Or.inl (by omega))
      · exact (Or.inr (by omega)))
    exact zj_vret rfl (zdk ttX9_happen 52 rfl rfl) (Nat.le_refl _) (Nat.le_refl _) ⟨rfl, s8, f11, (by intro E th x l t0 l0 e1 e2; have wd := (xC_td t0 l0.1 l0.2).2; have g0 := xC_g t0; have n0 := xC_n t0; have k0 := t0.2.1.1; obtain ⟨d1, d2, d3, d4⟩ := wd; unfold fDd; rw [if_neg (by omega), if_neg (by omega), if_neg (by omega), if_neg (by omega), if_neg (by omega)]; have t1 := u9 c E th x rfl t0 (by omega); rw [e2] at t1; exact t1)⟩
  have k12 : p1 = 1 → zJ shC l yX9_happen cX9_happen 3 none (rmL 3) 0 0 (q2_X9_happen h c p1 p2) 0 0 36 [some (.inr c), some (.inl p1), some (.inl p2)] [] h := by
    intro c2
    refine zj_aload_n (zdk ttX9_happen 2 rfl rfl) rfl (by omega) ?_
    refine zj_getr (r := (c + 1)) (zdk ttX9_happen 3 rfl rfl) zf_RX9_12 rfl (k_9_0 s0 hc) (rf_9_0_0 s0 hc) ?_
    refine zj_dup (zdk ttX9_happen 4 rfl rfl) ?_
    have b13 : -2147483648 ≤ (h.2 (c + 1) 5) ∧ (h.2 (c + 1) 5) ≤ 2147483647 := fb_9_1_5 s0 hc
    refine zj_geti (v := (h.2 (c + 1) 5)) (zdk ttX9_happen 5 rfl rfl) zf_RX9_105 rfl (k_9_1 s0 hc) rfl ?_
    refine zj_iconst (zdk ttX9_happen 6 rfl rfl) ?_
    refine zj_iload_n (zdk ttX9_happen 7 rfl rfl) rfl ?_
    refine zj_ishl (zdk ttX9_happen 8 rfl rfl) ?_
    have b14 := zshl_in 1 p2
    refine zj_ior (zdk ttX9_happen 9 rfl rfl) ?_
    have b15 := zor_in (h.2 (c + 1) 5) (zshl 1 p2)
    refine zj_puti (zdk ttX9_happen 10 rfl rfl) zf_RX9_105 rfl (k_9_1 s0 hc) (Or.inl zw_RX9_105) (k2 := 5) rfl (fun h16 e17 => ?_)
    refine zj_goto (t := 131) (zdk ttX9_happen 11 rfl rfl) (by decide) ?_
    have s18 : okC h16 := fw_9_1_5 s0 hc e17 (by omega)
    have f19 : zfC (w_X9_happen c) h h16 := zfC_w (zfC_r _ _) e17 (Or.inl (by omega))
    exact zj_vret rfl (zdk ttX9_happen 52 rfl rfl) (Nat.le_refl _) (Nat.le_refl _) ⟨rfl, s18, f19, (by intro E th x l t0 l0 e1 e2; have wd := (xC_td t0 l0.1 l0.2).2; have g0 := xC_g t0; have n0 := xC_n t0; have k0 := t0.2.1.1; obtain ⟨d1, d2, d3, d4⟩ := wd; unfold fDd; rw [if_pos (by omega), ← e2]; exact xC_s5 t0 e17 rfl (by omega))⟩
  have k20 : p1 = 2 → zJ shC l yX9_happen cX9_happen 3 none (rmL 3) 0 0 (q2_X9_happen h c p1 p2) 0 0 54 [some (.inr c), some (.inl p1), some (.inl p2)] [] h := by
    intro c2
    refine zj_aload_n (zdk ttX9_happen 12 rfl rfl) rfl (by omega) ?_
    refine zj_getr (r := (c + 1)) (zdk ttX9_happen 13 rfl rfl) zf_RX9_12 rfl (k_9_0 s0 hc) (rf_9_0_0 s0 hc) ?_
    refine zj_dup (zdk ttX9_happen 14 rfl rfl) ?_
    have b21 : -2147483648 ≤ (h.2 (c + 1) 5) ∧ (h.2 (c + 1) 5) ≤ 2147483647 := fb_9_1_5 s0 hc
    refine zj_geti (v := (h.2 (c + 1) 5)) (zdk ttX9_happen 15 rfl rfl) zf_RX9_105 rfl (k_9_1 s0 hc) rfl ?_
    refine zj_iconst (zdk ttX9_happen 16 rfl rfl) ?_
    refine zj_iload_n (zdk ttX9_happen 17 rfl rfl) rfl ?_
    refine zj_ishl (zdk ttX9_happen 18 rfl rfl) ?_
    have b22 := zshl_in 1 p2
    refine zj_iconst (zdk ttX9_happen 19 rfl rfl) ?_
    refine zj_ixor (zdk ttX9_happen 20 rfl rfl) ?_
    have b23 := zxor_in (zshl 1 p2) (-1)
    refine zj_iand (zdk ttX9_happen 21 rfl rfl) ?_
    have b24 := zand_in (h.2 (c + 1) 5) (zxor (zshl 1 p2) (-1))
    refine zj_puti (zdk ttX9_happen 22 rfl rfl) zf_RX9_105 rfl (k_9_1 s0 hc) (Or.inl zw_RX9_105) (k2 := 5) rfl (fun h25 e26 => ?_)
    refine zj_goto (t := 131) (zdk ttX9_happen 23 rfl rfl) (by decide) ?_
    have s27 : okC h25 := fw_9_1_5 s0 hc e26 (by omega)
    have f28 : zfC (w_X9_happen c) h h25 := zfC_w (zfC_r _ _) e26 (Or.inl (by omega))
    exact zj_vret rfl (zdk ttX9_happen 52 rfl rfl) (Nat.le_refl _) (Nat.le_refl _) ⟨rfl, s27, f28, (by intro E th x l t0 l0 e1 e2; have wd := (xC_td t0 l0.1 l0.2).2; have g0 := xC_g t0; have n0 := xC_n t0; have k0 := t0.2.1.1; obtain ⟨d1, d2, d3, d4⟩ := wd; unfold fDd; rw [if_neg (by omega), if_pos (by omega), ← e2]; exact xC_c5 t0 e26 rfl (by omega))⟩
  have k29 : p1 = 3 → zJ shC l yX9_happen cX9_happen 3 none (rmL 3) 0 0 (q2_X9_happen h c p1 p2) 0 0 74 [some (.inr c), some (.inl p1), some (.inl p2)] [] h := by
    intro c2
    refine zj_aload_n (zdk ttX9_happen 24 rfl rfl) rfl (by omega) ?_
    refine zj_getr (r := (c + 1)) (zdk ttX9_happen 25 rfl rfl) zf_RX9_12 rfl (k_9_0 s0 hc) (rf_9_0_0 s0 hc) ?_
    refine zj_iconst (zdk ttX9_happen 26 rfl rfl) ?_
    refine zj_puti (zdk ttX9_happen 27 rfl rfl) zf_RX9_108 rfl (k_9_1 s0 hc) (Or.inl zw_RX9_108) (k2 := 10) rfl (fun h30 e31 => ?_)
    refine zj_goto (t := 131) (zdk ttX9_happen 28 rfl rfl) (by decide) ?_
    have s32 : okC h30 := fw_9_1_10 s0 hc e31 (by omega)
    have f33 : zfC (w_X9_happen c) h h30 := zfC_w (zfC_r _ _) e31 (Or.inr (by omega))
    exact zj_vret rfl (zdk ttX9_happen 52 rfl rfl) (Nat.le_refl _) (Nat.le_refl _) ⟨rfl, s32, f33, (by intro E th x l t0 l0 e1 e2; have wd := (xC_td t0 l0.1 l0.2).2; have g0 := xC_g t0; have n0 := xC_n t0; have k0 := t0.2.1.1; obtain ⟨d1, d2, d3, d4⟩ := wd; unfold fDd; rw [if_neg (by omega), if_neg (by omega), if_pos (by omega)]; exact xC_sc t0 e31 rfl (Or.inl rfl))⟩
  have k34 : p1 = 4 → zJ shC l yX9_happen cX9_happen 3 none (rmL 3) 0 0 (q2_X9_happen h c p1 p2) 0 0 85 [some (.inr c), some (.inl p1), some (.inl p2)] [] h := by
    intro c2
    refine zj_aload_n (zdk ttX9_happen 29 rfl rfl) rfl (by omega) ?_
    refine zj_getr (r := (c + 1)) (zdk ttX9_happen 30 rfl rfl) zf_RX9_12 rfl (k_9_0 s0 hc) (rf_9_0_0 s0 hc) ?_
    refine zj_iconst (zdk ttX9_happen 31 rfl rfl) ?_
    refine zj_puti (zdk ttX9_happen 32 rfl rfl) zf_RX9_108 rfl (k_9_1 s0 hc) (Or.inl zw_RX9_108) (k2 := 10) rfl (fun h35 e36 => ?_)
    refine zj_goto (t := 131) (zdk ttX9_happen 33 rfl rfl) (by decide) ?_
    have s37 : okC h35 := fw_9_1_10 s0 hc e36 (by omega)
    have f38 : zfC (w_X9_happen c) h h35 := zfC_w (zfC_r _ _) e36 (Or.inr (by omega))
    exact zj_vret rfl (zdk ttX9_happen 52 rfl rfl) (Nat.le_refl _) (Nat.le_refl _) ⟨rfl, s37, f38, (by intro E th x l t0 l0 e1 e2; have wd := (xC_td t0 l0.1 l0.2).2; have g0 := xC_g t0; have n0 := xC_n t0; have k0 := t0.2.1.1; obtain ⟨d1, d2, d3, d4⟩ := wd; unfold fDd; rw [if_neg (by omega), if_neg (by omega), if_neg (by omega), if_pos (by omega)]; exact xC_sc t0 e36 rfl (Or.inr rfl))⟩
  have k39 : p1 = 5 → zJ shC l yX9_happen cX9_happen 3 none (rmL 3) 0 0 (q2_X9_happen h c p1 p2) 0 0 96 [some (.inr c), some (.inl p1), some (.inl p2)] [] h := by
    intro c2
    refine zj_aload_n (zdk ttX9_happen 34 rfl rfl) rfl (by omega) ?_
    refine zj_getr (r := (c + 1)) (zdk ttX9_happen 35 rfl rfl) zf_RX9_12 rfl (k_9_0 s0 hc) (rf_9_0_0 s0 hc) ?_
    refine zj_dup (zdk ttX9_happen 36 rfl rfl) ?_
    have b40 : -2147483648 ≤ (h.2 (c + 1) 11) ∧ (h.2 (c + 1) 11) ≤ 2147483647 := fb_9_1_11 s0 hc
    refine zj_geti (v := (h.2 (c + 1) 11)) (zdk ttX9_happen 37 rfl rfl) zf_RX9_111 rfl (k_9_1 s0 hc) rfl ?_
    refine zj_iload_n (zdk ttX9_happen 38 rfl rfl) rfl ?_
    refine zj_aload_n (zdk ttX9_happen 39 rfl rfl) rfl (by omega) ?_
    refine zj_getr (r := (c + 1)) (zdk ttX9_happen 40 rfl rfl) zf_RX9_12 rfl (k_9_0 s0 hc) (rf_9_0_0 s0 hc) ?_
    have b41 : 0 ≤ (h.2 (c + 1) 6) ∧ (h.2 (c + 1) 6) ≤ 719 := fb_9_1_6 s0 hc
    refine zj_geti (v := (h.2 (c + 1) 6)) (zdk ttX9_happen 41 rfl rfl) zf_RX9_114 rfl (k_9_1 s0 hc) rfl ?_
    refine zj_bipush (zdk ttX9_happen 42 rfl rfl) (by decide) ?_
    refine zj_idivP (zdk ttX9_happen 43 rfl rfl) (by omega) (by omega) ?_
    refine zj_imul (zdk ttX9_happen 44 rfl rfl) ?_
    refine zj_wrap ?_
    have b42 := zwp_in (p2 * ((h.2 (c + 1) 6) / 60))
    refine zj_iadd (zdk ttX9_happen 45 rfl rfl) ?_
    refine zj_wrap ?_
    have b43 := zwp_in ((h.2 (c + 1) 11) + (zwp (p2 * ((h.2 (c + 1) 6) / 60))))
    refine zj_puti (zdk ttX9_happen 46 rfl rfl) zf_RX9_111 rfl (k_9_1 s0 hc) (Or.inl zw_RX9_111) (k2 := 11) rfl (fun h44 e45 => ?_)
    refine zj_goto (t := 131) (zdk ttX9_happen 47 rfl rfl) (by decide) ?_
    have s46 : okC h44 := fw_9_1_11 s0 hc e45 (by omega)
    have f47 : zfC (w_X9_happen c) h h44 := zfC_w (zfC_r _ _) e45 (Or.inr (by omega))
    exact zj_vret rfl (zdk ttX9_happen 52 rfl rfl) (Nat.le_refl _) (Nat.le_refl _) ⟨rfl, s46, f47, (by intro E th x l t0 l0 e1 e2; have wd := (xC_td t0 l0.1 l0.2).2; have g0 := xC_g t0; have n0 := xC_n t0; have k0 := t0.2.1.1; obtain ⟨d1, d2, d3, d4⟩ := wd; unfold fDd; rw [if_neg (by omega), if_neg (by omega), if_neg (by omega), if_neg (by omega), if_pos (by omega)]; have t1 := xC_w (k := 8) t0 e45 (Or.inr (Or.inr (Or.inr (Or.inr (Or.inl ⟨rfl, rfl⟩))))); have dv : (zwp ((h.2 (c + 1) 11) + (zwp (p2 * ((h.2 (c + 1) 6) / 60))))) = zwp (x.1 8 + E.dn l * (x.1 3 / 60)) := (by rw [zwp_r, g0.2.2.2.2.2.2.1, g0.2.1, e2]); rw [dv] at t1; exact t1)⟩
  refine zj_table (t := 123) (zdk ttX9_happen 1 rfl rfl) (by omega) (by decide) k3 (fun z1 z2 => ?_)
  have z3 : p1 = 1 ∨ p1 = 2 ∨ p1 = 3 ∨ p1 = 4 ∨ p1 = 5 := by omega
  rcases z3 with z3 | z3 | z3 | z3 | z3
  · exact ⟨35, 36, by rw [z3] <;> rfl, by decide, k12 z3⟩
  · exact ⟨53, 54, by rw [z3] <;> rfl, by decide, k20 z3⟩
  · exact ⟨73, 74, by rw [z3] <;> rfl, by decide, k29 z3⟩
  · exact ⟨84, 85, by rw [z3] <;> rfl, by decide, k34 z3⟩
  · exact ⟨95, 96, by rw [z3] <;> rfl, by decide, k39 z3⟩

abbrev q2_X8_strokesOver (h : zM) (p1 : Int) (p2 : Int) : Option zV → zM → Prop := zqi fun v h' => h = h' ∧ (0 ≤ v ∧ v ≤ 8640) ∧ (v = zss p1 p2.toNat)
set_option maxRecDepth 100000 in
set_option maxHeartbeats 4000000 in
theorem s2_X8_strokesOver (l : Launch) (h : zM) (p1 : Int) (p2 : Int) (s0 : okC h) (b_p1 : 0 ≤ p1 ∧ p1 ≤ 719) (b_p2 : (-1440) ≤ p2 ∧ p2 ≤ 1440) : zT shC l yX8_strokesOver cX8_strokesOver 5 (some .int) (rmL 1) 0 0 [.inl p1, .inl p2] h (q2_X8_strokesOver h p1 p2) := by
  refine zT_of (by decide +kernel) (L0 := [some (.inl p1), some (.inl p2), none, none, none]) rfl (Nat.le_of_ble_eq_true rfl) ?_
  refine zj_iconst (zdk ttX8_strokesOver 0 rfl rfl) ?_
  refine zj_istore_n (L' := [some (.inl p1), some (.inl p2), some (.inl 0), none, none]) (zdk ttX8_strokesOver 1 rfl rfl) (by decide) rfl ?_
  refine zj_iload_n (zdk ttX8_strokesOver 2 rfl rfl) rfl ?_
  refine zj_bipush (zdk ttX8_strokesOver 3 rfl rfl) (by decide) ?_
  refine zj_idivP (zdk ttX8_strokesOver 4 rfl rfl) (by omega) (by omega) ?_
  refine zj_bipush (zdk ttX8_strokesOver 5 rfl rfl) (by decide) ?_
  refine zj_imul (zdk ttX8_strokesOver 6 rfl rfl) ?_
  refine zj_bipush (zdk ttX8_strokesOver 7 rfl rfl) (by decide) ?_
  refine zj_iadd (zdk ttX8_strokesOver 8 rfl rfl) ?_
  refine zj_istore_n (L' := [some (.inl p1), some (.inl p2), some (.inl 0), some (.inl (((p1 / 60) * 60) + 60)), none]) (zdk ttX8_strokesOver 9 rfl rfl) (by decide) rfl ?_
  have lp5 : ∀ (n : Nat) (x1 x2 : Int), (0 ≤ x1 ∧ x1 ≤ 444) → (60 ≤ x2 ∧ x2 ≤ 2219) → (x1 = zss p1 (x2 - 60 - p1).toNat) → (x1 * 5 ≤ x2 - 60) → (x2 % 60 = 0 ∧ p1 + 1 ≤ x2 ∧ (x2 - 60 ≤ p1 ∨ x2 - 60 ≤ p1 + p2)) → (2220 - x2).toNat < n → zJ shC l yX8_strokesOver cX8_strokesOver 5 (some .int) (rmL 1) 0 0 (q2_X8_strokesOver h p1 p2) 0 0 13 [some (.inl p1), some (.inl p2), some (.inl x1), some (.inl x2), none] [] h := by
    intro n
    induction n with
    | zero => intro x1 x2 b6 b7 u8 u9 u10 m11; exact absurd m11 (Nat.not_lt_zero _)
    | succ n ih12 =>
      intro x1 x2 b6 b7 u8 u9 u10 m11
      refine zj_iload_n (zdk ttX8_strokesOver 10 rfl rfl) rfl ?_
      refine zj_iload_n (zdk ttX8_strokesOver 11 rfl rfl) rfl ?_
      refine zj_iload_n (zdk ttX8_strokesOver 12 rfl rfl) rfl ?_
      refine zj_iadd (zdk ttX8_strokesOver 13 rfl rfl) ?_
      refine zj_icmp_gt (t := 50) (zdk ttX8_strokesOver 14 rfl rfl) (by decide) (by omega) (by omega) (fun c13 => ?_) (fun c13 => ?_)
      · refine zj_iload_n (zdk ttX8_strokesOver 31 rfl rfl) rfl ?_
        have b14 := zss_g p1 x2 (by omega) (x2 - 60 - p1).toNat p2.toNat (by omega) (by omega) (by omega)
        exact zj_iret rfl (zdk ttX8_strokesOver 32 rfl rfl) (Nat.le_refl _) (Nat.le_refl _) ⟨x1, rfl, rfl, by omega, by omega⟩
      · refine zj_iload_n (zdk ttX8_strokesOver 15 rfl rfl) rfl ?_
        refine zj_bipush (zdk ttX8_strokesOver 16 rfl rfl) (by decide) ?_
        refine zj_idivP (zdk ttX8_strokesOver 17 rfl rfl) (by omega) (by omega) ?_
        refine zj_bipush (zdk ttX8_strokesOver 18 rfl rfl) (by decide) ?_
        refine zj_iremP (zdk ttX8_strokesOver 19 rfl rfl) (by omega) (by omega) ?_
        refine zj_istore (L' := [some (.inl p1), some (.inl p2), some (.inl x1), some (.inl x2), some (.inl ((x2 / 60) % 12))]) (zdk ttX8_strokesOver 20 rfl rfl) (by decide) rfl ?_
        refine zj_iload_n (zdk ttX8_strokesOver 21 rfl rfl) rfl ?_
        refine zj_iload (zdk ttX8_strokesOver 22 rfl rfl) rfl ?_
        refine zj_if_ne (t := 40) (zdk ttX8_strokesOver 23 rfl rfl) (by decide) (by omega) (fun c15 => ?_) (fun c15 => ?_)
        · refine zj_iload (zdk ttX8_strokesOver 26 rfl rfl) rfl ?_
          refine zj_iadd (zdk ttX8_strokesOver 27 rfl rfl) ?_
          refine zj_istore_n (L' := [some (.inl p1), some (.inl p2), some (.inl (x1 + ((x2 / 60) % 12))), some (.inl x2), some (.inl ((x2 / 60) % 12))]) (zdk ttX8_strokesOver 28 rfl rfl) (by decide) rfl ?_
          refine zj_iinc (L' := [some (.inl p1), some (.inl p2), some (.inl (x1 + ((x2 / 60) % 12))), some (.inl (x2 + 60)), some (.inl ((x2 / 60) % 12))]) (zdk ttX8_strokesOver 29 rfl rfl) rfl (by decide) rfl ?_
          refine zj_goto (t := 13) (zdk ttX8_strokesOver 30 rfl rfl) (by decide) ?_
          refine zj_kill (k := 4) (L' := [some (.inl p1), some (.inl p2), some (.inl (x1 + ((x2 / 60) % 12))), some (.inl (x2 + 60)), none]) rfl ?_
          have b16 := zss_t (a := p1) (t := x2) (by omega) (by omega)
          have b16f := zsk_f x2
          have b16e : (x2 + 60 - 60 - p1) = x2 - p1 := by omega
          exact ih12  (x1 + ((x2 / 60) % 12)) (x2 + 60) (by omega) (by omega) (by rw [b16e]; omega) (by omega) (by omega) (by omega)
        · refine zj_bipush (zdk ttX8_strokesOver 24 rfl rfl) (by decide) ?_
          refine zj_goto (t := 42) (zdk ttX8_strokesOver 25 rfl rfl) (by decide) ?_
          refine zj_iadd (zdk ttX8_strokesOver 27 rfl rfl) ?_
          refine zj_istore_n (L' := [some (.inl p1), some (.inl p2), some (.inl (x1 + 12)), some (.inl x2), some (.inl ((x2 / 60) % 12))]) (zdk ttX8_strokesOver 28 rfl rfl) (by decide) rfl ?_
          refine zj_iinc (L' := [some (.inl p1), some (.inl p2), some (.inl (x1 + 12)), some (.inl (x2 + 60)), some (.inl ((x2 / 60) % 12))]) (zdk ttX8_strokesOver 29 rfl rfl) rfl (by decide) rfl ?_
          refine zj_goto (t := 13) (zdk ttX8_strokesOver 30 rfl rfl) (by decide) ?_
          refine zj_kill (k := 4) (L' := [some (.inl p1), some (.inl p2), some (.inl (x1 + 12)), some (.inl (x2 + 60)), none]) rfl ?_
          have b17 := zss_t (a := p1) (t := x2) (by omega) (by omega)
          have b17f := zsk_f x2
          have b17e : (x2 + 60 - 60 - p1) = x2 - p1 := by omega
          exact ih12  (x1 + 12) (x2 + 60) (by omega) (by omega) (by rw [b17e]; omega) (by omega) (by omega) (by omega)
  have b18 : ((((p1 / 60) * 60) + 60) - 60 - p1).toNat = 0 := by omega
  exact lp5 _ 0 (((p1 / 60) * 60) + 60) (by omega) (by omega) (by rw [b18]; rfl) (by omega) (by omega) (Nat.lt_succ_self _)

abbrev q2_X9_runClock (h : zM) (c : Int) : Option zV → zM → Prop := zqv fun h' => okC h' ∧ zfC (w_X9_runClock c) h h' ∧ (∀ E th x, xC h c E th x → xC h' c E th (fCl th x))
set_option maxRecDepth 100000 in
set_option maxHeartbeats 4000000 in
theorem s2_X9_runClock (l : Launch) (h : zM) (c : Int) (s0 : okC h) (hc : zWd c) : zT shC l yX9_runClock cX9_runClock 3 none (rmL 3) 0 0 [.inr c] h (q2_X9_runClock h c) := by
  refine zT_of (by decide +kernel) (L0 := [some (.inr c), none, none]) rfl (Nat.le_of_ble_eq_true rfl) ?_
  have b1 := zWd_b hc
  refine zj_sipush (zdk ttX9_runClock 0 rfl rfl) (by decide) ?_
  refine zj_sipush (zdk ttX9_runClock 1 rfl rfl) (by decide) ?_
  refine zj_aload_n (zdk ttX9_runClock 2 rfl rfl) rfl (by omega) ?_
  refine zj_getr (r := (c + 1)) (zdk ttX9_runClock 3 rfl rfl) zf_RX9_12 rfl (k_9_0 s0 hc) (rf_9_0_0 s0 hc) ?_
  have b2 : -2147483648 ≤ (h.2 (c + 1) 7) ∧ (h.2 (c + 1) 7) ≤ 2147483647 := fb_9_1_7 s0 hc
  refine zj_geti (v := (h.2 (c + 1) 7)) (zdk ttX9_runClock 4 rfl rfl) zf_RX9_159 rfl (k_9_1 s0 hc) rfl ?_
  refine zj_min (zdk ttX9_runClock 5 rfl rfl) mx_RX9_166 (by decide) (by omega) (Nat.le_of_ble_eq_true rfl) (rm_m (by decide)) ?_
  have b3 := zm_min_f 1440 (h.2 (c + 1) 7)
  refine zj_max (zdk ttX9_runClock 6 rfl rfl) mx_RX9_171 (by decide) (by omega) (Nat.le_of_ble_eq_true rfl) (rm_m (by decide)) ?_
  have b4 := zm_max_f (-1440) (zm_min 1440 (h.2 (c + 1) 7))
  refine zj_istore_n (L' := [some (.inr c), some (.inl (zm_max (-1440) (zm_min 1440 (h.2 (c + 1) 7)))), none]) (zdk ttX9_runClock 7 rfl rfl) (by decide) rfl ?_
  refine zj_aload_n (zdk ttX9_runClock 8 rfl rfl) rfl (by omega) ?_
  refine zj_getr (r := (c + 1)) (zdk ttX9_runClock 9 rfl rfl) zf_RX9_12 rfl (k_9_0 s0 hc) (rf_9_0_0 s0 hc) ?_
  have b5 : 0 ≤ (h.2 (c + 1) 6) ∧ (h.2 (c + 1) 6) ≤ 719 := fb_9_1_6 s0 hc
  refine zj_geti (v := (h.2 (c + 1) 6)) (zdk ttX9_runClock 10 rfl rfl) zf_RX9_114 rfl (k_9_1 s0 hc) rfl ?_
  refine zj_iload_n (zdk ttX9_runClock 11 rfl rfl) rfl ?_
  refine zj_callS (av := [.inl (h.2 (c + 1) 6), .inl (zm_max (-1440) (zm_min 1440 (h.2 (c + 1) 7)))]) (st := []) (zdk ttX9_runClock 12 rfl rfl) mb_X8_strokesOver ms_RX9_174 rfl rfl (Nat.le_of_ble_eq_true rfl) (s2_X8_strokesOver l h (h.2 (c + 1) 6) (zm_max (-1440) (zm_min 1440 (h.2 (c + 1) 7))) s0 (by omega) (by omega)) (rm_ok (by decide) (by decide)) (zq_i fun v7 h8 q6 => ?_)
  obtain ⟨rfl, b9, u10⟩ := q6
  refine zj_istore_n (L' := [some (.inr c), some (.inl (zm_max (-1440) (zm_min 1440 (h.2 (c + 1) 7)))), some (.inl v7)]) (zdk ttX9_runClock 13 rfl rfl) (by decide) rfl ?_
  refine zj_aload_n (zdk ttX9_runClock 14 rfl rfl) rfl (by omega) ?_
  refine zj_getr (r := (c + 1)) (zdk ttX9_runClock 15 rfl rfl) zf_RX9_12 rfl (k_9_0 s0 hc) (rf_9_0_0 s0 hc) ?_
  refine zj_iload_n (zdk ttX9_runClock 16 rfl rfl) rfl ?_
  refine zj_callV (av := [.inl (zm_max (-1440) (zm_min 1440 (h.2 (c + 1) 7)))]) (st := []) (zdk ttX9_runClock 17 rfl rfl) mb_X1_moveHands mv_RX9_117 (ci := 1) rfl rfl (k_9_1 s0 hc) rfl rfl (Nat.le_of_ble_eq_true rfl) (s2_X1_moveHands l h (c + 1) (zm_max (-1440) (zm_min 1440 (h.2 (c + 1) 7))) s0 (zs_9_1 hc) (by omega)) (rm_ok (by decide) (by decide)) (zq_v fun h13 q11 => ?_)
  obtain ⟨s15, f17, u16⟩ := q11
  refine zj_aload_n (zdk ttX9_runClock 18 rfl rfl) rfl (by omega) ?_
  refine zj_getr (r := (c + 1)) (zdk ttX9_runClock 19 rfl rfl) zf_RX9_12 rfl (k_9_0 s15 hc) (rf_9_0_0 s15 hc) ?_
  refine zj_dup (zdk ttX9_runClock 20 rfl rfl) ?_
  refine zj_geti (v := (h.2 (c + 1) 7)) (zdk ttX9_runClock 21 rfl rfl) zf_RX9_159 rfl (k_9_1 s15 hc) (zfC_a f17 (fun z9 => by unfold w_X1_moveHands at z9; first | (revert z9; decide) | omega)) ?_
  refine zj_iload_n (zdk ttX9_runClock 22 rfl rfl) rfl ?_
  refine zj_isub (zdk ttX9_runClock 23 rfl rfl) ?_
  refine zj_wrap ?_
  have b18 := zwp_in ((h.2 (c + 1) 7) - (zm_max (-1440) (zm_min 1440 (h.2 (c + 1) 7))))
  refine zj_puti (zdk ttX9_runClock 24 rfl rfl) zf_RX9_159 rfl (k_9_1 s15 hc) (Or.inl zw_RX9_159) (k2 := 7) rfl (fun h19 e20 => ?_)
  refine zj_aload_n (zdk ttX9_runClock 25 rfl rfl) rfl (by omega) ?_
  have s21 : okC h19 := fw_9_1_7 s15 hc e20 (by omega)
  refine zj_getr (r := (c + 1)) (zdk ttX9_runClock 26 rfl rfl) zf_RX9_12 rfl (k_9_0 s21 hc) (rf_9_0_0 s21 hc) ?_
  refine zj_dup (zdk ttX9_runClock 27 rfl rfl) ?_
  have b22 : -2147483648 ≤ (h.2 (c + 1) 8) ∧ (h.2 (c + 1) 8) ≤ 2147483647 := fb_9_1_8 s0 hc
  refine zj_geti (v := (h.2 (c + 1) 8)) (zdk ttX9_runClock 28 rfl rfl) zf_RX9_179 rfl (k_9_1 s21 hc) ((zwr_r e20 (by first | decide | exact (absurd ·.1 (by decide)) | exact (absurd ·.2 (by decide)) | omega)).trans (zfC_a f17 (fun z9 => by unfold w_X1_moveHands at z9; first | (revert z9; decide) | omega))) ?_
  refine zj_iload_n (zdk ttX9_runClock 29 rfl rfl) rfl ?_
  refine zj_iadd (zdk ttX9_runClock 30 rfl rfl) ?_
  refine zj_wrap ?_
  have b23 := zwp_in ((h.2 (c + 1) 8) + v7)
  refine zj_puti (zdk ttX9_runClock 31 rfl rfl) zf_RX9_179 rfl (k_9_1 s21 hc) (Or.inl zw_RX9_179) (k2 := 8) rfl (fun h24 e25 => ?_)
  refine zj_iload_n (zdk ttX9_runClock 32 rfl rfl) rfl ?_
  refine zj_if_le (t := 87) (zdk ttX9_runClock 33 rfl rfl) (by decide) (by omega) (fun c26 => ?_) (fun c26 => ?_)
  · refine zj_iload_n (zdk ttX9_runClock 43 rfl rfl) rfl ?_
    refine zj_if_ne (t := 114) (zdk ttX9_runClock 44 rfl rfl) (by decide) (by omega) (fun c27 => ?_) (fun c27 => ?_)
    · refine zj_iload_n (zdk ttX9_runClock 56 rfl rfl) rfl ?_
      refine zj_if_ge (t := 136) (zdk ttX9_runClock 57 rfl rfl) (by decide) (by omega) (fun c28 => ?_) (fun c28 => ?_)
      · have s29 : okC h24 := fw_9_1_8 s21 hc e25 (by omega)
        have f32 : zfC (w_X9_runClock c) h h13 := zfC_t (zfC_r _ _) f17 (fun a9 b9 z9 => by
          rcases z9 with z9 | z9
          · exact (Or.inl (by omega))
          · exact (Or.inl (by omega)))
        have f31 : zfC (w_X9_runClock c) h h19 := zfC_w f32 e20 (Or.inl (by omega))
        have f30 : zfC (w_X9_runClock c) h h24 := zfC_w f31 e25 (Or.inl (by omega))
        exact zj_vret rfl (zdk ttX9_runClock 68 rfl rfl) (Nat.le_refl _) (Nat.le_refl _) ⟨rfl, s29, f30, (by intro E th x t0; have g0 := xC_g t0; have mi : (zm_max (-1440) (zm_min 1440 (h.2 (c + 1) 7))) = fMi x.1 := (by unfold fMi; rw [← g0.2.2.1]; exact fHeld_m (by decide)); have so : v7 = zss (x.1 3) (fMi x.1).toNat := (by rw [← mi, ← g0.2.1]; exact u10); have mb := fMi_b x.1; have t1 := u16 c E th x rfl t0 (by omega); rw [mi] at t1; have t2 := xC_w (k := 4) t1 e20 (Or.inr (Or.inl ⟨rfl, rfl⟩)); rw [show (zwp ((h.2 (c + 1) 7) - (zm_max (-1440) (zm_min 1440 (h.2 (c + 1) 7))))) = zwp (x.1 4 - fMi x.1) by rw [mi, g0.2.2.1]] at t2; have t3 := xC_w (k := 5) t2 e25 (Or.inr (Or.inr (Or.inl ⟨rfl, rfl⟩))); rw [show (zwp ((h.2 (c + 1) 8) + v7)) = zwp (x.1 5 + zss (x.1 3) (fMi x.1).toNat) by rw [so, g0.2.2.2.1]] at t3; have t4 : xC h24 c E th (fC1 x.1, x.2) := t3; have c0 := fC1_0 x.1; have c3 := fC1_3 x.1; unfold fCl; show xC _ c E th (if fMi x.1 < 0 then fNt th (if fMi x.1 = 0 then fNt th (if 0 < zss (x.1 3) (fMi x.1).toNat then fNt th (fC1 x.1, x.2) 2 (-1) (zss (x.1 3) (fMi x.1).toNat) else (fC1 x.1, x.2)) 3 (-1) ((if 0 < zss (x.1 3) (fMi x.1).toNat then fNt th (fC1 x.1, x.2) 2 (-1) (zss (x.1 3) (fMi x.1).toNat) else (fC1 x.1, x.2)).1 3) else (if 0 < zss (x.1 3) (fMi x.1).toNat then fNt th (fC1 x.1, x.2) 2 (-1) (zss (x.1 3) (fMi x.1).toNat) else (fC1 x.1, x.2))) 4 (-1) (-fMi x.1) else (if fMi x.1 = 0 then fNt th (if 0 < zss (x.1 3) (fMi x.1).toNat then fNt th (fC1 x.1, x.2) 2 (-1) (zss (x.1 3) (fMi x.1).toNat) else (fC1 x.1, x.2)) 3 (-1) ((if 0 < zss (x.1 3) (fMi x.1).toNat then fNt th (fC1 x.1, x.2) 2 (-1) (zss (x.1 3) (fMi x.1).toNat) else (fC1 x.1, x.2)).1 3) else (if 0 < zss (x.1 3) (fMi x.1).toNat then fNt th (fC1 x.1, x.2) 2 (-1) (zss (x.1 3) (fMi x.1).toNat) else (fC1 x.1, x.2)))); rw [if_neg (show ¬ fMi x.1 < 0 by omega), if_neg (show ¬ fMi x.1 = 0 by omega), if_neg (show ¬ 0 < zss (x.1 3) (fMi x.1).toNat by omega)]; exact t4)⟩
      · refine zj_aload_n (zdk ttX9_runClock 58 rfl rfl) rfl (by omega) ?_
        have s33 : okC h24 := fw_9_1_8 s21 hc e25 (by omega)
        refine zj_getr (r := (c + 22)) (zdk ttX9_runClock 59 rfl rfl) zf_RX9_45 rfl (k_9_0 s33 hc) (rf_9_0_5 s33 hc) ?_
        refine zj_aload_n (zdk ttX9_runClock 60 rfl rfl) rfl (by omega) ?_
        refine zj_getr (r := (c + 1)) (zdk ttX9_runClock 61 rfl rfl) zf_RX9_12 rfl (k_9_0 s33 hc) (rf_9_0_0 s33 hc) ?_
        have b34 : -2147483648 ≤ (h.2 (c + 1) 12) ∧ (h.2 (c + 1) 12) ≤ 2147483647 := fb_9_1_12 s0 hc
        refine zj_geti (v := (h.2 (c + 1) 12)) (zdk ttX9_runClock 62 rfl rfl) zf_RX9_83 rfl (k_9_1 s33 hc) (((zwr_r e25 (by first | decide | exact (absurd ·.1 (by decide)) | exact (absurd ·.2 (by decide)) | omega)).trans (zwr_r e20 (by first | decide | exact (absurd ·.1 (by decide)) | exact (absurd ·.2 (by decide)) | omega))).trans (zfC_a f17 (fun z9 => by unfold w_X1_moveHands at z9; first | (revert z9; decide) | omega))) ?_
        refine zj_iconst (zdk ttX9_runClock 63 rfl rfl) ?_
        refine zj_iconst (zdk ttX9_runClock 64 rfl rfl) ?_
        refine zj_iload_n (zdk ttX9_runClock 65 rfl rfl) rfl ?_
        refine zj_ineg (zdk ttX9_runClock 66 rfl rfl) ?_
        refine zj_callV (av := [.inl (h.2 (c + 1) 12), .inl 4, .inl (-1), .inl (-(zm_max (-1440) (zm_min 1440 (h.2 (c + 1) 7))))]) (st := []) (zdk ttX9_runClock 67 rfl rfl) mb_X0_write mv_RX9_162 (ci := 0) rfl rfl (k_9_22 s33 hc) rfl rfl (Nat.le_of_ble_eq_true rfl) (s2_X0_write l h24 (c + 22) (h.2 (c + 1) 12) 4 (-1) (-(zm_max (-1440) (zm_min 1440 (h.2 (c + 1) 7)))) s33 (zs_9_22 hc) (by omega) (by omega) (by omega) (by omega)) (rm_ok (by decide) (by decide)) (zq_v fun h37 q35 => ?_)
        obtain ⟨s39, f41, u40⟩ := q35
        have f45 : zfC (w_X9_runClock c) h h13 := zfC_t (zfC_r _ _) f17 (fun a9 b9 z9 => by
          rcases z9 with z9 | z9
          · exact (Or.inl (by omega))
          · exact (Or.inl (by omega)))
        have f44 : zfC (w_X9_runClock c) h h19 := zfC_w f45 e20 (Or.inl (by omega))
        have f43 : zfC (w_X9_runClock c) h h24 := zfC_w f44 e25 (Or.inl (by omega))
        have f42 : zfC (w_X9_runClock c) h h37 := zfC_t f43 f41 (fun a9 b9 z9 => by
          rcases z9 with z9 | z9
          · exact (Or.inr (Or.inl (by omega)))
          · exact (Or.inr (Or.inr (by omega))))
        have b46 : h24.2 (c + 1) 12 = (h.2 (c + 1) 12) := (((zwr_r e25 (by first | decide | exact (absurd ·.1 (by decide)) | exact (absurd ·.2 (by decide)) | omega)).trans (zwr_r e20 (by first | decide | exact (absurd ·.1 (by decide)) | exact (absurd ·.2 (by decide)) | omega))).trans (zfC_a f17 (fun z9 => by unfold w_X1_moveHands at z9; first | (revert z9; decide) | omega)))
        have b47 : h24.2 (c + 1) 6 = (h13.2 (c + 1) 6) := ((zwr_r e25 (by first | decide | exact (absurd ·.1 (by decide)) | exact (absurd ·.2 (by decide)) | omega)).trans (zwr_r e20 (by first | decide | exact (absurd ·.1 (by decide)) | exact (absurd ·.2 (by decide)) | omega)))
        exact zj_vret rfl (zdk ttX9_runClock 68 rfl rfl) (Nat.le_refl _) (Nat.le_refl _) ⟨rfl, s39, f42, (by intro E th x t0; have g0 := xC_g t0; have mi : (zm_max (-1440) (zm_min 1440 (h.2 (c + 1) 7))) = fMi x.1 := (by unfold fMi; rw [← g0.2.2.1]; exact fHeld_m (by decide)); have so : v7 = zss (x.1 3) (fMi x.1).toNat := (by rw [← mi, ← g0.2.1]; exact u10); have mb := fMi_b x.1; have t1 := u16 c E th x rfl t0 (by omega); rw [mi] at t1; have t2 := xC_w (k := 4) t1 e20 (Or.inr (Or.inl ⟨rfl, rfl⟩)); rw [show (zwp ((h.2 (c + 1) 7) - (zm_max (-1440) (zm_min 1440 (h.2 (c + 1) 7))))) = zwp (x.1 4 - fMi x.1) by rw [mi, g0.2.2.1]] at t2; have t3 := xC_w (k := 5) t2 e25 (Or.inr (Or.inr (Or.inl ⟨rfl, rfl⟩))); rw [show (zwp ((h.2 (c + 1) 8) + v7)) = zwp (x.1 5 + zss (x.1 3) (fMi x.1).toNat) by rw [so, g0.2.2.2.1]] at t3; have t4 : xC h24 c E th (fC1 x.1, x.2) := t3; have c0 := fC1_0 x.1; have c3 := fC1_3 x.1; have d1 := xC_g t4; have w1 := (xC_nt t4 (fun a9 b9 y9 z9 => zfC_a f41 (fun q9 => by unfold w_X0_write at q9; first | (revert q9; decide) | omega)) (by have z8 := u40; exact z8) (by omega)); rw [show (-(zm_max (-1440) (zm_min 1440 (h.2 (c + 1) 7)))) = -fMi x.1 by omega] at w1; unfold fCl; show xC _ c E th (if fMi x.1 < 0 then fNt th (if fMi x.1 = 0 then fNt th (if 0 < zss (x.1 3) (fMi x.1).toNat then fNt th (fC1 x.1, x.2) 2 (-1) (zss (x.1 3) (fMi x.1).toNat) else (fC1 x.1, x.2)) 3 (-1) ((if 0 < zss (x.1 3) (fMi x.1).toNat then fNt th (fC1 x.1, x.2) 2 (-1) (zss (x.1 3) (fMi x.1).toNat) else (fC1 x.1, x.2)).1 3) else (if 0 < zss (x.1 3) (fMi x.1).toNat then fNt th (fC1 x.1, x.2) 2 (-1) (zss (x.1 3) (fMi x.1).toNat) else (fC1 x.1, x.2))) 4 (-1) (-fMi x.1) else (if fMi x.1 = 0 then fNt th (if 0 < zss (x.1 3) (fMi x.1).toNat then fNt th (fC1 x.1, x.2) 2 (-1) (zss (x.1 3) (fMi x.1).toNat) else (fC1 x.1, x.2)) 3 (-1) ((if 0 < zss (x.1 3) (fMi x.1).toNat then fNt th (fC1 x.1, x.2) 2 (-1) (zss (x.1 3) (fMi x.1).toNat) else (fC1 x.1, x.2)).1 3) else (if 0 < zss (x.1 3) (fMi x.1).toNat then fNt th (fC1 x.1, x.2) 2 (-1) (zss (x.1 3) (fMi x.1).toNat) else (fC1 x.1, x.2)))); rw [if_pos (show fMi x.1 < 0 by omega), if_neg (show ¬ fMi x.1 = 0 by omega), if_neg (show ¬ 0 < zss (x.1 3) (fMi x.1).toNat by omega)]; exact w1)⟩
    · refine zj_aload_n (zdk ttX9_runClock 45 rfl rfl) rfl (by omega) ?_
      have s48 : okC h24 := fw_9_1_8 s21 hc e25 (by omega)
      refine zj_getr (r := (c + 22)) (zdk ttX9_runClock 46 rfl rfl) zf_RX9_45 rfl (k_9_0 s48 hc) (rf_9_0_5 s48 hc) ?_
      refine zj_aload_n (zdk ttX9_runClock 47 rfl rfl) rfl (by omega) ?_
      refine zj_getr (r := (c + 1)) (zdk ttX9_runClock 48 rfl rfl) zf_RX9_12 rfl (k_9_0 s48 hc) (rf_9_0_0 s48 hc) ?_
      have b49 : -2147483648 ≤ (h.2 (c + 1) 12) ∧ (h.2 (c + 1) 12) ≤ 2147483647 := fb_9_1_12 s0 hc
      refine zj_geti (v := (h.2 (c + 1) 12)) (zdk ttX9_runClock 49 rfl rfl) zf_RX9_83 rfl (k_9_1 s48 hc) (((zwr_r e25 (by first | decide | exact (absurd ·.1 (by decide)) | exact (absurd ·.2 (by decide)) | omega)).trans (zwr_r e20 (by first | decide | exact (absurd ·.1 (by decide)) | exact (absurd ·.2 (by decide)) | omega))).trans (zfC_a f17 (fun z9 => by unfold w_X1_moveHands at z9; first | (revert z9; decide) | omega))) ?_
      refine zj_iconst (zdk ttX9_runClock 50 rfl rfl) ?_
      refine zj_iconst (zdk ttX9_runClock 51 rfl rfl) ?_
      refine zj_aload_n (zdk ttX9_runClock 52 rfl rfl) rfl (by omega) ?_
      refine zj_getr (r := (c + 1)) (zdk ttX9_runClock 53 rfl rfl) zf_RX9_12 rfl (k_9_0 s48 hc) (rf_9_0_0 s48 hc) ?_
      have b50 : 0 ≤ (h13.2 (c + 1) 6) ∧ (h13.2 (c + 1) 6) ≤ 719 := fb_9_1_6 s15 hc
      refine zj_geti (v := (h13.2 (c + 1) 6)) (zdk ttX9_runClock 54 rfl rfl) zf_RX9_114 rfl (k_9_1 s48 hc) ((zwr_r e25 (by first | decide | exact (absurd ·.1 (by decide)) | exact (absurd ·.2 (by decide)) | omega)).trans (zwr_r e20 (by first | decide | exact (absurd ·.1 (by decide)) | exact (absurd ·.2 (by decide)) | omega))) ?_
      refine zj_callV (av := [.inl (h.2 (c + 1) 12), .inl 3, .inl (-1), .inl (h13.2 (c + 1) 6)]) (st := []) (zdk ttX9_runClock 55 rfl rfl) mb_X0_write mv_RX9_162 (ci := 0) rfl rfl (k_9_22 s48 hc) rfl rfl (Nat.le_of_ble_eq_true rfl) (s2_X0_write l h24 (c + 22) (h.2 (c + 1) 12) 3 (-1) (h13.2 (c + 1) 6) s48 (zs_9_22 hc) (by omega) (by omega) (by omega) (by omega)) (rm_ok (by decide) (by decide)) (zq_v fun h53 q51 => ?_)
      obtain ⟨s55, f57, u56⟩ := q51
      refine zj_iload_n (zdk ttX9_runClock 56 rfl rfl) rfl ?_
      refine zj_if_ge (t := 136) (zdk ttX9_runClock 57 rfl rfl) (by decide) (by omega) (fun c58 => ?_) (fun c58 => ?_)
      · have f62 : zfC (w_X9_runClock c) h h13 := zfC_t (zfC_r _ _) f17 (fun a9 b9 z9 => by
          rcases z9 with z9 | z9
          · exact (Or.inl (by omega))
          · exact (Or.inl (by omega)))
        have f61 : zfC (w_X9_runClock c) h h19 := zfC_w f62 e20 (Or.inl (by omega))
        have f60 : zfC (w_X9_runClock c) h h24 := zfC_w f61 e25 (Or.inl (by omega))
        have f59 : zfC (w_X9_runClock c) h h53 := zfC_t f60 f57 (fun a9 b9 z9 => by
          rcases z9 with z9 | z9
          · exact (Or.inr (Or.inl (by omega)))
          · exact (Or.inr (Or.inr (by omega))))
        have b63 : h24.2 (c + 1) 12 = (h.2 (c + 1) 12) := (((zwr_r e25 (by first | decide | exact (absurd ·.1 (by decide)) | exact (absurd ·.2 (by decide)) | omega)).trans (zwr_r e20 (by first | decide | exact (absurd ·.1 (by decide)) | exact (absurd ·.2 (by decide)) | omega))).trans (zfC_a f17 (fun z9 => by unfold w_X1_moveHands at z9; first | (revert z9; decide) | omega)))
        have b64 : h24.2 (c + 1) 6 = (h13.2 (c + 1) 6) := ((zwr_r e25 (by first | decide | exact (absurd ·.1 (by decide)) | exact (absurd ·.2 (by decide)) | omega)).trans (zwr_r e20 (by first | decide | exact (absurd ·.1 (by decide)) | exact (absurd ·.2 (by decide)) | omega)))
        exact zj_vret rfl (zdk ttX9_runClock 68 rfl rfl) (Nat.le_refl _) (Nat.le_refl _) ⟨rfl, s55, f59, (by intro E th x t0; have g0 := xC_g t0; have mi : (zm_max (-1440) (zm_min 1440 (h.2 (c + 1) 7))) = fMi x.1 := (by unfold fMi; rw [← g0.2.2.1]; exact fHeld_m (by decide)); have so : v7 = zss (x.1 3) (fMi x.1).toNat := (by rw [← mi, ← g0.2.1]; exact u10); have mb := fMi_b x.1; have t1 := u16 c E th x rfl t0 (by omega); rw [mi] at t1; have t2 := xC_w (k := 4) t1 e20 (Or.inr (Or.inl ⟨rfl, rfl⟩)); rw [show (zwp ((h.2 (c + 1) 7) - (zm_max (-1440) (zm_min 1440 (h.2 (c + 1) 7))))) = zwp (x.1 4 - fMi x.1) by rw [mi, g0.2.2.1]] at t2; have t3 := xC_w (k := 5) t2 e25 (Or.inr (Or.inr (Or.inl ⟨rfl, rfl⟩))); rw [show (zwp ((h.2 (c + 1) 8) + v7)) = zwp (x.1 5 + zss (x.1 3) (fMi x.1).toNat) by rw [so, g0.2.2.2.1]] at t3; have t4 : xC h24 c E th (fC1 x.1, x.2) := t3; have c0 := fC1_0 x.1; have c3 := fC1_3 x.1; have d1 := xC_g t4; have w1 := (xC_nt t4 (fun a9 b9 y9 z9 => zfC_a f57 (fun q9 => by unfold w_X0_write at q9; first | (revert q9; decide) | omega)) (by have z8 := u56; exact z8) (by omega)); rw [show (h13.2 (c + 1) 6) = (fC1 x.1, x.2).1 3 by omega] at w1; unfold fCl; show xC _ c E th (if fMi x.1 < 0 then fNt th (if fMi x.1 = 0 then fNt th (if 0 < zss (x.1 3) (fMi x.1).toNat then fNt th (fC1 x.1, x.2) 2 (-1) (zss (x.1 3) (fMi x.1).toNat) else (fC1 x.1, x.2)) 3 (-1) ((if 0 < zss (x.1 3) (fMi x.1).toNat then fNt th (fC1 x.1, x.2) 2 (-1) (zss (x.1 3) (fMi x.1).toNat) else (fC1 x.1, x.2)).1 3) else (if 0 < zss (x.1 3) (fMi x.1).toNat then fNt th (fC1 x.1, x.2) 2 (-1) (zss (x.1 3) (fMi x.1).toNat) else (fC1 x.1, x.2))) 4 (-1) (-fMi x.1) else (if fMi x.1 = 0 then fNt th (if 0 < zss (x.1 3) (fMi x.1).toNat then fNt th (fC1 x.1, x.2) 2 (-1) (zss (x.1 3) (fMi x.1).toNat) else (fC1 x.1, x.2)) 3 (-1) ((if 0 < zss (x.1 3) (fMi x.1).toNat then fNt th (fC1 x.1, x.2) 2 (-1) (zss (x.1 3) (fMi x.1).toNat) else (fC1 x.1, x.2)).1 3) else (if 0 < zss (x.1 3) (fMi x.1).toNat then fNt th (fC1 x.1, x.2) 2 (-1) (zss (x.1 3) (fMi x.1).toNat) else (fC1 x.1, x.2)))); rw [if_neg (show ¬ fMi x.1 < 0 by omega), if_pos (show fMi x.1 = 0 by omega), if_neg (show ¬ 0 < zss (x.1 3) (fMi x.1).toNat by omega)]; exact w1)⟩
      · exact absurd c58 (by omega)
  · refine zj_aload_n (zdk ttX9_runClock 34 rfl rfl) rfl (by omega) ?_
    have s65 : okC h24 := fw_9_1_8 s21 hc e25 (by omega)
    refine zj_getr (r := (c + 22)) (zdk ttX9_runClock 35 rfl rfl) zf_RX9_45 rfl (k_9_0 s65 hc) (rf_9_0_5 s65 hc) ?_
    refine zj_aload_n (zdk ttX9_runClock 36 rfl rfl) rfl (by omega) ?_
    refine zj_getr (r := (c + 1)) (zdk ttX9_runClock 37 rfl rfl) zf_RX9_12 rfl (k_9_0 s65 hc) (rf_9_0_0 s65 hc) ?_
    have b66 : -2147483648 ≤ (h.2 (c + 1) 12) ∧ (h.2 (c + 1) 12) ≤ 2147483647 := fb_9_1_12 s0 hc
    refine zj_geti (v := (h.2 (c + 1) 12)) (zdk ttX9_runClock 38 rfl rfl) zf_RX9_83 rfl (k_9_1 s65 hc) (((zwr_r e25 (by first | decide | exact (absurd ·.1 (by decide)) | exact (absurd ·.2 (by decide)) | omega)).trans (zwr_r e20 (by first | decide | exact (absurd ·.1 (by decide)) | exact (absurd ·.2 (by decide)) | omega))).trans (zfC_a f17 (fun z9 => by unfold w_X1_moveHands at z9; first | (revert z9; decide) | omega))) ?_
    refine zj_iconst (zdk ttX9_runClock 39 rfl rfl) ?_
    refine zj_iconst (zdk ttX9_runClock 40 rfl rfl) ?_
    refine zj_iload_n (zdk ttX9_runClock 41 rfl rfl) rfl ?_
    refine zj_callV (av := [.inl (h.2 (c + 1) 12), .inl 2, .inl (-1), .inl v7]) (st := []) (zdk ttX9_runClock 42 rfl rfl) mb_X0_write mv_RX9_162 (ci := 0) rfl rfl (k_9_22 s65 hc) rfl rfl (Nat.le_of_ble_eq_true rfl) (s2_X0_write l h24 (c + 22) (h.2 (c + 1) 12) 2 (-1) v7 s65 (zs_9_22 hc) (by omega) (by omega) (by omega) (by omega)) (rm_ok (by decide) (by decide)) (zq_v fun h69 q67 => ?_)
    obtain ⟨s71, f73, u72⟩ := q67
    refine zj_iload_n (zdk ttX9_runClock 43 rfl rfl) rfl ?_
    refine zj_if_ne (t := 114) (zdk ttX9_runClock 44 rfl rfl) (by decide) (by omega) (fun c74 => ?_) (fun c74 => ?_)
    · refine zj_iload_n (zdk ttX9_runClock 56 rfl rfl) rfl ?_
      refine zj_if_ge (t := 136) (zdk ttX9_runClock 57 rfl rfl) (by decide) (by omega) (fun c75 => ?_) (fun c75 => ?_)
      · have f79 : zfC (w_X9_runClock c) h h13 := zfC_t (zfC_r _ _) f17 (fun a9 b9 z9 => by
          rcases z9 with z9 | z9
          · exact (Or.inl (by omega))
          · exact (Or.inl (by omega)))
        have f78 : zfC (w_X9_runClock c) h h19 := zfC_w f79 e20 (Or.inl (by omega))
        have f77 : zfC (w_X9_runClock c) h h24 := zfC_w f78 e25 (Or.inl (by omega))
        have f76 : zfC (w_X9_runClock c) h h69 := zfC_t f77 f73 (fun a9 b9 z9 => by
          rcases z9 with z9 | z9
          · exact (Or.inr (Or.inl (by omega)))
          · exact (Or.inr (Or.inr (by omega))))
        have b80 : h24.2 (c + 1) 12 = (h.2 (c + 1) 12) := (((zwr_r e25 (by first | decide | exact (absurd ·.1 (by decide)) | exact (absurd ·.2 (by decide)) | omega)).trans (zwr_r e20 (by first | decide | exact (absurd ·.1 (by decide)) | exact (absurd ·.2 (by decide)) | omega))).trans (zfC_a f17 (fun z9 => by unfold w_X1_moveHands at z9; first | (revert z9; decide) | omega)))
        have b81 : h24.2 (c + 1) 6 = (h13.2 (c + 1) 6) := ((zwr_r e25 (by first | decide | exact (absurd ·.1 (by decide)) | exact (absurd ·.2 (by decide)) | omega)).trans (zwr_r e20 (by first | decide | exact (absurd ·.1 (by decide)) | exact (absurd ·.2 (by decide)) | omega)))
        exact zj_vret rfl (zdk ttX9_runClock 68 rfl rfl) (Nat.le_refl _) (Nat.le_refl _) ⟨rfl, s71, f76, (by intro E th x t0; have g0 := xC_g t0; have mi : (zm_max (-1440) (zm_min 1440 (h.2 (c + 1) 7))) = fMi x.1 := (by unfold fMi; rw [← g0.2.2.1]; exact fHeld_m (by decide)); have so : v7 = zss (x.1 3) (fMi x.1).toNat := (by rw [← mi, ← g0.2.1]; exact u10); have mb := fMi_b x.1; have t1 := u16 c E th x rfl t0 (by omega); rw [mi] at t1; have t2 := xC_w (k := 4) t1 e20 (Or.inr (Or.inl ⟨rfl, rfl⟩)); rw [show (zwp ((h.2 (c + 1) 7) - (zm_max (-1440) (zm_min 1440 (h.2 (c + 1) 7))))) = zwp (x.1 4 - fMi x.1) by rw [mi, g0.2.2.1]] at t2; have t3 := xC_w (k := 5) t2 e25 (Or.inr (Or.inr (Or.inl ⟨rfl, rfl⟩))); rw [show (zwp ((h.2 (c + 1) 8) + v7)) = zwp (x.1 5 + zss (x.1 3) (fMi x.1).toNat) by rw [so, g0.2.2.2.1]] at t3; have t4 : xC h24 c E th (fC1 x.1, x.2) := t3; have c0 := fC1_0 x.1; have c3 := fC1_3 x.1; have d1 := xC_g t4; have w1 := (xC_nt t4 (fun a9 b9 y9 z9 => zfC_a f73 (fun q9 => by unfold w_X0_write at q9; first | (revert q9; decide) | omega)) (by have z8 := u72; exact z8) (by omega)); rw [show v7 = zss (x.1 3) (fMi x.1).toNat by omega] at w1; unfold fCl; show xC _ c E th (if fMi x.1 < 0 then fNt th (if fMi x.1 = 0 then fNt th (if 0 < zss (x.1 3) (fMi x.1).toNat then fNt th (fC1 x.1, x.2) 2 (-1) (zss (x.1 3) (fMi x.1).toNat) else (fC1 x.1, x.2)) 3 (-1) ((if 0 < zss (x.1 3) (fMi x.1).toNat then fNt th (fC1 x.1, x.2) 2 (-1) (zss (x.1 3) (fMi x.1).toNat) else (fC1 x.1, x.2)).1 3) else (if 0 < zss (x.1 3) (fMi x.1).toNat then fNt th (fC1 x.1, x.2) 2 (-1) (zss (x.1 3) (fMi x.1).toNat) else (fC1 x.1, x.2))) 4 (-1) (-fMi x.1) else (if fMi x.1 = 0 then fNt th (if 0 < zss (x.1 3) (fMi x.1).toNat then fNt th (fC1 x.1, x.2) 2 (-1) (zss (x.1 3) (fMi x.1).toNat) else (fC1 x.1, x.2)) 3 (-1) ((if 0 < zss (x.1 3) (fMi x.1).toNat then fNt th (fC1 x.1, x.2) 2 (-1) (zss (x.1 3) (fMi x.1).toNat) else (fC1 x.1, x.2)).1 3) else (if 0 < zss (x.1 3) (fMi x.1).toNat then fNt th (fC1 x.1, x.2) 2 (-1) (zss (x.1 3) (fMi x.1).toNat) else (fC1 x.1, x.2)))); rw [if_neg (show ¬ fMi x.1 < 0 by omega), if_neg (show ¬ fMi x.1 = 0 by omega), if_pos (show 0 < zss (x.1 3) (fMi x.1).toNat by omega)]; exact w1)⟩
      · refine zj_aload_n (zdk ttX9_runClock 58 rfl rfl) rfl (by omega) ?_
        refine zj_getr (r := (c + 22)) (zdk ttX9_runClock 59 rfl rfl) zf_RX9_45 rfl (k_9_0 s71 hc) (rf_9_0_5 s71 hc) ?_
        refine zj_aload_n (zdk ttX9_runClock 60 rfl rfl) rfl (by omega) ?_
        refine zj_getr (r := (c + 1)) (zdk ttX9_runClock 61 rfl rfl) zf_RX9_12 rfl (k_9_0 s71 hc) (rf_9_0_0 s71 hc) ?_
        refine zj_geti (v := (h.2 (c + 1) 12)) (zdk ttX9_runClock 62 rfl rfl) zf_RX9_83 rfl (k_9_1 s71 hc) ((((zfC_a f73 (fun z9 => by unfold w_X0_write at z9; first | (revert z9; decide) | omega)).trans (zwr_r e25 (by first | decide | exact (absurd ·.1 (by decide)) | exact (absurd ·.2 (by decide)) | omega))).trans (zwr_r e20 (by first | decide | exact (absurd ·.1 (by decide)) | exact (absurd ·.2 (by decide)) | omega))).trans (zfC_a f17 (fun z9 => by unfold w_X1_moveHands at z9; first | (revert z9; decide) | omega))) ?_
        refine zj_iconst (zdk ttX9_runClock 63 rfl rfl) ?_
        refine zj_iconst (zdk ttX9_runClock 64 rfl rfl) ?_
        refine zj_iload_n (zdk ttX9_runClock 65 rfl rfl) rfl ?_
        refine zj_ineg (zdk ttX9_runClock 66 rfl rfl) ?_
        refine zj_callV (av := [.inl (h.2 (c + 1) 12), .inl 4, .inl (-1), .inl (-(zm_max (-1440) (zm_min 1440 (h.2 (c + 1) 7))))]) (st := []) (zdk ttX9_runClock 67 rfl rfl) mb_X0_write mv_RX9_162 (ci := 0) rfl rfl (k_9_22 s71 hc) rfl rfl (Nat.le_of_ble_eq_true rfl) (s2_X0_write l h69 (c + 22) (h.2 (c + 1) 12) 4 (-1) (-(zm_max (-1440) (zm_min 1440 (h.2 (c + 1) 7)))) s71 (zs_9_22 hc) (by omega) (by omega) (by omega) (by omega)) (rm_ok (by decide) (by decide)) (zq_v fun h84 q82 => ?_)
        obtain ⟨s86, f88, u87⟩ := q82
        have f93 : zfC (w_X9_runClock c) h h13 := zfC_t (zfC_r _ _) f17 (fun a9 b9 z9 => by
          rcases z9 with z9 | z9
          · exact (Or.inl (by omega))
          · exact (Or.inl (by omega)))
        have f92 : zfC (w_X9_runClock c) h h19 := zfC_w f93 e20 (Or.inl (by omega))
        have f91 : zfC (w_X9_runClock c) h h24 := zfC_w f92 e25 (Or.inl (by omega))
        have f90 : zfC (w_X9_runClock c) h h69 := zfC_t f91 f73 (fun a9 b9 z9 => by
          rcases z9 with z9 | z9
          · exact (Or.inr (Or.inl (by omega)))
          · exact (Or.inr (Or.inr (by omega))))
        have f89 : zfC (w_X9_runClock c) h h84 := zfC_t f90 f88 (fun a9 b9 z9 => by
          rcases z9 with z9 | z9
          · exact (Or.inr (Or.inl (by omega)))
          · exact (Or.inr (Or.inr (by omega))))
        have b94 : h24.2 (c + 1) 12 = (h.2 (c + 1) 12) := (((zwr_r e25 (by first | decide | exact (absurd ·.1 (by decide)) | exact (absurd ·.2 (by decide)) | omega)).trans (zwr_r e20 (by first | decide | exact (absurd ·.1 (by decide)) | exact (absurd ·.2 (by decide)) | omega))).trans (zfC_a f17 (fun z9 => by unfold w_X1_moveHands at z9; first | (revert z9; decide) | omega)))
        have b95 : h24.2 (c + 1) 6 = (h13.2 (c + 1) 6) := ((zwr_r e25 (by first | decide | exact (absurd ·.1 (by decide)) | exact (absurd ·.2 (by decide)) | omega)).trans (zwr_r e20 (by first | decide | exact (absurd ·.1 (by decide)) | exact (absurd ·.2 (by decide)) | omega)))
        have b96 : h69.2 (c + 1) 12 = (h.2 (c + 1) 12) := ((((zfC_a f73 (fun z9 => by unfold w_X0_write at z9; first | (revert z9; decide) | omega)).trans (zwr_r e25 (by first | decide | exact (absurd ·.1 (by decide)) | exact (absurd ·.2 (by decide)) | omega))).trans (zwr_r e20 (by first | decide | exact (absurd ·.1 (by decide)) | exact (absurd ·.2 (by decide)) | omega))).trans (zfC_a f17 (fun z9 => by unfold w_X1_moveHands at z9; first | (revert z9; decide) | omega)))
        have b97 : h69.2 (c + 1) 6 = (h13.2 (c + 1) 6) := (((zfC_a f73 (fun z9 => by unfold w_X0_write at z9; first | (revert z9; decide) | omega)).trans (zwr_r e25 (by first | decide | exact (absurd ·.1 (by decide)) | exact (absurd ·.2 (by decide)) | omega))).trans (zwr_r e20 (by first | decide | exact (absurd ·.1 (by decide)) | exact (absurd ·.2 (by decide)) | omega)))
        exact zj_vret rfl (zdk ttX9_runClock 68 rfl rfl) (Nat.le_refl _) (Nat.le_refl _) ⟨rfl, s86, f89, (by intro E th x t0; have g0 := xC_g t0; have mi : (zm_max (-1440) (zm_min 1440 (h.2 (c + 1) 7))) = fMi x.1 := (by unfold fMi; rw [← g0.2.2.1]; exact fHeld_m (by decide)); have so : v7 = zss (x.1 3) (fMi x.1).toNat := (by rw [← mi, ← g0.2.1]; exact u10); have mb := fMi_b x.1; have t1 := u16 c E th x rfl t0 (by omega); rw [mi] at t1; have t2 := xC_w (k := 4) t1 e20 (Or.inr (Or.inl ⟨rfl, rfl⟩)); rw [show (zwp ((h.2 (c + 1) 7) - (zm_max (-1440) (zm_min 1440 (h.2 (c + 1) 7))))) = zwp (x.1 4 - fMi x.1) by rw [mi, g0.2.2.1]] at t2; have t3 := xC_w (k := 5) t2 e25 (Or.inr (Or.inr (Or.inl ⟨rfl, rfl⟩))); rw [show (zwp ((h.2 (c + 1) 8) + v7)) = zwp (x.1 5 + zss (x.1 3) (fMi x.1).toNat) by rw [so, g0.2.2.2.1]] at t3; have t4 : xC h24 c E th (fC1 x.1, x.2) := t3; have c0 := fC1_0 x.1; have c3 := fC1_3 x.1; have d1 := xC_g t4; have w1 := (xC_nt t4 (fun a9 b9 y9 z9 => zfC_a f73 (fun q9 => by unfold w_X0_write at q9; first | (revert q9; decide) | omega)) (by have z8 := u72; exact z8) (by omega)); rw [show v7 = zss (x.1 3) (fMi x.1).toNat by omega] at w1; have d2 := xC_g w1; have w2 := (xC_nt w1 (fun a9 b9 y9 z9 => zfC_a f88 (fun q9 => by unfold w_X0_write at q9; first | (revert q9; decide) | omega)) (by have z8 := u87; exact z8) (by omega)); rw [show (-(zm_max (-1440) (zm_min 1440 (h.2 (c + 1) 7)))) = -fMi x.1 by omega] at w2; unfold fCl; show xC _ c E th (if fMi x.1 < 0 then fNt th (if fMi x.1 = 0 then fNt th (if 0 < zss (x.1 3) (fMi x.1).toNat then fNt th (fC1 x.1, x.2) 2 (-1) (zss (x.1 3) (fMi x.1).toNat) else (fC1 x.1, x.2)) 3 (-1) ((if 0 < zss (x.1 3) (fMi x.1).toNat then fNt th (fC1 x.1, x.2) 2 (-1) (zss (x.1 3) (fMi x.1).toNat) else (fC1 x.1, x.2)).1 3) else (if 0 < zss (x.1 3) (fMi x.1).toNat then fNt th (fC1 x.1, x.2) 2 (-1) (zss (x.1 3) (fMi x.1).toNat) else (fC1 x.1, x.2))) 4 (-1) (-fMi x.1) else (if fMi x.1 = 0 then fNt th (if 0 < zss (x.1 3) (fMi x.1).toNat then fNt th (fC1 x.1, x.2) 2 (-1) (zss (x.1 3) (fMi x.1).toNat) else (fC1 x.1, x.2)) 3 (-1) ((if 0 < zss (x.1 3) (fMi x.1).toNat then fNt th (fC1 x.1, x.2) 2 (-1) (zss (x.1 3) (fMi x.1).toNat) else (fC1 x.1, x.2)).1 3) else (if 0 < zss (x.1 3) (fMi x.1).toNat then fNt th (fC1 x.1, x.2) 2 (-1) (zss (x.1 3) (fMi x.1).toNat) else (fC1 x.1, x.2)))); rw [if_pos (show fMi x.1 < 0 by omega), if_neg (show ¬ fMi x.1 = 0 by omega), if_pos (show 0 < zss (x.1 3) (fMi x.1).toNat by omega)]; exact w2)⟩
    · refine zj_aload_n (zdk ttX9_runClock 45 rfl rfl) rfl (by omega) ?_
      refine zj_getr (r := (c + 22)) (zdk ttX9_runClock 46 rfl rfl) zf_RX9_45 rfl (k_9_0 s71 hc) (rf_9_0_5 s71 hc) ?_
      refine zj_aload_n (zdk ttX9_runClock 47 rfl rfl) rfl (by omega) ?_
      refine zj_getr (r := (c + 1)) (zdk ttX9_runClock 48 rfl rfl) zf_RX9_12 rfl (k_9_0 s71 hc) (rf_9_0_0 s71 hc) ?_
      refine zj_geti (v := (h.2 (c + 1) 12)) (zdk ttX9_runClock 49 rfl rfl) zf_RX9_83 rfl (k_9_1 s71 hc) ((((zfC_a f73 (fun z9 => by unfold w_X0_write at z9; first | (revert z9; decide) | omega)).trans (zwr_r e25 (by first | decide | exact (absurd ·.1 (by decide)) | exact (absurd ·.2 (by decide)) | omega))).trans (zwr_r e20 (by first | decide | exact (absurd ·.1 (by decide)) | exact (absurd ·.2 (by decide)) | omega))).trans (zfC_a f17 (fun z9 => by unfold w_X1_moveHands at z9; first | (revert z9; decide) | omega))) ?_
      refine zj_iconst (zdk ttX9_runClock 50 rfl rfl) ?_
      refine zj_iconst (zdk ttX9_runClock 51 rfl rfl) ?_
      refine zj_aload_n (zdk ttX9_runClock 52 rfl rfl) rfl (by omega) ?_
      refine zj_getr (r := (c + 1)) (zdk ttX9_runClock 53 rfl rfl) zf_RX9_12 rfl (k_9_0 s71 hc) (rf_9_0_0 s71 hc) ?_
      have b98 : 0 ≤ (h13.2 (c + 1) 6) ∧ (h13.2 (c + 1) 6) ≤ 719 := fb_9_1_6 s15 hc
      refine zj_geti (v := (h13.2 (c + 1) 6)) (zdk ttX9_runClock 54 rfl rfl) zf_RX9_114 rfl (k_9_1 s71 hc) (((zfC_a f73 (fun z9 => by unfold w_X0_write at z9; first | (revert z9; decide) | omega)).trans (zwr_r e25 (by first | decide | exact (absurd ·.1 (by decide)) | exact (absurd ·.2 (by decide)) | omega))).trans (zwr_r e20 (by first | decide | exact (absurd ·.1 (by decide)) | exact (absurd ·.2 (by decide)) | omega))) ?_
      refine zj_callV (av := [.inl (h.2 (c + 1) 12), .inl 3, .inl (-1), .inl (h13.2 (c + 1) 6)]) (st := []) (zdk ttX9_runClock 55 rfl rfl) mb_X0_write mv_RX9_162 (ci := 0) rfl rfl (k_9_22 s71 hc) rfl rfl (Nat.le_of_ble_eq_true rfl) (s2_X0_write l h69 (c + 22) (h.2 (c + 1) 12) 3 (-1) (h13.2 (c + 1) 6) s71 (zs_9_22 hc) (by omega) (by omega) (by omega) (by omega)) (rm_ok (by decide) (by decide)) (zq_v fun h101 q99 => ?_)
      obtain ⟨s103, f105, u104⟩ := q99
      refine zj_iload_n (zdk ttX9_runClock 56 rfl rfl) rfl ?_
      refine zj_if_ge (t := 136) (zdk ttX9_runClock 57 rfl rfl) (by decide) (by omega) (fun c106 => ?_) (fun c106 => ?_)
      · have f111 : zfC (w_X9_runClock c) h h13 := zfC_t (zfC_r _ _) f17 (fun a9 b9 z9 => by
          rcases z9 with z9 | z9
          · exact (Or.inl (by omega))
          · exact (Or.inl (by omega)))
        have f110 : zfC (w_X9_runClock c) h h19 := zfC_w f111 e20 (Or.inl (by omega))
        have f109 : zfC (w_X9_runClock c) h h24 := zfC_w f110 e25 (Or.inl (by omega))
        have f108 : zfC (w_X9_runClock c) h h69 := zfC_t f109 f73 (fun a9 b9 z9 => by
          rcases z9 with z9 | z9
          · exact (Or.inr (Or.inl (by omega)))
          · exact (Or.inr (Or.inr (by omega))))
        have f107 : zfC (w_X9_runClock c) h h101 := zfC_t f108 f105 (fun a9 b9 z9 => by
          rcases z9 with z9 | z9
          · exact (Or.inr (Or.inl (by omega)))
          · exact (Or.inr (Or.inr (by omega))))
        have b112 : h24.2 (c + 1) 12 = (h.2 (c + 1) 12) := (((zwr_r e25 (by first | decide | exact (absurd ·.1 (by decide)) | exact (absurd ·.2 (by decide)) | omega)).trans (zwr_r e20 (by first | decide | exact (absurd ·.1 (by decide)) | exact (absurd ·.2 (by decide)) | omega))).trans (zfC_a f17 (fun z9 => by unfold w_X1_moveHands at z9; first | (revert z9; decide) | omega)))
        have b113 : h24.2 (c + 1) 6 = (h13.2 (c + 1) 6) := ((zwr_r e25 (by first | decide | exact (absurd ·.1 (by decide)) | exact (absurd ·.2 (by decide)) | omega)).trans (zwr_r e20 (by first | decide | exact (absurd ·.1 (by decide)) | exact (absurd ·.2 (by decide)) | omega)))
        have b114 : h69.2 (c + 1) 12 = (h.2 (c + 1) 12) := ((((zfC_a f73 (fun z9 => by unfold w_X0_write at z9; first | (revert z9; decide) | omega)).trans (zwr_r e25 (by first | decide | exact (absurd ·.1 (by decide)) | exact (absurd ·.2 (by decide)) | omega))).trans (zwr_r e20 (by first | decide | exact (absurd ·.1 (by decide)) | exact (absurd ·.2 (by decide)) | omega))).trans (zfC_a f17 (fun z9 => by unfold w_X1_moveHands at z9; first | (revert z9; decide) | omega)))
        have b115 : h69.2 (c + 1) 6 = (h13.2 (c + 1) 6) := (((zfC_a f73 (fun z9 => by unfold w_X0_write at z9; first | (revert z9; decide) | omega)).trans (zwr_r e25 (by first | decide | exact (absurd ·.1 (by decide)) | exact (absurd ·.2 (by decide)) | omega))).trans (zwr_r e20 (by first | decide | exact (absurd ·.1 (by decide)) | exact (absurd ·.2 (by decide)) | omega)))
        exact zj_vret rfl (zdk ttX9_runClock 68 rfl rfl) (Nat.le_refl _) (Nat.le_refl _) ⟨rfl, s103, f107, (by intro E th x t0; have g0 := xC_g t0; have mi : (zm_max (-1440) (zm_min 1440 (h.2 (c + 1) 7))) = fMi x.1 := (by unfold fMi; rw [← g0.2.2.1]; exact fHeld_m (by decide)); have so : v7 = zss (x.1 3) (fMi x.1).toNat := (by rw [← mi, ← g0.2.1]; exact u10); have mb := fMi_b x.1; have t1 := u16 c E th x rfl t0 (by omega); rw [mi] at t1; have t2 := xC_w (k := 4) t1 e20 (Or.inr (Or.inl ⟨rfl, rfl⟩)); rw [show (zwp ((h.2 (c + 1) 7) - (zm_max (-1440) (zm_min 1440 (h.2 (c + 1) 7))))) = zwp (x.1 4 - fMi x.1) by rw [mi, g0.2.2.1]] at t2; have t3 := xC_w (k := 5) t2 e25 (Or.inr (Or.inr (Or.inl ⟨rfl, rfl⟩))); rw [show (zwp ((h.2 (c + 1) 8) + v7)) = zwp (x.1 5 + zss (x.1 3) (fMi x.1).toNat) by rw [so, g0.2.2.2.1]] at t3; have t4 : xC h24 c E th (fC1 x.1, x.2) := t3; have c0 := fC1_0 x.1; have c3 := fC1_3 x.1; have d1 := xC_g t4; have w1 := (xC_nt t4 (fun a9 b9 y9 z9 => zfC_a f73 (fun q9 => by unfold w_X0_write at q9; first | (revert q9; decide) | omega)) (by have z8 := u72; exact z8) (by omega)); rw [show v7 = zss (x.1 3) (fMi x.1).toNat by omega] at w1; have d2 := xC_g w1; have w2 := (xC_nt w1 (fun a9 b9 y9 z9 => zfC_a f105 (fun q9 => by unfold w_X0_write at q9; first | (revert q9; decide) | omega)) (by have z8 := u104; exact z8) (by omega)); rw [show (h13.2 (c + 1) 6) = (fNt th (fC1 x.1, x.2) 2 (-1) (zss (x.1 3) (fMi x.1).toNat)).1 3 by omega] at w2; unfold fCl; show xC _ c E th (if fMi x.1 < 0 then fNt th (if fMi x.1 = 0 then fNt th (if 0 < zss (x.1 3) (fMi x.1).toNat then fNt th (fC1 x.1, x.2) 2 (-1) (zss (x.1 3) (fMi x.1).toNat) else (fC1 x.1, x.2)) 3 (-1) ((if 0 < zss (x.1 3) (fMi x.1).toNat then fNt th (fC1 x.1, x.2) 2 (-1) (zss (x.1 3) (fMi x.1).toNat) else (fC1 x.1, x.2)).1 3) else (if 0 < zss (x.1 3) (fMi x.1).toNat then fNt th (fC1 x.1, x.2) 2 (-1) (zss (x.1 3) (fMi x.1).toNat) else (fC1 x.1, x.2))) 4 (-1) (-fMi x.1) else (if fMi x.1 = 0 then fNt th (if 0 < zss (x.1 3) (fMi x.1).toNat then fNt th (fC1 x.1, x.2) 2 (-1) (zss (x.1 3) (fMi x.1).toNat) else (fC1 x.1, x.2)) 3 (-1) ((if 0 < zss (x.1 3) (fMi x.1).toNat then fNt th (fC1 x.1, x.2) 2 (-1) (zss (x.1 3) (fMi x.1).toNat) else (fC1 x.1, x.2)).1 3) else (if 0 < zss (x.1 3) (fMi x.1).toNat then fNt th (fC1 x.1, x.2) 2 (-1) (zss (x.1 3) (fMi x.1).toNat) else (fC1 x.1, x.2)))); rw [if_neg (show ¬ fMi x.1 < 0 by omega), if_pos (show fMi x.1 = 0 by omega), if_pos (show 0 < zss (x.1 3) (fMi x.1).toNat by omega)]; exact w2)⟩
      · exact absurd c106 (by omega)

abbrev q2_X9_passDay (h : zM) (c : Int) (p1 : Int) : Option zV → zM → Prop := zqv fun h' => okC h' ∧ zfC (w_X9_passDay c) h h' ∧ (∀ E x, xC h c E (fth p1) x → xC h' c E (fth p1) (fDy E (fth p1) x))
set_option maxRecDepth 100000 in
set_option maxHeartbeats 4000000 in
theorem s2_X9_passDay (l : Launch) (h : zM) (c : Int) (p1 : Int) (s0 : okC h) (hc : zWd c) (b_p1 : 0 ≤ p1 ∧ p1 ≤ 1) : zT shC l yX9_passDay cX9_passDay 3 none (rmL 7) 0 0 [.inr c, .inl p1] h (q2_X9_passDay h c p1) := by
  refine zT_of (by decide +kernel) (L0 := [some (.inr c), some (.inl p1), none]) rfl (Nat.le_of_ble_eq_true rfl) ?_
  have b1 := zWd_b hc
  refine zj_iconst (zdk ttX9_passDay 0 rfl rfl) ?_
  refine zj_istore_n (L' := [some (.inr c), some (.inl p1), some (.inl 0)]) (zdk ttX9_passDay 1 rfl rfl) (by decide) rfl ?_
  have lp90 : ∀ (n : Nat) (x2 : Int) (h3 : zM), (0 ≤ x2 ∧ x2 ≤ 16) → okC h3 → zfC (w_X9_passDay c) h h3 → (∀ E x, xC h c E (fth p1) x → ∃ r, xC h3 c E (fth p1) (r, x.2) ∧ fTw E (E.dm - x2).toNat x2 r = fTw E E.dm.toNat 0 x.1) → (17 - x2).toNat < n → zJ shC l yX9_passDay cX9_passDay 3 none (rmL 7) 0 0 (q2_X9_passDay h c p1) 0 0 2 [some (.inr c), some (.inl p1), some (.inl x2)] [] h3 := by
    intro n
    induction n with
    | zero => intro x2 h3 b91 s4 f5 u92 m93; exact absurd m93 (Nat.not_lt_zero _)
    | succ n ih94 =>
      intro x2 h3 b91 s4 f5 u92 m93
      refine zj_iload_n (zdk ttX9_passDay 2 rfl rfl) rfl ?_
      refine zj_aload_n (zdk ttX9_passDay 3 rfl rfl) rfl (by omega) ?_
      refine zj_getr (r := (c + 16)) (zdk ttX9_passDay 4 rfl rfl) zf_RX9_32 rfl (k_9_0 s4 hc) (rf_9_0_3 s4 hc) ?_
      have b95 : 0 ≤ (h.2 (c + 16) 3) ∧ (h.2 (c + 16) 3) ≤ 16 := fb_9_16_3 s0 hc
      refine zj_geti (v := (h.2 (c + 16) 3)) (zdk ttX9_passDay 5 rfl rfl) zf_RX9_75 rfl (k_9_16 s4 hc) (zfC_a f5 (fun z9 => by unfold w_X9_passDay at z9; first | (revert z9; decide) | omega)) ?_
      refine zj_icmp_ge (t := 60) (zdk ttX9_passDay 6 rfl rfl) (by decide) (by omega) (by omega) (fun c96 => ?_) (fun c96 => ?_)
      · refine zj_iconst (zdk ttX9_passDay 30 rfl rfl) ?_
        refine zj_istore_n (L' := [some (.inr c), some (.inl p1), some (.inl 0)]) (zdk ttX9_passDay 31 rfl rfl) (by decide) rfl ?_
        have lp239 : ∀ (n : Nat) (x97 : Int) (h98 : zM), (0 ≤ x97 ∧ x97 ≤ 16) → okC h98 → zfC (w_X9_passDay c) h h98 → (∀ E x, xC h c E (fth p1) x → ∃ y, xC h98 c E (fth p1) y ∧ fBs E (fth p1) (E.bm - x97).toNat x97 y = fBs E (fth p1) E.bm.toNat 0 (fTw E E.dm.toNat 0 x.1, x.2)) → (17 - x97).toNat < n → zJ shC l yX9_passDay cX9_passDay 3 none (rmL 7) 0 0 (q2_X9_passDay h c p1) 0 0 62 [some (.inr c), some (.inl p1), some (.inl x97)] [] h98 := by
          intro n
          induction n with
          | zero => intro x97 h98 b240 s99 f100 u241 m242; exact absurd m242 (Nat.not_lt_zero _)
          | succ n ih243 =>
            intro x97 h98 b240 s99 f100 u241 m242
            refine zj_iload_n (zdk ttX9_passDay 32 rfl rfl) rfl ?_
            refine zj_aload_n (zdk ttX9_passDay 33 rfl rfl) rfl (by omega) ?_
            refine zj_getr (r := (c + 12)) (zdk ttX9_passDay 34 rfl rfl) zf_RX9_28 rfl (k_9_0 s99 hc) (rf_9_0_2 s99 hc) ?_
            have b244 : 0 ≤ (h.2 (c + 12) 3) ∧ (h.2 (c + 12) 3) ≤ 16 := fb_9_12_3 s0 hc
            refine zj_geti (v := (h.2 (c + 12) 3)) (zdk ttX9_passDay 35 rfl rfl) zf_RX9_75 rfl (k_9_12 s99 hc) (zfC_a f100 (fun z9 => by unfold w_X9_passDay at z9; first | (revert z9; decide) | omega)) ?_
            refine zj_icmp_ge (t := 145) (zdk ttX9_passDay 36 rfl rfl) (by decide) (by omega) (by omega) (fun c245 => ?_) (fun c245 => ?_)
            · refine zj_aload_n (zdk ttX9_passDay 73 rfl rfl) rfl (by omega) ?_
              refine zj_callV (av := []) (st := []) (zdk ttX9_passDay 74 rfl rfl) mb_X9_runClock mv_RX9_102 (ci := 9) rfl rfl (k_9_0 s99 hc) rfl rfl (Nat.le_of_ble_eq_true rfl) (s2_X9_runClock l h98 c s99 hc) (rm_ok (by decide) (by decide)) (zq_v fun h248 q246 => ?_)
              obtain ⟨s250, f252, u251⟩ := q246
              refine zj_aload_n (zdk ttX9_passDay 75 rfl rfl) rfl (by omega) ?_
              refine zj_getr (r := (c + 1)) (zdk ttX9_passDay 76 rfl rfl) zf_RX9_12 rfl (k_9_0 s250 hc) (rf_9_0_0 s250 hc) ?_
              refine zj_dup (zdk ttX9_passDay 77 rfl rfl) ?_
              have b253 : -2147483648 ≤ (h98.2 (c + 1) 12) ∧ (h98.2 (c + 1) 12) ≤ 2147483647 := fb_9_1_12 s99 hc
              refine zj_geti (v := (h98.2 (c + 1) 12)) (zdk ttX9_passDay 78 rfl rfl) zf_RX9_83 rfl (k_9_1 s250 hc) (zfC_a f252 (fun z9 => by unfold w_X9_runClock at z9; first | (revert z9; decide) | omega)) ?_
              refine zj_iconst (zdk ttX9_passDay 79 rfl rfl) ?_
              refine zj_iadd (zdk ttX9_passDay 80 rfl rfl) ?_
              refine zj_wrap ?_
              have b254 := zwp_in ((h98.2 (c + 1) 12) + 1)
              refine zj_puti (zdk ttX9_passDay 81 rfl rfl) zf_RX9_83 rfl (k_9_1 s250 hc) (Or.inl zw_RX9_83) (k2 := 12) rfl (fun h255 e256 => ?_)
              have s257 : okC h255 := fw_9_1_12 s250 hc e256 (by omega)
              have f259 : zfC (w_X9_passDay c) h h248 := zfC_t f100 f252 (fun a9 b9 z9 => by
                rcases z9 with z9 | z9 | z9
                · exact (Or.inl (by omega))
                · exact (Or.inr (Or.inr (Or.inr (Or.inl (by omega)))))
                · exact (Or.inr (Or.inr (Or.inr (Or.inr (by omega))))))
              have f258 : zfC (w_X9_passDay c) h h255 := zfC_w f259 e256 (Or.inl (by omega))
              have b260 : h248.2 (c + 1) 12 = (h98.2 (c + 1) 12) := (zfC_a f252 (fun z9 => by unfold w_X9_runClock at z9; first | (revert z9; decide) | omega))
              exact zj_vret rfl (zdk ttX9_passDay 82 rfl rfl) (Nat.le_refl _) (Nat.le_refl _) ⟨rfl, s257, f258, (by intro E x t0; obtain ⟨y, t1, q1⟩ := u241 E x t0; have m1 := xC_m t0; rw [fBs_e (by omega)] at q1; have t2 := u251 E (fth p1) y t1; have g2 := xC_g t2; have t3 := xC_w (k := 0) t2 e256 (Or.inr (Or.inr (Or.inr (Or.inr (Or.inr (Or.inl ⟨rfl, rfl⟩)))))); rw [show (zwp ((h98.2 (c + 1) 12) + 1)) = zwp ((fCl (fth p1) y).1 0 + 1) from congrArg (fun z9 => zwp (z9 + 1)) (by omega)] at t3; show xC _ c E (fth p1) (fup (fCl (fth p1) (fBs E (fth p1) E.bm.toNat 0 (fTw E E.dm.toNat 0 x.1, x.2))).1 0 (zwp ((fCl (fth p1) (fBs E (fth p1) E.bm.toNat 0 (fTw E E.dm.toNat 0 x.1, x.2))).1 0 + 1)), (fCl (fth p1) (fBs E (fth p1) E.bm.toNat 0 (fTw E E.dm.toNat 0 x.1, x.2))).2); rw [← q1]; exact t3)⟩
            · refine zj_aload_n (zdk ttX9_passDay 37 rfl rfl) rfl (by omega) ?_
              refine zj_getr (r := (c + 12)) (zdk ttX9_passDay 38 rfl rfl) zf_RX9_28 rfl (k_9_0 s99 hc) (rf_9_0_2 s99 hc) ?_
              refine zj_getr (r := (c + 13)) (zdk ttX9_passDay 39 rfl rfl) zf_RX9_79 rfl (k_9_12 s99 hc) (rf_9_12_0 s99 hc) ?_
              refine zj_iload_n (zdk ttX9_passDay 40 rfl rfl) rfl ?_
              have b261 : -2147483648 ≤ (h.2 (c + 13) x97) ∧ (h.2 (c + 13) x97) ≤ 2147483647 := ab_9_12_0 s0 hc x97
              refine zj_iald (v := (h.2 (c + 13) x97)) (zdk ttX9_passDay 41 rfl rfl) (ka_9_12_0 s99 hc) (by decide) (by omega) (zfC_a f100 (fun z9 => by unfold w_X9_passDay at z9; first | (revert z9; decide) | omega)) ?_
              refine zj_aload_n (zdk ttX9_passDay 42 rfl rfl) rfl (by omega) ?_
              refine zj_getr (r := (c + 1)) (zdk ttX9_passDay 43 rfl rfl) zf_RX9_12 rfl (k_9_0 s99 hc) (rf_9_0_0 s99 hc) ?_
              have b262 : -2147483648 ≤ (h98.2 (c + 1) 12) ∧ (h98.2 (c + 1) 12) ≤ 2147483647 := fb_9_1_12 s99 hc
              refine zj_geti (v := (h98.2 (c + 1) 12)) (zdk ttX9_passDay 44 rfl rfl) zf_RX9_83 rfl (k_9_1 s99 hc) rfl ?_
              refine zj_icmp_eq (t := 95) (zdk ttX9_passDay 45 rfl rfl) (by decide) (by omega) (by omega) (fun c263 => ?_) (fun c263 => ?_)
              · refine zj_aload_n (zdk ttX9_passDay 47 rfl rfl) rfl (by omega) ?_
                refine zj_getr (r := (c + 12)) (zdk ttX9_passDay 48 rfl rfl) zf_RX9_28 rfl (k_9_0 s99 hc) (rf_9_0_2 s99 hc) ?_
                refine zj_getr (r := (c + 14)) (zdk ttX9_passDay 49 rfl rfl) zf_RX9_85 rfl (k_9_12 s99 hc) (rf_9_12_1 s99 hc) ?_
                refine zj_iload_n (zdk ttX9_passDay 50 rfl rfl) rfl ?_
                have b264 : -2147483648 ≤ (h.2 (c + 14) x97) ∧ (h.2 (c + 14) x97) ≤ 2147483647 := ab_9_12_1 s0 hc x97
                refine zj_iald (v := (h.2 (c + 14) x97)) (zdk ttX9_passDay 51 rfl rfl) (ka_9_12_1 s99 hc) (by decide) (by omega) (zfC_a f100 (fun z9 => by unfold w_X9_passDay at z9; first | (revert z9; decide) | omega)) ?_
                refine zj_iconst (zdk ttX9_passDay 52 rfl rfl) ?_
                refine zj_icmp_ne (t := 125) (zdk ttX9_passDay 53 rfl rfl) (by decide) (by omega) (by decide) (fun c265 => ?_) (fun c265 => ?_)
                · refine zj_aload_n (zdk ttX9_passDay 63 rfl rfl) rfl (by omega) ?_
                  refine zj_aload_n (zdk ttX9_passDay 64 rfl rfl) rfl (by omega) ?_
                  refine zj_getr (r := (c + 12)) (zdk ttX9_passDay 65 rfl rfl) zf_RX9_28 rfl (k_9_0 s99 hc) (rf_9_0_2 s99 hc) ?_
                  refine zj_getr (r := (c + 15)) (zdk ttX9_passDay 66 rfl rfl) zf_RX9_88 rfl (k_9_12 s99 hc) (rf_9_12_2 s99 hc) ?_
                  refine zj_iload_n (zdk ttX9_passDay 67 rfl rfl) rfl ?_
                  have b266 : -2147483648 ≤ (h.2 (c + 15) x97) ∧ (h.2 (c + 15) x97) ≤ 2147483647 := ab_9_12_2 s0 hc x97
                  refine zj_iald (v := (h.2 (c + 15) x97)) (zdk ttX9_passDay 68 rfl rfl) (ka_9_12_2 s99 hc) (by decide) (by omega) (zfC_a f100 (fun z9 => by unfold w_X9_passDay at z9; first | (revert z9; decide) | omega)) ?_
                  refine zj_iload_n (zdk ttX9_passDay 69 rfl rfl) rfl ?_
                  refine zj_callV (av := [.inl (h.2 (c + 15) x97), .inl p1]) (st := []) (zdk ttX9_passDay 70 rfl rfl) mb_X9_sailBack mv_RX9_99 (ci := 9) rfl rfl (k_9_0 s99 hc) rfl rfl (Nat.le_of_ble_eq_true rfl) (s2_X9_sailBack l h98 c (h.2 (c + 15) x97) p1 s99 hc (by omega) (by omega)) (rm_ok (by decide) (by decide)) (zq_v fun h269 q267 => ?_)
                  obtain ⟨s271, f273, u272⟩ := q267
                  refine zj_iinc (L' := [some (.inr c), some (.inl p1), some (.inl (x97 + 1))]) (zdk ttX9_passDay 71 rfl rfl) rfl (by decide) rfl ?_
                  refine zj_goto (t := 62) (zdk ttX9_passDay 72 rfl rfl) (by decide) ?_
                  have f274 : zfC (w_X9_passDay c) h h269 := zfC_t f100 f273 (fun a9 b9 z9 => by
                    rcases z9 with z9 | z9 | z9 | z9 | z9 | z9
                    · exact (Or.inl (by omega))
                    · exact (Or.inl (by omega))
                    · exact (Or.inl (by omega))
                    · exact (Or.inr (Or.inr (Or.inl (by omega))))
                    · exact (Or.inr (Or.inr (Or.inr (Or.inl (by omega)))))
                    · exact (Or.inr (Or.inr (Or.inr (Or.inr (by omega))))))
                  exact ih243  (x97 + 1) h269 (by omega) s271 f274 (by intro E x t0; obtain ⟨y, t1, q1⟩ := u241 E x t0; have m1 := xC_m t0; have g1 := xC_g t1; have bt := xC_bt t0 (show 0 ≤ x97 by omega) (show x97 < E.bm by omega); have z8 := g1.2.2.2.2.2.2.2.1; have t2 := u272 E y t1; rw [show (h.2 (c + 15) x97) = E.bs x97 by omega] at t2; have sa : fSa E (fth p1) x97 y = fBa E (fth p1) E.n.toNat 0 (E.bs x97) y := if_neg (by omega); rw [← sa] at t2; exact ⟨_, t2, (fBs_y (by omega) (show E.bd x97 = y.1 0 by omega)).symm.trans q1⟩) (by omega)
                · refine zj_aload_n (zdk ttX9_passDay 54 rfl rfl) rfl (by omega) ?_
                  refine zj_aload_n (zdk ttX9_passDay 55 rfl rfl) rfl (by omega) ?_
                  refine zj_getr (r := (c + 12)) (zdk ttX9_passDay 56 rfl rfl) zf_RX9_28 rfl (k_9_0 s99 hc) (rf_9_0_2 s99 hc) ?_
                  refine zj_getr (r := (c + 15)) (zdk ttX9_passDay 57 rfl rfl) zf_RX9_88 rfl (k_9_12 s99 hc) (rf_9_12_2 s99 hc) ?_
                  refine zj_iload_n (zdk ttX9_passDay 58 rfl rfl) rfl ?_
                  have b275 : -2147483648 ≤ (h.2 (c + 15) x97) ∧ (h.2 (c + 15) x97) ≤ 2147483647 := ab_9_12_2 s0 hc x97
                  refine zj_iald (v := (h.2 (c + 15) x97)) (zdk ttX9_passDay 59 rfl rfl) (ka_9_12_2 s99 hc) (by decide) (by omega) (zfC_a f100 (fun z9 => by unfold w_X9_passDay at z9; first | (revert z9; decide) | omega)) ?_
                  refine zj_iload_n (zdk ttX9_passDay 60 rfl rfl) rfl ?_
                  refine zj_callV (av := [.inl (h.2 (c + 15) x97), .inl p1]) (st := []) (zdk ttX9_passDay 61 rfl rfl) mb_X9_sailOut mv_RX9_95 (ci := 9) rfl rfl (k_9_0 s99 hc) rfl rfl (Nat.le_of_ble_eq_true rfl) (s2_X9_sailOut l h98 c (h.2 (c + 15) x97) p1 s99 hc (by omega) (by omega)) (rm_ok (by decide) (by decide)) (zq_v fun h278 q276 => ?_)
                  obtain ⟨s280, f282, u281⟩ := q276
                  refine zj_goto (t := 139) (zdk ttX9_passDay 62 rfl rfl) (by decide) ?_
                  refine zj_iinc (L' := [some (.inr c), some (.inl p1), some (.inl (x97 + 1))]) (zdk ttX9_passDay 71 rfl rfl) rfl (by decide) rfl ?_
                  refine zj_goto (t := 62) (zdk ttX9_passDay 72 rfl rfl) (by decide) ?_
                  have f283 : zfC (w_X9_passDay c) h h278 := zfC_t f100 f282 (fun a9 b9 z9 => by
                    rcases z9 with z9 | z9 | z9 | z9 | z9 | z9 | z9
                    · exact (Or.inl (by omega))
                    · exact (Or.inl (by omega))
                    · exact (Or.inl (by omega))
                    · exact (Or.inr (Or.inl (by omega)))
                    · exact (Or.inr (Or.inr (Or.inl (by omega))))
                    · exact (Or.inr (Or.inr (Or.inr (Or.inl (by omega)))))
                    · exact (Or.inr (Or.inr (Or.inr (Or.inr (by omega))))))
                  exact ih243  (x97 + 1) h278 (by omega) s280 f283 (by intro E x t0; obtain ⟨y, t1, q1⟩ := u241 E x t0; have m1 := xC_m t0; have g1 := xC_g t1; have bt := xC_bt t0 (show 0 ≤ x97 by omega) (show x97 < E.bm by omega); have z8 := g1.2.2.2.2.2.2.2.1; have t2 := u281 E y t1; rw [show (h.2 (c + 15) x97) = E.bs x97 by omega] at t2; have sa : fSa E (fth p1) x97 y = fOu E (fth p1) E.n.toNat 0 (E.bs x97) y := if_pos (by omega); rw [← sa] at t2; exact ⟨_, t2, (fBs_y (by omega) (show E.bd x97 = y.1 0 by omega)).symm.trans q1⟩) (by omega)
              · refine zj_goto (t := 139) (zdk ttX9_passDay 46 rfl rfl) (by decide) ?_
                refine zj_iinc (L' := [some (.inr c), some (.inl p1), some (.inl (x97 + 1))]) (zdk ttX9_passDay 71 rfl rfl) rfl (by decide) rfl ?_
                refine zj_goto (t := 62) (zdk ttX9_passDay 72 rfl rfl) (by decide) ?_
                exact ih243  (x97 + 1) h98 (by omega) s99 f100 (by intro E x t0; obtain ⟨y, t1, q1⟩ := u241 E x t0; have m1 := xC_m t0; have g1 := xC_g t1; have bt := xC_bt t0 (show 0 ≤ x97 by omega) (show x97 < E.bm by omega); have z8 := g1.2.2.2.2.2.2.2.1; exact ⟨y, t1, (fBs_n (by omega) (show ¬ E.bd x97 = y.1 0 by omega)).symm.trans q1⟩) (by omega)
        exact lp239 _ 0 h3 (by omega) s4 f5 (by intro E x t0; obtain ⟨r, t1, q1⟩ := u92 E x t0; have m1 := xC_m t0; rw [fTw_e (by omega)] at q1; rw [← q1]; exact ⟨_, t1, by rw [show E.bm - 0 = E.bm by omega]⟩) (Nat.lt_succ_self _)
      · refine zj_aload_n (zdk ttX9_passDay 7 rfl rfl) rfl (by omega) ?_
        refine zj_getr (r := (c + 16)) (zdk ttX9_passDay 8 rfl rfl) zf_RX9_32 rfl (k_9_0 s4 hc) (rf_9_0_3 s4 hc) ?_
        refine zj_getr (r := (c + 17)) (zdk ttX9_passDay 9 rfl rfl) zf_RX9_79 rfl (k_9_16 s4 hc) (rf_9_16_0 s4 hc) ?_
        refine zj_iload_n (zdk ttX9_passDay 10 rfl rfl) rfl ?_
        have b284 : -2147483648 ≤ (h.2 (c + 17) x2) ∧ (h.2 (c + 17) x2) ≤ 2147483647 := ab_9_16_0 s0 hc x2
        refine zj_iald (v := (h.2 (c + 17) x2)) (zdk ttX9_passDay 11 rfl rfl) (ka_9_16_0 s4 hc) (by decide) (by omega) (zfC_a f5 (fun z9 => by unfold w_X9_passDay at z9; first | (revert z9; decide) | omega)) ?_
        refine zj_aload_n (zdk ttX9_passDay 12 rfl rfl) rfl (by omega) ?_
        refine zj_getr (r := (c + 1)) (zdk ttX9_passDay 13 rfl rfl) zf_RX9_12 rfl (k_9_0 s4 hc) (rf_9_0_0 s4 hc) ?_
        have b285 : -2147483648 ≤ (h3.2 (c + 1) 12) ∧ (h3.2 (c + 1) 12) ≤ 2147483647 := fb_9_1_12 s4 hc
        refine zj_geti (v := (h3.2 (c + 1) 12)) (zdk ttX9_passDay 14 rfl rfl) zf_RX9_83 rfl (k_9_1 s4 hc) rfl ?_
        refine zj_icmp_ne (t := 54) (zdk ttX9_passDay 15 rfl rfl) (by decide) (by omega) (by omega) (fun c286 => ?_) (fun c286 => ?_)
        · refine zj_iinc (L' := [some (.inr c), some (.inl p1), some (.inl (x2 + 1))]) (zdk ttX9_passDay 28 rfl rfl) rfl (by decide) rfl ?_
          refine zj_goto (t := 2) (zdk ttX9_passDay 29 rfl rfl) (by decide) ?_
          exact ih94  (x2 + 1) h3 (by omega) s4 f5 (by intro E x t0; obtain ⟨r, t1, q1⟩ := u92 E x t0; have m1 := xC_m t0; have z8 : h3.2 (c + 1) 12 = r 0 := (xC_g t1).2.2.2.2.2.2.2.1; have td := (xC_td t0 (show 0 ≤ x2 by omega) (show x2 < E.dm by omega)).1; exact ⟨r, t1, (fTw_n (by omega) (show ¬ E.dd x2 = r 0 by omega)).symm.trans q1⟩) (by omega)
        · refine zj_aload_n (zdk ttX9_passDay 16 rfl rfl) rfl (by omega) ?_
          refine zj_aload_n (zdk ttX9_passDay 17 rfl rfl) rfl (by omega) ?_
          refine zj_getr (r := (c + 16)) (zdk ttX9_passDay 18 rfl rfl) zf_RX9_32 rfl (k_9_0 s4 hc) (rf_9_0_3 s4 hc) ?_
          refine zj_getr (r := (c + 18)) (zdk ttX9_passDay 19 rfl rfl) zf_RX9_85 rfl (k_9_16 s4 hc) (rf_9_16_1 s4 hc) ?_
          refine zj_iload_n (zdk ttX9_passDay 20 rfl rfl) rfl ?_
          have b287 : -2147483648 ≤ (h.2 (c + 18) x2) ∧ (h.2 (c + 18) x2) ≤ 2147483647 := ab_9_16_1 s0 hc x2
          refine zj_iald (v := (h.2 (c + 18) x2)) (zdk ttX9_passDay 21 rfl rfl) (ka_9_16_1 s4 hc) (by decide) (by omega) (zfC_a f5 (fun z9 => by unfold w_X9_passDay at z9; first | (revert z9; decide) | omega)) ?_
          refine zj_aload_n (zdk ttX9_passDay 22 rfl rfl) rfl (by omega) ?_
          refine zj_getr (r := (c + 16)) (zdk ttX9_passDay 23 rfl rfl) zf_RX9_32 rfl (k_9_0 s4 hc) (rf_9_0_3 s4 hc) ?_
          refine zj_getr (r := (c + 19)) (zdk ttX9_passDay 24 rfl rfl) zf_RX9_88 rfl (k_9_16 s4 hc) (rf_9_16_2 s4 hc) ?_
          refine zj_iload_n (zdk ttX9_passDay 25 rfl rfl) rfl ?_
          have b288 : -2147483648 ≤ (h.2 (c + 19) x2) ∧ (h.2 (c + 19) x2) ≤ 2147483647 := ab_9_16_2 s0 hc x2
          refine zj_iald (v := (h.2 (c + 19) x2)) (zdk ttX9_passDay 26 rfl rfl) (ka_9_16_2 s4 hc) (by decide) (by omega) (zfC_a f5 (fun z9 => by unfold w_X9_passDay at z9; first | (revert z9; decide) | omega)) ?_
          refine zj_callV (av := [.inl (h.2 (c + 18) x2), .inl (h.2 (c + 19) x2)]) (st := []) (zdk ttX9_passDay 27 rfl rfl) mb_X9_happen mv_RX9_91 (ci := 9) rfl rfl (k_9_0 s4 hc) rfl rfl (Nat.le_of_ble_eq_true rfl) (s2_X9_happen l h3 c (h.2 (c + 18) x2) (h.2 (c + 19) x2) s4 hc (by omega) (by omega)) (rm_ok (by decide) (by decide)) (zq_v fun h291 q289 => ?_)
          obtain ⟨s293, f295, u294⟩ := q289
          refine zj_iinc (L' := [some (.inr c), some (.inl p1), some (.inl (x2 + 1))]) (zdk ttX9_passDay 28 rfl rfl) rfl (by decide) rfl ?_
          refine zj_goto (t := 2) (zdk ttX9_passDay 29 rfl rfl) (by decide) ?_
          have f296 : zfC (w_X9_passDay c) h h291 := zfC_t f5 f295 (fun a9 b9 z9 => by
            rcases z9 with z9 | z9
            · exact (Or.inl (by omega))
            · exact (Or.inl (by omega)))
          exact ih94  (x2 + 1) h291 (by omega) s293 f296 (by intro E x t0; obtain ⟨r, t1, q1⟩ := u92 E x t0; have m1 := xC_m t0; have z8 : h3.2 (c + 1) 12 = r 0 := (xC_g t1).2.2.2.2.2.2.2.1; have td := (xC_td t0 (show 0 ≤ x2 by omega) (show x2 < E.dm by omega)).1; have t2 := u294 E (fth p1) (r, x.2) x2 t1 (by omega) (by omega) (by omega); exact ⟨_, t2, (fTw_y (by omega) (show E.dd x2 = r 0 by omega)).symm.trans q1⟩) (by omega)
  exact lp90 _ 0 h (by omega) s0 (zfC_r _ _) (fun E x t0 => ⟨x.1, t0, by rw [show E.dm - 0 = E.dm by omega]⟩) (Nat.lt_succ_self _)
