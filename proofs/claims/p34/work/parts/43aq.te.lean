abbrev q2_X6_putToken (h : zM) (p1 : Int) (p2 : Int) : Option zV → zM → Prop := zqv fun h' => okC h' ∧ zfC w_X6_putToken h h' ∧ (h.2 103 4 ≤ 400 → (h'.2 103 4 = h.2 103 4 + 1 ∧ (∀ j, h'.2 105 j = if j = h.2 103 4 then p1 else h.2 105 j) ∧ (∀ j, h'.2 106 j = if j = h.2 103 4 then p2 else h.2 106 j)))
set_option maxRecDepth 100000 in
set_option maxHeartbeats 4000000 in
theorem s2_X6_putToken (l : Launch) (h : zM) (p1 : Int) (p2 : Int) (s0 : okC h) (b_p1 : (-2147483648) ≤ p1 ∧ p1 ≤ 2147483647) (b_p2 : (-2147483648) ≤ p2 ∧ p2 ≤ 2147483647) : zT shC l yX6_putToken cX6_putToken 3 none (rmL 1) 0 0 [.inr 103, .inl p1, .inl p2] h (q2_X6_putToken h p1 p2) := by
  refine zT_of (by decide +kernel) (L0 := [some (.inr 103), some (.inl p1), some (.inl p2)]) rfl (Nat.le_of_ble_eq_true rfl) ?_
  refine zj_aload_n (zdk ttX6_putToken 0 rfl rfl) rfl (by decide) ?_
  have b1 : 0 ≤ (h.2 103 4) ∧ (h.2 103 4) ≤ 401 := fb_L103_4 s0
  refine zj_geti (v := (h.2 103 4)) (zdk ttX6_putToken 1 rfl rfl) zf_RX6_25 rfl (k_L103 s0) rfl ?_
  refine zj_sipush (zdk ttX6_putToken 2 rfl rfl) (by decide) ?_
  refine zj_icmp_gt (t := 40) (zdk ttX6_putToken 3 rfl rfl) (by decide) (by omega) (by decide) (fun c2 => ?_) (fun c2 => ?_)
  · exact zj_vret rfl (zdk ttX6_putToken 22 rfl rfl) (Nat.le_refl _) (Nat.le_refl _) ⟨rfl, s0, (zfC_r _ _), (fun z => absurd z (by omega))⟩
  · refine zj_aload_n (zdk ttX6_putToken 4 rfl rfl) rfl (by decide) ?_
    refine zj_getr (r := 105) (zdk ttX6_putToken 5 rfl rfl) zf_RX6_15 rfl (k_L103 s0) (rf_L103_1 s0) ?_
    refine zj_aload_n (zdk ttX6_putToken 6 rfl rfl) rfl (by decide) ?_
    refine zj_geti (v := (h.2 103 4)) (zdk ttX6_putToken 7 rfl rfl) zf_RX6_25 rfl (k_L103 s0) rfl ?_
    refine zj_iload_n (zdk ttX6_putToken 8 rfl rfl) rfl ?_
    refine zj_iast (zdk ttX6_putToken 9 rfl rfl) (ka_L103_1 s0) (by decide) (by omega) (fun h3 e4 => ?_)
    refine zj_aload_n (zdk ttX6_putToken 10 rfl rfl) rfl (by decide) ?_
    have s5 : okC h3 := aw_L103_1 s0 e4 (by omega)
    refine zj_getr (r := 106) (zdk ttX6_putToken 11 rfl rfl) zf_RX6_18 rfl (k_L103 s5) (rf_L103_2 s5) ?_
    refine zj_aload_n (zdk ttX6_putToken 12 rfl rfl) rfl (by decide) ?_
    refine zj_geti (v := (h.2 103 4)) (zdk ttX6_putToken 13 rfl rfl) zf_RX6_25 rfl (k_L103 s5) (zwr_r e4 (by first | decide | exact (absurd ·.1 (by decide)) | exact (absurd ·.2 (by decide)) | omega)) ?_
    refine zj_iload_n (zdk ttX6_putToken 14 rfl rfl) rfl ?_
    refine zj_iast (zdk ttX6_putToken 15 rfl rfl) (ka_L103_2 s5) (by decide) (by omega) (fun h6 e7 => ?_)
    refine zj_aload_n (zdk ttX6_putToken 16 rfl rfl) rfl (by decide) ?_
    refine zj_dup (zdk ttX6_putToken 17 rfl rfl) ?_
    have s8 : okC h6 := aw_L103_2 s5 e7 (by omega)
    refine zj_geti (v := (h.2 103 4)) (zdk ttX6_putToken 18 rfl rfl) zf_RX6_25 rfl (k_L103 s8) ((zwr_r e7 (by first | decide | exact (absurd ·.1 (by decide)) | exact (absurd ·.2 (by decide)) | omega)).trans (zwr_r e4 (by first | decide | exact (absurd ·.1 (by decide)) | exact (absurd ·.2 (by decide)) | omega))) ?_
    refine zj_iconst (zdk ttX6_putToken 19 rfl rfl) ?_
    refine zj_iadd (zdk ttX6_putToken 20 rfl rfl) ?_
    refine zj_puti (zdk ttX6_putToken 21 rfl rfl) zf_RX6_25 rfl (k_L103 s8) (Or.inl zw_RX6_25) (k2 := 4) rfl (fun h9 e10 => ?_)
    have s11 : okC h9 := fw_L103_4 s8 e10 (by omega)
    have f14 : zfC w_X6_putToken h h3 := zfC_w (zfC_r _ _) e4 (Or.inr (by omega))
    have f13 : zfC w_X6_putToken h h6 := zfC_w f14 e7 (Or.inr (by omega))
    have f12 : zfC w_X6_putToken h h9 := zfC_w f13 e10 (Or.inl (by omega))
    exact zj_vret rfl (zdk ttX6_putToken 22 rfl rfl) (Nat.le_refl _) (Nat.le_refl _) ⟨rfl, s11, f12, (fun _ => ⟨zwr_v e10, fun j => by rw [zwr_r e10 (by first | decide | exact (absurd ·.1 (by decide)) | exact (absurd ·.2 (by decide)) | omega), zwr_r e7 (by first | decide | exact (absurd ·.1 (by decide)) | exact (absurd ·.2 (by decide)) | omega), tRow e4 rfl j], fun j => by rw [zwr_r e10 (by first | decide | exact (absurd ·.1 (by decide)) | exact (absurd ·.2 (by decide)) | omega), tRow e7 rfl j, zwr_r (a := 106) (b := j) e4 (by omega)]⟩)⟩

abbrev q2_X6_numberAt (h : zM) (p1 : Int) (p2 : Int) : Option zV → zM → Prop := zqi fun v h' => h = h' ∧ (1 ≤ v ∧ v ≤ 10999) ∧ ((4 < p2 - p1 ∧ v = 1) ∨ (p2 - p1 ≤ 4 ∧ v = 1000 + tvl (h.2 104) p1 (p2 - p1).toNat))
set_option maxRecDepth 100000 in
set_option maxHeartbeats 4000000 in
theorem s2_X6_numberAt (l : Launch) (h : zM) (p1 : Int) (p2 : Int) (s0 : okC h) (b_p1 : 0 ≤ p1 ∧ p1 ≤ 400) (b_p2 : 0 ≤ p2 ∧ p2 ≤ 400) (u_0 : ∀ i, p1 ≤ i → i < p2 → 48 ≤ h.2 104 i ∧ h.2 104 i ≤ 57) (u_1 : p1 ≤ p2) : zT shC l yX6_numberAt cX6_numberAt 5 (some .int) (rmL 1) 0 0 [.inr 103, .inl p1, .inl p2] h (q2_X6_numberAt h p1 p2) := by
  refine zT_of (by decide +kernel) (L0 := [some (.inr 103), some (.inl p1), some (.inl p2), none, none]) rfl (Nat.le_of_ble_eq_true rfl) ?_
  refine zj_iload_n (zdk ttX6_numberAt 0 rfl rfl) rfl ?_
  refine zj_iload_n (zdk ttX6_numberAt 1 rfl rfl) rfl ?_
  refine zj_isub (zdk ttX6_numberAt 2 rfl rfl) ?_
  refine zj_iconst (zdk ttX6_numberAt 3 rfl rfl) ?_
  refine zj_icmp_le (t := 9) (zdk ttX6_numberAt 4 rfl rfl) (by decide) (by omega) (by decide) (fun c1 => ?_) (fun c1 => ?_)
  · refine zj_iconst (zdk ttX6_numberAt 7 rfl rfl) ?_
    refine zj_istore_n (L' := [some (.inr 103), some (.inl p1), some (.inl p2), some (.inl 0), none]) (zdk ttX6_numberAt 8 rfl rfl) (by decide) rfl ?_
    refine zj_iload_n (zdk ttX6_numberAt 9 rfl rfl) rfl ?_
    refine zj_istore (L' := [some (.inr 103), some (.inl p1), some (.inl p2), some (.inl 0), some (.inl p1)]) (zdk ttX6_numberAt 10 rfl rfl) (by decide) rfl ?_
    have lp7 : ∀ (n : Nat) (x2 x3 : Int), (0 ≤ x2 ∧ x2 ≤ 9999) → (0 ≤ x3 ∧ x3 ≤ 400) → (x2 = tvl (h.2 104) p1 (x3 - p1).toNat) → (p1 ≤ x3 ∧ x3 ≤ p2) → (401 - x3).toNat < n → zJ shC l yX6_numberAt cX6_numberAt 5 (some .int) (rmL 1) 0 0 (q2_X6_numberAt h p1 p2) 0 0 14 [some (.inr 103), some (.inl p1), some (.inl p2), some (.inl x2), some (.inl x3)] [] h := by
      intro n
      induction n with
      | zero => intro x2 x3 b8 b9 u10 u11 m12; exact absurd m12 (Nat.not_lt_zero _)
      | succ n ih13 =>
        intro x2 x3 b8 b9 u10 u11 m12
        refine zj_iload (zdk ttX6_numberAt 11 rfl rfl) rfl ?_
        refine zj_iload_n (zdk ttX6_numberAt 12 rfl rfl) rfl ?_
        refine zj_icmp_ge (t := 50) (zdk ttX6_numberAt 13 rfl rfl) (by decide) (by omega) (by omega) (fun c14 => ?_) (fun c14 => ?_)
        · refine zj_sipush (zdk ttX6_numberAt 30 rfl rfl) (by decide) ?_
          refine zj_iload_n (zdk ttX6_numberAt 31 rfl rfl) rfl ?_
          refine zj_iadd (zdk ttX6_numberAt 32 rfl rfl) ?_
          exact zj_iret rfl (zdk ttX6_numberAt 33 rfl rfl) (Nat.le_refl _) (Nat.le_refl _) ⟨(1000 + x2), rfl, rfl, by omega, (by have e9 := u10; rw [show x3 = p2 by omega] at e9; exact Or.inr ⟨by omega, by omega⟩)⟩
        · refine zj_iload (zdk ttX6_numberAt 14 rfl rfl) rfl ?_
          refine zj_sipush (zdk ttX6_numberAt 15 rfl rfl) (by decide) ?_
          refine zj_icmp_ge (t := 50) (zdk ttX6_numberAt 16 rfl rfl) (by decide) (by omega) (by decide) (fun c15 => ?_) (fun c15 => ?_)
          · exact absurd c15 (by omega)
          · have tb9 := tvl_b (B := h.2 104) (q := p1) (x3 - p1).toNat (fun i a b => u_0 i a (by omega))
            have tp9 : (10 : Nat) ^ (x3 - p1).toNat ≤ 10 ^ 3 := Nat.pow_le_pow_right (by decide) (by omega)
            have tq9 : (10 : Nat) ^ 3 = 1000 := by decide
            have td9 := u_0 x3 (by omega) (by omega)
            have te9 : 0 ≤ x2 ∧ x2 ≤ 999 := by omega
            refine zj_iload_n (zdk ttX6_numberAt 17 rfl rfl) rfl ?_
            refine zj_bipush (zdk ttX6_numberAt 18 rfl rfl) (by decide) ?_
            refine zj_imul (zdk ttX6_numberAt 19 rfl rfl) ?_
            refine zj_aload_n (zdk ttX6_numberAt 20 rfl rfl) rfl (by decide) ?_
            refine zj_getr (r := 104) (zdk ttX6_numberAt 21 rfl rfl) zf_RX6_11 rfl (k_L103 s0) (rf_L103_0 s0) ?_
            refine zj_iload (zdk ttX6_numberAt 22 rfl rfl) rfl ?_
            have b16 : 0 ≤ (h.2 104 x3) ∧ (h.2 104 x3) ≤ 255 := ab_L103_0 s0 x3
            refine zj_iald (v := (h.2 104 x3)) (zdk ttX6_numberAt 23 rfl rfl) (ka_L103_0 s0) (by decide) (by omega) rfl ?_
            refine zj_iadd (zdk ttX6_numberAt 24 rfl rfl) ?_
            refine zj_bipush (zdk ttX6_numberAt 25 rfl rfl) (by decide) ?_
            refine zj_isub (zdk ttX6_numberAt 26 rfl rfl) ?_
            refine zj_istore_n (L' := [some (.inr 103), some (.inl p1), some (.inl p2), some (.inl (((x2 * 10) + (h.2 104 x3)) - 48)), some (.inl x3)]) (zdk ttX6_numberAt 27 rfl rfl) (by decide) rfl ?_
            refine zj_iinc (L' := [some (.inr 103), some (.inl p1), some (.inl p2), some (.inl (((x2 * 10) + (h.2 104 x3)) - 48)), some (.inl (x3 + 1))]) (zdk ttX6_numberAt 28 rfl rfl) rfl (by decide) rfl ?_
            refine zj_goto (t := 14) (zdk ttX6_numberAt 29 rfl rfl) (by decide) ?_
            have b17 := tvl_s (h.2 104) (q := p1) (x := x3) (by omega)
            exact ih13  (((x2 * 10) + (h.2 104 x3)) - 48) (x3 + 1) (by omega) (by omega) (by rw [b17]; omega) (by omega) (by omega)
    exact lp7 _ 0 p1 (by omega) (by omega) (by rw [show (p1 - p1).toNat = 0 by omega]; rfl) (by omega) (Nat.lt_succ_self _)
  · refine zj_iconst (zdk ttX6_numberAt 5 rfl rfl) ?_
    exact zj_iret rfl (zdk ttX6_numberAt 6 rfl rfl) (Nat.le_refl _) (Nat.le_refl _) ⟨1, rfl, rfl, by omega, Or.inl ⟨by omega, rfl⟩⟩

abbrev q2_X6_isSame (h : zM) (i_p1 : Nat) (p2 : Int) (p3 : Int) (p4 : Int) : Option zV → zM → Prop := zqi fun v h' => h = h' ∧ (0 ≤ v ∧ v ≤ 1) ∧ (tIs i_p1 (h.2 104) p2 p3 p4 v)
set_option maxRecDepth 100000 in
set_option maxHeartbeats 4000000 in
theorem s2_X6_isSame (l : Launch) (h : zM) (i_p1 : Nat) (p2 : Int) (p3 : Int) (p4 : Int) (s0 : okC h) (hi_p1 : i_p1 < 5) (b_p2 : 0 ≤ p2 ∧ p2 ≤ 99) (b_p3 : 0 ≤ p3 ∧ p3 ≤ 99) (b_p4 : 0 ≤ p4 ∧ p4 ≤ 400) (u_0 : p3 ≤ zln i_p1) : zT shC l yX6_isSame cX6_isSame 7 (some .boolean) (rmL 6) 0 0 [.inr 103, .inr (-2 - ((i_p1 : Nat) : Int)), .inl p2, .inl p3, .inl p4] h (q2_X6_isSame h i_p1 p2 p3 p4) := by
  refine zT_of (by decide +kernel) (L0 := [some (.inr 103), some (.inr (-2 - ((i_p1 : Nat) : Int))), some (.inl p2), some (.inl p3), some (.inl p4), none, none]) rfl (Nat.le_of_ble_eq_true rfl) ?_
  refine zj_iload_n (zdk ttX6_isSame 0 rfl rfl) rfl ?_
  refine zj_istore (L' := [some (.inr 103), some (.inr (-2 - ((i_p1 : Nat) : Int))), some (.inl p2), some (.inl p3), some (.inl p4), some (.inl p2), none]) (zdk ttX6_isSame 1 rfl rfl) (by decide) rfl ?_
  have lp10 : ∀ (n : Nat) (x1 : Int), (0 ≤ x1 ∧ x1 ≤ 99) → (p2 ≤ x1) → (∀ t, p2 ≤ t → t < x1 → zbv i_p1 t.toNat = h.2 104 (p4 + t - p2)) → (100 - x1).toNat < n → zJ shC l yX6_isSame cX6_isSame 7 (some .boolean) (rmL 6) 0 0 (q2_X6_isSame h i_p1 p2 p3 p4) 0 0 3 [some (.inr 103), some (.inr (-2 - ((i_p1 : Nat) : Int))), some (.inl p2), some (.inl p3), some (.inl p4), some (.inl x1), none] [] h := by
    intro n
    induction n with
    | zero => intro x1 b11 u12 u13 m14; exact absurd m14 (Nat.not_lt_zero _)
    | succ n ih15 =>
      intro x1 b11 u12 u13 m14
      refine zj_iload (zdk ttX6_isSame 2 rfl rfl) rfl ?_
      refine zj_iload_n (zdk ttX6_isSame 3 rfl rfl) rfl ?_
      refine zj_icmp_ge (t := 50) (zdk ttX6_isSame 4 rfl rfl) (by decide) (by omega) (by omega) (fun c16 => ?_) (fun c16 => ?_)
      · refine zj_iconst (zdk ttX6_isSame 26 rfl rfl) ?_
        exact zj_zret rfl (zdk ttX6_isSame 27 rfl rfl) (Nat.le_refl _) (Nat.le_refl _) (by omega) ⟨1, rfl, rfl, by omega, by first | exact Or.inl ⟨rfl, fun t a b => u13 t a (by omega)⟩ | exact Or.inr ⟨rfl, x1, by omega, by omega, by omega⟩⟩
      · refine zj_iload (zdk ttX6_isSame 5 rfl rfl) rfl ?_
        refine zj_iload (zdk ttX6_isSame 6 rfl rfl) rfl ?_
        refine zj_iadd (zdk ttX6_isSame 7 rfl rfl) ?_
        refine zj_iload_n (zdk ttX6_isSame 8 rfl rfl) rfl ?_
        refine zj_isub (zdk ttX6_isSame 9 rfl rfl) ?_
        refine zj_istore (L' := [some (.inr 103), some (.inr (-2 - ((i_p1 : Nat) : Int))), some (.inl p2), some (.inl p3), some (.inl p4), some (.inl x1), some (.inl ((p4 + x1) - p2))]) (zdk ttX6_isSame 10 rfl rfl) (by decide) rfl ?_
        refine zj_iload (zdk ttX6_isSame 11 rfl rfl) rfl ?_
        refine zj_sipush (zdk ttX6_isSame 12 rfl rfl) (by decide) ?_
        refine zj_icmp_ge (t := 42) (zdk ttX6_isSame 13 rfl rfl) (by decide) (by omega) (by decide) (fun c17 => ?_) (fun c17 => ?_)
        · refine zj_iconst (zdk ttX6_isSame 22 rfl rfl) ?_
          exact zj_zret rfl (zdk ttX6_isSame 23 rfl rfl) (Nat.le_refl _) (Nat.le_refl _) (by omega) ⟨0, rfl, rfl, by omega, by first | exact Or.inl ⟨rfl, fun t a b => u13 t a (by omega)⟩ | exact Or.inr ⟨rfl, x1, by omega, by omega, by omega⟩⟩
        · refine zj_aload_n (zdk ttX6_isSame 14 rfl rfl) rfl (by omega) ?_
          refine zj_iload (zdk ttX6_isSame 15 rfl rfl) rfl ?_
          have b21l := zln_b i_p1 hi_p1
          refine zj_callVs hi_p1 (av := [.inl x1]) (st := []) (zdk ttX6_isSame 16 rfl rfl) mb_J0_charAt_5068e mv_RX6_73 rfl rfl rfl (Nat.le_of_ble_eq_true rfl) (s_J0_charAt_5068e shC l h i_p1 x1 hi_p1 (by omega)) (rm_ok (by decide) (by decide)) (zq_i fun v18 h19 q20 => ?_)
          obtain ⟨rfl, b21e⟩ := q20
          have b21z := zbv_b i_p1 hi_p1 (x1).toNat (by omega)
          have b21 : 0 ≤ v18 ∧ v18 ≤ 127 := by omega
          refine zj_aload_n (zdk ttX6_isSame 17 rfl rfl) rfl (by decide) ?_
          refine zj_getr (r := 104) (zdk ttX6_isSame 18 rfl rfl) zf_RX6_11 rfl (k_L103 s0) (rf_L103_0 s0) ?_
          refine zj_iload (zdk ttX6_isSame 19 rfl rfl) rfl ?_
          have b22 : 0 ≤ (h.2 104 ((p4 + x1) - p2)) ∧ (h.2 104 ((p4 + x1) - p2)) ≤ 255 := ab_L103_0 s0 ((p4 + x1) - p2)
          refine zj_iald (v := (h.2 104 ((p4 + x1) - p2))) (zdk ttX6_isSame 20 rfl rfl) (ka_L103_0 s0) (by decide) (by omega) rfl ?_
          refine zj_icmp_eq (t := 44) (zdk ttX6_isSame 21 rfl rfl) (by decide) (by omega) (by omega) (fun c23 => ?_) (fun c23 => ?_)
          · refine zj_iinc (L' := [some (.inr 103), some (.inr (-2 - ((i_p1 : Nat) : Int))), some (.inl p2), some (.inl p3), some (.inl p4), some (.inl (x1 + 1)), some (.inl ((p4 + x1) - p2))]) (zdk ttX6_isSame 24 rfl rfl) rfl (by decide) rfl ?_
            refine zj_goto (t := 3) (zdk ttX6_isSame 25 rfl rfl) (by decide) ?_
            refine zj_kill (k := 6) (L' := [some (.inr 103), some (.inr (-2 - ((i_p1 : Nat) : Int))), some (.inl p2), some (.inl p3), some (.inl p4), some (.inl (x1 + 1)), none]) rfl ?_
            exact ih15  (x1 + 1) (by omega) (by omega) (fun t a b => (Classical.em (t = x1)).elim (fun q => by rw [q]; omega) (fun q => u13 t a (by omega))) (by omega)
          · refine zj_iconst (zdk ttX6_isSame 22 rfl rfl) ?_
            exact zj_zret rfl (zdk ttX6_isSame 23 rfl rfl) (Nat.le_refl _) (Nat.le_refl _) (by omega) ⟨0, rfl, rfl, by omega, by first | exact Or.inl ⟨rfl, fun t a b => u13 t a (by omega)⟩ | exact Or.inr ⟨rfl, x1, by omega, by omega, by omega⟩⟩
  exact lp10 _ p2 (by omega) (by omega) (fun t a b => absurd b (by omega)) (Nat.lt_succ_self _)

abbrev q2_X6_wordAt (h : zM) (i_p1 : Nat) (p2 : Int) (p3 : Int) : Option zV → zM → Prop := zqi fun v h' => h = h' ∧ (1 ≤ v ∧ v ≤ 217) ∧ (tWp i_p1 (h.2 104) p2 p3 v)
set_option maxRecDepth 100000 in
set_option maxHeartbeats 4000000 in
theorem s2_X6_wordAt (l : Launch) (h : zM) (i_p1 : Nat) (p2 : Int) (p3 : Int) (s0 : okC h) (hi_p1 : i_p1 < 5) (b_p2 : 0 ≤ p2 ∧ p2 ≤ 400) (b_p3 : 0 ≤ p3 ∧ p3 ≤ 400) : zT shC l yX6_wordAt cX6_wordAt 7 (some .int) (rmL 7) 0 0 [.inr 103, .inr (-2 - ((i_p1 : Nat) : Int)), .inl p2, .inl p3] h (q2_X6_wordAt h i_p1 p2 p3) := by
  refine zT_of (by decide +kernel) (L0 := [some (.inr 103), some (.inr (-2 - ((i_p1 : Nat) : Int))), some (.inl p2), some (.inl p3), none, none, none]) rfl (Nat.le_of_ble_eq_true rfl) ?_
  refine zj_iconst (zdk ttX6_wordAt 0 rfl rfl) ?_
  refine zj_istore (L' := [some (.inr 103), some (.inr (-2 - ((i_p1 : Nat) : Int))), some (.inl p2), some (.inl p3), some (.inl 0), none, none]) (zdk ttX6_wordAt 1 rfl rfl) (by decide) rfl ?_
  refine zj_iconst (zdk ttX6_wordAt 2 rfl rfl) ?_
  refine zj_istore (L' := [some (.inr 103), some (.inr (-2 - ((i_p1 : Nat) : Int))), some (.inl p2), some (.inl p3), some (.inl 0), some (.inl 0), none]) (zdk ttX6_wordAt 3 rfl rfl) (by decide) rfl ?_
  refine zj_iconst (zdk ttX6_wordAt 4 rfl rfl) ?_
  refine zj_istore (L' := [some (.inr 103), some (.inr (-2 - ((i_p1 : Nat) : Int))), some (.inl p2), some (.inl p3), some (.inl 0), some (.inl 0), some (.inl 0)]) (zdk ttX6_wordAt 5 rfl rfl) (by decide) rfl ?_
  have lp21 : ∀ (n : Nat) (x1 x2 x3 : Int), (0 ≤ x1 ∧ x1 ≤ 99) → (0 ≤ x2 ∧ x2 ≤ 17) → (0 ≤ x3 ∧ x3 ≤ 99) → (tWi i_p1 (h.2 104) p2 p3 x1 x2 x3) → (100 - x3).toNat < n → zJ shC l yX6_wordAt cX6_wordAt 7 (some .int) (rmL 7) 0 0 (q2_X6_wordAt h i_p1 p2 p3) 0 0 9 [some (.inr 103), some (.inr (-2 - ((i_p1 : Nat) : Int))), some (.inl p2), some (.inl p3), some (.inl x1), some (.inl x2), some (.inl x3)] [] h := by
    intro n
    induction n with
    | zero => intro x1 x2 x3 b22 b23 b24 u25 m26; exact absurd m26 (Nat.not_lt_zero _)
    | succ n ih27 =>
      intro x1 x2 x3 b22 b23 b24 u25 m26
      refine zj_iload (zdk ttX6_wordAt 6 rfl rfl) rfl ?_
      refine zj_aload_n (zdk ttX6_wordAt 7 rfl rfl) rfl (by omega) ?_
      refine zj_callVs hi_p1 (av := []) (st := [.inl x3]) (zdk ttX6_wordAt 8 rfl rfl) mb_J0_length_8abf5 mv_RX6_70 rfl rfl rfl (Nat.le_of_ble_eq_true rfl) (s_J0_length_8abf5 shC l h i_p1 hi_p1) (rm_ok (by decide) (by decide)) (zq_i fun v28 h29 q30 => ?_)
      obtain ⟨rfl, rfl⟩ := q30
      have b31 := zln_b i_p1 hi_p1
      refine zj_icmp_ge (t := 78) (zdk ttX6_wordAt 9 rfl rfl) (by decide) (by omega) (by omega) (fun c32 => ?_) (fun c32 => ?_)
      · refine zj_iconst (zdk ttX6_wordAt 41 rfl rfl) ?_
        exact zj_iret rfl (zdk ttX6_wordAt 42 rfl rfl) (Nat.le_refl _) (Nat.le_refl _) ⟨1, rfl, rfl, by omega, (tWi_e hi_p1 u25 (by omega))⟩
      · refine zj_aload_n (zdk ttX6_wordAt 10 rfl rfl) rfl (by omega) ?_
        refine zj_iload (zdk ttX6_wordAt 11 rfl rfl) rfl ?_
        have b36l := zln_b i_p1 hi_p1
        refine zj_callVs hi_p1 (av := [.inl x3]) (st := []) (zdk ttX6_wordAt 12 rfl rfl) mb_J0_charAt_5068e mv_RX6_73 rfl rfl rfl (Nat.le_of_ble_eq_true rfl) (s_J0_charAt_5068e shC l h i_p1 x3 hi_p1 (by omega)) (rm_ok (by decide) (by decide)) (zq_i fun v33 h34 q35 => ?_)
        obtain ⟨rfl, b36e⟩ := q35
        have b36z := zbv_b i_p1 hi_p1 (x3).toNat (by omega)
        have b36 : 0 ≤ v33 ∧ v33 ≤ 127 := by omega
        refine zj_bipush (zdk ttX6_wordAt 13 rfl rfl) (by decide) ?_
        refine zj_icmp_eq (t := 32) (zdk ttX6_wordAt 14 rfl rfl) (by decide) (by omega) (by decide) (fun c37 => ?_) (fun c37 => ?_)
        · have w9 := tWi_w hi_p1 u25 (by omega) (by omega)
          have n9 := (tS_e i_p1 hi_p1).2.2.2
          refine zj_iload (zdk ttX6_wordAt 16 rfl rfl) rfl ?_
          refine zj_iload (zdk ttX6_wordAt 17 rfl rfl) rfl ?_
          refine zj_isub (zdk ttX6_wordAt 18 rfl rfl) ?_
          refine zj_iload_n (zdk ttX6_wordAt 19 rfl rfl) rfl ?_
          refine zj_iload_n (zdk ttX6_wordAt 20 rfl rfl) rfl ?_
          refine zj_isub (zdk ttX6_wordAt 21 rfl rfl) ?_
          refine zj_icmp_ne (t := 63) (zdk ttX6_wordAt 22 rfl rfl) (by decide) (by omega) (by omega) (fun c38 => ?_) (fun c38 => ?_)
          · refine zj_iload (zdk ttX6_wordAt 34 rfl rfl) rfl ?_
            refine zj_iconst (zdk ttX6_wordAt 35 rfl rfl) ?_
            refine zj_iadd (zdk ttX6_wordAt 36 rfl rfl) ?_
            refine zj_istore (L' := [some (.inr 103), some (.inr (-2 - ((i_p1 : Nat) : Int))), some (.inl p2), some (.inl p3), some (.inl (x3 + 1)), some (.inl x2), some (.inl x3)]) (zdk ttX6_wordAt 37 rfl rfl) (by decide) rfl ?_
            refine zj_iinc (L' := [some (.inr 103), some (.inr (-2 - ((i_p1 : Nat) : Int))), some (.inl p2), some (.inl p3), some (.inl (x3 + 1)), some (.inl (x2 + 1)), some (.inl x3)]) (zdk ttX6_wordAt 38 rfl rfl) rfl (by decide) rfl ?_
            refine zj_iinc (L' := [some (.inr 103), some (.inr (-2 - ((i_p1 : Nat) : Int))), some (.inl p2), some (.inl p3), some (.inl (x3 + 1)), some (.inl (x2 + 1)), some (.inl (x3 + 1))]) (zdk ttX6_wordAt 39 rfl rfl) rfl (by decide) rfl ?_
            refine zj_goto (t := 9) (zdk ttX6_wordAt 40 rfl rfl) (by decide) ?_
            exact ih27  (x3 + 1) (x2 + 1) (x3 + 1) (by omega) (by omega) (by omega) (tWi_n hi_p1 u25 (by omega) (by omega) (fun s9 => by first | (have d9 := s9.1; omega) | (have z9 := u19; rw [show v16 = 0 by omega, w9.2.1] at z9; exact (tIs_m w9.2.2 (by omega) (by omega)).2 z9 s9))) (by omega)
          · refine zj_aload_n (zdk ttX6_wordAt 23 rfl rfl) rfl (by decide) ?_
            refine zj_aload_n (zdk ttX6_wordAt 24 rfl rfl) rfl (by omega) ?_
            refine zj_iload (zdk ttX6_wordAt 25 rfl rfl) rfl ?_
            refine zj_iload (zdk ttX6_wordAt 26 rfl rfl) rfl ?_
            refine zj_iload_n (zdk ttX6_wordAt 27 rfl rfl) rfl ?_
            refine zj_callV (av := [.inr (-2 - ((i_p1 : Nat) : Int)), .inl x1, .inl x3, .inl p2]) (st := []) (zdk ttX6_wordAt 28 rfl rfl) mb_X6_isSame mv_RX6_77 (ci := 6) rfl rfl (k_L103 s0) rfl rfl (Nat.le_of_ble_eq_true rfl) (s2_X6_isSame l h i_p1 x1 x3 p2 s0 hi_p1 (by omega) (by omega) (by omega) (by omega)) (rm_ok (by decide) (by decide)) (zq_i fun v40 h41 q39 => ?_)
            obtain ⟨rfl, b42, u43⟩ := q39
            refine zj_if_eq (t := 63) (zdk ttX6_wordAt 29 rfl rfl) (by decide) (by omega) (fun c44 => ?_) (fun c44 => ?_)
            · refine zj_iload (zdk ttX6_wordAt 34 rfl rfl) rfl ?_
              refine zj_iconst (zdk ttX6_wordAt 35 rfl rfl) ?_
              refine zj_iadd (zdk ttX6_wordAt 36 rfl rfl) ?_
              refine zj_istore (L' := [some (.inr 103), some (.inr (-2 - ((i_p1 : Nat) : Int))), some (.inl p2), some (.inl p3), some (.inl (x3 + 1)), some (.inl x2), some (.inl x3)]) (zdk ttX6_wordAt 37 rfl rfl) (by decide) rfl ?_
              refine zj_iinc (L' := [some (.inr 103), some (.inr (-2 - ((i_p1 : Nat) : Int))), some (.inl p2), some (.inl p3), some (.inl (x3 + 1)), some (.inl (x2 + 1)), some (.inl x3)]) (zdk ttX6_wordAt 38 rfl rfl) rfl (by decide) rfl ?_
              refine zj_iinc (L' := [some (.inr 103), some (.inr (-2 - ((i_p1 : Nat) : Int))), some (.inl p2), some (.inl p3), some (.inl (x3 + 1)), some (.inl (x2 + 1)), some (.inl (x3 + 1))]) (zdk ttX6_wordAt 39 rfl rfl) rfl (by decide) rfl ?_
              refine zj_goto (t := 9) (zdk ttX6_wordAt 40 rfl rfl) (by decide) ?_
              exact ih27  (x3 + 1) (x2 + 1) (x3 + 1) (by omega) (by omega) (by omega) (tWi_n hi_p1 u25 (by omega) (by omega) (fun s9 => by first | (have d9 := s9.1; omega) | (have z9 := u43; rw [show v40 = 0 by omega, w9.2.1] at z9; exact (tIs_m w9.2.2 (by omega) (by omega)).2 z9 s9))) (by omega)
            · refine zj_sipush (zdk ttX6_wordAt 30 rfl rfl) (by decide) ?_
              refine zj_iload (zdk ttX6_wordAt 31 rfl rfl) rfl ?_
              refine zj_iadd (zdk ttX6_wordAt 32 rfl rfl) ?_
              exact zj_iret rfl (zdk ttX6_wordAt 33 rfl rfl) (Nat.le_refl _) (Nat.le_refl _) ⟨(200 + x2), rfl, rfl, by omega, (Or.inl ⟨x2, by omega, rfl, by have z9 := u43; rw [show v40 = 1 by omega, w9.2.1] at z9; exact (tIs_m w9.2.2 (by omega) (by omega)).1 z9⟩)⟩
        · refine zj_goto (t := 72) (zdk ttX6_wordAt 15 rfl rfl) (by decide) ?_
          refine zj_iinc (L' := [some (.inr 103), some (.inr (-2 - ((i_p1 : Nat) : Int))), some (.inl p2), some (.inl p3), some (.inl x1), some (.inl x2), some (.inl (x3 + 1))]) (zdk ttX6_wordAt 39 rfl rfl) rfl (by decide) rfl ?_
          refine zj_goto (t := 9) (zdk ttX6_wordAt 40 rfl rfl) (by decide) ?_
          exact ih27  x1 x2 (x3 + 1) (by omega) (by omega) (by omega) (tWi_c hi_p1 u25 (by omega) (by omega)) (by omega)
  exact lp21 _ 0 0 0 (by omega) (by omega) (by omega) (tWi_0 hi_p1) (Nat.lt_succ_self _)

abbrev q2_X6_cut (h : zM) (i_p1 : Nat) : Option zV → zM → Prop := zqv fun h' => okC h' ∧ zfC w_X6_cut h h' ∧ (h'.2 103 5 = 0) ∧ (h'.2 103 6 = h'.2 105 0) ∧ (tCk i_p1 (h.2 104) (h.2 103 3) (h'.2 105) (h'.2 106) (h'.2 103 4))
set_option maxRecDepth 100000 in
set_option maxHeartbeats 4000000 in
theorem s2_X6_cut (l : Launch) (h : zM) (i_p1 : Nat) (s0 : okC h) (hi_p1 : i_p1 < 5) : zT shC l yX6_cut cX6_cut 5 none (rmL 8) 0 0 [.inr 103, .inr (-2 - ((i_p1 : Nat) : Int))] h (q2_X6_cut h i_p1) := by
  refine zT_of (by decide +kernel) (L0 := [some (.inr 103), some (.inr (-2 - ((i_p1 : Nat) : Int))), none, none, none]) rfl (Nat.le_of_ble_eq_true rfl) ?_
  have zn9 := fb_L103_3 s0
  refine zj_aload_n (zdk ttX6_cut 0 rfl rfl) rfl (by decide) ?_
  refine zj_iconst (zdk ttX6_cut 1 rfl rfl) ?_
  refine zj_puti (zdk ttX6_cut 2 rfl rfl) zf_RX6_25 rfl (k_L103 s0) (Or.inl zw_RX6_25) (k2 := 4) rfl (fun h1 e2 => ?_)
  refine zj_aload_n (zdk ttX6_cut 3 rfl rfl) rfl (by decide) ?_
  refine zj_iconst (zdk ttX6_cut 4 rfl rfl) ?_
  have s3 : okC h1 := fw_L103_4 s0 e2 (by omega)
  refine zj_puti (zdk ttX6_cut 5 rfl rfl) zf_RX6_28 rfl (k_L103 s3) (Or.inl zw_RX6_28) (k2 := 5) rfl (fun h4 e5 => ?_)
  refine zj_iconst (zdk ttX6_cut 6 rfl rfl) ?_
  refine zj_istore_n (L' := [some (.inr 103), some (.inr (-2 - ((i_p1 : Nat) : Int))), some (.inl 0), none, none]) (zdk ttX6_cut 7 rfl rfl) (by decide) rfl ?_
  refine zj_iconst (zdk ttX6_cut 8 rfl rfl) ?_
  refine zj_istore_n (L' := [some (.inr 103), some (.inr (-2 - ((i_p1 : Nat) : Int))), some (.inl 0), some (.inl 0), none]) (zdk ttX6_cut 9 rfl rfl) (by decide) rfl ?_
  have lp143 : ∀ (n : Nat) (x6 x7 : Int) (h8 : zM), (0 ≤ x6 ∧ x6 ≤ 400) → (0 ≤ x7 ∧ x7 ≤ 400) → okC h8 → zfC w_X6_cut h h8 → (tCi i_p1 (h.2 104) (h.2 103 3) (h8.2 105) (h8.2 106) (h8.2 103 4) x7) → (x7 ≤ (h.2 103 3)) → (h8.2 103 5 = 0) → (401 - x7).toNat < n → zJ shC l yX6_cut cX6_cut 5 none (rmL 8) 0 0 (q2_X6_cut h i_p1) 0 0 14 [some (.inr 103), some (.inr (-2 - ((i_p1 : Nat) : Int))), some (.inl x6), some (.inl x7), none] [] h8 := by
    intro n
    induction n with
    | zero => intro x6 x7 h8 b144 b145 s9 f10 u146 u147 u148 m149; exact absurd m149 (Nat.not_lt_zero _)
    | succ n ih150 =>
      intro x6 x7 h8 b144 b145 s9 f10 u146 u147 u148 m149
      refine zj_iload_n (zdk ttX6_cut 10 rfl rfl) rfl ?_
      refine zj_aload_n (zdk ttX6_cut 11 rfl rfl) rfl (by decide) ?_
      have b151 : 0 ≤ (h.2 103 3) ∧ (h.2 103 3) ≤ 400 := fb_L103_3 s0
      refine zj_geti (v := (h.2 103 3)) (zdk ttX6_cut 12 rfl rfl) zf_RX6_21 rfl (k_L103 s9) (zfC_a f10 (fun z9 => by unfold w_X6_cut at z9; first | (revert z9; decide) | omega)) ?_
      refine zj_icmp_ge (t := 172) (zdk ttX6_cut 13 rfl rfl) (by decide) (by omega) (by omega) (fun c152 => ?_) (fun c152 => ?_)
      · refine zj_aload_n (zdk ttX6_cut 90 rfl rfl) rfl (by decide) ?_
        refine zj_iconst (zdk ttX6_cut 91 rfl rfl) ?_
        refine zj_aload_n (zdk ttX6_cut 92 rfl rfl) rfl (by decide) ?_
        refine zj_geti (v := (h.2 103 3)) (zdk ttX6_cut 93 rfl rfl) zf_RX6_21 rfl (k_L103 s9) (zfC_a f10 (fun z9 => by unfold w_X6_cut at z9; first | (revert z9; decide) | omega)) ?_
        refine zj_callV (av := [.inl 0, .inl (h.2 103 3)]) (st := []) (zdk ttX6_cut 94 rfl rfl) mb_X6_putToken mv_RX6_51 (ci := 6) rfl rfl (k_L103 s9) rfl rfl (Nat.le_of_ble_eq_true rfl) (s2_X6_putToken l h8 0 (h.2 103 3) s9 (by omega) (by omega)) (rm_ok (by decide) (by decide)) (zq_v fun h155 q153 => ?_)
        obtain ⟨s157, f159, u158⟩ := q153
        refine zj_aload_n (zdk ttX6_cut 95 rfl rfl) rfl (by decide) ?_
        refine zj_aload_n (zdk ttX6_cut 96 rfl rfl) rfl (by decide) ?_
        refine zj_getr (r := 105) (zdk ttX6_cut 97 rfl rfl) zf_RX6_15 rfl (k_L103 s157) (rf_L103_1 s157) ?_
        refine zj_iconst (zdk ttX6_cut 98 rfl rfl) ?_
        have b160 : -2147483648 ≤ (h155.2 105 0) ∧ (h155.2 105 0) ≤ 2147483647 := ab_L103_1 s157 0
        refine zj_iald (v := (h155.2 105 0)) (zdk ttX6_cut 99 rfl rfl) (ka_L103_1 s157) (by decide) (by omega) rfl ?_
        refine zj_puti (zdk ttX6_cut 100 rfl rfl) zf_RX6_31 rfl (k_L103 s157) (Or.inl zw_RX6_31) (k2 := 6) rfl (fun h161 e162 => ?_)
        have s163 : okC h161 := fw_L103_6 s157 e162 (by omega)
        have f165 : zfC w_X6_cut h h155 := zfC_t f10 f159 (fun a9 b9 z9 => by
          rcases z9 with z9 | z9
          · exact (Or.inl (by omega))
          · exact (Or.inr z9))
        have f164 : zfC w_X6_cut h h161 := zfC_w f165 e162 (Or.inl (by omega))
        have b166 : h161.2 103 5 = (h8.2 103 5) := ((zwr_r e162 (by first | decide | exact (absurd ·.1 (by decide)) | exact (absurd ·.2 (by decide)) | omega)).trans (zfC_a f159 (fun z9 => by unfold w_X6_putToken at z9; first | (revert z9; decide) | omega)))
        exact zj_vret rfl (zdk ttX6_cut 101 rfl rfl) (Nat.le_refl _) (Nat.le_refl _) ⟨rfl, s163, f164, by omega, ((zwr_v e162).trans (zwr_r e162 (by first | decide | exact (absurd ·.1 (by decide)) | exact (absurd ·.2 (by decide)) | omega)).symm), (by have z1 := u146.1; have z9 := u158 (by omega); rw [show h161.2 105 = h155.2 105 from funext fun i9 => zwr_r e162 (by first | decide | exact (absurd ·.1 (by decide)) | exact (absurd ·.2 (by decide)) | omega), show h161.2 106 = h155.2 106 from funext fun i9 => zwr_r e162 (by first | decide | exact (absurd ·.1 (by decide)) | exact (absurd ·.2 (by decide)) | omega), show h161.2 103 4 = h155.2 103 4 from zwr_r e162 (by first | decide | exact (absurd ·.1 (by decide)) | exact (absurd ·.2 (by decide)) | omega), z9.1]; exact tCi_e u146 (by omega) (by omega) (by omega) z9.2.1 z9.2.2)⟩
      · refine zj_iload_n (zdk ttX6_cut 14 rfl rfl) rfl ?_
        refine zj_iconst (zdk ttX6_cut 15 rfl rfl) ?_
        refine zj_iadd (zdk ttX6_cut 16 rfl rfl) ?_
        refine zj_istore_n (L' := [some (.inr 103), some (.inr (-2 - ((i_p1 : Nat) : Int))), some (.inl (x7 + 1)), some (.inl x7), none]) (zdk ttX6_cut 17 rfl rfl) (by decide) rfl ?_
        refine zj_aload_n (zdk ttX6_cut 18 rfl rfl) rfl (by decide) ?_
        refine zj_getr (r := 104) (zdk ttX6_cut 19 rfl rfl) zf_RX6_11 rfl (k_L103 s9) (rf_L103_0 s9) ?_
        refine zj_iload_n (zdk ttX6_cut 20 rfl rfl) rfl ?_
        have b167 : 0 ≤ (h.2 104 x7) ∧ (h.2 104 x7) ≤ 255 := ab_L103_0 s0 x7
        refine zj_iald (v := (h.2 104 x7)) (zdk ttX6_cut 21 rfl rfl) (ka_L103_0 s9) (by decide) (by omega) (zfC_a f10 (fun z9 => by unfold w_X6_cut at z9; first | (revert z9; decide) | omega)) ?_
        refine zj_istore (L' := [some (.inr 103), some (.inr (-2 - ((i_p1 : Nat) : Int))), some (.inl (x7 + 1)), some (.inl x7), some (.inl (h.2 104 x7))]) (zdk ttX6_cut 22 rfl rfl) (by decide) rfl ?_
        refine zj_iload (zdk ttX6_cut 23 rfl rfl) rfl ?_
        refine zj_callS (av := [.inl (h.2 104 x7)]) (st := []) (zdk ttX6_cut 24 rfl rfl) mb_X6_isLetter ms_RX6_43 rfl rfl (Nat.le_of_ble_eq_true rfl) (s_X6_isLetter l h8 (h.2 104 x7) s9 (by omega)) (rm_ok (by decide) (by decide)) (zq_i fun v169 h170 q168 => ?_)
        obtain ⟨rfl, ⟨rfl, b171⟩ | ⟨rfl, b171⟩⟩ := q168
        · refine zj_if_eq (t := 83) (zdk ttX6_cut 25 rfl rfl) (by decide) (by decide) (fun c172 => ?_) (fun c172 => ?_)
          · refine zj_iload (zdk ttX6_cut 47 rfl rfl) rfl ?_
            refine zj_callS (av := [.inl (h.2 104 x7)]) (st := []) (zdk ttX6_cut 48 rfl rfl) mb_X6_isDigit ms_RX6_55 rfl rfl (Nat.le_of_ble_eq_true rfl) (s_X6_isDigit l h8 (h.2 104 x7) s9 (by omega)) (rm_ok (by decide) (by decide)) (zq_i fun v174 h175 q173 => ?_)
            obtain ⟨rfl, ⟨rfl, b176⟩ | ⟨rfl, b176⟩⟩ := q173
            · refine zj_if_eq (t := 131) (zdk ttX6_cut 49 rfl rfl) (by decide) (by decide) (fun c177 => ?_) (fun c177 => ?_)
              · refine zj_iload (zdk ttX6_cut 70 rfl rfl) rfl ?_
                refine zj_bipush (zdk ttX6_cut 71 rfl rfl) (by decide) ?_
                refine zj_icmp_eq (t := 167) (zdk ttX6_cut 72 rfl rfl) (by decide) (by omega) (by decide) (fun c178 => ?_) (fun c178 => ?_)
                · refine zj_iload_n (zdk ttX6_cut 87 rfl rfl) rfl ?_
                  refine zj_istore_n (L' := [some (.inr 103), some (.inr (-2 - ((i_p1 : Nat) : Int))), some (.inl (x7 + 1)), some (.inl (x7 + 1)), some (.inl (h.2 104 x7))]) (zdk ttX6_cut 88 rfl rfl) (by decide) rfl ?_
                  refine zj_goto (t := 14) (zdk ttX6_cut 89 rfl rfl) (by decide) ?_
                  refine zj_kill (k := 4) (L' := [some (.inr 103), some (.inr (-2 - ((i_p1 : Nat) : Int))), some (.inl (x7 + 1)), some (.inl (x7 + 1)), none]) rfl ?_
                  exact ih150  (x7 + 1) (x7 + 1) h8 (by omega) (by omega) s9 f10 (tCi_b u146 (show (h.2 104) x7 = 32 ∨ (h.2 104) x7 = 10 by omega)) (by omega) (by omega) (by omega)
                · refine zj_iload (zdk ttX6_cut 73 rfl rfl) rfl ?_
                  refine zj_bipush (zdk ttX6_cut 74 rfl rfl) (by decide) ?_
                  refine zj_icmp_eq (t := 167) (zdk ttX6_cut 75 rfl rfl) (by decide) (by omega) (by decide) (fun c179 => ?_) (fun c179 => ?_)
                  · refine zj_iload_n (zdk ttX6_cut 87 rfl rfl) rfl ?_
                    refine zj_istore_n (L' := [some (.inr 103), some (.inr (-2 - ((i_p1 : Nat) : Int))), some (.inl (x7 + 1)), some (.inl (x7 + 1)), some (.inl (h.2 104 x7))]) (zdk ttX6_cut 88 rfl rfl) (by decide) rfl ?_
                    refine zj_goto (t := 14) (zdk ttX6_cut 89 rfl rfl) (by decide) ?_
                    refine zj_kill (k := 4) (L' := [some (.inr 103), some (.inr (-2 - ((i_p1 : Nat) : Int))), some (.inl (x7 + 1)), some (.inl (x7 + 1)), none]) rfl ?_
                    exact ih150  (x7 + 1) (x7 + 1) h8 (by omega) (by omega) s9 f10 (tCi_b u146 (show (h.2 104) x7 = 32 ∨ (h.2 104) x7 = 10 by omega)) (by omega) (by omega) (by omega)
                  · refine zj_aload_n (zdk ttX6_cut 76 rfl rfl) rfl (by decide) ?_
                    refine zj_ldcS (i := 1) (zdk ttX6_cut 77 rfl rfl) (List.mem_of_getElem? (i := 1) rfl) ?_
                    refine zj_iload (zdk ttX6_cut 78 rfl rfl) rfl ?_
                    refine zj_i2c (zdk ttX6_cut 79 rfl rfl) (by omega) ?_
                    refine zj_callVs (show 1 < 5 by decide) (av := [.inl (h.2 104 x7)]) (st := [.inr 103]) (zdk ttX6_cut 80 rfl rfl) mb_J0_indexOf_0f7a4 mv_RX6_64 rfl rfl rfl (Nat.le_of_ble_eq_true rfl) (s_J0_indexOf_0f7a4 shC l h8 1 (h.2 104 x7) (show 1 < 5 by decide) (by decide) (by omega)) (rm_ok (by decide) (by decide)) (zq_i fun v180 h181 q182 => ?_)
                    obtain ⟨rfl, b183e⟩ := q182
                    have b183l := zln_b 1 (show 1 < 5 by decide)
                    have b183 : -1 ≤ v180 ∧ v180 ≤ 99 := by
                      rcases b183e with ⟨z1, _⟩ | ⟨z1, z2, _⟩ <;> omega
                    refine zj_if_lt (t := 162) (zdk ttX6_cut 81 rfl rfl) (by decide) (by omega) (fun c184 => ?_) (fun c184 => ?_)
                    · refine zj_iconst (zdk ttX6_cut 84 rfl rfl) ?_
                      refine zj_iload_n (zdk ttX6_cut 85 rfl rfl) rfl ?_
                      refine zj_callV (av := [.inl 1, .inl x7]) (st := []) (zdk ttX6_cut 86 rfl rfl) mb_X6_putToken mv_RX6_51 (ci := 6) rfl rfl (k_L103 s9) rfl rfl (Nat.le_of_ble_eq_true rfl) (s2_X6_putToken l h8 1 x7 s9 (by omega) (by omega)) (rm_ok (by decide) (by decide)) (zq_v fun h187 q185 => ?_)
                      obtain ⟨s189, f191, u190⟩ := q185
                      refine zj_iload_n (zdk ttX6_cut 87 rfl rfl) rfl ?_
                      refine zj_istore_n (L' := [some (.inr 103), some (.inr (-2 - ((i_p1 : Nat) : Int))), some (.inl (x7 + 1)), some (.inl (x7 + 1)), some (.inl (h.2 104 x7))]) (zdk ttX6_cut 88 rfl rfl) (by decide) rfl ?_
                      refine zj_goto (t := 14) (zdk ttX6_cut 89 rfl rfl) (by decide) ?_
                      refine zj_kill (k := 4) (L' := [some (.inr 103), some (.inr (-2 - ((i_p1 : Nat) : Int))), some (.inl (x7 + 1)), some (.inl (x7 + 1)), none]) rfl ?_
                      have b192 : h187.2 103 5 = (h8.2 103 5) := (zfC_a f191 (fun z9 => by unfold w_X6_putToken at z9; first | (revert z9; decide) | omega))
                      have f193 : zfC w_X6_cut h h187 := zfC_t f10 f191 (fun a9 b9 z9 => by
                        rcases z9 with z9 | z9
                        · exact (Or.inl (by omega))
                        · exact (Or.inr z9))
                      have z1941 := u146.1
                      have z194 := u190 (by omega)
                      have z194s := tSg_i (c := (h.2 104 x7)) (by omega) b183e
                      have z194e : tEnd (h.2 104) (h.2 103 3) x7 (x7 + 1) := (Or.inr (Or.inr ⟨by omega, by omega, rfl⟩))
                      have z194c : tC i_p1 (h.2 104) (h.2 103 3) x7 1 := (Or.inr ⟨by omega, (x7 + 1), z194e, by first | exact Or.inr (Or.inr (Or.inr (Or.inl ⟨by omega, by omega, z194s.2 (by omega), rfl⟩))) | exact Or.inr (Or.inr (Or.inr (Or.inr ⟨by omega, by omega, z194s.1 (by omega), rfl⟩)))⟩)
                      exact ih150  (x7 + 1) (x7 + 1) h187 (by omega) (by omega) s189 f193 (by rw [z194.1]; exact tCi_t u146 (by omega) (by omega) z194e z194c z194.2.1 z194.2.2) (by omega) (by omega) (by omega)
                    · refine zj_iload (zdk ttX6_cut 82 rfl rfl) rfl ?_
                      refine zj_goto (t := 163) (zdk ttX6_cut 83 rfl rfl) (by decide) ?_
                      refine zj_iload_n (zdk ttX6_cut 85 rfl rfl) rfl ?_
                      refine zj_callV (av := [.inl (h.2 104 x7), .inl x7]) (st := []) (zdk ttX6_cut 86 rfl rfl) mb_X6_putToken mv_RX6_51 (ci := 6) rfl rfl (k_L103 s9) rfl rfl (Nat.le_of_ble_eq_true rfl) (s2_X6_putToken l h8 (h.2 104 x7) x7 s9 (by omega) (by omega)) (rm_ok (by decide) (by decide)) (zq_v fun h197 q195 => ?_)
                      obtain ⟨s199, f201, u200⟩ := q195
                      refine zj_iload_n (zdk ttX6_cut 87 rfl rfl) rfl ?_
                      refine zj_istore_n (L' := [some (.inr 103), some (.inr (-2 - ((i_p1 : Nat) : Int))), some (.inl (x7 + 1)), some (.inl (x7 + 1)), some (.inl (h.2 104 x7))]) (zdk ttX6_cut 88 rfl rfl) (by decide) rfl ?_
                      refine zj_goto (t := 14) (zdk ttX6_cut 89 rfl rfl) (by decide) ?_
                      refine zj_kill (k := 4) (L' := [some (.inr 103), some (.inr (-2 - ((i_p1 : Nat) : Int))), some (.inl (x7 + 1)), some (.inl (x7 + 1)), none]) rfl ?_
                      have b202 : h197.2 103 5 = (h8.2 103 5) := (zfC_a f201 (fun z9 => by unfold w_X6_putToken at z9; first | (revert z9; decide) | omega))
                      have f203 : zfC w_X6_cut h h197 := zfC_t f10 f201 (fun a9 b9 z9 => by
                        rcases z9 with z9 | z9
                        · exact (Or.inl (by omega))
                        · exact (Or.inr z9))
                      have z2041 := u146.1
                      have z204 := u200 (by omega)
                      have z204s := tSg_i (c := (h.2 104 x7)) (by omega) b183e
                      have z204e : tEnd (h.2 104) (h.2 103 3) x7 (x7 + 1) := (Or.inr (Or.inr ⟨by omega, by omega, rfl⟩))
                      have z204c : tC i_p1 (h.2 104) (h.2 103 3) x7 (h.2 104 x7) := (Or.inr ⟨by omega, (x7 + 1), z204e, by first | exact Or.inr (Or.inr (Or.inr (Or.inl ⟨by omega, by omega, z204s.2 (by omega), rfl⟩))) | exact Or.inr (Or.inr (Or.inr (Or.inr ⟨by omega, by omega, z204s.1 (by omega), rfl⟩)))⟩)
                      exact ih150  (x7 + 1) (x7 + 1) h197 (by omega) (by omega) s199 f203 (by rw [z204.1]; exact tCi_t u146 (by omega) (by omega) z204e z204c z204.2.1 z204.2.2) (by omega) (by omega) (by omega)
              · exact absurd c177 (by omega)
            · refine zj_if_eq (t := 131) (zdk ttX6_cut 49 rfl rfl) (by decide) (by decide) (fun c205 => ?_) (fun c205 => ?_)
              · exact absurd c205 (by omega)
              · have lp215 : ∀ (n : Nat) (x206 : Int), (1 ≤ x206 ∧ x206 ≤ 400) → (x7 + 1 ≤ x206) → (∀ i, x7 + 1 ≤ i → i < x206 → (48 ≤ h.2 104 i ∧ h.2 104 i ≤ 57)) → (x206 ≤ (h.2 103 3)) → (401 - x206).toNat < n → zJ shC l yX6_cut cX6_cut 5 none (rmL 8) 0 0 (q2_X6_cut h i_p1) 0 0 91 [some (.inr 103), some (.inr (-2 - ((i_p1 : Nat) : Int))), some (.inl x206), some (.inl x7), some (.inl (h.2 104 x7))] [] h8 := by
                  intro n
                  induction n with
                  | zero => intro x206 b216 u217 u218 u219 m220; exact absurd m220 (Nat.not_lt_zero _)
                  | succ n ih221 =>
                    intro x206 b216 u217 u218 u219 m220
                    refine zj_iload_n (zdk ttX6_cut 50 rfl rfl) rfl ?_
                    refine zj_aload_n (zdk ttX6_cut 51 rfl rfl) rfl (by decide) ?_
                    refine zj_geti (v := (h.2 103 3)) (zdk ttX6_cut 52 rfl rfl) zf_RX6_21 rfl (k_L103 s9) (zfC_a f10 (fun z9 => by unfold w_X6_cut at z9; first | (revert z9; decide) | omega)) ?_
                    refine zj_icmp_ge (t := 117) (zdk ttX6_cut 53 rfl rfl) (by decide) (by omega) (by omega) (fun c222 => ?_) (fun c222 => ?_)
                    · refine zj_aload_n (zdk ttX6_cut 62 rfl rfl) rfl (by decide) ?_
                      refine zj_aload_n (zdk ttX6_cut 63 rfl rfl) rfl (by decide) ?_
                      refine zj_iload_n (zdk ttX6_cut 64 rfl rfl) rfl ?_
                      refine zj_iload_n (zdk ttX6_cut 65 rfl rfl) rfl ?_
                      refine zj_callV (av := [.inl x7, .inl x206]) (st := [.inr 103]) (zdk ttX6_cut 66 rfl rfl) mb_X6_numberAt mv_RX6_58 (ci := 6) rfl rfl (k_L103 s9) rfl rfl (Nat.le_of_ble_eq_true rfl) (s2_X6_numberAt l h8 x7 x206 s9 (by omega) (by omega) (fun i a b => by rw [show h8.2 104 i = h.2 104 i from (zfC_a f10 (fun z9 => by unfold w_X6_cut at z9; first | (revert z9; decide) | omega))]; exact (Classical.em (i = x7)).elim (fun q => by rw [q]; omega) (fun q => u218 i (by omega) b)) (by omega)) (rm_ok (by decide) (by decide)) (zq_i fun v224 h225 q223 => ?_)
                      obtain ⟨rfl, b226, u227⟩ := q223
                      have u228 : (4 < x206 - x7 ∧ v224 = 1) ∨ (x206 - x7 ≤ 4 ∧ v224 = 1000 + tvl (h.2 104) x7 (x206 - x7).toNat) := by have z8 := u227; rw [show h8.2 104 = h.2 104 from funext fun i9 => (zfC_a f10 (fun z9 => by unfold w_X6_cut at z9; first | (revert z9; decide) | omega))] at z8; exact z8
                      refine zj_iload_n (zdk ttX6_cut 67 rfl rfl) rfl ?_
                      refine zj_callV (av := [.inl v224, .inl x7]) (st := []) (zdk ttX6_cut 68 rfl rfl) mb_X6_putToken mv_RX6_51 (ci := 6) rfl rfl (k_L103 s9) rfl rfl (Nat.le_of_ble_eq_true rfl) (s2_X6_putToken l h8 v224 x7 s9 (by omega) (by omega)) (rm_ok (by decide) (by decide)) (zq_v fun h231 q229 => ?_)
                      obtain ⟨s233, f235, u234⟩ := q229
                      refine zj_goto (t := 167) (zdk ttX6_cut 69 rfl rfl) (by decide) ?_
                      refine zj_iload_n (zdk ttX6_cut 87 rfl rfl) rfl ?_
                      refine zj_istore_n (L' := [some (.inr 103), some (.inr (-2 - ((i_p1 : Nat) : Int))), some (.inl x206), some (.inl x206), some (.inl (h.2 104 x7))]) (zdk ttX6_cut 88 rfl rfl) (by decide) rfl ?_
                      refine zj_goto (t := 14) (zdk ttX6_cut 89 rfl rfl) (by decide) ?_
                      refine zj_kill (k := 4) (L' := [some (.inr 103), some (.inr (-2 - ((i_p1 : Nat) : Int))), some (.inl x206), some (.inl x206), none]) rfl ?_
                      have b236 : h231.2 103 5 = (h8.2 103 5) := (zfC_a f235 (fun z9 => by unfold w_X6_putToken at z9; first | (revert z9; decide) | omega))
                      have f237 : zfC w_X6_cut h h231 := zfC_t f10 f235 (fun a9 b9 z9 => by
                        rcases z9 with z9 | z9
                        · exact (Or.inl (by omega))
                        · exact (Or.inr z9))
                      have z2381 := u146.1
                      have z238 := u234 (by omega)
                      have z238e : tEnd (h.2 104) (h.2 103 3) x7 x206 := (Or.inr (Or.inl ⟨by omega, by omega, by omega, u218, fun z9 => by omega⟩))
                      have z238c : tC i_p1 (h.2 104) (h.2 103 3) x7 v224 := (Or.inr ⟨by omega, x206, z238e, by rcases u228 with k9 | k9; exact Or.inr (Or.inr (Or.inl ⟨by omega, k9.1, k9.2⟩)); exact Or.inr (Or.inl ⟨by omega, k9.1, k9.2⟩)⟩)
                      exact ih150  x206 x206 h231 (by omega) (by omega) s233 f237 (by rw [z238.1]; exact tCi_t u146 (by omega) (by omega) z238e z238c z238.2.1 z238.2.2) (by omega) (by omega) (by omega)
                    · refine zj_aload_n (zdk ttX6_cut 54 rfl rfl) rfl (by decide) ?_
                      refine zj_getr (r := 104) (zdk ttX6_cut 55 rfl rfl) zf_RX6_11 rfl (k_L103 s9) (rf_L103_0 s9) ?_
                      refine zj_iload_n (zdk ttX6_cut 56 rfl rfl) rfl ?_
                      have b239 : 0 ≤ (h.2 104 x206) ∧ (h.2 104 x206) ≤ 255 := ab_L103_0 s0 x206
                      refine zj_iald (v := (h.2 104 x206)) (zdk ttX6_cut 57 rfl rfl) (ka_L103_0 s9) (by decide) (by omega) (zfC_a f10 (fun z9 => by unfold w_X6_cut at z9; first | (revert z9; decide) | omega)) ?_
                      refine zj_callS (av := [.inl (h.2 104 x206)]) (st := []) (zdk ttX6_cut 58 rfl rfl) mb_X6_isDigit ms_RX6_55 rfl rfl (Nat.le_of_ble_eq_true rfl) (s_X6_isDigit l h8 (h.2 104 x206) s9 (by omega)) (rm_ok (by decide) (by decide)) (zq_i fun v241 h242 q240 => ?_)
                      obtain ⟨rfl, ⟨rfl, b243⟩ | ⟨rfl, b243⟩⟩ := q240
                      · refine zj_if_eq (t := 117) (zdk ttX6_cut 59 rfl rfl) (by decide) (by decide) (fun c244 => ?_) (fun c244 => ?_)
                        · refine zj_aload_n (zdk ttX6_cut 62 rfl rfl) rfl (by decide) ?_
                          refine zj_aload_n (zdk ttX6_cut 63 rfl rfl) rfl (by decide) ?_
                          refine zj_iload_n (zdk ttX6_cut 64 rfl rfl) rfl ?_
                          refine zj_iload_n (zdk ttX6_cut 65 rfl rfl) rfl ?_
                          refine zj_callV (av := [.inl x7, .inl x206]) (st := [.inr 103]) (zdk ttX6_cut 66 rfl rfl) mb_X6_numberAt mv_RX6_58 (ci := 6) rfl rfl (k_L103 s9) rfl rfl (Nat.le_of_ble_eq_true rfl) (s2_X6_numberAt l h8 x7 x206 s9 (by omega) (by omega) (fun i a b => by rw [show h8.2 104 i = h.2 104 i from (zfC_a f10 (fun z9 => by unfold w_X6_cut at z9; first | (revert z9; decide) | omega))]; exact (Classical.em (i = x7)).elim (fun q => by rw [q]; omega) (fun q => u218 i (by omega) b)) (by omega)) (rm_ok (by decide) (by decide)) (zq_i fun v246 h247 q245 => ?_)
                          obtain ⟨rfl, b248, u249⟩ := q245
                          have u250 : (4 < x206 - x7 ∧ v246 = 1) ∨ (x206 - x7 ≤ 4 ∧ v246 = 1000 + tvl (h.2 104) x7 (x206 - x7).toNat) := by have z8 := u249; rw [show h8.2 104 = h.2 104 from funext fun i9 => (zfC_a f10 (fun z9 => by unfold w_X6_cut at z9; first | (revert z9; decide) | omega))] at z8; exact z8
                          refine zj_iload_n (zdk ttX6_cut 67 rfl rfl) rfl ?_
                          refine zj_callV (av := [.inl v246, .inl x7]) (st := []) (zdk ttX6_cut 68 rfl rfl) mb_X6_putToken mv_RX6_51 (ci := 6) rfl rfl (k_L103 s9) rfl rfl (Nat.le_of_ble_eq_true rfl) (s2_X6_putToken l h8 v246 x7 s9 (by omega) (by omega)) (rm_ok (by decide) (by decide)) (zq_v fun h253 q251 => ?_)
                          obtain ⟨s255, f257, u256⟩ := q251
                          refine zj_goto (t := 167) (zdk ttX6_cut 69 rfl rfl) (by decide) ?_
                          refine zj_iload_n (zdk ttX6_cut 87 rfl rfl) rfl ?_
                          refine zj_istore_n (L' := [some (.inr 103), some (.inr (-2 - ((i_p1 : Nat) : Int))), some (.inl x206), some (.inl x206), some (.inl (h.2 104 x7))]) (zdk ttX6_cut 88 rfl rfl) (by decide) rfl ?_
                          refine zj_goto (t := 14) (zdk ttX6_cut 89 rfl rfl) (by decide) ?_
                          refine zj_kill (k := 4) (L' := [some (.inr 103), some (.inr (-2 - ((i_p1 : Nat) : Int))), some (.inl x206), some (.inl x206), none]) rfl ?_
                          have b258 : h253.2 103 5 = (h8.2 103 5) := (zfC_a f257 (fun z9 => by unfold w_X6_putToken at z9; first | (revert z9; decide) | omega))
                          have f259 : zfC w_X6_cut h h253 := zfC_t f10 f257 (fun a9 b9 z9 => by
                            rcases z9 with z9 | z9
                            · exact (Or.inl (by omega))
                            · exact (Or.inr z9))
                          have z2601 := u146.1
                          have z260 := u256 (by omega)
                          have z260e : tEnd (h.2 104) (h.2 103 3) x7 x206 := (Or.inr (Or.inl ⟨by omega, by omega, by omega, u218, fun z9 => by omega⟩))
                          have z260c : tC i_p1 (h.2 104) (h.2 103 3) x7 v246 := (Or.inr ⟨by omega, x206, z260e, by rcases u250 with k9 | k9; exact Or.inr (Or.inr (Or.inl ⟨by omega, k9.1, k9.2⟩)); exact Or.inr (Or.inl ⟨by omega, k9.1, k9.2⟩)⟩)
                          exact ih150  x206 x206 h253 (by omega) (by omega) s255 f259 (by rw [z260.1]; exact tCi_t u146 (by omega) (by omega) z260e z260c z260.2.1 z260.2.2) (by omega) (by omega) (by omega)
                        · exact absurd c244 (by omega)
                      · refine zj_if_eq (t := 117) (zdk ttX6_cut 59 rfl rfl) (by decide) (by decide) (fun c261 => ?_) (fun c261 => ?_)
                        · exact absurd c261 (by omega)
                        · refine zj_iinc (L' := [some (.inr 103), some (.inr (-2 - ((i_p1 : Nat) : Int))), some (.inl (x206 + 1)), some (.inl x7), some (.inl (h.2 104 x7))]) (zdk ttX6_cut 60 rfl rfl) rfl (by decide) rfl ?_
                          refine zj_goto (t := 91) (zdk ttX6_cut 61 rfl rfl) (by decide) ?_
                          exact ih221  (x206 + 1) (by omega) (by omega) (fun i a b => (Classical.em (i = x206)).elim (fun q => by rw [q]; omega) (fun q => u218 i a (by omega))) (by omega) (by omega)
                exact lp215 _ (x7 + 1) (by omega) (by omega) (fun i a b => absurd b (by omega)) (by omega) (Nat.lt_succ_self _)
          · exact absurd c172 (by omega)
        · refine zj_if_eq (t := 83) (zdk ttX6_cut 25 rfl rfl) (by decide) (by decide) (fun c262 => ?_) (fun c262 => ?_)
          · exact absurd c262 (by omega)
          · have lp272 : ∀ (n : Nat) (x263 : Int), (1 ≤ x263 ∧ x263 ≤ 400) → (x7 + 1 ≤ x263) → (∀ i, x7 + 1 ≤ i → i < x263 → ((97 ≤ h.2 104 i ∧ h.2 104 i ≤ 122) ∨ (65 ≤ h.2 104 i ∧ h.2 104 i ≤ 90))) → (x263 ≤ (h.2 103 3)) → (401 - x263).toNat < n → zJ shC l yX6_cut cX6_cut 5 none (rmL 8) 0 0 (q2_X6_cut h i_p1) 0 0 42 [some (.inr 103), some (.inr (-2 - ((i_p1 : Nat) : Int))), some (.inl x263), some (.inl x7), some (.inl (h.2 104 x7))] [] h8 := by
              intro n
              induction n with
              | zero => intro x263 b273 u274 u275 u276 m277; exact absurd m277 (Nat.not_lt_zero _)
              | succ n ih278 =>
                intro x263 b273 u274 u275 u276 m277
                refine zj_iload_n (zdk ttX6_cut 26 rfl rfl) rfl ?_
                refine zj_aload_n (zdk ttX6_cut 27 rfl rfl) rfl (by decide) ?_
                refine zj_geti (v := (h.2 103 3)) (zdk ttX6_cut 28 rfl rfl) zf_RX6_21 rfl (k_L103 s9) (zfC_a f10 (fun z9 => by unfold w_X6_cut at z9; first | (revert z9; decide) | omega)) ?_
                refine zj_icmp_ge (t := 68) (zdk ttX6_cut 29 rfl rfl) (by decide) (by omega) (by omega) (fun c279 => ?_) (fun c279 => ?_)
                · refine zj_aload_n (zdk ttX6_cut 38 rfl rfl) rfl (by decide) ?_
                  refine zj_aload_n (zdk ttX6_cut 39 rfl rfl) rfl (by decide) ?_
                  refine zj_aload_n (zdk ttX6_cut 40 rfl rfl) rfl (by omega) ?_
                  refine zj_iload_n (zdk ttX6_cut 41 rfl rfl) rfl ?_
                  refine zj_iload_n (zdk ttX6_cut 42 rfl rfl) rfl ?_
                  refine zj_callV (av := [.inr (-2 - ((i_p1 : Nat) : Int)), .inl x7, .inl x263]) (st := [.inr 103]) (zdk ttX6_cut 43 rfl rfl) mb_X6_wordAt mv_RX6_47 (ci := 6) rfl rfl (k_L103 s9) rfl rfl (Nat.le_of_ble_eq_true rfl) (s2_X6_wordAt l h8 i_p1 x7 x263 s9 hi_p1 (by omega) (by omega)) (rm_ok (by decide) (by decide)) (zq_i fun v281 h282 q280 => ?_)
                  obtain ⟨rfl, b283, u284⟩ := q280
                  have u285 : tWp i_p1 (h.2 104) x7 x263 v281 := by have z8 := u284; rw [show h8.2 104 = h.2 104 from funext fun i9 => (zfC_a f10 (fun z9 => by unfold w_X6_cut at z9; first | (revert z9; decide) | omega))] at z8; exact z8
                  refine zj_iload_n (zdk ttX6_cut 44 rfl rfl) rfl ?_
                  refine zj_callV (av := [.inl v281, .inl x7]) (st := []) (zdk ttX6_cut 45 rfl rfl) mb_X6_putToken mv_RX6_51 (ci := 6) rfl rfl (k_L103 s9) rfl rfl (Nat.le_of_ble_eq_true rfl) (s2_X6_putToken l h8 v281 x7 s9 (by omega) (by omega)) (rm_ok (by decide) (by decide)) (zq_v fun h288 q286 => ?_)
                  obtain ⟨s290, f292, u291⟩ := q286
                  refine zj_goto (t := 167) (zdk ttX6_cut 46 rfl rfl) (by decide) ?_
                  refine zj_iload_n (zdk ttX6_cut 87 rfl rfl) rfl ?_
                  refine zj_istore_n (L' := [some (.inr 103), some (.inr (-2 - ((i_p1 : Nat) : Int))), some (.inl x263), some (.inl x263), some (.inl (h.2 104 x7))]) (zdk ttX6_cut 88 rfl rfl) (by decide) rfl ?_
                  refine zj_goto (t := 14) (zdk ttX6_cut 89 rfl rfl) (by decide) ?_
                  refine zj_kill (k := 4) (L' := [some (.inr 103), some (.inr (-2 - ((i_p1 : Nat) : Int))), some (.inl x263), some (.inl x263), none]) rfl ?_
                  have b293 : h288.2 103 5 = (h8.2 103 5) := (zfC_a f292 (fun z9 => by unfold w_X6_putToken at z9; first | (revert z9; decide) | omega))
                  have f294 : zfC w_X6_cut h h288 := zfC_t f10 f292 (fun a9 b9 z9 => by
                    rcases z9 with z9 | z9
                    · exact (Or.inl (by omega))
                    · exact (Or.inr z9))
                  have z2951 := u146.1
                  have z295 := u291 (by omega)
                  have z295e : tEnd (h.2 104) (h.2 103 3) x7 x263 := (Or.inl ⟨by omega, by omega, by omega, u275, fun z9 => by omega⟩)
                  have z295c : tC i_p1 (h.2 104) (h.2 103 3) x7 v281 := (Or.inr ⟨by omega, x263, z295e, Or.inl ⟨by omega, u285⟩⟩)
                  exact ih150  x263 x263 h288 (by omega) (by omega) s290 f294 (by rw [z295.1]; exact tCi_t u146 (by omega) (by omega) z295e z295c z295.2.1 z295.2.2) (by omega) (by omega) (by omega)
                · refine zj_aload_n (zdk ttX6_cut 30 rfl rfl) rfl (by decide) ?_
                  refine zj_getr (r := 104) (zdk ttX6_cut 31 rfl rfl) zf_RX6_11 rfl (k_L103 s9) (rf_L103_0 s9) ?_
                  refine zj_iload_n (zdk ttX6_cut 32 rfl rfl) rfl ?_
                  have b296 : 0 ≤ (h.2 104 x263) ∧ (h.2 104 x263) ≤ 255 := ab_L103_0 s0 x263
                  refine zj_iald (v := (h.2 104 x263)) (zdk ttX6_cut 33 rfl rfl) (ka_L103_0 s9) (by decide) (by omega) (zfC_a f10 (fun z9 => by unfold w_X6_cut at z9; first | (revert z9; decide) | omega)) ?_
                  refine zj_callS (av := [.inl (h.2 104 x263)]) (st := []) (zdk ttX6_cut 34 rfl rfl) mb_X6_isLetter ms_RX6_43 rfl rfl (Nat.le_of_ble_eq_true rfl) (s_X6_isLetter l h8 (h.2 104 x263) s9 (by omega)) (rm_ok (by decide) (by decide)) (zq_i fun v298 h299 q297 => ?_)
                  obtain ⟨rfl, ⟨rfl, b300⟩ | ⟨rfl, b300⟩⟩ := q297
                  · refine zj_if_eq (t := 68) (zdk ttX6_cut 35 rfl rfl) (by decide) (by decide) (fun c301 => ?_) (fun c301 => ?_)
                    · refine zj_aload_n (zdk ttX6_cut 38 rfl rfl) rfl (by decide) ?_
                      refine zj_aload_n (zdk ttX6_cut 39 rfl rfl) rfl (by decide) ?_
                      refine zj_aload_n (zdk ttX6_cut 40 rfl rfl) rfl (by omega) ?_
                      refine zj_iload_n (zdk ttX6_cut 41 rfl rfl) rfl ?_
                      refine zj_iload_n (zdk ttX6_cut 42 rfl rfl) rfl ?_
                      refine zj_callV (av := [.inr (-2 - ((i_p1 : Nat) : Int)), .inl x7, .inl x263]) (st := [.inr 103]) (zdk ttX6_cut 43 rfl rfl) mb_X6_wordAt mv_RX6_47 (ci := 6) rfl rfl (k_L103 s9) rfl rfl (Nat.le_of_ble_eq_true rfl) (s2_X6_wordAt l h8 i_p1 x7 x263 s9 hi_p1 (by omega) (by omega)) (rm_ok (by decide) (by decide)) (zq_i fun v303 h304 q302 => ?_)
                      obtain ⟨rfl, b305, u306⟩ := q302
                      have u307 : tWp i_p1 (h.2 104) x7 x263 v303 := by have z8 := u306; rw [show h8.2 104 = h.2 104 from funext fun i9 => (zfC_a f10 (fun z9 => by unfold w_X6_cut at z9; first | (revert z9; decide) | omega))] at z8; exact z8
                      refine zj_iload_n (zdk ttX6_cut 44 rfl rfl) rfl ?_
                      refine zj_callV (av := [.inl v303, .inl x7]) (st := []) (zdk ttX6_cut 45 rfl rfl) mb_X6_putToken mv_RX6_51 (ci := 6) rfl rfl (k_L103 s9) rfl rfl (Nat.le_of_ble_eq_true rfl) (s2_X6_putToken l h8 v303 x7 s9 (by omega) (by omega)) (rm_ok (by decide) (by decide)) (zq_v fun h310 q308 => ?_)
                      obtain ⟨s312, f314, u313⟩ := q308
                      refine zj_goto (t := 167) (zdk ttX6_cut 46 rfl rfl) (by decide) ?_
                      refine zj_iload_n (zdk ttX6_cut 87 rfl rfl) rfl ?_
                      refine zj_istore_n (L' := [some (.inr 103), some (.inr (-2 - ((i_p1 : Nat) : Int))), some (.inl x263), some (.inl x263), some (.inl (h.2 104 x7))]) (zdk ttX6_cut 88 rfl rfl) (by decide) rfl ?_
                      refine zj_goto (t := 14) (zdk ttX6_cut 89 rfl rfl) (by decide) ?_
                      refine zj_kill (k := 4) (L' := [some (.inr 103), some (.inr (-2 - ((i_p1 : Nat) : Int))), some (.inl x263), some (.inl x263), none]) rfl ?_
                      have b315 : h310.2 103 5 = (h8.2 103 5) := (zfC_a f314 (fun z9 => by unfold w_X6_putToken at z9; first | (revert z9; decide) | omega))
                      have f316 : zfC w_X6_cut h h310 := zfC_t f10 f314 (fun a9 b9 z9 => by
                        rcases z9 with z9 | z9
                        · exact (Or.inl (by omega))
                        · exact (Or.inr z9))
                      have z3171 := u146.1
                      have z317 := u313 (by omega)
                      have z317e : tEnd (h.2 104) (h.2 103 3) x7 x263 := (Or.inl ⟨by omega, by omega, by omega, u275, fun z9 => by omega⟩)
                      have z317c : tC i_p1 (h.2 104) (h.2 103 3) x7 v303 := (Or.inr ⟨by omega, x263, z317e, Or.inl ⟨by omega, u307⟩⟩)
                      exact ih150  x263 x263 h310 (by omega) (by omega) s312 f316 (by rw [z317.1]; exact tCi_t u146 (by omega) (by omega) z317e z317c z317.2.1 z317.2.2) (by omega) (by omega) (by omega)
                    · exact absurd c301 (by omega)
                  · refine zj_if_eq (t := 68) (zdk ttX6_cut 35 rfl rfl) (by decide) (by decide) (fun c318 => ?_) (fun c318 => ?_)
                    · exact absurd c318 (by omega)
                    · refine zj_iinc (L' := [some (.inr 103), some (.inr (-2 - ((i_p1 : Nat) : Int))), some (.inl (x263 + 1)), some (.inl x7), some (.inl (h.2 104 x7))]) (zdk ttX6_cut 36 rfl rfl) rfl (by decide) rfl ?_
                      refine zj_goto (t := 42) (zdk ttX6_cut 37 rfl rfl) (by decide) ?_
                      exact ih278  (x263 + 1) (by omega) (by omega) (fun i a b => (Classical.em (i = x263)).elim (fun q => by rw [q]; omega) (fun q => u275 i a (by omega))) (by omega) (by omega)
            exact lp272 _ (x7 + 1) (by omega) (by omega) (fun i a b => absurd b (by omega)) (by omega) (Nat.lt_succ_self _)
  have b319 : h4.2 103 5 = 0 := (zwr_v e5)
  have s320 : okC h4 := fw_L103_5 s3 e5 (by omega)
  have f322 : zfC w_X6_cut h h1 := zfC_w (zfC_r _ _) e2 (Or.inl (by omega))
  have f321 : zfC w_X6_cut h h4 := zfC_w f322 e5 (Or.inl (by omega))
  have b323 : h4.2 103 4 = 0 := ((zwr_r e5 (by first | decide | exact (absurd ·.1 (by decide)) | exact (absurd ·.2 (by decide)) | omega)).trans (zwr_v e2))
  exact lp143 _ 0 0 h4 (by omega) (by omega) s320 f321 (by rw [show h4.2 103 4 = 0 by omega]; exact tCi_0) (by omega) (by omega) (Nat.lt_succ_self _)

