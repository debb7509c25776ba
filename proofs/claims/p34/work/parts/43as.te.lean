abbrev q2_X3_put (h : zM) (c : Int) (p1 : Int) : Option zV → zM → Prop := zqv fun h' => okC h' ∧ zfC (w_X3_put c) h h' ∧ (h.2 c 7 < 400 → tCd h' c = p1 :: tCd h c ∧ h'.2 c 7 = h.2 c 7 + 1)
set_option maxRecDepth 100000 in
set_option maxHeartbeats 4000000 in
theorem s2_X3_put (l : Launch) (h : zM) (c : Int) (p1 : Int) (s0 : okC h) (hc : zLw c) (b_p1 : (-2147483648) ≤ p1 ∧ p1 ≤ 2147483647) : zT shC l yX3_put cX3_put 2 none (rmL 1) 0 0 [.inr c, .inl p1] h (q2_X3_put h c p1) := by
  refine zT_of (by decide +kernel) (L0 := [some (.inr c), some (.inl p1)]) rfl (Nat.le_of_ble_eq_true rfl) ?_
  have b1 := zLw_b hc
  refine zj_aload_n (zdk ttX3_put 0 rfl rfl) rfl (by omega) ?_
  have b2 : 0 ≤ (h.2 c 7) ∧ (h.2 c 7) ≤ 400 := fb_3_0_7 s0 hc
  refine zj_geti (v := (h.2 c 7)) (zdk ttX3_put 1 rfl rfl) zf_RX3_36 rfl (k_3_0 s0 hc) rfl ?_
  refine zj_sipush (zdk ttX3_put 2 rfl rfl) (by decide) ?_
  refine zj_icmp_ge (t := 27) (zdk ttX3_put 3 rfl rfl) (by decide) (by omega) (by decide) (fun c3 => ?_) (fun c3 => ?_)
  · exact zj_vret rfl (zdk ttX3_put 15 rfl rfl) (Nat.le_refl _) (Nat.le_refl _) ⟨rfl, s0, (zfC_r _ _), (fun z => absurd z (by omega))⟩
  · refine zj_aload_n (zdk ttX3_put 4 rfl rfl) rfl (by omega) ?_
    refine zj_getr (r := (c + 5)) (zdk ttX3_put 5 rfl rfl) zf_RX3_26 rfl (k_3_0 s0 hc) (rf_3_0_4 s0 hc) ?_
    refine zj_aload_n (zdk ttX3_put 6 rfl rfl) rfl (by omega) ?_
    refine zj_dup (zdk ttX3_put 7 rfl rfl) ?_
    refine zj_geti (v := (h.2 c 7)) (zdk ttX3_put 8 rfl rfl) zf_RX3_36 rfl (k_3_0 s0 hc) rfl ?_
    refine zj_dup_x1 (zdk ttX3_put 9 rfl rfl) ?_
    refine zj_iconst (zdk ttX3_put 10 rfl rfl) ?_
    refine zj_iadd (zdk ttX3_put 11 rfl rfl) ?_
    refine zj_puti (zdk ttX3_put 12 rfl rfl) zf_RX3_36 rfl (k_3_0 s0 hc) (Or.inl zw_RX3_36) (k2 := 7) rfl (fun h4 e5 => ?_)
    refine zj_iload_n (zdk ttX3_put 13 rfl rfl) rfl ?_
    have s6 : okC h4 := fw_3_0_7 s0 hc e5 (by omega)
    refine zj_iast (zdk ttX3_put 14 rfl rfl) (ka_3_0_4 s6 hc) (by decide) (by omega) (fun h7 e8 => ?_)
    have s9 : okC h7 := aw_3_0_4 s6 hc e8 (by omega)
    have f11 : zfC (w_X3_put c) h h4 := zfC_w (zfC_r _ _) e5 (Or.inl (by omega))
    have f10 : zfC (w_X3_put c) h h7 := zfC_w f11 e8 (Or.inr (by omega))
    exact zj_vret rfl (zdk ttX3_put 15 rfl rfl) (Nat.le_refl _) (Nat.le_refl _) ⟨rfl, s9, f10, (fun _ => ⟨tCd_p (by omega) ((zwr_r e8 (by first | decide | exact (absurd ·.1 (by decide)) | exact (absurd ·.2 (by decide)) | omega)).trans (zwr_v e5)) (fun i => by rw [zwr_if e8 i, zwr_r (a := c + 5) (b := i) e5 (by omega)]), ((zwr_r e8 (by first | decide | exact (absurd ·.1 (by decide)) | exact (absurd ·.2 (by decide)) | omega)).trans (zwr_v e5))⟩)⟩

abbrev q2_X7_readOperand (h : zM) (p1 : Int) (p2 : Int) : Option zV → zM → Prop := zqi fun v h' => (0 ≤ v ∧ v ≤ 1) ∧ okC h' ∧ zfC (w_X7_readOperand p1) h h' ∧ (∀ T P j, tPo T P j h → h.2 p1 7 ≤ j → (v = 1 → 0 ≤ tOp p2 (T j) ∧ tPo T P (j + 1) h' ∧ tCd h' p1 = tOp p2 (T j) :: tCd h p1 ∧ h'.2 p1 7 = h.2 p1 7 + 1) ∧ (v = 0 → tOp p2 (T j) < 0 ∧ h'.2 103 7 = -(tOp p2 (T j)) ∧ h'.2 103 8 = P j))
set_option maxRecDepth 100000 in
set_option maxHeartbeats 4000000 in
theorem s2_X7_readOperand (l : Launch) (h : zM) (p1 : Int) (p2 : Int) (s0 : okC h) (r_p1 : zLw p1) (b_p2 : 0 ≤ p2 ∧ p2 ≤ 1) : zT shC l yX7_readOperand cX7_readOperand 4 (some .boolean) (rmL 5) 0 0 [.inr 107, .inr p1, .inl p2] h (q2_X7_readOperand h p1 p2) := by
  refine zT_of (by decide +kernel) (L0 := [some (.inr 107), some (.inr p1), some (.inl p2), none]) rfl (Nat.le_of_ble_eq_true rfl) ?_
  have b1 := zLw_b r_p1
  refine zj_aload_n (zdk ttX7_readOperand 0 rfl rfl) rfl (by decide) ?_
  refine zj_getr (r := 103) (zdk ttX7_readOperand 1 rfl rfl) zf_RX7_9 rfl (k_L107 s0) (rf_L107_0 s0) ?_
  have b2 : -2147483648 ≤ (h.2 103 6) ∧ (h.2 103 6) ≤ 2147483647 := fb_L103_6 s0
  refine zj_geti (v := (h.2 103 6)) (zdk ttX7_readOperand 2 rfl rfl) zf_RX7_32 rfl (k_L103 s0) rfl ?_
  refine zj_istore_n (L' := [some (.inr 107), some (.inr p1), some (.inl p2), some (.inl (h.2 103 6))]) (zdk ttX7_readOperand 3 rfl rfl) (by decide) rfl ?_
  refine zj_aload_n (zdk ttX7_readOperand 4 rfl rfl) rfl (by decide) ?_
  refine zj_getr (r := 103) (zdk ttX7_readOperand 5 rfl rfl) zf_RX7_9 rfl (k_L107 s0) (rf_L107_0 s0) ?_
  refine zj_callV (av := []) (st := []) (zdk ttX7_readOperand 6 rfl rfl) mb_X6_isNumber mv_RX7_88 (ci := 6) rfl rfl (k_L103 s0) rfl rfl (Nat.le_of_ble_eq_true rfl) (s_X6_isNumber l h s0) (rm_ok (by decide) (by decide)) (zq_i fun v4 h5 q3 => ?_)
  obtain ⟨rfl, b7, ⟨rfl, b6⟩ | ⟨rfl, b6⟩⟩ := q3
  · refine zj_if_eq (t := 50) (zdk ttX7_readOperand 7 rfl rfl) (by decide) (by decide) (fun c8 => ?_) (fun c8 => ?_)
    · refine zj_iload_n (zdk ttX7_readOperand 24 rfl rfl) rfl ?_
      refine zj_if_ne (t := 84) (zdk ttX7_readOperand 25 rfl rfl) (by decide) (by omega) (fun c9 => ?_) (fun c9 => ?_)
      · refine zj_aload_n (zdk ttX7_readOperand 40 rfl rfl) rfl (by decide) ?_
        refine zj_getr (r := 103) (zdk ttX7_readOperand 41 rfl rfl) zf_RX7_9 rfl (k_L107 s0) (rf_L107_0 s0) ?_
        refine zj_iconst (zdk ttX7_readOperand 42 rfl rfl) ?_
        refine zj_callV (av := [.inl 1]) (st := []) (zdk ttX7_readOperand 43 rfl rfl) mb_X6_refuse mv_RX7_81 (ci := 6) rfl rfl (k_L103 s0) rfl rfl (Nat.le_of_ble_eq_true rfl) (s2_X6_refuse l h 1 s0 (by omega)) (rm_ok (by decide) (by decide)) (zq_i fun v11 h12 q10 => ?_)
        obtain ⟨b13, s14, f16, u15⟩ := q10
        have f17 : zfC (w_X7_readOperand p1) h h12 := zfC_t (zfC_r _ _) f16 (fun a9 b9 z9 => by
          exact (Or.inl (by omega)))
        have b18 : h12.2 103 6 = (h.2 103 6) := (zfC_a f16 (fun z9 => by unfold w_X6_refuse at z9; first | (revert z9; decide) | omega))
        exact zj_zret rfl (zdk ttX7_readOperand 44 rfl rfl) (Nat.le_refl _) (Nat.le_refl _) (by omega) ⟨v11, rfl, by omega, s14, f17, (by intro T P j t0 y0; have k0 := t0.2.2.1.2; have l0 := t0.2.2.2.1; have n0 := t0.2.2.2.1; have o9 := tOp_f p2 (T j); have e_1 := u15 T P j t0; exact ⟨fun z => absurd z (by omega), fun _ => ⟨by omega, by have e9 := e_1.1; omega, e_1.2⟩⟩)⟩
      · refine zj_aload_n (zdk ttX7_readOperand 26 rfl rfl) rfl (by decide) ?_
        refine zj_getr (r := 103) (zdk ttX7_readOperand 27 rfl rfl) zf_RX7_9 rfl (k_L107 s0) (rf_L107_0 s0) ?_
        refine zj_bipush (zdk ttX7_readOperand 28 rfl rfl) (by decide) ?_
        refine zj_bipush (zdk ttX7_readOperand 29 rfl rfl) (by decide) ?_
        refine zj_callV (av := [.inl 7, .inl 16]) (st := []) (zdk ttX7_readOperand 30 rfl rfl) mb_X6_isWord mv_RX7_60 (ci := 6) rfl rfl (k_L103 s0) rfl rfl (Nat.le_of_ble_eq_true rfl) (s_X6_isWord l h 7 16 s0 (by omega) (by omega)) (rm_ok (by decide) (by decide)) (zq_i fun v20 h21 q19 => ?_)
        obtain ⟨rfl, b23, ⟨rfl, b22⟩ | ⟨rfl, b22⟩⟩ := q19
        · refine zj_if_eq (t := 84) (zdk ttX7_readOperand 31 rfl rfl) (by decide) (by decide) (fun c24 => ?_) (fun c24 => ?_)
          · refine zj_aload_n (zdk ttX7_readOperand 40 rfl rfl) rfl (by decide) ?_
            refine zj_getr (r := 103) (zdk ttX7_readOperand 41 rfl rfl) zf_RX7_9 rfl (k_L107 s0) (rf_L107_0 s0) ?_
            refine zj_iconst (zdk ttX7_readOperand 42 rfl rfl) ?_
            refine zj_callV (av := [.inl 1]) (st := []) (zdk ttX7_readOperand 43 rfl rfl) mb_X6_refuse mv_RX7_81 (ci := 6) rfl rfl (k_L103 s0) rfl rfl (Nat.le_of_ble_eq_true rfl) (s2_X6_refuse l h 1 s0 (by omega)) (rm_ok (by decide) (by decide)) (zq_i fun v26 h27 q25 => ?_)
            obtain ⟨b28, s29, f31, u30⟩ := q25
            have f32 : zfC (w_X7_readOperand p1) h h27 := zfC_t (zfC_r _ _) f31 (fun a9 b9 z9 => by
              exact (Or.inl (by omega)))
            have b33 : h27.2 103 6 = (h.2 103 6) := (zfC_a f31 (fun z9 => by unfold w_X6_refuse at z9; first | (revert z9; decide) | omega))
            exact zj_zret rfl (zdk ttX7_readOperand 44 rfl rfl) (Nat.le_refl _) (Nat.le_refl _) (by omega) ⟨v26, rfl, by omega, s29, f32, (by intro T P j t0 y0; have k0 := t0.2.2.1.2; have l0 := t0.2.2.2.1; have n0 := t0.2.2.2.1; have o9 := tOp_f p2 (T j); have e_1 := u30 T P j t0; exact ⟨fun z => absurd z (by omega), fun _ => ⟨by omega, by have e9 := e_1.1; omega, e_1.2⟩⟩)⟩
          · exact absurd c24 (by omega)
        · refine zj_if_eq (t := 84) (zdk ttX7_readOperand 31 rfl rfl) (by decide) (by decide) (fun c34 => ?_) (fun c34 => ?_)
          · exact absurd c34 (by omega)
          · refine zj_aload_n (zdk ttX7_readOperand 32 rfl rfl) rfl (by omega) ?_
            refine zj_sipush (zdk ttX7_readOperand 33 rfl rfl) (by decide) ?_
            refine zj_iload_n (zdk ttX7_readOperand 34 rfl rfl) rfl ?_
            refine zj_iadd (zdk ttX7_readOperand 35 rfl rfl) ?_
            refine zj_sipush (zdk ttX7_readOperand 36 rfl rfl) (by decide) ?_
            refine zj_isub (zdk ttX7_readOperand 37 rfl rfl) ?_
            refine zj_callV (av := [.inl ((10000 + (h.2 103 6)) - 200)]) (st := []) (zdk ttX7_readOperand 38 rfl rfl) mb_X3_put mv_RX7_77 (ci := 3) rfl rfl (k_3_0 s0 r_p1) rfl rfl (Nat.le_of_ble_eq_true rfl) (s2_X3_put l h p1 ((10000 + (h.2 103 6)) - 200) s0 r_p1 (by omega)) (rm_ok (by decide) (by decide)) (zq_v fun h37 q35 => ?_)
            obtain ⟨s39, f41, u40⟩ := q35
            refine zj_goto (t := 93) (zdk ttX7_readOperand 39 rfl rfl) (by decide) ?_
            refine zj_aload_n (zdk ttX7_readOperand 45 rfl rfl) rfl (by decide) ?_
            refine zj_getr (r := 103) (zdk ttX7_readOperand 46 rfl rfl) zf_RX7_9 rfl (k_L107 s39) (rf_L107_0 s39) ?_
            refine zj_callV (av := []) (st := []) (zdk ttX7_readOperand 47 rfl rfl) mb_X6_pass mv_RX7_47 (ci := 6) rfl rfl (k_L103 s39) rfl rfl (Nat.le_of_ble_eq_true rfl) (s2_X6_pass l h37 s39) (rm_ok (by decide) (by decide)) (zq_v fun h44 q42 => ?_)
            obtain ⟨s46, f48, u47⟩ := q42
            refine zj_iconst (zdk ttX7_readOperand 48 rfl rfl) ?_
            have f50 : zfC (w_X7_readOperand p1) h h37 := zfC_t (zfC_r _ _) f41 (fun a9 b9 z9 => by
              rcases z9 with z9 | z9
              · exact (Or.inr (Or.inl (by omega)))
              · exact (Or.inr (Or.inr (by omega))))
            have f49 : zfC (w_X7_readOperand p1) h h44 := zfC_t f50 f48 (fun a9 b9 z9 => by
              exact (Or.inl (by omega)))
            have b51 : h37.2 103 6 = (h.2 103 6) := (zfC_a f41 (fun z9 => by unfold w_X3_put at z9; first | (revert z9; decide) | omega))
            exact zj_zret rfl (zdk ttX7_readOperand 49 rfl rfl) (Nat.le_refl _) (Nat.le_refl _) (by omega) ⟨1, rfl, by omega, s46, f49, (by intro T P j t0 y0; have k0 := t0.2.2.1.2; have l0 := t0.2.2.2.1; have n0 := t0.2.2.2.1; have o9 := tOp_f p2 (T j); have a_1 : tPo T P j h37 := tPo_f t0 (fun i => (zfC_a f41 (fun z9 => by unfold w_X3_put at z9; first | (revert z9; decide) | omega))) (fun i => (zfC_a f41 (fun z9 => by unfold w_X3_put at z9; first | (revert z9; decide) | omega))) (zfC_a f41 (fun z9 => by unfold w_X3_put at z9; first | (revert z9; decide) | omega)) (zfC_a f41 (fun z9 => by unfold w_X3_put at z9; first | (revert z9; decide) | omega)) (zfC_a f41 (fun z9 => by unfold w_X3_put at z9; first | (revert z9; decide) | omega)) (zfC_a f41 (fun z9 => by unfold w_X3_put at z9; first | (revert z9; decide) | omega)) (zfC_a f41 (fun z9 => by unfold w_X3_put at z9; first | (revert z9; decide) | omega)); have k_2 := a_1.2.2.1.2; have k_2l := a_1.2.2.2.1; have a_3 : tPo T P (j + 1) h44 := u47 T P j a_1 (by omega); have a_3q := a_3.2.2.2.1; have c_4 := u40 (by omega); have c_4l := c_4.2; have c_4e : tCd h37 p1 = ((10000 + (h.2 103 6)) - 200) :: tCd h p1 := c_4.1.trans (congrArg _ (rfl : tCd h p1 = tCd h p1)); have c_5l : h44.2 p1 7 = h37.2 p1 7 := (zfC_a f48 (fun z9 => by unfold w_X6_pass at z9; first | (revert z9; decide) | omega)); have c_5e : tCd h44 p1 = (((10000 + (h.2 103 6)) - 200) :: tCd h p1) := (tCd_f (zfC_a f48 (fun z9 => by unfold w_X6_pass at z9; first | (revert z9; decide) | omega)) (fun i => (zfC_a f48 (fun z9 => by unfold w_X6_pass at z9; first | (revert z9; decide) | omega)))).trans c_4e; exact ⟨fun _ => ⟨by omega, a_3, c_5e.trans (by rw [show ((10000 + (h.2 103 6)) - 200) = tOp p2 (T j) by omega]), by omega⟩, fun z => absurd z (by omega)⟩)⟩
    · exact absurd c8 (by omega)
  · refine zj_if_eq (t := 50) (zdk ttX7_readOperand 7 rfl rfl) (by decide) (by decide) (fun c52 => ?_) (fun c52 => ?_)
    · exact absurd c52 (by omega)
    · refine zj_iload_n (zdk ttX7_readOperand 8 rfl rfl) rfl ?_
      refine zj_if_eq (t := 38) (zdk ttX7_readOperand 9 rfl rfl) (by decide) (by omega) (fun c53 => ?_) (fun c53 => ?_)
      · refine zj_aload_n (zdk ttX7_readOperand 18 rfl rfl) rfl (by omega) ?_
        refine zj_iload_n (zdk ttX7_readOperand 19 rfl rfl) rfl ?_
        refine zj_sipush (zdk ttX7_readOperand 20 rfl rfl) (by decide) ?_
        refine zj_isub (zdk ttX7_readOperand 21 rfl rfl) ?_
        refine zj_callV (av := [.inl ((h.2 103 6) - 1000)]) (st := []) (zdk ttX7_readOperand 22 rfl rfl) mb_X3_put mv_RX7_77 (ci := 3) rfl rfl (k_3_0 s0 r_p1) rfl rfl (Nat.le_of_ble_eq_true rfl) (s2_X3_put l h p1 ((h.2 103 6) - 1000) s0 r_p1 (by omega)) (rm_ok (by decide) (by decide)) (zq_v fun h56 q54 => ?_)
        obtain ⟨s58, f60, u59⟩ := q54
        refine zj_goto (t := 93) (zdk ttX7_readOperand 23 rfl rfl) (by decide) ?_
        refine zj_aload_n (zdk ttX7_readOperand 45 rfl rfl) rfl (by decide) ?_
        refine zj_getr (r := 103) (zdk ttX7_readOperand 46 rfl rfl) zf_RX7_9 rfl (k_L107 s58) (rf_L107_0 s58) ?_
        refine zj_callV (av := []) (st := []) (zdk ttX7_readOperand 47 rfl rfl) mb_X6_pass mv_RX7_47 (ci := 6) rfl rfl (k_L103 s58) rfl rfl (Nat.le_of_ble_eq_true rfl) (s2_X6_pass l h56 s58) (rm_ok (by decide) (by decide)) (zq_v fun h63 q61 => ?_)
        obtain ⟨s65, f67, u66⟩ := q61
        refine zj_iconst (zdk ttX7_readOperand 48 rfl rfl) ?_
        have f69 : zfC (w_X7_readOperand p1) h h56 := zfC_t (zfC_r _ _) f60 (fun a9 b9 z9 => by
          rcases z9 with z9 | z9
          · exact (Or.inr (Or.inl (by omega)))
          · exact (Or.inr (Or.inr (by omega))))
        have f68 : zfC (w_X7_readOperand p1) h h63 := zfC_t f69 f67 (fun a9 b9 z9 => by
          exact (Or.inl (by omega)))
        have b70 : h56.2 103 6 = (h.2 103 6) := (zfC_a f60 (fun z9 => by unfold w_X3_put at z9; first | (revert z9; decide) | omega))
        exact zj_zret rfl (zdk ttX7_readOperand 49 rfl rfl) (Nat.le_refl _) (Nat.le_refl _) (by omega) ⟨1, rfl, by omega, s65, f68, (by intro T P j t0 y0; have k0 := t0.2.2.1.2; have l0 := t0.2.2.2.1; have n0 := t0.2.2.2.1; have o9 := tOp_f p2 (T j); have a_1 : tPo T P j h56 := tPo_f t0 (fun i => (zfC_a f60 (fun z9 => by unfold w_X3_put at z9; first | (revert z9; decide) | omega))) (fun i => (zfC_a f60 (fun z9 => by unfold w_X3_put at z9; first | (revert z9; decide) | omega))) (zfC_a f60 (fun z9 => by unfold w_X3_put at z9; first | (revert z9; decide) | omega)) (zfC_a f60 (fun z9 => by unfold w_X3_put at z9; first | (revert z9; decide) | omega)) (zfC_a f60 (fun z9 => by unfold w_X3_put at z9; first | (revert z9; decide) | omega)) (zfC_a f60 (fun z9 => by unfold w_X3_put at z9; first | (revert z9; decide) | omega)) (zfC_a f60 (fun z9 => by unfold w_X3_put at z9; first | (revert z9; decide) | omega)); have k_2 := a_1.2.2.1.2; have k_2l := a_1.2.2.2.1; have a_3 : tPo T P (j + 1) h63 := u66 T P j a_1 (by omega); have a_3q := a_3.2.2.2.1; have c_4 := u59 (by omega); have c_4l := c_4.2; have c_4e : tCd h56 p1 = ((h.2 103 6) - 1000) :: tCd h p1 := c_4.1.trans (congrArg _ (rfl : tCd h p1 = tCd h p1)); have c_5l : h63.2 p1 7 = h56.2 p1 7 := (zfC_a f67 (fun z9 => by unfold w_X6_pass at z9; first | (revert z9; decide) | omega)); have c_5e : tCd h63 p1 = (((h.2 103 6) - 1000) :: tCd h p1) := (tCd_f (zfC_a f67 (fun z9 => by unfold w_X6_pass at z9; first | (revert z9; decide) | omega)) (fun i => (zfC_a f67 (fun z9 => by unfold w_X6_pass at z9; first | (revert z9; decide) | omega)))).trans c_4e; exact ⟨fun _ => ⟨by omega, a_3, c_5e.trans (by rw [show ((h.2 103 6) - 1000) = tOp p2 (T j) by omega]), by omega⟩, fun z => absurd z (by omega)⟩)⟩
      · refine zj_iload_n (zdk ttX7_readOperand 10 rfl rfl) rfl ?_
        refine zj_sipush (zdk ttX7_readOperand 11 rfl rfl) (by decide) ?_
        refine zj_icmp_ne (t := 38) (zdk ttX7_readOperand 12 rfl rfl) (by decide) (by omega) (by decide) (fun c71 => ?_) (fun c71 => ?_)
        · refine zj_aload_n (zdk ttX7_readOperand 18 rfl rfl) rfl (by omega) ?_
          refine zj_iload_n (zdk ttX7_readOperand 19 rfl rfl) rfl ?_
          refine zj_sipush (zdk ttX7_readOperand 20 rfl rfl) (by decide) ?_
          refine zj_isub (zdk ttX7_readOperand 21 rfl rfl) ?_
          refine zj_callV (av := [.inl ((h.2 103 6) - 1000)]) (st := []) (zdk ttX7_readOperand 22 rfl rfl) mb_X3_put mv_RX7_77 (ci := 3) rfl rfl (k_3_0 s0 r_p1) rfl rfl (Nat.le_of_ble_eq_true rfl) (s2_X3_put l h p1 ((h.2 103 6) - 1000) s0 r_p1 (by omega)) (rm_ok (by decide) (by decide)) (zq_v fun h74 q72 => ?_)
          obtain ⟨s76, f78, u77⟩ := q72
          refine zj_goto (t := 93) (zdk ttX7_readOperand 23 rfl rfl) (by decide) ?_
          refine zj_aload_n (zdk ttX7_readOperand 45 rfl rfl) rfl (by decide) ?_
          refine zj_getr (r := 103) (zdk ttX7_readOperand 46 rfl rfl) zf_RX7_9 rfl (k_L107 s76) (rf_L107_0 s76) ?_
          refine zj_callV (av := []) (st := []) (zdk ttX7_readOperand 47 rfl rfl) mb_X6_pass mv_RX7_47 (ci := 6) rfl rfl (k_L103 s76) rfl rfl (Nat.le_of_ble_eq_true rfl) (s2_X6_pass l h74 s76) (rm_ok (by decide) (by decide)) (zq_v fun h81 q79 => ?_)
          obtain ⟨s83, f85, u84⟩ := q79
          refine zj_iconst (zdk ttX7_readOperand 48 rfl rfl) ?_
          have f87 : zfC (w_X7_readOperand p1) h h74 := zfC_t (zfC_r _ _) f78 (fun a9 b9 z9 => by
            rcases z9 with z9 | z9
            · exact (Or.inr (Or.inl (by omega)))
            · exact (Or.inr (Or.inr (by omega))))
          have f86 : zfC (w_X7_readOperand p1) h h81 := zfC_t f87 f85 (fun a9 b9 z9 => by
            exact (Or.inl (by omega)))
          have b88 : h74.2 103 6 = (h.2 103 6) := (zfC_a f78 (fun z9 => by unfold w_X3_put at z9; first | (revert z9; decide) | omega))
          exact zj_zret rfl (zdk ttX7_readOperand 49 rfl rfl) (Nat.le_refl _) (Nat.le_refl _) (by omega) ⟨1, rfl, by omega, s83, f86, (by intro T P j t0 y0; have k0 := t0.2.2.1.2; have l0 := t0.2.2.2.1; have n0 := t0.2.2.2.1; have o9 := tOp_f p2 (T j); have a_1 : tPo T P j h74 := tPo_f t0 (fun i => (zfC_a f78 (fun z9 => by unfold w_X3_put at z9; first | (revert z9; decide) | omega))) (fun i => (zfC_a f78 (fun z9 => by unfold w_X3_put at z9; first | (revert z9; decide) | omega))) (zfC_a f78 (fun z9 => by unfold w_X3_put at z9; first | (revert z9; decide) | omega)) (zfC_a f78 (fun z9 => by unfold w_X3_put at z9; first | (revert z9; decide) | omega)) (zfC_a f78 (fun z9 => by unfold w_X3_put at z9; first | (revert z9; decide) | omega)) (zfC_a f78 (fun z9 => by unfold w_X3_put at z9; first | (revert z9; decide) | omega)) (zfC_a f78 (fun z9 => by unfold w_X3_put at z9; first | (revert z9; decide) | omega)); have k_2 := a_1.2.2.1.2; have k_2l := a_1.2.2.2.1; have a_3 : tPo T P (j + 1) h81 := u84 T P j a_1 (by omega); have a_3q := a_3.2.2.2.1; have c_4 := u77 (by omega); have c_4l := c_4.2; have c_4e : tCd h74 p1 = ((h.2 103 6) - 1000) :: tCd h p1 := c_4.1.trans (congrArg _ (rfl : tCd h p1 = tCd h p1)); have c_5l : h81.2 p1 7 = h74.2 p1 7 := (zfC_a f85 (fun z9 => by unfold w_X6_pass at z9; first | (revert z9; decide) | omega)); have c_5e : tCd h81 p1 = (((h.2 103 6) - 1000) :: tCd h p1) := (tCd_f (zfC_a f85 (fun z9 => by unfold w_X6_pass at z9; first | (revert z9; decide) | omega)) (fun i => (zfC_a f85 (fun z9 => by unfold w_X6_pass at z9; first | (revert z9; decide) | omega)))).trans c_4e; exact ⟨fun _ => ⟨by omega, a_3, c_5e.trans (by rw [show ((h.2 103 6) - 1000) = tOp p2 (T j) by omega]), by omega⟩, fun z => absurd z (by omega)⟩)⟩
        · refine zj_aload_n (zdk ttX7_readOperand 13 rfl rfl) rfl (by decide) ?_
          refine zj_getr (r := 103) (zdk ttX7_readOperand 14 rfl rfl) zf_RX7_9 rfl (k_L107 s0) (rf_L107_0 s0) ?_
          refine zj_iconst (zdk ttX7_readOperand 15 rfl rfl) ?_
          refine zj_callV (av := [.inl 2]) (st := []) (zdk ttX7_readOperand 16 rfl rfl) mb_X6_refuse mv_RX7_81 (ci := 6) rfl rfl (k_L103 s0) rfl rfl (Nat.le_of_ble_eq_true rfl) (s2_X6_refuse l h 2 s0 (by omega)) (rm_ok (by decide) (by decide)) (zq_i fun v90 h91 q89 => ?_)
          obtain ⟨b92, s93, f95, u94⟩ := q89
          have f96 : zfC (w_X7_readOperand p1) h h91 := zfC_t (zfC_r _ _) f95 (fun a9 b9 z9 => by
            exact (Or.inl (by omega)))
          have b97 : h91.2 103 6 = (h.2 103 6) := (zfC_a f95 (fun z9 => by unfold w_X6_refuse at z9; first | (revert z9; decide) | omega))
          exact zj_zret rfl (zdk ttX7_readOperand 17 rfl rfl) (Nat.le_refl _) (Nat.le_refl _) (by omega) ⟨v90, rfl, by omega, s93, f96, (by intro T P j t0 y0; have k0 := t0.2.2.1.2; have l0 := t0.2.2.2.1; have n0 := t0.2.2.2.1; have o9 := tOp_f p2 (T j); have e_1 := u94 T P j t0; exact ⟨fun z => absurd z (by omega), fun _ => ⟨by omega, by have e9 := e_1.1; omega, e_1.2⟩⟩)⟩

abbrev q2_X7_readSum (h : zM) (p1 : Int) : Option zV → zM → Prop := zqi fun v h' => (0 ≤ v ∧ v ≤ 1) ∧ okC h' ∧ zfC (w_X7_readSum p1) h h' ∧ (∀ T P j, tPo T P j h → h.2 p1 7 ≤ j → (v = 1 → ∃ j9, tPo T P j9 h' ∧ j < j9 ∧ h'.2 p1 7 - h.2 p1 7 ≤ j9 - j ∧ ∀ p9 s9 d9, tRe T p9 (3, j, 0, s9, tCd h p1, d9) (5, j9, 0, s9, tCd h' p1, d9)) ∧ (v = 0 → ∃ i9 f9, (h'.2 103 7 = f9 ∧ h'.2 103 8 = P i9) ∧ ∀ p9 s9 d9, tRe T p9 (3, j, 0, s9, tCd h p1, d9) (tEr i9 f9)))
set_option maxRecDepth 100000 in
set_option maxHeartbeats 4000000 in
theorem s2_X7_readSum (l : Launch) (h : zM) (p1 : Int) (s0 : okC h) (r_p1 : zLw p1) : zT shC l yX7_readSum cX7_readSum 6 (some .boolean) (rmL 6) 0 0 [.inr 107, .inr p1] h (q2_X7_readSum h p1) := by
  refine zT_of (by decide +kernel) (L0 := [some (.inr 107), some (.inr p1), none, none, none, none]) rfl (Nat.le_of_ble_eq_true rfl) ?_
  have b1 := zLw_b r_p1
  refine zj_aload_n (zdk ttX7_readSum 0 rfl rfl) rfl (by decide) ?_
  refine zj_aload_n (zdk ttX7_readSum 1 rfl rfl) rfl (by omega) ?_
  refine zj_iconst (zdk ttX7_readSum 2 rfl rfl) ?_
  refine zj_callV (av := [.inr p1, .inl 0]) (st := []) (zdk ttX7_readSum 3 rfl rfl) mb_X7_readOperand mv_RX7_84 (ci := 7) rfl rfl (k_L107 s0) rfl rfl (Nat.le_of_ble_eq_true rfl) (s2_X7_readOperand l h p1 0 s0 r_p1 (by omega)) (rm_ok (by decide) (by decide)) (zq_i fun v3 h4 q2 => ?_)
  obtain ⟨b5, s6, f8, u7⟩ := q2
  refine zj_if_ne (t := 11) (zdk ttX7_readSum 4 rfl rfl) (by decide) (by omega) (fun c9 => ?_) (fun c9 => ?_)
  · refine zj_iconst (zdk ttX7_readSum 7 rfl rfl) ?_
    refine zj_istore_n (L' := [some (.inr 107), some (.inr p1), some (.inl 0), none, none, none]) (zdk ttX7_readSum 8 rfl rfl) (by decide) rfl ?_
    refine zj_iconst (zdk ttX7_readSum 9 rfl rfl) ?_
    refine zj_istore_n (L' := [some (.inr 107), some (.inr p1), some (.inl 0), some (.inl 0), none, none]) (zdk ttX7_readSum 10 rfl rfl) (by decide) rfl ?_
    have lp154 : ∀ (n : Nat) (x10 x11 : Int) (h12 : zM), (0 ≤ x10 ∧ x10 ≤ 62) → (0 ≤ x11 ∧ x11 ≤ 400) → okC h12 → zfC (w_X7_readSum p1) h h12 → (∀ T P j, tPo T P j h → h.2 p1 7 ≤ j → ∃ j9, tPo T P j9 h12 ∧ (2 * x11 + 1 ≤ j9 ∧ j < j9) ∧ (x10 = 0 → h12.2 p1 7 - h.2 p1 7 ≤ j9 - j) ∧ (¬ x10 = 0 → h12.2 p1 7 - h.2 p1 7 + 1 ≤ j9 - j) ∧ ∀ p9 s9 d9, tRe T p9 (3, j, 0, s9, tCd h p1, d9) (4, j9, x10, s9, tCd h12 p1, d9)) → (401 - x11).toNat < n → zJ shC l yX7_readSum cX7_readSum 6 (some .boolean) (rmL 6) 0 0 (q2_X7_readSum h p1) 0 0 15 [some (.inr 107), some (.inr p1), some (.inl x10), some (.inl x11), none, none] [] h12 := by
      intro n
      induction n with
      | zero => intro x10 x11 h12 b155 b156 s13 f14 u157 m158; exact absurd m158 (Nat.not_lt_zero _)
      | succ n ih159 =>
        intro x10 x11 h12 b155 b156 s13 f14 u157 m158
        refine zj_iload_n (zdk ttX7_readSum 11 rfl rfl) rfl ?_
        refine zj_sipush (zdk ttX7_readSum 12 rfl rfl) (by decide) ?_
        refine zj_icmp_ge (t := 147) (zdk ttX7_readSum 13 rfl rfl) (by decide) (by omega) (by decide) (fun c160 => ?_) (fun c160 => ?_)
        · refine zj_aload_n (zdk ttX7_readSum 74 rfl rfl) rfl (by decide) ?_
          refine zj_getr (r := 103) (zdk ttX7_readSum 75 rfl rfl) zf_RX7_9 rfl (k_L107 s13) (rf_L107_0 s13) ?_
          refine zj_iconst (zdk ttX7_readSum 76 rfl rfl) ?_
          refine zj_callV (av := [.inl 1]) (st := []) (zdk ttX7_readSum 77 rfl rfl) mb_X6_refuse mv_RX7_81 (ci := 6) rfl rfl (k_L103 s13) rfl rfl (Nat.le_of_ble_eq_true rfl) (s2_X6_refuse l h12 1 s13 (by omega)) (rm_ok (by decide) (by decide)) (zq_i fun v162 h163 q161 => ?_)
          obtain ⟨b164, s165, f167, u166⟩ := q161
          have f168 : zfC (w_X7_readSum p1) h h163 := zfC_t f14 f167 (fun a9 b9 z9 => by
            exact (Or.inl (by omega)))
          have b169 : h163.2 103 6 = (h12.2 103 6) := (zfC_a f167 (fun z9 => by unfold w_X6_refuse at z9; first | (revert z9; decide) | omega))
          exact zj_zret rfl (zdk ttX7_readSum 78 rfl rfl) (Nat.le_refl _) (Nat.le_refl _) (by omega) ⟨v162, rfl, by omega, s165, f168, (by intro T P j t0 y0; have k0 := t0.2.2.1.2; have l0 := t0.2.2.2.1; have n0 := t0.2.2.2.1; obtain ⟨x_1j, x_1a, x_1l, x_1n, x_1m, x_1r⟩ := u157 T P j t0 y0; have k_2 := x_1a.2.2.1.2; have k_2l := x_1a.2.2.2.1; exact absurd l0 (by omega))⟩
        · refine zj_aload_n (zdk ttX7_readSum 14 rfl rfl) rfl (by decide) ?_
          refine zj_getr (r := 103) (zdk ttX7_readSum 15 rfl rfl) zf_RX7_9 rfl (k_L107 s13) (rf_L107_0 s13) ?_
          have b170 : -2147483648 ≤ (h12.2 103 6) ∧ (h12.2 103 6) ≤ 2147483647 := fb_L103_6 s13
          refine zj_geti (v := (h12.2 103 6)) (zdk ttX7_readSum 16 rfl rfl) zf_RX7_32 rfl (k_L103 s13) rfl ?_
          refine zj_istore (L' := [some (.inr 107), some (.inr p1), some (.inl x10), some (.inl x11), some (.inl (h12.2 103 6)), none]) (zdk ttX7_readSum 17 rfl rfl) (by decide) rfl ?_
          refine zj_iload (zdk ttX7_readSum 18 rfl rfl) rfl ?_
          refine zj_bipush (zdk ttX7_readSum 19 rfl rfl) (by decide) ?_
          refine zj_icmp_eq (t := 45) (zdk ttX7_readSum 20 rfl rfl) (by decide) (by omega) (by decide) (fun c171 => ?_) (fun c171 => ?_)
          · refine zj_iconst (zdk ttX7_readSum 24 rfl rfl) ?_
            refine zj_goto (t := 50) (zdk ttX7_readSum 25 rfl rfl) (by decide) ?_
            refine zj_istore (L' := [some (.inr 107), some (.inr p1), some (.inl x10), some (.inl x11), some (.inl (h12.2 103 6)), some (.inl 1)]) (zdk ttX7_readSum 27 rfl rfl) (by decide) rfl ?_
            refine zj_iload (zdk ttX7_readSum 28 rfl rfl) rfl ?_
            refine zj_if_ne (t := 70) (zdk ttX7_readSum 29 rfl rfl) (by decide) (by decide) (fun c172 => ?_) (fun c172 => ?_)
            · refine zj_iload (zdk ttX7_readSum 37 rfl rfl) rfl ?_
              refine zj_if_ne (t := 91) (zdk ttX7_readSum 38 rfl rfl) (by decide) (by decide) (fun c173 => ?_) (fun c173 => ?_)
              · refine zj_aload_n (zdk ttX7_readSum 47 rfl rfl) rfl (by decide) ?_
                refine zj_getr (r := 103) (zdk ttX7_readSum 48 rfl rfl) zf_RX7_9 rfl (k_L107 s13) (rf_L107_0 s13) ?_
                refine zj_callV (av := []) (st := []) (zdk ttX7_readSum 49 rfl rfl) mb_X6_pass mv_RX7_47 (ci := 6) rfl rfl (k_L103 s13) rfl rfl (Nat.le_of_ble_eq_true rfl) (s2_X6_pass l h12 s13) (rm_ok (by decide) (by decide)) (zq_v fun h176 q174 => ?_)
                obtain ⟨s178, f180, u179⟩ := q174
                refine zj_aload_n (zdk ttX7_readSum 50 rfl rfl) rfl (by decide) ?_
                refine zj_aload_n (zdk ttX7_readSum 51 rfl rfl) rfl (by omega) ?_
                refine zj_iload (zdk ttX7_readSum 52 rfl rfl) rfl ?_
                refine zj_bipush (zdk ttX7_readSum 53 rfl rfl) (by decide) ?_
                refine zj_icmp_ne (t := 111) (zdk ttX7_readSum 54 rfl rfl) (by decide) (by omega) (by decide) (fun c181 => ?_) (fun c181 => ?_)
                · refine zj_iconst (zdk ttX7_readSum 57 rfl rfl) ?_
                  refine zj_callV (av := [.inr p1, .inl 0]) (st := []) (zdk ttX7_readSum 58 rfl rfl) mb_X7_readOperand mv_RX7_84 (ci := 7) rfl rfl (k_L107 s178) rfl rfl (Nat.le_of_ble_eq_true rfl) (s2_X7_readOperand l h176 p1 0 s178 r_p1 (by omega)) (rm_ok (by decide) (by decide)) (zq_i fun v183 h184 q182 => ?_)
                  obtain ⟨b185, s186, f188, u187⟩ := q182
                  refine zj_if_ne (t := 120) (zdk ttX7_readSum 59 rfl rfl) (by decide) (by omega) (fun c189 => ?_) (fun c189 => ?_)
                  · refine zj_iload (zdk ttX7_readSum 62 rfl rfl) rfl ?_
                    refine zj_if_eq (t := 138) (zdk ttX7_readSum 63 rfl rfl) (by decide) (by decide) (fun c190 => ?_) (fun c190 => ?_)
                    · exact absurd c190 (by omega)
                    · refine zj_aload_n (zdk ttX7_readSum 64 rfl rfl) rfl (by omega) ?_
                      refine zj_sipush (zdk ttX7_readSum 65 rfl rfl) (by decide) ?_
                      refine zj_iload (zdk ttX7_readSum 66 rfl rfl) rfl ?_
                      refine zj_iadd (zdk ttX7_readSum 67 rfl rfl) ?_
                      refine zj_callV (av := [.inl (20000 + (h12.2 103 6))]) (st := []) (zdk ttX7_readSum 68 rfl rfl) mb_X3_put mv_RX7_77 (ci := 3) rfl rfl (k_3_0 s186 r_p1) rfl rfl (Nat.le_of_ble_eq_true rfl) (s2_X3_put l h184 p1 (20000 + (h12.2 103 6)) s186 r_p1 (by omega)) (rm_ok (by decide) (by decide)) (zq_v fun h193 q191 => ?_)
                      obtain ⟨s195, f197, u196⟩ := q191
                      refine zj_goto (t := 141) (zdk ttX7_readSum 69 rfl rfl) (by decide) ?_
                      refine zj_iinc (L' := [some (.inr 107), some (.inr p1), some (.inl x10), some (.inl (x11 + 1)), some (.inl (h12.2 103 6)), some (.inl 1)]) (zdk ttX7_readSum 72 rfl rfl) rfl (by decide) rfl ?_
                      refine zj_goto (t := 15) (zdk ttX7_readSum 73 rfl rfl) (by decide) ?_
                      refine zj_kill (k := 4) (L' := [some (.inr 107), some (.inr p1), some (.inl x10), some (.inl (x11 + 1)), none, some (.inl 1)]) rfl ?_
                      refine zj_kill (k := 5) (L' := [some (.inr 107), some (.inr p1), some (.inl x10), some (.inl (x11 + 1)), none, none]) rfl ?_
                      have f200 : zfC (w_X7_readSum p1) h h176 := zfC_t f14 f180 (fun a9 b9 z9 => by
                        exact (Or.inl (by omega)))
                      have f199 : zfC (w_X7_readSum p1) h h184 := zfC_t f200 f188 (fun a9 b9 z9 => by
                        rcases z9 with z9 | z9 | z9
                        · exact (Or.inl z9)
                        · exact (Or.inr (Or.inl (by omega)))
                        · exact (Or.inr (Or.inr (by omega))))
                      have f198 : zfC (w_X7_readSum p1) h h193 := zfC_t f199 f197 (fun a9 b9 z9 => by
                        rcases z9 with z9 | z9
                        · exact (Or.inr (Or.inl (by omega)))
                        · exact (Or.inr (Or.inr (by omega))))
                      have b201 : h193.2 103 6 = (h184.2 103 6) := (zfC_a f197 (fun z9 => by unfold w_X3_put at z9; first | (revert z9; decide) | omega))
                      exact ih159  x10 (x11 + 1) h193 (by omega) (by omega) s195 f198 (by intro T P j t0 y0; have k0 := t0.2.2.1.2; have l0 := t0.2.2.2.1; have n0 := t0.2.2.2.1; obtain ⟨x_1j, x_1a, x_1l, x_1n, x_1m, x_1r⟩ := u157 T P j t0 y0; have k_2 := x_1a.2.2.1.2; have k_2l := x_1a.2.2.2.1; have k_3 := x_1a.2.2.1.2; have k_3l := x_1a.2.2.2.1; have a_4 : tPo T P (x_1j + 1) h176 := u179 T P x_1j x_1a (by omega); have a_4q := a_4.2.2.2.1; have c_5l : h176.2 p1 7 = h12.2 p1 7 := (zfC_a f180 (fun z9 => by unfold w_X6_pass at z9; first | (revert z9; decide) | omega)); have c_5e : tCd h176 p1 = tCd h12 p1 := (tCd_f (zfC_a f180 (fun z9 => by unfold w_X6_pass at z9; first | (revert z9; decide) | omega)) (fun i => (zfC_a f180 (fun z9 => by unfold w_X6_pass at z9; first | (revert z9; decide) | omega)))).trans rfl; have r_6 := (u187 T P (x_1j + 1) a_4 (by omega)).1 (by omega); have r_6q := r_6.2.1.2.2.2.1; have a_7 : tPo T P ((x_1j + 1) + 1) h193 := tPo_f r_6.2.1 (fun i => (zfC_a f197 (fun z9 => by unfold w_X3_put at z9; first | (revert z9; decide) | omega))) (fun i => (zfC_a f197 (fun z9 => by unfold w_X3_put at z9; first | (revert z9; decide) | omega))) (zfC_a f197 (fun z9 => by unfold w_X3_put at z9; first | (revert z9; decide) | omega)) (zfC_a f197 (fun z9 => by unfold w_X3_put at z9; first | (revert z9; decide) | omega)) (zfC_a f197 (fun z9 => by unfold w_X3_put at z9; first | (revert z9; decide) | omega)) (zfC_a f197 (fun z9 => by unfold w_X3_put at z9; first | (revert z9; decide) | omega)) (zfC_a f197 (fun z9 => by unfold w_X3_put at z9; first | (revert z9; decide) | omega)); have c_8l := r_6.2.2.2; have c_8e : tCd h184 p1 = tOp 0 (T (x_1j + 1)) :: tCd h12 p1 := r_6.2.2.1.trans (congrArg _ (c_5e : tCd h176 p1 = tCd h12 p1)); have c_9 := u196 (by omega); have c_9l := c_9.2; have c_9e : tCd h193 p1 = (20000 + (h12.2 103 6)) :: (tOp 0 (T (x_1j + 1)) :: tCd h12 p1) := c_9.1.trans (congrArg _ (c_8e : tCd h184 p1 = (tOp 0 (T (x_1j + 1)) :: tCd h12 p1))); exact ⟨((x_1j + 1) + 1), a_7, by omega, fun z => by omega, fun z => by omega, fun p9 s9 d9 => tRe_k (tRe_s (x_1r p9 s9 d9) (by rw [show x_1j + 1 + 1 = x_1j + 2 by omega]; exact tM4_y (by omega) (by first | rw [show T x_1j - 42 = 0 by omega] | exact tOp_dv (by omega) (by omega)) r_6.1)) (by rw [c_9e]; congr 1; omega)⟩) (by omega)
                  · refine zj_iconst (zdk ttX7_readSum 60 rfl rfl) ?_
                    have f203 : zfC (w_X7_readSum p1) h h176 := zfC_t f14 f180 (fun a9 b9 z9 => by
                      exact (Or.inl (by omega)))
                    have f202 : zfC (w_X7_readSum p1) h h184 := zfC_t f203 f188 (fun a9 b9 z9 => by
                      rcases z9 with z9 | z9 | z9
                      · exact (Or.inl z9)
                      · exact (Or.inr (Or.inl (by omega)))
                      · exact (Or.inr (Or.inr (by omega))))
                    exact zj_zret rfl (zdk ttX7_readSum 61 rfl rfl) (Nat.le_refl _) (Nat.le_refl _) (by omega) ⟨0, rfl, by omega, s186, f202, (by intro T P j t0 y0; have k0 := t0.2.2.1.2; have l0 := t0.2.2.2.1; have n0 := t0.2.2.2.1; obtain ⟨x_1j, x_1a, x_1l, x_1n, x_1m, x_1r⟩ := u157 T P j t0 y0; have k_2 := x_1a.2.2.1.2; have k_2l := x_1a.2.2.2.1; have k_3 := x_1a.2.2.1.2; have k_3l := x_1a.2.2.2.1; have a_4 : tPo T P (x_1j + 1) h176 := u179 T P x_1j x_1a (by omega); have a_4q := a_4.2.2.2.1; have c_5l : h176.2 p1 7 = h12.2 p1 7 := (zfC_a f180 (fun z9 => by unfold w_X6_pass at z9; first | (revert z9; decide) | omega)); have c_5e : tCd h176 p1 = tCd h12 p1 := (tCd_f (zfC_a f180 (fun z9 => by unfold w_X6_pass at z9; first | (revert z9; decide) | omega)) (fun i => (zfC_a f180 (fun z9 => by unfold w_X6_pass at z9; first | (revert z9; decide) | omega)))).trans rfl; have e_6 := (u187 T P (x_1j + 1) a_4 (by omega)).2 (by omega); exact ⟨fun z => absurd z (by omega), fun _ => ⟨(x_1j + 1), _, e_6.2, fun p9 s9 d9 => tRe_s (x_1r p9 s9 d9) (tM4_n (by omega) (by first | rw [show T x_1j - 42 = 0 by omega] | exact tOp_dv (by omega) (by omega)) (by omega) rfl)⟩⟩)⟩
                · exact absurd c181 (by omega)
              · exact absurd c173 (by omega)
            · exact absurd c172 (by omega)
          · refine zj_iload (zdk ttX7_readSum 21 rfl rfl) rfl ?_
            refine zj_bipush (zdk ttX7_readSum 22 rfl rfl) (by decide) ?_
            refine zj_icmp_ne (t := 49) (zdk ttX7_readSum 23 rfl rfl) (by decide) (by omega) (by decide) (fun c204 => ?_) (fun c204 => ?_)
            · refine zj_iconst (zdk ttX7_readSum 26 rfl rfl) ?_
              refine zj_istore (L' := [some (.inr 107), some (.inr p1), some (.inl x10), some (.inl x11), some (.inl (h12.2 103 6)), some (.inl 0)]) (zdk ttX7_readSum 27 rfl rfl) (by decide) rfl ?_
              refine zj_iload (zdk ttX7_readSum 28 rfl rfl) rfl ?_
              refine zj_if_ne (t := 70) (zdk ttX7_readSum 29 rfl rfl) (by decide) (by decide) (fun c205 => ?_) (fun c205 => ?_)
              · exact absurd c205 (by omega)
              · refine zj_iload_n (zdk ttX7_readSum 30 rfl rfl) rfl ?_
                refine zj_if_eq (t := 70) (zdk ttX7_readSum 31 rfl rfl) (by decide) (by omega) (fun c206 => ?_) (fun c206 => ?_)
                · refine zj_iload (zdk ttX7_readSum 37 rfl rfl) rfl ?_
                  refine zj_if_ne (t := 91) (zdk ttX7_readSum 38 rfl rfl) (by decide) (by decide) (fun c207 => ?_) (fun c207 => ?_)
                  · exact absurd c207 (by omega)
                  · refine zj_iload (zdk ttX7_readSum 39 rfl rfl) rfl ?_
                    refine zj_bipush (zdk ttX7_readSum 40 rfl rfl) (by decide) ?_
                    refine zj_icmp_eq (t := 91) (zdk ttX7_readSum 41 rfl rfl) (by decide) (by omega) (by decide) (fun c208 => ?_) (fun c208 => ?_)
                    · refine zj_aload_n (zdk ttX7_readSum 47 rfl rfl) rfl (by decide) ?_
                      refine zj_getr (r := 103) (zdk ttX7_readSum 48 rfl rfl) zf_RX7_9 rfl (k_L107 s13) (rf_L107_0 s13) ?_
                      refine zj_callV (av := []) (st := []) (zdk ttX7_readSum 49 rfl rfl) mb_X6_pass mv_RX7_47 (ci := 6) rfl rfl (k_L103 s13) rfl rfl (Nat.le_of_ble_eq_true rfl) (s2_X6_pass l h12 s13) (rm_ok (by decide) (by decide)) (zq_v fun h211 q209 => ?_)
                      obtain ⟨s213, f215, u214⟩ := q209
                      refine zj_aload_n (zdk ttX7_readSum 50 rfl rfl) rfl (by decide) ?_
                      refine zj_aload_n (zdk ttX7_readSum 51 rfl rfl) rfl (by omega) ?_
                      refine zj_iload (zdk ttX7_readSum 52 rfl rfl) rfl ?_
                      refine zj_bipush (zdk ttX7_readSum 53 rfl rfl) (by decide) ?_
                      refine zj_icmp_ne (t := 111) (zdk ttX7_readSum 54 rfl rfl) (by decide) (by omega) (by decide) (fun c216 => ?_) (fun c216 => ?_)
                      · refine zj_iconst (zdk ttX7_readSum 57 rfl rfl) ?_
                        refine zj_callV (av := [.inr p1, .inl 0]) (st := []) (zdk ttX7_readSum 58 rfl rfl) mb_X7_readOperand mv_RX7_84 (ci := 7) rfl rfl (k_L107 s213) rfl rfl (Nat.le_of_ble_eq_true rfl) (s2_X7_readOperand l h211 p1 0 s213 r_p1 (by omega)) (rm_ok (by decide) (by decide)) (zq_i fun v218 h219 q217 => ?_)
                        obtain ⟨b220, s221, f223, u222⟩ := q217
                        refine zj_if_ne (t := 120) (zdk ttX7_readSum 59 rfl rfl) (by decide) (by omega) (fun c224 => ?_) (fun c224 => ?_)
                        · refine zj_iload (zdk ttX7_readSum 62 rfl rfl) rfl ?_
                          refine zj_if_eq (t := 138) (zdk ttX7_readSum 63 rfl rfl) (by decide) (by decide) (fun c225 => ?_) (fun c225 => ?_)
                          · refine zj_iload (zdk ttX7_readSum 70 rfl rfl) rfl ?_
                            refine zj_istore_n (L' := [some (.inr 107), some (.inr p1), some (.inl (h12.2 103 6)), some (.inl x11), some (.inl (h12.2 103 6)), some (.inl 0)]) (zdk ttX7_readSum 71 rfl rfl) (by decide) rfl ?_
                            refine zj_iinc (L' := [some (.inr 107), some (.inr p1), some (.inl (h12.2 103 6)), some (.inl (x11 + 1)), some (.inl (h12.2 103 6)), some (.inl 0)]) (zdk ttX7_readSum 72 rfl rfl) rfl (by decide) rfl ?_
                            refine zj_goto (t := 15) (zdk ttX7_readSum 73 rfl rfl) (by decide) ?_
                            refine zj_kill (k := 4) (L' := [some (.inr 107), some (.inr p1), some (.inl (h12.2 103 6)), some (.inl (x11 + 1)), none, some (.inl 0)]) rfl ?_
                            refine zj_kill (k := 5) (L' := [some (.inr 107), some (.inr p1), some (.inl (h12.2 103 6)), some (.inl (x11 + 1)), none, none]) rfl ?_
                            have f227 : zfC (w_X7_readSum p1) h h211 := zfC_t f14 f215 (fun a9 b9 z9 => by
                              exact (Or.inl (by omega)))
                            have f226 : zfC (w_X7_readSum p1) h h219 := zfC_t f227 f223 (fun a9 b9 z9 => by
                              rcases z9 with z9 | z9 | z9
                              · exact (Or.inl z9)
                              · exact (Or.inr (Or.inl (by omega)))
                              · exact (Or.inr (Or.inr (by omega))))
                            exact ih159  (h12.2 103 6) (x11 + 1) h219 (by omega) (by omega) s221 f226 (by intro T P j t0 y0; have k0 := t0.2.2.1.2; have l0 := t0.2.2.2.1; have n0 := t0.2.2.2.1; obtain ⟨x_1j, x_1a, x_1l, x_1n, x_1m, x_1r⟩ := u157 T P j t0 y0; have k_2 := x_1a.2.2.1.2; have k_2l := x_1a.2.2.2.1; have k_3 := x_1a.2.2.1.2; have k_3l := x_1a.2.2.2.1; have a_4 : tPo T P (x_1j + 1) h211 := u214 T P x_1j x_1a (by omega); have a_4q := a_4.2.2.2.1; have c_5l : h211.2 p1 7 = h12.2 p1 7 := (zfC_a f215 (fun z9 => by unfold w_X6_pass at z9; first | (revert z9; decide) | omega)); have c_5e : tCd h211 p1 = tCd h12 p1 := (tCd_f (zfC_a f215 (fun z9 => by unfold w_X6_pass at z9; first | (revert z9; decide) | omega)) (fun i => (zfC_a f215 (fun z9 => by unfold w_X6_pass at z9; first | (revert z9; decide) | omega)))).trans rfl; have r_6 := (u222 T P (x_1j + 1) a_4 (by omega)).1 (by omega); have r_6q := r_6.2.1.2.2.2.1; have c_7l := r_6.2.2.2; have c_7e : tCd h219 p1 = tOp 0 (T (x_1j + 1)) :: tCd h12 p1 := r_6.2.2.1.trans (congrArg _ (c_5e : tCd h211 p1 = tCd h12 p1)); exact ⟨((x_1j + 1) + 1), r_6.2.1, by omega, fun z => by omega, fun z => by omega, fun p9 s9 d9 => tRe_k (tRe_s (tRe_k (tRe_s (x_1r p9 s9 d9) (tM4_s (by omega))) (tWt_z (by omega) _)) (by rw [show (h12.2 103 6) = T x_1j by omega]; exact tM3_y rfl r_6.1)) c_7e.symm⟩) (by omega)
                          · exact absurd c225 (by omega)
                        · refine zj_iconst (zdk ttX7_readSum 60 rfl rfl) ?_
                          have f229 : zfC (w_X7_readSum p1) h h211 := zfC_t f14 f215 (fun a9 b9 z9 => by
                            exact (Or.inl (by omega)))
                          have f228 : zfC (w_X7_readSum p1) h h219 := zfC_t f229 f223 (fun a9 b9 z9 => by
                            rcases z9 with z9 | z9 | z9
                            · exact (Or.inl z9)
                            · exact (Or.inr (Or.inl (by omega)))
                            · exact (Or.inr (Or.inr (by omega))))
                          exact zj_zret rfl (zdk ttX7_readSum 61 rfl rfl) (Nat.le_refl _) (Nat.le_refl _) (by omega) ⟨0, rfl, by omega, s221, f228, (by intro T P j t0 y0; have k0 := t0.2.2.1.2; have l0 := t0.2.2.2.1; have n0 := t0.2.2.2.1; obtain ⟨x_1j, x_1a, x_1l, x_1n, x_1m, x_1r⟩ := u157 T P j t0 y0; have k_2 := x_1a.2.2.1.2; have k_2l := x_1a.2.2.2.1; have k_3 := x_1a.2.2.1.2; have k_3l := x_1a.2.2.2.1; have a_4 : tPo T P (x_1j + 1) h211 := u214 T P x_1j x_1a (by omega); have a_4q := a_4.2.2.2.1; have c_5l : h211.2 p1 7 = h12.2 p1 7 := (zfC_a f215 (fun z9 => by unfold w_X6_pass at z9; first | (revert z9; decide) | omega)); have c_5e : tCd h211 p1 = tCd h12 p1 := (tCd_f (zfC_a f215 (fun z9 => by unfold w_X6_pass at z9; first | (revert z9; decide) | omega)) (fun i => (zfC_a f215 (fun z9 => by unfold w_X6_pass at z9; first | (revert z9; decide) | omega)))).trans rfl; have e_6 := (u222 T P (x_1j + 1) a_4 (by omega)).2 (by omega); exact ⟨fun z => absurd z (by omega), fun _ => ⟨(x_1j + 1), _, e_6.2, fun p9 s9 d9 => tRe_s (tRe_s (x_1r p9 s9 d9) (tM4_s (by omega))) (tM3_n rfl (by omega) rfl)⟩⟩)⟩
                      · exact absurd c216 (by omega)
                    · refine zj_iload (zdk ttX7_readSum 42 rfl rfl) rfl ?_
                      refine zj_bipush (zdk ttX7_readSum 43 rfl rfl) (by decide) ?_
                      refine zj_icmp_eq (t := 91) (zdk ttX7_readSum 44 rfl rfl) (by decide) (by omega) (by decide) (fun c230 => ?_) (fun c230 => ?_)
                      · refine zj_aload_n (zdk ttX7_readSum 47 rfl rfl) rfl (by decide) ?_
                        refine zj_getr (r := 103) (zdk ttX7_readSum 48 rfl rfl) zf_RX7_9 rfl (k_L107 s13) (rf_L107_0 s13) ?_
                        refine zj_callV (av := []) (st := []) (zdk ttX7_readSum 49 rfl rfl) mb_X6_pass mv_RX7_47 (ci := 6) rfl rfl (k_L103 s13) rfl rfl (Nat.le_of_ble_eq_true rfl) (s2_X6_pass l h12 s13) (rm_ok (by decide) (by decide)) (zq_v fun h233 q231 => ?_)
                        obtain ⟨s235, f237, u236⟩ := q231
                        refine zj_aload_n (zdk ttX7_readSum 50 rfl rfl) rfl (by decide) ?_
                        refine zj_aload_n (zdk ttX7_readSum 51 rfl rfl) rfl (by omega) ?_
                        refine zj_iload (zdk ttX7_readSum 52 rfl rfl) rfl ?_
                        refine zj_bipush (zdk ttX7_readSum 53 rfl rfl) (by decide) ?_
                        refine zj_icmp_ne (t := 111) (zdk ttX7_readSum 54 rfl rfl) (by decide) (by omega) (by decide) (fun c238 => ?_) (fun c238 => ?_)
                        · refine zj_iconst (zdk ttX7_readSum 57 rfl rfl) ?_
                          refine zj_callV (av := [.inr p1, .inl 0]) (st := []) (zdk ttX7_readSum 58 rfl rfl) mb_X7_readOperand mv_RX7_84 (ci := 7) rfl rfl (k_L107 s235) rfl rfl (Nat.le_of_ble_eq_true rfl) (s2_X7_readOperand l h233 p1 0 s235 r_p1 (by omega)) (rm_ok (by decide) (by decide)) (zq_i fun v240 h241 q239 => ?_)
                          obtain ⟨b242, s243, f245, u244⟩ := q239
                          refine zj_if_ne (t := 120) (zdk ttX7_readSum 59 rfl rfl) (by decide) (by omega) (fun c246 => ?_) (fun c246 => ?_)
                          · refine zj_iload (zdk ttX7_readSum 62 rfl rfl) rfl ?_
                            refine zj_if_eq (t := 138) (zdk ttX7_readSum 63 rfl rfl) (by decide) (by decide) (fun c247 => ?_) (fun c247 => ?_)
                            · refine zj_iload (zdk ttX7_readSum 70 rfl rfl) rfl ?_
                              refine zj_istore_n (L' := [some (.inr 107), some (.inr p1), some (.inl (h12.2 103 6)), some (.inl x11), some (.inl (h12.2 103 6)), some (.inl 0)]) (zdk ttX7_readSum 71 rfl rfl) (by decide) rfl ?_
                              refine zj_iinc (L' := [some (.inr 107), some (.inr p1), some (.inl (h12.2 103 6)), some (.inl (x11 + 1)), some (.inl (h12.2 103 6)), some (.inl 0)]) (zdk ttX7_readSum 72 rfl rfl) rfl (by decide) rfl ?_
                              refine zj_goto (t := 15) (zdk ttX7_readSum 73 rfl rfl) (by decide) ?_
                              refine zj_kill (k := 4) (L' := [some (.inr 107), some (.inr p1), some (.inl (h12.2 103 6)), some (.inl (x11 + 1)), none, some (.inl 0)]) rfl ?_
                              refine zj_kill (k := 5) (L' := [some (.inr 107), some (.inr p1), some (.inl (h12.2 103 6)), some (.inl (x11 + 1)), none, none]) rfl ?_
                              have f249 : zfC (w_X7_readSum p1) h h233 := zfC_t f14 f237 (fun a9 b9 z9 => by
                                exact (Or.inl (by omega)))
                              have f248 : zfC (w_X7_readSum p1) h h241 := zfC_t f249 f245 (fun a9 b9 z9 => by
                                rcases z9 with z9 | z9 | z9
                                · exact (Or.inl z9)
                                · exact (Or.inr (Or.inl (by omega)))
                                · exact (Or.inr (Or.inr (by omega))))
                              exact ih159  (h12.2 103 6) (x11 + 1) h241 (by omega) (by omega) s243 f248 (by intro T P j t0 y0; have k0 := t0.2.2.1.2; have l0 := t0.2.2.2.1; have n0 := t0.2.2.2.1; obtain ⟨x_1j, x_1a, x_1l, x_1n, x_1m, x_1r⟩ := u157 T P j t0 y0; have k_2 := x_1a.2.2.1.2; have k_2l := x_1a.2.2.2.1; have k_3 := x_1a.2.2.1.2; have k_3l := x_1a.2.2.2.1; have a_4 : tPo T P (x_1j + 1) h233 := u236 T P x_1j x_1a (by omega); have a_4q := a_4.2.2.2.1; have c_5l : h233.2 p1 7 = h12.2 p1 7 := (zfC_a f237 (fun z9 => by unfold w_X6_pass at z9; first | (revert z9; decide) | omega)); have c_5e : tCd h233 p1 = tCd h12 p1 := (tCd_f (zfC_a f237 (fun z9 => by unfold w_X6_pass at z9; first | (revert z9; decide) | omega)) (fun i => (zfC_a f237 (fun z9 => by unfold w_X6_pass at z9; first | (revert z9; decide) | omega)))).trans rfl; have r_6 := (u244 T P (x_1j + 1) a_4 (by omega)).1 (by omega); have r_6q := r_6.2.1.2.2.2.1; have c_7l := r_6.2.2.2; have c_7e : tCd h241 p1 = tOp 0 (T (x_1j + 1)) :: tCd h12 p1 := r_6.2.2.1.trans (congrArg _ (c_5e : tCd h233 p1 = tCd h12 p1)); exact ⟨((x_1j + 1) + 1), r_6.2.1, by omega, fun z => by omega, fun z => by omega, fun p9 s9 d9 => tRe_k (tRe_s (tRe_k (tRe_s (x_1r p9 s9 d9) (tM4_s (by omega))) (tWt_z (by omega) _)) (by rw [show (h12.2 103 6) = T x_1j by omega]; exact tM3_y rfl r_6.1)) c_7e.symm⟩) (by omega)
                            · exact absurd c247 (by omega)
                          · refine zj_iconst (zdk ttX7_readSum 60 rfl rfl) ?_
                            have f251 : zfC (w_X7_readSum p1) h h233 := zfC_t f14 f237 (fun a9 b9 z9 => by
                              exact (Or.inl (by omega)))
                            have f250 : zfC (w_X7_readSum p1) h h241 := zfC_t f251 f245 (fun a9 b9 z9 => by
                              rcases z9 with z9 | z9 | z9
                              · exact (Or.inl z9)
                              · exact (Or.inr (Or.inl (by omega)))
                              · exact (Or.inr (Or.inr (by omega))))
                            exact zj_zret rfl (zdk ttX7_readSum 61 rfl rfl) (Nat.le_refl _) (Nat.le_refl _) (by omega) ⟨0, rfl, by omega, s243, f250, (by intro T P j t0 y0; have k0 := t0.2.2.1.2; have l0 := t0.2.2.2.1; have n0 := t0.2.2.2.1; obtain ⟨x_1j, x_1a, x_1l, x_1n, x_1m, x_1r⟩ := u157 T P j t0 y0; have k_2 := x_1a.2.2.1.2; have k_2l := x_1a.2.2.2.1; have k_3 := x_1a.2.2.1.2; have k_3l := x_1a.2.2.2.1; have a_4 : tPo T P (x_1j + 1) h233 := u236 T P x_1j x_1a (by omega); have a_4q := a_4.2.2.2.1; have c_5l : h233.2 p1 7 = h12.2 p1 7 := (zfC_a f237 (fun z9 => by unfold w_X6_pass at z9; first | (revert z9; decide) | omega)); have c_5e : tCd h233 p1 = tCd h12 p1 := (tCd_f (zfC_a f237 (fun z9 => by unfold w_X6_pass at z9; first | (revert z9; decide) | omega)) (fun i => (zfC_a f237 (fun z9 => by unfold w_X6_pass at z9; first | (revert z9; decide) | omega)))).trans rfl; have e_6 := (u244 T P (x_1j + 1) a_4 (by omega)).2 (by omega); exact ⟨fun z => absurd z (by omega), fun _ => ⟨(x_1j + 1), _, e_6.2, fun p9 s9 d9 => tRe_s (tRe_s (x_1r p9 s9 d9) (tM4_s (by omega))) (tM3_n rfl (by omega) rfl)⟩⟩)⟩
                        · exact absurd c238 (by omega)
                      · refine zj_iconst (zdk ttX7_readSum 45 rfl rfl) ?_
                        exact zj_zret rfl (zdk ttX7_readSum 46 rfl rfl) (Nat.le_refl _) (Nat.le_refl _) (by omega) ⟨1, rfl, by omega, s13, f14, (by intro T P j t0 y0; have k0 := t0.2.2.1.2; have l0 := t0.2.2.2.1; have n0 := t0.2.2.2.1; obtain ⟨x_1j, x_1a, x_1l, x_1n, x_1m, x_1r⟩ := u157 T P j t0 y0; have k_2 := x_1a.2.2.1.2; have k_2l := x_1a.2.2.2.1; exact ⟨fun _ => ⟨x_1j, x_1a, by omega, by omega, fun p9 s9 d9 => tRe_k (tRe_k (tRe_s (x_1r p9 s9 d9) (tM4_e (by omega) (by omega))) (tWt_z (by omega) _)) rfl.symm⟩, fun z => absurd z (by omega)⟩)⟩
                · refine zj_aload_n (zdk ttX7_readSum 32 rfl rfl) rfl (by omega) ?_
                  refine zj_sipush (zdk ttX7_readSum 33 rfl rfl) (by decide) ?_
                  refine zj_iload_n (zdk ttX7_readSum 34 rfl rfl) rfl ?_
                  refine zj_iadd (zdk ttX7_readSum 35 rfl rfl) ?_
                  refine zj_callV (av := [.inl (20000 + x10)]) (st := []) (zdk ttX7_readSum 36 rfl rfl) mb_X3_put mv_RX7_77 (ci := 3) rfl rfl (k_3_0 s13 r_p1) rfl rfl (Nat.le_of_ble_eq_true rfl) (s2_X3_put l h12 p1 (20000 + x10) s13 r_p1 (by omega)) (rm_ok (by decide) (by decide)) (zq_v fun h254 q252 => ?_)
                  obtain ⟨s256, f258, u257⟩ := q252
                  refine zj_iload (zdk ttX7_readSum 37 rfl rfl) rfl ?_
                  refine zj_if_ne (t := 91) (zdk ttX7_readSum 38 rfl rfl) (by decide) (by decide) (fun c259 => ?_) (fun c259 => ?_)
                  · exact absurd c259 (by omega)
                  · refine zj_iload (zdk ttX7_readSum 39 rfl rfl) rfl ?_
                    refine zj_bipush (zdk ttX7_readSum 40 rfl rfl) (by decide) ?_
                    refine zj_icmp_eq (t := 91) (zdk ttX7_readSum 41 rfl rfl) (by decide) (by omega) (by decide) (fun c260 => ?_) (fun c260 => ?_)
                    · refine zj_aload_n (zdk ttX7_readSum 47 rfl rfl) rfl (by decide) ?_
                      refine zj_getr (r := 103) (zdk ttX7_readSum 48 rfl rfl) zf_RX7_9 rfl (k_L107 s256) (rf_L107_0 s256) ?_
                      refine zj_callV (av := []) (st := []) (zdk ttX7_readSum 49 rfl rfl) mb_X6_pass mv_RX7_47 (ci := 6) rfl rfl (k_L103 s256) rfl rfl (Nat.le_of_ble_eq_true rfl) (s2_X6_pass l h254 s256) (rm_ok (by decide) (by decide)) (zq_v fun h263 q261 => ?_)
                      obtain ⟨s265, f267, u266⟩ := q261
                      refine zj_aload_n (zdk ttX7_readSum 50 rfl rfl) rfl (by decide) ?_
                      refine zj_aload_n (zdk ttX7_readSum 51 rfl rfl) rfl (by omega) ?_
                      refine zj_iload (zdk ttX7_readSum 52 rfl rfl) rfl ?_
                      refine zj_bipush (zdk ttX7_readSum 53 rfl rfl) (by decide) ?_
                      refine zj_icmp_ne (t := 111) (zdk ttX7_readSum 54 rfl rfl) (by decide) (by omega) (by decide) (fun c268 => ?_) (fun c268 => ?_)
                      · refine zj_iconst (zdk ttX7_readSum 57 rfl rfl) ?_
                        refine zj_callV (av := [.inr p1, .inl 0]) (st := []) (zdk ttX7_readSum 58 rfl rfl) mb_X7_readOperand mv_RX7_84 (ci := 7) rfl rfl (k_L107 s265) rfl rfl (Nat.le_of_ble_eq_true rfl) (s2_X7_readOperand l h263 p1 0 s265 r_p1 (by omega)) (rm_ok (by decide) (by decide)) (zq_i fun v270 h271 q269 => ?_)
                        obtain ⟨b272, s273, f275, u274⟩ := q269
                        refine zj_if_ne (t := 120) (zdk ttX7_readSum 59 rfl rfl) (by decide) (by omega) (fun c276 => ?_) (fun c276 => ?_)
                        · refine zj_iload (zdk ttX7_readSum 62 rfl rfl) rfl ?_
                          refine zj_if_eq (t := 138) (zdk ttX7_readSum 63 rfl rfl) (by decide) (by decide) (fun c277 => ?_) (fun c277 => ?_)
                          · refine zj_iload (zdk ttX7_readSum 70 rfl rfl) rfl ?_
                            refine zj_istore_n (L' := [some (.inr 107), some (.inr p1), some (.inl (h12.2 103 6)), some (.inl x11), some (.inl (h12.2 103 6)), some (.inl 0)]) (zdk ttX7_readSum 71 rfl rfl) (by decide) rfl ?_
                            refine zj_iinc (L' := [some (.inr 107), some (.inr p1), some (.inl (h12.2 103 6)), some (.inl (x11 + 1)), some (.inl (h12.2 103 6)), some (.inl 0)]) (zdk ttX7_readSum 72 rfl rfl) rfl (by decide) rfl ?_
                            refine zj_goto (t := 15) (zdk ttX7_readSum 73 rfl rfl) (by decide) ?_
                            refine zj_kill (k := 4) (L' := [some (.inr 107), some (.inr p1), some (.inl (h12.2 103 6)), some (.inl (x11 + 1)), none, some (.inl 0)]) rfl ?_
                            refine zj_kill (k := 5) (L' := [some (.inr 107), some (.inr p1), some (.inl (h12.2 103 6)), some (.inl (x11 + 1)), none, none]) rfl ?_
                            have f280 : zfC (w_X7_readSum p1) h h254 := zfC_t f14 f258 (fun a9 b9 z9 => by
                              rcases z9 with z9 | z9
                              · exact (Or.inr (Or.inl (by omega)))
                              · exact (Or.inr (Or.inr (by omega))))
                            have f279 : zfC (w_X7_readSum p1) h h263 := zfC_t f280 f267 (fun a9 b9 z9 => by
                              exact (Or.inl (by omega)))
                            have f278 : zfC (w_X7_readSum p1) h h271 := zfC_t f279 f275 (fun a9 b9 z9 => by
                              rcases z9 with z9 | z9 | z9
                              · exact (Or.inl z9)
                              · exact (Or.inr (Or.inl (by omega)))
                              · exact (Or.inr (Or.inr (by omega))))
                            have b281 : h254.2 103 6 = (h12.2 103 6) := (zfC_a f258 (fun z9 => by unfold w_X3_put at z9; first | (revert z9; decide) | omega))
                            exact ih159  (h12.2 103 6) (x11 + 1) h271 (by omega) (by omega) s273 f278 (by intro T P j t0 y0; have k0 := t0.2.2.1.2; have l0 := t0.2.2.2.1; have n0 := t0.2.2.2.1; obtain ⟨x_1j, x_1a, x_1l, x_1n, x_1m, x_1r⟩ := u157 T P j t0 y0; have k_2 := x_1a.2.2.1.2; have k_2l := x_1a.2.2.2.1; have a_3 : tPo T P x_1j h254 := tPo_f x_1a (fun i => (zfC_a f258 (fun z9 => by unfold w_X3_put at z9; first | (revert z9; decide) | omega))) (fun i => (zfC_a f258 (fun z9 => by unfold w_X3_put at z9; first | (revert z9; decide) | omega))) (zfC_a f258 (fun z9 => by unfold w_X3_put at z9; first | (revert z9; decide) | omega)) (zfC_a f258 (fun z9 => by unfold w_X3_put at z9; first | (revert z9; decide) | omega)) (zfC_a f258 (fun z9 => by unfold w_X3_put at z9; first | (revert z9; decide) | omega)) (zfC_a f258 (fun z9 => by unfold w_X3_put at z9; first | (revert z9; decide) | omega)) (zfC_a f258 (fun z9 => by unfold w_X3_put at z9; first | (revert z9; decide) | omega)); have k_4 := a_3.2.2.1.2; have k_4l := a_3.2.2.2.1; have a_5 : tPo T P (x_1j + 1) h263 := u266 T P x_1j a_3 (by omega); have a_5q := a_5.2.2.2.1; have c_6 := u257 (by omega); have c_6l := c_6.2; have c_6e : tCd h254 p1 = (20000 + x10) :: tCd h12 p1 := c_6.1.trans (congrArg _ (rfl : tCd h12 p1 = tCd h12 p1)); have c_7l : h263.2 p1 7 = h254.2 p1 7 := (zfC_a f267 (fun z9 => by unfold w_X6_pass at z9; first | (revert z9; decide) | omega)); have c_7e : tCd h263 p1 = ((20000 + x10) :: tCd h12 p1) := (tCd_f (zfC_a f267 (fun z9 => by unfold w_X6_pass at z9; first | (revert z9; decide) | omega)) (fun i => (zfC_a f267 (fun z9 => by unfold w_X6_pass at z9; first | (revert z9; decide) | omega)))).trans c_6e; have r_8 := (u274 T P (x_1j + 1) a_5 (by omega)).1 (by omega); have r_8q := r_8.2.1.2.2.2.1; have c_9l := r_8.2.2.2; have c_9e : tCd h271 p1 = tOp 0 (T (x_1j + 1)) :: ((20000 + x10) :: tCd h12 p1) := r_8.2.2.1.trans (congrArg _ (c_7e : tCd h263 p1 = ((20000 + x10) :: tCd h12 p1))); exact ⟨((x_1j + 1) + 1), r_8.2.1, by omega, fun z => by omega, fun z => by omega, fun p9 s9 d9 => tRe_k (tRe_s (tRe_k (tRe_s (x_1r p9 s9 d9) (tM4_s (by omega))) (tWt_n (by omega) _)) (by rw [show (h12.2 103 6) = T x_1j by omega]; exact tM3_y rfl r_8.1)) c_9e.symm⟩) (by omega)
                          · exact absurd c277 (by omega)
                        · refine zj_iconst (zdk ttX7_readSum 60 rfl rfl) ?_
                          have f284 : zfC (w_X7_readSum p1) h h254 := zfC_t f14 f258 (fun a9 b9 z9 => by
                            rcases z9 with z9 | z9
                            · exact (Or.inr (Or.inl (by omega)))
                            · exact (Or.inr (Or.inr (by omega))))
                          have f283 : zfC (w_X7_readSum p1) h h263 := zfC_t f284 f267 (fun a9 b9 z9 => by
                            exact (Or.inl (by omega)))
                          have f282 : zfC (w_X7_readSum p1) h h271 := zfC_t f283 f275 (fun a9 b9 z9 => by
                            rcases z9 with z9 | z9 | z9
                            · exact (Or.inl z9)
                            · exact (Or.inr (Or.inl (by omega)))
                            · exact (Or.inr (Or.inr (by omega))))
                          have b285 : h254.2 103 6 = (h12.2 103 6) := (zfC_a f258 (fun z9 => by unfold w_X3_put at z9; first | (revert z9; decide) | omega))
                          exact zj_zret rfl (zdk ttX7_readSum 61 rfl rfl) (Nat.le_refl _) (Nat.le_refl _) (by omega) ⟨0, rfl, by omega, s273, f282, (by intro T P j t0 y0; have k0 := t0.2.2.1.2; have l0 := t0.2.2.2.1; have n0 := t0.2.2.2.1; obtain ⟨x_1j, x_1a, x_1l, x_1n, x_1m, x_1r⟩ := u157 T P j t0 y0; have k_2 := x_1a.2.2.1.2; have k_2l := x_1a.2.2.2.1; have a_3 : tPo T P x_1j h254 := tPo_f x_1a (fun i => (zfC_a f258 (fun z9 => by unfold w_X3_put at z9; first | (revert z9; decide) | omega))) (fun i => (zfC_a f258 (fun z9 => by unfold w_X3_put at z9; first | (revert z9; decide) | omega))) (zfC_a f258 (fun z9 => by unfold w_X3_put at z9; first | (revert z9; decide) | omega)) (zfC_a f258 (fun z9 => by unfold w_X3_put at z9; first | (revert z9; decide) | omega)) (zfC_a f258 (fun z9 => by unfold w_X3_put at z9; first | (revert z9; decide) | omega)) (zfC_a f258 (fun z9 => by unfold w_X3_put at z9; first | (revert z9; decide) | omega)) (zfC_a f258 (fun z9 => by unfold w_X3_put at z9; first | (revert z9; decide) | omega)); have k_4 := a_3.2.2.1.2; have k_4l := a_3.2.2.2.1; have a_5 : tPo T P (x_1j + 1) h263 := u266 T P x_1j a_3 (by omega); have a_5q := a_5.2.2.2.1; have c_6 := u257 (by omega); have c_6l := c_6.2; have c_6e : tCd h254 p1 = (20000 + x10) :: tCd h12 p1 := c_6.1.trans (congrArg _ (rfl : tCd h12 p1 = tCd h12 p1)); have c_7l : h263.2 p1 7 = h254.2 p1 7 := (zfC_a f267 (fun z9 => by unfold w_X6_pass at z9; first | (revert z9; decide) | omega)); have c_7e : tCd h263 p1 = ((20000 + x10) :: tCd h12 p1) := (tCd_f (zfC_a f267 (fun z9 => by unfold w_X6_pass at z9; first | (revert z9; decide) | omega)) (fun i => (zfC_a f267 (fun z9 => by unfold w_X6_pass at z9; first | (revert z9; decide) | omega)))).trans c_6e; have e_8 := (u274 T P (x_1j + 1) a_5 (by omega)).2 (by omega); exact ⟨fun z => absurd z (by omega), fun _ => ⟨(x_1j + 1), _, e_8.2, fun p9 s9 d9 => tRe_s (tRe_s (x_1r p9 s9 d9) (tM4_s (by omega))) (tM3_n rfl (by omega) rfl)⟩⟩)⟩
                      · exact absurd c268 (by omega)
                    · refine zj_iload (zdk ttX7_readSum 42 rfl rfl) rfl ?_
                      refine zj_bipush (zdk ttX7_readSum 43 rfl rfl) (by decide) ?_
                      refine zj_icmp_eq (t := 91) (zdk ttX7_readSum 44 rfl rfl) (by decide) (by omega) (by decide) (fun c286 => ?_) (fun c286 => ?_)
                      · refine zj_aload_n (zdk ttX7_readSum 47 rfl rfl) rfl (by decide) ?_
                        refine zj_getr (r := 103) (zdk ttX7_readSum 48 rfl rfl) zf_RX7_9 rfl (k_L107 s256) (rf_L107_0 s256) ?_
                        refine zj_callV (av := []) (st := []) (zdk ttX7_readSum 49 rfl rfl) mb_X6_pass mv_RX7_47 (ci := 6) rfl rfl (k_L103 s256) rfl rfl (Nat.le_of_ble_eq_true rfl) (s2_X6_pass l h254 s256) (rm_ok (by decide) (by decide)) (zq_v fun h289 q287 => ?_)
                        obtain ⟨s291, f293, u292⟩ := q287
                        refine zj_aload_n (zdk ttX7_readSum 50 rfl rfl) rfl (by decide) ?_
                        refine zj_aload_n (zdk ttX7_readSum 51 rfl rfl) rfl (by omega) ?_
                        refine zj_iload (zdk ttX7_readSum 52 rfl rfl) rfl ?_
                        refine zj_bipush (zdk ttX7_readSum 53 rfl rfl) (by decide) ?_
                        refine zj_icmp_ne (t := 111) (zdk ttX7_readSum 54 rfl rfl) (by decide) (by omega) (by decide) (fun c294 => ?_) (fun c294 => ?_)
                        · refine zj_iconst (zdk ttX7_readSum 57 rfl rfl) ?_
                          refine zj_callV (av := [.inr p1, .inl 0]) (st := []) (zdk ttX7_readSum 58 rfl rfl) mb_X7_readOperand mv_RX7_84 (ci := 7) rfl rfl (k_L107 s291) rfl rfl (Nat.le_of_ble_eq_true rfl) (s2_X7_readOperand l h289 p1 0 s291 r_p1 (by omega)) (rm_ok (by decide) (by decide)) (zq_i fun v296 h297 q295 => ?_)
                          obtain ⟨b298, s299, f301, u300⟩ := q295
                          refine zj_if_ne (t := 120) (zdk ttX7_readSum 59 rfl rfl) (by decide) (by omega) (fun c302 => ?_) (fun c302 => ?_)
                          · refine zj_iload (zdk ttX7_readSum 62 rfl rfl) rfl ?_
                            refine zj_if_eq (t := 138) (zdk ttX7_readSum 63 rfl rfl) (by decide) (by decide) (fun c303 => ?_) (fun c303 => ?_)
                            · refine zj_iload (zdk ttX7_readSum 70 rfl rfl) rfl ?_
                              refine zj_istore_n (L' := [some (.inr 107), some (.inr p1), some (.inl (h12.2 103 6)), some (.inl x11), some (.inl (h12.2 103 6)), some (.inl 0)]) (zdk ttX7_readSum 71 rfl rfl) (by decide) rfl ?_
                              refine zj_iinc (L' := [some (.inr 107), some (.inr p1), some (.inl (h12.2 103 6)), some (.inl (x11 + 1)), some (.inl (h12.2 103 6)), some (.inl 0)]) (zdk ttX7_readSum 72 rfl rfl) rfl (by decide) rfl ?_
                              refine zj_goto (t := 15) (zdk ttX7_readSum 73 rfl rfl) (by decide) ?_
                              refine zj_kill (k := 4) (L' := [some (.inr 107), some (.inr p1), some (.inl (h12.2 103 6)), some (.inl (x11 + 1)), none, some (.inl 0)]) rfl ?_
                              refine zj_kill (k := 5) (L' := [some (.inr 107), some (.inr p1), some (.inl (h12.2 103 6)), some (.inl (x11 + 1)), none, none]) rfl ?_
                              have f306 : zfC (w_X7_readSum p1) h h254 := zfC_t f14 f258 (fun a9 b9 z9 => by
                                rcases z9 with z9 | z9
                                · exact (Or.inr (Or.inl (by omega)))
                                · exact (Or.inr (Or.inr (by omega))))
                              have f305 : zfC (w_X7_readSum p1) h h289 := zfC_t f306 f293 (fun a9 b9 z9 => by
                                exact (Or.inl (by omega)))
                              have f304 : zfC (w_X7_readSum p1) h h297 := zfC_t f305 f301 (fun a9 b9 z9 => by
                                rcases z9 with z9 | z9 | z9
                                · exact (Or.inl z9)
                                · exact (Or.inr (Or.inl (by omega)))
                                · exact (Or.inr (Or.inr (by omega))))
                              have b307 : h254.2 103 6 = (h12.2 103 6) := (zfC_a f258 (fun z9 => by unfold w_X3_put at z9; first | (revert z9; decide) | omega))
                              exact ih159  (h12.2 103 6) (x11 + 1) h297 (by omega) (by omega) s299 f304 (by intro T P j t0 y0; have k0 := t0.2.2.1.2; have l0 := t0.2.2.2.1; have n0 := t0.2.2.2.1; obtain ⟨x_1j, x_1a, x_1l, x_1n, x_1m, x_1r⟩ := u157 T P j t0 y0; have k_2 := x_1a.2.2.1.2; have k_2l := x_1a.2.2.2.1; have a_3 : tPo T P x_1j h254 := tPo_f x_1a (fun i => (zfC_a f258 (fun z9 => by unfold w_X3_put at z9; first | (revert z9; decide) | omega))) (fun i => (zfC_a f258 (fun z9 => by unfold w_X3_put at z9; first | (revert z9; decide) | omega))) (zfC_a f258 (fun z9 => by unfold w_X3_put at z9; first | (revert z9; decide) | omega)) (zfC_a f258 (fun z9 => by unfold w_X3_put at z9; first | (revert z9; decide) | omega)) (zfC_a f258 (fun z9 => by unfold w_X3_put at z9; first | (revert z9; decide) | omega)) (zfC_a f258 (fun z9 => by unfold w_X3_put at z9; first | (revert z9; decide) | omega)) (zfC_a f258 (fun z9 => by unfold w_X3_put at z9; first | (revert z9; decide) | omega)); have k_4 := a_3.2.2.1.2; have k_4l := a_3.2.2.2.1; have a_5 : tPo T P (x_1j + 1) h289 := u292 T P x_1j a_3 (by omega); have a_5q := a_5.2.2.2.1; have c_6 := u257 (by omega); have c_6l := c_6.2; have c_6e : tCd h254 p1 = (20000 + x10) :: tCd h12 p1 := c_6.1.trans (congrArg _ (rfl : tCd h12 p1 = tCd h12 p1)); have c_7l : h289.2 p1 7 = h254.2 p1 7 := (zfC_a f293 (fun z9 => by unfold w_X6_pass at z9; first | (revert z9; decide) | omega)); have c_7e : tCd h289 p1 = ((20000 + x10) :: tCd h12 p1) := (tCd_f (zfC_a f293 (fun z9 => by unfold w_X6_pass at z9; first | (revert z9; decide) | omega)) (fun i => (zfC_a f293 (fun z9 => by unfold w_X6_pass at z9; first | (revert z9; decide) | omega)))).trans c_6e; have r_8 := (u300 T P (x_1j + 1) a_5 (by omega)).1 (by omega); have r_8q := r_8.2.1.2.2.2.1; have c_9l := r_8.2.2.2; have c_9e : tCd h297 p1 = tOp 0 (T (x_1j + 1)) :: ((20000 + x10) :: tCd h12 p1) := r_8.2.2.1.trans (congrArg _ (c_7e : tCd h289 p1 = ((20000 + x10) :: tCd h12 p1))); exact ⟨((x_1j + 1) + 1), r_8.2.1, by omega, fun z => by omega, fun z => by omega, fun p9 s9 d9 => tRe_k (tRe_s (tRe_k (tRe_s (x_1r p9 s9 d9) (tM4_s (by omega))) (tWt_n (by omega) _)) (by rw [show (h12.2 103 6) = T x_1j by omega]; exact tM3_y rfl r_8.1)) c_9e.symm⟩) (by omega)
                            · exact absurd c303 (by omega)
                          · refine zj_iconst (zdk ttX7_readSum 60 rfl rfl) ?_
                            have f310 : zfC (w_X7_readSum p1) h h254 := zfC_t f14 f258 (fun a9 b9 z9 => by
                              rcases z9 with z9 | z9
                              · exact (Or.inr (Or.inl (by omega)))
                              · exact (Or.inr (Or.inr (by omega))))
                            have f309 : zfC (w_X7_readSum p1) h h289 := zfC_t f310 f293 (fun a9 b9 z9 => by
                              exact (Or.inl (by omega)))
                            have f308 : zfC (w_X7_readSum p1) h h297 := zfC_t f309 f301 (fun a9 b9 z9 => by
                              rcases z9 with z9 | z9 | z9
                              · exact (Or.inl z9)
                              · exact (Or.inr (Or.inl (by omega)))
                              · exact (Or.inr (Or.inr (by omega))))
                            have b311 : h254.2 103 6 = (h12.2 103 6) := (zfC_a f258 (fun z9 => by unfold w_X3_put at z9; first | (revert z9; decide) | omega))
                            exact zj_zret rfl (zdk ttX7_readSum 61 rfl rfl) (Nat.le_refl _) (Nat.le_refl _) (by omega) ⟨0, rfl, by omega, s299, f308, (by intro T P j t0 y0; have k0 := t0.2.2.1.2; have l0 := t0.2.2.2.1; have n0 := t0.2.2.2.1; obtain ⟨x_1j, x_1a, x_1l, x_1n, x_1m, x_1r⟩ := u157 T P j t0 y0; have k_2 := x_1a.2.2.1.2; have k_2l := x_1a.2.2.2.1; have a_3 : tPo T P x_1j h254 := tPo_f x_1a (fun i => (zfC_a f258 (fun z9 => by unfold w_X3_put at z9; first | (revert z9; decide) | omega))) (fun i => (zfC_a f258 (fun z9 => by unfold w_X3_put at z9; first | (revert z9; decide) | omega))) (zfC_a f258 (fun z9 => by unfold w_X3_put at z9; first | (revert z9; decide) | omega)) (zfC_a f258 (fun z9 => by unfold w_X3_put at z9; first | (revert z9; decide) | omega)) (zfC_a f258 (fun z9 => by unfold w_X3_put at z9; first | (revert z9; decide) | omega)) (zfC_a f258 (fun z9 => by unfold w_X3_put at z9; first | (revert z9; decide) | omega)) (zfC_a f258 (fun z9 => by unfold w_X3_put at z9; first | (revert z9; decide) | omega)); have k_4 := a_3.2.2.1.2; have k_4l := a_3.2.2.2.1; have a_5 : tPo T P (x_1j + 1) h289 := u292 T P x_1j a_3 (by omega); have a_5q := a_5.2.2.2.1; have c_6 := u257 (by omega); have c_6l := c_6.2; have c_6e : tCd h254 p1 = (20000 + x10) :: tCd h12 p1 := c_6.1.trans (congrArg _ (rfl : tCd h12 p1 = tCd h12 p1)); have c_7l : h289.2 p1 7 = h254.2 p1 7 := (zfC_a f293 (fun z9 => by unfold w_X6_pass at z9; first | (revert z9; decide) | omega)); have c_7e : tCd h289 p1 = ((20000 + x10) :: tCd h12 p1) := (tCd_f (zfC_a f293 (fun z9 => by unfold w_X6_pass at z9; first | (revert z9; decide) | omega)) (fun i => (zfC_a f293 (fun z9 => by unfold w_X6_pass at z9; first | (revert z9; decide) | omega)))).trans c_6e; have e_8 := (u300 T P (x_1j + 1) a_5 (by omega)).2 (by omega); exact ⟨fun z => absurd z (by omega), fun _ => ⟨(x_1j + 1), _, e_8.2, fun p9 s9 d9 => tRe_s (tRe_s (x_1r p9 s9 d9) (tM4_s (by omega))) (tM3_n rfl (by omega) rfl)⟩⟩)⟩
                        · exact absurd c294 (by omega)
                      · refine zj_iconst (zdk ttX7_readSum 45 rfl rfl) ?_
                        have f312 : zfC (w_X7_readSum p1) h h254 := zfC_t f14 f258 (fun a9 b9 z9 => by
                          rcases z9 with z9 | z9
                          · exact (Or.inr (Or.inl (by omega)))
                          · exact (Or.inr (Or.inr (by omega))))
                        have b313 : h254.2 103 6 = (h12.2 103 6) := (zfC_a f258 (fun z9 => by unfold w_X3_put at z9; first | (revert z9; decide) | omega))
                        exact zj_zret rfl (zdk ttX7_readSum 46 rfl rfl) (Nat.le_refl _) (Nat.le_refl _) (by omega) ⟨1, rfl, by omega, s256, f312, (by intro T P j t0 y0; have k0 := t0.2.2.1.2; have l0 := t0.2.2.2.1; have n0 := t0.2.2.2.1; obtain ⟨x_1j, x_1a, x_1l, x_1n, x_1m, x_1r⟩ := u157 T P j t0 y0; have k_2 := x_1a.2.2.1.2; have k_2l := x_1a.2.2.2.1; have a_3 : tPo T P x_1j h254 := tPo_f x_1a (fun i => (zfC_a f258 (fun z9 => by unfold w_X3_put at z9; first | (revert z9; decide) | omega))) (fun i => (zfC_a f258 (fun z9 => by unfold w_X3_put at z9; first | (revert z9; decide) | omega))) (zfC_a f258 (fun z9 => by unfold w_X3_put at z9; first | (revert z9; decide) | omega)) (zfC_a f258 (fun z9 => by unfold w_X3_put at z9; first | (revert z9; decide) | omega)) (zfC_a f258 (fun z9 => by unfold w_X3_put at z9; first | (revert z9; decide) | omega)) (zfC_a f258 (fun z9 => by unfold w_X3_put at z9; first | (revert z9; decide) | omega)) (zfC_a f258 (fun z9 => by unfold w_X3_put at z9; first | (revert z9; decide) | omega)); have c_4 := u257 (by omega); have c_4l := c_4.2; have c_4e : tCd h254 p1 = (20000 + x10) :: tCd h12 p1 := c_4.1.trans (congrArg _ (rfl : tCd h12 p1 = tCd h12 p1)); exact ⟨fun _ => ⟨x_1j, a_3, by omega, by omega, fun p9 s9 d9 => tRe_k (tRe_k (tRe_s (x_1r p9 s9 d9) (tM4_e (by omega) (by omega))) (tWt_n (by omega) _)) c_4e.symm⟩, fun z => absurd z (by omega)⟩)⟩
            · refine zj_iconst (zdk ttX7_readSum 24 rfl rfl) ?_
              refine zj_goto (t := 50) (zdk ttX7_readSum 25 rfl rfl) (by decide) ?_
              refine zj_istore (L' := [some (.inr 107), some (.inr p1), some (.inl x10), some (.inl x11), some (.inl (h12.2 103 6)), some (.inl 1)]) (zdk ttX7_readSum 27 rfl rfl) (by decide) rfl ?_
              refine zj_iload (zdk ttX7_readSum 28 rfl rfl) rfl ?_
              refine zj_if_ne (t := 70) (zdk ttX7_readSum 29 rfl rfl) (by decide) (by decide) (fun c314 => ?_) (fun c314 => ?_)
              · refine zj_iload (zdk ttX7_readSum 37 rfl rfl) rfl ?_
                refine zj_if_ne (t := 91) (zdk ttX7_readSum 38 rfl rfl) (by decide) (by decide) (fun c315 => ?_) (fun c315 => ?_)
                · refine zj_aload_n (zdk ttX7_readSum 47 rfl rfl) rfl (by decide) ?_
                  refine zj_getr (r := 103) (zdk ttX7_readSum 48 rfl rfl) zf_RX7_9 rfl (k_L107 s13) (rf_L107_0 s13) ?_
                  refine zj_callV (av := []) (st := []) (zdk ttX7_readSum 49 rfl rfl) mb_X6_pass mv_RX7_47 (ci := 6) rfl rfl (k_L103 s13) rfl rfl (Nat.le_of_ble_eq_true rfl) (s2_X6_pass l h12 s13) (rm_ok (by decide) (by decide)) (zq_v fun h318 q316 => ?_)
                  obtain ⟨s320, f322, u321⟩ := q316
                  refine zj_aload_n (zdk ttX7_readSum 50 rfl rfl) rfl (by decide) ?_
                  refine zj_aload_n (zdk ttX7_readSum 51 rfl rfl) rfl (by omega) ?_
                  refine zj_iload (zdk ttX7_readSum 52 rfl rfl) rfl ?_
                  refine zj_bipush (zdk ttX7_readSum 53 rfl rfl) (by decide) ?_
                  refine zj_icmp_ne (t := 111) (zdk ttX7_readSum 54 rfl rfl) (by decide) (by omega) (by decide) (fun c323 => ?_) (fun c323 => ?_)
                  · exact absurd c323 (by omega)
                  · refine zj_iconst (zdk ttX7_readSum 55 rfl rfl) ?_
                    refine zj_goto (t := 112) (zdk ttX7_readSum 56 rfl rfl) (by decide) ?_
                    refine zj_callV (av := [.inr p1, .inl 1]) (st := []) (zdk ttX7_readSum 58 rfl rfl) mb_X7_readOperand mv_RX7_84 (ci := 7) rfl rfl (k_L107 s320) rfl rfl (Nat.le_of_ble_eq_true rfl) (s2_X7_readOperand l h318 p1 1 s320 r_p1 (by omega)) (rm_ok (by decide) (by decide)) (zq_i fun v325 h326 q324 => ?_)
                    obtain ⟨b327, s328, f330, u329⟩ := q324
                    refine zj_if_ne (t := 120) (zdk ttX7_readSum 59 rfl rfl) (by decide) (by omega) (fun c331 => ?_) (fun c331 => ?_)
                    · refine zj_iload (zdk ttX7_readSum 62 rfl rfl) rfl ?_
                      refine zj_if_eq (t := 138) (zdk ttX7_readSum 63 rfl rfl) (by decide) (by decide) (fun c332 => ?_) (fun c332 => ?_)
                      · exact absurd c332 (by omega)
                      · refine zj_aload_n (zdk ttX7_readSum 64 rfl rfl) rfl (by omega) ?_
                        refine zj_sipush (zdk ttX7_readSum 65 rfl rfl) (by decide) ?_
                        refine zj_iload (zdk ttX7_readSum 66 rfl rfl) rfl ?_
                        refine zj_iadd (zdk ttX7_readSum 67 rfl rfl) ?_
                        refine zj_callV (av := [.inl (20000 + (h12.2 103 6))]) (st := []) (zdk ttX7_readSum 68 rfl rfl) mb_X3_put mv_RX7_77 (ci := 3) rfl rfl (k_3_0 s328 r_p1) rfl rfl (Nat.le_of_ble_eq_true rfl) (s2_X3_put l h326 p1 (20000 + (h12.2 103 6)) s328 r_p1 (by omega)) (rm_ok (by decide) (by decide)) (zq_v fun h335 q333 => ?_)
                        obtain ⟨s337, f339, u338⟩ := q333
                        refine zj_goto (t := 141) (zdk ttX7_readSum 69 rfl rfl) (by decide) ?_
                        refine zj_iinc (L' := [some (.inr 107), some (.inr p1), some (.inl x10), some (.inl (x11 + 1)), some (.inl (h12.2 103 6)), some (.inl 1)]) (zdk ttX7_readSum 72 rfl rfl) rfl (by decide) rfl ?_
                        refine zj_goto (t := 15) (zdk ttX7_readSum 73 rfl rfl) (by decide) ?_
                        refine zj_kill (k := 4) (L' := [some (.inr 107), some (.inr p1), some (.inl x10), some (.inl (x11 + 1)), none, some (.inl 1)]) rfl ?_
                        refine zj_kill (k := 5) (L' := [some (.inr 107), some (.inr p1), some (.inl x10), some (.inl (x11 + 1)), none, none]) rfl ?_
                        have f342 : zfC (w_X7_readSum p1) h h318 := zfC_t f14 f322 (fun a9 b9 z9 => by
                          exact (Or.inl (by omega)))
                        have f341 : zfC (w_X7_readSum p1) h h326 := zfC_t f342 f330 (fun a9 b9 z9 => by
                          rcases z9 with z9 | z9 | z9
                          · exact (Or.inl z9)
                          · exact (Or.inr (Or.inl (by omega)))
                          · exact (Or.inr (Or.inr (by omega))))
                        have f340 : zfC (w_X7_readSum p1) h h335 := zfC_t f341 f339 (fun a9 b9 z9 => by
                          rcases z9 with z9 | z9
                          · exact (Or.inr (Or.inl (by omega)))
                          · exact (Or.inr (Or.inr (by omega))))
                        have b343 : h335.2 103 6 = (h326.2 103 6) := (zfC_a f339 (fun z9 => by unfold w_X3_put at z9; first | (revert z9; decide) | omega))
                        exact ih159  x10 (x11 + 1) h335 (by omega) (by omega) s337 f340 (by intro T P j t0 y0; have k0 := t0.2.2.1.2; have l0 := t0.2.2.2.1; have n0 := t0.2.2.2.1; obtain ⟨x_1j, x_1a, x_1l, x_1n, x_1m, x_1r⟩ := u157 T P j t0 y0; have k_2 := x_1a.2.2.1.2; have k_2l := x_1a.2.2.2.1; have k_3 := x_1a.2.2.1.2; have k_3l := x_1a.2.2.2.1; have a_4 : tPo T P (x_1j + 1) h318 := u321 T P x_1j x_1a (by omega); have a_4q := a_4.2.2.2.1; have c_5l : h318.2 p1 7 = h12.2 p1 7 := (zfC_a f322 (fun z9 => by unfold w_X6_pass at z9; first | (revert z9; decide) | omega)); have c_5e : tCd h318 p1 = tCd h12 p1 := (tCd_f (zfC_a f322 (fun z9 => by unfold w_X6_pass at z9; first | (revert z9; decide) | omega)) (fun i => (zfC_a f322 (fun z9 => by unfold w_X6_pass at z9; first | (revert z9; decide) | omega)))).trans rfl; have r_6 := (u329 T P (x_1j + 1) a_4 (by omega)).1 (by omega); have r_6q := r_6.2.1.2.2.2.1; have a_7 : tPo T P ((x_1j + 1) + 1) h335 := tPo_f r_6.2.1 (fun i => (zfC_a f339 (fun z9 => by unfold w_X3_put at z9; first | (revert z9; decide) | omega))) (fun i => (zfC_a f339 (fun z9 => by unfold w_X3_put at z9; first | (revert z9; decide) | omega))) (zfC_a f339 (fun z9 => by unfold w_X3_put at z9; first | (revert z9; decide) | omega)) (zfC_a f339 (fun z9 => by unfold w_X3_put at z9; first | (revert z9; decide) | omega)) (zfC_a f339 (fun z9 => by unfold w_X3_put at z9; first | (revert z9; decide) | omega)) (zfC_a f339 (fun z9 => by unfold w_X3_put at z9; first | (revert z9; decide) | omega)) (zfC_a f339 (fun z9 => by unfold w_X3_put at z9; first | (revert z9; decide) | omega)); have c_8l := r_6.2.2.2; have c_8e : tCd h326 p1 = tOp 1 (T (x_1j + 1)) :: tCd h12 p1 := r_6.2.2.1.trans (congrArg _ (c_5e : tCd h318 p1 = tCd h12 p1)); have c_9 := u338 (by omega); have c_9l := c_9.2; have c_9e : tCd h335 p1 = (20000 + (h12.2 103 6)) :: (tOp 1 (T (x_1j + 1)) :: tCd h12 p1) := c_9.1.trans (congrArg _ (c_8e : tCd h326 p1 = (tOp 1 (T (x_1j + 1)) :: tCd h12 p1))); exact ⟨((x_1j + 1) + 1), a_7, by omega, fun z => by omega, fun z => by omega, fun p9 s9 d9 => tRe_k (tRe_s (x_1r p9 s9 d9) (by rw [show x_1j + 1 + 1 = x_1j + 2 by omega]; exact tM4_y (by omega) (by first | rw [show T x_1j - 42 = 0 by omega] | exact tOp_dv (by omega) (by omega)) r_6.1)) (by rw [c_9e]; congr 1; omega)⟩) (by omega)
                    · refine zj_iconst (zdk ttX7_readSum 60 rfl rfl) ?_
                      have f345 : zfC (w_X7_readSum p1) h h318 := zfC_t f14 f322 (fun a9 b9 z9 => by
                        exact (Or.inl (by omega)))
                      have f344 : zfC (w_X7_readSum p1) h h326 := zfC_t f345 f330 (fun a9 b9 z9 => by
                        rcases z9 with z9 | z9 | z9
                        · exact (Or.inl z9)
                        · exact (Or.inr (Or.inl (by omega)))
                        · exact (Or.inr (Or.inr (by omega))))
                      exact zj_zret rfl (zdk ttX7_readSum 61 rfl rfl) (Nat.le_refl _) (Nat.le_refl _) (by omega) ⟨0, rfl, by omega, s328, f344, (by intro T P j t0 y0; have k0 := t0.2.2.1.2; have l0 := t0.2.2.2.1; have n0 := t0.2.2.2.1; obtain ⟨x_1j, x_1a, x_1l, x_1n, x_1m, x_1r⟩ := u157 T P j t0 y0; have k_2 := x_1a.2.2.1.2; have k_2l := x_1a.2.2.2.1; have k_3 := x_1a.2.2.1.2; have k_3l := x_1a.2.2.2.1; have a_4 : tPo T P (x_1j + 1) h318 := u321 T P x_1j x_1a (by omega); have a_4q := a_4.2.2.2.1; have c_5l : h318.2 p1 7 = h12.2 p1 7 := (zfC_a f322 (fun z9 => by unfold w_X6_pass at z9; first | (revert z9; decide) | omega)); have c_5e : tCd h318 p1 = tCd h12 p1 := (tCd_f (zfC_a f322 (fun z9 => by unfold w_X6_pass at z9; first | (revert z9; decide) | omega)) (fun i => (zfC_a f322 (fun z9 => by unfold w_X6_pass at z9; first | (revert z9; decide) | omega)))).trans rfl; have e_6 := (u329 T P (x_1j + 1) a_4 (by omega)).2 (by omega); exact ⟨fun z => absurd z (by omega), fun _ => ⟨(x_1j + 1), _, e_6.2, fun p9 s9 d9 => tRe_s (x_1r p9 s9 d9) (tM4_n (by omega) (by first | rw [show T x_1j - 42 = 0 by omega] | exact tOp_dv (by omega) (by omega)) (by omega) rfl)⟩⟩)⟩
                · exact absurd c315 (by omega)
              · exact absurd c314 (by omega)
    have f346 : zfC (w_X7_readSum p1) h h4 := zfC_t (zfC_r _ _) f8 (fun a9 b9 z9 => by
      rcases z9 with z9 | z9 | z9
      · exact (Or.inl z9)
      · exact (Or.inr (Or.inl (by omega)))
      · exact (Or.inr (Or.inr (by omega))))
    exact lp154 _ 0 0 h4 (by omega) (by omega) s6 f346 (by intro T P j t0 y0; have k0 := t0.2.2.1.2; have l0 := t0.2.2.2.1; have n0 := t0.2.2.2.1; have r_1 := (u7 T P j t0 (by omega)).1 (by omega); have r_1q := r_1.2.1.2.2.2.1; have c_2l := r_1.2.2.2; have c_2e : tCd h4 p1 = tOp 0 (T j) :: tCd h p1 := r_1.2.2.1.trans (congrArg _ (rfl : tCd h p1 = tCd h p1)); exact ⟨(j + 1), r_1.2.1, by omega, fun _ => by omega, fun z => absurd rfl z, fun p9 s9 d9 => tRe_k (tRe_1 (tM3_y rfl r_1.1)) c_2e.symm⟩) (Nat.lt_succ_self _)
  · refine zj_iconst (zdk ttX7_readSum 5 rfl rfl) ?_
    have f347 : zfC (w_X7_readSum p1) h h4 := zfC_t (zfC_r _ _) f8 (fun a9 b9 z9 => by
      rcases z9 with z9 | z9 | z9
      · exact (Or.inl z9)
      · exact (Or.inr (Or.inl (by omega)))
      · exact (Or.inr (Or.inr (by omega))))
    exact zj_zret rfl (zdk ttX7_readSum 6 rfl rfl) (Nat.le_refl _) (Nat.le_refl _) (by omega) ⟨0, rfl, by omega, s6, f347, (by intro T P j t0 y0; have k0 := t0.2.2.1.2; have l0 := t0.2.2.2.1; have n0 := t0.2.2.2.1; have e_1 := (u7 T P j t0 y0).2 (by omega); exact ⟨fun z => absurd z (by omega), fun _ => ⟨j, _, e_1.2, fun p9 s9 d9 => tRe_1 (tM3_n rfl (by omega) rfl)⟩⟩)⟩

