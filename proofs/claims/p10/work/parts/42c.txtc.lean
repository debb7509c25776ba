abbrev q2_X6_pass (h : zM) : Option zV → zM → Prop := zqv fun h' => okC h' ∧ zfC w_X6_pass h h' ∧ (∀ T P j, tPo T P j h → ¬ T j = 0 → tPo T P (j + 1) h')
set_option maxRecDepth 100000 in
set_option maxHeartbeats 4000000 in
theorem s2_X6_pass (l : Launch) (h : zM) (s0 : okC h) : zT shC l yX6_pass cX6_pass 1 none (rmL 1) 0 0 [.inr 103] h (q2_X6_pass h) := by
  refine zT_of (by decide +kernel) (L0 := [some (.inr 103)]) rfl (Nat.le_of_ble_eq_true rfl) ?_
  refine zj_aload_n (zdk ttX6_pass 0 rfl rfl) rfl (by decide) ?_
  have b1 : 0 ≤ (h.2 103 5) ∧ (h.2 103 5) ≤ 400 := fb_L103_5 s0
  refine zj_geti (v := (h.2 103 5)) (zdk ttX6_pass 1 rfl rfl) zf_RX6_28 rfl (k_L103 s0) rfl ?_
  refine zj_iconst (zdk ttX6_pass 2 rfl rfl) ?_
  refine zj_iadd (zdk ttX6_pass 3 rfl rfl) ?_
  refine zj_aload_n (zdk ttX6_pass 4 rfl rfl) rfl (by decide) ?_
  have b2 : 0 ≤ (h.2 103 4) ∧ (h.2 103 4) ≤ 401 := fb_L103_4 s0
  refine zj_geti (v := (h.2 103 4)) (zdk ttX6_pass 5 rfl rfl) zf_RX6_25 rfl (k_L103 s0) rfl ?_
  refine zj_icmp_ge (t := 36) (zdk ttX6_pass 6 rfl rfl) (by decide) (by omega) (by omega) (fun c3 => ?_) (fun c3 => ?_)
  · exact zj_vret rfl (zdk ttX6_pass 20 rfl rfl) (Nat.le_refl _) (Nat.le_refl _) ⟨rfl, s0, (zfC_r _ _), (fun T P j t n => absurd (tPo_e t (by omega)) n)⟩
  · refine zj_aload_n (zdk ttX6_pass 7 rfl rfl) rfl (by decide) ?_
    refine zj_dup (zdk ttX6_pass 8 rfl rfl) ?_
    refine zj_geti (v := (h.2 103 5)) (zdk ttX6_pass 9 rfl rfl) zf_RX6_28 rfl (k_L103 s0) rfl ?_
    refine zj_iconst (zdk ttX6_pass 10 rfl rfl) ?_
    refine zj_iadd (zdk ttX6_pass 11 rfl rfl) ?_
    refine zj_puti (zdk ttX6_pass 12 rfl rfl) zf_RX6_28 rfl (k_L103 s0) (Or.inl zw_RX6_28) (k2 := 5) rfl (fun h4 e5 => ?_)
    refine zj_aload_n (zdk ttX6_pass 13 rfl rfl) rfl (by decide) ?_
    refine zj_aload_n (zdk ttX6_pass 14 rfl rfl) rfl (by decide) ?_
    have s6 : okC h4 := fw_L103_5 s0 e5 (by omega)
    refine zj_getr (r := 105) (zdk ttX6_pass 15 rfl rfl) zf_RX6_15 rfl (k_L103 s6) (rf_L103_1 s6) ?_
    refine zj_aload_n (zdk ttX6_pass 16 rfl rfl) rfl (by decide) ?_
    refine zj_geti (v := ((h.2 103 5) + 1)) (zdk ttX6_pass 17 rfl rfl) zf_RX6_28 rfl (k_L103 s6) (zwr_v e5) ?_
    have b7 : -2147483648 ≤ (h.2 105 ((h.2 103 5) + 1)) ∧ (h.2 105 ((h.2 103 5) + 1)) ≤ 2147483647 := ab_L103_1 s0 ((h.2 103 5) + 1)
    refine zj_iald (v := (h.2 105 ((h.2 103 5) + 1))) (zdk ttX6_pass 18 rfl rfl) (ka_L103_1 s6) (by decide) (by omega) (zwr_r e5 (by first | decide | exact (absurd ·.1 (by decide)) | exact (absurd ·.2 (by decide)) | omega)) ?_
    refine zj_puti (zdk ttX6_pass 19 rfl rfl) zf_RX6_31 rfl (k_L103 s6) (Or.inl zw_RX6_31) (k2 := 6) rfl (fun h8 e9 => ?_)
    have s10 : okC h8 := fw_L103_6 s6 e9 (by omega)
    have f12 : zfC w_X6_pass h h4 := zfC_w (zfC_r _ _) e5 (by omega)
    have f11 : zfC w_X6_pass h h8 := zfC_w f12 e9 (by omega)
    exact zj_vret rfl (zdk ttX6_pass 20 rfl rfl) (Nat.le_refl _) (Nat.le_refl _) ⟨rfl, s10, f11, (fun T P j t n => tPo_p t n e5 e9)⟩

abbrev q2_X6_refuse (h : zM) (p1 : Int) : Option zV → zM → Prop := zqi fun v h' => (0 ≤ v ∧ v ≤ 0) ∧ okC h' ∧ zfC w_X6_refuse h h' ∧ (∀ T P j, tPo T P j h → h'.2 103 7 = p1 ∧ h'.2 103 8 = P j)
set_option maxRecDepth 100000 in
set_option maxHeartbeats 4000000 in
theorem s2_X6_refuse (l : Launch) (h : zM) (p1 : Int) (s0 : okC h) (b_p1 : (-2147483648) ≤ p1 ∧ p1 ≤ 2147483647) : zT shC l yX6_refuse cX6_refuse 2 (some .boolean) (rmL 1) 0 0 [.inr 103, .inl p1] h (q2_X6_refuse h p1) := by
  refine zT_of (by decide +kernel) (L0 := [some (.inr 103), some (.inl p1)]) rfl (Nat.le_of_ble_eq_true rfl) ?_
  refine zj_aload_n (zdk ttX6_refuse 0 rfl rfl) rfl (by decide) ?_
  refine zj_iload_n (zdk ttX6_refuse 1 rfl rfl) rfl ?_
  refine zj_puti (zdk ttX6_refuse 2 rfl rfl) zf_RX6_34 rfl (k_L103 s0) (Or.inl zw_RX6_34) (k2 := 7) rfl (fun h1 e2 => ?_)
  refine zj_aload_n (zdk ttX6_refuse 3 rfl rfl) rfl (by decide) ?_
  refine zj_aload_n (zdk ttX6_refuse 4 rfl rfl) rfl (by decide) ?_
  have s3 : okC h1 := fw_L103_7 s0 e2 (by omega)
  refine zj_getr (r := 106) (zdk ttX6_refuse 5 rfl rfl) zf_RX6_18 rfl (k_L103 s3) (rf_L103_2 s3) ?_
  refine zj_aload_n (zdk ttX6_refuse 6 rfl rfl) rfl (by decide) ?_
  have b4 : 0 ≤ (h.2 103 5) ∧ (h.2 103 5) ≤ 400 := fb_L103_5 s0
  refine zj_geti (v := (h.2 103 5)) (zdk ttX6_refuse 7 rfl rfl) zf_RX6_28 rfl (k_L103 s3) (zwr_r e2 (by first | decide | exact (absurd ·.1 (by decide)) | exact (absurd ·.2 (by decide)) | omega)) ?_
  have b5 : -2147483648 ≤ (h.2 106 (h.2 103 5)) ∧ (h.2 106 (h.2 103 5)) ≤ 2147483647 := ab_L103_2 s0 (h.2 103 5)
  refine zj_iald (v := (h.2 106 (h.2 103 5))) (zdk ttX6_refuse 8 rfl rfl) (ka_L103_2 s3) (by decide) (by omega) (zwr_r e2 (by first | decide | exact (absurd ·.1 (by decide)) | exact (absurd ·.2 (by decide)) | omega)) ?_
  refine zj_puti (zdk ttX6_refuse 9 rfl rfl) zf_RX6_37 rfl (k_L103 s3) (Or.inl zw_RX6_37) (k2 := 8) rfl (fun h6 e7 => ?_)
  refine zj_iconst (zdk ttX6_refuse 10 rfl rfl) ?_
  have s8 : okC h6 := fw_L103_8 s3 e7 (by omega)
  have f10 : zfC w_X6_refuse h h1 := zfC_w (zfC_r _ _) e2 (by omega)
  have f9 : zfC w_X6_refuse h h6 := zfC_w f10 e7 (by omega)
  exact zj_zret rfl (zdk ttX6_refuse 11 rfl rfl) (Nat.le_refl _) (Nat.le_refl _) (by omega) ⟨0, rfl, by omega, s8, f9, (fun T P j t => ⟨(zwr_r e7 (by first | decide | exact (absurd ·.1 (by decide)) | exact (absurd ·.2 (by decide)) | omega)).trans (zwr_v e2), (zwr_v e7).trans (by rw [t.2.1, t.2.2.1.1])⟩)⟩

abbrev q2_X6_takes (h : zM) (p1 : Int) : Option zV → zM → Prop := zqi fun v h' => (0 ≤ v ∧ v ≤ 1) ∧ okC h' ∧ zfC w_X6_takes h h' ∧ (∀ T P j, tPo T P j h → (v = 1 → T j = p1 ∧ (¬ p1 = 0 → tPo T P (j + 1) h')) ∧ (v = 0 → ¬ T j = p1 ∧ h'.2 103 7 = 1 ∧ h'.2 103 8 = P j))
set_option maxRecDepth 100000 in
set_option maxHeartbeats 4000000 in
theorem s2_X6_takes (l : Launch) (h : zM) (p1 : Int) (s0 : okC h) (b_p1 : (-2147483648) ≤ p1 ∧ p1 ≤ 2147483647) : zT shC l yX6_takes cX6_takes 2 (some .boolean) (rmL 2) 0 0 [.inr 103, .inl p1] h (q2_X6_takes h p1) := by
  refine zT_of (by decide +kernel) (L0 := [some (.inr 103), some (.inl p1)]) rfl (Nat.le_of_ble_eq_true rfl) ?_
  refine zj_aload_n (zdk ttX6_takes 0 rfl rfl) rfl (by decide) ?_
  have b1 : -2147483648 ≤ (h.2 103 6) ∧ (h.2 103 6) ≤ 2147483647 := fb_L103_6 s0
  refine zj_geti (v := (h.2 103 6)) (zdk ttX6_takes 1 rfl rfl) zf_RX6_31 rfl (k_L103 s0) rfl ?_
  refine zj_iload_n (zdk ttX6_takes 2 rfl rfl) rfl ?_
  refine zj_icmp_eq (t := 14) (zdk ttX6_takes 3 rfl rfl) (by decide) (by omega) (by omega) (fun c2 => ?_) (fun c2 => ?_)
  · refine zj_aload_n (zdk ttX6_takes 8 rfl rfl) rfl (by decide) ?_
    refine zj_callV (av := []) (st := []) (zdk ttX6_takes 9 rfl rfl) mb_X6_pass mv_RX6_84 (ci := 6) rfl rfl (k_L103 s0) rfl rfl (Nat.le_of_ble_eq_true rfl) (s2_X6_pass l h s0) (rm_ok (by decide) (by decide)) (zq_v fun h5 q3 => ?_)
    obtain ⟨s7, f9, u8⟩ := q3
    refine zj_iconst (zdk ttX6_takes 10 rfl rfl) ?_
    have f10 : zfC w_X6_takes h h5 := zfC_t (zfC_r _ _) f9 (fun a9 b9 z9 => by
      exact (by omega))
    exact zj_zret rfl (zdk ttX6_takes 11 rfl rfl) (Nat.le_refl _) (Nat.le_refl _) (by omega) ⟨1, rfl, by omega, s7, f10, (by intro T P j t0; have k0 := t0.2.2.1.2; have l0 := t0.2.2.2.1; exact ⟨fun _ => ⟨by omega, fun z => u8 T P j t0 (by omega)⟩, fun z => absurd z (by omega)⟩)⟩
  · refine zj_aload_n (zdk ttX6_takes 4 rfl rfl) rfl (by decide) ?_
    refine zj_iconst (zdk ttX6_takes 5 rfl rfl) ?_
    refine zj_callV (av := [.inl 1]) (st := []) (zdk ttX6_takes 6 rfl rfl) mb_X6_refuse mv_RX6_81 (ci := 6) rfl rfl (k_L103 s0) rfl rfl (Nat.le_of_ble_eq_true rfl) (s2_X6_refuse l h 1 s0 (by omega)) (rm_ok (by decide) (by decide)) (zq_i fun v12 h13 q11 => ?_)
    obtain ⟨b14, s15, f17, u16⟩ := q11
    have f18 : zfC w_X6_takes h h13 := zfC_t (zfC_r _ _) f17 (fun a9 b9 z9 => by
      exact (by omega))
    have b19 : h13.2 103 6 = (h.2 103 6) := (zfC_a f17 (fun z9 => by unfold w_X6_refuse at z9; first | (revert z9; decide) | omega))
    exact zj_zret rfl (zdk ttX6_takes 7 rfl rfl) (Nat.le_refl _) (Nat.le_refl _) (by omega) ⟨v12, rfl, by omega, s15, f18, (by intro T P j t0; have k0 := t0.2.2.1.2; have l0 := t0.2.2.2.1; have e_1 := u16 T P j t0; exact ⟨fun z => absurd z (by omega), fun _ => ⟨by omega, e_1.1, e_1.2⟩⟩)⟩

abbrev q2_X6_takesNumber (h : zM) (p1 : Int) (p2 : Int) : Option zV → zM → Prop := zqi fun v h' => (0 ≤ v ∧ v ≤ 1) ∧ okC h' ∧ zfC w_X6_takesNumber h h' ∧ (∀ T P j, tPo T P j h → (v = 1 → 0 ≤ tNm p1 p2 (T j) ∧ h'.2 103 9 = tNm p1 p2 (T j) ∧ tPo T P (j + 1) h') ∧ (v = 0 → tNm p1 p2 (T j) < 0 ∧ h'.2 103 7 = -(tNm p1 p2 (T j)) ∧ h'.2 103 8 = P j)) ∧ (v = 1 → p1 ≤ h'.2 103 9 ∧ h'.2 103 9 ≤ p2)
set_option maxRecDepth 100000 in
set_option maxHeartbeats 4000000 in
theorem s2_X6_takesNumber (l : Launch) (h : zM) (p1 : Int) (p2 : Int) (s0 : okC h) (b_p1 : (-2147483648) ≤ p1 ∧ p1 ≤ 2147483647) (b_p2 : (-2147483648) ≤ p2 ∧ p2 ≤ 2147483647) : zT shC l yX6_takesNumber cX6_takesNumber 3 (some .boolean) (rmL 2) 0 0 [.inr 103, .inl p1, .inl p2] h (q2_X6_takesNumber h p1 p2) := by
  refine zT_of (by decide +kernel) (L0 := [some (.inr 103), some (.inl p1), some (.inl p2)]) rfl (Nat.le_of_ble_eq_true rfl) ?_
  refine zj_aload_n (zdk ttX6_takesNumber 0 rfl rfl) rfl (by decide) ?_
  refine zj_callV (av := []) (st := []) (zdk ttX6_takesNumber 1 rfl rfl) mb_X6_isNumber mv_RX6_87 (ci := 6) rfl rfl (k_L103 s0) rfl rfl (Nat.le_of_ble_eq_true rfl) (s_X6_isNumber l h s0) (rm_ok (by decide) (by decide)) (zq_i fun v2 h3 q1 => ?_)
  obtain ⟨rfl, b5, ⟨rfl, b4⟩ | ⟨rfl, b4⟩⟩ := q1
  · refine zj_if_ne (t := 13) (zdk ttX6_takesNumber 2 rfl rfl) (by decide) (by decide) (fun c6 => ?_) (fun c6 => ?_)
    · exact absurd c6 (by omega)
    · refine zj_aload_n (zdk ttX6_takesNumber 3 rfl rfl) rfl (by decide) ?_
      refine zj_iconst (zdk ttX6_takesNumber 4 rfl rfl) ?_
      refine zj_callV (av := [.inl 1]) (st := []) (zdk ttX6_takesNumber 5 rfl rfl) mb_X6_refuse mv_RX6_81 (ci := 6) rfl rfl (k_L103 s0) rfl rfl (Nat.le_of_ble_eq_true rfl) (s2_X6_refuse l h 1 s0 (by omega)) (rm_ok (by decide) (by decide)) (zq_i fun v8 h9 q7 => ?_)
      obtain ⟨b10, s11, f13, u12⟩ := q7
      have f14 : zfC w_X6_takesNumber h h9 := zfC_t (zfC_r _ _) f13 (fun a9 b9 z9 => by
        exact (by omega))
      have b15 : h9.2 103 6 = (h.2 103 6) := (zfC_a f13 (fun z9 => by unfold w_X6_refuse at z9; first | (revert z9; decide) | omega))
      have b16 : h9.2 103 9 = (h.2 103 9) := (zfC_a f13 (fun z9 => by unfold w_X6_refuse at z9; first | (revert z9; decide) | omega))
      exact zj_zret rfl (zdk ttX6_takesNumber 6 rfl rfl) (Nat.le_refl _) (Nat.le_refl _) (by omega) ⟨v8, rfl, by omega, s11, f14, (by intro T P j t0; have k0 := t0.2.2.1.2; have l0 := t0.2.2.2.1; have e_1 := u12 T P j t0; have o9 := tNm_f p1 p2 (T j); exact ⟨fun z => absurd z (by omega), fun _ => ⟨by omega, by have e9 := e_1.1; omega, e_1.2⟩⟩), by omega⟩
  · refine zj_if_ne (t := 13) (zdk ttX6_takesNumber 2 rfl rfl) (by decide) (by decide) (fun c17 => ?_) (fun c17 => ?_)
    · refine zj_aload_n (zdk ttX6_takesNumber 7 rfl rfl) rfl (by decide) ?_
      refine zj_aload_n (zdk ttX6_takesNumber 8 rfl rfl) rfl (by decide) ?_
      refine zj_geti (v := (h.2 103 6)) (zdk ttX6_takesNumber 9 rfl rfl) zf_RX6_31 rfl (k_L103 s0) rfl ?_
      refine zj_sipush (zdk ttX6_takesNumber 10 rfl rfl) (by decide) ?_
      refine zj_isub (zdk ttX6_takesNumber 11 rfl rfl) ?_
      refine zj_puti (zdk ttX6_takesNumber 12 rfl rfl) zf_RX6_40 rfl (k_L103 s0) (Or.inl zw_RX6_40) (k2 := 9) rfl (fun h18 e19 => ?_)
      refine zj_aload_n (zdk ttX6_takesNumber 13 rfl rfl) rfl (by decide) ?_
      have s20 : okC h18 := fw_L103_9 s0 e19 (by omega)
      refine zj_geti (v := ((h.2 103 6) - 1000)) (zdk ttX6_takesNumber 14 rfl rfl) zf_RX6_40 rfl (k_L103 s20) (zwr_v e19) ?_
      refine zj_iload_n (zdk ttX6_takesNumber 15 rfl rfl) rfl ?_
      refine zj_iload_n (zdk ttX6_takesNumber 16 rfl rfl) rfl ?_
      refine zj_callS (av := [.inl ((h.2 103 6) - 1000), .inl p1, .inl p2]) (st := []) (zdk ttX6_takesNumber 17 rfl rfl) mb_X10_within ms_RX6_91 rfl rfl (Nat.le_of_ble_eq_true rfl) (s_X10_within l h18 ((h.2 103 6) - 1000) p1 p2 s20 (by omega) (by omega) (by omega)) (rm_ok (by decide) (by decide)) (zq_i fun v22 h23 q21 => ?_)
      obtain ⟨rfl, ⟨rfl, b24⟩ | ⟨rfl, b24⟩⟩ := q21
      · refine zj_if_ne (t := 43) (zdk ttX6_takesNumber 18 rfl rfl) (by decide) (by decide) (fun c25 => ?_) (fun c25 => ?_)
        · exact absurd c25 (by omega)
        · refine zj_aload_n (zdk ttX6_takesNumber 19 rfl rfl) rfl (by decide) ?_
          refine zj_iconst (zdk ttX6_takesNumber 20 rfl rfl) ?_
          refine zj_callV (av := [.inl 2]) (st := []) (zdk ttX6_takesNumber 21 rfl rfl) mb_X6_refuse mv_RX6_81 (ci := 6) rfl rfl (k_L103 s20) rfl rfl (Nat.le_of_ble_eq_true rfl) (s2_X6_refuse l h18 2 s20 (by omega)) (rm_ok (by decide) (by decide)) (zq_i fun v27 h28 q26 => ?_)
          obtain ⟨b29, s30, f32, u31⟩ := q26
          have f34 : zfC w_X6_takesNumber h h18 := zfC_w (zfC_r _ _) e19 (by omega)
          have f33 : zfC w_X6_takesNumber h h28 := zfC_t f34 f32 (fun a9 b9 z9 => by
            exact (by omega))
          have b35 : h18.2 103 6 = (h.2 103 6) := (zwr_r e19 (by first | decide | exact (absurd ·.1 (by decide)) | exact (absurd ·.2 (by decide)) | omega))
          have b36 : h28.2 103 6 = (h.2 103 6) := ((zfC_a f32 (fun z9 => by unfold w_X6_refuse at z9; first | (revert z9; decide) | omega)).trans (zwr_r e19 (by first | decide | exact (absurd ·.1 (by decide)) | exact (absurd ·.2 (by decide)) | omega)))
          have b37 : h28.2 103 9 = ((h.2 103 6) - 1000) := ((zfC_a f32 (fun z9 => by unfold w_X6_refuse at z9; first | (revert z9; decide) | omega)).trans (zwr_v e19))
          exact zj_zret rfl (zdk ttX6_takesNumber 22 rfl rfl) (Nat.le_refl _) (Nat.le_refl _) (by omega) ⟨v27, rfl, by omega, s30, f33, (by intro T P j t0; have k0 := t0.2.2.1.2; have l0 := t0.2.2.2.1; have a_1 : tPo T P j h18 := tPo_f t0 (fun i => (zwr_r e19 (by first | decide | exact (absurd ·.1 (by decide)) | exact (absurd ·.2 (by decide)) | omega))) (fun i => (zwr_r e19 (by first | decide | exact (absurd ·.1 (by decide)) | exact (absurd ·.2 (by decide)) | omega))) (zwr_r e19 (by first | decide | exact (absurd ·.1 (by decide)) | exact (absurd ·.2 (by decide)) | omega)) (zwr_r e19 (by first | decide | exact (absurd ·.1 (by decide)) | exact (absurd ·.2 (by decide)) | omega)) (zwr_r e19 (by first | decide | exact (absurd ·.1 (by decide)) | exact (absurd ·.2 (by decide)) | omega)) (zwr_r e19 (by first | decide | exact (absurd ·.1 (by decide)) | exact (absurd ·.2 (by decide)) | omega)) (zwr_r e19 (by first | decide | exact (absurd ·.1 (by decide)) | exact (absurd ·.2 (by decide)) | omega)); have e_2 := u31 T P j a_1; have k_3 := a_1.2.2.1.2; have k_3l := a_1.2.2.2.1; have o9 := tNm_f p1 p2 (T j); exact ⟨fun z => absurd z (by omega), fun _ => ⟨by omega, by have e9 := e_2.1; omega, e_2.2⟩⟩), by omega⟩
      · refine zj_if_ne (t := 43) (zdk ttX6_takesNumber 18 rfl rfl) (by decide) (by decide) (fun c38 => ?_) (fun c38 => ?_)
        · refine zj_aload_n (zdk ttX6_takesNumber 23 rfl rfl) rfl (by decide) ?_
          refine zj_callV (av := []) (st := []) (zdk ttX6_takesNumber 24 rfl rfl) mb_X6_pass mv_RX6_84 (ci := 6) rfl rfl (k_L103 s20) rfl rfl (Nat.le_of_ble_eq_true rfl) (s2_X6_pass l h18 s20) (rm_ok (by decide) (by decide)) (zq_v fun h41 q39 => ?_)
          obtain ⟨s43, f45, u44⟩ := q39
          refine zj_iconst (zdk ttX6_takesNumber 25 rfl rfl) ?_
          have f47 : zfC w_X6_takesNumber h h18 := zfC_w (zfC_r _ _) e19 (by omega)
          have f46 : zfC w_X6_takesNumber h h41 := zfC_t f47 f45 (fun a9 b9 z9 => by
            exact (by omega))
          have b48 : h18.2 103 6 = (h.2 103 6) := (zwr_r e19 (by first | decide | exact (absurd ·.1 (by decide)) | exact (absurd ·.2 (by decide)) | omega))
          have b49 : h41.2 103 9 = ((h.2 103 6) - 1000) := ((zfC_a f45 (fun z9 => by unfold w_X6_pass at z9; first | (revert z9; decide) | omega)).trans (zwr_v e19))
          have b50 : h41.2 103 9 = ((h.2 103 6) - 1000) := ((zfC_a f45 (fun z9 => by unfold w_X6_pass at z9; first | (revert z9; decide) | omega)).trans (zwr_v e19))
          exact zj_zret rfl (zdk ttX6_takesNumber 26 rfl rfl) (Nat.le_refl _) (Nat.le_refl _) (by omega) ⟨1, rfl, by omega, s43, f46, (by intro T P j t0; have k0 := t0.2.2.1.2; have l0 := t0.2.2.2.1; have o9 := tNm_f p1 p2 (T j); have a_1 : tPo T P j h18 := tPo_f t0 (fun i => (zwr_r e19 (by first | decide | exact (absurd ·.1 (by decide)) | exact (absurd ·.2 (by decide)) | omega))) (fun i => (zwr_r e19 (by first | decide | exact (absurd ·.1 (by decide)) | exact (absurd ·.2 (by decide)) | omega))) (zwr_r e19 (by first | decide | exact (absurd ·.1 (by decide)) | exact (absurd ·.2 (by decide)) | omega)) (zwr_r e19 (by first | decide | exact (absurd ·.1 (by decide)) | exact (absurd ·.2 (by decide)) | omega)) (zwr_r e19 (by first | decide | exact (absurd ·.1 (by decide)) | exact (absurd ·.2 (by decide)) | omega)) (zwr_r e19 (by first | decide | exact (absurd ·.1 (by decide)) | exact (absurd ·.2 (by decide)) | omega)) (zwr_r e19 (by first | decide | exact (absurd ·.1 (by decide)) | exact (absurd ·.2 (by decide)) | omega)); have k_2 := a_1.2.2.1.2; have k_2l := a_1.2.2.2.1; have a_3 : tPo T P (j + 1) h41 := u44 T P j a_1 (by omega); exact ⟨fun _ => ⟨by omega, by omega, a_3⟩, fun z => absurd z (by omega)⟩), by omega⟩
        · exact absurd c38 (by omega)
    · exact absurd c17 (by omega)

abbrev q2_X6_opensLine (h : zM) (p1 : Int) (p2 : Int) (p3 : Int) : Option zV → zM → Prop := zqi fun v h' => (0 ≤ v ∧ v ≤ 1) ∧ okC h' ∧ zfC w_X6_opensLine h h' ∧ (∀ T P j, tPo T P j h → (v = 1 → (200 + p2 ≤ T j ∧ T j ≤ 200 + p3) ∧ p1 < 16 ∧ tPo T P j h') ∧ (v = 0 → h'.2 103 8 = P j ∧ ((¬ (200 + p2 ≤ T j ∧ T j ≤ 200 + p3) ∧ h'.2 103 7 = 1) ∨ ((200 + p2 ≤ T j ∧ T j ≤ 200 + p3) ∧ 16 ≤ p1 ∧ h'.2 103 7 = 3)))) ∧ (v = 1 → p1 ≤ 15)
set_option maxRecDepth 100000 in
set_option maxHeartbeats 4000000 in
theorem s2_X6_opensLine (l : Launch) (h : zM) (p1 : Int) (p2 : Int) (p3 : Int) (s0 : okC h) (b_p1 : (-2147483648) ≤ p1 ∧ p1 ≤ 2147483647) (b_p2 : 0 ≤ p2 ∧ p2 ≤ 20) (b_p3 : 0 ≤ p3 ∧ p3 ≤ 20) : zT shC l yX6_opensLine cX6_opensLine 4 (some .boolean) (rmL 4) 0 0 [.inr 103, .inl p1, .inl p2, .inl p3] h (q2_X6_opensLine h p1 p2 p3) := by
  refine zT_of (by decide +kernel) (L0 := [some (.inr 103), some (.inl p1), some (.inl p2), some (.inl p3)]) rfl (Nat.le_of_ble_eq_true rfl) ?_
  refine zj_aload_n (zdk ttX6_opensLine 0 rfl rfl) rfl (by decide) ?_
  refine zj_iload_n (zdk ttX6_opensLine 1 rfl rfl) rfl ?_
  refine zj_iload_n (zdk ttX6_opensLine 2 rfl rfl) rfl ?_
  refine zj_callV (av := [.inl p2, .inl p3]) (st := []) (zdk ttX6_opensLine 3 rfl rfl) mb_X6_isWord mv_RX6_95 (ci := 6) rfl rfl (k_L103 s0) rfl rfl (Nat.le_of_ble_eq_true rfl) (s_X6_isWord l h p2 p3 s0 (by omega) (by omega)) (rm_ok (by decide) (by decide)) (zq_i fun v2 h3 q1 => ?_)
  obtain ⟨rfl, b5, ⟨rfl, b4⟩ | ⟨rfl, b4⟩⟩ := q1
  · refine zj_if_ne (t := 15) (zdk ttX6_opensLine 4 rfl rfl) (by decide) (by decide) (fun c6 => ?_) (fun c6 => ?_)
    · exact absurd c6 (by omega)
    · refine zj_aload_n (zdk ttX6_opensLine 5 rfl rfl) rfl (by decide) ?_
      refine zj_iconst (zdk ttX6_opensLine 6 rfl rfl) ?_
      refine zj_callV (av := [.inl 1]) (st := []) (zdk ttX6_opensLine 7 rfl rfl) mb_X6_refuse mv_RX6_81 (ci := 6) rfl rfl (k_L103 s0) rfl rfl (Nat.le_of_ble_eq_true rfl) (s2_X6_refuse l h 1 s0 (by omega)) (rm_ok (by decide) (by decide)) (zq_i fun v8 h9 q7 => ?_)
      obtain ⟨b10, s11, f13, u12⟩ := q7
      have f14 : zfC w_X6_opensLine h h9 := zfC_t (zfC_r _ _) f13 (fun a9 b9 z9 => by
        exact z9)
      have b15 : h9.2 103 6 = (h.2 103 6) := (zfC_a f13 (fun z9 => by unfold w_X6_refuse at z9; first | (revert z9; decide) | omega))
      exact zj_zret rfl (zdk ttX6_opensLine 8 rfl rfl) (Nat.le_refl _) (Nat.le_refl _) (by omega) ⟨v8, rfl, by omega, s11, f14, (by intro T P j t0; have k0 := t0.2.2.1.2; have l0 := t0.2.2.2.1; have e_1 := u12 T P j t0; exact ⟨fun z => absurd z (by omega), fun _ => ⟨e_1.2, by have e9 := e_1.1; omega⟩⟩), by omega⟩
  · refine zj_if_ne (t := 15) (zdk ttX6_opensLine 4 rfl rfl) (by decide) (by decide) (fun c16 => ?_) (fun c16 => ?_)
    · refine zj_iload_n (zdk ttX6_opensLine 9 rfl rfl) rfl ?_
      refine zj_bipush (zdk ttX6_opensLine 10 rfl rfl) (by decide) ?_
      refine zj_icmp_lt (t := 29) (zdk ttX6_opensLine 11 rfl rfl) (by decide) (by omega) (by decide) (fun c17 => ?_) (fun c17 => ?_)
      · refine zj_iconst (zdk ttX6_opensLine 16 rfl rfl) ?_
        refine zj_goto (t := 34) (zdk ttX6_opensLine 17 rfl rfl) (by decide) ?_
        exact zj_zret rfl (zdk ttX6_opensLine 19 rfl rfl) (Nat.le_refl _) (Nat.le_refl _) (by omega) ⟨1, rfl, by omega, s0, (zfC_r _ _), (by intro T P j t0; have k0 := t0.2.2.1.2; have l0 := t0.2.2.2.1; exact ⟨fun _ => ⟨by omega, by omega, t0⟩, fun z => absurd z (by omega)⟩), by omega⟩
      · refine zj_aload_n (zdk ttX6_opensLine 12 rfl rfl) rfl (by decide) ?_
        refine zj_iconst (zdk ttX6_opensLine 13 rfl rfl) ?_
        refine zj_callV (av := [.inl 3]) (st := []) (zdk ttX6_opensLine 14 rfl rfl) mb_X6_refuse mv_RX6_81 (ci := 6) rfl rfl (k_L103 s0) rfl rfl (Nat.le_of_ble_eq_true rfl) (s2_X6_refuse l h 3 s0 (by omega)) (rm_ok (by decide) (by decide)) (zq_i fun v19 h20 q18 => ?_)
        obtain ⟨b21, s22, f24, u23⟩ := q18
        refine zj_if_eq (t := 33) (zdk ttX6_opensLine 15 rfl rfl) (by decide) (by omega) (fun c25 => ?_) (fun c25 => ?_)
        · refine zj_iconst (zdk ttX6_opensLine 18 rfl rfl) ?_
          have f26 : zfC w_X6_opensLine h h20 := zfC_t (zfC_r _ _) f24 (fun a9 b9 z9 => by
            exact z9)
          have b27 : h20.2 103 6 = (h.2 103 6) := (zfC_a f24 (fun z9 => by unfold w_X6_refuse at z9; first | (revert z9; decide) | omega))
          exact zj_zret rfl (zdk ttX6_opensLine 19 rfl rfl) (Nat.le_refl _) (Nat.le_refl _) (by omega) ⟨0, rfl, by omega, s22, f26, (by intro T P j t0; have k0 := t0.2.2.1.2; have l0 := t0.2.2.2.1; have e_1 := u23 T P j t0; exact ⟨fun z => absurd z (by omega), fun _ => ⟨e_1.2, by have e9 := e_1.1; omega⟩⟩), by omega⟩
        · exact absurd c25 (by omega)
    · exact absurd c16 (by omega)

abbrev q2_X7_readOperand (h : zM) (p1 : Int) (p2 : Int) : Option zV → zM → Prop := zqi fun v h' => (0 ≤ v ∧ v ≤ 1) ∧ okC h' ∧ zfC (w_X7_readOperand p1) h h' ∧ (∀ T P j, tPo T P j h → (v = 1 → 0 ≤ tOp p2 (T j) ∧ tPo T P (j + 1) h') ∧ (v = 0 → tOp p2 (T j) < 0 ∧ h'.2 103 7 = -(tOp p2 (T j)) ∧ h'.2 103 8 = P j))
set_option maxRecDepth 100000 in
set_option maxHeartbeats 4000000 in
theorem s2_X7_readOperand (l : Launch) (h : zM) (p1 : Int) (p2 : Int) (s0 : okC h) (r_p1 : zLw p1) (b_p2 : 0 ≤ p2 ∧ p2 ≤ 1) : zT shC l yX7_readOperand cX7_readOperand 4 (some .boolean) (rmL 5) 0 0 [.inr 107, .inr p1, .inl p2] h (q2_X7_readOperand h p1 p2) := by
  refine zT_of (by decide +kernel) (L0 := [some (.inr 107), some (.inr p1), some (.inl p2), none]) rfl (Nat.le_of_ble_eq_true rfl) ?_
  have b1 := zLw_b r_p1
  refine zj_aload_n (zdk ttX7_readOperand 0 rfl rfl) rfl (by decide) ?_
  refine zj_getr (r := 103) (zdk ttX7_readOperand 1 rfl rfl) zf_RX7_9 rfl (k_L107 s0) (rf_L107_0 s0) ?_
  have b2 : -2147483648 ≤ (h.2 103 6) ∧ (h.2 103 6) ≤ 2147483647 := fb_L103_6 s0
  refine zj_geti (v := (h.2 103 6)) (zdk ttX7_readOperand 2 rfl rfl) zf_RX7_32 rfl (k_L103 s0) rfl ?_
  refine zj_istore_n (L' := [some (.inr 107), some (.inr p1), some (.inl p2), some (.inl (h.2 103 6))]) (zdk ttX7_readOperand 3 rfl rfl) (by decide) rfl ?_
  refine zj_aload_n (zdk ttX7_readOperand 4 rfl rfl) rfl (by decide) ?_
  refine zj_getr (r := 103) (zdk ttX7_readOperand 5 rfl rfl) zf_RX7_9 rfl (k_L107 s0) (rf_L107_0 s0) ?_
  refine zj_callV (av := []) (st := []) (zdk ttX7_readOperand 6 rfl rfl) mb_X6_isNumber mv_RX7_88 (ci := 6) rfl rfl (k_L103 s0) rfl rfl (Nat.le_of_ble_eq_true rfl) (s_X6_isNumber l h s0) (rm_ok (by decide) (by decide)) (zq_i fun v4 h5 q3 => ?_)
  obtain ⟨rfl, b7, ⟨rfl, b6⟩ | ⟨rfl, b6⟩⟩ := q3
  · refine zj_if_eq (t := 50) (zdk ttX7_readOperand 7 rfl rfl) (by decide) (by decide) (fun c8 => ?_) (fun c8 => ?_)
    · refine zj_iload_n (zdk ttX7_readOperand 24 rfl rfl) rfl ?_
      refine zj_if_ne (t := 84) (zdk ttX7_readOperand 25 rfl rfl) (by decide) (by omega) (fun c9 => ?_) (fun c9 => ?_)
      · refine zj_aload_n (zdk ttX7_readOperand 40 rfl rfl) rfl (by decide) ?_
        refine zj_getr (r := 103) (zdk ttX7_readOperand 41 rfl rfl) zf_RX7_9 rfl (k_L107 s0) (rf_L107_0 s0) ?_
        refine zj_iconst (zdk ttX7_readOperand 42 rfl rfl) ?_
        refine zj_callV (av := [.inl 1]) (st := []) (zdk ttX7_readOperand 43 rfl rfl) mb_X6_refuse mv_RX7_81 (ci := 6) rfl rfl (k_L103 s0) rfl rfl (Nat.le_of_ble_eq_true rfl) (s2_X6_refuse l h 1 s0 (by omega)) (rm_ok (by decide) (by decide)) (zq_i fun v11 h12 q10 => ?_)
        obtain ⟨b13, s14, f16, u15⟩ := q10
        have f17 : zfC (w_X7_readOperand p1) h h12 := zfC_t (zfC_r _ _) f16 (fun a9 b9 z9 => by
          exact (Or.inl (by omega)))
        have b18 : h12.2 103 6 = (h.2 103 6) := (zfC_a f16 (fun z9 => by unfold w_X6_refuse at z9; first | (revert z9; decide) | omega))
        exact zj_zret rfl (zdk ttX7_readOperand 44 rfl rfl) (Nat.le_refl _) (Nat.le_refl _) (by omega) ⟨v11, rfl, by omega, s14, f17, (by intro T P j t0; have k0 := t0.2.2.1.2; have l0 := t0.2.2.2.1; have e_1 := u15 T P j t0; have o9 := tOp_f p2 (T j); exact ⟨fun z => absurd z (by omega), fun _ => ⟨by omega, by have e9 := e_1.1; omega, e_1.2⟩⟩)⟩
      · refine zj_aload_n (zdk ttX7_readOperand 26 rfl rfl) rfl (by decide) ?_
        refine zj_getr (r := 103) (zdk ttX7_readOperand 27 rfl rfl) zf_RX7_9 rfl (k_L107 s0) (rf_L107_0 s0) ?_
        refine zj_bipush (zdk ttX7_readOperand 28 rfl rfl) (by decide) ?_
        refine zj_bipush (zdk ttX7_readOperand 29 rfl rfl) (by decide) ?_
        refine zj_callV (av := [.inl 7, .inl 16]) (st := []) (zdk ttX7_readOperand 30 rfl rfl) mb_X6_isWord mv_RX7_60 (ci := 6) rfl rfl (k_L103 s0) rfl rfl (Nat.le_of_ble_eq_true rfl) (s_X6_isWord l h 7 16 s0 (by omega) (by omega)) (rm_ok (by decide) (by decide)) (zq_i fun v20 h21 q19 => ?_)
        obtain ⟨rfl, b23, ⟨rfl, b22⟩ | ⟨rfl, b22⟩⟩ := q19
        · refine zj_if_eq (t := 84) (zdk ttX7_readOperand 31 rfl rfl) (by decide) (by decide) (fun c24 => ?_) (fun c24 => ?_)
          · refine zj_aload_n (zdk ttX7_readOperand 40 rfl rfl) rfl (by decide) ?_
            refine zj_getr (r := 103) (zdk ttX7_readOperand 41 rfl rfl) zf_RX7_9 rfl (k_L107 s0) (rf_L107_0 s0) ?_
            refine zj_iconst (zdk ttX7_readOperand 42 rfl rfl) ?_
            refine zj_callV (av := [.inl 1]) (st := []) (zdk ttX7_readOperand 43 rfl rfl) mb_X6_refuse mv_RX7_81 (ci := 6) rfl rfl (k_L103 s0) rfl rfl (Nat.le_of_ble_eq_true rfl) (s2_X6_refuse l h 1 s0 (by omega)) (rm_ok (by decide) (by decide)) (zq_i fun v26 h27 q25 => ?_)
            obtain ⟨b28, s29, f31, u30⟩ := q25
            have f32 : zfC (w_X7_readOperand p1) h h27 := zfC_t (zfC_r _ _) f31 (fun a9 b9 z9 => by
              exact (Or.inl (by omega)))
            have b33 : h27.2 103 6 = (h.2 103 6) := (zfC_a f31 (fun z9 => by unfold w_X6_refuse at z9; first | (revert z9; decide) | omega))
            exact zj_zret rfl (zdk ttX7_readOperand 44 rfl rfl) (Nat.le_refl _) (Nat.le_refl _) (by omega) ⟨v26, rfl, by omega, s29, f32, (by intro T P j t0; have k0 := t0.2.2.1.2; have l0 := t0.2.2.2.1; have e_1 := u30 T P j t0; have o9 := tOp_f p2 (T j); exact ⟨fun z => absurd z (by omega), fun _ => ⟨by omega, by have e9 := e_1.1; omega, e_1.2⟩⟩)⟩
          · exact absurd c24 (by omega)
        · refine zj_if_eq (t := 84) (zdk ttX7_readOperand 31 rfl rfl) (by decide) (by decide) (fun c34 => ?_) (fun c34 => ?_)
          · exact absurd c34 (by omega)
          · refine zj_aload_n (zdk ttX7_readOperand 32 rfl rfl) rfl (by omega) ?_
            refine zj_sipush (zdk ttX7_readOperand 33 rfl rfl) (by decide) ?_
            refine zj_iload_n (zdk ttX7_readOperand 34 rfl rfl) rfl ?_
            refine zj_iadd (zdk ttX7_readOperand 35 rfl rfl) ?_
            refine zj_sipush (zdk ttX7_readOperand 36 rfl rfl) (by decide) ?_
            refine zj_isub (zdk ttX7_readOperand 37 rfl rfl) ?_
            refine zj_callV (av := [.inl ((10000 + (h.2 103 6)) - 200)]) (st := []) (zdk ttX7_readOperand 38 rfl rfl) mb_X3_put mv_RX7_77 (ci := 3) rfl rfl (k_3_0 s0 r_p1) rfl rfl (Nat.le_of_ble_eq_true rfl) (s_X3_put l h p1 ((10000 + (h.2 103 6)) - 200) s0 r_p1 (by omega)) (rm_ok (by decide) (by decide)) (zq_v fun h37 q35 => ?_)
            obtain ⟨s39, f40⟩ := q35
            refine zj_goto (t := 93) (zdk ttX7_readOperand 39 rfl rfl) (by decide) ?_
            refine zj_aload_n (zdk ttX7_readOperand 45 rfl rfl) rfl (by decide) ?_
            refine zj_getr (r := 103) (zdk ttX7_readOperand 46 rfl rfl) zf_RX7_9 rfl (k_L107 s39) (rf_L107_0 s39) ?_
            refine zj_callV (av := []) (st := []) (zdk ttX7_readOperand 47 rfl rfl) mb_X6_pass mv_RX7_47 (ci := 6) rfl rfl (k_L103 s39) rfl rfl (Nat.le_of_ble_eq_true rfl) (s2_X6_pass l h37 s39) (rm_ok (by decide) (by decide)) (zq_v fun h43 q41 => ?_)
            obtain ⟨s45, f47, u46⟩ := q41
            refine zj_iconst (zdk ttX7_readOperand 48 rfl rfl) ?_
            have f49 : zfC (w_X7_readOperand p1) h h37 := zfC_t (zfC_r _ _) f40 (fun a9 b9 z9 => by
              rcases z9 with z9 | z9
              · exact (Or.inr (Or.inl (by omega)))
              · exact (Or.inr (Or.inr (by omega))))
            have f48 : zfC (w_X7_readOperand p1) h h43 := zfC_t f49 f47 (fun a9 b9 z9 => by
              exact (Or.inl (by omega)))
            have b50 : h37.2 103 6 = (h.2 103 6) := (zfC_a f40 (fun z9 => by unfold w_X3_put at z9; first | (revert z9; decide) | omega))
            exact zj_zret rfl (zdk ttX7_readOperand 49 rfl rfl) (Nat.le_refl _) (Nat.le_refl _) (by omega) ⟨1, rfl, by omega, s45, f48, (by intro T P j t0; have k0 := t0.2.2.1.2; have l0 := t0.2.2.2.1; have o9 := tOp_f p2 (T j); have a_1 : tPo T P j h37 := tPo_f t0 (fun i => (zfC_a f40 (fun z9 => by unfold w_X3_put at z9; first | (revert z9; decide) | omega))) (fun i => (zfC_a f40 (fun z9 => by unfold w_X3_put at z9; first | (revert z9; decide) | omega))) (zfC_a f40 (fun z9 => by unfold w_X3_put at z9; first | (revert z9; decide) | omega)) (zfC_a f40 (fun z9 => by unfold w_X3_put at z9; first | (revert z9; decide) | omega)) (zfC_a f40 (fun z9 => by unfold w_X3_put at z9; first | (revert z9; decide) | omega)) (zfC_a f40 (fun z9 => by unfold w_X3_put at z9; first | (revert z9; decide) | omega)) (zfC_a f40 (fun z9 => by unfold w_X3_put at z9; first | (revert z9; decide) | omega)); have k_2 := a_1.2.2.1.2; have k_2l := a_1.2.2.2.1; have a_3 : tPo T P (j + 1) h43 := u46 T P j a_1 (by omega); exact ⟨fun _ => ⟨by omega, a_3⟩, fun z => absurd z (by omega)⟩)⟩
    · exact absurd c8 (by omega)
  · refine zj_if_eq (t := 50) (zdk ttX7_readOperand 7 rfl rfl) (by decide) (by decide) (fun c51 => ?_) (fun c51 => ?_)
    · exact absurd c51 (by omega)
    · refine zj_iload_n (zdk ttX7_readOperand 8 rfl rfl) rfl ?_
      refine zj_if_eq (t := 38) (zdk ttX7_readOperand 9 rfl rfl) (by decide) (by omega) (fun c52 => ?_) (fun c52 => ?_)
      · refine zj_aload_n (zdk ttX7_readOperand 18 rfl rfl) rfl (by omega) ?_
        refine zj_iload_n (zdk ttX7_readOperand 19 rfl rfl) rfl ?_
        refine zj_sipush (zdk ttX7_readOperand 20 rfl rfl) (by decide) ?_
        refine zj_isub (zdk ttX7_readOperand 21 rfl rfl) ?_
        refine zj_callV (av := [.inl ((h.2 103 6) - 1000)]) (st := []) (zdk ttX7_readOperand 22 rfl rfl) mb_X3_put mv_RX7_77 (ci := 3) rfl rfl (k_3_0 s0 r_p1) rfl rfl (Nat.le_of_ble_eq_true rfl) (s_X3_put l h p1 ((h.2 103 6) - 1000) s0 r_p1 (by omega)) (rm_ok (by decide) (by decide)) (zq_v fun h55 q53 => ?_)
        obtain ⟨s57, f58⟩ := q53
        refine zj_goto (t := 93) (zdk ttX7_readOperand 23 rfl rfl) (by decide) ?_
        refine zj_aload_n (zdk ttX7_readOperand 45 rfl rfl) rfl (by decide) ?_
        refine zj_getr (r := 103) (zdk ttX7_readOperand 46 rfl rfl) zf_RX7_9 rfl (k_L107 s57) (rf_L107_0 s57) ?_
        refine zj_callV (av := []) (st := []) (zdk ttX7_readOperand 47 rfl rfl) mb_X6_pass mv_RX7_47 (ci := 6) rfl rfl (k_L103 s57) rfl rfl (Nat.le_of_ble_eq_true rfl) (s2_X6_pass l h55 s57) (rm_ok (by decide) (by decide)) (zq_v fun h61 q59 => ?_)
        obtain ⟨s63, f65, u64⟩ := q59
        refine zj_iconst (zdk ttX7_readOperand 48 rfl rfl) ?_
        have f67 : zfC (w_X7_readOperand p1) h h55 := zfC_t (zfC_r _ _) f58 (fun a9 b9 z9 => by
          rcases z9 with z9 | z9
          · exact (Or.inr (Or.inl (by omega)))
          · exact (Or.inr (Or.inr (by omega))))
        have f66 : zfC (w_X7_readOperand p1) h h61 := zfC_t f67 f65 (fun a9 b9 z9 => by
          exact (Or.inl (by omega)))
        have b68 : h55.2 103 6 = (h.2 103 6) := (zfC_a f58 (fun z9 => by unfold w_X3_put at z9; first | (revert z9; decide) | omega))
        exact zj_zret rfl (zdk ttX7_readOperand 49 rfl rfl) (Nat.le_refl _) (Nat.le_refl _) (by omega) ⟨1, rfl, by omega, s63, f66, (by intro T P j t0; have k0 := t0.2.2.1.2; have l0 := t0.2.2.2.1; have o9 := tOp_f p2 (T j); have a_1 : tPo T P j h55 := tPo_f t0 (fun i => (zfC_a f58 (fun z9 => by unfold w_X3_put at z9; first | (revert z9; decide) | omega))) (fun i => (zfC_a f58 (fun z9 => by unfold w_X3_put at z9; first | (revert z9; decide) | omega))) (zfC_a f58 (fun z9 => by unfold w_X3_put at z9; first | (revert z9; decide) | omega)) (zfC_a f58 (fun z9 => by unfold w_X3_put at z9; first | (revert z9; decide) | omega)) (zfC_a f58 (fun z9 => by unfold w_X3_put at z9; first | (revert z9; decide) | omega)) (zfC_a f58 (fun z9 => by unfold w_X3_put at z9; first | (revert z9; decide) | omega)) (zfC_a f58 (fun z9 => by unfold w_X3_put at z9; first | (revert z9; decide) | omega)); have k_2 := a_1.2.2.1.2; have k_2l := a_1.2.2.2.1; have a_3 : tPo T P (j + 1) h61 := u64 T P j a_1 (by omega); exact ⟨fun _ => ⟨by omega, a_3⟩, fun z => absurd z (by omega)⟩)⟩
      · refine zj_iload_n (zdk ttX7_readOperand 10 rfl rfl) rfl ?_
        refine zj_sipush (zdk ttX7_readOperand 11 rfl rfl) (by decide) ?_
        refine zj_icmp_ne (t := 38) (zdk ttX7_readOperand 12 rfl rfl) (by decide) (by omega) (by decide) (fun c69 => ?_) (fun c69 => ?_)
        · refine zj_aload_n (zdk ttX7_readOperand 18 rfl rfl) rfl (by omega) ?_
          refine zj_iload_n (zdk ttX7_readOperand 19 rfl rfl) rfl ?_
          refine zj_sipush (zdk ttX7_readOperand 20 rfl rfl) (by decide) ?_
          refine zj_isub (zdk ttX7_readOperand 21 rfl rfl) ?_
          refine zj_callV (av := [.inl ((h.2 103 6) - 1000)]) (st := []) (zdk ttX7_readOperand 22 rfl rfl) mb_X3_put mv_RX7_77 (ci := 3) rfl rfl (k_3_0 s0 r_p1) rfl rfl (Nat.le_of_ble_eq_true rfl) (s_X3_put l h p1 ((h.2 103 6) - 1000) s0 r_p1 (by omega)) (rm_ok (by decide) (by decide)) (zq_v fun h72 q70 => ?_)
          obtain ⟨s74, f75⟩ := q70
          refine zj_goto (t := 93) (zdk ttX7_readOperand 23 rfl rfl) (by decide) ?_
          refine zj_aload_n (zdk ttX7_readOperand 45 rfl rfl) rfl (by decide) ?_
          refine zj_getr (r := 103) (zdk ttX7_readOperand 46 rfl rfl) zf_RX7_9 rfl (k_L107 s74) (rf_L107_0 s74) ?_
          refine zj_callV (av := []) (st := []) (zdk ttX7_readOperand 47 rfl rfl) mb_X6_pass mv_RX7_47 (ci := 6) rfl rfl (k_L103 s74) rfl rfl (Nat.le_of_ble_eq_true rfl) (s2_X6_pass l h72 s74) (rm_ok (by decide) (by decide)) (zq_v fun h78 q76 => ?_)
          obtain ⟨s80, f82, u81⟩ := q76
          refine zj_iconst (zdk ttX7_readOperand 48 rfl rfl) ?_
          have f84 : zfC (w_X7_readOperand p1) h h72 := zfC_t (zfC_r _ _) f75 (fun a9 b9 z9 => by
            rcases z9 with z9 | z9
            · exact (Or.inr (Or.inl (by omega)))
            · exact (Or.inr (Or.inr (by omega))))
          have f83 : zfC (w_X7_readOperand p1) h h78 := zfC_t f84 f82 (fun a9 b9 z9 => by
            exact (Or.inl (by omega)))
          have b85 : h72.2 103 6 = (h.2 103 6) := (zfC_a f75 (fun z9 => by unfold w_X3_put at z9; first | (revert z9; decide) | omega))
          exact zj_zret rfl (zdk ttX7_readOperand 49 rfl rfl) (Nat.le_refl _) (Nat.le_refl _) (by omega) ⟨1, rfl, by omega, s80, f83, (by intro T P j t0; have k0 := t0.2.2.1.2; have l0 := t0.2.2.2.1; have o9 := tOp_f p2 (T j); have a_1 : tPo T P j h72 := tPo_f t0 (fun i => (zfC_a f75 (fun z9 => by unfold w_X3_put at z9; first | (revert z9; decide) | omega))) (fun i => (zfC_a f75 (fun z9 => by unfold w_X3_put at z9; first | (revert z9; decide) | omega))) (zfC_a f75 (fun z9 => by unfold w_X3_put at z9; first | (revert z9; decide) | omega)) (zfC_a f75 (fun z9 => by unfold w_X3_put at z9; first | (revert z9; decide) | omega)) (zfC_a f75 (fun z9 => by unfold w_X3_put at z9; first | (revert z9; decide) | omega)) (zfC_a f75 (fun z9 => by unfold w_X3_put at z9; first | (revert z9; decide) | omega)) (zfC_a f75 (fun z9 => by unfold w_X3_put at z9; first | (revert z9; decide) | omega)); have k_2 := a_1.2.2.1.2; have k_2l := a_1.2.2.2.1; have a_3 : tPo T P (j + 1) h78 := u81 T P j a_1 (by omega); exact ⟨fun _ => ⟨by omega, a_3⟩, fun z => absurd z (by omega)⟩)⟩
        · refine zj_aload_n (zdk ttX7_readOperand 13 rfl rfl) rfl (by decide) ?_
          refine zj_getr (r := 103) (zdk ttX7_readOperand 14 rfl rfl) zf_RX7_9 rfl (k_L107 s0) (rf_L107_0 s0) ?_
          refine zj_iconst (zdk ttX7_readOperand 15 rfl rfl) ?_
          refine zj_callV (av := [.inl 2]) (st := []) (zdk ttX7_readOperand 16 rfl rfl) mb_X6_refuse mv_RX7_81 (ci := 6) rfl rfl (k_L103 s0) rfl rfl (Nat.le_of_ble_eq_true rfl) (s2_X6_refuse l h 2 s0 (by omega)) (rm_ok (by decide) (by decide)) (zq_i fun v87 h88 q86 => ?_)
          obtain ⟨b89, s90, f92, u91⟩ := q86
          have f93 : zfC (w_X7_readOperand p1) h h88 := zfC_t (zfC_r _ _) f92 (fun a9 b9 z9 => by
            exact (Or.inl (by omega)))
          have b94 : h88.2 103 6 = (h.2 103 6) := (zfC_a f92 (fun z9 => by unfold w_X6_refuse at z9; first | (revert z9; decide) | omega))
          exact zj_zret rfl (zdk ttX7_readOperand 17 rfl rfl) (Nat.le_refl _) (Nat.le_refl _) (by omega) ⟨v87, rfl, by omega, s90, f93, (by intro T P j t0; have k0 := t0.2.2.1.2; have l0 := t0.2.2.2.1; have e_1 := u91 T P j t0; have o9 := tOp_f p2 (T j); exact ⟨fun z => absurd z (by omega), fun _ => ⟨by omega, by have e9 := e_1.1; omega, e_1.2⟩⟩)⟩

abbrev q2_X7_readSum (h : zM) (p1 : Int) : Option zV → zM → Prop := zqi fun v h' => (0 ≤ v ∧ v ≤ 1) ∧ okC h' ∧ zfC (w_X7_readSum p1) h h' ∧ (∀ T P j, tPo T P j h → (v = 1 → ∃ j9, tPo T P j9 h' ∧ j < j9 ∧ ∀ p9 s9, tRe T p9 (3, j, 0, s9) (5, j9, 0, s9)) ∧ (v = 0 → ∃ i9 f9, (h'.2 103 7 = f9 ∧ h'.2 103 8 = P i9) ∧ ∀ p9 s9, tRe T p9 (3, j, 0, s9) (tEr i9 f9)))
set_option maxRecDepth 100000 in
set_option maxHeartbeats 4000000 in
theorem s2_X7_readSum (l : Launch) (h : zM) (p1 : Int) (s0 : okC h) (r_p1 : zLw p1) : zT shC l yX7_readSum cX7_readSum 6 (some .boolean) (rmL 6) 0 0 [.inr 107, .inr p1] h (q2_X7_readSum h p1) := by
  refine zT_of (by decide +kernel) (L0 := [some (.inr 107), some (.inr p1), none, none, none, none]) rfl (Nat.le_of_ble_eq_true rfl) ?_
  have b1 := zLw_b r_p1
  refine zj_aload_n (zdk ttX7_readSum 0 rfl rfl) rfl (by decide) ?_
  refine zj_aload_n (zdk ttX7_readSum 1 rfl rfl) rfl (by omega) ?_
  refine zj_iconst (zdk ttX7_readSum 2 rfl rfl) ?_
  refine zj_callV (av := [.inr p1, .inl 0]) (st := []) (zdk ttX7_readSum 3 rfl rfl) mb_X7_readOperand mv_RX7_84 (ci := 7) rfl rfl (k_L107 s0) rfl rfl (Nat.le_of_ble_eq_true rfl) (s2_X7_readOperand l h p1 0 s0 r_p1 (by omega)) (rm_ok (by decide) (by decide)) (zq_i fun v3 h4 q2 => ?_)
  obtain ⟨b5, s6, f8, u7⟩ := q2
  refine zj_if_ne (t := 11) (zdk ttX7_readSum 4 rfl rfl) (by decide) (by omega) (fun c9 => ?_) (fun c9 => ?_)
  · refine zj_iconst (zdk ttX7_readSum 7 rfl rfl) ?_
    refine zj_istore_n (L' := [some (.inr 107), some (.inr p1), some (.inl 0), none, none, none]) (zdk ttX7_readSum 8 rfl rfl) (by decide) rfl ?_
    refine zj_iconst (zdk ttX7_readSum 9 rfl rfl) ?_
    refine zj_istore_n (L' := [some (.inr 107), some (.inr p1), some (.inl 0), some (.inl 0), none, none]) (zdk ttX7_readSum 10 rfl rfl) (by decide) rfl ?_
    have lp151 : ∀ (n : Nat) (x10 x11 : Int) (h12 : zM), (0 ≤ x10 ∧ x10 ≤ 62) → (0 ≤ x11 ∧ x11 ≤ 400) → okC h12 → zfC (w_X7_readSum p1) h h12 → (∀ T P j, tPo T P j h → ∃ j9, tPo T P j9 h12 ∧ (2 * x11 + 1 ≤ j9 ∧ j < j9) ∧ ∀ p9 s9, tRe T p9 (3, j, 0, s9) (4, j9, x10, s9)) → (401 - x11).toNat < n → zJ shC l yX7_readSum cX7_readSum 6 (some .boolean) (rmL 6) 0 0 (q2_X7_readSum h p1) 0 0 15 [some (.inr 107), some (.inr p1), some (.inl x10), some (.inl x11), none, none] [] h12 := by
      intro n
      induction n with
      | zero => intro x10 x11 h12 b152 b153 s13 f14 u154 m155; exact absurd m155 (Nat.not_lt_zero _)
      | succ n ih156 =>
        intro x10 x11 h12 b152 b153 s13 f14 u154 m155
        refine zj_iload_n (zdk ttX7_readSum 11 rfl rfl) rfl ?_
        refine zj_sipush (zdk ttX7_readSum 12 rfl rfl) (by decide) ?_
        refine zj_icmp_ge (t := 147) (zdk ttX7_readSum 13 rfl rfl) (by decide) (by omega) (by decide) (fun c157 => ?_) (fun c157 => ?_)
        · refine zj_aload_n (zdk ttX7_readSum 74 rfl rfl) rfl (by decide) ?_
          refine zj_getr (r := 103) (zdk ttX7_readSum 75 rfl rfl) zf_RX7_9 rfl (k_L107 s13) (rf_L107_0 s13) ?_
          refine zj_iconst (zdk ttX7_readSum 76 rfl rfl) ?_
          refine zj_callV (av := [.inl 1]) (st := []) (zdk ttX7_readSum 77 rfl rfl) mb_X6_refuse mv_RX7_81 (ci := 6) rfl rfl (k_L103 s13) rfl rfl (Nat.le_of_ble_eq_true rfl) (s2_X6_refuse l h12 1 s13 (by omega)) (rm_ok (by decide) (by decide)) (zq_i fun v159 h160 q158 => ?_)
          obtain ⟨b161, s162, f164, u163⟩ := q158
          have f165 : zfC (w_X7_readSum p1) h h160 := zfC_t f14 f164 (fun a9 b9 z9 => by
            exact (Or.inl (by omega)))
          have b166 : h160.2 103 6 = (h12.2 103 6) := (zfC_a f164 (fun z9 => by unfold w_X6_refuse at z9; first | (revert z9; decide) | omega))
          exact zj_zret rfl (zdk ttX7_readSum 78 rfl rfl) (Nat.le_refl _) (Nat.le_refl _) (by omega) ⟨v159, rfl, by omega, s162, f165, (by intro T P j t0; have k0 := t0.2.2.1.2; have l0 := t0.2.2.2.1; obtain ⟨x_1j, x_1a, x_1l, x_1r⟩ := u154 T P j t0; have k_2 := x_1a.2.2.1.2; have k_2l := x_1a.2.2.2.1; exact absurd l0 (by omega))⟩
        · refine zj_aload_n (zdk ttX7_readSum 14 rfl rfl) rfl (by decide) ?_
          refine zj_getr (r := 103) (zdk ttX7_readSum 15 rfl rfl) zf_RX7_9 rfl (k_L107 s13) (rf_L107_0 s13) ?_
          have b167 : -2147483648 ≤ (h12.2 103 6) ∧ (h12.2 103 6) ≤ 2147483647 := fb_L103_6 s13
          refine zj_geti (v := (h12.2 103 6)) (zdk ttX7_readSum 16 rfl rfl) zf_RX7_32 rfl (k_L103 s13) rfl ?_
          refine zj_istore (L' := [some (.inr 107), some (.inr p1), some (.inl x10), some (.inl x11), some (.inl (h12.2 103 6)), none]) (zdk ttX7_readSum 17 rfl rfl) (by decide) rfl ?_
          refine zj_iload (zdk ttX7_readSum 18 rfl rfl) rfl ?_
          refine zj_bipush (zdk ttX7_readSum 19 rfl rfl) (by decide) ?_
          refine zj_icmp_eq (t := 45) (zdk ttX7_readSum 20 rfl rfl) (by decide) (by omega) (by decide) (fun c168 => ?_) (fun c168 => ?_)
          · refine zj_iconst (zdk ttX7_readSum 24 rfl rfl) ?_
            refine zj_goto (t := 50) (zdk ttX7_readSum 25 rfl rfl) (by decide) ?_
            refine zj_istore (L' := [some (.inr 107), some (.inr p1), some (.inl x10), some (.inl x11), some (.inl (h12.2 103 6)), some (.inl 1)]) (zdk ttX7_readSum 27 rfl rfl) (by decide) rfl ?_
            refine zj_iload (zdk ttX7_readSum 28 rfl rfl) rfl ?_
            refine zj_if_ne (t := 70) (zdk ttX7_readSum 29 rfl rfl) (by decide) (by decide) (fun c169 => ?_) (fun c169 => ?_)
            · refine zj_iload (zdk ttX7_readSum 37 rfl rfl) rfl ?_
              refine zj_if_ne (t := 91) (zdk ttX7_readSum 38 rfl rfl) (by decide) (by decide) (fun c170 => ?_) (fun c170 => ?_)
              · refine zj_aload_n (zdk ttX7_readSum 47 rfl rfl) rfl (by decide) ?_
                refine zj_getr (r := 103) (zdk ttX7_readSum 48 rfl rfl) zf_RX7_9 rfl (k_L107 s13) (rf_L107_0 s13) ?_
                refine zj_callV (av := []) (st := []) (zdk ttX7_readSum 49 rfl rfl) mb_X6_pass mv_RX7_47 (ci := 6) rfl rfl (k_L103 s13) rfl rfl (Nat.le_of_ble_eq_true rfl) (s2_X6_pass l h12 s13) (rm_ok (by decide) (by decide)) (zq_v fun h173 q171 => ?_)
                obtain ⟨s175, f177, u176⟩ := q171
                refine zj_aload_n (zdk ttX7_readSum 50 rfl rfl) rfl (by decide) ?_
                refine zj_aload_n (zdk ttX7_readSum 51 rfl rfl) rfl (by omega) ?_
                refine zj_iload (zdk ttX7_readSum 52 rfl rfl) rfl ?_
                refine zj_bipush (zdk ttX7_readSum 53 rfl rfl) (by decide) ?_
                refine zj_icmp_ne (t := 111) (zdk ttX7_readSum 54 rfl rfl) (by decide) (by omega) (by decide) (fun c178 => ?_) (fun c178 => ?_)
                · refine zj_iconst (zdk ttX7_readSum 57 rfl rfl) ?_
                  refine zj_callV (av := [.inr p1, .inl 0]) (st := []) (zdk ttX7_readSum 58 rfl rfl) mb_X7_readOperand mv_RX7_84 (ci := 7) rfl rfl (k_L107 s175) rfl rfl (Nat.le_of_ble_eq_true rfl) (s2_X7_readOperand l h173 p1 0 s175 r_p1 (by omega)) (rm_ok (by decide) (by decide)) (zq_i fun v180 h181 q179 => ?_)
                  obtain ⟨b182, s183, f185, u184⟩ := q179
                  refine zj_if_ne (t := 120) (zdk ttX7_readSum 59 rfl rfl) (by decide) (by omega) (fun c186 => ?_) (fun c186 => ?_)
                  · refine zj_iload (zdk ttX7_readSum 62 rfl rfl) rfl ?_
                    refine zj_if_eq (t := 138) (zdk ttX7_readSum 63 rfl rfl) (by decide) (by decide) (fun c187 => ?_) (fun c187 => ?_)
                    · exact absurd c187 (by omega)
                    · refine zj_aload_n (zdk ttX7_readSum 64 rfl rfl) rfl (by omega) ?_
                      refine zj_sipush (zdk ttX7_readSum 65 rfl rfl) (by decide) ?_
                      refine zj_iload (zdk ttX7_readSum 66 rfl rfl) rfl ?_
                      refine zj_iadd (zdk ttX7_readSum 67 rfl rfl) ?_
                      refine zj_callV (av := [.inl (20000 + (h12.2 103 6))]) (st := []) (zdk ttX7_readSum 68 rfl rfl) mb_X3_put mv_RX7_77 (ci := 3) rfl rfl (k_3_0 s183 r_p1) rfl rfl (Nat.le_of_ble_eq_true rfl) (s_X3_put l h181 p1 (20000 + (h12.2 103 6)) s183 r_p1 (by omega)) (rm_ok (by decide) (by decide)) (zq_v fun h190 q188 => ?_)
                      obtain ⟨s192, f193⟩ := q188
                      refine zj_goto (t := 141) (zdk ttX7_readSum 69 rfl rfl) (by decide) ?_
                      refine zj_iinc (L' := [some (.inr 107), some (.inr p1), some (.inl x10), some (.inl (x11 + 1)), some (.inl (h12.2 103 6)), some (.inl 1)]) (zdk ttX7_readSum 72 rfl rfl) rfl (by decide) rfl ?_
                      refine zj_goto (t := 15) (zdk ttX7_readSum 73 rfl rfl) (by decide) ?_
                      refine zj_kill (k := 4) (L' := [some (.inr 107), some (.inr p1), some (.inl x10), some (.inl (x11 + 1)), none, some (.inl 1)]) rfl ?_
                      refine zj_kill (k := 5) (L' := [some (.inr 107), some (.inr p1), some (.inl x10), some (.inl (x11 + 1)), none, none]) rfl ?_
                      have f196 : zfC (w_X7_readSum p1) h h173 := zfC_t f14 f177 (fun a9 b9 z9 => by
                        exact (Or.inl (by omega)))
                      have f195 : zfC (w_X7_readSum p1) h h181 := zfC_t f196 f185 (fun a9 b9 z9 => by
                        rcases z9 with z9 | z9 | z9
                        · exact (Or.inl z9)
                        · exact (Or.inr (Or.inl (by omega)))
                        · exact (Or.inr (Or.inr (by omega))))
                      have f194 : zfC (w_X7_readSum p1) h h190 := zfC_t f195 f193 (fun a9 b9 z9 => by
                        rcases z9 with z9 | z9
                        · exact (Or.inr (Or.inl (by omega)))
                        · exact (Or.inr (Or.inr (by omega))))
                      have b197 : h190.2 103 6 = (h181.2 103 6) := (zfC_a f193 (fun z9 => by unfold w_X3_put at z9; first | (revert z9; decide) | omega))
                      exact ih156  x10 (x11 + 1) h190 (by omega) (by omega) s192 f194 (by intro T P j t0; have k0 := t0.2.2.1.2; have l0 := t0.2.2.2.1; obtain ⟨x_1j, x_1a, x_1l, x_1r⟩ := u154 T P j t0; have k_2 := x_1a.2.2.1.2; have k_2l := x_1a.2.2.2.1; have k_3 := x_1a.2.2.1.2; have k_3l := x_1a.2.2.2.1; have a_4 : tPo T P (x_1j + 1) h173 := u176 T P x_1j x_1a (by omega); have r_5 := (u184 T P (x_1j + 1) a_4).1 (by omega); have r_5a : tPo T P ((x_1j + 1) + 1) h181 := r_5.2; have a_6 : tPo T P ((x_1j + 1) + 1) h190 := tPo_f r_5a (fun i => (zfC_a f193 (fun z9 => by unfold w_X3_put at z9; first | (revert z9; decide) | omega))) (fun i => (zfC_a f193 (fun z9 => by unfold w_X3_put at z9; first | (revert z9; decide) | omega))) (zfC_a f193 (fun z9 => by unfold w_X3_put at z9; first | (revert z9; decide) | omega)) (zfC_a f193 (fun z9 => by unfold w_X3_put at z9; first | (revert z9; decide) | omega)) (zfC_a f193 (fun z9 => by unfold w_X3_put at z9; first | (revert z9; decide) | omega)) (zfC_a f193 (fun z9 => by unfold w_X3_put at z9; first | (revert z9; decide) | omega)) (zfC_a f193 (fun z9 => by unfold w_X3_put at z9; first | (revert z9; decide) | omega)); exact ⟨((x_1j + 1) + 1), a_6, by omega, fun p9 s9 => tRe_s (x_1r p9 s9) (by rw [show x_1j + 1 + 1 = x_1j + 2 by omega]; exact tM4_y (by omega) (by first | rw [show T x_1j - 42 = 0 by omega] | exact tOp_dv (by omega) (by omega)) r_5.1)⟩) (by omega)
                  · refine zj_iconst (zdk ttX7_readSum 60 rfl rfl) ?_
                    have f199 : zfC (w_X7_readSum p1) h h173 := zfC_t f14 f177 (fun a9 b9 z9 => by
                      exact (Or.inl (by omega)))
                    have f198 : zfC (w_X7_readSum p1) h h181 := zfC_t f199 f185 (fun a9 b9 z9 => by
                      rcases z9 with z9 | z9 | z9
                      · exact (Or.inl z9)
                      · exact (Or.inr (Or.inl (by omega)))
                      · exact (Or.inr (Or.inr (by omega))))
                    exact zj_zret rfl (zdk ttX7_readSum 61 rfl rfl) (Nat.le_refl _) (Nat.le_refl _) (by omega) ⟨0, rfl, by omega, s183, f198, (by intro T P j t0; have k0 := t0.2.2.1.2; have l0 := t0.2.2.2.1; obtain ⟨x_1j, x_1a, x_1l, x_1r⟩ := u154 T P j t0; have k_2 := x_1a.2.2.1.2; have k_2l := x_1a.2.2.2.1; have k_3 := x_1a.2.2.1.2; have k_3l := x_1a.2.2.2.1; have a_4 : tPo T P (x_1j + 1) h173 := u176 T P x_1j x_1a (by omega); have e_5 := (u184 T P (x_1j + 1) a_4).2 (by omega); exact ⟨fun z => absurd z (by omega), fun _ => ⟨(x_1j + 1), _, e_5.2, fun p9 s9 => tRe_s (x_1r p9 s9) (tM4_n (by omega) (by first | rw [show T x_1j - 42 = 0 by omega] | exact tOp_dv (by omega) (by omega)) (by omega) rfl)⟩⟩)⟩
                · exact absurd c178 (by omega)
              · exact absurd c170 (by omega)
            · exact absurd c169 (by omega)
          · refine zj_iload (zdk ttX7_readSum 21 rfl rfl) rfl ?_
            refine zj_bipush (zdk ttX7_readSum 22 rfl rfl) (by decide) ?_
            refine zj_icmp_ne (t := 49) (zdk ttX7_readSum 23 rfl rfl) (by decide) (by omega) (by decide) (fun c200 => ?_) (fun c200 => ?_)
            · refine zj_iconst (zdk ttX7_readSum 26 rfl rfl) ?_
              refine zj_istore (L' := [some (.inr 107), some (.inr p1), some (.inl x10), some (.inl x11), some (.inl (h12.2 103 6)), some (.inl 0)]) (zdk ttX7_readSum 27 rfl rfl) (by decide) rfl ?_
              refine zj_iload (zdk ttX7_readSum 28 rfl rfl) rfl ?_
              refine zj_if_ne (t := 70) (zdk ttX7_readSum 29 rfl rfl) (by decide) (by decide) (fun c201 => ?_) (fun c201 => ?_)
              · exact absurd c201 (by omega)
              · refine zj_iload_n (zdk ttX7_readSum 30 rfl rfl) rfl ?_
                refine zj_if_eq (t := 70) (zdk ttX7_readSum 31 rfl rfl) (by decide) (by omega) (fun c202 => ?_) (fun c202 => ?_)
                · refine zj_iload (zdk ttX7_readSum 37 rfl rfl) rfl ?_
                  refine zj_if_ne (t := 91) (zdk ttX7_readSum 38 rfl rfl) (by decide) (by decide) (fun c203 => ?_) (fun c203 => ?_)
                  · exact absurd c203 (by omega)
                  · refine zj_iload (zdk ttX7_readSum 39 rfl rfl) rfl ?_
                    refine zj_bipush (zdk ttX7_readSum 40 rfl rfl) (by decide) ?_
                    refine zj_icmp_eq (t := 91) (zdk ttX7_readSum 41 rfl rfl) (by decide) (by omega) (by decide) (fun c204 => ?_) (fun c204 => ?_)
                    · refine zj_aload_n (zdk ttX7_readSum 47 rfl rfl) rfl (by decide) ?_
                      refine zj_getr (r := 103) (zdk ttX7_readSum 48 rfl rfl) zf_RX7_9 rfl (k_L107 s13) (rf_L107_0 s13) ?_
                      refine zj_callV (av := []) (st := []) (zdk ttX7_readSum 49 rfl rfl) mb_X6_pass mv_RX7_47 (ci := 6) rfl rfl (k_L103 s13) rfl rfl (Nat.le_of_ble_eq_true rfl) (s2_X6_pass l h12 s13) (rm_ok (by decide) (by decide)) (zq_v fun h207 q205 => ?_)
                      obtain ⟨s209, f211, u210⟩ := q205
                      refine zj_aload_n (zdk ttX7_readSum 50 rfl rfl) rfl (by decide) ?_
                      refine zj_aload_n (zdk ttX7_readSum 51 rfl rfl) rfl (by omega) ?_
                      refine zj_iload (zdk ttX7_readSum 52 rfl rfl) rfl ?_
                      refine zj_bipush (zdk ttX7_readSum 53 rfl rfl) (by decide) ?_
                      refine zj_icmp_ne (t := 111) (zdk ttX7_readSum 54 rfl rfl) (by decide) (by omega) (by decide) (fun c212 => ?_) (fun c212 => ?_)
                      · refine zj_iconst (zdk ttX7_readSum 57 rfl rfl) ?_
                        refine zj_callV (av := [.inr p1, .inl 0]) (st := []) (zdk ttX7_readSum 58 rfl rfl) mb_X7_readOperand mv_RX7_84 (ci := 7) rfl rfl (k_L107 s209) rfl rfl (Nat.le_of_ble_eq_true rfl) (s2_X7_readOperand l h207 p1 0 s209 r_p1 (by omega)) (rm_ok (by decide) (by decide)) (zq_i fun v214 h215 q213 => ?_)
                        obtain ⟨b216, s217, f219, u218⟩ := q213
                        refine zj_if_ne (t := 120) (zdk ttX7_readSum 59 rfl rfl) (by decide) (by omega) (fun c220 => ?_) (fun c220 => ?_)
                        · refine zj_iload (zdk ttX7_readSum 62 rfl rfl) rfl ?_
                          refine zj_if_eq (t := 138) (zdk ttX7_readSum 63 rfl rfl) (by decide) (by decide) (fun c221 => ?_) (fun c221 => ?_)
                          · refine zj_iload (zdk ttX7_readSum 70 rfl rfl) rfl ?_
                            refine zj_istore_n (L' := [some (.inr 107), some (.inr p1), some (.inl (h12.2 103 6)), some (.inl x11), some (.inl (h12.2 103 6)), some (.inl 0)]) (zdk ttX7_readSum 71 rfl rfl) (by decide) rfl ?_
                            refine zj_iinc (L' := [some (.inr 107), some (.inr p1), some (.inl (h12.2 103 6)), some (.inl (x11 + 1)), some (.inl (h12.2 103 6)), some (.inl 0)]) (zdk ttX7_readSum 72 rfl rfl) rfl (by decide) rfl ?_
                            refine zj_goto (t := 15) (zdk ttX7_readSum 73 rfl rfl) (by decide) ?_
                            refine zj_kill (k := 4) (L' := [some (.inr 107), some (.inr p1), some (.inl (h12.2 103 6)), some (.inl (x11 + 1)), none, some (.inl 0)]) rfl ?_
                            refine zj_kill (k := 5) (L' := [some (.inr 107), some (.inr p1), some (.inl (h12.2 103 6)), some (.inl (x11 + 1)), none, none]) rfl ?_
                            have f223 : zfC (w_X7_readSum p1) h h207 := zfC_t f14 f211 (fun a9 b9 z9 => by
                              exact (Or.inl (by omega)))
                            have f222 : zfC (w_X7_readSum p1) h h215 := zfC_t f223 f219 (fun a9 b9 z9 => by
                              rcases z9 with z9 | z9 | z9
                              · exact (Or.inl z9)
                              · exact (Or.inr (Or.inl (by omega)))
                              · exact (Or.inr (Or.inr (by omega))))
                            exact ih156  (h12.2 103 6) (x11 + 1) h215 (by omega) (by omega) s217 f222 (by intro T P j t0; have k0 := t0.2.2.1.2; have l0 := t0.2.2.2.1; obtain ⟨x_1j, x_1a, x_1l, x_1r⟩ := u154 T P j t0; have k_2 := x_1a.2.2.1.2; have k_2l := x_1a.2.2.2.1; have k_3 := x_1a.2.2.1.2; have k_3l := x_1a.2.2.2.1; have a_4 : tPo T P (x_1j + 1) h207 := u210 T P x_1j x_1a (by omega); have r_5 := (u218 T P (x_1j + 1) a_4).1 (by omega); have r_5a : tPo T P ((x_1j + 1) + 1) h215 := r_5.2; exact ⟨((x_1j + 1) + 1), r_5a, by omega, fun p9 s9 => tRe_s (tRe_s (x_1r p9 s9) (tM4_s (by omega))) (by have z9 := tM3_y (T := T) (p := p9) (w := T x_1j) (s := s9) (j := x_1j + 1) rfl r_5.1; rw [show T x_1j = (h12.2 103 6) by omega] at z9; rw [show T x_1j = (h12.2 103 6) by omega]; exact z9)⟩) (by omega)
                          · exact absurd c221 (by omega)
                        · refine zj_iconst (zdk ttX7_readSum 60 rfl rfl) ?_
                          have f225 : zfC (w_X7_readSum p1) h h207 := zfC_t f14 f211 (fun a9 b9 z9 => by
                            exact (Or.inl (by omega)))
                          have f224 : zfC (w_X7_readSum p1) h h215 := zfC_t f225 f219 (fun a9 b9 z9 => by
                            rcases z9 with z9 | z9 | z9
                            · exact (Or.inl z9)
                            · exact (Or.inr (Or.inl (by omega)))
                            · exact (Or.inr (Or.inr (by omega))))
                          exact zj_zret rfl (zdk ttX7_readSum 61 rfl rfl) (Nat.le_refl _) (Nat.le_refl _) (by omega) ⟨0, rfl, by omega, s217, f224, (by intro T P j t0; have k0 := t0.2.2.1.2; have l0 := t0.2.2.2.1; obtain ⟨x_1j, x_1a, x_1l, x_1r⟩ := u154 T P j t0; have k_2 := x_1a.2.2.1.2; have k_2l := x_1a.2.2.2.1; have k_3 := x_1a.2.2.1.2; have k_3l := x_1a.2.2.2.1; have a_4 : tPo T P (x_1j + 1) h207 := u210 T P x_1j x_1a (by omega); have e_5 := (u218 T P (x_1j + 1) a_4).2 (by omega); exact ⟨fun z => absurd z (by omega), fun _ => ⟨(x_1j + 1), _, e_5.2, fun p9 s9 => tRe_s (tRe_s (x_1r p9 s9) (tM4_s (by omega))) (tM3_n rfl (by omega) rfl)⟩⟩)⟩
                      · exact absurd c212 (by omega)
                    · refine zj_iload (zdk ttX7_readSum 42 rfl rfl) rfl ?_
                      refine zj_bipush (zdk ttX7_readSum 43 rfl rfl) (by decide) ?_
                      refine zj_icmp_eq (t := 91) (zdk ttX7_readSum 44 rfl rfl) (by decide) (by omega) (by decide) (fun c226 => ?_) (fun c226 => ?_)
                      · refine zj_aload_n (zdk ttX7_readSum 47 rfl rfl) rfl (by decide) ?_
                        refine zj_getr (r := 103) (zdk ttX7_readSum 48 rfl rfl) zf_RX7_9 rfl (k_L107 s13) (rf_L107_0 s13) ?_
                        refine zj_callV (av := []) (st := []) (zdk ttX7_readSum 49 rfl rfl) mb_X6_pass mv_RX7_47 (ci := 6) rfl rfl (k_L103 s13) rfl rfl (Nat.le_of_ble_eq_true rfl) (s2_X6_pass l h12 s13) (rm_ok (by decide) (by decide)) (zq_v fun h229 q227 => ?_)
                        obtain ⟨s231, f233, u232⟩ := q227
                        refine zj_aload_n (zdk ttX7_readSum 50 rfl rfl) rfl (by decide) ?_
                        refine zj_aload_n (zdk ttX7_readSum 51 rfl rfl) rfl (by omega) ?_
                        refine zj_iload (zdk ttX7_readSum 52 rfl rfl) rfl ?_
                        refine zj_bipush (zdk ttX7_readSum 53 rfl rfl) (by decide) ?_
                        refine zj_icmp_ne (t := 111) (zdk ttX7_readSum 54 rfl rfl) (by decide) (by omega) (by decide) (fun c234 => ?_) (fun c234 => ?_)
                        · refine zj_iconst (zdk ttX7_readSum 57 rfl rfl) ?_
                          refine zj_callV (av := [.inr p1, .inl 0]) (st := []) (zdk ttX7_readSum 58 rfl rfl) mb_X7_readOperand mv_RX7_84 (ci := 7) rfl rfl (k_L107 s231) rfl rfl (Nat.le_of_ble_eq_true rfl) (s2_X7_readOperand l h229 p1 0 s231 r_p1 (by omega)) (rm_ok (by decide) (by decide)) (zq_i fun v236 h237 q235 => ?_)
                          obtain ⟨b238, s239, f241, u240⟩ := q235
                          refine zj_if_ne (t := 120) (zdk ttX7_readSum 59 rfl rfl) (by decide) (by omega) (fun c242 => ?_) (fun c242 => ?_)
                          · refine zj_iload (zdk ttX7_readSum 62 rfl rfl) rfl ?_
                            refine zj_if_eq (t := 138) (zdk ttX7_readSum 63 rfl rfl) (by decide) (by decide) (fun c243 => ?_) (fun c243 => ?_)
                            · refine zj_iload (zdk ttX7_readSum 70 rfl rfl) rfl ?_
                              refine zj_istore_n (L' := [some (.inr 107), some (.inr p1), some (.inl (h12.2 103 6)), some (.inl x11), some (.inl (h12.2 103 6)), some (.inl 0)]) (zdk ttX7_readSum 71 rfl rfl) (by decide) rfl ?_
                              refine zj_iinc (L' := [some (.inr 107), some (.inr p1), some (.inl (h12.2 103 6)), some (.inl (x11 + 1)), some (.inl (h12.2 103 6)), some (.inl 0)]) (zdk ttX7_readSum 72 rfl rfl) rfl (by decide) rfl ?_
                              refine zj_goto (t := 15) (zdk ttX7_readSum 73 rfl rfl) (by decide) ?_
                              refine zj_kill (k := 4) (L' := [some (.inr 107), some (.inr p1), some (.inl (h12.2 103 6)), some (.inl (x11 + 1)), none, some (.inl 0)]) rfl ?_
                              refine zj_kill (k := 5) (L' := [some (.inr 107), some (.inr p1), some (.inl (h12.2 103 6)), some (.inl (x11 + 1)), none, none]) rfl ?_
                              have f245 : zfC (w_X7_readSum p1) h h229 := zfC_t f14 f233 (fun a9 b9 z9 => by
                                exact (Or.inl (by omega)))
                              have f244 : zfC (w_X7_readSum p1) h h237 := zfC_t f245 f241 (fun a9 b9 z9 => by
                                rcases z9 with z9 | z9 | z9
                                · exact (Or.inl z9)
                                · exact (Or.inr (Or.inl (by omega)))
                                · exact (Or.inr (Or.inr (by omega))))
                              exact ih156  (h12.2 103 6) (x11 + 1) h237 (by omega) (by omega) s239 f244 (by intro T P j t0; have k0 := t0.2.2.1.2; have l0 := t0.2.2.2.1; obtain ⟨x_1j, x_1a, x_1l, x_1r⟩ := u154 T P j t0; have k_2 := x_1a.2.2.1.2; have k_2l := x_1a.2.2.2.1; have k_3 := x_1a.2.2.1.2; have k_3l := x_1a.2.2.2.1; have a_4 : tPo T P (x_1j + 1) h229 := u232 T P x_1j x_1a (by omega); have r_5 := (u240 T P (x_1j + 1) a_4).1 (by omega); have r_5a : tPo T P ((x_1j + 1) + 1) h237 := r_5.2; exact ⟨((x_1j + 1) + 1), r_5a, by omega, fun p9 s9 => tRe_s (tRe_s (x_1r p9 s9) (tM4_s (by omega))) (by have z9 := tM3_y (T := T) (p := p9) (w := T x_1j) (s := s9) (j := x_1j + 1) rfl r_5.1; rw [show T x_1j = (h12.2 103 6) by omega] at z9; rw [show T x_1j = (h12.2 103 6) by omega]; exact z9)⟩) (by omega)
                            · exact absurd c243 (by omega)
                          · refine zj_iconst (zdk ttX7_readSum 60 rfl rfl) ?_
                            have f247 : zfC (w_X7_readSum p1) h h229 := zfC_t f14 f233 (fun a9 b9 z9 => by
                              exact (Or.inl (by omega)))
                            have f246 : zfC (w_X7_readSum p1) h h237 := zfC_t f247 f241 (fun a9 b9 z9 => by
                              rcases z9 with z9 | z9 | z9
                              · exact (Or.inl z9)
                              · exact (Or.inr (Or.inl (by omega)))
                              · exact (Or.inr (Or.inr (by omega))))
                            exact zj_zret rfl (zdk ttX7_readSum 61 rfl rfl) (Nat.le_refl _) (Nat.le_refl _) (by omega) ⟨0, rfl, by omega, s239, f246, (by intro T P j t0; have k0 := t0.2.2.1.2; have l0 := t0.2.2.2.1; obtain ⟨x_1j, x_1a, x_1l, x_1r⟩ := u154 T P j t0; have k_2 := x_1a.2.2.1.2; have k_2l := x_1a.2.2.2.1; have k_3 := x_1a.2.2.1.2; have k_3l := x_1a.2.2.2.1; have a_4 : tPo T P (x_1j + 1) h229 := u232 T P x_1j x_1a (by omega); have e_5 := (u240 T P (x_1j + 1) a_4).2 (by omega); exact ⟨fun z => absurd z (by omega), fun _ => ⟨(x_1j + 1), _, e_5.2, fun p9 s9 => tRe_s (tRe_s (x_1r p9 s9) (tM4_s (by omega))) (tM3_n rfl (by omega) rfl)⟩⟩)⟩
                        · exact absurd c234 (by omega)
                      · refine zj_iconst (zdk ttX7_readSum 45 rfl rfl) ?_
                        exact zj_zret rfl (zdk ttX7_readSum 46 rfl rfl) (Nat.le_refl _) (Nat.le_refl _) (by omega) ⟨1, rfl, by omega, s13, f14, (by intro T P j t0; have k0 := t0.2.2.1.2; have l0 := t0.2.2.2.1; obtain ⟨x_1j, x_1a, x_1l, x_1r⟩ := u154 T P j t0; have k_2 := x_1a.2.2.1.2; have k_2l := x_1a.2.2.2.1; exact ⟨fun _ => ⟨x_1j, x_1a, by omega, fun p9 s9 => tRe_s (x_1r p9 s9) (tM4_e (by omega) (by omega))⟩, fun z => absurd z (by omega)⟩)⟩
                · refine zj_aload_n (zdk ttX7_readSum 32 rfl rfl) rfl (by omega) ?_
                  refine zj_sipush (zdk ttX7_readSum 33 rfl rfl) (by decide) ?_
                  refine zj_iload_n (zdk ttX7_readSum 34 rfl rfl) rfl ?_
                  refine zj_iadd (zdk ttX7_readSum 35 rfl rfl) ?_
                  refine zj_callV (av := [.inl (20000 + x10)]) (st := []) (zdk ttX7_readSum 36 rfl rfl) mb_X3_put mv_RX7_77 (ci := 3) rfl rfl (k_3_0 s13 r_p1) rfl rfl (Nat.le_of_ble_eq_true rfl) (s_X3_put l h12 p1 (20000 + x10) s13 r_p1 (by omega)) (rm_ok (by decide) (by decide)) (zq_v fun h250 q248 => ?_)
                  obtain ⟨s252, f253⟩ := q248
                  refine zj_iload (zdk ttX7_readSum 37 rfl rfl) rfl ?_
                  refine zj_if_ne (t := 91) (zdk ttX7_readSum 38 rfl rfl) (by decide) (by decide) (fun c254 => ?_) (fun c254 => ?_)
                  · exact absurd c254 (by omega)
                  · refine zj_iload (zdk ttX7_readSum 39 rfl rfl) rfl ?_
                    refine zj_bipush (zdk ttX7_readSum 40 rfl rfl) (by decide) ?_
                    refine zj_icmp_eq (t := 91) (zdk ttX7_readSum 41 rfl rfl) (by decide) (by omega) (by decide) (fun c255 => ?_) (fun c255 => ?_)
                    · refine zj_aload_n (zdk ttX7_readSum 47 rfl rfl) rfl (by decide) ?_
                      refine zj_getr (r := 103) (zdk ttX7_readSum 48 rfl rfl) zf_RX7_9 rfl (k_L107 s252) (rf_L107_0 s252) ?_
                      refine zj_callV (av := []) (st := []) (zdk ttX7_readSum 49 rfl rfl) mb_X6_pass mv_RX7_47 (ci := 6) rfl rfl (k_L103 s252) rfl rfl (Nat.le_of_ble_eq_true rfl) (s2_X6_pass l h250 s252) (rm_ok (by decide) (by decide)) (zq_v fun h258 q256 => ?_)
                      obtain ⟨s260, f262, u261⟩ := q256
                      refine zj_aload_n (zdk ttX7_readSum 50 rfl rfl) rfl (by decide) ?_
                      refine zj_aload_n (zdk ttX7_readSum 51 rfl rfl) rfl (by omega) ?_
                      refine zj_iload (zdk ttX7_readSum 52 rfl rfl) rfl ?_
                      refine zj_bipush (zdk ttX7_readSum 53 rfl rfl) (by decide) ?_
                      refine zj_icmp_ne (t := 111) (zdk ttX7_readSum 54 rfl rfl) (by decide) (by omega) (by decide) (fun c263 => ?_) (fun c263 => ?_)
                      · refine zj_iconst (zdk ttX7_readSum 57 rfl rfl) ?_
                        refine zj_callV (av := [.inr p1, .inl 0]) (st := []) (zdk ttX7_readSum 58 rfl rfl) mb_X7_readOperand mv_RX7_84 (ci := 7) rfl rfl (k_L107 s260) rfl rfl (Nat.le_of_ble_eq_true rfl) (s2_X7_readOperand l h258 p1 0 s260 r_p1 (by omega)) (rm_ok (by decide) (by decide)) (zq_i fun v265 h266 q264 => ?_)
                        obtain ⟨b267, s268, f270, u269⟩ := q264
                        refine zj_if_ne (t := 120) (zdk ttX7_readSum 59 rfl rfl) (by decide) (by omega) (fun c271 => ?_) (fun c271 => ?_)
                        · refine zj_iload (zdk ttX7_readSum 62 rfl rfl) rfl ?_
                          refine zj_if_eq (t := 138) (zdk ttX7_readSum 63 rfl rfl) (by decide) (by decide) (fun c272 => ?_) (fun c272 => ?_)
                          · refine zj_iload (zdk ttX7_readSum 70 rfl rfl) rfl ?_
                            refine zj_istore_n (L' := [some (.inr 107), some (.inr p1), some (.inl (h12.2 103 6)), some (.inl x11), some (.inl (h12.2 103 6)), some (.inl 0)]) (zdk ttX7_readSum 71 rfl rfl) (by decide) rfl ?_
                            refine zj_iinc (L' := [some (.inr 107), some (.inr p1), some (.inl (h12.2 103 6)), some (.inl (x11 + 1)), some (.inl (h12.2 103 6)), some (.inl 0)]) (zdk ttX7_readSum 72 rfl rfl) rfl (by decide) rfl ?_
                            refine zj_goto (t := 15) (zdk ttX7_readSum 73 rfl rfl) (by decide) ?_
                            refine zj_kill (k := 4) (L' := [some (.inr 107), some (.inr p1), some (.inl (h12.2 103 6)), some (.inl (x11 + 1)), none, some (.inl 0)]) rfl ?_
                            refine zj_kill (k := 5) (L' := [some (.inr 107), some (.inr p1), some (.inl (h12.2 103 6)), some (.inl (x11 + 1)), none, none]) rfl ?_
                            have f275 : zfC (w_X7_readSum p1) h h250 := zfC_t f14 f253 (fun a9 b9 z9 => by
                              rcases z9 with z9 | z9
                              · exact (Or.inr (Or.inl (by omega)))
                              · exact (Or.inr (Or.inr (by omega))))
                            have f274 : zfC (w_X7_readSum p1) h h258 := zfC_t f275 f262 (fun a9 b9 z9 => by
                              exact (Or.inl (by omega)))
                            have f273 : zfC (w_X7_readSum p1) h h266 := zfC_t f274 f270 (fun a9 b9 z9 => by
                              rcases z9 with z9 | z9 | z9
                              · exact (Or.inl z9)
                              · exact (Or.inr (Or.inl (by omega)))
                              · exact (Or.inr (Or.inr (by omega))))
                            have b276 : h250.2 103 6 = (h12.2 103 6) := (zfC_a f253 (fun z9 => by unfold w_X3_put at z9; first | (revert z9; decide) | omega))
                            exact ih156  (h12.2 103 6) (x11 + 1) h266 (by omega) (by omega) s268 f273 (by intro T P j t0; have k0 := t0.2.2.1.2; have l0 := t0.2.2.2.1; obtain ⟨x_1j, x_1a, x_1l, x_1r⟩ := u154 T P j t0; have k_2 := x_1a.2.2.1.2; have k_2l := x_1a.2.2.2.1; have a_3 : tPo T P x_1j h250 := tPo_f x_1a (fun i => (zfC_a f253 (fun z9 => by unfold w_X3_put at z9; first | (revert z9; decide) | omega))) (fun i => (zfC_a f253 (fun z9 => by unfold w_X3_put at z9; first | (revert z9; decide) | omega))) (zfC_a f253 (fun z9 => by unfold w_X3_put at z9; first | (revert z9; decide) | omega)) (zfC_a f253 (fun z9 => by unfold w_X3_put at z9; first | (revert z9; decide) | omega)) (zfC_a f253 (fun z9 => by unfold w_X3_put at z9; first | (revert z9; decide) | omega)) (zfC_a f253 (fun z9 => by unfold w_X3_put at z9; first | (revert z9; decide) | omega)) (zfC_a f253 (fun z9 => by unfold w_X3_put at z9; first | (revert z9; decide) | omega)); have k_4 := a_3.2.2.1.2; have k_4l := a_3.2.2.2.1; have a_5 : tPo T P (x_1j + 1) h258 := u261 T P x_1j a_3 (by omega); have r_6 := (u269 T P (x_1j + 1) a_5).1 (by omega); have r_6a : tPo T P ((x_1j + 1) + 1) h266 := r_6.2; exact ⟨((x_1j + 1) + 1), r_6a, by omega, fun p9 s9 => tRe_s (tRe_s (x_1r p9 s9) (tM4_s (by omega))) (by have z9 := tM3_y (T := T) (p := p9) (w := T x_1j) (s := s9) (j := x_1j + 1) rfl r_6.1; rw [show T x_1j = (h12.2 103 6) by omega] at z9; rw [show T x_1j = (h12.2 103 6) by omega]; exact z9)⟩) (by omega)
                          · exact absurd c272 (by omega)
                        · refine zj_iconst (zdk ttX7_readSum 60 rfl rfl) ?_
                          have f279 : zfC (w_X7_readSum p1) h h250 := zfC_t f14 f253 (fun a9 b9 z9 => by
                            rcases z9 with z9 | z9
                            · exact (Or.inr (Or.inl (by omega)))
                            · exact (Or.inr (Or.inr (by omega))))
                          have f278 : zfC (w_X7_readSum p1) h h258 := zfC_t f279 f262 (fun a9 b9 z9 => by
                            exact (Or.inl (by omega)))
                          have f277 : zfC (w_X7_readSum p1) h h266 := zfC_t f278 f270 (fun a9 b9 z9 => by
                            rcases z9 with z9 | z9 | z9
                            · exact (Or.inl z9)
                            · exact (Or.inr (Or.inl (by omega)))
                            · exact (Or.inr (Or.inr (by omega))))
                          have b280 : h250.2 103 6 = (h12.2 103 6) := (zfC_a f253 (fun z9 => by unfold w_X3_put at z9; first | (revert z9; decide) | omega))
                          exact zj_zret rfl (zdk ttX7_readSum 61 rfl rfl) (Nat.le_refl _) (Nat.le_refl _) (by omega) ⟨0, rfl, by omega, s268, f277, (by intro T P j t0; have k0 := t0.2.2.1.2; have l0 := t0.2.2.2.1; obtain ⟨x_1j, x_1a, x_1l, x_1r⟩ := u154 T P j t0; have k_2 := x_1a.2.2.1.2; have k_2l := x_1a.2.2.2.1; have a_3 : tPo T P x_1j h250 := tPo_f x_1a (fun i => (zfC_a f253 (fun z9 => by unfold w_X3_put at z9; first | (revert z9; decide) | omega))) (fun i => (zfC_a f253 (fun z9 => by unfold w_X3_put at z9; first | (revert z9; decide) | omega))) (zfC_a f253 (fun z9 => by unfold w_X3_put at z9; first | (revert z9; decide) | omega)) (zfC_a f253 (fun z9 => by unfold w_X3_put at z9; first | (revert z9; decide) | omega)) (zfC_a f253 (fun z9 => by unfold w_X3_put at z9; first | (revert z9; decide) | omega)) (zfC_a f253 (fun z9 => by unfold w_X3_put at z9; first | (revert z9; decide) | omega)) (zfC_a f253 (fun z9 => by unfold w_X3_put at z9; first | (revert z9; decide) | omega)); have k_4 := a_3.2.2.1.2; have k_4l := a_3.2.2.2.1; have a_5 : tPo T P (x_1j + 1) h258 := u261 T P x_1j a_3 (by omega); have e_6 := (u269 T P (x_1j + 1) a_5).2 (by omega); exact ⟨fun z => absurd z (by omega), fun _ => ⟨(x_1j + 1), _, e_6.2, fun p9 s9 => tRe_s (tRe_s (x_1r p9 s9) (tM4_s (by omega))) (tM3_n rfl (by omega) rfl)⟩⟩)⟩
                      · exact absurd c263 (by omega)
                    · refine zj_iload (zdk ttX7_readSum 42 rfl rfl) rfl ?_
                      refine zj_bipush (zdk ttX7_readSum 43 rfl rfl) (by decide) ?_
                      refine zj_icmp_eq (t := 91) (zdk ttX7_readSum 44 rfl rfl) (by decide) (by omega) (by decide) (fun c281 => ?_) (fun c281 => ?_)
                      · refine zj_aload_n (zdk ttX7_readSum 47 rfl rfl) rfl (by decide) ?_
                        refine zj_getr (r := 103) (zdk ttX7_readSum 48 rfl rfl) zf_RX7_9 rfl (k_L107 s252) (rf_L107_0 s252) ?_
                        refine zj_callV (av := []) (st := []) (zdk ttX7_readSum 49 rfl rfl) mb_X6_pass mv_RX7_47 (ci := 6) rfl rfl (k_L103 s252) rfl rfl (Nat.le_of_ble_eq_true rfl) (s2_X6_pass l h250 s252) (rm_ok (by decide) (by decide)) (zq_v fun h284 q282 => ?_)
                        obtain ⟨s286, f288, u287⟩ := q282
                        refine zj_aload_n (zdk ttX7_readSum 50 rfl rfl) rfl (by decide) ?_
                        refine zj_aload_n (zdk ttX7_readSum 51 rfl rfl) rfl (by omega) ?_
                        refine zj_iload (zdk ttX7_readSum 52 rfl rfl) rfl ?_
                        refine zj_bipush (zdk ttX7_readSum 53 rfl rfl) (by decide) ?_
                        refine zj_icmp_ne (t := 111) (zdk ttX7_readSum 54 rfl rfl) (by decide) (by omega) (by decide) (fun c289 => ?_) (fun c289 => ?_)
                        · refine zj_iconst (zdk ttX7_readSum 57 rfl rfl) ?_
                          refine zj_callV (av := [.inr p1, .inl 0]) (st := []) (zdk ttX7_readSum 58 rfl rfl) mb_X7_readOperand mv_RX7_84 (ci := 7) rfl rfl (k_L107 s286) rfl rfl (Nat.le_of_ble_eq_true rfl) (s2_X7_readOperand l h284 p1 0 s286 r_p1 (by omega)) (rm_ok (by decide) (by decide)) (zq_i fun v291 h292 q290 => ?_)
                          obtain ⟨b293, s294, f296, u295⟩ := q290
                          refine zj_if_ne (t := 120) (zdk ttX7_readSum 59 rfl rfl) (by decide) (by omega) (fun c297 => ?_) (fun c297 => ?_)
                          · refine zj_iload (zdk ttX7_readSum 62 rfl rfl) rfl ?_
                            refine zj_if_eq (t := 138) (zdk ttX7_readSum 63 rfl rfl) (by decide) (by decide) (fun c298 => ?_) (fun c298 => ?_)
                            · refine zj_iload (zdk ttX7_readSum 70 rfl rfl) rfl ?_
                              refine zj_istore_n (L' := [some (.inr 107), some (.inr p1), some (.inl (h12.2 103 6)), some (.inl x11), some (.inl (h12.2 103 6)), some (.inl 0)]) (zdk ttX7_readSum 71 rfl rfl) (by decide) rfl ?_
                              refine zj_iinc (L' := [some (.inr 107), some (.inr p1), some (.inl (h12.2 103 6)), some (.inl (x11 + 1)), some (.inl (h12.2 103 6)), some (.inl 0)]) (zdk ttX7_readSum 72 rfl rfl) rfl (by decide) rfl ?_
                              refine zj_goto (t := 15) (zdk ttX7_readSum 73 rfl rfl) (by decide) ?_
                              refine zj_kill (k := 4) (L' := [some (.inr 107), some (.inr p1), some (.inl (h12.2 103 6)), some (.inl (x11 + 1)), none, some (.inl 0)]) rfl ?_
                              refine zj_kill (k := 5) (L' := [some (.inr 107), some (.inr p1), some (.inl (h12.2 103 6)), some (.inl (x11 + 1)), none, none]) rfl ?_
                              have f301 : zfC (w_X7_readSum p1) h h250 := zfC_t f14 f253 (fun a9 b9 z9 => by
                                rcases z9 with z9 | z9
                                · exact (Or.inr (Or.inl (by omega)))
                                · exact (Or.inr (Or.inr (by omega))))
                              have f300 : zfC (w_X7_readSum p1) h h284 := zfC_t f301 f288 (fun a9 b9 z9 => by
                                exact (Or.inl (by omega)))
                              have f299 : zfC (w_X7_readSum p1) h h292 := zfC_t f300 f296 (fun a9 b9 z9 => by
                                rcases z9 with z9 | z9 | z9
                                · exact (Or.inl z9)
                                · exact (Or.inr (Or.inl (by omega)))
                                · exact (Or.inr (Or.inr (by omega))))
                              have b302 : h250.2 103 6 = (h12.2 103 6) := (zfC_a f253 (fun z9 => by unfold w_X3_put at z9; first | (revert z9; decide) | omega))
                              exact ih156  (h12.2 103 6) (x11 + 1) h292 (by omega) (by omega) s294 f299 (by intro T P j t0; have k0 := t0.2.2.1.2; have l0 := t0.2.2.2.1; obtain ⟨x_1j, x_1a, x_1l, x_1r⟩ := u154 T P j t0; have k_2 := x_1a.2.2.1.2; have k_2l := x_1a.2.2.2.1; have a_3 : tPo T P x_1j h250 := tPo_f x_1a (fun i => (zfC_a f253 (fun z9 => by unfold w_X3_put at z9; first | (revert z9; decide) | omega))) (fun i => (zfC_a f253 (fun z9 => by unfold w_X3_put at z9; first | (revert z9; decide) | omega))) (zfC_a f253 (fun z9 => by unfold w_X3_put at z9; first | (revert z9; decide) | omega)) (zfC_a f253 (fun z9 => by unfold w_X3_put at z9; first | (revert z9; decide) | omega)) (zfC_a f253 (fun z9 => by unfold w_X3_put at z9; first | (revert z9; decide) | omega)) (zfC_a f253 (fun z9 => by unfold w_X3_put at z9; first | (revert z9; decide) | omega)) (zfC_a f253 (fun z9 => by unfold w_X3_put at z9; first | (revert z9; decide) | omega)); have k_4 := a_3.2.2.1.2; have k_4l := a_3.2.2.2.1; have a_5 : tPo T P (x_1j + 1) h284 := u287 T P x_1j a_3 (by omega); have r_6 := (u295 T P (x_1j + 1) a_5).1 (by omega); have r_6a : tPo T P ((x_1j + 1) + 1) h292 := r_6.2; exact ⟨((x_1j + 1) + 1), r_6a, by omega, fun p9 s9 => tRe_s (tRe_s (x_1r p9 s9) (tM4_s (by omega))) (by have z9 := tM3_y (T := T) (p := p9) (w := T x_1j) (s := s9) (j := x_1j + 1) rfl r_6.1; rw [show T x_1j = (h12.2 103 6) by omega] at z9; rw [show T x_1j = (h12.2 103 6) by omega]; exact z9)⟩) (by omega)
                            · exact absurd c298 (by omega)
                          · refine zj_iconst (zdk ttX7_readSum 60 rfl rfl) ?_
                            have f305 : zfC (w_X7_readSum p1) h h250 := zfC_t f14 f253 (fun a9 b9 z9 => by
                              rcases z9 with z9 | z9
                              · exact (Or.inr (Or.inl (by omega)))
                              · exact (Or.inr (Or.inr (by omega))))
                            have f304 : zfC (w_X7_readSum p1) h h284 := zfC_t f305 f288 (fun a9 b9 z9 => by
                              exact (Or.inl (by omega)))
                            have f303 : zfC (w_X7_readSum p1) h h292 := zfC_t f304 f296 (fun a9 b9 z9 => by
                              rcases z9 with z9 | z9 | z9
                              · exact (Or.inl z9)
                              · exact (Or.inr (Or.inl (by omega)))
                              · exact (Or.inr (Or.inr (by omega))))
                            have b306 : h250.2 103 6 = (h12.2 103 6) := (zfC_a f253 (fun z9 => by unfold w_X3_put at z9; first | (revert z9; decide) | omega))
                            exact zj_zret rfl (zdk ttX7_readSum 61 rfl rfl) (Nat.le_refl _) (Nat.le_refl _) (by omega) ⟨0, rfl, by omega, s294, f303, (by intro T P j t0; have k0 := t0.2.2.1.2; have l0 := t0.2.2.2.1; obtain ⟨x_1j, x_1a, x_1l, x_1r⟩ := u154 T P j t0; have k_2 := x_1a.2.2.1.2; have k_2l := x_1a.2.2.2.1; have a_3 : tPo T P x_1j h250 := tPo_f x_1a (fun i => (zfC_a f253 (fun z9 => by unfold w_X3_put at z9; first | (revert z9; decide) | omega))) (fun i => (zfC_a f253 (fun z9 => by unfold w_X3_put at z9; first | (revert z9; decide) | omega))) (zfC_a f253 (fun z9 => by unfold w_X3_put at z9; first | (revert z9; decide) | omega)) (zfC_a f253 (fun z9 => by unfold w_X3_put at z9; first | (revert z9; decide) | omega)) (zfC_a f253 (fun z9 => by unfold w_X3_put at z9; first | (revert z9; decide) | omega)) (zfC_a f253 (fun z9 => by unfold w_X3_put at z9; first | (revert z9; decide) | omega)) (zfC_a f253 (fun z9 => by unfold w_X3_put at z9; first | (revert z9; decide) | omega)); have k_4 := a_3.2.2.1.2; have k_4l := a_3.2.2.2.1; have a_5 : tPo T P (x_1j + 1) h284 := u287 T P x_1j a_3 (by omega); have e_6 := (u295 T P (x_1j + 1) a_5).2 (by omega); exact ⟨fun z => absurd z (by omega), fun _ => ⟨(x_1j + 1), _, e_6.2, fun p9 s9 => tRe_s (tRe_s (x_1r p9 s9) (tM4_s (by omega))) (tM3_n rfl (by omega) rfl)⟩⟩)⟩
                        · exact absurd c289 (by omega)
                      · refine zj_iconst (zdk ttX7_readSum 45 rfl rfl) ?_
                        have f307 : zfC (w_X7_readSum p1) h h250 := zfC_t f14 f253 (fun a9 b9 z9 => by
                          rcases z9 with z9 | z9
                          · exact (Or.inr (Or.inl (by omega)))
                          · exact (Or.inr (Or.inr (by omega))))
                        have b308 : h250.2 103 6 = (h12.2 103 6) := (zfC_a f253 (fun z9 => by unfold w_X3_put at z9; first | (revert z9; decide) | omega))
                        exact zj_zret rfl (zdk ttX7_readSum 46 rfl rfl) (Nat.le_refl _) (Nat.le_refl _) (by omega) ⟨1, rfl, by omega, s252, f307, (by intro T P j t0; have k0 := t0.2.2.1.2; have l0 := t0.2.2.2.1; obtain ⟨x_1j, x_1a, x_1l, x_1r⟩ := u154 T P j t0; have k_2 := x_1a.2.2.1.2; have k_2l := x_1a.2.2.2.1; have a_3 : tPo T P x_1j h250 := tPo_f x_1a (fun i => (zfC_a f253 (fun z9 => by unfold w_X3_put at z9; first | (revert z9; decide) | omega))) (fun i => (zfC_a f253 (fun z9 => by unfold w_X3_put at z9; first | (revert z9; decide) | omega))) (zfC_a f253 (fun z9 => by unfold w_X3_put at z9; first | (revert z9; decide) | omega)) (zfC_a f253 (fun z9 => by unfold w_X3_put at z9; first | (revert z9; decide) | omega)) (zfC_a f253 (fun z9 => by unfold w_X3_put at z9; first | (revert z9; decide) | omega)) (zfC_a f253 (fun z9 => by unfold w_X3_put at z9; first | (revert z9; decide) | omega)) (zfC_a f253 (fun z9 => by unfold w_X3_put at z9; first | (revert z9; decide) | omega)); exact ⟨fun _ => ⟨x_1j, a_3, by omega, fun p9 s9 => tRe_s (x_1r p9 s9) (tM4_e (by omega) (by omega))⟩, fun z => absurd z (by omega)⟩)⟩
            · refine zj_iconst (zdk ttX7_readSum 24 rfl rfl) ?_
              refine zj_goto (t := 50) (zdk ttX7_readSum 25 rfl rfl) (by decide) ?_
              refine zj_istore (L' := [some (.inr 107), some (.inr p1), some (.inl x10), some (.inl x11), some (.inl (h12.2 103 6)), some (.inl 1)]) (zdk ttX7_readSum 27 rfl rfl) (by decide) rfl ?_
              refine zj_iload (zdk ttX7_readSum 28 rfl rfl) rfl ?_
              refine zj_if_ne (t := 70) (zdk ttX7_readSum 29 rfl rfl) (by decide) (by decide) (fun c309 => ?_) (fun c309 => ?_)
              · refine zj_iload (zdk ttX7_readSum 37 rfl rfl) rfl ?_
                refine zj_if_ne (t := 91) (zdk ttX7_readSum 38 rfl rfl) (by decide) (by decide) (fun c310 => ?_) (fun c310 => ?_)
                · refine zj_aload_n (zdk ttX7_readSum 47 rfl rfl) rfl (by decide) ?_
                  refine zj_getr (r := 103) (zdk ttX7_readSum 48 rfl rfl) zf_RX7_9 rfl (k_L107 s13) (rf_L107_0 s13) ?_
                  refine zj_callV (av := []) (st := []) (zdk ttX7_readSum 49 rfl rfl) mb_X6_pass mv_RX7_47 (ci := 6) rfl rfl (k_L103 s13) rfl rfl (Nat.le_of_ble_eq_true rfl) (s2_X6_pass l h12 s13) (rm_ok (by decide) (by decide)) (zq_v fun h313 q311 => ?_)
                  obtain ⟨s315, f317, u316⟩ := q311
                  refine zj_aload_n (zdk ttX7_readSum 50 rfl rfl) rfl (by decide) ?_
                  refine zj_aload_n (zdk ttX7_readSum 51 rfl rfl) rfl (by omega) ?_
                  refine zj_iload (zdk ttX7_readSum 52 rfl rfl) rfl ?_
                  refine zj_bipush (zdk ttX7_readSum 53 rfl rfl) (by decide) ?_
                  refine zj_icmp_ne (t := 111) (zdk ttX7_readSum 54 rfl rfl) (by decide) (by omega) (by decide) (fun c318 => ?_) (fun c318 => ?_)
                  · exact absurd c318 (by omega)
                  · refine zj_iconst (zdk ttX7_readSum 55 rfl rfl) ?_
                    refine zj_goto (t := 112) (zdk ttX7_readSum 56 rfl rfl) (by decide) ?_
                    refine zj_callV (av := [.inr p1, .inl 1]) (st := []) (zdk ttX7_readSum 58 rfl rfl) mb_X7_readOperand mv_RX7_84 (ci := 7) rfl rfl (k_L107 s315) rfl rfl (Nat.le_of_ble_eq_true rfl) (s2_X7_readOperand l h313 p1 1 s315 r_p1 (by omega)) (rm_ok (by decide) (by decide)) (zq_i fun v320 h321 q319 => ?_)
                    obtain ⟨b322, s323, f325, u324⟩ := q319
                    refine zj_if_ne (t := 120) (zdk ttX7_readSum 59 rfl rfl) (by decide) (by omega) (fun c326 => ?_) (fun c326 => ?_)
                    · refine zj_iload (zdk ttX7_readSum 62 rfl rfl) rfl ?_
                      refine zj_if_eq (t := 138) (zdk ttX7_readSum 63 rfl rfl) (by decide) (by decide) (fun c327 => ?_) (fun c327 => ?_)
                      · exact absurd c327 (by omega)
                      · refine zj_aload_n (zdk ttX7_readSum 64 rfl rfl) rfl (by omega) ?_
                        refine zj_sipush (zdk ttX7_readSum 65 rfl rfl) (by decide) ?_
                        refine zj_iload (zdk ttX7_readSum 66 rfl rfl) rfl ?_
                        refine zj_iadd (zdk ttX7_readSum 67 rfl rfl) ?_
                        refine zj_callV (av := [.inl (20000 + (h12.2 103 6))]) (st := []) (zdk ttX7_readSum 68 rfl rfl) mb_X3_put mv_RX7_77 (ci := 3) rfl rfl (k_3_0 s323 r_p1) rfl rfl (Nat.le_of_ble_eq_true rfl) (s_X3_put l h321 p1 (20000 + (h12.2 103 6)) s323 r_p1 (by omega)) (rm_ok (by decide) (by decide)) (zq_v fun h330 q328 => ?_)
                        obtain ⟨s332, f333⟩ := q328
                        refine zj_goto (t := 141) (zdk ttX7_readSum 69 rfl rfl) (by decide) ?_
                        refine zj_iinc (L' := [some (.inr 107), some (.inr p1), some (.inl x10), some (.inl (x11 + 1)), some (.inl (h12.2 103 6)), some (.inl 1)]) (zdk ttX7_readSum 72 rfl rfl) rfl (by decide) rfl ?_
                        refine zj_goto (t := 15) (zdk ttX7_readSum 73 rfl rfl) (by decide) ?_
                        refine zj_kill (k := 4) (L' := [some (.inr 107), some (.inr p1), some (.inl x10), some (.inl (x11 + 1)), none, some (.inl 1)]) rfl ?_
                        refine zj_kill (k := 5) (L' := [some (.inr 107), some (.inr p1), some (.inl x10), some (.inl (x11 + 1)), none, none]) rfl ?_
                        have f336 : zfC (w_X7_readSum p1) h h313 := zfC_t f14 f317 (fun a9 b9 z9 => by
                          exact (Or.inl (by omega)))
                        have f335 : zfC (w_X7_readSum p1) h h321 := zfC_t f336 f325 (fun a9 b9 z9 => by
                          rcases z9 with z9 | z9 | z9
                          · exact (Or.inl z9)
                          · exact (Or.inr (Or.inl (by omega)))
                          · exact (Or.inr (Or.inr (by omega))))
                        have f334 : zfC (w_X7_readSum p1) h h330 := zfC_t f335 f333 (fun a9 b9 z9 => by
                          rcases z9 with z9 | z9
                          · exact (Or.inr (Or.inl (by omega)))
                          · exact (Or.inr (Or.inr (by omega))))
                        have b337 : h330.2 103 6 = (h321.2 103 6) := (zfC_a f333 (fun z9 => by unfold w_X3_put at z9; first | (revert z9; decide) | omega))
                        exact ih156  x10 (x11 + 1) h330 (by omega) (by omega) s332 f334 (by intro T P j t0; have k0 := t0.2.2.1.2; have l0 := t0.2.2.2.1; obtain ⟨x_1j, x_1a, x_1l, x_1r⟩ := u154 T P j t0; have k_2 := x_1a.2.2.1.2; have k_2l := x_1a.2.2.2.1; have k_3 := x_1a.2.2.1.2; have k_3l := x_1a.2.2.2.1; have a_4 : tPo T P (x_1j + 1) h313 := u316 T P x_1j x_1a (by omega); have r_5 := (u324 T P (x_1j + 1) a_4).1 (by omega); have r_5a : tPo T P ((x_1j + 1) + 1) h321 := r_5.2; have a_6 : tPo T P ((x_1j + 1) + 1) h330 := tPo_f r_5a (fun i => (zfC_a f333 (fun z9 => by unfold w_X3_put at z9; first | (revert z9; decide) | omega))) (fun i => (zfC_a f333 (fun z9 => by unfold w_X3_put at z9; first | (revert z9; decide) | omega))) (zfC_a f333 (fun z9 => by unfold w_X3_put at z9; first | (revert z9; decide) | omega)) (zfC_a f333 (fun z9 => by unfold w_X3_put at z9; first | (revert z9; decide) | omega)) (zfC_a f333 (fun z9 => by unfold w_X3_put at z9; first | (revert z9; decide) | omega)) (zfC_a f333 (fun z9 => by unfold w_X3_put at z9; first | (revert z9; decide) | omega)) (zfC_a f333 (fun z9 => by unfold w_X3_put at z9; first | (revert z9; decide) | omega)); exact ⟨((x_1j + 1) + 1), a_6, by omega, fun p9 s9 => tRe_s (x_1r p9 s9) (by rw [show x_1j + 1 + 1 = x_1j + 2 by omega]; exact tM4_y (by omega) (by first | rw [show T x_1j - 42 = 0 by omega] | exact tOp_dv (by omega) (by omega)) r_5.1)⟩) (by omega)
                    · refine zj_iconst (zdk ttX7_readSum 60 rfl rfl) ?_
                      have f339 : zfC (w_X7_readSum p1) h h313 := zfC_t f14 f317 (fun a9 b9 z9 => by
                        exact (Or.inl (by omega)))
                      have f338 : zfC (w_X7_readSum p1) h h321 := zfC_t f339 f325 (fun a9 b9 z9 => by
                        rcases z9 with z9 | z9 | z9
                        · exact (Or.inl z9)
                        · exact (Or.inr (Or.inl (by omega)))
                        · exact (Or.inr (Or.inr (by omega))))
                      exact zj_zret rfl (zdk ttX7_readSum 61 rfl rfl) (Nat.le_refl _) (Nat.le_refl _) (by omega) ⟨0, rfl, by omega, s323, f338, (by intro T P j t0; have k0 := t0.2.2.1.2; have l0 := t0.2.2.2.1; obtain ⟨x_1j, x_1a, x_1l, x_1r⟩ := u154 T P j t0; have k_2 := x_1a.2.2.1.2; have k_2l := x_1a.2.2.2.1; have k_3 := x_1a.2.2.1.2; have k_3l := x_1a.2.2.2.1; have a_4 : tPo T P (x_1j + 1) h313 := u316 T P x_1j x_1a (by omega); have e_5 := (u324 T P (x_1j + 1) a_4).2 (by omega); exact ⟨fun z => absurd z (by omega), fun _ => ⟨(x_1j + 1), _, e_5.2, fun p9 s9 => tRe_s (x_1r p9 s9) (tM4_n (by omega) (by first | rw [show T x_1j - 42 = 0 by omega] | exact tOp_dv (by omega) (by omega)) (by omega) rfl)⟩⟩)⟩
                · exact absurd c310 (by omega)
              · exact absurd c309 (by omega)
    have f340 : zfC (w_X7_readSum p1) h h4 := zfC_t (zfC_r _ _) f8 (fun a9 b9 z9 => by
      rcases z9 with z9 | z9 | z9
      · exact (Or.inl z9)
      · exact (Or.inr (Or.inl (by omega)))
      · exact (Or.inr (Or.inr (by omega))))
    exact lp151 _ 0 0 h4 (by omega) (by omega) s6 f340 (by intro T P j t0; have k0 := t0.2.2.1.2; have l0 := t0.2.2.2.1; have r_1 := (u7 T P j t0).1 (by omega); have r_1a : tPo T P (j + 1) h4 := r_1.2; exact ⟨(j + 1), r_1a, by omega, fun p9 s9 => tRe_1 (tM3_y rfl r_1.1)⟩) (Nat.lt_succ_self _)
  · refine zj_iconst (zdk ttX7_readSum 5 rfl rfl) ?_
    have f341 : zfC (w_X7_readSum p1) h h4 := zfC_t (zfC_r _ _) f8 (fun a9 b9 z9 => by
      rcases z9 with z9 | z9 | z9
      · exact (Or.inl z9)
      · exact (Or.inr (Or.inl (by omega)))
      · exact (Or.inr (Or.inr (by omega))))
    exact zj_zret rfl (zdk ttX7_readSum 6 rfl rfl) (Nat.le_refl _) (Nat.le_refl _) (by omega) ⟨0, rfl, by omega, s6, f341, (by intro T P j t0; have k0 := t0.2.2.1.2; have l0 := t0.2.2.2.1; have e_1 := (u7 T P j t0).2 (by omega); exact ⟨fun z => absurd z (by omega), fun _ => ⟨j, _, e_1.2, fun p9 s9 => tRe_1 (tM3_n rfl (by omega) rfl)⟩⟩)⟩

abbrev q2_X7_readSingle (h : zM) (p1 p2 : Int) : Option zV → zM → Prop := zqi fun v h' => (0 ≤ v ∧ v ≤ 1) ∧ okC h' ∧ zfC (w_X7_readSingle p1) h h' ∧ (∀ T P j, tPo T P j h → (v = 1 → ∃ j9, tPo T P j9 h' ∧ j < j9 ∧ ∀ p9 s9, tOpn s9 = p2 → tRe T p9 (8, j, 0, s9) (9, j9, 0, s9)) ∧ (v = 0 → ∃ i9 f9, (h'.2 103 7 = f9 ∧ h'.2 103 8 = P i9) ∧ ∀ p9 s9, tOpn s9 = p2 → tRe T p9 (8, j, 0, s9) (tEr i9 f9)))
abbrev q2_X7_readChoice (h : zM) (p1 p2 : Int) : Option zV → zM → Prop := zqi fun v h' => (0 ≤ v ∧ v ≤ 1) ∧ okC h' ∧ zfC (w_X7_readChoice p1) h h' ∧ (∀ T P j, tPo T P j h → (v = 1 → ∃ j9, tPo T P j9 h' ∧ j < j9 ∧ ∀ p9 s9, tOpn s9 = p2 → (tHd s9 = 90 ∨ tHd s9 = 12) → tRe T p9 (8, j, 0, s9) (12, j9, 0, s9)) ∧ (v = 0 → ∃ i9 f9, (h'.2 103 7 = f9 ∧ h'.2 103 8 = P i9) ∧ ∀ p9 s9, tOpn s9 = p2 → (tHd s9 = 90 ∨ tHd s9 = 12) → tRe T p9 (8, j, 0, s9) (tEr i9 f9)))
set_option maxRecDepth 100000 in
set_option maxHeartbeats 8000000 in
theorem s2_X7_readSingle_and_X7_readChoice (l : Launch) : ∀ n0 : Nat, (∀ (h : zM) (p1 p2 : Int), (okC h) → (zLw p1) → (0 ≤ p2 ∧ p2 ≤ 8) → (9 - p2).toNat < n0 → zT shC l yX7_readSingle cX7_readSingle 5 (some .boolean) (rmL (8 + 2 * n0 + 0)) 0 0 [.inr 107, .inr p1, .inl p2] h (q2_X7_readSingle h p1 p2)) ∧ (∀ (h : zM) (p1 p2 : Int), (okC h) → (zLw p1) → (0 ≤ p2 ∧ p2 ≤ 8) → (9 - p2).toNat < n0 → zT shC l yX7_readChoice cX7_readChoice 6 (some .boolean) (rmL (8 + 2 * n0 + 1)) 0 0 [.inr 107, .inr p1, .inl p2] h (q2_X7_readChoice h p1 p2)) := by
  intro n0
  induction n0 with
  | zero => exact ⟨(fun h p1 p2 s0 r_p1 b_p2 hm => absurd hm (Nat.not_lt_zero _)), (fun h p1 p2 s0 r_p1 b_p2 hm => absurd hm (Nat.not_lt_zero _))⟩
  | succ n0 ihr =>
    have hr0 : ∀ (h : zM) (p1 p2 : Int), (okC h) → (zLw p1) → (0 ≤ p2 ∧ p2 ≤ 8) → (9 - p2).toNat < (n0 + 1) → zT shC l yX7_readSingle cX7_readSingle 5 (some .boolean) (rmL (8 + 2 * (n0 + 1) + 0)) 0 0 [.inr 107, .inr p1, .inl p2] h (q2_X7_readSingle h p1 p2) := by
      intro h p1 p2 s0 r_p1 b_p2 hm0
      refine zT_of (by decide +kernel) (L0 := [some (.inr 107), some (.inr p1), some (.inl p2), none, none]) rfl (Nat.le_of_ble_eq_true rfl) ?_
      have b1001 := zLw_b r_p1
      refine zj_aload_n (zdk ttX7_readSingle 0 rfl rfl) rfl (by decide) ?_
      refine zj_getr (r := 103) (zdk ttX7_readSingle 1 rfl rfl) zf_RX7_9 rfl (k_L107 s0) (rf_L107_0 s0) ?_
      refine zj_bipush (zdk ttX7_readSingle 2 rfl rfl) (by decide) ?_
      refine zj_bipush (zdk ttX7_readSingle 3 rfl rfl) (by decide) ?_
      refine zj_callV (av := [.inl 6, .inl 6]) (st := []) (zdk ttX7_readSingle 4 rfl rfl) mb_X6_isWord mv_RX7_60 (ci := 6) rfl rfl (k_L103 s0) rfl rfl (Nat.le_of_ble_eq_true rfl) (s_X6_isWord l h 6 6 s0 (by omega) (by omega)) (rm_ok (by omega) (by decide)) (zq_i fun v1003 h1004 q1002 => ?_)
      obtain ⟨rfl, b1006, ⟨rfl, b1005⟩ | ⟨rfl, b1005⟩⟩ := q1002
      · refine zj_istore_n (L' := [some (.inr 107), some (.inr p1), some (.inl p2), some (.inl 0), none]) (zdk ttX7_readSingle 5 rfl rfl) (by decide) rfl ?_
        refine zj_iload_n (zdk ttX7_readSingle 6 rfl rfl) rfl ?_
        refine zj_if_ne (t := 28) (zdk ttX7_readSingle 7 rfl rfl) (by decide) (by decide) (fun c1007 => ?_) (fun c1007 => ?_)
        · exact absurd c1007 (by omega)
        · refine zj_aload_n (zdk ttX7_readSingle 8 rfl rfl) rfl (by decide) ?_
          refine zj_getr (r := 103) (zdk ttX7_readSingle 9 rfl rfl) zf_RX7_9 rfl (k_L107 s0) (rf_L107_0 s0) ?_
          refine zj_geti (v := (h.2 103 6)) (zdk ttX7_readSingle 10 rfl rfl) zf_RX7_32 rfl (k_L103 s0) rfl ?_
          refine zj_bipush (zdk ttX7_readSingle 11 rfl rfl) (by decide) ?_
          refine zj_icmp_ne (t := 105) (zdk ttX7_readSingle 12 rfl rfl) (by decide) (by omega) (by decide) (fun c1008 => ?_) (fun c1008 => ?_)
          · refine zj_aload_n (zdk ttX7_readSingle 56 rfl rfl) rfl (by decide) ?_
            refine zj_aload_n (zdk ttX7_readSingle 57 rfl rfl) rfl (by omega) ?_
            refine zj_callV (av := [.inr p1]) (st := []) (zdk ttX7_readSingle 58 rfl rfl) mb_X7_readSum mv_RX7_53 (ci := 7) rfl rfl (k_L107 s0) rfl rfl (Nat.le_of_ble_eq_true rfl) (s2_X7_readSum l h p1 s0 r_p1) (rm_ok (by omega) (by decide)) (zq_i fun v1010 h1011 q1009 => ?_)
            obtain ⟨b1012, s1013, f1015, u1014⟩ := q1009
            refine zj_if_ne (t := 115) (zdk ttX7_readSingle 59 rfl rfl) (by decide) (by omega) (fun c1016 => ?_) (fun c1016 => ?_)
            · refine zj_aload_n (zdk ttX7_readSingle 62 rfl rfl) rfl (by decide) ?_
              refine zj_getr (r := 103) (zdk ttX7_readSingle 63 rfl rfl) zf_RX7_9 rfl (k_L107 s1013) (rf_L107_0 s1013) ?_
              have b1017 : -2147483648 ≤ (h1011.2 103 6) ∧ (h1011.2 103 6) ≤ 2147483647 := fb_L103_6 s1013
              refine zj_geti (v := (h1011.2 103 6)) (zdk ttX7_readSingle 64 rfl rfl) zf_RX7_32 rfl (k_L103 s1013) rfl ?_
              refine zj_istore (L' := [some (.inr 107), some (.inr p1), some (.inl p2), some (.inl 0), some (.inl (h1011.2 103 6))]) (zdk ttX7_readSingle 65 rfl rfl) (by decide) rfl ?_
              refine zj_iload (zdk ttX7_readSingle 66 rfl rfl) rfl ?_
              refine zj_bipush (zdk ttX7_readSingle 67 rfl rfl) (by decide) ?_
              refine zj_icmp_eq (t := 154) (zdk ttX7_readSingle 68 rfl rfl) (by decide) (by omega) (by decide) (fun c1018 => ?_) (fun c1018 => ?_)
              · refine zj_aload_n (zdk ttX7_readSingle 80 rfl rfl) rfl (by decide) ?_
                refine zj_getr (r := 103) (zdk ttX7_readSingle 81 rfl rfl) zf_RX7_9 rfl (k_L107 s1013) (rf_L107_0 s1013) ?_
                refine zj_callV (av := []) (st := []) (zdk ttX7_readSingle 82 rfl rfl) mb_X6_pass mv_RX7_47 (ci := 6) rfl rfl (k_L103 s1013) rfl rfl (Nat.le_of_ble_eq_true rfl) (s2_X6_pass l h1011 s1013) (rm_ok (by omega) (by decide)) (zq_v fun h1021 q1019 => ?_)
                obtain ⟨s1023, f1025, u1024⟩ := q1019
                refine zj_aload_n (zdk ttX7_readSingle 83 rfl rfl) rfl (by decide) ?_
                refine zj_aload_n (zdk ttX7_readSingle 84 rfl rfl) rfl (by omega) ?_
                refine zj_callV (av := [.inr p1]) (st := []) (zdk ttX7_readSingle 85 rfl rfl) mb_X7_readSum mv_RX7_53 (ci := 7) rfl rfl (k_L107 s1023) rfl rfl (Nat.le_of_ble_eq_true rfl) (s2_X7_readSum l h1021 p1 s1023 r_p1) (rm_ok (by omega) (by decide)) (zq_i fun v1027 h1028 q1026 => ?_)
                obtain ⟨b1029, s1030, f1032, u1031⟩ := q1026
                refine zj_if_ne (t := 171) (zdk ttX7_readSingle 86 rfl rfl) (by decide) (by omega) (fun c1033 => ?_) (fun c1033 => ?_)
                · refine zj_aload_n (zdk ttX7_readSingle 89 rfl rfl) rfl (by omega) ?_
                  refine zj_sipush (zdk ttX7_readSingle 90 rfl rfl) (by decide) ?_
                  refine zj_iload (zdk ttX7_readSingle 91 rfl rfl) rfl ?_
                  refine zj_iadd (zdk ttX7_readSingle 92 rfl rfl) ?_
                  refine zj_callV (av := [.inl (20000 + (h1011.2 103 6))]) (st := []) (zdk ttX7_readSingle 93 rfl rfl) mb_X3_put mv_RX7_77 (ci := 3) rfl rfl (k_3_0 s1030 r_p1) rfl rfl (Nat.le_of_ble_eq_true rfl) (s_X3_put l h1028 p1 (20000 + (h1011.2 103 6)) s1030 r_p1 (by omega)) (rm_ok (by omega) (by decide)) (zq_v fun h1036 q1034 => ?_)
                  obtain ⟨s1038, f1039⟩ := q1034
                  refine zj_iconst (zdk ttX7_readSingle 94 rfl rfl) ?_
                  have f1043 : zfC (w_X7_readSingle p1) h h1011 := zfC_t (zfC_r _ _) f1015 (fun a9 b9 z9 => by
                    rcases z9 with z9 | z9 | z9
                    · exact (Or.inl z9)
                    · exact (Or.inr (Or.inl (by omega)))
                    · exact (Or.inr (Or.inr (by omega))))
                  have f1042 : zfC (w_X7_readSingle p1) h h1021 := zfC_t f1043 f1025 (fun a9 b9 z9 => by
                    exact (Or.inl (by omega)))
                  have f1041 : zfC (w_X7_readSingle p1) h h1028 := zfC_t f1042 f1032 (fun a9 b9 z9 => by
                    rcases z9 with z9 | z9 | z9
                    · exact (Or.inl z9)
                    · exact (Or.inr (Or.inl (by omega)))
                    · exact (Or.inr (Or.inr (by omega))))
                  have f1040 : zfC (w_X7_readSingle p1) h h1036 := zfC_t f1041 f1039 (fun a9 b9 z9 => by
                    rcases z9 with z9 | z9
                    · exact (Or.inr (Or.inl (by omega)))
                    · exact (Or.inr (Or.inr (by omega))))
                  have b1044 : h1036.2 103 6 = (h1028.2 103 6) := (zfC_a f1039 (fun z9 => by unfold w_X3_put at z9; first | (revert z9; decide) | omega))
                  exact zj_zret rfl (zdk ttX7_readSingle 95 rfl rfl) (Nat.le_refl _) (Nat.le_refl _) (by omega) ⟨1, rfl, by omega, s1038, f1040, (by intro T P j t0; have k0 := t0.2.2.1.2; have l0 := t0.2.2.2.1; obtain ⟨r_1j, r_1a, r_1l, r_1r⟩ := (u1014 T P j t0).1 (by omega); have k_2 := r_1a.2.2.1.2; have k_2l := r_1a.2.2.2.1; have k_3 := r_1a.2.2.1.2; have k_3l := r_1a.2.2.2.1; have a_4 : tPo T P (r_1j + 1) h1021 := u1024 T P r_1j r_1a (by omega); obtain ⟨r_5j, r_5a, r_5l, r_5r⟩ := (u1031 T P (r_1j + 1) a_4).1 (by omega); have a_6 : tPo T P r_5j h1036 := tPo_f r_5a (fun i => (zfC_a f1039 (fun z9 => by unfold w_X3_put at z9; first | (revert z9; decide) | omega))) (fun i => (zfC_a f1039 (fun z9 => by unfold w_X3_put at z9; first | (revert z9; decide) | omega))) (zfC_a f1039 (fun z9 => by unfold w_X3_put at z9; first | (revert z9; decide) | omega)) (zfC_a f1039 (fun z9 => by unfold w_X3_put at z9; first | (revert z9; decide) | omega)) (zfC_a f1039 (fun z9 => by unfold w_X3_put at z9; first | (revert z9; decide) | omega)) (zfC_a f1039 (fun z9 => by unfold w_X3_put at z9; first | (revert z9; decide) | omega)) (zfC_a f1039 (fun z9 => by unfold w_X3_put at z9; first | (revert z9; decide) | omega)); exact ⟨fun _ => ⟨r_5j, a_6, by omega, fun p9 s9 o9 => tRe_s (tRe_t (tRe_s (tRe_t (tRe_1 (tM8_s (by omega))) (r_1r p9 (101 :: s9))) (tM5_c (by omega))) (r_5r p9 (T r_1j :: s9))) (tM5_r (by omega))⟩, fun z => absurd z (by omega)⟩)⟩
                · refine zj_iconst (zdk ttX7_readSingle 87 rfl rfl) ?_
                  have f1047 : zfC (w_X7_readSingle p1) h h1011 := zfC_t (zfC_r _ _) f1015 (fun a9 b9 z9 => by
                    rcases z9 with z9 | z9 | z9
                    · exact (Or.inl z9)
                    · exact (Or.inr (Or.inl (by omega)))
                    · exact (Or.inr (Or.inr (by omega))))
                  have f1046 : zfC (w_X7_readSingle p1) h h1021 := zfC_t f1047 f1025 (fun a9 b9 z9 => by
                    exact (Or.inl (by omega)))
                  have f1045 : zfC (w_X7_readSingle p1) h h1028 := zfC_t f1046 f1032 (fun a9 b9 z9 => by
                    rcases z9 with z9 | z9 | z9
                    · exact (Or.inl z9)
                    · exact (Or.inr (Or.inl (by omega)))
                    · exact (Or.inr (Or.inr (by omega))))
                  exact zj_zret rfl (zdk ttX7_readSingle 88 rfl rfl) (Nat.le_refl _) (Nat.le_refl _) (by omega) ⟨0, rfl, by omega, s1030, f1045, (by intro T P j t0; have k0 := t0.2.2.1.2; have l0 := t0.2.2.2.1; obtain ⟨r_1j, r_1a, r_1l, r_1r⟩ := (u1014 T P j t0).1 (by omega); have k_2 := r_1a.2.2.1.2; have k_2l := r_1a.2.2.2.1; have k_3 := r_1a.2.2.1.2; have k_3l := r_1a.2.2.2.1; have a_4 : tPo T P (r_1j + 1) h1021 := u1024 T P r_1j r_1a (by omega); obtain ⟨e_5i, e_5f, e_5q, e_5r⟩ := (u1031 T P (r_1j + 1) a_4).2 (by omega); exact ⟨fun z => absurd z (by omega), fun _ => ⟨e_5i, e_5f, e_5q, fun p9 s9 o9 => tRe_t (tRe_s (tRe_t (tRe_1 (tM8_s (by omega))) (r_1r p9 (101 :: s9))) (tM5_c (by omega))) (e_5r p9 (T r_1j :: s9))⟩⟩)⟩
              · refine zj_iload (zdk ttX7_readSingle 69 rfl rfl) rfl ?_
                refine zj_bipush (zdk ttX7_readSingle 70 rfl rfl) (by decide) ?_
                refine zj_icmp_eq (t := 154) (zdk ttX7_readSingle 71 rfl rfl) (by decide) (by omega) (by decide) (fun c1048 => ?_) (fun c1048 => ?_)
                · refine zj_aload_n (zdk ttX7_readSingle 80 rfl rfl) rfl (by decide) ?_
                  refine zj_getr (r := 103) (zdk ttX7_readSingle 81 rfl rfl) zf_RX7_9 rfl (k_L107 s1013) (rf_L107_0 s1013) ?_
                  refine zj_callV (av := []) (st := []) (zdk ttX7_readSingle 82 rfl rfl) mb_X6_pass mv_RX7_47 (ci := 6) rfl rfl (k_L103 s1013) rfl rfl (Nat.le_of_ble_eq_true rfl) (s2_X6_pass l h1011 s1013) (rm_ok (by omega) (by decide)) (zq_v fun h1051 q1049 => ?_)
                  obtain ⟨s1053, f1055, u1054⟩ := q1049
                  refine zj_aload_n (zdk ttX7_readSingle 83 rfl rfl) rfl (by decide) ?_
                  refine zj_aload_n (zdk ttX7_readSingle 84 rfl rfl) rfl (by omega) ?_
                  refine zj_callV (av := [.inr p1]) (st := []) (zdk ttX7_readSingle 85 rfl rfl) mb_X7_readSum mv_RX7_53 (ci := 7) rfl rfl (k_L107 s1053) rfl rfl (Nat.le_of_ble_eq_true rfl) (s2_X7_readSum l h1051 p1 s1053 r_p1) (rm_ok (by omega) (by decide)) (zq_i fun v1057 h1058 q1056 => ?_)
                  obtain ⟨b1059, s1060, f1062, u1061⟩ := q1056
                  refine zj_if_ne (t := 171) (zdk ttX7_readSingle 86 rfl rfl) (by decide) (by omega) (fun c1063 => ?_) (fun c1063 => ?_)
                  · refine zj_aload_n (zdk ttX7_readSingle 89 rfl rfl) rfl (by omega) ?_
                    refine zj_sipush (zdk ttX7_readSingle 90 rfl rfl) (by decide) ?_
                    refine zj_iload (zdk ttX7_readSingle 91 rfl rfl) rfl ?_
                    refine zj_iadd (zdk ttX7_readSingle 92 rfl rfl) ?_
                    refine zj_callV (av := [.inl (20000 + (h1011.2 103 6))]) (st := []) (zdk ttX7_readSingle 93 rfl rfl) mb_X3_put mv_RX7_77 (ci := 3) rfl rfl (k_3_0 s1060 r_p1) rfl rfl (Nat.le_of_ble_eq_true rfl) (s_X3_put l h1058 p1 (20000 + (h1011.2 103 6)) s1060 r_p1 (by omega)) (rm_ok (by omega) (by decide)) (zq_v fun h1066 q1064 => ?_)
                    obtain ⟨s1068, f1069⟩ := q1064
                    refine zj_iconst (zdk ttX7_readSingle 94 rfl rfl) ?_
                    have f1073 : zfC (w_X7_readSingle p1) h h1011 := zfC_t (zfC_r _ _) f1015 (fun a9 b9 z9 => by
                      rcases z9 with z9 | z9 | z9
                      · exact (Or.inl z9)
                      · exact (Or.inr (Or.inl (by omega)))
                      · exact (Or.inr (Or.inr (by omega))))
                    have f1072 : zfC (w_X7_readSingle p1) h h1051 := zfC_t f1073 f1055 (fun a9 b9 z9 => by
                      exact (Or.inl (by omega)))
                    have f1071 : zfC (w_X7_readSingle p1) h h1058 := zfC_t f1072 f1062 (fun a9 b9 z9 => by
                      rcases z9 with z9 | z9 | z9
                      · exact (Or.inl z9)
                      · exact (Or.inr (Or.inl (by omega)))
                      · exact (Or.inr (Or.inr (by omega))))
                    have f1070 : zfC (w_X7_readSingle p1) h h1066 := zfC_t f1071 f1069 (fun a9 b9 z9 => by
                      rcases z9 with z9 | z9
                      · exact (Or.inr (Or.inl (by omega)))
                      · exact (Or.inr (Or.inr (by omega))))
                    have b1074 : h1066.2 103 6 = (h1058.2 103 6) := (zfC_a f1069 (fun z9 => by unfold w_X3_put at z9; first | (revert z9; decide) | omega))
                    exact zj_zret rfl (zdk ttX7_readSingle 95 rfl rfl) (Nat.le_refl _) (Nat.le_refl _) (by omega) ⟨1, rfl, by omega, s1068, f1070, (by intro T P j t0; have k0 := t0.2.2.1.2; have l0 := t0.2.2.2.1; obtain ⟨r_1j, r_1a, r_1l, r_1r⟩ := (u1014 T P j t0).1 (by omega); have k_2 := r_1a.2.2.1.2; have k_2l := r_1a.2.2.2.1; have k_3 := r_1a.2.2.1.2; have k_3l := r_1a.2.2.2.1; have a_4 : tPo T P (r_1j + 1) h1051 := u1054 T P r_1j r_1a (by omega); obtain ⟨r_5j, r_5a, r_5l, r_5r⟩ := (u1061 T P (r_1j + 1) a_4).1 (by omega); have a_6 : tPo T P r_5j h1066 := tPo_f r_5a (fun i => (zfC_a f1069 (fun z9 => by unfold w_X3_put at z9; first | (revert z9; decide) | omega))) (fun i => (zfC_a f1069 (fun z9 => by unfold w_X3_put at z9; first | (revert z9; decide) | omega))) (zfC_a f1069 (fun z9 => by unfold w_X3_put at z9; first | (revert z9; decide) | omega)) (zfC_a f1069 (fun z9 => by unfold w_X3_put at z9; first | (revert z9; decide) | omega)) (zfC_a f1069 (fun z9 => by unfold w_X3_put at z9; first | (revert z9; decide) | omega)) (zfC_a f1069 (fun z9 => by unfold w_X3_put at z9; first | (revert z9; decide) | omega)) (zfC_a f1069 (fun z9 => by unfold w_X3_put at z9; first | (revert z9; decide) | omega)); exact ⟨fun _ => ⟨r_5j, a_6, by omega, fun p9 s9 o9 => tRe_s (tRe_t (tRe_s (tRe_t (tRe_1 (tM8_s (by omega))) (r_1r p9 (101 :: s9))) (tM5_c (by omega))) (r_5r p9 (T r_1j :: s9))) (tM5_r (by omega))⟩, fun z => absurd z (by omega)⟩)⟩
                  · refine zj_iconst (zdk ttX7_readSingle 87 rfl rfl) ?_
                    have f1077 : zfC (w_X7_readSingle p1) h h1011 := zfC_t (zfC_r _ _) f1015 (fun a9 b9 z9 => by
                      rcases z9 with z9 | z9 | z9
                      · exact (Or.inl z9)
                      · exact (Or.inr (Or.inl (by omega)))
                      · exact (Or.inr (Or.inr (by omega))))
                    have f1076 : zfC (w_X7_readSingle p1) h h1051 := zfC_t f1077 f1055 (fun a9 b9 z9 => by
                      exact (Or.inl (by omega)))
                    have f1075 : zfC (w_X7_readSingle p1) h h1058 := zfC_t f1076 f1062 (fun a9 b9 z9 => by
                      rcases z9 with z9 | z9 | z9
                      · exact (Or.inl z9)
                      · exact (Or.inr (Or.inl (by omega)))
                      · exact (Or.inr (Or.inr (by omega))))
                    exact zj_zret rfl (zdk ttX7_readSingle 88 rfl rfl) (Nat.le_refl _) (Nat.le_refl _) (by omega) ⟨0, rfl, by omega, s1060, f1075, (by intro T P j t0; have k0 := t0.2.2.1.2; have l0 := t0.2.2.2.1; obtain ⟨r_1j, r_1a, r_1l, r_1r⟩ := (u1014 T P j t0).1 (by omega); have k_2 := r_1a.2.2.1.2; have k_2l := r_1a.2.2.2.1; have k_3 := r_1a.2.2.1.2; have k_3l := r_1a.2.2.2.1; have a_4 : tPo T P (r_1j + 1) h1051 := u1054 T P r_1j r_1a (by omega); obtain ⟨e_5i, e_5f, e_5q, e_5r⟩ := (u1061 T P (r_1j + 1) a_4).2 (by omega); exact ⟨fun z => absurd z (by omega), fun _ => ⟨e_5i, e_5f, e_5q, fun p9 s9 o9 => tRe_t (tRe_s (tRe_t (tRe_1 (tM8_s (by omega))) (r_1r p9 (101 :: s9))) (tM5_c (by omega))) (e_5r p9 (T r_1j :: s9))⟩⟩)⟩
                · refine zj_iload (zdk ttX7_readSingle 72 rfl rfl) rfl ?_
                  refine zj_bipush (zdk ttX7_readSingle 73 rfl rfl) (by decide) ?_
                  refine zj_icmp_eq (t := 154) (zdk ttX7_readSingle 74 rfl rfl) (by decide) (by omega) (by decide) (fun c1078 => ?_) (fun c1078 => ?_)
                  · refine zj_aload_n (zdk ttX7_readSingle 80 rfl rfl) rfl (by decide) ?_
                    refine zj_getr (r := 103) (zdk ttX7_readSingle 81 rfl rfl) zf_RX7_9 rfl (k_L107 s1013) (rf_L107_0 s1013) ?_
                    refine zj_callV (av := []) (st := []) (zdk ttX7_readSingle 82 rfl rfl) mb_X6_pass mv_RX7_47 (ci := 6) rfl rfl (k_L103 s1013) rfl rfl (Nat.le_of_ble_eq_true rfl) (s2_X6_pass l h1011 s1013) (rm_ok (by omega) (by decide)) (zq_v fun h1081 q1079 => ?_)
                    obtain ⟨s1083, f1085, u1084⟩ := q1079
                    refine zj_aload_n (zdk ttX7_readSingle 83 rfl rfl) rfl (by decide) ?_
                    refine zj_aload_n (zdk ttX7_readSingle 84 rfl rfl) rfl (by omega) ?_
                    refine zj_callV (av := [.inr p1]) (st := []) (zdk ttX7_readSingle 85 rfl rfl) mb_X7_readSum mv_RX7_53 (ci := 7) rfl rfl (k_L107 s1083) rfl rfl (Nat.le_of_ble_eq_true rfl) (s2_X7_readSum l h1081 p1 s1083 r_p1) (rm_ok (by omega) (by decide)) (zq_i fun v1087 h1088 q1086 => ?_)
                    obtain ⟨b1089, s1090, f1092, u1091⟩ := q1086
                    refine zj_if_ne (t := 171) (zdk ttX7_readSingle 86 rfl rfl) (by decide) (by omega) (fun c1093 => ?_) (fun c1093 => ?_)
                    · refine zj_aload_n (zdk ttX7_readSingle 89 rfl rfl) rfl (by omega) ?_
                      refine zj_sipush (zdk ttX7_readSingle 90 rfl rfl) (by decide) ?_
                      refine zj_iload (zdk ttX7_readSingle 91 rfl rfl) rfl ?_
                      refine zj_iadd (zdk ttX7_readSingle 92 rfl rfl) ?_
                      refine zj_callV (av := [.inl (20000 + (h1011.2 103 6))]) (st := []) (zdk ttX7_readSingle 93 rfl rfl) mb_X3_put mv_RX7_77 (ci := 3) rfl rfl (k_3_0 s1090 r_p1) rfl rfl (Nat.le_of_ble_eq_true rfl) (s_X3_put l h1088 p1 (20000 + (h1011.2 103 6)) s1090 r_p1 (by omega)) (rm_ok (by omega) (by decide)) (zq_v fun h1096 q1094 => ?_)
                      obtain ⟨s1098, f1099⟩ := q1094
                      refine zj_iconst (zdk ttX7_readSingle 94 rfl rfl) ?_
                      have f1103 : zfC (w_X7_readSingle p1) h h1011 := zfC_t (zfC_r _ _) f1015 (fun a9 b9 z9 => by
                        rcases z9 with z9 | z9 | z9
                        · exact (Or.inl z9)
                        · exact (Or.inr (Or.inl (by omega)))
                        · exact (Or.inr (Or.inr (by omega))))
                      have f1102 : zfC (w_X7_readSingle p1) h h1081 := zfC_t f1103 f1085 (fun a9 b9 z9 => by
                        exact (Or.inl (by omega)))
                      have f1101 : zfC (w_X7_readSingle p1) h h1088 := zfC_t f1102 f1092 (fun a9 b9 z9 => by
                        rcases z9 with z9 | z9 | z9
                        · exact (Or.inl z9)
                        · exact (Or.inr (Or.inl (by omega)))
                        · exact (Or.inr (Or.inr (by omega))))
                      have f1100 : zfC (w_X7_readSingle p1) h h1096 := zfC_t f1101 f1099 (fun a9 b9 z9 => by
                        rcases z9 with z9 | z9
                        · exact (Or.inr (Or.inl (by omega)))
                        · exact (Or.inr (Or.inr (by omega))))
                      have b1104 : h1096.2 103 6 = (h1088.2 103 6) := (zfC_a f1099 (fun z9 => by unfold w_X3_put at z9; first | (revert z9; decide) | omega))
                      exact zj_zret rfl (zdk ttX7_readSingle 95 rfl rfl) (Nat.le_refl _) (Nat.le_refl _) (by omega) ⟨1, rfl, by omega, s1098, f1100, (by intro T P j t0; have k0 := t0.2.2.1.2; have l0 := t0.2.2.2.1; obtain ⟨r_1j, r_1a, r_1l, r_1r⟩ := (u1014 T P j t0).1 (by omega); have k_2 := r_1a.2.2.1.2; have k_2l := r_1a.2.2.2.1; have k_3 := r_1a.2.2.1.2; have k_3l := r_1a.2.2.2.1; have a_4 : tPo T P (r_1j + 1) h1081 := u1084 T P r_1j r_1a (by omega); obtain ⟨r_5j, r_5a, r_5l, r_5r⟩ := (u1091 T P (r_1j + 1) a_4).1 (by omega); have a_6 : tPo T P r_5j h1096 := tPo_f r_5a (fun i => (zfC_a f1099 (fun z9 => by unfold w_X3_put at z9; first | (revert z9; decide) | omega))) (fun i => (zfC_a f1099 (fun z9 => by unfold w_X3_put at z9; first | (revert z9; decide) | omega))) (zfC_a f1099 (fun z9 => by unfold w_X3_put at z9; first | (revert z9; decide) | omega)) (zfC_a f1099 (fun z9 => by unfold w_X3_put at z9; first | (revert z9; decide) | omega)) (zfC_a f1099 (fun z9 => by unfold w_X3_put at z9; first | (revert z9; decide) | omega)) (zfC_a f1099 (fun z9 => by unfold w_X3_put at z9; first | (revert z9; decide) | omega)) (zfC_a f1099 (fun z9 => by unfold w_X3_put at z9; first | (revert z9; decide) | omega)); exact ⟨fun _ => ⟨r_5j, a_6, by omega, fun p9 s9 o9 => tRe_s (tRe_t (tRe_s (tRe_t (tRe_1 (tM8_s (by omega))) (r_1r p9 (101 :: s9))) (tM5_c (by omega))) (r_5r p9 (T r_1j :: s9))) (tM5_r (by omega))⟩, fun z => absurd z (by omega)⟩)⟩
                    · refine zj_iconst (zdk ttX7_readSingle 87 rfl rfl) ?_
                      have f1107 : zfC (w_X7_readSingle p1) h h1011 := zfC_t (zfC_r _ _) f1015 (fun a9 b9 z9 => by
                        rcases z9 with z9 | z9 | z9
                        · exact (Or.inl z9)
                        · exact (Or.inr (Or.inl (by omega)))
                        · exact (Or.inr (Or.inr (by omega))))
                      have f1106 : zfC (w_X7_readSingle p1) h h1081 := zfC_t f1107 f1085 (fun a9 b9 z9 => by
                        exact (Or.inl (by omega)))
                      have f1105 : zfC (w_X7_readSingle p1) h h1088 := zfC_t f1106 f1092 (fun a9 b9 z9 => by
                        rcases z9 with z9 | z9 | z9
                        · exact (Or.inl z9)
                        · exact (Or.inr (Or.inl (by omega)))
                        · exact (Or.inr (Or.inr (by omega))))
                      exact zj_zret rfl (zdk ttX7_readSingle 88 rfl rfl) (Nat.le_refl _) (Nat.le_refl _) (by omega) ⟨0, rfl, by omega, s1090, f1105, (by intro T P j t0; have k0 := t0.2.2.1.2; have l0 := t0.2.2.2.1; obtain ⟨r_1j, r_1a, r_1l, r_1r⟩ := (u1014 T P j t0).1 (by omega); have k_2 := r_1a.2.2.1.2; have k_2l := r_1a.2.2.2.1; have k_3 := r_1a.2.2.1.2; have k_3l := r_1a.2.2.2.1; have a_4 : tPo T P (r_1j + 1) h1081 := u1084 T P r_1j r_1a (by omega); obtain ⟨e_5i, e_5f, e_5q, e_5r⟩ := (u1091 T P (r_1j + 1) a_4).2 (by omega); exact ⟨fun z => absurd z (by omega), fun _ => ⟨e_5i, e_5f, e_5q, fun p9 s9 o9 => tRe_t (tRe_s (tRe_t (tRe_1 (tM8_s (by omega))) (r_1r p9 (101 :: s9))) (tM5_c (by omega))) (e_5r p9 (T r_1j :: s9))⟩⟩)⟩
                  · refine zj_aload_n (zdk ttX7_readSingle 75 rfl rfl) rfl (by decide) ?_
                    refine zj_getr (r := 103) (zdk ttX7_readSingle 76 rfl rfl) zf_RX7_9 rfl (k_L107 s1013) (rf_L107_0 s1013) ?_
                    refine zj_iconst (zdk ttX7_readSingle 77 rfl rfl) ?_
                    refine zj_callV (av := [.inl 1]) (st := []) (zdk ttX7_readSingle 78 rfl rfl) mb_X6_refuse mv_RX7_81 (ci := 6) rfl rfl (k_L103 s1013) rfl rfl (Nat.le_of_ble_eq_true rfl) (s2_X6_refuse l h1011 1 s1013 (by omega)) (rm_ok (by omega) (by decide)) (zq_i fun v1109 h1110 q1108 => ?_)
                    obtain ⟨b1111, s1112, f1114, u1113⟩ := q1108
                    have f1116 : zfC (w_X7_readSingle p1) h h1011 := zfC_t (zfC_r _ _) f1015 (fun a9 b9 z9 => by
                      rcases z9 with z9 | z9 | z9
                      · exact (Or.inl z9)
                      · exact (Or.inr (Or.inl (by omega)))
                      · exact (Or.inr (Or.inr (by omega))))
                    have f1115 : zfC (w_X7_readSingle p1) h h1110 := zfC_t f1116 f1114 (fun a9 b9 z9 => by
                      exact (Or.inl (by omega)))
                    have b1117 : h1110.2 103 6 = (h1011.2 103 6) := (zfC_a f1114 (fun z9 => by unfold w_X6_refuse at z9; first | (revert z9; decide) | omega))
                    exact zj_zret rfl (zdk ttX7_readSingle 79 rfl rfl) (Nat.le_refl _) (Nat.le_refl _) (by omega) ⟨v1109, rfl, by omega, s1112, f1115, (by intro T P j t0; have k0 := t0.2.2.1.2; have l0 := t0.2.2.2.1; obtain ⟨r_1j, r_1a, r_1l, r_1r⟩ := (u1014 T P j t0).1 (by omega); have k_2 := r_1a.2.2.1.2; have k_2l := r_1a.2.2.2.1; have e_3 := u1113 T P r_1j r_1a; exact ⟨fun z => absurd z (by omega), fun _ => ⟨r_1j, _, e_3, fun p9 s9 o9 => tRe_s (tRe_t (tRe_1 (tM8_s (by omega))) (r_1r p9 (101 :: s9))) (tM5_n (by omega))⟩⟩)⟩
            · refine zj_iconst (zdk ttX7_readSingle 60 rfl rfl) ?_
              have f1118 : zfC (w_X7_readSingle p1) h h1011 := zfC_t (zfC_r _ _) f1015 (fun a9 b9 z9 => by
                rcases z9 with z9 | z9 | z9
                · exact (Or.inl z9)
                · exact (Or.inr (Or.inl (by omega)))
                · exact (Or.inr (Or.inr (by omega))))
              exact zj_zret rfl (zdk ttX7_readSingle 61 rfl rfl) (Nat.le_refl _) (Nat.le_refl _) (by omega) ⟨0, rfl, by omega, s1013, f1118, (by intro T P j t0; have k0 := t0.2.2.1.2; have l0 := t0.2.2.2.1; obtain ⟨e_1i, e_1f, e_1q, e_1r⟩ := (u1014 T P j t0).2 (by omega); exact ⟨fun z => absurd z (by omega), fun _ => ⟨e_1i, e_1f, e_1q, fun p9 s9 o9 => tRe_t (tRe_1 (tM8_s (by omega))) (e_1r p9 (101 :: s9))⟩⟩)⟩
          · refine zj_iload_n (zdk ttX7_readSingle 13 rfl rfl) rfl ?_
            refine zj_bipush (zdk ttX7_readSingle 14 rfl rfl) (by decide) ?_
            refine zj_icmp_lt (t := 43) (zdk ttX7_readSingle 15 rfl rfl) (by decide) (by omega) (by decide) (fun c1119 => ?_) (fun c1119 => ?_)
            · refine zj_aload_n (zdk ttX7_readSingle 21 rfl rfl) rfl (by decide) ?_
              refine zj_getr (r := 103) (zdk ttX7_readSingle 22 rfl rfl) zf_RX7_9 rfl (k_L107 s0) (rf_L107_0 s0) ?_
              refine zj_callV (av := []) (st := []) (zdk ttX7_readSingle 23 rfl rfl) mb_X6_pass mv_RX7_47 (ci := 6) rfl rfl (k_L103 s0) rfl rfl (Nat.le_of_ble_eq_true rfl) (s2_X6_pass l h s0) (rm_ok (by omega) (by decide)) (zq_v fun h1122 q1120 => ?_)
              obtain ⟨s1124, f1126, u1125⟩ := q1120
              refine zj_iload_n (zdk ttX7_readSingle 24 rfl rfl) rfl ?_
              refine zj_if_ne (t := 83) (zdk ttX7_readSingle 25 rfl rfl) (by decide) (by decide) (fun c1127 => ?_) (fun c1127 => ?_)
              · exact absurd c1127 (by omega)
              · refine zj_aload_n (zdk ttX7_readSingle 26 rfl rfl) rfl (by decide) ?_
                refine zj_aload_n (zdk ttX7_readSingle 27 rfl rfl) rfl (by omega) ?_
                refine zj_iload_n (zdk ttX7_readSingle 28 rfl rfl) rfl ?_
                refine zj_iconst (zdk ttX7_readSingle 29 rfl rfl) ?_
                refine zj_iadd (zdk ttX7_readSingle 30 rfl rfl) ?_
                refine zj_callV (av := [.inr p1, .inl (p2 + 1)]) (st := []) (zdk ttX7_readSingle 31 rfl rfl) mb_X7_readChoice mv_RX7_64 (ci := 7) rfl rfl (k_L107 s1124) rfl rfl (Nat.le_of_ble_eq_true rfl) (ihr.2 h1122 p1 (p2 + 1) s1124 r_p1 (by omega) (by omega)) (rm_ok (by omega) (by decide)) (zq_i fun v1129 h1130 q1128 => ?_)
                obtain ⟨b1131, s1132, f1134, u1133⟩ := q1128
                refine zj_if_eq (t := 81) (zdk ttX7_readSingle 32 rfl rfl) (by decide) (by omega) (fun c1135 => ?_) (fun c1135 => ?_)
                · refine zj_iconst (zdk ttX7_readSingle 40 rfl rfl) ?_
                  have f1137 : zfC (w_X7_readSingle p1) h h1122 := zfC_t (zfC_r _ _) f1126 (fun a9 b9 z9 => by
                    exact (Or.inl (by omega)))
                  have f1136 : zfC (w_X7_readSingle p1) h h1130 := zfC_t f1137 f1134 (fun a9 b9 z9 => by
                    rcases z9 with z9 | z9 | z9
                    · exact (Or.inl z9)
                    · exact (Or.inr (Or.inl (by omega)))
                    · exact (Or.inr (Or.inr (by omega))))
                  exact zj_zret rfl (zdk ttX7_readSingle 41 rfl rfl) (Nat.le_refl _) (Nat.le_refl _) (by omega) ⟨0, rfl, by omega, s1132, f1136, (by intro T P j t0; have k0 := t0.2.2.1.2; have l0 := t0.2.2.2.1; have k_1 := t0.2.2.1.2; have k_1l := t0.2.2.2.1; have a_2 : tPo T P (j + 1) h1122 := u1125 T P j t0 (by omega); obtain ⟨e_3i, e_3f, e_3q, e_3r⟩ := (u1133 T P (j + 1) a_2).2 (by omega); exact ⟨fun z => absurd z (by omega), fun _ => ⟨e_3i, e_3f, e_3q, fun p9 s9 o9 => tRe_t (tRe_1 (tM8_b (by omega) (by omega))) (e_3r p9 (12 :: s9) (by rw [tOpn_12]; omega) (Or.inr rfl))⟩⟩)⟩
                · refine zj_aload_n (zdk ttX7_readSingle 33 rfl rfl) rfl (by decide) ?_
                  refine zj_getr (r := 103) (zdk ttX7_readSingle 34 rfl rfl) zf_RX7_9 rfl (k_L107 s1132) (rf_L107_0 s1132) ?_
                  refine zj_bipush (zdk ttX7_readSingle 35 rfl rfl) (by decide) ?_
                  refine zj_callV (av := [.inl 41]) (st := []) (zdk ttX7_readSingle 36 rfl rfl) mb_X6_takes mv_RX7_70 (ci := 6) rfl rfl (k_L103 s1132) rfl rfl (Nat.le_of_ble_eq_true rfl) (s2_X6_takes l h1130 41 s1132 (by omega)) (rm_ok (by omega) (by decide)) (zq_i fun v1139 h1140 q1138 => ?_)
                  obtain ⟨b1141, s1142, f1144, u1143⟩ := q1138
                  refine zj_if_eq (t := 81) (zdk ttX7_readSingle 37 rfl rfl) (by decide) (by omega) (fun c1145 => ?_) (fun c1145 => ?_)
                  · refine zj_iconst (zdk ttX7_readSingle 40 rfl rfl) ?_
                    have f1148 : zfC (w_X7_readSingle p1) h h1122 := zfC_t (zfC_r _ _) f1126 (fun a9 b9 z9 => by
                      exact (Or.inl (by omega)))
                    have f1147 : zfC (w_X7_readSingle p1) h h1130 := zfC_t f1148 f1134 (fun a9 b9 z9 => by
                      rcases z9 with z9 | z9 | z9
                      · exact (Or.inl z9)
                      · exact (Or.inr (Or.inl (by omega)))
                      · exact (Or.inr (Or.inr (by omega))))
                    have f1146 : zfC (w_X7_readSingle p1) h h1140 := zfC_t f1147 f1144 (fun a9 b9 z9 => by
                      exact (Or.inl z9))
                    exact zj_zret rfl (zdk ttX7_readSingle 41 rfl rfl) (Nat.le_refl _) (Nat.le_refl _) (by omega) ⟨0, rfl, by omega, s1142, f1146, (by intro T P j t0; have k0 := t0.2.2.1.2; have l0 := t0.2.2.2.1; have k_1 := t0.2.2.1.2; have k_1l := t0.2.2.2.1; have a_2 : tPo T P (j + 1) h1122 := u1125 T P j t0 (by omega); obtain ⟨r_3j, r_3a, r_3l, r_3r⟩ := (u1133 T P (j + 1) a_2).1 (by omega); have e_4 := (u1143 T P r_3j r_3a).2 (by omega); exact ⟨fun z => absurd z (by omega), fun _ => ⟨r_3j, _, e_4.2, fun p9 s9 o9 => tRe_s (tRe_t (tRe_1 (tM8_b (by omega) (by omega))) (r_3r p9 (12 :: s9) (by rw [tOpn_12]; omega) (Or.inr rfl))) (tM12_n e_4.1)⟩⟩)⟩
                  · refine zj_iconst (zdk ttX7_readSingle 38 rfl rfl) ?_
                    refine zj_goto (t := 82) (zdk ttX7_readSingle 39 rfl rfl) (by decide) ?_
                    have f1151 : zfC (w_X7_readSingle p1) h h1122 := zfC_t (zfC_r _ _) f1126 (fun a9 b9 z9 => by
                      exact (Or.inl (by omega)))
                    have f1150 : zfC (w_X7_readSingle p1) h h1130 := zfC_t f1151 f1134 (fun a9 b9 z9 => by
                      rcases z9 with z9 | z9 | z9
                      · exact (Or.inl z9)
                      · exact (Or.inr (Or.inl (by omega)))
                      · exact (Or.inr (Or.inr (by omega))))
                    have f1149 : zfC (w_X7_readSingle p1) h h1140 := zfC_t f1150 f1144 (fun a9 b9 z9 => by
                      exact (Or.inl z9))
                    exact zj_zret rfl (zdk ttX7_readSingle 41 rfl rfl) (Nat.le_refl _) (Nat.le_refl _) (by omega) ⟨1, rfl, by omega, s1142, f1149, (by intro T P j t0; have k0 := t0.2.2.1.2; have l0 := t0.2.2.2.1; have k_1 := t0.2.2.1.2; have k_1l := t0.2.2.2.1; have a_2 : tPo T P (j + 1) h1122 := u1125 T P j t0 (by omega); obtain ⟨r_3j, r_3a, r_3l, r_3r⟩ := (u1133 T P (j + 1) a_2).1 (by omega); have r_4 := (u1143 T P r_3j r_3a).1 (by omega); have r_4a : tPo T P (r_3j + 1) h1140 := (r_4.2 (by omega)); exact ⟨fun _ => ⟨(r_3j + 1), r_4a, by omega, fun p9 s9 o9 => tRe_s (tRe_t (tRe_1 (tM8_b (by omega) (by omega))) (r_3r p9 (12 :: s9) (by rw [tOpn_12]; omega) (Or.inr rfl))) (tM12_y r_4.1)⟩, fun z => absurd z (by omega)⟩)⟩
            · refine zj_aload_n (zdk ttX7_readSingle 16 rfl rfl) rfl (by decide) ?_
              refine zj_getr (r := 103) (zdk ttX7_readSingle 17 rfl rfl) zf_RX7_9 rfl (k_L107 s0) (rf_L107_0 s0) ?_
              refine zj_iconst (zdk ttX7_readSingle 18 rfl rfl) ?_
              refine zj_callV (av := [.inl 3]) (st := []) (zdk ttX7_readSingle 19 rfl rfl) mb_X6_refuse mv_RX7_81 (ci := 6) rfl rfl (k_L103 s0) rfl rfl (Nat.le_of_ble_eq_true rfl) (s2_X6_refuse l h 3 s0 (by omega)) (rm_ok (by omega) (by decide)) (zq_i fun v1153 h1154 q1152 => ?_)
              obtain ⟨b1155, s1156, f1158, u1157⟩ := q1152
              have f1159 : zfC (w_X7_readSingle p1) h h1154 := zfC_t (zfC_r _ _) f1158 (fun a9 b9 z9 => by
                exact (Or.inl (by omega)))
              have b1160 : h1154.2 103 6 = (h.2 103 6) := (zfC_a f1158 (fun z9 => by unfold w_X6_refuse at z9; first | (revert z9; decide) | omega))
              exact zj_zret rfl (zdk ttX7_readSingle 20 rfl rfl) (Nat.le_refl _) (Nat.le_refl _) (by omega) ⟨v1153, rfl, by omega, s1156, f1159, (by intro T P j t0; have k0 := t0.2.2.1.2; have l0 := t0.2.2.2.1; have e_1 := u1157 T P j t0; exact ⟨fun z => absurd z (by omega), fun _ => ⟨j, _, e_1, fun p9 s9 o9 => tRe_1 (tM8_3 (by omega) (by omega))⟩⟩)⟩
      · refine zj_istore_n (L' := [some (.inr 107), some (.inr p1), some (.inl p2), some (.inl 1), none]) (zdk ttX7_readSingle 5 rfl rfl) (by decide) rfl ?_
        refine zj_iload_n (zdk ttX7_readSingle 6 rfl rfl) rfl ?_
        refine zj_if_ne (t := 28) (zdk ttX7_readSingle 7 rfl rfl) (by decide) (by decide) (fun c1161 => ?_) (fun c1161 => ?_)
        · refine zj_iload_n (zdk ttX7_readSingle 13 rfl rfl) rfl ?_
          refine zj_bipush (zdk ttX7_readSingle 14 rfl rfl) (by decide) ?_
          refine zj_icmp_lt (t := 43) (zdk ttX7_readSingle 15 rfl rfl) (by decide) (by omega) (by decide) (fun c1162 => ?_) (fun c1162 => ?_)
          · refine zj_aload_n (zdk ttX7_readSingle 21 rfl rfl) rfl (by decide) ?_
            refine zj_getr (r := 103) (zdk ttX7_readSingle 22 rfl rfl) zf_RX7_9 rfl (k_L107 s0) (rf_L107_0 s0) ?_
            refine zj_callV (av := []) (st := []) (zdk ttX7_readSingle 23 rfl rfl) mb_X6_pass mv_RX7_47 (ci := 6) rfl rfl (k_L103 s0) rfl rfl (Nat.le_of_ble_eq_true rfl) (s2_X6_pass l h s0) (rm_ok (by omega) (by decide)) (zq_v fun h1165 q1163 => ?_)
            obtain ⟨s1167, f1169, u1168⟩ := q1163
            refine zj_iload_n (zdk ttX7_readSingle 24 rfl rfl) rfl ?_
            refine zj_if_ne (t := 83) (zdk ttX7_readSingle 25 rfl rfl) (by decide) (by decide) (fun c1170 => ?_) (fun c1170 => ?_)
            · refine zj_aload_n (zdk ttX7_readSingle 42 rfl rfl) rfl (by decide) ?_
              refine zj_aload_n (zdk ttX7_readSingle 43 rfl rfl) rfl (by omega) ?_
              refine zj_iload_n (zdk ttX7_readSingle 44 rfl rfl) rfl ?_
              refine zj_iconst (zdk ttX7_readSingle 45 rfl rfl) ?_
              refine zj_iadd (zdk ttX7_readSingle 46 rfl rfl) ?_
              refine zj_callV (av := [.inr p1, .inl (p2 + 1)]) (st := []) (zdk ttX7_readSingle 47 rfl rfl) mb_X7_readSingle mv_RX7_74 (ci := 7) rfl rfl (k_L107 s1167) rfl rfl (Nat.le_of_ble_eq_true rfl) (ihr.1 h1165 p1 (p2 + 1) s1167 r_p1 (by omega) (by omega)) (rm_ok (by omega) (by decide)) (zq_i fun v1172 h1173 q1171 => ?_)
              obtain ⟨b1174, s1175, f1177, u1176⟩ := q1171
              refine zj_if_ne (t := 96) (zdk ttX7_readSingle 48 rfl rfl) (by decide) (by omega) (fun c1178 => ?_) (fun c1178 => ?_)
              · refine zj_aload_n (zdk ttX7_readSingle 51 rfl rfl) rfl (by omega) ?_
                refine zj_sipush (zdk ttX7_readSingle 52 rfl rfl) (by decide) ?_
                refine zj_callV (av := [.inl 20006]) (st := []) (zdk ttX7_readSingle 53 rfl rfl) mb_X3_put mv_RX7_77 (ci := 3) rfl rfl (k_3_0 s1175 r_p1) rfl rfl (Nat.le_of_ble_eq_true rfl) (s_X3_put l h1173 p1 20006 s1175 r_p1 (by omega)) (rm_ok (by omega) (by decide)) (zq_v fun h1181 q1179 => ?_)
                obtain ⟨s1183, f1184⟩ := q1179
                refine zj_iconst (zdk ttX7_readSingle 54 rfl rfl) ?_
                have f1187 : zfC (w_X7_readSingle p1) h h1165 := zfC_t (zfC_r _ _) f1169 (fun a9 b9 z9 => by
                  exact (Or.inl (by omega)))
                have f1186 : zfC (w_X7_readSingle p1) h h1173 := zfC_t f1187 f1177 (fun a9 b9 z9 => by
                  rcases z9 with z9 | z9 | z9
                  · exact (Or.inl z9)
                  · exact (Or.inr (Or.inl (by omega)))
                  · exact (Or.inr (Or.inr (by omega))))
                have f1185 : zfC (w_X7_readSingle p1) h h1181 := zfC_t f1186 f1184 (fun a9 b9 z9 => by
                  rcases z9 with z9 | z9
                  · exact (Or.inr (Or.inl (by omega)))
                  · exact (Or.inr (Or.inr (by omega))))
                have b1188 : h1181.2 103 6 = (h1173.2 103 6) := (zfC_a f1184 (fun z9 => by unfold w_X3_put at z9; first | (revert z9; decide) | omega))
                exact zj_zret rfl (zdk ttX7_readSingle 55 rfl rfl) (Nat.le_refl _) (Nat.le_refl _) (by omega) ⟨1, rfl, by omega, s1183, f1185, (by intro T P j t0; have k0 := t0.2.2.1.2; have l0 := t0.2.2.2.1; have k_1 := t0.2.2.1.2; have k_1l := t0.2.2.2.1; have a_2 : tPo T P (j + 1) h1165 := u1168 T P j t0 (by omega); obtain ⟨r_3j, r_3a, r_3l, r_3r⟩ := (u1176 T P (j + 1) a_2).1 (by omega); have a_4 : tPo T P r_3j h1181 := tPo_f r_3a (fun i => (zfC_a f1184 (fun z9 => by unfold w_X3_put at z9; first | (revert z9; decide) | omega))) (fun i => (zfC_a f1184 (fun z9 => by unfold w_X3_put at z9; first | (revert z9; decide) | omega))) (zfC_a f1184 (fun z9 => by unfold w_X3_put at z9; first | (revert z9; decide) | omega)) (zfC_a f1184 (fun z9 => by unfold w_X3_put at z9; first | (revert z9; decide) | omega)) (zfC_a f1184 (fun z9 => by unfold w_X3_put at z9; first | (revert z9; decide) | omega)) (zfC_a f1184 (fun z9 => by unfold w_X3_put at z9; first | (revert z9; decide) | omega)) (zfC_a f1184 (fun z9 => by unfold w_X3_put at z9; first | (revert z9; decide) | omega)); exact ⟨fun _ => ⟨r_3j, a_4, by omega, fun p9 s9 o9 => tRe_s (tRe_t (tRe_1 (tM8_n (by omega) (by omega))) (r_3r p9 (9 :: s9) (by rw [tOpn_9]; omega))) tM9_n⟩, fun z => absurd z (by omega)⟩)⟩
              · refine zj_iconst (zdk ttX7_readSingle 49 rfl rfl) ?_
                have f1190 : zfC (w_X7_readSingle p1) h h1165 := zfC_t (zfC_r _ _) f1169 (fun a9 b9 z9 => by
                  exact (Or.inl (by omega)))
                have f1189 : zfC (w_X7_readSingle p1) h h1173 := zfC_t f1190 f1177 (fun a9 b9 z9 => by
                  rcases z9 with z9 | z9 | z9
                  · exact (Or.inl z9)
                  · exact (Or.inr (Or.inl (by omega)))
                  · exact (Or.inr (Or.inr (by omega))))
                exact zj_zret rfl (zdk ttX7_readSingle 50 rfl rfl) (Nat.le_refl _) (Nat.le_refl _) (by omega) ⟨0, rfl, by omega, s1175, f1189, (by intro T P j t0; have k0 := t0.2.2.1.2; have l0 := t0.2.2.2.1; have k_1 := t0.2.2.1.2; have k_1l := t0.2.2.2.1; have a_2 : tPo T P (j + 1) h1165 := u1168 T P j t0 (by omega); obtain ⟨e_3i, e_3f, e_3q, e_3r⟩ := (u1176 T P (j + 1) a_2).2 (by omega); exact ⟨fun z => absurd z (by omega), fun _ => ⟨e_3i, e_3f, e_3q, fun p9 s9 o9 => tRe_t (tRe_1 (tM8_n (by omega) (by omega))) (e_3r p9 (9 :: s9) (by rw [tOpn_9]; omega))⟩⟩)⟩
            · exact absurd c1170 (by omega)
          · refine zj_aload_n (zdk ttX7_readSingle 16 rfl rfl) rfl (by decide) ?_
            refine zj_getr (r := 103) (zdk ttX7_readSingle 17 rfl rfl) zf_RX7_9 rfl (k_L107 s0) (rf_L107_0 s0) ?_
            refine zj_iconst (zdk ttX7_readSingle 18 rfl rfl) ?_
            refine zj_callV (av := [.inl 3]) (st := []) (zdk ttX7_readSingle 19 rfl rfl) mb_X6_refuse mv_RX7_81 (ci := 6) rfl rfl (k_L103 s0) rfl rfl (Nat.le_of_ble_eq_true rfl) (s2_X6_refuse l h 3 s0 (by omega)) (rm_ok (by omega) (by decide)) (zq_i fun v1192 h1193 q1191 => ?_)
            obtain ⟨b1194, s1195, f1197, u1196⟩ := q1191
            have f1198 : zfC (w_X7_readSingle p1) h h1193 := zfC_t (zfC_r _ _) f1197 (fun a9 b9 z9 => by
              exact (Or.inl (by omega)))
            have b1199 : h1193.2 103 6 = (h.2 103 6) := (zfC_a f1197 (fun z9 => by unfold w_X6_refuse at z9; first | (revert z9; decide) | omega))
            exact zj_zret rfl (zdk ttX7_readSingle 20 rfl rfl) (Nat.le_refl _) (Nat.le_refl _) (by omega) ⟨v1192, rfl, by omega, s1195, f1198, (by intro T P j t0; have k0 := t0.2.2.1.2; have l0 := t0.2.2.2.1; have e_1 := u1196 T P j t0; exact ⟨fun z => absurd z (by omega), fun _ => ⟨j, _, e_1, fun p9 s9 o9 => tRe_1 (tM8_3 (by omega) (by omega))⟩⟩)⟩
        · exact absurd c1161 (by omega)
    have hr1 : ∀ (h : zM) (p1 p2 : Int), (okC h) → (zLw p1) → (0 ≤ p2 ∧ p2 ≤ 8) → (9 - p2).toNat < (n0 + 1) → zT shC l yX7_readChoice cX7_readChoice 6 (some .boolean) (rmL (8 + 2 * (n0 + 1) + 1)) 0 0 [.inr 107, .inr p1, .inl p2] h (q2_X7_readChoice h p1 p2) := by
      intro h p1 p2 s0 r_p1 b_p2 hm0
      refine zT_of (by decide +kernel) (L0 := [some (.inr 107), some (.inr p1), some (.inl p2), none, none, none]) rfl (Nat.le_of_ble_eq_true rfl) ?_
      have b2001 := zLw_b r_p1
      refine zj_aload_n (zdk ttX7_readChoice 0 rfl rfl) rfl (by decide) ?_
      refine zj_aload_n (zdk ttX7_readChoice 1 rfl rfl) rfl (by omega) ?_
      refine zj_iload_n (zdk ttX7_readChoice 2 rfl rfl) rfl ?_
      refine zj_callV (av := [.inr p1, .inl p2]) (st := []) (zdk ttX7_readChoice 3 rfl rfl) mb_X7_readSingle mv_RX7_74 (ci := 7) rfl rfl (k_L107 s0) rfl rfl (Nat.le_of_ble_eq_true rfl) (hr0 h p1 p2 s0 r_p1 (by omega) (by omega)) (rm_ok (by omega) (by decide)) (zq_i fun v2003 h2004 q2002 => ?_)
      obtain ⟨b2005, s2006, f2008, u2007⟩ := q2002
      refine zj_if_ne (t := 11) (zdk ttX7_readChoice 4 rfl rfl) (by decide) (by omega) (fun c2009 => ?_) (fun c2009 => ?_)
      · refine zj_iconst (zdk ttX7_readChoice 7 rfl rfl) ?_
        refine zj_istore_n (L' := [some (.inr 107), some (.inr p1), some (.inl p2), some (.inl 0), none, none]) (zdk ttX7_readChoice 8 rfl rfl) (by decide) rfl ?_
        refine zj_iconst (zdk ttX7_readChoice 9 rfl rfl) ?_
        refine zj_istore (L' := [some (.inr 107), some (.inr p1), some (.inl p2), some (.inl 0), some (.inl 0), none]) (zdk ttX7_readChoice 10 rfl rfl) (by decide) rfl ?_
        have lp2101 : ∀ (n : Nat) (x2010 x2011 : Int) (h2012 : zM), (0 ≤ x2010 ∧ x2010 ≤ 1) → (0 ≤ x2011 ∧ x2011 ≤ 400) → okC h2012 → zfC (w_X7_readChoice p1) h h2012 → (∀ T P j, tPo T P j h → ∃ j9, tPo T P j9 h2012 ∧ (x2011 + 1 ≤ j9 ∧ j < j9) ∧ ∀ p9 s9, tOpn s9 = p2 → (tHd s9 = 90 ∨ tHd s9 = 12) → tRe T p9 (8, j, 0, s9) (11, j9, 0, if x2010 = 0 then s9 else 11 :: s9)) → (401 - x2011).toNat < n → zJ shC l yX7_readChoice cX7_readChoice 6 (some .boolean) (rmL (8 + 2 * (n0 + 1) + 1)) 0 0 (q2_X7_readChoice h p1 p2) 0 0 16 [some (.inr 107), some (.inr p1), some (.inl p2), some (.inl x2010), some (.inl x2011), none] [] h2012 := by
          intro n
          induction n with
          | zero => intro x2010 x2011 h2012 b2102 b2103 s2013 f2014 u2104 m2105; exact absurd m2105 (Nat.not_lt_zero _)
          | succ n ih2106 =>
            intro x2010 x2011 h2012 b2102 b2103 s2013 f2014 u2104 m2105
            refine zj_iload (zdk ttX7_readChoice 11 rfl rfl) rfl ?_
            refine zj_sipush (zdk ttX7_readChoice 12 rfl rfl) (by decide) ?_
            refine zj_icmp_ge (t := 111) (zdk ttX7_readChoice 13 rfl rfl) (by decide) (by omega) (by decide) (fun c2107 => ?_) (fun c2107 => ?_)
            · refine zj_aload_n (zdk ttX7_readChoice 57 rfl rfl) rfl (by decide) ?_
              refine zj_getr (r := 103) (zdk ttX7_readChoice 58 rfl rfl) zf_RX7_9 rfl (k_L107 s2013) (rf_L107_0 s2013) ?_
              refine zj_iconst (zdk ttX7_readChoice 59 rfl rfl) ?_
              refine zj_callV (av := [.inl 1]) (st := []) (zdk ttX7_readChoice 60 rfl rfl) mb_X6_refuse mv_RX7_81 (ci := 6) rfl rfl (k_L103 s2013) rfl rfl (Nat.le_of_ble_eq_true rfl) (s2_X6_refuse l h2012 1 s2013 (by omega)) (rm_ok (by omega) (by decide)) (zq_i fun v2109 h2110 q2108 => ?_)
              obtain ⟨b2111, s2112, f2114, u2113⟩ := q2108
              have f2115 : zfC (w_X7_readChoice p1) h h2110 := zfC_t f2014 f2114 (fun a9 b9 z9 => by
                exact (Or.inl (by omega)))
              have b2116 : h2110.2 103 6 = (h2012.2 103 6) := (zfC_a f2114 (fun z9 => by unfold w_X6_refuse at z9; first | (revert z9; decide) | omega))
              exact zj_zret rfl (zdk ttX7_readChoice 61 rfl rfl) (Nat.le_refl _) (Nat.le_refl _) (by omega) ⟨v2109, rfl, by omega, s2112, f2115, (by intro T P j t0; have k0 := t0.2.2.1.2; have l0 := t0.2.2.2.1; obtain ⟨x_1j, x_1a, x_1l, x_1r⟩ := u2104 T P j t0; have k_2 := x_1a.2.2.1.2; have k_2l := x_1a.2.2.2.1; exact absurd l0 (by omega))⟩
            · refine zj_aload_n (zdk ttX7_readChoice 14 rfl rfl) rfl (by decide) ?_
              refine zj_getr (r := 103) (zdk ttX7_readChoice 15 rfl rfl) zf_RX7_9 rfl (k_L107 s2013) (rf_L107_0 s2013) ?_
              refine zj_iconst (zdk ttX7_readChoice 16 rfl rfl) ?_
              refine zj_iconst (zdk ttX7_readChoice 17 rfl rfl) ?_
              refine zj_callV (av := [.inl 5, .inl 5]) (st := []) (zdk ttX7_readChoice 18 rfl rfl) mb_X6_isWord mv_RX7_60 (ci := 6) rfl rfl (k_L103 s2013) rfl rfl (Nat.le_of_ble_eq_true rfl) (s_X6_isWord l h2012 5 5 s2013 (by omega) (by omega)) (rm_ok (by omega) (by decide)) (zq_i fun v2118 h2119 q2117 => ?_)
              obtain ⟨rfl, b2121, ⟨rfl, b2120⟩ | ⟨rfl, b2120⟩⟩ := q2117
              · refine zj_istore (L' := [some (.inr 107), some (.inr p1), some (.inl p2), some (.inl x2010), some (.inl x2011), some (.inl 0)]) (zdk ttX7_readChoice 19 rfl rfl) (by decide) rfl ?_
                refine zj_iload (zdk ttX7_readChoice 20 rfl rfl) rfl ?_
                refine zj_if_ne (t := 51) (zdk ttX7_readChoice 21 rfl rfl) (by decide) (by decide) (fun c2122 => ?_) (fun c2122 => ?_)
                · exact absurd c2122 (by omega)
                · refine zj_iload_n (zdk ttX7_readChoice 22 rfl rfl) rfl ?_
                  refine zj_if_eq (t := 51) (zdk ttX7_readChoice 23 rfl rfl) (by decide) (by omega) (fun c2123 => ?_) (fun c2123 => ?_)
                  · refine zj_iload (zdk ttX7_readChoice 27 rfl rfl) rfl ?_
                    refine zj_if_ne (t := 70) (zdk ttX7_readChoice 28 rfl rfl) (by decide) (by decide) (fun c2124 => ?_) (fun c2124 => ?_)
                    · exact absurd c2124 (by omega)
                    · refine zj_aload_n (zdk ttX7_readChoice 29 rfl rfl) rfl (by decide) ?_
                      refine zj_getr (r := 103) (zdk ttX7_readChoice 30 rfl rfl) zf_RX7_9 rfl (k_L107 s2013) (rf_L107_0 s2013) ?_
                      refine zj_iconst (zdk ttX7_readChoice 31 rfl rfl) ?_
                      refine zj_iconst (zdk ttX7_readChoice 32 rfl rfl) ?_
                      refine zj_callV (av := [.inl 4, .inl 4]) (st := []) (zdk ttX7_readChoice 33 rfl rfl) mb_X6_isWord mv_RX7_60 (ci := 6) rfl rfl (k_L103 s2013) rfl rfl (Nat.le_of_ble_eq_true rfl) (s_X6_isWord l h2012 4 4 s2013 (by omega) (by omega)) (rm_ok (by omega) (by decide)) (zq_i fun v2126 h2127 q2125 => ?_)
                      obtain ⟨rfl, b2129, ⟨rfl, b2128⟩ | ⟨rfl, b2128⟩⟩ := q2125
                      · refine zj_if_ne (t := 70) (zdk ttX7_readChoice 34 rfl rfl) (by decide) (by decide) (fun c2130 => ?_) (fun c2130 => ?_)
                        · exact absurd c2130 (by omega)
                        · refine zj_iconst (zdk ttX7_readChoice 35 rfl rfl) ?_
                          exact zj_zret rfl (zdk ttX7_readChoice 36 rfl rfl) (Nat.le_refl _) (Nat.le_refl _) (by omega) ⟨1, rfl, by omega, s2013, f2014, (by intro T P j t0; have k0 := t0.2.2.1.2; have l0 := t0.2.2.2.1; obtain ⟨x_1j, x_1a, x_1l, x_1r⟩ := u2104 T P j t0; have k_2 := x_1a.2.2.1.2; have k_2l := x_1a.2.2.2.1; exact ⟨fun _ => ⟨x_1j, x_1a, by omega, fun p9 s9 o9 q9 => by have z9 := x_1r p9 s9 o9 q9; by_cases c9 : x2010 = 0; (rw [if_pos c9] at z9; exact tRe_s z9 (tM11_e (by omega) (by omega) (by omega))); (rw [if_neg c9] at z9; exact tRe_s z9 (tM11_p (by omega) (by omega)))⟩, fun z => absurd z (by omega)⟩)⟩
                      · refine zj_if_ne (t := 70) (zdk ttX7_readChoice 34 rfl rfl) (by decide) (by decide) (fun c2131 => ?_) (fun c2131 => ?_)
                        · refine zj_aload_n (zdk ttX7_readChoice 37 rfl rfl) rfl (by decide) ?_
                          refine zj_getr (r := 103) (zdk ttX7_readChoice 38 rfl rfl) zf_RX7_9 rfl (k_L107 s2013) (rf_L107_0 s2013) ?_
                          refine zj_callV (av := []) (st := []) (zdk ttX7_readChoice 39 rfl rfl) mb_X6_pass mv_RX7_47 (ci := 6) rfl rfl (k_L103 s2013) rfl rfl (Nat.le_of_ble_eq_true rfl) (s2_X6_pass l h2012 s2013) (rm_ok (by omega) (by decide)) (zq_v fun h2134 q2132 => ?_)
                          obtain ⟨s2136, f2138, u2137⟩ := q2132
                          refine zj_aload_n (zdk ttX7_readChoice 40 rfl rfl) rfl (by decide) ?_
                          refine zj_aload_n (zdk ttX7_readChoice 41 rfl rfl) rfl (by omega) ?_
                          refine zj_iload_n (zdk ttX7_readChoice 42 rfl rfl) rfl ?_
                          refine zj_callV (av := [.inr p1, .inl p2]) (st := []) (zdk ttX7_readChoice 43 rfl rfl) mb_X7_readSingle mv_RX7_74 (ci := 7) rfl rfl (k_L107 s2136) rfl rfl (Nat.le_of_ble_eq_true rfl) (hr0 h2134 p1 p2 s2136 r_p1 (by omega) (by omega)) (rm_ok (by omega) (by decide)) (zq_i fun v2140 h2141 q2139 => ?_)
                          obtain ⟨b2142, s2143, f2145, u2144⟩ := q2139
                          refine zj_if_ne (t := 88) (zdk ttX7_readChoice 44 rfl rfl) (by decide) (by omega) (fun c2146 => ?_) (fun c2146 => ?_)
                          · refine zj_iload (zdk ttX7_readChoice 47 rfl rfl) rfl ?_
                            refine zj_if_eq (t := 103) (zdk ttX7_readChoice 48 rfl rfl) (by decide) (by decide) (fun c2147 => ?_) (fun c2147 => ?_)
                            · refine zj_iconst (zdk ttX7_readChoice 53 rfl rfl) ?_
                              refine zj_istore_n (L' := [some (.inr 107), some (.inr p1), some (.inl p2), some (.inl 1), some (.inl x2011), some (.inl 0)]) (zdk ttX7_readChoice 54 rfl rfl) (by decide) rfl ?_
                              refine zj_iinc (L' := [some (.inr 107), some (.inr p1), some (.inl p2), some (.inl 1), some (.inl (x2011 + 1)), some (.inl 0)]) (zdk ttX7_readChoice 55 rfl rfl) rfl (by decide) rfl ?_
                              refine zj_goto (t := 16) (zdk ttX7_readChoice 56 rfl rfl) (by decide) ?_
                              refine zj_kill (k := 5) (L' := [some (.inr 107), some (.inr p1), some (.inl p2), some (.inl 1), some (.inl (x2011 + 1)), none]) rfl ?_
                              have f2149 : zfC (w_X7_readChoice p1) h h2134 := zfC_t f2014 f2138 (fun a9 b9 z9 => by
                                exact (Or.inl (by omega)))
                              have f2148 : zfC (w_X7_readChoice p1) h h2141 := zfC_t f2149 f2145 (fun a9 b9 z9 => by
                                rcases z9 with z9 | z9 | z9
                                · exact (Or.inl z9)
                                · exact (Or.inr (Or.inl (by omega)))
                                · exact (Or.inr (Or.inr (by omega))))
                              exact ih2106  1 (x2011 + 1) h2141 (by omega) (by omega) s2143 f2148 (by intro T P j t0; have k0 := t0.2.2.1.2; have l0 := t0.2.2.2.1; obtain ⟨x_1j, x_1a, x_1l, x_1r⟩ := u2104 T P j t0; have k_2 := x_1a.2.2.1.2; have k_2l := x_1a.2.2.2.1; have k_3 := x_1a.2.2.1.2; have k_3l := x_1a.2.2.2.1; have a_4 : tPo T P (x_1j + 1) h2134 := u2137 T P x_1j x_1a (by omega); obtain ⟨r_5j, r_5a, r_5l, r_5r⟩ := (u2144 T P (x_1j + 1) a_4).1 (by omega); exact ⟨r_5j, r_5a, by omega, fun p9 s9 o9 q9 => by rw [if_neg (by decide)]; exact tRe_s (tRe_t (by have z9 := x_1r p9 s9 o9 q9; by_cases c9 : x2010 = 0; (rw [if_pos c9] at z9; exact tRe_s z9 (tM11_f (by omega) (by omega))); (rw [if_neg c9] at z9; exact tRe_s z9 (tM11_o (by omega)))) (r_5r p9 (11 :: s9) (by rw [tOpn_11]; exact o9))) (tM9_e (show ¬ (11 : Int) = 9 by decide) (show ¬ (11 : Int) = 10 by decide))⟩) (by omega)
                            · exact absurd c2147 (by omega)
                          · refine zj_iconst (zdk ttX7_readChoice 45 rfl rfl) ?_
                            have f2151 : zfC (w_X7_readChoice p1) h h2134 := zfC_t f2014 f2138 (fun a9 b9 z9 => by
                              exact (Or.inl (by omega)))
                            have f2150 : zfC (w_X7_readChoice p1) h h2141 := zfC_t f2151 f2145 (fun a9 b9 z9 => by
                              rcases z9 with z9 | z9 | z9
                              · exact (Or.inl z9)
                              · exact (Or.inr (Or.inl (by omega)))
                              · exact (Or.inr (Or.inr (by omega))))
                            exact zj_zret rfl (zdk ttX7_readChoice 46 rfl rfl) (Nat.le_refl _) (Nat.le_refl _) (by omega) ⟨0, rfl, by omega, s2143, f2150, (by intro T P j t0; have k0 := t0.2.2.1.2; have l0 := t0.2.2.2.1; obtain ⟨x_1j, x_1a, x_1l, x_1r⟩ := u2104 T P j t0; have k_2 := x_1a.2.2.1.2; have k_2l := x_1a.2.2.2.1; have k_3 := x_1a.2.2.1.2; have k_3l := x_1a.2.2.2.1; have a_4 : tPo T P (x_1j + 1) h2134 := u2137 T P x_1j x_1a (by omega); obtain ⟨e_5i, e_5f, e_5q, e_5r⟩ := (u2144 T P (x_1j + 1) a_4).2 (by omega); exact ⟨fun z => absurd z (by omega), fun _ => ⟨e_5i, e_5f, e_5q, fun p9 s9 o9 q9 => tRe_t (by have z9 := x_1r p9 s9 o9 q9; by_cases c9 : x2010 = 0; (rw [if_pos c9] at z9; exact tRe_s z9 (tM11_f (by omega) (by omega))); (rw [if_neg c9] at z9; exact tRe_s z9 (tM11_o (by omega)))) (e_5r p9 (11 :: s9) (by rw [tOpn_11]; exact o9))⟩⟩)⟩
                        · exact absurd c2131 (by omega)
                  · refine zj_aload_n (zdk ttX7_readChoice 24 rfl rfl) rfl (by omega) ?_
                    refine zj_sipush (zdk ttX7_readChoice 25 rfl rfl) (by decide) ?_
                    refine zj_callV (av := [.inl 20004]) (st := []) (zdk ttX7_readChoice 26 rfl rfl) mb_X3_put mv_RX7_77 (ci := 3) rfl rfl (k_3_0 s2013 r_p1) rfl rfl (Nat.le_of_ble_eq_true rfl) (s_X3_put l h2012 p1 20004 s2013 r_p1 (by omega)) (rm_ok (by omega) (by decide)) (zq_v fun h2154 q2152 => ?_)
                    obtain ⟨s2156, f2157⟩ := q2152
                    refine zj_iload (zdk ttX7_readChoice 27 rfl rfl) rfl ?_
                    refine zj_if_ne (t := 70) (zdk ttX7_readChoice 28 rfl rfl) (by decide) (by decide) (fun c2158 => ?_) (fun c2158 => ?_)
                    · exact absurd c2158 (by omega)
                    · refine zj_aload_n (zdk ttX7_readChoice 29 rfl rfl) rfl (by decide) ?_
                      refine zj_getr (r := 103) (zdk ttX7_readChoice 30 rfl rfl) zf_RX7_9 rfl (k_L107 s2156) (rf_L107_0 s2156) ?_
                      refine zj_iconst (zdk ttX7_readChoice 31 rfl rfl) ?_
                      refine zj_iconst (zdk ttX7_readChoice 32 rfl rfl) ?_
                      refine zj_callV (av := [.inl 4, .inl 4]) (st := []) (zdk ttX7_readChoice 33 rfl rfl) mb_X6_isWord mv_RX7_60 (ci := 6) rfl rfl (k_L103 s2156) rfl rfl (Nat.le_of_ble_eq_true rfl) (s_X6_isWord l h2154 4 4 s2156 (by omega) (by omega)) (rm_ok (by omega) (by decide)) (zq_i fun v2160 h2161 q2159 => ?_)
                      obtain ⟨rfl, b2163, ⟨rfl, b2162⟩ | ⟨rfl, b2162⟩⟩ := q2159
                      · refine zj_if_ne (t := 70) (zdk ttX7_readChoice 34 rfl rfl) (by decide) (by decide) (fun c2164 => ?_) (fun c2164 => ?_)
                        · exact absurd c2164 (by omega)
                        · refine zj_iconst (zdk ttX7_readChoice 35 rfl rfl) ?_
                          have f2165 : zfC (w_X7_readChoice p1) h h2154 := zfC_t f2014 f2157 (fun a9 b9 z9 => by
                            rcases z9 with z9 | z9
                            · exact (Or.inr (Or.inl (by omega)))
                            · exact (Or.inr (Or.inr (by omega))))
                          have b2166 : h2154.2 103 6 = (h2012.2 103 6) := (zfC_a f2157 (fun z9 => by unfold w_X3_put at z9; first | (revert z9; decide) | omega))
                          exact zj_zret rfl (zdk ttX7_readChoice 36 rfl rfl) (Nat.le_refl _) (Nat.le_refl _) (by omega) ⟨1, rfl, by omega, s2156, f2165, (by intro T P j t0; have k0 := t0.2.2.1.2; have l0 := t0.2.2.2.1; obtain ⟨x_1j, x_1a, x_1l, x_1r⟩ := u2104 T P j t0; have k_2 := x_1a.2.2.1.2; have k_2l := x_1a.2.2.2.1; have a_3 : tPo T P x_1j h2154 := tPo_f x_1a (fun i => (zfC_a f2157 (fun z9 => by unfold w_X3_put at z9; first | (revert z9; decide) | omega))) (fun i => (zfC_a f2157 (fun z9 => by unfold w_X3_put at z9; first | (revert z9; decide) | omega))) (zfC_a f2157 (fun z9 => by unfold w_X3_put at z9; first | (revert z9; decide) | omega)) (zfC_a f2157 (fun z9 => by unfold w_X3_put at z9; first | (revert z9; decide) | omega)) (zfC_a f2157 (fun z9 => by unfold w_X3_put at z9; first | (revert z9; decide) | omega)) (zfC_a f2157 (fun z9 => by unfold w_X3_put at z9; first | (revert z9; decide) | omega)) (zfC_a f2157 (fun z9 => by unfold w_X3_put at z9; first | (revert z9; decide) | omega)); exact ⟨fun _ => ⟨x_1j, a_3, by omega, fun p9 s9 o9 q9 => by have z9 := x_1r p9 s9 o9 q9; by_cases c9 : x2010 = 0; (rw [if_pos c9] at z9; exact tRe_s z9 (tM11_e (by omega) (by omega) (by omega))); (rw [if_neg c9] at z9; exact tRe_s z9 (tM11_p (by omega) (by omega)))⟩, fun z => absurd z (by omega)⟩)⟩
                      · refine zj_if_ne (t := 70) (zdk ttX7_readChoice 34 rfl rfl) (by decide) (by decide) (fun c2167 => ?_) (fun c2167 => ?_)
                        · refine zj_aload_n (zdk ttX7_readChoice 37 rfl rfl) rfl (by decide) ?_
                          refine zj_getr (r := 103) (zdk ttX7_readChoice 38 rfl rfl) zf_RX7_9 rfl (k_L107 s2156) (rf_L107_0 s2156) ?_
                          refine zj_callV (av := []) (st := []) (zdk ttX7_readChoice 39 rfl rfl) mb_X6_pass mv_RX7_47 (ci := 6) rfl rfl (k_L103 s2156) rfl rfl (Nat.le_of_ble_eq_true rfl) (s2_X6_pass l h2154 s2156) (rm_ok (by omega) (by decide)) (zq_v fun h2170 q2168 => ?_)
                          obtain ⟨s2172, f2174, u2173⟩ := q2168
                          refine zj_aload_n (zdk ttX7_readChoice 40 rfl rfl) rfl (by decide) ?_
                          refine zj_aload_n (zdk ttX7_readChoice 41 rfl rfl) rfl (by omega) ?_
                          refine zj_iload_n (zdk ttX7_readChoice 42 rfl rfl) rfl ?_
                          refine zj_callV (av := [.inr p1, .inl p2]) (st := []) (zdk ttX7_readChoice 43 rfl rfl) mb_X7_readSingle mv_RX7_74 (ci := 7) rfl rfl (k_L107 s2172) rfl rfl (Nat.le_of_ble_eq_true rfl) (hr0 h2170 p1 p2 s2172 r_p1 (by omega) (by omega)) (rm_ok (by omega) (by decide)) (zq_i fun v2176 h2177 q2175 => ?_)
                          obtain ⟨b2178, s2179, f2181, u2180⟩ := q2175
                          refine zj_if_ne (t := 88) (zdk ttX7_readChoice 44 rfl rfl) (by decide) (by omega) (fun c2182 => ?_) (fun c2182 => ?_)
                          · refine zj_iload (zdk ttX7_readChoice 47 rfl rfl) rfl ?_
                            refine zj_if_eq (t := 103) (zdk ttX7_readChoice 48 rfl rfl) (by decide) (by decide) (fun c2183 => ?_) (fun c2183 => ?_)
                            · refine zj_iconst (zdk ttX7_readChoice 53 rfl rfl) ?_
                              refine zj_istore_n (L' := [some (.inr 107), some (.inr p1), some (.inl p2), some (.inl 1), some (.inl x2011), some (.inl 0)]) (zdk ttX7_readChoice 54 rfl rfl) (by decide) rfl ?_
                              refine zj_iinc (L' := [some (.inr 107), some (.inr p1), some (.inl p2), some (.inl 1), some (.inl (x2011 + 1)), some (.inl 0)]) (zdk ttX7_readChoice 55 rfl rfl) rfl (by decide) rfl ?_
                              refine zj_goto (t := 16) (zdk ttX7_readChoice 56 rfl rfl) (by decide) ?_
                              refine zj_kill (k := 5) (L' := [some (.inr 107), some (.inr p1), some (.inl p2), some (.inl 1), some (.inl (x2011 + 1)), none]) rfl ?_
                              have f2186 : zfC (w_X7_readChoice p1) h h2154 := zfC_t f2014 f2157 (fun a9 b9 z9 => by
                                rcases z9 with z9 | z9
                                · exact (Or.inr (Or.inl (by omega)))
                                · exact (Or.inr (Or.inr (by omega))))
                              have f2185 : zfC (w_X7_readChoice p1) h h2170 := zfC_t f2186 f2174 (fun a9 b9 z9 => by
                                exact (Or.inl (by omega)))
                              have f2184 : zfC (w_X7_readChoice p1) h h2177 := zfC_t f2185 f2181 (fun a9 b9 z9 => by
                                rcases z9 with z9 | z9 | z9
                                · exact (Or.inl z9)
                                · exact (Or.inr (Or.inl (by omega)))
                                · exact (Or.inr (Or.inr (by omega))))
                              have b2187 : h2154.2 103 6 = (h2012.2 103 6) := (zfC_a f2157 (fun z9 => by unfold w_X3_put at z9; first | (revert z9; decide) | omega))
                              exact ih2106  1 (x2011 + 1) h2177 (by omega) (by omega) s2179 f2184 (by intro T P j t0; have k0 := t0.2.2.1.2; have l0 := t0.2.2.2.1; obtain ⟨x_1j, x_1a, x_1l, x_1r⟩ := u2104 T P j t0; have k_2 := x_1a.2.2.1.2; have k_2l := x_1a.2.2.2.1; have a_3 : tPo T P x_1j h2154 := tPo_f x_1a (fun i => (zfC_a f2157 (fun z9 => by unfold w_X3_put at z9; first | (revert z9; decide) | omega))) (fun i => (zfC_a f2157 (fun z9 => by unfold w_X3_put at z9; first | (revert z9; decide) | omega))) (zfC_a f2157 (fun z9 => by unfold w_X3_put at z9; first | (revert z9; decide) | omega)) (zfC_a f2157 (fun z9 => by unfold w_X3_put at z9; first | (revert z9; decide) | omega)) (zfC_a f2157 (fun z9 => by unfold w_X3_put at z9; first | (revert z9; decide) | omega)) (zfC_a f2157 (fun z9 => by unfold w_X3_put at z9; first | (revert z9; decide) | omega)) (zfC_a f2157 (fun z9 => by unfold w_X3_put at z9; first | (revert z9; decide) | omega)); have k_4 := a_3.2.2.1.2; have k_4l := a_3.2.2.2.1; have a_5 : tPo T P (x_1j + 1) h2170 := u2173 T P x_1j a_3 (by omega); obtain ⟨r_6j, r_6a, r_6l, r_6r⟩ := (u2180 T P (x_1j + 1) a_5).1 (by omega); exact ⟨r_6j, r_6a, by omega, fun p9 s9 o9 q9 => by rw [if_neg (by decide)]; exact tRe_s (tRe_t (by have z9 := x_1r p9 s9 o9 q9; by_cases c9 : x2010 = 0; (rw [if_pos c9] at z9; exact tRe_s z9 (tM11_f (by omega) (by omega))); (rw [if_neg c9] at z9; exact tRe_s z9 (tM11_o (by omega)))) (r_6r p9 (11 :: s9) (by rw [tOpn_11]; exact o9))) (tM9_e (show ¬ (11 : Int) = 9 by decide) (show ¬ (11 : Int) = 10 by decide))⟩) (by omega)
                            · exact absurd c2183 (by omega)
                          · refine zj_iconst (zdk ttX7_readChoice 45 rfl rfl) ?_
                            have f2190 : zfC (w_X7_readChoice p1) h h2154 := zfC_t f2014 f2157 (fun a9 b9 z9 => by
                              rcases z9 with z9 | z9
                              · exact (Or.inr (Or.inl (by omega)))
                              · exact (Or.inr (Or.inr (by omega))))
                            have f2189 : zfC (w_X7_readChoice p1) h h2170 := zfC_t f2190 f2174 (fun a9 b9 z9 => by
                              exact (Or.inl (by omega)))
                            have f2188 : zfC (w_X7_readChoice p1) h h2177 := zfC_t f2189 f2181 (fun a9 b9 z9 => by
                              rcases z9 with z9 | z9 | z9
                              · exact (Or.inl z9)
                              · exact (Or.inr (Or.inl (by omega)))
                              · exact (Or.inr (Or.inr (by omega))))
                            have b2191 : h2154.2 103 6 = (h2012.2 103 6) := (zfC_a f2157 (fun z9 => by unfold w_X3_put at z9; first | (revert z9; decide) | omega))
                            exact zj_zret rfl (zdk ttX7_readChoice 46 rfl rfl) (Nat.le_refl _) (Nat.le_refl _) (by omega) ⟨0, rfl, by omega, s2179, f2188, (by intro T P j t0; have k0 := t0.2.2.1.2; have l0 := t0.2.2.2.1; obtain ⟨x_1j, x_1a, x_1l, x_1r⟩ := u2104 T P j t0; have k_2 := x_1a.2.2.1.2; have k_2l := x_1a.2.2.2.1; have a_3 : tPo T P x_1j h2154 := tPo_f x_1a (fun i => (zfC_a f2157 (fun z9 => by unfold w_X3_put at z9; first | (revert z9; decide) | omega))) (fun i => (zfC_a f2157 (fun z9 => by unfold w_X3_put at z9; first | (revert z9; decide) | omega))) (zfC_a f2157 (fun z9 => by unfold w_X3_put at z9; first | (revert z9; decide) | omega)) (zfC_a f2157 (fun z9 => by unfold w_X3_put at z9; first | (revert z9; decide) | omega)) (zfC_a f2157 (fun z9 => by unfold w_X3_put at z9; first | (revert z9; decide) | omega)) (zfC_a f2157 (fun z9 => by unfold w_X3_put at z9; first | (revert z9; decide) | omega)) (zfC_a f2157 (fun z9 => by unfold w_X3_put at z9; first | (revert z9; decide) | omega)); have k_4 := a_3.2.2.1.2; have k_4l := a_3.2.2.2.1; have a_5 : tPo T P (x_1j + 1) h2170 := u2173 T P x_1j a_3 (by omega); obtain ⟨e_6i, e_6f, e_6q, e_6r⟩ := (u2180 T P (x_1j + 1) a_5).2 (by omega); exact ⟨fun z => absurd z (by omega), fun _ => ⟨e_6i, e_6f, e_6q, fun p9 s9 o9 q9 => tRe_t (by have z9 := x_1r p9 s9 o9 q9; by_cases c9 : x2010 = 0; (rw [if_pos c9] at z9; exact tRe_s z9 (tM11_f (by omega) (by omega))); (rw [if_neg c9] at z9; exact tRe_s z9 (tM11_o (by omega)))) (e_6r p9 (11 :: s9) (by rw [tOpn_11]; exact o9))⟩⟩)⟩
                        · exact absurd c2167 (by omega)
              · refine zj_istore (L' := [some (.inr 107), some (.inr p1), some (.inl p2), some (.inl x2010), some (.inl x2011), some (.inl 1)]) (zdk ttX7_readChoice 19 rfl rfl) (by decide) rfl ?_
                refine zj_iload (zdk ttX7_readChoice 20 rfl rfl) rfl ?_
                refine zj_if_ne (t := 51) (zdk ttX7_readChoice 21 rfl rfl) (by decide) (by decide) (fun c2192 => ?_) (fun c2192 => ?_)
                · refine zj_iload (zdk ttX7_readChoice 27 rfl rfl) rfl ?_
                  refine zj_if_ne (t := 70) (zdk ttX7_readChoice 28 rfl rfl) (by decide) (by decide) (fun c2193 => ?_) (fun c2193 => ?_)
                  · refine zj_aload_n (zdk ttX7_readChoice 37 rfl rfl) rfl (by decide) ?_
                    refine zj_getr (r := 103) (zdk ttX7_readChoice 38 rfl rfl) zf_RX7_9 rfl (k_L107 s2013) (rf_L107_0 s2013) ?_
                    refine zj_callV (av := []) (st := []) (zdk ttX7_readChoice 39 rfl rfl) mb_X6_pass mv_RX7_47 (ci := 6) rfl rfl (k_L103 s2013) rfl rfl (Nat.le_of_ble_eq_true rfl) (s2_X6_pass l h2012 s2013) (rm_ok (by omega) (by decide)) (zq_v fun h2196 q2194 => ?_)
                    obtain ⟨s2198, f2200, u2199⟩ := q2194
                    refine zj_aload_n (zdk ttX7_readChoice 40 rfl rfl) rfl (by decide) ?_
                    refine zj_aload_n (zdk ttX7_readChoice 41 rfl rfl) rfl (by omega) ?_
                    refine zj_iload_n (zdk ttX7_readChoice 42 rfl rfl) rfl ?_
                    refine zj_callV (av := [.inr p1, .inl p2]) (st := []) (zdk ttX7_readChoice 43 rfl rfl) mb_X7_readSingle mv_RX7_74 (ci := 7) rfl rfl (k_L107 s2198) rfl rfl (Nat.le_of_ble_eq_true rfl) (hr0 h2196 p1 p2 s2198 r_p1 (by omega) (by omega)) (rm_ok (by omega) (by decide)) (zq_i fun v2202 h2203 q2201 => ?_)
                    obtain ⟨b2204, s2205, f2207, u2206⟩ := q2201
                    refine zj_if_ne (t := 88) (zdk ttX7_readChoice 44 rfl rfl) (by decide) (by omega) (fun c2208 => ?_) (fun c2208 => ?_)
                    · refine zj_iload (zdk ttX7_readChoice 47 rfl rfl) rfl ?_
                      refine zj_if_eq (t := 103) (zdk ttX7_readChoice 48 rfl rfl) (by decide) (by decide) (fun c2209 => ?_) (fun c2209 => ?_)
                      · exact absurd c2209 (by omega)
                      · refine zj_aload_n (zdk ttX7_readChoice 49 rfl rfl) rfl (by omega) ?_
                        refine zj_sipush (zdk ttX7_readChoice 50 rfl rfl) (by decide) ?_
                        refine zj_callV (av := [.inl 20005]) (st := []) (zdk ttX7_readChoice 51 rfl rfl) mb_X3_put mv_RX7_77 (ci := 3) rfl rfl (k_3_0 s2205 r_p1) rfl rfl (Nat.le_of_ble_eq_true rfl) (s_X3_put l h2203 p1 20005 s2205 r_p1 (by omega)) (rm_ok (by omega) (by decide)) (zq_v fun h2212 q2210 => ?_)
                        obtain ⟨s2214, f2215⟩ := q2210
                        refine zj_goto (t := 105) (zdk ttX7_readChoice 52 rfl rfl) (by decide) ?_
                        refine zj_iinc (L' := [some (.inr 107), some (.inr p1), some (.inl p2), some (.inl x2010), some (.inl (x2011 + 1)), some (.inl 1)]) (zdk ttX7_readChoice 55 rfl rfl) rfl (by decide) rfl ?_
                        refine zj_goto (t := 16) (zdk ttX7_readChoice 56 rfl rfl) (by decide) ?_
                        refine zj_kill (k := 5) (L' := [some (.inr 107), some (.inr p1), some (.inl p2), some (.inl x2010), some (.inl (x2011 + 1)), none]) rfl ?_
                        have f2218 : zfC (w_X7_readChoice p1) h h2196 := zfC_t f2014 f2200 (fun a9 b9 z9 => by
                          exact (Or.inl (by omega)))
                        have f2217 : zfC (w_X7_readChoice p1) h h2203 := zfC_t f2218 f2207 (fun a9 b9 z9 => by
                          rcases z9 with z9 | z9 | z9
                          · exact (Or.inl z9)
                          · exact (Or.inr (Or.inl (by omega)))
                          · exact (Or.inr (Or.inr (by omega))))
                        have f2216 : zfC (w_X7_readChoice p1) h h2212 := zfC_t f2217 f2215 (fun a9 b9 z9 => by
                          rcases z9 with z9 | z9
                          · exact (Or.inr (Or.inl (by omega)))
                          · exact (Or.inr (Or.inr (by omega))))
                        have b2219 : h2212.2 103 6 = (h2203.2 103 6) := (zfC_a f2215 (fun z9 => by unfold w_X3_put at z9; first | (revert z9; decide) | omega))
                        exact ih2106  x2010 (x2011 + 1) h2212 (by omega) (by omega) s2214 f2216 (by intro T P j t0; have k0 := t0.2.2.1.2; have l0 := t0.2.2.2.1; obtain ⟨x_1j, x_1a, x_1l, x_1r⟩ := u2104 T P j t0; have k_2 := x_1a.2.2.1.2; have k_2l := x_1a.2.2.2.1; have k_3 := x_1a.2.2.1.2; have k_3l := x_1a.2.2.2.1; have a_4 : tPo T P (x_1j + 1) h2196 := u2199 T P x_1j x_1a (by omega); obtain ⟨r_5j, r_5a, r_5l, r_5r⟩ := (u2206 T P (x_1j + 1) a_4).1 (by omega); have a_6 : tPo T P r_5j h2212 := tPo_f r_5a (fun i => (zfC_a f2215 (fun z9 => by unfold w_X3_put at z9; first | (revert z9; decide) | omega))) (fun i => (zfC_a f2215 (fun z9 => by unfold w_X3_put at z9; first | (revert z9; decide) | omega))) (zfC_a f2215 (fun z9 => by unfold w_X3_put at z9; first | (revert z9; decide) | omega)) (zfC_a f2215 (fun z9 => by unfold w_X3_put at z9; first | (revert z9; decide) | omega)) (zfC_a f2215 (fun z9 => by unfold w_X3_put at z9; first | (revert z9; decide) | omega)) (zfC_a f2215 (fun z9 => by unfold w_X3_put at z9; first | (revert z9; decide) | omega)) (zfC_a f2215 (fun z9 => by unfold w_X3_put at z9; first | (revert z9; decide) | omega)); exact ⟨r_5j, a_6, by omega, fun p9 s9 o9 q9 => tRe_s (tRe_t (tRe_s (x_1r p9 s9 o9 q9) (tM11_a (by omega))) (r_5r p9 (10 :: if x2010 = 0 then s9 else 11 :: s9) (by rw [tOpn_10, tOpn_if]; exact o9))) tM9_a⟩) (by omega)
                    · refine zj_iconst (zdk ttX7_readChoice 45 rfl rfl) ?_
                      have f2221 : zfC (w_X7_readChoice p1) h h2196 := zfC_t f2014 f2200 (fun a9 b9 z9 => by
                        exact (Or.inl (by omega)))
                      have f2220 : zfC (w_X7_readChoice p1) h h2203 := zfC_t f2221 f2207 (fun a9 b9 z9 => by
                        rcases z9 with z9 | z9 | z9
                        · exact (Or.inl z9)
                        · exact (Or.inr (Or.inl (by omega)))
                        · exact (Or.inr (Or.inr (by omega))))
                      exact zj_zret rfl (zdk ttX7_readChoice 46 rfl rfl) (Nat.le_refl _) (Nat.le_refl _) (by omega) ⟨0, rfl, by omega, s2205, f2220, (by intro T P j t0; have k0 := t0.2.2.1.2; have l0 := t0.2.2.2.1; obtain ⟨x_1j, x_1a, x_1l, x_1r⟩ := u2104 T P j t0; have k_2 := x_1a.2.2.1.2; have k_2l := x_1a.2.2.2.1; have k_3 := x_1a.2.2.1.2; have k_3l := x_1a.2.2.2.1; have a_4 : tPo T P (x_1j + 1) h2196 := u2199 T P x_1j x_1a (by omega); obtain ⟨e_5i, e_5f, e_5q, e_5r⟩ := (u2206 T P (x_1j + 1) a_4).2 (by omega); exact ⟨fun z => absurd z (by omega), fun _ => ⟨e_5i, e_5f, e_5q, fun p9 s9 o9 q9 => tRe_t (tRe_s (x_1r p9 s9 o9 q9) (tM11_a (by omega))) (e_5r p9 (10 :: if x2010 = 0 then s9 else 11 :: s9) (by rw [tOpn_10, tOpn_if]; exact o9))⟩⟩)⟩
                  · exact absurd c2193 (by omega)
                · exact absurd c2192 (by omega)
        have f2222 : zfC (w_X7_readChoice p1) h h2004 := zfC_t (zfC_r _ _) f2008 (fun a9 b9 z9 => by
          rcases z9 with z9 | z9 | z9
          · exact (Or.inl z9)
          · exact (Or.inr (Or.inl (by omega)))
          · exact (Or.inr (Or.inr (by omega))))
        exact lp2101 _ 0 0 h2004 (by omega) (by omega) s2006 f2222 (by intro T P j t0; have k0 := t0.2.2.1.2; have l0 := t0.2.2.2.1; obtain ⟨r_1j, r_1a, r_1l, r_1r⟩ := (u2007 T P j t0).1 (by omega); exact ⟨r_1j, r_1a, by omega, fun p9 s9 o9 q9 => by rw [if_pos rfl]; exact tRe_s (r_1r p9 s9 o9) (tM9_e (by omega) (by omega))⟩) (Nat.lt_succ_self _)
      · refine zj_iconst (zdk ttX7_readChoice 5 rfl rfl) ?_
        have f2223 : zfC (w_X7_readChoice p1) h h2004 := zfC_t (zfC_r _ _) f2008 (fun a9 b9 z9 => by
          rcases z9 with z9 | z9 | z9
          · exact (Or.inl z9)
          · exact (Or.inr (Or.inl (by omega)))
          · exact (Or.inr (Or.inr (by omega))))
        exact zj_zret rfl (zdk ttX7_readChoice 6 rfl rfl) (Nat.le_refl _) (Nat.le_refl _) (by omega) ⟨0, rfl, by omega, s2006, f2223, (by intro T P j t0; have k0 := t0.2.2.1.2; have l0 := t0.2.2.2.1; obtain ⟨e_1i, e_1f, e_1q, e_1r⟩ := (u2007 T P j t0).2 (by omega); exact ⟨fun z => absurd z (by omega), fun _ => ⟨e_1i, e_1f, e_1q, fun p9 s9 o9 q9 => e_1r p9 s9 o9⟩⟩)⟩
    exact ⟨hr0, hr1⟩

