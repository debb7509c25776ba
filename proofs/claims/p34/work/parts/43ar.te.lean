abbrev q2_X6_pass (h : zM) : Option zV → zM → Prop := zqv fun h' => okC h' ∧ zfC w_X6_pass h h' ∧ (∀ T P j, tPo T P j h → ¬ T j = 0 → tPo T P (j + 1) h')
set_option maxRecDepth 100000 in
set_option maxHeartbeats 4000000 in
theorem s2_X6_pass (l : Launch) (h : zM) (s0 : okC h) : zT shC l yX6_pass cX6_pass 1 none (rmL 1) 0 0 [.inr 103] h (q2_X6_pass h) := by
  refine zT_of (by decide +kernel) (L0 := [some (.inr 103)]) rfl (Nat.le_of_ble_eq_true rfl) ?_
  refine zj_aload_n (zdk ttX6_pass 0 rfl rfl) rfl (by decide) ?_
  have b1 : 0 ≤ (h.2 103 5) ∧ (h.2 103 5) ≤ 400 := fb_L103_5 s0
  refine zj_geti (v := (h.2 103 5)) (zdk ttX6_pass 1 rfl rfl) zf_RX6_28 rfl (k_L103 s0) rfl ?_
  refine zj_iconst (zdk ttX6_pass 2 rfl rfl) ?_
  refine zj_iadd (zdk ttX6_pass 3 rfl rfl) ?_
  refine zj_aload_n (zdk ttX6_pass 4 rfl rfl) rfl (by decide) ?_
  have b2 : 0 ≤ (h.2 103 4) ∧ (h.2 103 4) ≤ 401 := fb_L103_4 s0
  refine zj_geti (v := (h.2 103 4)) (zdk ttX6_pass 5 rfl rfl) zf_RX6_25 rfl (k_L103 s0) rfl ?_
  refine zj_icmp_ge (t := 36) (zdk ttX6_pass 6 rfl rfl) (by decide) (by omega) (by omega) (fun c3 => ?_) (fun c3 => ?_)
  · exact zj_vret rfl (zdk ttX6_pass 20 rfl rfl) (Nat.le_refl _) (Nat.le_refl _) ⟨rfl, s0, (zfC_r _ _), (fun T P j t n => absurd (tPo_e t (by omega)) n)⟩
  · refine zj_aload_n (zdk ttX6_pass 7 rfl rfl) rfl (by decide) ?_
    refine zj_dup (zdk ttX6_pass 8 rfl rfl) ?_
    refine zj_geti (v := (h.2 103 5)) (zdk ttX6_pass 9 rfl rfl) zf_RX6_28 rfl (k_L103 s0) rfl ?_
    refine zj_iconst (zdk ttX6_pass 10 rfl rfl) ?_
    refine zj_iadd (zdk ttX6_pass 11 rfl rfl) ?_
    refine zj_puti (zdk ttX6_pass 12 rfl rfl) zf_RX6_28 rfl (k_L103 s0) (Or.inl zw_RX6_28) (k2 := 5) rfl (fun h4 e5 => ?_)
    refine zj_aload_n (zdk ttX6_pass 13 rfl rfl) rfl (by decide) ?_
    refine zj_aload_n (zdk ttX6_pass 14 rfl rfl) rfl (by decide) ?_
    have s6 : okC h4 := fw_L103_5 s0 e5 (by omega)
    refine zj_getr (r := 105) (zdk ttX6_pass 15 rfl rfl) zf_RX6_15 rfl (k_L103 s6) (rf_L103_1 s6) ?_
    refine zj_aload_n (zdk ttX6_pass 16 rfl rfl) rfl (by decide) ?_
    refine zj_geti (v := ((h.2 103 5) + 1)) (zdk ttX6_pass 17 rfl rfl) zf_RX6_28 rfl (k_L103 s6) (zwr_v e5) ?_
    have b7 : -2147483648 ≤ (h.2 105 ((h.2 103 5) + 1)) ∧ (h.2 105 ((h.2 103 5) + 1)) ≤ 2147483647 := ab_L103_1 s0 ((h.2 103 5) + 1)
    refine zj_iald (v := (h.2 105 ((h.2 103 5) + 1))) (zdk ttX6_pass 18 rfl rfl) (ka_L103_1 s6) (by decide) (by omega) (zwr_r e5 (by first | decide | exact (absurd ·.1 (by decide)) | exact (absurd ·.2 (by decide)) | omega)) ?_
    refine zj_puti (zdk ttX6_pass 19 rfl rfl) zf_RX6_31 rfl (k_L103 s6) (Or.inl zw_RX6_31) (k2 := 6) rfl (fun h8 e9 => ?_)
    have s10 : okC h8 := fw_L103_6 s6 e9 (by omega)
    have f12 : zfC w_X6_pass h h4 := zfC_w (zfC_r _ _) e5 (by omega)
    have f11 : zfC w_X6_pass h h8 := zfC_w f12 e9 (by omega)
    exact zj_vret rfl (zdk ttX6_pass 20 rfl rfl) (Nat.le_refl _) (Nat.le_refl _) ⟨rfl, s10, f11, (fun T P j t n => tPo_p t n e5 e9)⟩

abbrev q2_X6_refuse (h : zM) (p1 : Int) : Option zV → zM → Prop := zqi fun v h' => (0 ≤ v ∧ v ≤ 0) ∧ okC h' ∧ zfC w_X6_refuse h h' ∧ (∀ T P j, tPo T P j h → h'.2 103 7 = p1 ∧ h'.2 103 8 = P j)
set_option maxRecDepth 100000 in
set_option maxHeartbeats 4000000 in
theorem s2_X6_refuse (l : Launch) (h : zM) (p1 : Int) (s0 : okC h) (b_p1 : (-2147483648) ≤ p1 ∧ p1 ≤ 2147483647) : zT shC l yX6_refuse cX6_refuse 2 (some .boolean) (rmL 1) 0 0 [.inr 103, .inl p1] h (q2_X6_refuse h p1) := by
  refine zT_of (by decide +kernel) (L0 := [some (.inr 103), some (.inl p1)]) rfl (Nat.le_of_ble_eq_true rfl) ?_
  refine zj_aload_n (zdk ttX6_refuse 0 rfl rfl) rfl (by decide) ?_
  refine zj_iload_n (zdk ttX6_refuse 1 rfl rfl) rfl ?_
  refine zj_puti (zdk ttX6_refuse 2 rfl rfl) zf_RX6_34 rfl (k_L103 s0) (Or.inl zw_RX6_34) (k2 := 7) rfl (fun h1 e2 => ?_)
  refine zj_aload_n (zdk ttX6_refuse 3 rfl rfl) rfl (by decide) ?_
  refine zj_aload_n (zdk ttX6_refuse 4 rfl rfl) rfl (by decide) ?_
  have s3 : okC h1 := fw_L103_7 s0 e2 (by omega)
  refine zj_getr (r := 106) (zdk ttX6_refuse 5 rfl rfl) zf_RX6_18 rfl (k_L103 s3) (rf_L103_2 s3) ?_
  refine zj_aload_n (zdk ttX6_refuse 6 rfl rfl) rfl (by decide) ?_
  have b4 : 0 ≤ (h.2 103 5) ∧ (h.2 103 5) ≤ 400 := fb_L103_5 s0
  refine zj_geti (v := (h.2 103 5)) (zdk ttX6_refuse 7 rfl rfl) zf_RX6_28 rfl (k_L103 s3) (zwr_r e2 (by first | decide | exact (absurd ·.1 (by decide)) | exact (absurd ·.2 (by decide)) | omega)) ?_
  have b5 : -2147483648 ≤ (h.2 106 (h.2 103 5)) ∧ (h.2 106 (h.2 103 5)) ≤ 2147483647 := ab_L103_2 s0 (h.2 103 5)
  refine zj_iald (v := (h.2 106 (h.2 103 5))) (zdk ttX6_refuse 8 rfl rfl) (ka_L103_2 s3) (by decide) (by omega) (zwr_r e2 (by first | decide | exact (absurd ·.1 (by decide)) | exact (absurd ·.2 (by decide)) | omega)) ?_
  refine zj_puti (zdk ttX6_refuse 9 rfl rfl) zf_RX6_37 rfl (k_L103 s3) (Or.inl zw_RX6_37) (k2 := 8) rfl (fun h6 e7 => ?_)
  refine zj_iconst (zdk ttX6_refuse 10 rfl rfl) ?_
  have s8 : okC h6 := fw_L103_8 s3 e7 (by omega)
  have f10 : zfC w_X6_refuse h h1 := zfC_w (zfC_r _ _) e2 (by omega)
  have f9 : zfC w_X6_refuse h h6 := zfC_w f10 e7 (by omega)
  exact zj_zret rfl (zdk ttX6_refuse 11 rfl rfl) (Nat.le_refl _) (Nat.le_refl _) (by omega) ⟨0, rfl, by omega, s8, f9, (fun T P j t => ⟨(zwr_r e7 (by first | decide | exact (absurd ·.1 (by decide)) | exact (absurd ·.2 (by decide)) | omega)).trans (zwr_v e2), (zwr_v e7).trans (by rw [t.2.1, t.2.2.1.1])⟩)⟩

abbrev q2_X6_takes (h : zM) (p1 : Int) : Option zV → zM → Prop := zqi fun v h' => (0 ≤ v ∧ v ≤ 1) ∧ okC h' ∧ zfC w_X6_takes h h' ∧ (∀ T P j, tPo T P j h → (v = 1 → T j = p1 ∧ (¬ p1 = 0 → tPo T P (j + 1) h')) ∧ (v = 0 → ¬ T j = p1 ∧ h'.2 103 7 = 1 ∧ h'.2 103 8 = P j))
set_option maxRecDepth 100000 in
set_option maxHeartbeats 4000000 in
theorem s2_X6_takes (l : Launch) (h : zM) (p1 : Int) (s0 : okC h) (b_p1 : (-2147483648) ≤ p1 ∧ p1 ≤ 2147483647) : zT shC l yX6_takes cX6_takes 2 (some .boolean) (rmL 2) 0 0 [.inr 103, .inl p1] h (q2_X6_takes h p1) := by
  refine zT_of (by decide +kernel) (L0 := [some (.inr 103), some (.inl p1)]) rfl (Nat.le_of_ble_eq_true rfl) ?_
  refine zj_aload_n (zdk ttX6_takes 0 rfl rfl) rfl (by decide) ?_
  have b1 : -2147483648 ≤ (h.2 103 6) ∧ (h.2 103 6) ≤ 2147483647 := fb_L103_6 s0
  refine zj_geti (v := (h.2 103 6)) (zdk ttX6_takes 1 rfl rfl) zf_RX6_31 rfl (k_L103 s0) rfl ?_
  refine zj_iload_n (zdk ttX6_takes 2 rfl rfl) rfl ?_
  refine zj_icmp_eq (t := 14) (zdk ttX6_takes 3 rfl rfl) (by decide) (by omega) (by omega) (fun c2 => ?_) (fun c2 => ?_)
  · refine zj_aload_n (zdk ttX6_takes 8 rfl rfl) rfl (by decide) ?_
    refine zj_callV (av := []) (st := []) (zdk ttX6_takes 9 rfl rfl) mb_X6_pass mv_RX6_84 (ci := 6) rfl rfl (k_L103 s0) rfl rfl (Nat.le_of_ble_eq_true rfl) (s2_X6_pass l h s0) (rm_ok (by decide) (by decide)) (zq_v fun h5 q3 => ?_)
    obtain ⟨s7, f9, u8⟩ := q3
    refine zj_iconst (zdk ttX6_takes 10 rfl rfl) ?_
    have f10 : zfC w_X6_takes h h5 := zfC_t (zfC_r _ _) f9 (fun a9 b9 z9 => by
      exact (by omega))
    exact zj_zret rfl (zdk ttX6_takes 11 rfl rfl) (Nat.le_refl _) (Nat.le_refl _) (by omega) ⟨1, rfl, by omega, s7, f10, (by intro T P j t0; have k0 := t0.2.2.1.2; have l0 := t0.2.2.2.1; exact ⟨fun _ => ⟨by omega, fun z => u8 T P j t0 (by omega)⟩, fun z => absurd z (by omega)⟩)⟩
  · refine zj_aload_n (zdk ttX6_takes 4 rfl rfl) rfl (by decide) ?_
    refine zj_iconst (zdk ttX6_takes 5 rfl rfl) ?_
    refine zj_callV (av := [.inl 1]) (st := []) (zdk ttX6_takes 6 rfl rfl) mb_X6_refuse mv_RX6_81 (ci := 6) rfl rfl (k_L103 s0) rfl rfl (Nat.le_of_ble_eq_true rfl) (s2_X6_refuse l h 1 s0 (by omega)) (rm_ok (by decide) (by decide)) (zq_i fun v12 h13 q11 => ?_)
    obtain ⟨b14, s15, f17, u16⟩ := q11
    have f18 : zfC w_X6_takes h h13 := zfC_t (zfC_r _ _) f17 (fun a9 b9 z9 => by
      exact (by omega))
    have b19 : h13.2 103 6 = (h.2 103 6) := (zfC_a f17 (fun z9 => by unfold w_X6_refuse at z9; first | (revert z9; decide) | omega))
    exact zj_zret rfl (zdk ttX6_takes 7 rfl rfl) (Nat.le_refl _) (Nat.le_refl _) (by omega) ⟨v12, rfl, by omega, s15, f18, (by intro T P j t0; have k0 := t0.2.2.1.2; have l0 := t0.2.2.2.1; have e_1 := u16 T P j t0; exact ⟨fun z => absurd z (by omega), fun _ => ⟨by omega, e_1.1, e_1.2⟩⟩)⟩

abbrev q2_X6_takesNumber (h : zM) (p1 : Int) (p2 : Int) : Option zV → zM → Prop := zqi fun v h' => (0 ≤ v ∧ v ≤ 1) ∧ okC h' ∧ zfC w_X6_takesNumber h h' ∧ (∀ T P j, tPo T P j h → (v = 1 → 0 ≤ tNm p1 p2 (T j) ∧ h'.2 103 9 = tNm p1 p2 (T j) ∧ tPo T P (j + 1) h') ∧ (v = 0 → tNm p1 p2 (T j) < 0 ∧ h'.2 103 7 = -(tNm p1 p2 (T j)) ∧ h'.2 103 8 = P j)) ∧ (v = 1 → p1 ≤ h'.2 103 9 ∧ h'.2 103 9 ≤ p2)
set_option maxRecDepth 100000 in
set_option maxHeartbeats 4000000 in
theorem s2_X6_takesNumber (l : Launch) (h : zM) (p1 : Int) (p2 : Int) (s0 : okC h) (b_p1 : (-2147483648) ≤ p1 ∧ p1 ≤ 2147483647) (b_p2 : (-2147483648) ≤ p2 ∧ p2 ≤ 2147483647) : zT shC l yX6_takesNumber cX6_takesNumber 3 (some .boolean) (rmL 2) 0 0 [.inr 103, .inl p1, .inl p2] h (q2_X6_takesNumber h p1 p2) := by
  refine zT_of (by decide +kernel) (L0 := [some (.inr 103), some (.inl p1), some (.inl p2)]) rfl (Nat.le_of_ble_eq_true rfl) ?_
  refine zj_aload_n (zdk ttX6_takesNumber 0 rfl rfl) rfl (by decide) ?_
  refine zj_callV (av := []) (st := []) (zdk ttX6_takesNumber 1 rfl rfl) mb_X6_isNumber mv_RX6_87 (ci := 6) rfl rfl (k_L103 s0) rfl rfl (Nat.le_of_ble_eq_true rfl) (s_X6_isNumber l h s0) (rm_ok (by decide) (by decide)) (zq_i fun v2 h3 q1 => ?_)
  obtain ⟨rfl, b5, ⟨rfl, b4⟩ | ⟨rfl, b4⟩⟩ := q1
  · refine zj_if_ne (t := 13) (zdk ttX6_takesNumber 2 rfl rfl) (by decide) (by decide) (fun c6 => ?_) (fun c6 => ?_)
    · exact absurd c6 (by omega)
    · refine zj_aload_n (zdk ttX6_takesNumber 3 rfl rfl) rfl (by decide) ?_
      refine zj_iconst (zdk ttX6_takesNumber 4 rfl rfl) ?_
      refine zj_callV (av := [.inl 1]) (st := []) (zdk ttX6_takesNumber 5 rfl rfl) mb_X6_refuse mv_RX6_81 (ci := 6) rfl rfl (k_L103 s0) rfl rfl (Nat.le_of_ble_eq_true rfl) (s2_X6_refuse l h 1 s0 (by omega)) (rm_ok (by decide) (by decide)) (zq_i fun v8 h9 q7 => ?_)
      obtain ⟨b10, s11, f13, u12⟩ := q7
      have f14 : zfC w_X6_takesNumber h h9 := zfC_t (zfC_r _ _) f13 (fun a9 b9 z9 => by
        exact (by omega))
      have b15 : h9.2 103 6 = (h.2 103 6) := (zfC_a f13 (fun z9 => by unfold w_X6_refuse at z9; first | (revert z9; decide) | omega))
      have b16 : h9.2 103 9 = (h.2 103 9) := (zfC_a f13 (fun z9 => by unfold w_X6_refuse at z9; first | (revert z9; decide) | omega))
      exact zj_zret rfl (zdk ttX6_takesNumber 6 rfl rfl) (Nat.le_refl _) (Nat.le_refl _) (by omega) ⟨v8, rfl, by omega, s11, f14, (by intro T P j t0; have k0 := t0.2.2.1.2; have l0 := t0.2.2.2.1; have e_1 := u12 T P j t0; have o9 := tNm_f p1 p2 (T j); exact ⟨fun z => absurd z (by omega), fun _ => ⟨by omega, by have e9 := e_1.1; omega, e_1.2⟩⟩), by omega⟩
  · refine zj_if_ne (t := 13) (zdk ttX6_takesNumber 2 rfl rfl) (by decide) (by decide) (fun c17 => ?_) (fun c17 => ?_)
    · refine zj_aload_n (zdk ttX6_takesNumber 7 rfl rfl) rfl (by decide) ?_
      refine zj_aload_n (zdk ttX6_takesNumber 8 rfl rfl) rfl (by decide) ?_
      refine zj_geti (v := (h.2 103 6)) (zdk ttX6_takesNumber 9 rfl rfl) zf_RX6_31 rfl (k_L103 s0) rfl ?_
      refine zj_sipush (zdk ttX6_takesNumber 10 rfl rfl) (by decide) ?_
      refine zj_isub (zdk ttX6_takesNumber 11 rfl rfl) ?_
      refine zj_puti (zdk ttX6_takesNumber 12 rfl rfl) zf_RX6_40 rfl (k_L103 s0) (Or.inl zw_RX6_40) (k2 := 9) rfl (fun h18 e19 => ?_)
      refine zj_aload_n (zdk ttX6_takesNumber 13 rfl rfl) rfl (by decide) ?_
      have s20 : okC h18 := fw_L103_9 s0 e19 (by omega)
      refine zj_geti (v := ((h.2 103 6) - 1000)) (zdk ttX6_takesNumber 14 rfl rfl) zf_RX6_40 rfl (k_L103 s20) (zwr_v e19) ?_
      refine zj_iload_n (zdk ttX6_takesNumber 15 rfl rfl) rfl ?_
      refine zj_iload_n (zdk ttX6_takesNumber 16 rfl rfl) rfl ?_
      refine zj_callS (av := [.inl ((h.2 103 6) - 1000), .inl p1, .inl p2]) (st := []) (zdk ttX6_takesNumber 17 rfl rfl) mb_X10_within ms_RX6_91 rfl rfl (Nat.le_of_ble_eq_true rfl) (s_X10_within l h18 ((h.2 103 6) - 1000) p1 p2 s20 (by omega) (by omega) (by omega)) (rm_ok (by decide) (by decide)) (zq_i fun v22 h23 q21 => ?_)
      obtain ⟨rfl, ⟨rfl, b24⟩ | ⟨rfl, b24⟩⟩ := q21
      · refine zj_if_ne (t := 43) (zdk ttX6_takesNumber 18 rfl rfl) (by decide) (by decide) (fun c25 => ?_) (fun c25 => ?_)
        · exact absurd c25 (by omega)
        · refine zj_aload_n (zdk ttX6_takesNumber 19 rfl rfl) rfl (by decide) ?_
          refine zj_iconst (zdk ttX6_takesNumber 20 rfl rfl) ?_
          refine zj_callV (av := [.inl 2]) (st := []) (zdk ttX6_takesNumber 21 rfl rfl) mb_X6_refuse mv_RX6_81 (ci := 6) rfl rfl (k_L103 s20) rfl rfl (Nat.le_of_ble_eq_true rfl) (s2_X6_refuse l h18 2 s20 (by omega)) (rm_ok (by decide) (by decide)) (zq_i fun v27 h28 q26 => ?_)
          obtain ⟨b29, s30, f32, u31⟩ := q26
          have f34 : zfC w_X6_takesNumber h h18 := zfC_w (zfC_r _ _) e19 (by omega)
          have f33 : zfC w_X6_takesNumber h h28 := zfC_t f34 f32 (fun a9 b9 z9 => by
            exact (by omega))
          have b35 : h18.2 103 6 = (h.2 103 6) := (zwr_r e19 (by first | decide | exact (absurd ·.1 (by decide)) | exact (absurd ·.2 (by decide)) | omega))
          have b36 : h28.2 103 6 = (h.2 103 6) := ((zfC_a f32 (fun z9 => by unfold w_X6_refuse at z9; first | (revert z9; decide) | omega)).trans (zwr_r e19 (by first | decide | exact (absurd ·.1 (by decide)) | exact (absurd ·.2 (by decide)) | omega)))
          have b37 : h28.2 103 9 = ((h.2 103 6) - 1000) := ((zfC_a f32 (fun z9 => by unfold w_X6_refuse at z9; first | (revert z9; decide) | omega)).trans (zwr_v e19))
          exact zj_zret rfl (zdk ttX6_takesNumber 22 rfl rfl) (Nat.le_refl _) (Nat.le_refl _) (by omega) ⟨v27, rfl, by omega, s30, f33, (by intro T P j t0; have k0 := t0.2.2.1.2; have l0 := t0.2.2.2.1; have a_1 : tPo T P j h18 := tPo_f t0 (fun i => (zwr_r e19 (by first | decide | exact (absurd ·.1 (by decide)) | exact (absurd ·.2 (by decide)) | omega))) (fun i => (zwr_r e19 (by first | decide | exact (absurd ·.1 (by decide)) | exact (absurd ·.2 (by decide)) | omega))) (zwr_r e19 (by first | decide | exact (absurd ·.1 (by decide)) | exact (absurd ·.2 (by decide)) | omega)) (zwr_r e19 (by first | decide | exact (absurd ·.1 (by decide)) | exact (absurd ·.2 (by decide)) | omega)) (zwr_r e19 (by first | decide | exact (absurd ·.1 (by decide)) | exact (absurd ·.2 (by decide)) | omega)) (zwr_r e19 (by first | decide | exact (absurd ·.1 (by decide)) | exact (absurd ·.2 (by decide)) | omega)) (zwr_r e19 (by first | decide | exact (absurd ·.1 (by decide)) | exact (absurd ·.2 (by decide)) | omega)); have e_2 := u31 T P j a_1; have k_3 := a_1.2.2.1.2; have k_3l := a_1.2.2.2.1; have o9 := tNm_f p1 p2 (T j); exact ⟨fun z => absurd z (by omega), fun _ => ⟨by omega, by have e9 := e_2.1; omega, e_2.2⟩⟩), by omega⟩
      · refine zj_if_ne (t := 43) (zdk ttX6_takesNumber 18 rfl rfl) (by decide) (by decide) (fun c38 => ?_) (fun c38 => ?_)
        · refine zj_aload_n (zdk ttX6_takesNumber 23 rfl rfl) rfl (by decide) ?_
          refine zj_callV (av := []) (st := []) (zdk ttX6_takesNumber 24 rfl rfl) mb_X6_pass mv_RX6_84 (ci := 6) rfl rfl (k_L103 s20) rfl rfl (Nat.le_of_ble_eq_true rfl) (s2_X6_pass l h18 s20) (rm_ok (by decide) (by decide)) (zq_v fun h41 q39 => ?_)
          obtain ⟨s43, f45, u44⟩ := q39
          refine zj_iconst (zdk ttX6_takesNumber 25 rfl rfl) ?_
          have f47 : zfC w_X6_takesNumber h h18 := zfC_w (zfC_r _ _) e19 (by omega)
          have f46 : zfC w_X6_takesNumber h h41 := zfC_t f47 f45 (fun a9 b9 z9 => by
            exact (by omega))
          have b48 : h18.2 103 6 = (h.2 103 6) := (zwr_r e19 (by first | decide | exact (absurd ·.1 (by decide)) | exact (absurd ·.2 (by decide)) | omega))
          have b49 : h41.2 103 9 = ((h.2 103 6) - 1000) := ((zfC_a f45 (fun z9 => by unfold w_X6_pass at z9; first | (revert z9; decide) | omega)).trans (zwr_v e19))
          have b50 : h41.2 103 9 = ((h.2 103 6) - 1000) := ((zfC_a f45 (fun z9 => by unfold w_X6_pass at z9; first | (revert z9; decide) | omega)).trans (zwr_v e19))
          exact zj_zret rfl (zdk ttX6_takesNumber 26 rfl rfl) (Nat.le_refl _) (Nat.le_refl _) (by omega) ⟨1, rfl, by omega, s43, f46, (by intro T P j t0; have k0 := t0.2.2.1.2; have l0 := t0.2.2.2.1; have o9 := tNm_f p1 p2 (T j); have a_1 : tPo T P j h18 := tPo_f t0 (fun i => (zwr_r e19 (by first | decide | exact (absurd ·.1 (by decide)) | exact (absurd ·.2 (by decide)) | omega))) (fun i => (zwr_r e19 (by first | decide | exact (absurd ·.1 (by decide)) | exact (absurd ·.2 (by decide)) | omega))) (zwr_r e19 (by first | decide | exact (absurd ·.1 (by decide)) | exact (absurd ·.2 (by decide)) | omega)) (zwr_r e19 (by first | decide | exact (absurd ·.1 (by decide)) | exact (absurd ·.2 (by decide)) | omega)) (zwr_r e19 (by first | decide | exact (absurd ·.1 (by decide)) | exact (absurd ·.2 (by decide)) | omega)) (zwr_r e19 (by first | decide | exact (absurd ·.1 (by decide)) | exact (absurd ·.2 (by decide)) | omega)) (zwr_r e19 (by first | decide | exact (absurd ·.1 (by decide)) | exact (absurd ·.2 (by decide)) | omega)); have k_2 := a_1.2.2.1.2; have k_2l := a_1.2.2.2.1; have a_3 : tPo T P (j + 1) h41 := u44 T P j a_1 (by omega); exact ⟨fun _ => ⟨by omega, by omega, a_3⟩, fun z => absurd z (by omega)⟩), by omega⟩
        · exact absurd c38 (by omega)
    · exact absurd c17 (by omega)

abbrev q2_X6_opensLine (h : zM) (p1 : Int) (p2 : Int) (p3 : Int) : Option zV → zM → Prop := zqi fun v h' => (0 ≤ v ∧ v ≤ 1) ∧ okC h' ∧ zfC w_X6_opensLine h h' ∧ (∀ T P j, tPo T P j h → (v = 1 → (200 + p2 ≤ T j ∧ T j ≤ 200 + p3) ∧ p1 < 16 ∧ tPo T P j h') ∧ (v = 0 → h'.2 103 8 = P j ∧ ((¬ (200 + p2 ≤ T j ∧ T j ≤ 200 + p3) ∧ h'.2 103 7 = 1) ∨ ((200 + p2 ≤ T j ∧ T j ≤ 200 + p3) ∧ 16 ≤ p1 ∧ h'.2 103 7 = 3)))) ∧ (v = 1 → p1 ≤ 15)
set_option maxRecDepth 100000 in
set_option maxHeartbeats 4000000 in
theorem s2_X6_opensLine (l : Launch) (h : zM) (p1 : Int) (p2 : Int) (p3 : Int) (s0 : okC h) (b_p1 : (-2147483648) ≤ p1 ∧ p1 ≤ 2147483647) (b_p2 : 0 ≤ p2 ∧ p2 ≤ 20) (b_p3 : 0 ≤ p3 ∧ p3 ≤ 20) : zT shC l yX6_opensLine cX6_opensLine 4 (some .boolean) (rmL 4) 0 0 [.inr 103, .inl p1, .inl p2, .inl p3] h (q2_X6_opensLine h p1 p2 p3) := by
  refine zT_of (by decide +kernel) (L0 := [some (.inr 103), some (.inl p1), some (.inl p2), some (.inl p3)]) rfl (Nat.le_of_ble_eq_true rfl) ?_
  refine zj_aload_n (zdk ttX6_opensLine 0 rfl rfl) rfl (by decide) ?_
  refine zj_iload_n (zdk ttX6_opensLine 1 rfl rfl) rfl ?_
  refine zj_iload_n (zdk ttX6_opensLine 2 rfl rfl) rfl ?_
  refine zj_callV (av := [.inl p2, .inl p3]) (st := []) (zdk ttX6_opensLine 3 rfl rfl) mb_X6_isWord mv_RX6_95 (ci := 6) rfl rfl (k_L103 s0) rfl rfl (Nat.le_of_ble_eq_true rfl) (s_X6_isWord l h p2 p3 s0 (by omega) (by omega)) (rm_ok (by decide) (by decide)) (zq_i fun v2 h3 q1 => ?_)
  obtain ⟨rfl, b5, ⟨rfl, b4⟩ | ⟨rfl, b4⟩⟩ := q1
  · refine zj_if_ne (t := 15) (zdk ttX6_opensLine 4 rfl rfl) (by decide) (by decide) (fun c6 => ?_) (fun c6 => ?_)
    · exact absurd c6 (by omega)
    · refine zj_aload_n (zdk ttX6_opensLine 5 rfl rfl) rfl (by decide) ?_
      refine zj_iconst (zdk ttX6_opensLine 6 rfl rfl) ?_
      refine zj_callV (av := [.inl 1]) (st := []) (zdk ttX6_opensLine 7 rfl rfl) mb_X6_refuse mv_RX6_81 (ci := 6) rfl rfl (k_L103 s0) rfl rfl (Nat.le_of_ble_eq_true rfl) (s2_X6_refuse l h 1 s0 (by omega)) (rm_ok (by decide) (by decide)) (zq_i fun v8 h9 q7 => ?_)
      obtain ⟨b10, s11, f13, u12⟩ := q7
      have f14 : zfC w_X6_opensLine h h9 := zfC_t (zfC_r _ _) f13 (fun a9 b9 z9 => by
        exact z9)
      have b15 : h9.2 103 6 = (h.2 103 6) := (zfC_a f13 (fun z9 => by unfold w_X6_refuse at z9; first | (revert z9; decide) | omega))
      exact zj_zret rfl (zdk ttX6_opensLine 8 rfl rfl) (Nat.le_refl _) (Nat.le_refl _) (by omega) ⟨v8, rfl, by omega, s11, f14, (by intro T P j t0; have k0 := t0.2.2.1.2; have l0 := t0.2.2.2.1; have e_1 := u12 T P j t0; exact ⟨fun z => absurd z (by omega), fun _ => ⟨e_1.2, by have e9 := e_1.1; omega⟩⟩), by omega⟩
  · refine zj_if_ne (t := 15) (zdk ttX6_opensLine 4 rfl rfl) (by decide) (by decide) (fun c16 => ?_) (fun c16 => ?_)
    · refine zj_iload_n (zdk ttX6_opensLine 9 rfl rfl) rfl ?_
      refine zj_bipush (zdk ttX6_opensLine 10 rfl rfl) (by decide) ?_
      refine zj_icmp_lt (t := 29) (zdk ttX6_opensLine 11 rfl rfl) (by decide) (by omega) (by decide) (fun c17 => ?_) (fun c17 => ?_)
      · refine zj_iconst (zdk ttX6_opensLine 16 rfl rfl) ?_
        refine zj_goto (t := 34) (zdk ttX6_opensLine 17 rfl rfl) (by decide) ?_
        exact zj_zret rfl (zdk ttX6_opensLine 19 rfl rfl) (Nat.le_refl _) (Nat.le_refl _) (by omega) ⟨1, rfl, by omega, s0, (zfC_r _ _), (by intro T P j t0; have k0 := t0.2.2.1.2; have l0 := t0.2.2.2.1; exact ⟨fun _ => ⟨by omega, by omega, t0⟩, fun z => absurd z (by omega)⟩), by omega⟩
      · refine zj_aload_n (zdk ttX6_opensLine 12 rfl rfl) rfl (by decide) ?_
        refine zj_iconst (zdk ttX6_opensLine 13 rfl rfl) ?_
        refine zj_callV (av := [.inl 3]) (st := []) (zdk ttX6_opensLine 14 rfl rfl) mb_X6_refuse mv_RX6_81 (ci := 6) rfl rfl (k_L103 s0) rfl rfl (Nat.le_of_ble_eq_true rfl) (s2_X6_refuse l h 3 s0 (by omega)) (rm_ok (by decide) (by decide)) (zq_i fun v19 h20 q18 => ?_)
        obtain ⟨b21, s22, f24, u23⟩ := q18
        refine zj_if_eq (t := 33) (zdk ttX6_opensLine 15 rfl rfl) (by decide) (by omega) (fun c25 => ?_) (fun c25 => ?_)
        · refine zj_iconst (zdk ttX6_opensLine 18 rfl rfl) ?_
          have f26 : zfC w_X6_opensLine h h20 := zfC_t (zfC_r _ _) f24 (fun a9 b9 z9 => by
            exact z9)
          have b27 : h20.2 103 6 = (h.2 103 6) := (zfC_a f24 (fun z9 => by unfold w_X6_refuse at z9; first | (revert z9; decide) | omega))
          exact zj_zret rfl (zdk ttX6_opensLine 19 rfl rfl) (Nat.le_refl _) (Nat.le_refl _) (by omega) ⟨0, rfl, by omega, s22, f26, (by intro T P j t0; have k0 := t0.2.2.1.2; have l0 := t0.2.2.2.1; have e_1 := u23 T P j t0; exact ⟨fun z => absurd z (by omega), fun _ => ⟨e_1.2, by have e9 := e_1.1; omega⟩⟩), by omega⟩
        · exact absurd c25 (by omega)
    · exact absurd c16 (by omega)

