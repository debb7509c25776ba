abbrev q2_X7_readDay (h : zM) (p1 : Int) (p2 : Int) : Option zV → zM → Prop := zqi fun v h' => (0 ≤ v ∧ v ≤ 1) ∧ okC h' ∧ zfC (w_X7_readDay p1) h h' ∧ (∀ T P j, tPo T P j h → T j = 200 → (v = 1 → 0 ≤ tNm 0 999 (T (j + 1)) ∧ tPo T P (j + 1 + 1) h' ∧ h'.2 (p1 + 1) p2 = tNm 0 999 (T (j + 1))) ∧ (v = 0 → tNm 0 999 (T (j + 1)) < 0 ∧ h'.2 103 7 = -(tNm 0 999 (T (j + 1))) ∧ h'.2 103 8 = P (j + 1))) ∧ (∀ k9 i9, 1 ≤ k9 → k9 ≤ 3 → ¬ (k9 = 1 ∧ i9 = p2) → h'.2 (p1 + k9) i9 = h.2 (p1 + k9) i9)
set_option maxRecDepth 100000 in
set_option maxHeartbeats 4000000 in
theorem s2_X7_readDay (l : Launch) (h : zM) (p1 : Int) (p2 : Int) (s0 : okC h) (r_p1 : zPl p1) (b_p2 : 0 ≤ p2 ∧ p2 ≤ 15) : zT shC l yX7_readDay cX7_readDay 3 (some .boolean) (rmL 5) 0 0 [.inr 107, .inr p1, .inl p2] h (q2_X7_readDay h p1 p2) := by
  refine zT_of (by decide +kernel) (L0 := [some (.inr 107), some (.inr p1), some (.inl p2)]) rfl (Nat.le_of_ble_eq_true rfl) ?_
  have b1 := zPl_b r_p1
  refine zj_aload_n (zdk ttX7_readDay 0 rfl rfl) rfl (by decide) ?_
  refine zj_getr (r := 103) (zdk ttX7_readDay 1 rfl rfl) zf_RX7_9 rfl (k_L107 s0) (rf_L107_0 s0) ?_
  refine zj_callV (av := []) (st := []) (zdk ttX7_readDay 2 rfl rfl) mb_X6_pass mv_RX7_47 (ci := 6) rfl rfl (k_L103 s0) rfl rfl (Nat.le_of_ble_eq_true rfl) (s2_X6_pass l h s0) (rm_ok (by decide) (by decide)) (zq_v fun h4 q2 => ?_)
  obtain ⟨s6, f8, u7⟩ := q2
  refine zj_aload_n (zdk ttX7_readDay 3 rfl rfl) rfl (by decide) ?_
  refine zj_getr (r := 103) (zdk ttX7_readDay 4 rfl rfl) zf_RX7_9 rfl (k_L107 s6) (rf_L107_0 s6) ?_
  refine zj_iconst (zdk ttX7_readDay 5 rfl rfl) ?_
  refine zj_sipush (zdk ttX7_readDay 6 rfl rfl) (by decide) ?_
  refine zj_callV (av := [.inl 0, .inl 999]) (st := []) (zdk ttX7_readDay 7 rfl rfl) mb_X6_takesNumber mv_RX7_104 (ci := 6) rfl rfl (k_L103 s6) rfl rfl (Nat.le_of_ble_eq_true rfl) (s2_X6_takesNumber l h4 0 999 s6 (by omega) (by omega)) (rm_ok (by decide) (by decide)) (zq_i fun v10 h11 q9 => ?_)
  obtain ⟨b12, s13, f16, u14, u15⟩ := q9
  refine zj_if_ne (t := 23) (zdk ttX7_readDay 8 rfl rfl) (by decide) (by omega) (fun c17 => ?_) (fun c17 => ?_)
  · refine zj_aload_n (zdk ttX7_readDay 11 rfl rfl) rfl (by omega) ?_
    refine zj_getr (r := (p1 + 1)) (zdk ttX7_readDay 12 rfl rfl) zf_RX7_116 rfl (k_4_0 s13 r_p1) (rf_4_0_0 s13 r_p1) ?_
    refine zj_iload_n (zdk ttX7_readDay 13 rfl rfl) rfl ?_
    refine zj_aload_n (zdk ttX7_readDay 14 rfl rfl) rfl (by decide) ?_
    refine zj_getr (r := 103) (zdk ttX7_readDay 15 rfl rfl) zf_RX7_9 rfl (k_L107 s13) (rf_L107_0 s13) ?_
    have b18 : -2147483648 ≤ (h11.2 103 9) ∧ (h11.2 103 9) ≤ 2147483647 := fb_L103_9 s13
    refine zj_geti (v := (h11.2 103 9)) (zdk ttX7_readDay 16 rfl rfl) zf_RX7_110 rfl (k_L103 s13) rfl ?_
    refine zj_iast (zdk ttX7_readDay 17 rfl rfl) (ka_4_0_0 s13 r_p1) (by decide) (by omega) (fun h19 e20 => ?_)
    refine zj_iconst (zdk ttX7_readDay 18 rfl rfl) ?_
    have s21 : okC h19 := aw_4_0_0 s13 r_p1 e20 (by omega)
    have f24 : zfC (w_X7_readDay p1) h h4 := zfC_t (zfC_r _ _) f8 (fun a9 b9 z9 => by
      exact (Or.inl (by omega)))
    have f23 : zfC (w_X7_readDay p1) h h11 := zfC_t f24 f16 (fun a9 b9 z9 => by
      exact (Or.inl z9))
    have f22 : zfC (w_X7_readDay p1) h h19 := zfC_w f23 e20 (Or.inr (by omega))
    have b25 : h19.2 103 6 = (h11.2 103 6) := (zwr_r e20 (by first | decide | exact (absurd ·.1 (by decide)) | exact (absurd ·.2 (by decide)) | omega))
    exact zj_zret rfl (zdk ttX7_readDay 19 rfl rfl) (Nat.le_refl _) (Nat.le_refl _) (by omega) ⟨1, rfl, by omega, s21, f22, (by intro T P j t0 yh9; have k0 := t0.2.2.1.2; have l0 := t0.2.2.2.1; have k_1 := t0.2.2.1.2; have k_1l := t0.2.2.2.1; have a_2 : tPo T P (j + 1) h4 := u7 T P j t0 (by omega); have r_3 := (u14 T P (j + 1) a_2).1 (by omega); have r_3a : tPo T P ((j + 1) + 1) h11 := r_3.2.2; have a_4 : tPo T P ((j + 1) + 1) h19 := tPo_f r_3a (fun i => (zwr_r e20 (by first | decide | exact (absurd ·.1 (by decide)) | exact (absurd ·.2 (by decide)) | omega))) (fun i => (zwr_r e20 (by first | decide | exact (absurd ·.1 (by decide)) | exact (absurd ·.2 (by decide)) | omega))) (zwr_r e20 (by first | decide | exact (absurd ·.1 (by decide)) | exact (absurd ·.2 (by decide)) | omega)) (zwr_r e20 (by first | decide | exact (absurd ·.1 (by decide)) | exact (absurd ·.2 (by decide)) | omega)) (zwr_r e20 (by first | decide | exact (absurd ·.1 (by decide)) | exact (absurd ·.2 (by decide)) | omega)) (zwr_r e20 (by first | decide | exact (absurd ·.1 (by decide)) | exact (absurd ·.2 (by decide)) | omega)) (zwr_r e20 (by first | decide | exact (absurd ·.1 (by decide)) | exact (absurd ·.2 (by decide)) | omega)); exact ⟨fun _ => ⟨r_3.1, a_4, (zwr_v e20).trans r_3.2.1⟩, fun z => absurd z (by omega)⟩), (fun k9 i9 a9 b9 c9 => (((zwr_r e20 (by first | decide | exact (absurd ·.1 (by decide)) | exact (absurd ·.2 (by decide)) | omega)).trans (zfC_a f16 (fun z9 => by unfold w_X6_takesNumber at z9; first | (revert z9; decide) | omega))).trans (zfC_a f8 (fun z9 => by unfold w_X6_pass at z9; first | (revert z9; decide) | omega))))⟩
  · refine zj_iconst (zdk ttX7_readDay 9 rfl rfl) ?_
    have f27 : zfC (w_X7_readDay p1) h h4 := zfC_t (zfC_r _ _) f8 (fun a9 b9 z9 => by
      exact (Or.inl (by omega)))
    have f26 : zfC (w_X7_readDay p1) h h11 := zfC_t f27 f16 (fun a9 b9 z9 => by
      exact (Or.inl z9))
    exact zj_zret rfl (zdk ttX7_readDay 10 rfl rfl) (Nat.le_refl _) (Nat.le_refl _) (by omega) ⟨0, rfl, by omega, s13, f26, (by intro T P j t0 yh9; have k0 := t0.2.2.1.2; have l0 := t0.2.2.2.1; have k_1 := t0.2.2.1.2; have k_1l := t0.2.2.2.1; have a_2 : tPo T P (j + 1) h4 := u7 T P j t0 (by omega); have e_3 := (u14 T P (j + 1) a_2).2 (by omega); exact ⟨fun z => absurd z (by omega), fun _ => e_3⟩), (fun k9 i9 a9 b9 c9 => ((zfC_a f16 (fun z9 => by unfold w_X6_takesNumber at z9; first | (revert z9; decide) | omega)).trans (zfC_a f8 (fun z9 => by unfold w_X6_pass at z9; first | (revert z9; decide) | omega))))⟩

abbrev q2_X7_readBoat (h : zM) (p1 : Int) (p2 : Int) : Option zV → zM → Prop := zqi fun v h' => (0 ≤ v ∧ v ≤ 1) ∧ okC h' ∧ zfC (w_X7_readBoat p1) h h' ∧ (∀ T P j, tPo T P j h → T j = 200 → (v = 1 → ∃ j9, tPo T P j9 h' ∧ j < j9 ∧ ∀ p9 s9 c9 d9, tRe T p9 (20, j, p2, s9, c9, d9) (20, j9, p2 + 1, [], c9, h'.2 (p1 + 2) p2 :: h'.2 (p1 + 3) p2 :: h'.2 (p1 + 1) p2 :: d9)) ∧ (v = 0 → ∃ i9 f9, (h'.2 103 7 = f9 ∧ h'.2 103 8 = P i9) ∧ ∀ p9 s9 c9 d9, tRe T p9 (20, j, p2, s9, c9, d9) (tEr i9 f9))) ∧ (∀ k9 i9, 1 ≤ k9 → k9 ≤ 3 → ¬ i9 = p2 → h'.2 (p1 + k9) i9 = h.2 (p1 + k9) i9)
set_option maxRecDepth 100000 in
set_option maxHeartbeats 4000000 in
theorem s2_X7_readBoat (l : Launch) (h : zM) (p1 : Int) (p2 : Int) (s0 : okC h) (r_p1 : zPl p1) (b_p2 : 0 ≤ p2 ∧ p2 ≤ 15) : zT shC l yX7_readBoat cX7_readBoat 3 (some .boolean) (rmL 6) 0 0 [.inr 107, .inr p1, .inl p2] h (q2_X7_readBoat h p1 p2) := by
  refine zT_of (by decide +kernel) (L0 := [some (.inr 107), some (.inr p1), some (.inl p2)]) rfl (Nat.le_of_ble_eq_true rfl) ?_
  have b1 := zPl_b r_p1
  refine zj_aload_n (zdk ttX7_readBoat 0 rfl rfl) rfl (by decide) ?_
  refine zj_aload_n (zdk ttX7_readBoat 1 rfl rfl) rfl (by omega) ?_
  refine zj_iload_n (zdk ttX7_readBoat 2 rfl rfl) rfl ?_
  refine zj_callV (av := [.inr p1, .inl p2]) (st := []) (zdk ttX7_readBoat 3 rfl rfl) mb_X7_readDay mv_RX7_101 (ci := 7) rfl rfl (k_L107 s0) rfl rfl (Nat.le_of_ble_eq_true rfl) (s2_X7_readDay l h p1 p2 s0 r_p1 (by omega)) (rm_ok (by decide) (by decide)) (zq_i fun v3 h4 q2 => ?_)
  obtain ⟨b5, s6, f9, u7, u8⟩ := q2
  refine zj_if_eq (t := 35) (zdk ttX7_readBoat 4 rfl rfl) (by decide) (by omega) (fun c10 => ?_) (fun c10 => ?_)
  · refine zj_iconst (zdk ttX7_readBoat 16 rfl rfl) ?_
    have f11 : zfC (w_X7_readBoat p1) h h4 := zfC_t (zfC_r _ _) f9 (fun a9 b9 z9 => by
      rcases z9 with z9 | z9
      · exact (Or.inl z9)
      · exact (Or.inr (by omega)))
    exact zj_zret rfl (zdk ttX7_readBoat 17 rfl rfl) (Nat.le_refl _) (Nat.le_refl _) (by omega) ⟨0, rfl, by omega, s6, f11, (by intro T P j t0 yh9; have k0 := t0.2.2.1.2; have l0 := t0.2.2.2.1; have e_1 := (u7 T P j t0 yh9).2 (by omega); exact ⟨fun z => absurd z (by omega), fun _ => ⟨(j + 1), _, e_1.2, fun p9 s9 c9 d9 => tRe_s (tRe_s tRe_r (tMl_l (Or.inl rfl) yh9 (by omega))) (tMd_n (Or.inl rfl) rfl (by omega) rfl)⟩⟩), (fun k9 i9 a9 b9 c9 => (rfl).trans ((u8 k9 i9 a9 b9 (by omega)).trans (rfl)))⟩
  · refine zj_aload_n (zdk ttX7_readBoat 5 rfl rfl) rfl (by decide) ?_
    refine zj_getr (r := 103) (zdk ttX7_readBoat 6 rfl rfl) zf_RX7_9 rfl (k_L107 s6) (rf_L107_0 s6) ?_
    refine zj_sipush (zdk ttX7_readBoat 7 rfl rfl) (by decide) ?_
    refine zj_callV (av := [.inl 201]) (st := []) (zdk ttX7_readBoat 8 rfl rfl) mb_X6_takes mv_RX7_70 (ci := 6) rfl rfl (k_L103 s6) rfl rfl (Nat.le_of_ble_eq_true rfl) (s2_X6_takes l h4 201 s6 (by omega)) (rm_ok (by decide) (by decide)) (zq_i fun v13 h14 q12 => ?_)
    obtain ⟨b15, s16, f18, u17⟩ := q12
    refine zj_if_eq (t := 35) (zdk ttX7_readBoat 9 rfl rfl) (by decide) (by omega) (fun c19 => ?_) (fun c19 => ?_)
    · refine zj_iconst (zdk ttX7_readBoat 16 rfl rfl) ?_
      have f21 : zfC (w_X7_readBoat p1) h h4 := zfC_t (zfC_r _ _) f9 (fun a9 b9 z9 => by
        rcases z9 with z9 | z9
        · exact (Or.inl z9)
        · exact (Or.inr (by omega)))
      have f20 : zfC (w_X7_readBoat p1) h h14 := zfC_t f21 f18 (fun a9 b9 z9 => by
        exact (Or.inl (by omega)))
      exact zj_zret rfl (zdk ttX7_readBoat 17 rfl rfl) (Nat.le_refl _) (Nat.le_refl _) (by omega) ⟨0, rfl, by omega, s16, f20, (by intro T P j t0 yh9; have k0 := t0.2.2.1.2; have l0 := t0.2.2.2.1; have r_1 := (u7 T P j t0 yh9).1 (by omega); have e_2 := (u17 T P (j + 1 + 1) r_1.2.1).2 (by omega); exact ⟨fun z => absurd z (by omega), fun _ => ⟨(j + 1 + 1), _, e_2.2, fun p9 s9 c9 d9 => tRe_s (tRe_s (tRe_s tRe_r (tMl_l (Or.inl rfl) yh9 (by omega))) (tMd_y (Or.inl rfl) rfl r_1.1)) (tM22_n e_2.1)⟩⟩), (fun k9 i9 a9 b9 c9 => ((zfC_a f18 (fun z9 => by unfold w_X6_takes at z9; first | (revert z9; decide) | omega))).trans ((u8 k9 i9 a9 b9 (by omega)).trans (rfl)))⟩
    · refine zj_aload_n (zdk ttX7_readBoat 10 rfl rfl) rfl (by decide) ?_
      refine zj_getr (r := 103) (zdk ttX7_readBoat 11 rfl rfl) zf_RX7_9 rfl (k_L107 s16) (rf_L107_0 s16) ?_
      refine zj_iconst (zdk ttX7_readBoat 12 rfl rfl) ?_
      refine zj_bipush (zdk ttX7_readBoat 13 rfl rfl) (by decide) ?_
      refine zj_callV (av := [.inl 1, .inl 18]) (st := []) (zdk ttX7_readBoat 14 rfl rfl) mb_X6_takesNumber mv_RX7_104 (ci := 6) rfl rfl (k_L103 s16) rfl rfl (Nat.le_of_ble_eq_true rfl) (s2_X6_takesNumber l h14 1 18 s16 (by omega) (by omega)) (rm_ok (by decide) (by decide)) (zq_i fun v23 h24 q22 => ?_)
      obtain ⟨b25, s26, f29, u27, u28⟩ := q22
      refine zj_if_ne (t := 37) (zdk ttX7_readBoat 15 rfl rfl) (by decide) (by omega) (fun c30 => ?_) (fun c30 => ?_)
      · refine zj_aload_n (zdk ttX7_readBoat 18 rfl rfl) rfl (by omega) ?_
        refine zj_getr (r := (p1 + 3)) (zdk ttX7_readBoat 19 rfl rfl) zf_RX7_107 rfl (k_4_0 s26 r_p1) (rf_4_0_2 s26 r_p1) ?_
        refine zj_iload_n (zdk ttX7_readBoat 20 rfl rfl) rfl ?_
        refine zj_aload_n (zdk ttX7_readBoat 21 rfl rfl) rfl (by decide) ?_
        refine zj_getr (r := 103) (zdk ttX7_readBoat 22 rfl rfl) zf_RX7_9 rfl (k_L107 s26) (rf_L107_0 s26) ?_
        have b31 : -2147483648 ≤ (h24.2 103 9) ∧ (h24.2 103 9) ≤ 2147483647 := fb_L103_9 s26
        refine zj_geti (v := (h24.2 103 9)) (zdk ttX7_readBoat 23 rfl rfl) zf_RX7_110 rfl (k_L103 s26) rfl ?_
        refine zj_iast (zdk ttX7_readBoat 24 rfl rfl) (ka_4_0_2 s26 r_p1) (by decide) (by omega) (fun h32 e33 => ?_)
        refine zj_aload_n (zdk ttX7_readBoat 25 rfl rfl) rfl (by decide) ?_
        have s34 : okC h32 := aw_4_0_2 s26 r_p1 e33 (by omega)
        refine zj_getr (r := 103) (zdk ttX7_readBoat 26 rfl rfl) zf_RX7_9 rfl (k_L107 s34) (rf_L107_0 s34) ?_
        refine zj_iconst (zdk ttX7_readBoat 27 rfl rfl) ?_
        refine zj_iconst (zdk ttX7_readBoat 28 rfl rfl) ?_
        refine zj_callV (av := [.inl 2, .inl 3]) (st := []) (zdk ttX7_readBoat 29 rfl rfl) mb_X6_isWord mv_RX7_60 (ci := 6) rfl rfl (k_L103 s34) rfl rfl (Nat.le_of_ble_eq_true rfl) (s_X6_isWord l h32 2 3 s34 (by omega) (by omega)) (rm_ok (by decide) (by decide)) (zq_i fun v36 h37 q35 => ?_)
        obtain ⟨rfl, b39, ⟨rfl, b38⟩ | ⟨rfl, b38⟩⟩ := q35
        · refine zj_if_ne (t := 71) (zdk ttX7_readBoat 30 rfl rfl) (by decide) (by decide) (fun c40 => ?_) (fun c40 => ?_)
          · exact absurd c40 (by omega)
          · refine zj_aload_n (zdk ttX7_readBoat 31 rfl rfl) rfl (by decide) ?_
            refine zj_getr (r := 103) (zdk ttX7_readBoat 32 rfl rfl) zf_RX7_9 rfl (k_L107 s34) (rf_L107_0 s34) ?_
            refine zj_iconst (zdk ttX7_readBoat 33 rfl rfl) ?_
            refine zj_callV (av := [.inl 1]) (st := []) (zdk ttX7_readBoat 34 rfl rfl) mb_X6_refuse mv_RX7_81 (ci := 6) rfl rfl (k_L103 s34) rfl rfl (Nat.le_of_ble_eq_true rfl) (s2_X6_refuse l h32 1 s34 (by omega)) (rm_ok (by decide) (by decide)) (zq_i fun v42 h43 q41 => ?_)
            obtain ⟨b44, s45, f47, u46⟩ := q41
            have f52 : zfC (w_X7_readBoat p1) h h4 := zfC_t (zfC_r _ _) f9 (fun a9 b9 z9 => by
              rcases z9 with z9 | z9
              · exact (Or.inl z9)
              · exact (Or.inr (by omega)))
            have f51 : zfC (w_X7_readBoat p1) h h14 := zfC_t f52 f18 (fun a9 b9 z9 => by
              exact (Or.inl (by omega)))
            have f50 : zfC (w_X7_readBoat p1) h h24 := zfC_t f51 f29 (fun a9 b9 z9 => by
              exact (Or.inl z9))
            have f49 : zfC (w_X7_readBoat p1) h h32 := zfC_w f50 e33 (Or.inr (by omega))
            have f48 : zfC (w_X7_readBoat p1) h h43 := zfC_t f49 f47 (fun a9 b9 z9 => by
              exact (Or.inl (by omega)))
            have b53 : h32.2 103 6 = (h24.2 103 6) := (zwr_r e33 (by first | decide | exact (absurd ·.1 (by decide)) | exact (absurd ·.2 (by decide)) | omega))
            have b54 : h43.2 103 6 = (h24.2 103 6) := ((zfC_a f47 (fun z9 => by unfold w_X6_refuse at z9; first | (revert z9; decide) | omega)).trans (zwr_r e33 (by first | decide | exact (absurd ·.1 (by decide)) | exact (absurd ·.2 (by decide)) | omega)))
            exact zj_zret rfl (zdk ttX7_readBoat 35 rfl rfl) (Nat.le_refl _) (Nat.le_refl _) (by omega) ⟨v42, rfl, by omega, s45, f48, (by intro T P j t0 yh9; have k0 := t0.2.2.1.2; have l0 := t0.2.2.2.1; have r_1 := (u7 T P j t0 yh9).1 (by omega); have r_2 := (u17 T P (j + 1 + 1) r_1.2.1).1 (by omega); have r_2a : tPo T P ((j + 1 + 1) + 1) h14 := (r_2.2 (by omega)); have r_3 := (u27 T P ((j + 1 + 1) + 1) r_2a).1 (by omega); have r_3a : tPo T P (((j + 1 + 1) + 1) + 1) h24 := r_3.2.2; have k_4 := r_3a.2.2.1.2; have k_4l := r_3a.2.2.2.1; have a_5 : tPo T P (((j + 1 + 1) + 1) + 1) h32 := tPo_f r_3a (fun i => (zwr_r e33 (by first | decide | exact (absurd ·.1 (by decide)) | exact (absurd ·.2 (by decide)) | omega))) (fun i => (zwr_r e33 (by first | decide | exact (absurd ·.1 (by decide)) | exact (absurd ·.2 (by decide)) | omega))) (zwr_r e33 (by first | decide | exact (absurd ·.1 (by decide)) | exact (absurd ·.2 (by decide)) | omega)) (zwr_r e33 (by first | decide | exact (absurd ·.1 (by decide)) | exact (absurd ·.2 (by decide)) | omega)) (zwr_r e33 (by first | decide | exact (absurd ·.1 (by decide)) | exact (absurd ·.2 (by decide)) | omega)) (zwr_r e33 (by first | decide | exact (absurd ·.1 (by decide)) | exact (absurd ·.2 (by decide)) | omega)) (zwr_r e33 (by first | decide | exact (absurd ·.1 (by decide)) | exact (absurd ·.2 (by decide)) | omega)); have e_6 := u46 T P (((j + 1 + 1) + 1) + 1) a_5; exact ⟨fun z => absurd z (by omega), fun _ => ⟨(((j + 1 + 1) + 1) + 1), _, e_6, fun p9 s9 c9 d9 => tRe_s (tRe_s (tRe_s (tRe_s (tRe_s tRe_r (tMl_l (Or.inl rfl) yh9 (by omega))) (tMd_y (Or.inl rfl) rfl r_1.1)) (tM22_y r_2.1)) (tM23_y rfl r_3.1)) (tM24_n (by omega))⟩⟩), (fun k9 i9 a9 b9 c9 => (((((zfC_a f47 (fun z9 => by unfold w_X6_refuse at z9; first | (revert z9; decide) | omega)).trans (zwr_r e33 (by first | decide | exact (absurd ·.1 (by decide)) | exact (absurd ·.2 (by decide)) | omega))).trans (zfC_a f29 (fun z9 => by unfold w_X6_takesNumber at z9; first | (revert z9; decide) | omega))).trans (zfC_a f18 (fun z9 => by unfold w_X6_takes at z9; first | (revert z9; decide) | omega)))).trans ((u8 k9 i9 a9 b9 (by omega)).trans (rfl)))⟩
        · refine zj_if_ne (t := 71) (zdk ttX7_readBoat 30 rfl rfl) (by decide) (by decide) (fun c55 => ?_) (fun c55 => ?_)
          · refine zj_aload_n (zdk ttX7_readBoat 36 rfl rfl) rfl (by omega) ?_
            refine zj_getr (r := (p1 + 2)) (zdk ttX7_readBoat 37 rfl rfl) zf_RX7_113 rfl (k_4_0 s34 r_p1) (rf_4_0_1 s34 r_p1) ?_
            refine zj_iload_n (zdk ttX7_readBoat 38 rfl rfl) rfl ?_
            refine zj_aload_n (zdk ttX7_readBoat 39 rfl rfl) rfl (by decide) ?_
            refine zj_getr (r := 103) (zdk ttX7_readBoat 40 rfl rfl) zf_RX7_9 rfl (k_L107 s34) (rf_L107_0 s34) ?_
            have b56 : -2147483648 ≤ (h24.2 103 6) ∧ (h24.2 103 6) ≤ 2147483647 := fb_L103_6 s26
            refine zj_geti (v := (h24.2 103 6)) (zdk ttX7_readBoat 41 rfl rfl) zf_RX7_32 rfl (k_L103 s34) (zwr_r e33 (by first | decide | exact (absurd ·.1 (by decide)) | exact (absurd ·.2 (by decide)) | omega)) ?_
            refine zj_sipush (zdk ttX7_readBoat 42 rfl rfl) (by decide) ?_
            refine zj_isub (zdk ttX7_readBoat 43 rfl rfl) ?_
            refine zj_wrap ?_
            have b57 := zwp_in ((h24.2 103 6) - 200)
            refine zj_iast (zdk ttX7_readBoat 44 rfl rfl) (ka_4_0_1 s34 r_p1) (by decide) (by omega) (fun h58 e59 => ?_)
            refine zj_aload_n (zdk ttX7_readBoat 45 rfl rfl) rfl (by decide) ?_
            have s60 : okC h58 := aw_4_0_1 s34 r_p1 e59 (by omega)
            refine zj_getr (r := 103) (zdk ttX7_readBoat 46 rfl rfl) zf_RX7_9 rfl (k_L107 s60) (rf_L107_0 s60) ?_
            refine zj_callV (av := []) (st := []) (zdk ttX7_readBoat 47 rfl rfl) mb_X6_pass mv_RX7_47 (ci := 6) rfl rfl (k_L103 s60) rfl rfl (Nat.le_of_ble_eq_true rfl) (s2_X6_pass l h58 s60) (rm_ok (by decide) (by decide)) (zq_v fun h63 q61 => ?_)
            obtain ⟨s65, f67, u66⟩ := q61
            refine zj_aload_n (zdk ttX7_readBoat 48 rfl rfl) rfl (by decide) ?_
            refine zj_getr (r := 103) (zdk ttX7_readBoat 49 rfl rfl) zf_RX7_9 rfl (k_L107 s65) (rf_L107_0 s65) ?_
            refine zj_bipush (zdk ttX7_readBoat 50 rfl rfl) (by decide) ?_
            refine zj_callV (av := [.inl 59]) (st := []) (zdk ttX7_readBoat 51 rfl rfl) mb_X6_takes mv_RX7_70 (ci := 6) rfl rfl (k_L103 s65) rfl rfl (Nat.le_of_ble_eq_true rfl) (s2_X6_takes l h63 59 s65 (by omega)) (rm_ok (by decide) (by decide)) (zq_i fun v69 h70 q68 => ?_)
            obtain ⟨b71, s72, f74, u73⟩ := q68
            have f81 : zfC (w_X7_readBoat p1) h h4 := zfC_t (zfC_r _ _) f9 (fun a9 b9 z9 => by
              rcases z9 with z9 | z9
              · exact (Or.inl z9)
              · exact (Or.inr (by omega)))
            have f80 : zfC (w_X7_readBoat p1) h h14 := zfC_t f81 f18 (fun a9 b9 z9 => by
              exact (Or.inl (by omega)))
            have f79 : zfC (w_X7_readBoat p1) h h24 := zfC_t f80 f29 (fun a9 b9 z9 => by
              exact (Or.inl z9))
            have f78 : zfC (w_X7_readBoat p1) h h32 := zfC_w f79 e33 (Or.inr (by omega))
            have f77 : zfC (w_X7_readBoat p1) h h58 := zfC_w f78 e59 (Or.inr (by omega))
            have f76 : zfC (w_X7_readBoat p1) h h63 := zfC_t f77 f67 (fun a9 b9 z9 => by
              exact (Or.inl (by omega)))
            have f75 : zfC (w_X7_readBoat p1) h h70 := zfC_t f76 f74 (fun a9 b9 z9 => by
              exact (Or.inl (by omega)))
            have b82 : h32.2 103 6 = (h24.2 103 6) := (zwr_r e33 (by first | decide | exact (absurd ·.1 (by decide)) | exact (absurd ·.2 (by decide)) | omega))
            have b83 : h58.2 103 6 = (h24.2 103 6) := ((zwr_r e59 (by first | decide | exact (absurd ·.1 (by decide)) | exact (absurd ·.2 (by decide)) | omega)).trans (zwr_r e33 (by first | decide | exact (absurd ·.1 (by decide)) | exact (absurd ·.2 (by decide)) | omega)))
            exact zj_zret rfl (zdk ttX7_readBoat 52 rfl rfl) (Nat.le_refl _) (Nat.le_refl _) (by omega) ⟨v69, rfl, by omega, s72, f75, (by intro T P j t0 yh9; have k0 := t0.2.2.1.2; have l0 := t0.2.2.2.1; have r_1 := (u7 T P j t0 yh9).1 (by omega); have r_2 := (u17 T P (j + 1 + 1) r_1.2.1).1 (by omega); have r_2a : tPo T P ((j + 1 + 1) + 1) h14 := (r_2.2 (by omega)); have r_3 := (u27 T P ((j + 1 + 1) + 1) r_2a).1 (by omega); have r_3a : tPo T P (((j + 1 + 1) + 1) + 1) h24 := r_3.2.2; have k_4 := r_3a.2.2.1.2; have k_4l := r_3a.2.2.2.1; have a_5 : tPo T P (((j + 1 + 1) + 1) + 1) h32 := tPo_f r_3a (fun i => (zwr_r e33 (by first | decide | exact (absurd ·.1 (by decide)) | exact (absurd ·.2 (by decide)) | omega))) (fun i => (zwr_r e33 (by first | decide | exact (absurd ·.1 (by decide)) | exact (absurd ·.2 (by decide)) | omega))) (zwr_r e33 (by first | decide | exact (absurd ·.1 (by decide)) | exact (absurd ·.2 (by decide)) | omega)) (zwr_r e33 (by first | decide | exact (absurd ·.1 (by decide)) | exact (absurd ·.2 (by decide)) | omega)) (zwr_r e33 (by first | decide | exact (absurd ·.1 (by decide)) | exact (absurd ·.2 (by decide)) | omega)) (zwr_r e33 (by first | decide | exact (absurd ·.1 (by decide)) | exact (absurd ·.2 (by decide)) | omega)) (zwr_r e33 (by first | decide | exact (absurd ·.1 (by decide)) | exact (absurd ·.2 (by decide)) | omega)); have a_6 : tPo T P (((j + 1 + 1) + 1) + 1) h58 := tPo_f a_5 (fun i => (zwr_r e59 (by first | decide | exact (absurd ·.1 (by decide)) | exact (absurd ·.2 (by decide)) | omega))) (fun i => (zwr_r e59 (by first | decide | exact (absurd ·.1 (by decide)) | exact (absurd ·.2 (by decide)) | omega))) (zwr_r e59 (by first | decide | exact (absurd ·.1 (by decide)) | exact (absurd ·.2 (by decide)) | omega)) (zwr_r e59 (by first | decide | exact (absurd ·.1 (by decide)) | exact (absurd ·.2 (by decide)) | omega)) (zwr_r e59 (by first | decide | exact (absurd ·.1 (by decide)) | exact (absurd ·.2 (by decide)) | omega)) (zwr_r e59 (by first | decide | exact (absurd ·.1 (by decide)) | exact (absurd ·.2 (by decide)) | omega)) (zwr_r e59 (by first | decide | exact (absurd ·.1 (by decide)) | exact (absurd ·.2 (by decide)) | omega)); have k_7 := a_6.2.2.1.2; have k_7l := a_6.2.2.2.1; have a_8 : tPo T P ((((j + 1 + 1) + 1) + 1) + 1) h63 := u66 T P (((j + 1 + 1) + 1) + 1) a_6 (by omega); have k2 : h70.2 (p1 + 2) p2 = (zwp ((h24.2 103 6) - 200)) := (((zfC_a f74 (fun z9 => by unfold w_X6_takes at z9; first | (revert z9; decide) | omega)).trans (zfC_a f67 (fun z9 => by unfold w_X6_pass at z9; first | (revert z9; decide) | omega)))).trans (zwr_v e59); have k2z : (zwp ((h24.2 103 6) - 200)) = (h24.2 103 6) - 200 := zwp_id (by omega); have k3 : h70.2 (p1 + 3) p2 = (h24.2 103 9) := ((((zfC_a f74 (fun z9 => by unfold w_X6_takes at z9; first | (revert z9; decide) | omega)).trans (zfC_a f67 (fun z9 => by unfold w_X6_pass at z9; first | (revert z9; decide) | omega))).trans (zwr_r e59 (by first | decide | exact (absurd ·.1 (by decide)) | exact (absurd ·.2 (by decide)) | omega)))).trans (zwr_v e33); have k1 : h70.2 (p1 + 1) p2 = h4.2 (p1 + 1) p2 := ((((((zfC_a f74 (fun z9 => by unfold w_X6_takes at z9; first | (revert z9; decide) | omega)).trans (zfC_a f67 (fun z9 => by unfold w_X6_pass at z9; first | (revert z9; decide) | omega))).trans (zwr_r e59 (by first | decide | exact (absurd ·.1 (by decide)) | exact (absurd ·.2 (by decide)) | omega))).trans (zwr_r e33 (by first | decide | exact (absurd ·.1 (by decide)) | exact (absurd ·.2 (by decide)) | omega))).trans (zfC_a f29 (fun z9 => by unfold w_X6_takesNumber at z9; first | (revert z9; decide) | omega))).trans (zfC_a f18 (fun z9 => by unfold w_X6_takes at z9; first | (revert z9; decide) | omega))); have k0a := r_1.2.2; have k0b := r_3.2.1; have e_9 := u73 T P ((((j + 1 + 1) + 1) + 1) + 1) a_8; exact ⟨fun z => ⟨(((((j + 1 + 1) + 1) + 1) + 1) + 1), (e_9.1 z).2 (by omega), by omega, fun p9 s9 c9 d9 => tRe_q (tRe_s (tRe_s (tRe_s (tRe_s (tRe_s (tRe_s tRe_r (tMl_l (Or.inl rfl) yh9 (by omega))) (tMd_y (Or.inl rfl) rfl r_1.1)) (tM22_y r_2.1)) (tM23_y rfl r_3.1)) (tM24_y (by omega))) (tMs_y (Or.inl ⟨rfl, rfl⟩) (e_9.1 z).1)) (by simp only [List.cons.injEq]; refine ⟨?_, ?_, ?_, ?_⟩ <;> first | trivial | rfl | omega)⟩, fun z => ⟨((((j + 1 + 1) + 1) + 1) + 1), _, (e_9.2 z).2, fun p9 s9 c9 d9 => tRe_s (tRe_s (tRe_s (tRe_s (tRe_s (tRe_s tRe_r (tMl_l (Or.inl rfl) yh9 (by omega))) (tMd_y (Or.inl rfl) rfl r_1.1)) (tM22_y r_2.1)) (tM23_y rfl r_3.1)) (tM24_y (by omega))) (tMs_n (Or.inl rfl) (e_9.2 z).1)⟩⟩), (fun k9 i9 a9 b9 c9 => (((((((zfC_a f74 (fun z9 => by unfold w_X6_takes at z9; first | (revert z9; decide) | omega)).trans (zfC_a f67 (fun z9 => by unfold w_X6_pass at z9; first | (revert z9; decide) | omega))).trans (zwr_r e59 (by first | decide | exact (absurd ·.1 (by decide)) | exact (absurd ·.2 (by decide)) | omega))).trans (zwr_r e33 (by first | decide | exact (absurd ·.1 (by decide)) | exact (absurd ·.2 (by decide)) | omega))).trans (zfC_a f29 (fun z9 => by unfold w_X6_takesNumber at z9; first | (revert z9; decide) | omega))).trans (zfC_a f18 (fun z9 => by unfold w_X6_takes at z9; first | (revert z9; decide) | omega)))).trans ((u8 k9 i9 a9 b9 (by omega)).trans (rfl)))⟩
          · exact absurd c55 (by omega)
      · refine zj_iconst (zdk ttX7_readBoat 16 rfl rfl) ?_
        have f86 : zfC (w_X7_readBoat p1) h h4 := zfC_t (zfC_r _ _) f9 (fun a9 b9 z9 => by
          rcases z9 with z9 | z9
          · exact (Or.inl z9)
          · exact (Or.inr (by omega)))
        have f85 : zfC (w_X7_readBoat p1) h h14 := zfC_t f86 f18 (fun a9 b9 z9 => by
          exact (Or.inl (by omega)))
        have f84 : zfC (w_X7_readBoat p1) h h24 := zfC_t f85 f29 (fun a9 b9 z9 => by
          exact (Or.inl z9))
        exact zj_zret rfl (zdk ttX7_readBoat 17 rfl rfl) (Nat.le_refl _) (Nat.le_refl _) (by omega) ⟨0, rfl, by omega, s26, f84, (by intro T P j t0 yh9; have k0 := t0.2.2.1.2; have l0 := t0.2.2.2.1; have r_1 := (u7 T P j t0 yh9).1 (by omega); have r_2 := (u17 T P (j + 1 + 1) r_1.2.1).1 (by omega); have r_2a : tPo T P ((j + 1 + 1) + 1) h14 := (r_2.2 (by omega)); have e_3 := (u27 T P ((j + 1 + 1) + 1) r_2a).2 (by omega); exact ⟨fun z => absurd z (by omega), fun _ => ⟨((j + 1 + 1) + 1), _, e_3.2, fun p9 s9 c9 d9 => tRe_s (tRe_s (tRe_s (tRe_s tRe_r (tMl_l (Or.inl rfl) yh9 (by omega))) (tMd_y (Or.inl rfl) rfl r_1.1)) (tM22_y r_2.1)) (tM23_n rfl (by omega) rfl)⟩⟩), (fun k9 i9 a9 b9 c9 => (((zfC_a f29 (fun z9 => by unfold w_X6_takesNumber at z9; first | (revert z9; decide) | omega)).trans (zfC_a f18 (fun z9 => by unfold w_X6_takes at z9; first | (revert z9; decide) | omega)))).trans ((u8 k9 i9 a9 b9 (by omega)).trans (rfl)))⟩

abbrev q2_X7_readAmount (h : zM) (p1 : Int) (p2 : Int) : Option zV → zM → Prop := zqi fun v h' => (0 ≤ v ∧ v ≤ 1) ∧ okC h' ∧ zfC w_X7_readAmount h h' ∧ (∀ T P j, tPo T P j h → (v = 1 → 0 ≤ tNm (if 5 ≤ p1 then 1 else 0) (if p1 = 5 then 99 else if p1 = 6 then 719 else p2 - 1) (T j) ∧ h'.2 103 9 = tNm (if 5 ≤ p1 then 1 else 0) (if p1 = 5 then 99 else if p1 = 6 then 719 else p2 - 1) (T j) ∧ tPo T P (j + 1) h') ∧ (v = 0 → tNm (if 5 ≤ p1 then 1 else 0) (if p1 = 5 then 99 else if p1 = 6 then 719 else p2 - 1) (T j) < 0 ∧ h'.2 103 7 = -(tNm (if 5 ≤ p1 then 1 else 0) (if p1 = 5 then 99 else if p1 = 6 then 719 else p2 - 1) (T j)) ∧ h'.2 103 8 = P j))
set_option maxRecDepth 100000 in
set_option maxHeartbeats 4000000 in
theorem s2_X7_readAmount (l : Launch) (h : zM) (p1 : Int) (p2 : Int) (s0 : okC h) (b_p1 : 1 ≤ p1 ∧ p1 ≤ 6) (b_p2 : 0 ≤ p2 ∧ p2 ≤ 18) : zT shC l yX7_readAmount cX7_readAmount 3 (some .boolean) (rmL 5) 0 0 [.inr 107, .inl p1, .inl p2] h (q2_X7_readAmount h p1 p2) := by
  refine zT_of (by decide +kernel) (L0 := [some (.inr 107), some (.inl p1), some (.inl p2)]) rfl (Nat.le_of_ble_eq_true rfl) ?_
  refine zj_iload_n (zdk ttX7_readAmount 0 rfl rfl) rfl ?_
  have k2 : (¬ p1 = 5 ∧ ¬ p1 = 6) → zJ shC l yX7_readAmount cX7_readAmount 3 (some .boolean) (rmL 5) 0 0 (q2_X7_readAmount h p1 p2) 0 0 51 [some (.inr 107), some (.inl p1), some (.inl p2)] [] h := by
    intro c1
    refine zj_aload_n (zdk ttX7_readAmount 14 rfl rfl) rfl (by decide) ?_
    refine zj_getr (r := 103) (zdk ttX7_readAmount 15 rfl rfl) zf_RX7_9 rfl (k_L107 s0) (rf_L107_0 s0) ?_
    refine zj_iconst (zdk ttX7_readAmount 16 rfl rfl) ?_
    refine zj_iload_n (zdk ttX7_readAmount 17 rfl rfl) rfl ?_
    refine zj_iconst (zdk ttX7_readAmount 18 rfl rfl) ?_
    refine zj_isub (zdk ttX7_readAmount 19 rfl rfl) ?_
    refine zj_callV (av := [.inl 0, .inl (p2 - 1)]) (st := []) (zdk ttX7_readAmount 20 rfl rfl) mb_X6_takesNumber mv_RX7_104 (ci := 6) rfl rfl (k_L103 s0) rfl rfl (Nat.le_of_ble_eq_true rfl) (s2_X6_takesNumber l h 0 (p2 - 1) s0 (by omega) (by omega)) (rm_ok (by decide) (by decide)) (zq_i fun v4 h5 q3 => ?_)
    obtain ⟨b6, s7, f10, u8, u9⟩ := q3
    have f11 : zfC w_X7_readAmount h h5 := zfC_t (zfC_r _ _) f10 (fun a9 b9 z9 => by
      exact z9)
    exact zj_zret rfl (zdk ttX7_readAmount 21 rfl rfl) (Nat.le_refl _) (Nat.le_refl _) (by omega) ⟨v4, rfl, by omega, s7, f11, (by intro T P j t0; have e9 := u8 T P j t0; (first | rw [if_pos (show 5 ≤ p1 by omega), if_pos (show p1 = 5 by omega)] | rw [if_pos (show 5 ≤ p1 by omega), if_neg (show ¬ p1 = 5 by omega), if_pos (show p1 = 6 by omega)] | rw [if_neg (show ¬ 5 ≤ p1 by omega), if_neg (show ¬ p1 = 5 by omega), if_neg (show ¬ p1 = 6 by omega)]); exact e9)⟩
  have k12 : p1 = 5 → zJ shC l yX7_readAmount cX7_readAmount 3 (some .boolean) (rmL 5) 0 0 (q2_X7_readAmount h p1 p2) 0 0 28 [some (.inr 107), some (.inl p1), some (.inl p2)] [] h := by
    intro c1
    refine zj_aload_n (zdk ttX7_readAmount 2 rfl rfl) rfl (by decide) ?_
    refine zj_getr (r := 103) (zdk ttX7_readAmount 3 rfl rfl) zf_RX7_9 rfl (k_L107 s0) (rf_L107_0 s0) ?_
    refine zj_iconst (zdk ttX7_readAmount 4 rfl rfl) ?_
    refine zj_bipush (zdk ttX7_readAmount 5 rfl rfl) (by decide) ?_
    refine zj_callV (av := [.inl 1, .inl 99]) (st := []) (zdk ttX7_readAmount 6 rfl rfl) mb_X6_takesNumber mv_RX7_104 (ci := 6) rfl rfl (k_L103 s0) rfl rfl (Nat.le_of_ble_eq_true rfl) (s2_X6_takesNumber l h 1 99 s0 (by omega) (by omega)) (rm_ok (by decide) (by decide)) (zq_i fun v14 h15 q13 => ?_)
    obtain ⟨b16, s17, f20, u18, u19⟩ := q13
    have f21 : zfC w_X7_readAmount h h15 := zfC_t (zfC_r _ _) f20 (fun a9 b9 z9 => by
      exact z9)
    exact zj_zret rfl (zdk ttX7_readAmount 7 rfl rfl) (Nat.le_refl _) (Nat.le_refl _) (by omega) ⟨v14, rfl, by omega, s17, f21, (by intro T P j t0; have e9 := u18 T P j t0; (first | rw [if_pos (show 5 ≤ p1 by omega), if_pos (show p1 = 5 by omega)] | rw [if_pos (show 5 ≤ p1 by omega), if_neg (show ¬ p1 = 5 by omega), if_pos (show p1 = 6 by omega)] | rw [if_neg (show ¬ 5 ≤ p1 by omega), if_neg (show ¬ p1 = 5 by omega), if_neg (show ¬ p1 = 6 by omega)]); exact e9)⟩
  have k22 : p1 = 6 → zJ shC l yX7_readAmount cX7_readAmount 3 (some .boolean) (rmL 5) 0 0 (q2_X7_readAmount h p1 p2) 0 0 39 [some (.inr 107), some (.inl p1), some (.inl p2)] [] h := by
    intro c1
    refine zj_aload_n (zdk ttX7_readAmount 8 rfl rfl) rfl (by decide) ?_
    refine zj_getr (r := 103) (zdk ttX7_readAmount 9 rfl rfl) zf_RX7_9 rfl (k_L107 s0) (rf_L107_0 s0) ?_
    refine zj_iconst (zdk ttX7_readAmount 10 rfl rfl) ?_
    refine zj_sipush (zdk ttX7_readAmount 11 rfl rfl) (by decide) ?_
    refine zj_callV (av := [.inl 1, .inl 719]) (st := []) (zdk ttX7_readAmount 12 rfl rfl) mb_X6_takesNumber mv_RX7_104 (ci := 6) rfl rfl (k_L103 s0) rfl rfl (Nat.le_of_ble_eq_true rfl) (s2_X6_takesNumber l h 1 719 s0 (by omega) (by omega)) (rm_ok (by decide) (by decide)) (zq_i fun v24 h25 q23 => ?_)
    obtain ⟨b26, s27, f30, u28, u29⟩ := q23
    have f31 : zfC w_X7_readAmount h h25 := zfC_t (zfC_r _ _) f30 (fun a9 b9 z9 => by
      exact z9)
    exact zj_zret rfl (zdk ttX7_readAmount 13 rfl rfl) (Nat.le_refl _) (Nat.le_refl _) (by omega) ⟨v24, rfl, by omega, s27, f31, (by intro T P j t0; have e9 := u28 T P j t0; (first | rw [if_pos (show 5 ≤ p1 by omega), if_pos (show p1 = 5 by omega)] | rw [if_pos (show 5 ≤ p1 by omega), if_neg (show ¬ p1 = 5 by omega), if_pos (show p1 = 6 by omega)] | rw [if_neg (show ¬ 5 ≤ p1 by omega), if_neg (show ¬ p1 = 5 by omega), if_neg (show ¬ p1 = 6 by omega)]); exact e9)⟩
  by_cases z32 : p1 = 5
  · exact zj_lookup (t := 28) (zdk ttX7_readAmount 1 rfl rfl) (by omega) rfl (by rw [z32] <;> rfl) (by decide) (k12 z32)
  by_cases z33 : p1 = 6
  · exact zj_lookup (t := 39) (zdk ttX7_readAmount 1 rfl rfl) (by omega) rfl (by rw [z33] <;> rfl) (by decide) (k22 z33)
  exact zj_lookup (t := 51) (zdk ttX7_readAmount 1 rfl rfl) (by omega) rfl (by show Op.lookupswitch.offset [(5, 27), (6, 38)] 50 p1 = _; rw [Op.lookupswitch.offset_cons, if_neg (by omega), Op.lookupswitch.offset_cons, if_neg (by omega), Op.lookupswitch.offset_nil]) (by decide) (k2 (by omega))

abbrev q2_X7_readDoing (h : zM) (p1 : Int) (p2 : Int) (p3 : Int) : Option zV → zM → Prop := zqi fun v h' => (0 ≤ v ∧ v ≤ 1) ∧ okC h' ∧ zfC (w_X7_readDoing p1) h h' ∧ (∀ T P j, tPo T P j h → T j = 200 → (v = 1 → ∃ j9, tPo T P j9 h' ∧ j < j9 ∧ ∀ s9 c9 d9, tRe T p3 (30, j, p2, s9, c9, d9) (30, j9, p2 + 1, [], c9, h'.2 (p1 + 3) p2 :: h'.2 (p1 + 2) p2 :: h'.2 (p1 + 1) p2 :: d9)) ∧ (v = 0 → ∃ i9 f9, (h'.2 103 7 = f9 ∧ h'.2 103 8 = P i9) ∧ ∀ s9 c9 d9, tRe T p3 (30, j, p2, s9, c9, d9) (tEr i9 f9))) ∧ (∀ k9 i9, 1 ≤ k9 → k9 ≤ 3 → ¬ i9 = p2 → h'.2 (p1 + k9) i9 = h.2 (p1 + k9) i9)
set_option maxRecDepth 100000 in
set_option maxHeartbeats 4000000 in
theorem s2_X7_readDoing (l : Launch) (h : zM) (p1 : Int) (p2 : Int) (p3 : Int) (s0 : okC h) (r_p1 : zPl p1) (b_p2 : 0 ≤ p2 ∧ p2 ≤ 15) (b_p3 : 0 ≤ p3 ∧ p3 ≤ 18) : zT shC l yX7_readDoing cX7_readDoing 5 (some .boolean) (rmL 6) 0 0 [.inr 107, .inr p1, .inl p2, .inl p3] h (q2_X7_readDoing h p1 p2 p3) := by
  refine zT_of (by decide +kernel) (L0 := [some (.inr 107), some (.inr p1), some (.inl p2), some (.inl p3), none]) rfl (Nat.le_of_ble_eq_true rfl) ?_
  have b1 := zPl_b r_p1
  refine zj_aload_n (zdk ttX7_readDoing 0 rfl rfl) rfl (by decide) ?_
  refine zj_aload_n (zdk ttX7_readDoing 1 rfl rfl) rfl (by omega) ?_
  refine zj_iload_n (zdk ttX7_readDoing 2 rfl rfl) rfl ?_
  refine zj_callV (av := [.inr p1, .inl p2]) (st := []) (zdk ttX7_readDoing 3 rfl rfl) mb_X7_readDay mv_RX7_101 (ci := 7) rfl rfl (k_L107 s0) rfl rfl (Nat.le_of_ble_eq_true rfl) (s2_X7_readDay l h p1 p2 s0 r_p1 (by omega)) (rm_ok (by decide) (by decide)) (zq_i fun v3 h4 q2 => ?_)
  obtain ⟨b5, s6, f9, u7, u8⟩ := q2
  refine zj_if_ne (t := 11) (zdk ttX7_readDoing 4 rfl rfl) (by decide) (by omega) (fun c10 => ?_) (fun c10 => ?_)
  · refine zj_aload_n (zdk ttX7_readDoing 7 rfl rfl) rfl (by decide) ?_
    refine zj_getr (r := 103) (zdk ttX7_readDoing 8 rfl rfl) zf_RX7_9 rfl (k_L107 s6) (rf_L107_0 s6) ?_
    refine zj_iconst (zdk ttX7_readDoing 9 rfl rfl) ?_
    refine zj_bipush (zdk ttX7_readDoing 10 rfl rfl) (by decide) ?_
    refine zj_callV (av := [.inl 1, .inl 6]) (st := []) (zdk ttX7_readDoing 11 rfl rfl) mb_X6_isWord mv_RX7_60 (ci := 6) rfl rfl (k_L103 s6) rfl rfl (Nat.le_of_ble_eq_true rfl) (s_X6_isWord l h4 1 6 s6 (by omega) (by omega)) (rm_ok (by decide) (by decide)) (zq_i fun v12 h13 q11 => ?_)
    obtain ⟨rfl, b15, ⟨rfl, b14⟩ | ⟨rfl, b14⟩⟩ := q11
    · refine zj_if_ne (t := 33) (zdk ttX7_readDoing 12 rfl rfl) (by decide) (by decide) (fun c16 => ?_) (fun c16 => ?_)
      · exact absurd c16 (by omega)
      · refine zj_aload_n (zdk ttX7_readDoing 13 rfl rfl) rfl (by decide) ?_
        refine zj_getr (r := 103) (zdk ttX7_readDoing 14 rfl rfl) zf_RX7_9 rfl (k_L107 s6) (rf_L107_0 s6) ?_
        refine zj_iconst (zdk ttX7_readDoing 15 rfl rfl) ?_
        refine zj_callV (av := [.inl 1]) (st := []) (zdk ttX7_readDoing 16 rfl rfl) mb_X6_refuse mv_RX7_81 (ci := 6) rfl rfl (k_L103 s6) rfl rfl (Nat.le_of_ble_eq_true rfl) (s2_X6_refuse l h4 1 s6 (by omega)) (rm_ok (by decide) (by decide)) (zq_i fun v18 h19 q17 => ?_)
        obtain ⟨b20, s21, f23, u22⟩ := q17
        have f25 : zfC (w_X7_readDoing p1) h h4 := zfC_t (zfC_r _ _) f9 (fun a9 b9 z9 => by
          rcases z9 with z9 | z9
          · exact (Or.inl z9)
          · exact (Or.inr (by omega)))
        have f24 : zfC (w_X7_readDoing p1) h h19 := zfC_t f25 f23 (fun a9 b9 z9 => by
          exact (Or.inl (by omega)))
        have b26 : h19.2 103 6 = (h4.2 103 6) := (zfC_a f23 (fun z9 => by unfold w_X6_refuse at z9; first | (revert z9; decide) | omega))
        exact zj_zret rfl (zdk ttX7_readDoing 17 rfl rfl) (Nat.le_refl _) (Nat.le_refl _) (by omega) ⟨v18, rfl, by omega, s21, f24, (by intro T P j t0 yh9; have k0 := t0.2.2.1.2; have l0 := t0.2.2.2.1; have r_1 := (u7 T P j t0 yh9).1 (by omega); have k_2 := r_1.2.1.2.2.1.2; have k_2l := r_1.2.1.2.2.2.1; have e_3 := u22 T P (j + 1 + 1) r_1.2.1; exact ⟨fun z => absurd z (by omega), fun _ => ⟨(j + 1 + 1), _, e_3, fun s9 c9 d9 => tRe_s (tRe_s (tRe_s tRe_r (tMl_l (Or.inr (Or.inl rfl)) yh9 (by omega))) (tMd_y (Or.inr rfl) rfl r_1.1)) (tM32_n (by omega))⟩⟩), (fun k9 i9 a9 b9 c9 => ((zfC_a f23 (fun z9 => by unfold w_X6_refuse at z9; first | (revert z9; decide) | omega))).trans ((u8 k9 i9 a9 b9 (by omega)).trans (rfl)))⟩
    · refine zj_if_ne (t := 33) (zdk ttX7_readDoing 12 rfl rfl) (by decide) (by decide) (fun c27 => ?_) (fun c27 => ?_)
      · refine zj_aload_n (zdk ttX7_readDoing 18 rfl rfl) rfl (by decide) ?_
        refine zj_getr (r := 103) (zdk ttX7_readDoing 19 rfl rfl) zf_RX7_9 rfl (k_L107 s6) (rf_L107_0 s6) ?_
        refine zj_geti (v := (h4.2 103 6)) (zdk ttX7_readDoing 20 rfl rfl) zf_RX7_32 rfl (k_L103 s6) rfl ?_
        refine zj_sipush (zdk ttX7_readDoing 21 rfl rfl) (by decide) ?_
        refine zj_isub (zdk ttX7_readDoing 22 rfl rfl) ?_
        refine zj_istore (L' := [some (.inr 107), some (.inr p1), some (.inl p2), some (.inl p3), some (.inl ((h4.2 103 6) - 200))]) (zdk ttX7_readDoing 23 rfl rfl) (by decide) rfl ?_
        refine zj_aload_n (zdk ttX7_readDoing 24 rfl rfl) rfl (by decide) ?_
        refine zj_getr (r := 103) (zdk ttX7_readDoing 25 rfl rfl) zf_RX7_9 rfl (k_L107 s6) (rf_L107_0 s6) ?_
        refine zj_callV (av := []) (st := []) (zdk ttX7_readDoing 26 rfl rfl) mb_X6_pass mv_RX7_47 (ci := 6) rfl rfl (k_L103 s6) rfl rfl (Nat.le_of_ble_eq_true rfl) (s2_X6_pass l h4 s6) (rm_ok (by decide) (by decide)) (zq_v fun h30 q28 => ?_)
        obtain ⟨s32, f34, u33⟩ := q28
        refine zj_aload_n (zdk ttX7_readDoing 27 rfl rfl) rfl (by omega) ?_
        refine zj_getr (r := (p1 + 2)) (zdk ttX7_readDoing 28 rfl rfl) zf_RX7_113 rfl (k_4_0 s32 r_p1) (rf_4_0_1 s32 r_p1) ?_
        refine zj_iload_n (zdk ttX7_readDoing 29 rfl rfl) rfl ?_
        refine zj_iload (zdk ttX7_readDoing 30 rfl rfl) rfl ?_
        refine zj_iast (zdk ttX7_readDoing 31 rfl rfl) (ka_4_0_1 s32 r_p1) (by decide) (by omega) (fun h35 e36 => ?_)
        refine zj_aload_n (zdk ttX7_readDoing 32 rfl rfl) rfl (by omega) ?_
        have s37 : okC h35 := aw_4_0_1 s32 r_p1 e36 (by omega)
        refine zj_getr (r := (p1 + 3)) (zdk ttX7_readDoing 33 rfl rfl) zf_RX7_107 rfl (k_4_0 s37 r_p1) (rf_4_0_2 s37 r_p1) ?_
        refine zj_iload_n (zdk ttX7_readDoing 34 rfl rfl) rfl ?_
        refine zj_iconst (zdk ttX7_readDoing 35 rfl rfl) ?_
        refine zj_iast (zdk ttX7_readDoing 36 rfl rfl) (ka_4_0_2 s37 r_p1) (by decide) (by omega) (fun h38 e39 => ?_)
        refine zj_iload (zdk ttX7_readDoing 37 rfl rfl) rfl ?_
        refine zj_iconst (zdk ttX7_readDoing 38 rfl rfl) ?_
        refine zj_icmp_eq (t := 105) (zdk ttX7_readDoing 39 rfl rfl) (by decide) (by omega) (by decide) (fun c40 => ?_) (fun c40 => ?_)
        · refine zj_aload_n (zdk ttX7_readDoing 57 rfl rfl) rfl (by decide) ?_
          have s41 : okC h38 := aw_4_0_2 s37 r_p1 e39 (by omega)
          refine zj_getr (r := 103) (zdk ttX7_readDoing 58 rfl rfl) zf_RX7_9 rfl (k_L107 s41) (rf_L107_0 s41) ?_
          refine zj_bipush (zdk ttX7_readDoing 59 rfl rfl) (by decide) ?_
          refine zj_callV (av := [.inl 59]) (st := []) (zdk ttX7_readDoing 60 rfl rfl) mb_X6_takes mv_RX7_70 (ci := 6) rfl rfl (k_L103 s41) rfl rfl (Nat.le_of_ble_eq_true rfl) (s2_X6_takes l h38 59 s41 (by omega)) (rm_ok (by decide) (by decide)) (zq_i fun v43 h44 q42 => ?_)
          obtain ⟨b45, s46, f48, u47⟩ := q42
          have f53 : zfC (w_X7_readDoing p1) h h4 := zfC_t (zfC_r _ _) f9 (fun a9 b9 z9 => by
            rcases z9 with z9 | z9
            · exact (Or.inl z9)
            · exact (Or.inr (by omega)))
          have f52 : zfC (w_X7_readDoing p1) h h30 := zfC_t f53 f34 (fun a9 b9 z9 => by
            exact (Or.inl (by omega)))
          have f51 : zfC (w_X7_readDoing p1) h h35 := zfC_w f52 e36 (Or.inr (by omega))
          have f50 : zfC (w_X7_readDoing p1) h h38 := zfC_w f51 e39 (Or.inr (by omega))
          have f49 : zfC (w_X7_readDoing p1) h h44 := zfC_t f50 f48 (fun a9 b9 z9 => by
            exact (Or.inl (by omega)))
          have b54 : h35.2 103 6 = (h30.2 103 6) := (zwr_r e36 (by first | decide | exact (absurd ·.1 (by decide)) | exact (absurd ·.2 (by decide)) | omega))
          have b55 : h38.2 103 6 = (h30.2 103 6) := ((zwr_r e39 (by first | decide | exact (absurd ·.1 (by decide)) | exact (absurd ·.2 (by decide)) | omega)).trans (zwr_r e36 (by first | decide | exact (absurd ·.1 (by decide)) | exact (absurd ·.2 (by decide)) | omega)))
          exact zj_zret rfl (zdk ttX7_readDoing 61 rfl rfl) (Nat.le_refl _) (Nat.le_refl _) (by omega) ⟨v43, rfl, by omega, s46, f49, (by intro T P j t0 yh9; have k0 := t0.2.2.1.2; have l0 := t0.2.2.2.1; have r_1 := (u7 T P j t0 yh9).1 (by omega); have k_2 := r_1.2.1.2.2.1.2; have k_2l := r_1.2.1.2.2.2.1; have k_3 := r_1.2.1.2.2.1.2; have k_3l := r_1.2.1.2.2.2.1; have a_4 : tPo T P ((j + 1 + 1) + 1) h30 := u33 T P (j + 1 + 1) r_1.2.1 (by omega); have k2 : h44.2 (p1 + 2) p2 = ((h4.2 103 6) - 200) := (((zfC_a f48 (fun z9 => by unfold w_X6_takes at z9; first | (revert z9; decide) | omega)).trans (zwr_r e39 (by first | decide | exact (absurd ·.1 (by decide)) | exact (absurd ·.2 (by decide)) | omega)))).trans (zwr_v e36); have k3 : h44.2 (p1 + 3) p2 = 0 := ((zfC_a f48 (fun z9 => by unfold w_X6_takes at z9; first | (revert z9; decide) | omega))).trans (zwr_v e39); have k1 : h44.2 (p1 + 1) p2 = h4.2 (p1 + 1) p2 := ((((zfC_a f48 (fun z9 => by unfold w_X6_takes at z9; first | (revert z9; decide) | omega)).trans (zwr_r e39 (by first | decide | exact (absurd ·.1 (by decide)) | exact (absurd ·.2 (by decide)) | omega))).trans (zwr_r e36 (by first | decide | exact (absurd ·.1 (by decide)) | exact (absurd ·.2 (by decide)) | omega))).trans (zfC_a f34 (fun z9 => by unfold w_X6_pass at z9; first | (revert z9; decide) | omega))); have k0a := r_1.2.2; have a_5 : tPo T P ((j + 1 + 1) + 1) h35 := tPo_f a_4 (fun i => (zwr_r e36 (by first | decide | exact (absurd ·.1 (by decide)) | exact (absurd ·.2 (by decide)) | omega))) (fun i => (zwr_r e36 (by first | decide | exact (absurd ·.1 (by decide)) | exact (absurd ·.2 (by decide)) | omega))) (zwr_r e36 (by first | decide | exact (absurd ·.1 (by decide)) | exact (absurd ·.2 (by decide)) | omega)) (zwr_r e36 (by first | decide | exact (absurd ·.1 (by decide)) | exact (absurd ·.2 (by decide)) | omega)) (zwr_r e36 (by first | decide | exact (absurd ·.1 (by decide)) | exact (absurd ·.2 (by decide)) | omega)) (zwr_r e36 (by first | decide | exact (absurd ·.1 (by decide)) | exact (absurd ·.2 (by decide)) | omega)) (zwr_r e36 (by first | decide | exact (absurd ·.1 (by decide)) | exact (absurd ·.2 (by decide)) | omega)); have a_6 : tPo T P ((j + 1 + 1) + 1) h38 := tPo_f a_5 (fun i => (zwr_r e39 (by first | decide | exact (absurd ·.1 (by decide)) | exact (absurd ·.2 (by decide)) | omega))) (fun i => (zwr_r e39 (by first | decide | exact (absurd ·.1 (by decide)) | exact (absurd ·.2 (by decide)) | omega))) (zwr_r e39 (by first | decide | exact (absurd ·.1 (by decide)) | exact (absurd ·.2 (by decide)) | omega)) (zwr_r e39 (by first | decide | exact (absurd ·.1 (by decide)) | exact (absurd ·.2 (by decide)) | omega)) (zwr_r e39 (by first | decide | exact (absurd ·.1 (by decide)) | exact (absurd ·.2 (by decide)) | omega)) (zwr_r e39 (by first | decide | exact (absurd ·.1 (by decide)) | exact (absurd ·.2 (by decide)) | omega)) (zwr_r e39 (by first | decide | exact (absurd ·.1 (by decide)) | exact (absurd ·.2 (by decide)) | omega)); have e_7 := u47 T P ((j + 1 + 1) + 1) a_6; exact ⟨fun z => ⟨(((j + 1 + 1) + 1) + 1), (e_7.1 z).2 (by omega), by omega, fun s9 c9 d9 => tRe_q (tRe_s (tRe_s (tRe_s (tRe_s tRe_r (tMl_l (Or.inr (Or.inl rfl)) yh9 (by omega))) (tMd_y (Or.inr rfl) rfl r_1.1)) (tM32_s (by omega))) (tMs_y (Or.inr (Or.inl ⟨rfl, rfl⟩)) (e_7.1 z).1)) (by simp only [List.cons.injEq]; refine ⟨?_, ?_, ?_, ?_⟩ <;> first | trivial | rfl | omega)⟩, fun z => ⟨((j + 1 + 1) + 1), _, (e_7.2 z).2, fun s9 c9 d9 => tRe_s (tRe_s (tRe_s (tRe_s tRe_r (tMl_l (Or.inr (Or.inl rfl)) yh9 (by omega))) (tMd_y (Or.inr rfl) rfl r_1.1)) (tM32_s (by omega))) (tMs_n (Or.inr (Or.inl rfl)) (e_7.2 z).1)⟩⟩), (fun k9 i9 a9 b9 c9 => (((((zfC_a f48 (fun z9 => by unfold w_X6_takes at z9; first | (revert z9; decide) | omega)).trans (zwr_r e39 (by first | decide | exact (absurd ·.1 (by decide)) | exact (absurd ·.2 (by decide)) | omega))).trans (zwr_r e36 (by first | decide | exact (absurd ·.1 (by decide)) | exact (absurd ·.2 (by decide)) | omega))).trans (zfC_a f34 (fun z9 => by unfold w_X6_pass at z9; first | (revert z9; decide) | omega)))).trans ((u8 k9 i9 a9 b9 (by omega)).trans (rfl)))⟩
        · refine zj_iload (zdk ttX7_readDoing 40 rfl rfl) rfl ?_
          refine zj_iconst (zdk ttX7_readDoing 41 rfl rfl) ?_
          refine zj_icmp_eq (t := 105) (zdk ttX7_readDoing 42 rfl rfl) (by decide) (by omega) (by decide) (fun c56 => ?_) (fun c56 => ?_)
          · refine zj_aload_n (zdk ttX7_readDoing 57 rfl rfl) rfl (by decide) ?_
            have s57 : okC h38 := aw_4_0_2 s37 r_p1 e39 (by omega)
            refine zj_getr (r := 103) (zdk ttX7_readDoing 58 rfl rfl) zf_RX7_9 rfl (k_L107 s57) (rf_L107_0 s57) ?_
            refine zj_bipush (zdk ttX7_readDoing 59 rfl rfl) (by decide) ?_
            refine zj_callV (av := [.inl 59]) (st := []) (zdk ttX7_readDoing 60 rfl rfl) mb_X6_takes mv_RX7_70 (ci := 6) rfl rfl (k_L103 s57) rfl rfl (Nat.le_of_ble_eq_true rfl) (s2_X6_takes l h38 59 s57 (by omega)) (rm_ok (by decide) (by decide)) (zq_i fun v59 h60 q58 => ?_)
            obtain ⟨b61, s62, f64, u63⟩ := q58
            have f69 : zfC (w_X7_readDoing p1) h h4 := zfC_t (zfC_r _ _) f9 (fun a9 b9 z9 => by
              rcases z9 with z9 | z9
              · exact (Or.inl z9)
              · exact (Or.inr (by omega)))
            have f68 : zfC (w_X7_readDoing p1) h h30 := zfC_t f69 f34 (fun a9 b9 z9 => by
              exact (Or.inl (by omega)))
            have f67 : zfC (w_X7_readDoing p1) h h35 := zfC_w f68 e36 (Or.inr (by omega))
            have f66 : zfC (w_X7_readDoing p1) h h38 := zfC_w f67 e39 (Or.inr (by omega))
            have f65 : zfC (w_X7_readDoing p1) h h60 := zfC_t f66 f64 (fun a9 b9 z9 => by
              exact (Or.inl (by omega)))
            have b70 : h35.2 103 6 = (h30.2 103 6) := (zwr_r e36 (by first | decide | exact (absurd ·.1 (by decide)) | exact (absurd ·.2 (by decide)) | omega))
            have b71 : h38.2 103 6 = (h30.2 103 6) := ((zwr_r e39 (by first | decide | exact (absurd ·.1 (by decide)) | exact (absurd ·.2 (by decide)) | omega)).trans (zwr_r e36 (by first | decide | exact (absurd ·.1 (by decide)) | exact (absurd ·.2 (by decide)) | omega)))
            exact zj_zret rfl (zdk ttX7_readDoing 61 rfl rfl) (Nat.le_refl _) (Nat.le_refl _) (by omega) ⟨v59, rfl, by omega, s62, f65, (by intro T P j t0 yh9; have k0 := t0.2.2.1.2; have l0 := t0.2.2.2.1; have r_1 := (u7 T P j t0 yh9).1 (by omega); have k_2 := r_1.2.1.2.2.1.2; have k_2l := r_1.2.1.2.2.2.1; have k_3 := r_1.2.1.2.2.1.2; have k_3l := r_1.2.1.2.2.2.1; have a_4 : tPo T P ((j + 1 + 1) + 1) h30 := u33 T P (j + 1 + 1) r_1.2.1 (by omega); have k2 : h60.2 (p1 + 2) p2 = ((h4.2 103 6) - 200) := (((zfC_a f64 (fun z9 => by unfold w_X6_takes at z9; first | (revert z9; decide) | omega)).trans (zwr_r e39 (by first | decide | exact (absurd ·.1 (by decide)) | exact (absurd ·.2 (by decide)) | omega)))).trans (zwr_v e36); have k3 : h60.2 (p1 + 3) p2 = 0 := ((zfC_a f64 (fun z9 => by unfold w_X6_takes at z9; first | (revert z9; decide) | omega))).trans (zwr_v e39); have k1 : h60.2 (p1 + 1) p2 = h4.2 (p1 + 1) p2 := ((((zfC_a f64 (fun z9 => by unfold w_X6_takes at z9; first | (revert z9; decide) | omega)).trans (zwr_r e39 (by first | decide | exact (absurd ·.1 (by decide)) | exact (absurd ·.2 (by decide)) | omega))).trans (zwr_r e36 (by first | decide | exact (absurd ·.1 (by decide)) | exact (absurd ·.2 (by decide)) | omega))).trans (zfC_a f34 (fun z9 => by unfold w_X6_pass at z9; first | (revert z9; decide) | omega))); have k0a := r_1.2.2; have a_5 : tPo T P ((j + 1 + 1) + 1) h35 := tPo_f a_4 (fun i => (zwr_r e36 (by first | decide | exact (absurd ·.1 (by decide)) | exact (absurd ·.2 (by decide)) | omega))) (fun i => (zwr_r e36 (by first | decide | exact (absurd ·.1 (by decide)) | exact (absurd ·.2 (by decide)) | omega))) (zwr_r e36 (by first | decide | exact (absurd ·.1 (by decide)) | exact (absurd ·.2 (by decide)) | omega)) (zwr_r e36 (by first | decide | exact (absurd ·.1 (by decide)) | exact (absurd ·.2 (by decide)) | omega)) (zwr_r e36 (by first | decide | exact (absurd ·.1 (by decide)) | exact (absurd ·.2 (by decide)) | omega)) (zwr_r e36 (by first | decide | exact (absurd ·.1 (by decide)) | exact (absurd ·.2 (by decide)) | omega)) (zwr_r e36 (by first | decide | exact (absurd ·.1 (by decide)) | exact (absurd ·.2 (by decide)) | omega)); have a_6 : tPo T P ((j + 1 + 1) + 1) h38 := tPo_f a_5 (fun i => (zwr_r e39 (by first | decide | exact (absurd ·.1 (by decide)) | exact (absurd ·.2 (by decide)) | omega))) (fun i => (zwr_r e39 (by first | decide | exact (absurd ·.1 (by decide)) | exact (absurd ·.2 (by decide)) | omega))) (zwr_r e39 (by first | decide | exact (absurd ·.1 (by decide)) | exact (absurd ·.2 (by decide)) | omega)) (zwr_r e39 (by first | decide | exact (absurd ·.1 (by decide)) | exact (absurd ·.2 (by decide)) | omega)) (zwr_r e39 (by first | decide | exact (absurd ·.1 (by decide)) | exact (absurd ·.2 (by decide)) | omega)) (zwr_r e39 (by first | decide | exact (absurd ·.1 (by decide)) | exact (absurd ·.2 (by decide)) | omega)) (zwr_r e39 (by first | decide | exact (absurd ·.1 (by decide)) | exact (absurd ·.2 (by decide)) | omega)); have e_7 := u63 T P ((j + 1 + 1) + 1) a_6; exact ⟨fun z => ⟨(((j + 1 + 1) + 1) + 1), (e_7.1 z).2 (by omega), by omega, fun s9 c9 d9 => tRe_q (tRe_s (tRe_s (tRe_s (tRe_s tRe_r (tMl_l (Or.inr (Or.inl rfl)) yh9 (by omega))) (tMd_y (Or.inr rfl) rfl r_1.1)) (tM32_s (by omega))) (tMs_y (Or.inr (Or.inl ⟨rfl, rfl⟩)) (e_7.1 z).1)) (by simp only [List.cons.injEq]; refine ⟨?_, ?_, ?_, ?_⟩ <;> first | trivial | rfl | omega)⟩, fun z => ⟨((j + 1 + 1) + 1), _, (e_7.2 z).2, fun s9 c9 d9 => tRe_s (tRe_s (tRe_s (tRe_s tRe_r (tMl_l (Or.inr (Or.inl rfl)) yh9 (by omega))) (tMd_y (Or.inr rfl) rfl r_1.1)) (tM32_s (by omega))) (tMs_n (Or.inr (Or.inl rfl)) (e_7.2 z).1)⟩⟩), (fun k9 i9 a9 b9 c9 => (((((zfC_a f64 (fun z9 => by unfold w_X6_takes at z9; first | (revert z9; decide) | omega)).trans (zwr_r e39 (by first | decide | exact (absurd ·.1 (by decide)) | exact (absurd ·.2 (by decide)) | omega))).trans (zwr_r e36 (by first | decide | exact (absurd ·.1 (by decide)) | exact (absurd ·.2 (by decide)) | omega))).trans (zfC_a f34 (fun z9 => by unfold w_X6_pass at z9; first | (revert z9; decide) | omega)))).trans ((u8 k9 i9 a9 b9 (by omega)).trans (rfl)))⟩
          · refine zj_aload_n (zdk ttX7_readDoing 43 rfl rfl) rfl (by decide) ?_
            refine zj_iload (zdk ttX7_readDoing 44 rfl rfl) rfl ?_
            refine zj_iload_n (zdk ttX7_readDoing 45 rfl rfl) rfl ?_
            have s72 : okC h38 := aw_4_0_2 s37 r_p1 e39 (by omega)
            refine zj_callV (av := [.inl ((h4.2 103 6) - 200), .inl p3]) (st := []) (zdk ttX7_readDoing 46 rfl rfl) mb_X7_readAmount mv_RX7_125 (ci := 7) rfl rfl (k_L107 s72) rfl rfl (Nat.le_of_ble_eq_true rfl) (s2_X7_readAmount l h38 ((h4.2 103 6) - 200) p3 s72 (by omega) (by omega)) (rm_ok (by decide) (by decide)) (zq_i fun v74 h75 q73 => ?_)
            obtain ⟨b76, s77, f79, u78⟩ := q73
            refine zj_if_ne (t := 92) (zdk ttX7_readDoing 47 rfl rfl) (by decide) (by omega) (fun c80 => ?_) (fun c80 => ?_)
            · refine zj_aload_n (zdk ttX7_readDoing 50 rfl rfl) rfl (by omega) ?_
              refine zj_getr (r := (p1 + 3)) (zdk ttX7_readDoing 51 rfl rfl) zf_RX7_107 rfl (k_4_0 s77 r_p1) (rf_4_0_2 s77 r_p1) ?_
              refine zj_iload_n (zdk ttX7_readDoing 52 rfl rfl) rfl ?_
              refine zj_aload_n (zdk ttX7_readDoing 53 rfl rfl) rfl (by decide) ?_
              refine zj_getr (r := 103) (zdk ttX7_readDoing 54 rfl rfl) zf_RX7_9 rfl (k_L107 s77) (rf_L107_0 s77) ?_
              have b81 : -2147483648 ≤ (h75.2 103 9) ∧ (h75.2 103 9) ≤ 2147483647 := fb_L103_9 s77
              refine zj_geti (v := (h75.2 103 9)) (zdk ttX7_readDoing 55 rfl rfl) zf_RX7_110 rfl (k_L103 s77) rfl ?_
              refine zj_iast (zdk ttX7_readDoing 56 rfl rfl) (ka_4_0_2 s77 r_p1) (by decide) (by omega) (fun h82 e83 => ?_)
              refine zj_aload_n (zdk ttX7_readDoing 57 rfl rfl) rfl (by decide) ?_
              have s84 : okC h82 := aw_4_0_2 s77 r_p1 e83 (by omega)
              refine zj_getr (r := 103) (zdk ttX7_readDoing 58 rfl rfl) zf_RX7_9 rfl (k_L107 s84) (rf_L107_0 s84) ?_
              refine zj_bipush (zdk ttX7_readDoing 59 rfl rfl) (by decide) ?_
              refine zj_callV (av := [.inl 59]) (st := []) (zdk ttX7_readDoing 60 rfl rfl) mb_X6_takes mv_RX7_70 (ci := 6) rfl rfl (k_L103 s84) rfl rfl (Nat.le_of_ble_eq_true rfl) (s2_X6_takes l h82 59 s84 (by omega)) (rm_ok (by decide) (by decide)) (zq_i fun v86 h87 q85 => ?_)
              obtain ⟨b88, s89, f91, u90⟩ := q85
              have f98 : zfC (w_X7_readDoing p1) h h4 := zfC_t (zfC_r _ _) f9 (fun a9 b9 z9 => by
                rcases z9 with z9 | z9
                · exact (Or.inl z9)
                · exact (Or.inr (by omega)))
              have f97 : zfC (w_X7_readDoing p1) h h30 := zfC_t f98 f34 (fun a9 b9 z9 => by
                exact (Or.inl (by omega)))
              have f96 : zfC (w_X7_readDoing p1) h h35 := zfC_w f97 e36 (Or.inr (by omega))
              have f95 : zfC (w_X7_readDoing p1) h h38 := zfC_w f96 e39 (Or.inr (by omega))
              have f94 : zfC (w_X7_readDoing p1) h h75 := zfC_t f95 f79 (fun a9 b9 z9 => by
                exact (Or.inl z9))
              have f93 : zfC (w_X7_readDoing p1) h h82 := zfC_w f94 e83 (Or.inr (by omega))
              have f92 : zfC (w_X7_readDoing p1) h h87 := zfC_t f93 f91 (fun a9 b9 z9 => by
                exact (Or.inl (by omega)))
              have b99 : h35.2 103 6 = (h30.2 103 6) := (zwr_r e36 (by first | decide | exact (absurd ·.1 (by decide)) | exact (absurd ·.2 (by decide)) | omega))
              have b100 : h38.2 103 6 = (h30.2 103 6) := ((zwr_r e39 (by first | decide | exact (absurd ·.1 (by decide)) | exact (absurd ·.2 (by decide)) | omega)).trans (zwr_r e36 (by first | decide | exact (absurd ·.1 (by decide)) | exact (absurd ·.2 (by decide)) | omega)))
              have b101 : h82.2 103 6 = (h75.2 103 6) := (zwr_r e83 (by first | decide | exact (absurd ·.1 (by decide)) | exact (absurd ·.2 (by decide)) | omega))
              exact zj_zret rfl (zdk ttX7_readDoing 61 rfl rfl) (Nat.le_refl _) (Nat.le_refl _) (by omega) ⟨v86, rfl, by omega, s89, f92, (by intro T P j t0 yh9; have k0 := t0.2.2.1.2; have l0 := t0.2.2.2.1; have r_1 := (u7 T P j t0 yh9).1 (by omega); have k_2 := r_1.2.1.2.2.1.2; have k_2l := r_1.2.1.2.2.2.1; have k_3 := r_1.2.1.2.2.1.2; have k_3l := r_1.2.1.2.2.2.1; have a_4 : tPo T P ((j + 1 + 1) + 1) h30 := u33 T P (j + 1 + 1) r_1.2.1 (by omega); have a_5 : tPo T P ((j + 1 + 1) + 1) h35 := tPo_f a_4 (fun i => (zwr_r e36 (by first | decide | exact (absurd ·.1 (by decide)) | exact (absurd ·.2 (by decide)) | omega))) (fun i => (zwr_r e36 (by first | decide | exact (absurd ·.1 (by decide)) | exact (absurd ·.2 (by decide)) | omega))) (zwr_r e36 (by first | decide | exact (absurd ·.1 (by decide)) | exact (absurd ·.2 (by decide)) | omega)) (zwr_r e36 (by first | decide | exact (absurd ·.1 (by decide)) | exact (absurd ·.2 (by decide)) | omega)) (zwr_r e36 (by first | decide | exact (absurd ·.1 (by decide)) | exact (absurd ·.2 (by decide)) | omega)) (zwr_r e36 (by first | decide | exact (absurd ·.1 (by decide)) | exact (absurd ·.2 (by decide)) | omega)) (zwr_r e36 (by first | decide | exact (absurd ·.1 (by decide)) | exact (absurd ·.2 (by decide)) | omega)); have a_6 : tPo T P ((j + 1 + 1) + 1) h38 := tPo_f a_5 (fun i => (zwr_r e39 (by first | decide | exact (absurd ·.1 (by decide)) | exact (absurd ·.2 (by decide)) | omega))) (fun i => (zwr_r e39 (by first | decide | exact (absurd ·.1 (by decide)) | exact (absurd ·.2 (by decide)) | omega))) (zwr_r e39 (by first | decide | exact (absurd ·.1 (by decide)) | exact (absurd ·.2 (by decide)) | omega)) (zwr_r e39 (by first | decide | exact (absurd ·.1 (by decide)) | exact (absurd ·.2 (by decide)) | omega)) (zwr_r e39 (by first | decide | exact (absurd ·.1 (by decide)) | exact (absurd ·.2 (by decide)) | omega)) (zwr_r e39 (by first | decide | exact (absurd ·.1 (by decide)) | exact (absurd ·.2 (by decide)) | omega)) (zwr_r e39 (by first | decide | exact (absurd ·.1 (by decide)) | exact (absurd ·.2 (by decide)) | omega)); have r_7 := (u78 T P ((j + 1 + 1) + 1) a_6).1 (by omega); have r_7a : tPo T P (((j + 1 + 1) + 1) + 1) h75 := r_7.2.2; have k2 : h87.2 (p1 + 2) p2 = ((h4.2 103 6) - 200) := (((((zfC_a f91 (fun z9 => by unfold w_X6_takes at z9; first | (revert z9; decide) | omega)).trans (zwr_r e83 (by first | decide | exact (absurd ·.1 (by decide)) | exact (absurd ·.2 (by decide)) | omega))).trans (zfC_a f79 (fun z9 => by unfold w_X7_readAmount at z9; first | (revert z9; decide) | omega))).trans (zwr_r e39 (by first | decide | exact (absurd ·.1 (by decide)) | exact (absurd ·.2 (by decide)) | omega)))).trans (zwr_v e36); have k3 : h87.2 (p1 + 3) p2 = (h75.2 103 9) := ((zfC_a f91 (fun z9 => by unfold w_X6_takes at z9; first | (revert z9; decide) | omega))).trans (zwr_v e83); have k1 : h87.2 (p1 + 1) p2 = h4.2 (p1 + 1) p2 := ((((((zfC_a f91 (fun z9 => by unfold w_X6_takes at z9; first | (revert z9; decide) | omega)).trans (zwr_r e83 (by first | decide | exact (absurd ·.1 (by decide)) | exact (absurd ·.2 (by decide)) | omega))).trans (zfC_a f79 (fun z9 => by unfold w_X7_readAmount at z9; first | (revert z9; decide) | omega))).trans (zwr_r e39 (by first | decide | exact (absurd ·.1 (by decide)) | exact (absurd ·.2 (by decide)) | omega))).trans (zwr_r e36 (by first | decide | exact (absurd ·.1 (by decide)) | exact (absurd ·.2 (by decide)) | omega))).trans (zfC_a f34 (fun z9 => by unfold w_X6_pass at z9; first | (revert z9; decide) | omega))); have k0a := r_1.2.2; have k0b := r_7.2.1; have a_8 : tPo T P (((j + 1 + 1) + 1) + 1) h82 := tPo_f r_7a (fun i => (zwr_r e83 (by first | decide | exact (absurd ·.1 (by decide)) | exact (absurd ·.2 (by decide)) | omega))) (fun i => (zwr_r e83 (by first | decide | exact (absurd ·.1 (by decide)) | exact (absurd ·.2 (by decide)) | omega))) (zwr_r e83 (by first | decide | exact (absurd ·.1 (by decide)) | exact (absurd ·.2 (by decide)) | omega)) (zwr_r e83 (by first | decide | exact (absurd ·.1 (by decide)) | exact (absurd ·.2 (by decide)) | omega)) (zwr_r e83 (by first | decide | exact (absurd ·.1 (by decide)) | exact (absurd ·.2 (by decide)) | omega)) (zwr_r e83 (by first | decide | exact (absurd ·.1 (by decide)) | exact (absurd ·.2 (by decide)) | omega)) (zwr_r e83 (by first | decide | exact (absurd ·.1 (by decide)) | exact (absurd ·.2 (by decide)) | omega)); have e_9 := u90 T P (((j + 1 + 1) + 1) + 1) a_8; exact ⟨fun z => ⟨((((j + 1 + 1) + 1) + 1) + 1), (e_9.1 z).2 (by omega), by omega, fun s9 c9 d9 => tRe_q (tRe_s (tRe_s (tRe_s (tRe_s (tRe_s tRe_r (tMl_l (Or.inr (Or.inl rfl)) yh9 (by omega))) (tMd_y (Or.inr rfl) rfl r_1.1)) (tM32_y (by omega) (by omega))) (tM33_y (by rw [show T (j + 1 + 1) - 200 = ((h4.2 103 6) - 200) by omega]) (by rw [show T (j + 1 + 1) - 200 = ((h4.2 103 6) - 200) by omega]) rfl r_7.1)) (tMs_y (Or.inr (Or.inl ⟨rfl, rfl⟩)) (e_9.1 z).1)) (by simp only [List.cons.injEq]; refine ⟨?_, ?_, ?_, ?_⟩ <;> first | trivial | rfl | omega)⟩, fun z => ⟨(((j + 1 + 1) + 1) + 1), _, (e_9.2 z).2, fun s9 c9 d9 => tRe_s (tRe_s (tRe_s (tRe_s (tRe_s tRe_r (tMl_l (Or.inr (Or.inl rfl)) yh9 (by omega))) (tMd_y (Or.inr rfl) rfl r_1.1)) (tM32_y (by omega) (by omega))) (tM33_y (by rw [show T (j + 1 + 1) - 200 = ((h4.2 103 6) - 200) by omega]) (by rw [show T (j + 1 + 1) - 200 = ((h4.2 103 6) - 200) by omega]) rfl r_7.1)) (tMs_n (Or.inr (Or.inl rfl)) (e_9.2 z).1)⟩⟩), (fun k9 i9 a9 b9 c9 => (((((((zfC_a f91 (fun z9 => by unfold w_X6_takes at z9; first | (revert z9; decide) | omega)).trans (zwr_r e83 (by first | decide | exact (absurd ·.1 (by decide)) | exact (absurd ·.2 (by decide)) | omega))).trans (zfC_a f79 (fun z9 => by unfold w_X7_readAmount at z9; first | (revert z9; decide) | omega))).trans (zwr_r e39 (by first | decide | exact (absurd ·.1 (by decide)) | exact (absurd ·.2 (by decide)) | omega))).trans (zwr_r e36 (by first | decide | exact (absurd ·.1 (by decide)) | exact (absurd ·.2 (by decide)) | omega))).trans (zfC_a f34 (fun z9 => by unfold w_X6_pass at z9; first | (revert z9; decide) | omega)))).trans ((u8 k9 i9 a9 b9 (by omega)).trans (rfl)))⟩
            · refine zj_iconst (zdk ttX7_readDoing 48 rfl rfl) ?_
              have f106 : zfC (w_X7_readDoing p1) h h4 := zfC_t (zfC_r _ _) f9 (fun a9 b9 z9 => by
                rcases z9 with z9 | z9
                · exact (Or.inl z9)
                · exact (Or.inr (by omega)))
              have f105 : zfC (w_X7_readDoing p1) h h30 := zfC_t f106 f34 (fun a9 b9 z9 => by
                exact (Or.inl (by omega)))
              have f104 : zfC (w_X7_readDoing p1) h h35 := zfC_w f105 e36 (Or.inr (by omega))
              have f103 : zfC (w_X7_readDoing p1) h h38 := zfC_w f104 e39 (Or.inr (by omega))
              have f102 : zfC (w_X7_readDoing p1) h h75 := zfC_t f103 f79 (fun a9 b9 z9 => by
                exact (Or.inl z9))
              have b107 : h35.2 103 6 = (h30.2 103 6) := (zwr_r e36 (by first | decide | exact (absurd ·.1 (by decide)) | exact (absurd ·.2 (by decide)) | omega))
              have b108 : h38.2 103 6 = (h30.2 103 6) := ((zwr_r e39 (by first | decide | exact (absurd ·.1 (by decide)) | exact (absurd ·.2 (by decide)) | omega)).trans (zwr_r e36 (by first | decide | exact (absurd ·.1 (by decide)) | exact (absurd ·.2 (by decide)) | omega)))
              exact zj_zret rfl (zdk ttX7_readDoing 49 rfl rfl) (Nat.le_refl _) (Nat.le_refl _) (by omega) ⟨0, rfl, by omega, s77, f102, (by intro T P j t0 yh9; have k0 := t0.2.2.1.2; have l0 := t0.2.2.2.1; have r_1 := (u7 T P j t0 yh9).1 (by omega); have k_2 := r_1.2.1.2.2.1.2; have k_2l := r_1.2.1.2.2.2.1; have k_3 := r_1.2.1.2.2.1.2; have k_3l := r_1.2.1.2.2.2.1; have a_4 : tPo T P ((j + 1 + 1) + 1) h30 := u33 T P (j + 1 + 1) r_1.2.1 (by omega); have a_5 : tPo T P ((j + 1 + 1) + 1) h35 := tPo_f a_4 (fun i => (zwr_r e36 (by first | decide | exact (absurd ·.1 (by decide)) | exact (absurd ·.2 (by decide)) | omega))) (fun i => (zwr_r e36 (by first | decide | exact (absurd ·.1 (by decide)) | exact (absurd ·.2 (by decide)) | omega))) (zwr_r e36 (by first | decide | exact (absurd ·.1 (by decide)) | exact (absurd ·.2 (by decide)) | omega)) (zwr_r e36 (by first | decide | exact (absurd ·.1 (by decide)) | exact (absurd ·.2 (by decide)) | omega)) (zwr_r e36 (by first | decide | exact (absurd ·.1 (by decide)) | exact (absurd ·.2 (by decide)) | omega)) (zwr_r e36 (by first | decide | exact (absurd ·.1 (by decide)) | exact (absurd ·.2 (by decide)) | omega)) (zwr_r e36 (by first | decide | exact (absurd ·.1 (by decide)) | exact (absurd ·.2 (by decide)) | omega)); have a_6 : tPo T P ((j + 1 + 1) + 1) h38 := tPo_f a_5 (fun i => (zwr_r e39 (by first | decide | exact (absurd ·.1 (by decide)) | exact (absurd ·.2 (by decide)) | omega))) (fun i => (zwr_r e39 (by first | decide | exact (absurd ·.1 (by decide)) | exact (absurd ·.2 (by decide)) | omega))) (zwr_r e39 (by first | decide | exact (absurd ·.1 (by decide)) | exact (absurd ·.2 (by decide)) | omega)) (zwr_r e39 (by first | decide | exact (absurd ·.1 (by decide)) | exact (absurd ·.2 (by decide)) | omega)) (zwr_r e39 (by first | decide | exact (absurd ·.1 (by decide)) | exact (absurd ·.2 (by decide)) | omega)) (zwr_r e39 (by first | decide | exact (absurd ·.1 (by decide)) | exact (absurd ·.2 (by decide)) | omega)) (zwr_r e39 (by first | decide | exact (absurd ·.1 (by decide)) | exact (absurd ·.2 (by decide)) | omega)); have e_7 := (u78 T P ((j + 1 + 1) + 1) a_6).2 (by omega); exact ⟨fun z => absurd z (by omega), fun _ => ⟨((j + 1 + 1) + 1), _, e_7.2, fun s9 c9 d9 => tRe_s (tRe_s (tRe_s (tRe_s tRe_r (tMl_l (Or.inr (Or.inl rfl)) yh9 (by omega))) (tMd_y (Or.inr rfl) rfl r_1.1)) (tM32_y (by omega) (by omega))) (tM33_n (by rw [show T (j + 1 + 1) - 200 = ((h4.2 103 6) - 200) by omega]) (by rw [show T (j + 1 + 1) - 200 = ((h4.2 103 6) - 200) by omega]) rfl (by omega) rfl)⟩⟩), (fun k9 i9 a9 b9 c9 => (((((zfC_a f79 (fun z9 => by unfold w_X7_readAmount at z9; first | (revert z9; decide) | omega)).trans (zwr_r e39 (by first | decide | exact (absurd ·.1 (by decide)) | exact (absurd ·.2 (by decide)) | omega))).trans (zwr_r e36 (by first | decide | exact (absurd ·.1 (by decide)) | exact (absurd ·.2 (by decide)) | omega))).trans (zfC_a f34 (fun z9 => by unfold w_X6_pass at z9; first | (revert z9; decide) | omega)))).trans ((u8 k9 i9 a9 b9 (by omega)).trans (rfl)))⟩
      · exact absurd c27 (by omega)
  · refine zj_iconst (zdk ttX7_readDoing 5 rfl rfl) ?_
    have f109 : zfC (w_X7_readDoing p1) h h4 := zfC_t (zfC_r _ _) f9 (fun a9 b9 z9 => by
      rcases z9 with z9 | z9
      · exact (Or.inl z9)
      · exact (Or.inr (by omega)))
    exact zj_zret rfl (zdk ttX7_readDoing 6 rfl rfl) (Nat.le_refl _) (Nat.le_refl _) (by omega) ⟨0, rfl, by omega, s6, f109, (by intro T P j t0 yh9; have k0 := t0.2.2.1.2; have l0 := t0.2.2.2.1; have e_1 := (u7 T P j t0 yh9).2 (by omega); exact ⟨fun z => absurd z (by omega), fun _ => ⟨(j + 1), _, e_1.2, fun s9 c9 d9 => tRe_s (tRe_s tRe_r (tMl_l (Or.inr (Or.inl rfl)) yh9 (by omega))) (tMd_n (Or.inr rfl) rfl (by omega) rfl)⟩⟩), (fun k9 i9 a9 b9 c9 => (rfl).trans ((u8 k9 i9 a9 b9 (by omega)).trans (rfl)))⟩

abbrev q2_X7_readBoats (h : zM) (p1 : Int) : Option zV → zM → Prop := zqi fun v h' => (0 ≤ v ∧ v ≤ 1) ∧ okC h' ∧ zfC (w_X7_readBoats p1) h h' ∧ (h.2 103 7 = 0 → h.2 103 8 = -1 → ∃ T P c9, tCk 2 (h.2 104) (h.2 103 3) T P c9 ∧ (∀ j9, T j9 ≤ 10999) ∧ (v = 1 → (h'.2 103 7 = 0 ∧ h'.2 103 8 = -1) ∧ (0 ≤ h'.2 p1 3 ∧ h'.2 p1 3 ≤ 16) ∧ ∃ j9, tRe T 0 (20, 0, 0, [], [], []) (1, j9, h'.2 p1 3, [], [], tP3 h' p1 2 3 1 (h'.2 p1 3).toNat)) ∧ (v = 0 → ∃ i9 f9, (h'.2 103 7 = f9 ∧ h'.2 103 8 = P i9) ∧ tRe T 0 (20, 0, 0, [], [], []) (tEr i9 f9)))
set_option maxRecDepth 100000 in
set_option maxHeartbeats 4000000 in
theorem s2_X7_readBoats (l : Launch) (h : zM) (p1 : Int) (s0 : okC h) (r_p1 : zPl p1) : zT shC l yX7_readBoats cX7_readBoats 3 (some .boolean) (rmL 9) 0 0 [.inr 107, .inr p1] h (q2_X7_readBoats h p1) := by
  refine zT_of (by decide +kernel) (L0 := [some (.inr 107), some (.inr p1), none]) rfl (Nat.le_of_ble_eq_true rfl) ?_
  have b1 := zPl_b r_p1
  refine zj_aload_n (zdk ttX7_readBoats 0 rfl rfl) rfl (by decide) ?_
  refine zj_getr (r := 103) (zdk ttX7_readBoats 1 rfl rfl) zf_RX7_9 rfl (k_L107 s0) (rf_L107_0 s0) ?_
  refine zj_ldcS (i := 2) (zdk ttX7_readBoats 2 rfl rfl) (List.mem_of_getElem? (i := 2) rfl) ?_
  refine zj_callV (av := [.inr (-2 - ((2 : Nat) : Int))]) (st := []) (zdk ttX7_readBoats 3 rfl rfl) mb_X6_cut mv_RX7_19 (ci := 6) rfl rfl (k_L103 s0) rfl rfl (Nat.le_of_ble_eq_true rfl) (s2_X6_cut l h 2 s0 (show 2 < 5 by decide)) (rm_ok (by decide) (by decide)) (zq_v fun h4 q2 => ?_)
  obtain ⟨s6, f10, u7, u8, u9⟩ := q2
  refine zj_aload_n (zdk ttX7_readBoats 4 rfl rfl) rfl (by omega) ?_
  refine zj_iconst (zdk ttX7_readBoats 5 rfl rfl) ?_
  refine zj_puti (zdk ttX7_readBoats 6 rfl rfl) zf_RX7_96 rfl (k_4_0 s6 r_p1) (Or.inl zw_RX7_96) (k2 := 3) rfl (fun h11 e12 => ?_)
  refine zj_iconst (zdk ttX7_readBoats 7 rfl rfl) ?_
  refine zj_istore_n (L' := [some (.inr 107), some (.inr p1), some (.inl 0)]) (zdk ttX7_readBoats 8 rfl rfl) (by decide) rfl ?_
  have lp40 : ∀ (n : Nat) (x13 : Int) (h14 : zM), (0 ≤ x13 ∧ x13 ≤ 16) → okC h14 → zfC (w_X7_readBoats p1) h h14 → (h.2 103 7 = 0 → h.2 103 8 = -1 → ∃ j9, tPo (tZt h4) (h4.2 106) j9 h14 ∧ tRe (tZt h4) 0 (20, 0, 0, [], [], []) (20, j9, x13, [], [], tP3 h14 p1 2 3 1 x13.toNat)) → (h14.2 p1 3 = x13) → (17 - x13).toNat < n → zJ shC l yX7_readBoats cX7_readBoats 3 (some .boolean) (rmL 9) 0 0 (q2_X7_readBoats h p1) 0 0 16 [some (.inr 107), some (.inr p1), some (.inl x13)] [] h14 := by
    intro n
    induction n with
    | zero => intro x13 h14 b41 s15 f16 u42 u43 m44; exact absurd m44 (Nat.not_lt_zero _)
    | succ n ih45 =>
      intro x13 h14 b41 s15 f16 u42 u43 m44
      refine zj_iload_n (zdk ttX7_readBoats 9 rfl rfl) rfl ?_
      refine zj_bipush (zdk ttX7_readBoats 10 rfl rfl) (by decide) ?_
      refine zj_icmp_gt (t := 69) (zdk ttX7_readBoats 11 rfl rfl) (by decide) (by omega) (by decide) (fun c46 => ?_) (fun c46 => ?_)
      · exact absurd c46 (by omega)
      · refine zj_aload_n (zdk ttX7_readBoats 12 rfl rfl) rfl (by decide) ?_
        refine zj_getr (r := 103) (zdk ttX7_readBoats 13 rfl rfl) zf_RX7_9 rfl (k_L107 s15) (rf_L107_0 s15) ?_
        have b47 : -2147483648 ≤ (h14.2 103 6) ∧ (h14.2 103 6) ≤ 2147483647 := fb_L103_6 s15
        refine zj_geti (v := (h14.2 103 6)) (zdk ttX7_readBoats 14 rfl rfl) zf_RX7_32 rfl (k_L103 s15) rfl ?_
        refine zj_if_eq (t := 69) (zdk ttX7_readBoats 15 rfl rfl) (by decide) (by omega) (fun c48 => ?_) (fun c48 => ?_)
        · refine zj_iconst (zdk ttX7_readBoats 37 rfl rfl) ?_
          exact zj_zret rfl (zdk ttX7_readBoats 38 rfl rfl) (Nat.le_refl _) (Nat.le_refl _) (by omega) ⟨1, rfl, by omega, s15, f16, (by intro y7 y8; obtain ⟨j, t0, r0⟩ := u42 y7 y8; have k0 := t0.2.2.1.2; have l0 := t0.2.2.2.1; exact ⟨(tZt h4), (h4.2 106), _, (tZt_k u9), (tZt_b (by decide) u9), fun _ => ⟨t0.2.2.2.2.2.2, by omega, j, by have z9 := tRe_s r0 (tMl_e (Or.inl rfl) (by omega)); rw [show x13 = h14.2 p1 3 by omega] at z9; exact z9⟩, fun z => absurd z (by omega)⟩)⟩
        · refine zj_aload_n (zdk ttX7_readBoats 16 rfl rfl) rfl (by decide) ?_
          refine zj_getr (r := 103) (zdk ttX7_readBoats 17 rfl rfl) zf_RX7_9 rfl (k_L107 s15) (rf_L107_0 s15) ?_
          refine zj_iload_n (zdk ttX7_readBoats 18 rfl rfl) rfl ?_
          refine zj_iconst (zdk ttX7_readBoats 19 rfl rfl) ?_
          refine zj_iconst (zdk ttX7_readBoats 20 rfl rfl) ?_
          refine zj_callV (av := [.inl x13, .inl 0, .inl 0]) (st := []) (zdk ttX7_readBoats 21 rfl rfl) mb_X6_opensLine mv_RX7_35 (ci := 6) rfl rfl (k_L103 s15) rfl rfl (Nat.le_of_ble_eq_true rfl) (s2_X6_opensLine l h14 x13 0 0 s15 (by omega) (by omega) (by omega)) (rm_ok (by decide) (by decide)) (zq_i fun v50 h51 q49 => ?_)
          obtain ⟨b52, s53, f56, u54, u55⟩ := q49
          refine zj_if_eq (t := 54) (zdk ttX7_readBoats 22 rfl rfl) (by decide) (by omega) (fun c57 => ?_) (fun c57 => ?_)
          · refine zj_iconst (zdk ttX7_readBoats 28 rfl rfl) ?_
            have f58 : zfC (w_X7_readBoats p1) h h51 := zfC_t f16 f56 (fun a9 b9 z9 => by
              exact (Or.inl (by omega)))
            have b59 : h51.2 103 6 = (h14.2 103 6) := (zfC_a f56 (fun z9 => by unfold w_X6_opensLine at z9; first | (revert z9; decide) | omega))
            exact zj_zret rfl (zdk ttX7_readBoats 29 rfl rfl) (Nat.le_refl _) (Nat.le_refl _) (by omega) ⟨0, rfl, by omega, s53, f58, (by intro y7 y8; obtain ⟨j, t0, r0⟩ := u42 y7 y8; have k0 := t0.2.2.1.2; have l0 := t0.2.2.2.1; have e_1 := (u54 (tZt h4) (h4.2 106) j t0).2 (by omega); exact ⟨(tZt h4), (h4.2 106), _, (tZt_k u9), (tZt_b (by decide) u9), fun z => absurd z (by omega), fun _ => by rcases e_1 with ⟨q1, ⟨q2, q3⟩ | ⟨q2, q3, q4⟩⟩; exact ⟨j, _, ⟨q3, q1⟩, tRe_s r0 (tMl_1 (Or.inl rfl) (by omega) (by omega))⟩; exact ⟨j, _, ⟨q4, q1⟩, tRe_s r0 (tMl_3 (Or.inl rfl) (by omega) (by omega))⟩⟩)⟩
          · refine zj_aload_n (zdk ttX7_readBoats 23 rfl rfl) rfl (by decide) ?_
            refine zj_aload_n (zdk ttX7_readBoats 24 rfl rfl) rfl (by omega) ?_
            refine zj_iload_n (zdk ttX7_readBoats 25 rfl rfl) rfl ?_
            refine zj_callV (av := [.inr p1, .inl x13]) (st := []) (zdk ttX7_readBoats 26 rfl rfl) mb_X7_readBoat mv_RX7_97 (ci := 7) rfl rfl (k_L107 s53) rfl rfl (Nat.le_of_ble_eq_true rfl) (s2_X7_readBoat l h51 p1 x13 s53 r_p1 (by omega)) (rm_ok (by decide) (by decide)) (zq_i fun v61 h62 q60 => ?_)
            obtain ⟨b63, s64, f67, u65, u66⟩ := q60
            refine zj_if_ne (t := 56) (zdk ttX7_readBoats 27 rfl rfl) (by decide) (by omega) (fun c68 => ?_) (fun c68 => ?_)
            · refine zj_aload_n (zdk ttX7_readBoats 30 rfl rfl) rfl (by omega) ?_
              refine zj_iload_n (zdk ttX7_readBoats 31 rfl rfl) rfl ?_
              refine zj_iconst (zdk ttX7_readBoats 32 rfl rfl) ?_
              refine zj_iadd (zdk ttX7_readBoats 33 rfl rfl) ?_
              refine zj_puti (zdk ttX7_readBoats 34 rfl rfl) zf_RX7_96 rfl (k_4_0 s64 r_p1) (Or.inl zw_RX7_96) (k2 := 3) rfl (fun h69 e70 => ?_)
              refine zj_iinc (L' := [some (.inr 107), some (.inr p1), some (.inl (x13 + 1))]) (zdk ttX7_readBoats 35 rfl rfl) rfl (by decide) rfl ?_
              refine zj_goto (t := 16) (zdk ttX7_readBoats 36 rfl rfl) (by decide) ?_
              have b71 : h69.2 p1 3 = (x13 + 1) := (zwr_v e70)
              have s72 : okC h69 := fw_4_0_3 s64 r_p1 e70 (by omega)
              have f75 : zfC (w_X7_readBoats p1) h h51 := zfC_t f16 f56 (fun a9 b9 z9 => by
                exact (Or.inl (by omega)))
              have f74 : zfC (w_X7_readBoats p1) h h62 := zfC_t f75 f67 (fun a9 b9 z9 => by
                rcases z9 with z9 | z9
                · exact (Or.inl (by omega))
                · exact (Or.inr (Or.inr (Or.inr (by omega)))))
              have f73 : zfC (w_X7_readBoats p1) h h69 := zfC_w f74 e70 (Or.inr (Or.inr (Or.inl (by omega))))
              have b76 : h51.2 103 6 = (h14.2 103 6) := (zfC_a f56 (fun z9 => by unfold w_X6_opensLine at z9; first | (revert z9; decide) | omega))
              have b77 : h69.2 103 6 = (h62.2 103 6) := (zwr_r e70 (by first | decide | exact (absurd ·.1 (by decide)) | exact (absurd ·.2 (by decide)) | omega))
              exact ih45  (x13 + 1) h69 (by omega) s72 f73 (by intro y7 y8; obtain ⟨j, t0, r0⟩ := u42 y7 y8; have k0 := t0.2.2.1.2; have l0 := t0.2.2.2.1; have r_1 := (u54 (tZt h4) (h4.2 106) j t0).1 (by omega); obtain ⟨r_2j, r_2a, r_2l, r_2r⟩ := (u65 (tZt h4) (h4.2 106) j r_1.2.2 (by have z9 := r_1.1; omega)).1 (by omega); have a_3 : tPo (tZt h4) (h4.2 106) r_2j h69 := tPo_f r_2a (fun i => (zwr_r e70 (by first | decide | exact (absurd ·.1 (by decide)) | exact (absurd ·.2 (by decide)) | omega))) (fun i => (zwr_r e70 (by first | decide | exact (absurd ·.1 (by decide)) | exact (absurd ·.2 (by decide)) | omega))) (zwr_r e70 (by first | decide | exact (absurd ·.1 (by decide)) | exact (absurd ·.2 (by decide)) | omega)) (zwr_r e70 (by first | decide | exact (absurd ·.1 (by decide)) | exact (absurd ·.2 (by decide)) | omega)) (zwr_r e70 (by first | decide | exact (absurd ·.1 (by decide)) | exact (absurd ·.2 (by decide)) | omega)) (zwr_r e70 (by first | decide | exact (absurd ·.1 (by decide)) | exact (absurd ·.2 (by decide)) | omega)) (zwr_r e70 (by first | decide | exact (absurd ·.1 (by decide)) | exact (absurd ·.2 (by decide)) | omega)); have ed : tP3 h69 p1 2 3 1 (x13 + 1).toNat = h62.2 (p1 + 2) x13 :: h62.2 (p1 + 3) x13 :: h62.2 (p1 + 1) x13 :: tP3 h14 p1 2 3 1 x13.toNat := (by rw [tP3_x (h := h62) (by decide) (by decide) (by decide) _ (fun k i a9 b9 c9 d9 => (zwr_r e70 (by first | decide | exact (absurd ·.1 (by decide)) | exact (absurd ·.2 (by decide)) | omega))), tP3_s (by omega), tP3_x (h := h14) (h' := h62) (by decide) (by decide) (by decide) x13.toNat (fun k i a9 b9 c9 d9 => (u66 k i a9 b9 (by omega)).trans ((zfC_a f56 (fun z9 => by unfold w_X6_opensLine at z9; first | (revert z9; decide) | omega))))]); exact ⟨r_2j, a_3, by rw [ed]; exact tRe_t r0 (r_2r 0 [] _ _)⟩) (by omega) (by omega)
            · refine zj_iconst (zdk ttX7_readBoats 28 rfl rfl) ?_
              have f79 : zfC (w_X7_readBoats p1) h h51 := zfC_t f16 f56 (fun a9 b9 z9 => by
                exact (Or.inl (by omega)))
              have f78 : zfC (w_X7_readBoats p1) h h62 := zfC_t f79 f67 (fun a9 b9 z9 => by
                rcases z9 with z9 | z9
                · exact (Or.inl (by omega))
                · exact (Or.inr (Or.inr (Or.inr (by omega)))))
              have b80 : h51.2 103 6 = (h14.2 103 6) := (zfC_a f56 (fun z9 => by unfold w_X6_opensLine at z9; first | (revert z9; decide) | omega))
              exact zj_zret rfl (zdk ttX7_readBoats 29 rfl rfl) (Nat.le_refl _) (Nat.le_refl _) (by omega) ⟨0, rfl, by omega, s64, f78, (by intro y7 y8; obtain ⟨j, t0, r0⟩ := u42 y7 y8; have k0 := t0.2.2.1.2; have l0 := t0.2.2.2.1; have r_1 := (u54 (tZt h4) (h4.2 106) j t0).1 (by omega); obtain ⟨ei, ef, eq9, er⟩ := (u65 (tZt h4) (h4.2 106) j r_1.2.2 (by have z9 := r_1.1; omega)).2 (by omega); exact ⟨(tZt h4), (h4.2 106), _, (tZt_k u9), (tZt_b (by decide) u9), fun z => absurd z (by omega), fun _ => ⟨ei, ef, eq9, tRe_t r0 (er 0 [] _ _)⟩⟩)⟩
  have b81 : h11.2 p1 3 = 0 := (zwr_v e12)
  have s82 : okC h11 := fw_4_0_3 s6 r_p1 e12 (by omega)
  have f84 : zfC (w_X7_readBoats p1) h h4 := zfC_t (zfC_r _ _) f10 (fun a9 b9 z9 => by
    rcases z9 with z9 | z9
    · exact (Or.inl (by omega))
    · exact (Or.inr (Or.inl z9)))
  have f83 : zfC (w_X7_readBoats p1) h h11 := zfC_w f84 e12 (Or.inr (Or.inr (Or.inl (by omega))))
  have b85 : h11.2 103 6 = (h4.2 103 6) := (zwr_r e12 (by first | decide | exact (absurd ·.1 (by decide)) | exact (absurd ·.2 (by decide)) | omega))
  exact lp40 _ 0 h11 (by omega) s82 f83 (by intro y7 y8; have t0 := tZt_po (h := h4) (by have z8 := u9; exact z8) u7 u8 ((zfC_a f10 (fun z9 => by unfold w_X6_cut at z9; first | (revert z9; decide) | omega)).trans y7) ((zfC_a f10 (fun z9 => by unfold w_X6_cut at z9; first | (revert z9; decide) | omega)).trans y8); have k0 := t0.2.2.1.2; have l0 := t0.2.2.2.1; have a_1 : tPo (tZt h4) (h4.2 106) 0 h11 := tPo_f t0 (fun i => (zwr_r e12 (by first | decide | exact (absurd ·.1 (by decide)) | exact (absurd ·.2 (by decide)) | omega))) (fun i => (zwr_r e12 (by first | decide | exact (absurd ·.1 (by decide)) | exact (absurd ·.2 (by decide)) | omega))) (zwr_r e12 (by first | decide | exact (absurd ·.1 (by decide)) | exact (absurd ·.2 (by decide)) | omega)) (zwr_r e12 (by first | decide | exact (absurd ·.1 (by decide)) | exact (absurd ·.2 (by decide)) | omega)) (zwr_r e12 (by first | decide | exact (absurd ·.1 (by decide)) | exact (absurd ·.2 (by decide)) | omega)) (zwr_r e12 (by first | decide | exact (absurd ·.1 (by decide)) | exact (absurd ·.2 (by decide)) | omega)) (zwr_r e12 (by first | decide | exact (absurd ·.1 (by decide)) | exact (absurd ·.2 (by decide)) | omega)); exact ⟨0, a_1, tRe_r⟩) (by omega) (Nat.lt_succ_self _)

abbrev q2_X7_readTown (h : zM) (p1 : Int) (p2 : Int) : Option zV → zM → Prop := zqi fun v h' => (0 ≤ v ∧ v ≤ 1) ∧ okC h' ∧ zfC (w_X7_readTown p1) h h' ∧ (h.2 103 7 = 0 → h.2 103 8 = -1 → ∃ T P c9, tCk 3 (h.2 104) (h.2 103 3) T P c9 ∧ (∀ j9, T j9 ≤ 10999) ∧ (v = 1 → (h'.2 103 7 = 0 ∧ h'.2 103 8 = -1) ∧ (0 ≤ h'.2 p1 3 ∧ h'.2 p1 3 ≤ 16) ∧ ∃ j9, tRe T p2 (30, 0, 0, [], [], []) (1, j9, h'.2 p1 3, [], [], tP3 h' p1 3 2 1 (h'.2 p1 3).toNat)) ∧ (v = 0 → ∃ i9 f9, (h'.2 103 7 = f9 ∧ h'.2 103 8 = P i9) ∧ tRe T p2 (30, 0, 0, [], [], []) (tEr i9 f9)))
set_option maxRecDepth 100000 in
set_option maxHeartbeats 4000000 in
theorem s2_X7_readTown (l : Launch) (h : zM) (p1 : Int) (p2 : Int) (s0 : okC h) (r_p1 : zPl p1) (b_p2 : 0 ≤ p2 ∧ p2 ≤ 18) : zT shC l yX7_readTown cX7_readTown 4 (some .boolean) (rmL 9) 0 0 [.inr 107, .inr p1, .inl p2] h (q2_X7_readTown h p1 p2) := by
  refine zT_of (by decide +kernel) (L0 := [some (.inr 107), some (.inr p1), some (.inl p2), none]) rfl (Nat.le_of_ble_eq_true rfl) ?_
  have b1 := zPl_b r_p1
  refine zj_aload_n (zdk ttX7_readTown 0 rfl rfl) rfl (by decide) ?_
  refine zj_getr (r := 103) (zdk ttX7_readTown 1 rfl rfl) zf_RX7_9 rfl (k_L107 s0) (rf_L107_0 s0) ?_
  refine zj_ldcS (i := 3) (zdk ttX7_readTown 2 rfl rfl) (List.mem_of_getElem? (i := 3) rfl) ?_
  refine zj_callV (av := [.inr (-2 - ((3 : Nat) : Int))]) (st := []) (zdk ttX7_readTown 3 rfl rfl) mb_X6_cut mv_RX7_19 (ci := 6) rfl rfl (k_L103 s0) rfl rfl (Nat.le_of_ble_eq_true rfl) (s2_X6_cut l h 3 s0 (show 3 < 5 by decide)) (rm_ok (by decide) (by decide)) (zq_v fun h4 q2 => ?_)
  obtain ⟨s6, f10, u7, u8, u9⟩ := q2
  refine zj_aload_n (zdk ttX7_readTown 4 rfl rfl) rfl (by omega) ?_
  refine zj_iconst (zdk ttX7_readTown 5 rfl rfl) ?_
  refine zj_puti (zdk ttX7_readTown 6 rfl rfl) zf_RX7_96 rfl (k_4_0 s6 r_p1) (Or.inl zw_RX7_96) (k2 := 3) rfl (fun h11 e12 => ?_)
  refine zj_iconst (zdk ttX7_readTown 7 rfl rfl) ?_
  refine zj_istore_n (L' := [some (.inr 107), some (.inr p1), some (.inl p2), some (.inl 0)]) (zdk ttX7_readTown 8 rfl rfl) (by decide) rfl ?_
  have lp40 : ∀ (n : Nat) (x13 : Int) (h14 : zM), (0 ≤ x13 ∧ x13 ≤ 16) → okC h14 → zfC (w_X7_readTown p1) h h14 → (h.2 103 7 = 0 → h.2 103 8 = -1 → ∃ j9, tPo (tZt h4) (h4.2 106) j9 h14 ∧ tRe (tZt h4) p2 (30, 0, 0, [], [], []) (30, j9, x13, [], [], tP3 h14 p1 3 2 1 x13.toNat)) → (h14.2 p1 3 = x13) → (17 - x13).toNat < n → zJ shC l yX7_readTown cX7_readTown 4 (some .boolean) (rmL 9) 0 0 (q2_X7_readTown h p1 p2) 0 0 16 [some (.inr 107), some (.inr p1), some (.inl p2), some (.inl x13)] [] h14 := by
    intro n
    induction n with
    | zero => intro x13 h14 b41 s15 f16 u42 u43 m44; exact absurd m44 (Nat.not_lt_zero _)
    | succ n ih45 =>
      intro x13 h14 b41 s15 f16 u42 u43 m44
      refine zj_iload_n (zdk ttX7_readTown 9 rfl rfl) rfl ?_
      refine zj_bipush (zdk ttX7_readTown 10 rfl rfl) (by decide) ?_
      refine zj_icmp_gt (t := 70) (zdk ttX7_readTown 11 rfl rfl) (by decide) (by omega) (by decide) (fun c46 => ?_) (fun c46 => ?_)
      · exact absurd c46 (by omega)
      · refine zj_aload_n (zdk ttX7_readTown 12 rfl rfl) rfl (by decide) ?_
        refine zj_getr (r := 103) (zdk ttX7_readTown 13 rfl rfl) zf_RX7_9 rfl (k_L107 s15) (rf_L107_0 s15) ?_
        have b47 : -2147483648 ≤ (h14.2 103 6) ∧ (h14.2 103 6) ≤ 2147483647 := fb_L103_6 s15
        refine zj_geti (v := (h14.2 103 6)) (zdk ttX7_readTown 14 rfl rfl) zf_RX7_32 rfl (k_L103 s15) rfl ?_
        refine zj_if_eq (t := 70) (zdk ttX7_readTown 15 rfl rfl) (by decide) (by omega) (fun c48 => ?_) (fun c48 => ?_)
        · refine zj_iconst (zdk ttX7_readTown 38 rfl rfl) ?_
          exact zj_zret rfl (zdk ttX7_readTown 39 rfl rfl) (Nat.le_refl _) (Nat.le_refl _) (by omega) ⟨1, rfl, by omega, s15, f16, (by intro y7 y8; obtain ⟨j, t0, r0⟩ := u42 y7 y8; have k0 := t0.2.2.1.2; have l0 := t0.2.2.2.1; exact ⟨(tZt h4), (h4.2 106), _, (tZt_k u9), (tZt_b (by decide) u9), fun _ => ⟨t0.2.2.2.2.2.2, by omega, j, by have z9 := tRe_s r0 (tMl_e (Or.inr (Or.inl rfl)) (by omega)); rw [show x13 = h14.2 p1 3 by omega] at z9; exact z9⟩, fun z => absurd z (by omega)⟩)⟩
        · refine zj_aload_n (zdk ttX7_readTown 16 rfl rfl) rfl (by decide) ?_
          refine zj_getr (r := 103) (zdk ttX7_readTown 17 rfl rfl) zf_RX7_9 rfl (k_L107 s15) (rf_L107_0 s15) ?_
          refine zj_iload_n (zdk ttX7_readTown 18 rfl rfl) rfl ?_
          refine zj_iconst (zdk ttX7_readTown 19 rfl rfl) ?_
          refine zj_iconst (zdk ttX7_readTown 20 rfl rfl) ?_
          refine zj_callV (av := [.inl x13, .inl 0, .inl 0]) (st := []) (zdk ttX7_readTown 21 rfl rfl) mb_X6_opensLine mv_RX7_35 (ci := 6) rfl rfl (k_L103 s15) rfl rfl (Nat.le_of_ble_eq_true rfl) (s2_X6_opensLine l h14 x13 0 0 s15 (by omega) (by omega) (by omega)) (rm_ok (by decide) (by decide)) (zq_i fun v50 h51 q49 => ?_)
          obtain ⟨b52, s53, f56, u54, u55⟩ := q49
          refine zj_if_eq (t := 55) (zdk ttX7_readTown 22 rfl rfl) (by decide) (by omega) (fun c57 => ?_) (fun c57 => ?_)
          · refine zj_iconst (zdk ttX7_readTown 29 rfl rfl) ?_
            have f58 : zfC (w_X7_readTown p1) h h51 := zfC_t f16 f56 (fun a9 b9 z9 => by
              exact (Or.inl (by omega)))
            have b59 : h51.2 103 6 = (h14.2 103 6) := (zfC_a f56 (fun z9 => by unfold w_X6_opensLine at z9; first | (revert z9; decide) | omega))
            exact zj_zret rfl (zdk ttX7_readTown 30 rfl rfl) (Nat.le_refl _) (Nat.le_refl _) (by omega) ⟨0, rfl, by omega, s53, f58, (by intro y7 y8; obtain ⟨j, t0, r0⟩ := u42 y7 y8; have k0 := t0.2.2.1.2; have l0 := t0.2.2.2.1; have e_1 := (u54 (tZt h4) (h4.2 106) j t0).2 (by omega); exact ⟨(tZt h4), (h4.2 106), _, (tZt_k u9), (tZt_b (by decide) u9), fun z => absurd z (by omega), fun _ => by rcases e_1 with ⟨q1, ⟨q2, q3⟩ | ⟨q2, q3, q4⟩⟩; exact ⟨j, _, ⟨q3, q1⟩, tRe_s r0 (tMl_1 (Or.inr (Or.inl rfl)) (by omega) (by omega))⟩; exact ⟨j, _, ⟨q4, q1⟩, tRe_s r0 (tMl_3 (Or.inr (Or.inl rfl)) (by omega) (by omega))⟩⟩)⟩
          · refine zj_aload_n (zdk ttX7_readTown 23 rfl rfl) rfl (by decide) ?_
            refine zj_aload_n (zdk ttX7_readTown 24 rfl rfl) rfl (by omega) ?_
            refine zj_iload_n (zdk ttX7_readTown 25 rfl rfl) rfl ?_
            refine zj_iload_n (zdk ttX7_readTown 26 rfl rfl) rfl ?_
            refine zj_callV (av := [.inr p1, .inl x13, .inl p2]) (st := []) (zdk ttX7_readTown 27 rfl rfl) mb_X7_readDoing mv_RX7_121 (ci := 7) rfl rfl (k_L107 s53) rfl rfl (Nat.le_of_ble_eq_true rfl) (s2_X7_readDoing l h51 p1 x13 p2 s53 r_p1 (by omega) (by omega)) (rm_ok (by decide) (by decide)) (zq_i fun v61 h62 q60 => ?_)
            obtain ⟨b63, s64, f67, u65, u66⟩ := q60
            refine zj_if_ne (t := 57) (zdk ttX7_readTown 28 rfl rfl) (by decide) (by omega) (fun c68 => ?_) (fun c68 => ?_)
            · refine zj_aload_n (zdk ttX7_readTown 31 rfl rfl) rfl (by omega) ?_
              refine zj_iload_n (zdk ttX7_readTown 32 rfl rfl) rfl ?_
              refine zj_iconst (zdk ttX7_readTown 33 rfl rfl) ?_
              refine zj_iadd (zdk ttX7_readTown 34 rfl rfl) ?_
              refine zj_puti (zdk ttX7_readTown 35 rfl rfl) zf_RX7_96 rfl (k_4_0 s64 r_p1) (Or.inl zw_RX7_96) (k2 := 3) rfl (fun h69 e70 => ?_)
              refine zj_iinc (L' := [some (.inr 107), some (.inr p1), some (.inl p2), some (.inl (x13 + 1))]) (zdk ttX7_readTown 36 rfl rfl) rfl (by decide) rfl ?_
              refine zj_goto (t := 16) (zdk ttX7_readTown 37 rfl rfl) (by decide) ?_
              have b71 : h69.2 p1 3 = (x13 + 1) := (zwr_v e70)
              have s72 : okC h69 := fw_4_0_3 s64 r_p1 e70 (by omega)
              have f75 : zfC (w_X7_readTown p1) h h51 := zfC_t f16 f56 (fun a9 b9 z9 => by
                exact (Or.inl (by omega)))
              have f74 : zfC (w_X7_readTown p1) h h62 := zfC_t f75 f67 (fun a9 b9 z9 => by
                rcases z9 with z9 | z9
                · exact (Or.inl (by omega))
                · exact (Or.inr (Or.inr (Or.inr (by omega)))))
              have f73 : zfC (w_X7_readTown p1) h h69 := zfC_w f74 e70 (Or.inr (Or.inr (Or.inl (by omega))))
              have b76 : h51.2 103 6 = (h14.2 103 6) := (zfC_a f56 (fun z9 => by unfold w_X6_opensLine at z9; first | (revert z9; decide) | omega))
              have b77 : h69.2 103 6 = (h62.2 103 6) := (zwr_r e70 (by first | decide | exact (absurd ·.1 (by decide)) | exact (absurd ·.2 (by decide)) | omega))
              exact ih45  (x13 + 1) h69 (by omega) s72 f73 (by intro y7 y8; obtain ⟨j, t0, r0⟩ := u42 y7 y8; have k0 := t0.2.2.1.2; have l0 := t0.2.2.2.1; have r_1 := (u54 (tZt h4) (h4.2 106) j t0).1 (by omega); obtain ⟨r_2j, r_2a, r_2l, r_2r⟩ := (u65 (tZt h4) (h4.2 106) j r_1.2.2 (by have z9 := r_1.1; omega)).1 (by omega); have a_3 : tPo (tZt h4) (h4.2 106) r_2j h69 := tPo_f r_2a (fun i => (zwr_r e70 (by first | decide | exact (absurd ·.1 (by decide)) | exact (absurd ·.2 (by decide)) | omega))) (fun i => (zwr_r e70 (by first | decide | exact (absurd ·.1 (by decide)) | exact (absurd ·.2 (by decide)) | omega))) (zwr_r e70 (by first | decide | exact (absurd ·.1 (by decide)) | exact (absurd ·.2 (by decide)) | omega)) (zwr_r e70 (by first | decide | exact (absurd ·.1 (by decide)) | exact (absurd ·.2 (by decide)) | omega)) (zwr_r e70 (by first | decide | exact (absurd ·.1 (by decide)) | exact (absurd ·.2 (by decide)) | omega)) (zwr_r e70 (by first | decide | exact (absurd ·.1 (by decide)) | exact (absurd ·.2 (by decide)) | omega)) (zwr_r e70 (by first | decide | exact (absurd ·.1 (by decide)) | exact (absurd ·.2 (by decide)) | omega)); have ed : tP3 h69 p1 3 2 1 (x13 + 1).toNat = h62.2 (p1 + 3) x13 :: h62.2 (p1 + 2) x13 :: h62.2 (p1 + 1) x13 :: tP3 h14 p1 3 2 1 x13.toNat := (by rw [tP3_x (h := h62) (by decide) (by decide) (by decide) _ (fun k i a9 b9 c9 d9 => (zwr_r e70 (by first | decide | exact (absurd ·.1 (by decide)) | exact (absurd ·.2 (by decide)) | omega))), tP3_s (by omega), tP3_x (h := h14) (h' := h62) (by decide) (by decide) (by decide) x13.toNat (fun k i a9 b9 c9 d9 => (u66 k i a9 b9 (by omega)).trans ((zfC_a f56 (fun z9 => by unfold w_X6_opensLine at z9; first | (revert z9; decide) | omega))))]); exact ⟨r_2j, a_3, by rw [ed]; exact tRe_t r0 (r_2r [] _ _)⟩) (by omega) (by omega)
            · refine zj_iconst (zdk ttX7_readTown 29 rfl rfl) ?_
              have f79 : zfC (w_X7_readTown p1) h h51 := zfC_t f16 f56 (fun a9 b9 z9 => by
                exact (Or.inl (by omega)))
              have f78 : zfC (w_X7_readTown p1) h h62 := zfC_t f79 f67 (fun a9 b9 z9 => by
                rcases z9 with z9 | z9
                · exact (Or.inl (by omega))
                · exact (Or.inr (Or.inr (Or.inr (by omega)))))
              have b80 : h51.2 103 6 = (h14.2 103 6) := (zfC_a f56 (fun z9 => by unfold w_X6_opensLine at z9; first | (revert z9; decide) | omega))
              exact zj_zret rfl (zdk ttX7_readTown 30 rfl rfl) (Nat.le_refl _) (Nat.le_refl _) (by omega) ⟨0, rfl, by omega, s64, f78, (by intro y7 y8; obtain ⟨j, t0, r0⟩ := u42 y7 y8; have k0 := t0.2.2.1.2; have l0 := t0.2.2.2.1; have r_1 := (u54 (tZt h4) (h4.2 106) j t0).1 (by omega); obtain ⟨ei, ef, eq9, er⟩ := (u65 (tZt h4) (h4.2 106) j r_1.2.2 (by have z9 := r_1.1; omega)).2 (by omega); exact ⟨(tZt h4), (h4.2 106), _, (tZt_k u9), (tZt_b (by decide) u9), fun z => absurd z (by omega), fun _ => ⟨ei, ef, eq9, tRe_t r0 (er [] _ _)⟩⟩)⟩
  have b81 : h11.2 p1 3 = 0 := (zwr_v e12)
  have s82 : okC h11 := fw_4_0_3 s6 r_p1 e12 (by omega)
  have f84 : zfC (w_X7_readTown p1) h h4 := zfC_t (zfC_r _ _) f10 (fun a9 b9 z9 => by
    rcases z9 with z9 | z9
    · exact (Or.inl (by omega))
    · exact (Or.inr (Or.inl z9)))
  have f83 : zfC (w_X7_readTown p1) h h11 := zfC_w f84 e12 (Or.inr (Or.inr (Or.inl (by omega))))
  have b85 : h11.2 103 6 = (h4.2 103 6) := (zwr_r e12 (by first | decide | exact (absurd ·.1 (by decide)) | exact (absurd ·.2 (by decide)) | omega))
  exact lp40 _ 0 h11 (by omega) s82 f83 (by intro y7 y8; have t0 := tZt_po (h := h4) (by have z8 := u9; exact z8) u7 u8 ((zfC_a f10 (fun z9 => by unfold w_X6_cut at z9; first | (revert z9; decide) | omega)).trans y7) ((zfC_a f10 (fun z9 => by unfold w_X6_cut at z9; first | (revert z9; decide) | omega)).trans y8); have k0 := t0.2.2.1.2; have l0 := t0.2.2.2.1; have a_1 : tPo (tZt h4) (h4.2 106) 0 h11 := tPo_f t0 (fun i => (zwr_r e12 (by first | decide | exact (absurd ·.1 (by decide)) | exact (absurd ·.2 (by decide)) | omega))) (fun i => (zwr_r e12 (by first | decide | exact (absurd ·.1 (by decide)) | exact (absurd ·.2 (by decide)) | omega))) (zwr_r e12 (by first | decide | exact (absurd ·.1 (by decide)) | exact (absurd ·.2 (by decide)) | omega)) (zwr_r e12 (by first | decide | exact (absurd ·.1 (by decide)) | exact (absurd ·.2 (by decide)) | omega)) (zwr_r e12 (by first | decide | exact (absurd ·.1 (by decide)) | exact (absurd ·.2 (by decide)) | omega)) (zwr_r e12 (by first | decide | exact (absurd ·.1 (by decide)) | exact (absurd ·.2 (by decide)) | omega)) (zwr_r e12 (by first | decide | exact (absurd ·.1 (by decide)) | exact (absurd ·.2 (by decide)) | omega)); exact ⟨0, a_1, tRe_r⟩) (by omega) (Nat.lt_succ_self _)

