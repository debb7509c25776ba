abbrev q2_X7_readLawLine (h : zM) (p1 : Int) (p2 : Int) : Option zV → zM → Prop := zqi fun v h' => (0 ≤ v ∧ v ≤ 1) ∧ okC h' ∧ zfC (w_X7_readLawLine p1) h h' ∧ (∀ T P j, tPo T P j h → (200 ≤ T j ∧ T j ≤ 202) → (v = 1 → ∃ j9, tPo T P j9 h' ∧ j < j9 ∧ ∀ p9 s9, tRe T p9 (2, j, p2, s9) (2, j9, p2 + 1, [])) ∧ (v = 0 → ∃ i9 f9, (h'.2 103 7 = f9 ∧ h'.2 103 8 = P i9) ∧ ∀ p9 s9, tRe T p9 (2, j, p2, s9) (tEr i9 f9)))
set_option maxRecDepth 100000 in
set_option maxHeartbeats 4000000 in
theorem s2_X7_readLawLine (l : Launch) (h : zM) (p1 : Int) (p2 : Int) (s0 : okC h) (r_p1 : zLw p1) (b_p2 : 0 ≤ p2 ∧ p2 ≤ 15) : zT shC l yX7_readLawLine cX7_readLawLine 3 (some .boolean) (rmL 31) 0 0 [.inr 107, .inr p1, .inl p2] h (q2_X7_readLawLine h p1 p2) := by
  refine zT_of (by decide +kernel) (L0 := [some (.inr 107), some (.inr p1), some (.inl p2)]) rfl (Nat.le_of_ble_eq_true rfl) ?_
  have b1 := zLw_b r_p1
  refine zj_aload_n (zdk ttX7_readLawLine 0 rfl rfl) rfl (by omega) ?_
  refine zj_getr (r := (p1 + 1)) (zdk ttX7_readLawLine 1 rfl rfl) zf_RX7_43 rfl (k_3_0 s0 r_p1) (rf_3_0_0 s0 r_p1) ?_
  refine zj_iload_n (zdk ttX7_readLawLine 2 rfl rfl) rfl ?_
  refine zj_aload_n (zdk ttX7_readLawLine 3 rfl rfl) rfl (by decide) ?_
  refine zj_getr (r := 103) (zdk ttX7_readLawLine 4 rfl rfl) zf_RX7_9 rfl (k_L107 s0) (rf_L107_0 s0) ?_
  have b2 : -2147483648 ≤ (h.2 103 6) ∧ (h.2 103 6) ≤ 2147483647 := fb_L103_6 s0
  refine zj_geti (v := (h.2 103 6)) (zdk ttX7_readLawLine 5 rfl rfl) zf_RX7_32 rfl (k_L103 s0) rfl ?_
  refine zj_sipush (zdk ttX7_readLawLine 6 rfl rfl) (by decide) ?_
  refine zj_isub (zdk ttX7_readLawLine 7 rfl rfl) ?_
  refine zj_wrap ?_
  have b3 := zwp_in ((h.2 103 6) - 200)
  refine zj_iast (zdk ttX7_readLawLine 8 rfl rfl) (ka_3_0_0 s0 r_p1) (by decide) (by omega) (fun h4 e5 => ?_)
  refine zj_aload_n (zdk ttX7_readLawLine 9 rfl rfl) rfl (by decide) ?_
  have s6 : okC h4 := aw_3_0_0 s0 r_p1 e5 (by omega)
  refine zj_getr (r := 103) (zdk ttX7_readLawLine 10 rfl rfl) zf_RX7_9 rfl (k_L107 s6) (rf_L107_0 s6) ?_
  refine zj_callV (av := []) (st := []) (zdk ttX7_readLawLine 11 rfl rfl) mb_X6_pass mv_RX7_47 (ci := 6) rfl rfl (k_L103 s6) rfl rfl (Nat.le_of_ble_eq_true rfl) (s2_X6_pass l h4 s6) (rm_ok (by decide) (by decide)) (zq_v fun h9 q7 => ?_)
  obtain ⟨s11, f13, u12⟩ := q7
  refine zj_aload_n (zdk ttX7_readLawLine 12 rfl rfl) rfl (by omega) ?_
  refine zj_getr (r := (p1 + 2)) (zdk ttX7_readLawLine 13 rfl rfl) zf_RX7_50 rfl (k_3_0 s11 r_p1) (rf_3_0_1 s11 r_p1) ?_
  refine zj_iload_n (zdk ttX7_readLawLine 14 rfl rfl) rfl ?_
  refine zj_aload_n (zdk ttX7_readLawLine 15 rfl rfl) rfl (by omega) ?_
  have b14 : 0 ≤ (h.2 p1 7) ∧ (h.2 p1 7) ≤ 400 := fb_3_0_7 s0 r_p1
  refine zj_geti (v := (h.2 p1 7)) (zdk ttX7_readLawLine 16 rfl rfl) zf_RX7_29 rfl (k_3_0 s11 r_p1) ((zfC_a f13 (fun z9 => by unfold w_X6_pass at z9; first | (revert z9; decide) | omega)).trans (zwr_r e5 (by first | decide | exact (absurd ·.1 (by decide)) | exact (absurd ·.2 (by decide)) | omega))) ?_
  refine zj_iast (zdk ttX7_readLawLine 17 rfl rfl) (ka_3_0_1 s11 r_p1) (by decide) (by omega) (fun h15 e16 => ?_)
  refine zj_aload_n (zdk ttX7_readLawLine 18 rfl rfl) rfl (by decide) ?_
  refine zj_aload_n (zdk ttX7_readLawLine 19 rfl rfl) rfl (by omega) ?_
  have s17 : okC h15 := aw_3_0_1 s11 r_p1 e16 (by omega)
  refine zj_callV (av := [.inr p1]) (st := []) (zdk ttX7_readLawLine 20 rfl rfl) mb_X7_readSum mv_RX7_53 (ci := 7) rfl rfl (k_L107 s17) rfl rfl (Nat.le_of_ble_eq_true rfl) (s2_X7_readSum l h15 p1 s17 r_p1) (rm_ok (by decide) (by decide)) (zq_i fun v19 h20 q18 => ?_)
  obtain ⟨b21, s22, f24, u23⟩ := q18
  refine zj_if_ne (t := 44) (zdk ttX7_readLawLine 21 rfl rfl) (by decide) (by omega) (fun c25 => ?_) (fun c25 => ?_)
  · refine zj_aload_n (zdk ttX7_readLawLine 24 rfl rfl) rfl (by omega) ?_
    refine zj_getr (r := (p1 + 3)) (zdk ttX7_readLawLine 25 rfl rfl) zf_RX7_57 rfl (k_3_0 s22 r_p1) (rf_3_0_2 s22 r_p1) ?_
    refine zj_iload_n (zdk ttX7_readLawLine 26 rfl rfl) rfl ?_
    refine zj_aload_n (zdk ttX7_readLawLine 27 rfl rfl) rfl (by omega) ?_
    have b26 : 0 ≤ (h20.2 p1 7) ∧ (h20.2 p1 7) ≤ 400 := fb_3_0_7 s22 r_p1
    refine zj_geti (v := (h20.2 p1 7)) (zdk ttX7_readLawLine 28 rfl rfl) zf_RX7_29 rfl (k_3_0 s22 r_p1) rfl ?_
    refine zj_iast (zdk ttX7_readLawLine 29 rfl rfl) (ka_3_0_2 s22 r_p1) (by decide) (by omega) (fun h27 e28 => ?_)
    refine zj_aload_n (zdk ttX7_readLawLine 30 rfl rfl) rfl (by decide) ?_
    have s29 : okC h27 := aw_3_0_2 s22 r_p1 e28 (by omega)
    refine zj_getr (r := 103) (zdk ttX7_readLawLine 31 rfl rfl) zf_RX7_9 rfl (k_L107 s29) (rf_L107_0 s29) ?_
    refine zj_iconst (zdk ttX7_readLawLine 32 rfl rfl) ?_
    refine zj_iconst (zdk ttX7_readLawLine 33 rfl rfl) ?_
    refine zj_callV (av := [.inl 3, .inl 3]) (st := []) (zdk ttX7_readLawLine 34 rfl rfl) mb_X6_isWord mv_RX7_60 (ci := 6) rfl rfl (k_L103 s29) rfl rfl (Nat.le_of_ble_eq_true rfl) (s_X6_isWord l h27 3 3 s29 (by omega) (by omega)) (rm_ok (by decide) (by decide)) (zq_i fun v31 h32 q30 => ?_)
    obtain ⟨rfl, b34, ⟨rfl, b33⟩ | ⟨rfl, b33⟩⟩ := q30
    · refine zj_if_eq (t := 84) (zdk ttX7_readLawLine 35 rfl rfl) (by decide) (by decide) (fun c35 => ?_) (fun c35 => ?_)
      · refine zj_aload_n (zdk ttX7_readLawLine 46 rfl rfl) rfl (by omega) ?_
        refine zj_getr (r := (p1 + 4)) (zdk ttX7_readLawLine 47 rfl rfl) zf_RX7_67 rfl (k_3_0 s29 r_p1) (rf_3_0_3 s29 r_p1) ?_
        refine zj_iload_n (zdk ttX7_readLawLine 48 rfl rfl) rfl ?_
        refine zj_aload_n (zdk ttX7_readLawLine 49 rfl rfl) rfl (by omega) ?_
        refine zj_geti (v := (h20.2 p1 7)) (zdk ttX7_readLawLine 50 rfl rfl) zf_RX7_29 rfl (k_3_0 s29 r_p1) (zwr_r e28 (by first | decide | exact (absurd ·.1 (by decide)) | exact (absurd ·.2 (by decide)) | omega)) ?_
        refine zj_iast (zdk ttX7_readLawLine 51 rfl rfl) (ka_3_0_3 s29 r_p1) (by decide) (by omega) (fun h36 e37 => ?_)
        refine zj_aload_n (zdk ttX7_readLawLine 52 rfl rfl) rfl (by decide) ?_
        have s38 : okC h36 := aw_3_0_3 s29 r_p1 e37 (by omega)
        refine zj_getr (r := 103) (zdk ttX7_readLawLine 53 rfl rfl) zf_RX7_9 rfl (k_L107 s38) (rf_L107_0 s38) ?_
        refine zj_bipush (zdk ttX7_readLawLine 54 rfl rfl) (by decide) ?_
        refine zj_callV (av := [.inl 59]) (st := []) (zdk ttX7_readLawLine 55 rfl rfl) mb_X6_takes mv_RX7_70 (ci := 6) rfl rfl (k_L103 s38) rfl rfl (Nat.le_of_ble_eq_true rfl) (s2_X6_takes l h36 59 s38 (by omega)) (rm_ok (by decide) (by decide)) (zq_i fun v40 h41 q39 => ?_)
        obtain ⟨b42, s43, f45, u44⟩ := q39
        have f52 : zfC (w_X7_readLawLine p1) h h4 := zfC_w (zfC_r _ _) e5 (Or.inr (Or.inr (by omega)))
        have f51 : zfC (w_X7_readLawLine p1) h h9 := zfC_t f52 f13 (fun a9 b9 z9 => by
          exact (Or.inl (by omega)))
        have f50 : zfC (w_X7_readLawLine p1) h h15 := zfC_w f51 e16 (Or.inr (Or.inr (by omega)))
        have f49 : zfC (w_X7_readLawLine p1) h h20 := zfC_t f50 f24 (fun a9 b9 z9 => by
          rcases z9 with z9 | z9 | z9
          · exact (Or.inl z9)
          · exact (Or.inr (Or.inl (by omega)))
          · exact (Or.inr (Or.inr (by omega))))
        have f48 : zfC (w_X7_readLawLine p1) h h27 := zfC_w f49 e28 (Or.inr (Or.inr (by omega)))
        have f47 : zfC (w_X7_readLawLine p1) h h36 := zfC_w f48 e37 (Or.inr (Or.inr (by omega)))
        have f46 : zfC (w_X7_readLawLine p1) h h41 := zfC_t f47 f45 (fun a9 b9 z9 => by
          exact (Or.inl z9))
        have b53 : h4.2 103 6 = (h.2 103 6) := (zwr_r e5 (by first | decide | exact (absurd ·.1 (by decide)) | exact (absurd ·.2 (by decide)) | omega))
        have b54 : h15.2 103 6 = (h9.2 103 6) := (zwr_r e16 (by first | decide | exact (absurd ·.1 (by decide)) | exact (absurd ·.2 (by decide)) | omega))
        have b55 : h27.2 103 6 = (h20.2 103 6) := (zwr_r e28 (by first | decide | exact (absurd ·.1 (by decide)) | exact (absurd ·.2 (by decide)) | omega))
        have b56 : h36.2 103 6 = (h20.2 103 6) := ((zwr_r e37 (by first | decide | exact (absurd ·.1 (by decide)) | exact (absurd ·.2 (by decide)) | omega)).trans (zwr_r e28 (by first | decide | exact (absurd ·.1 (by decide)) | exact (absurd ·.2 (by decide)) | omega)))
        exact zj_zret rfl (zdk ttX7_readLawLine 56 rfl rfl) (Nat.le_refl _) (Nat.le_refl _) (by omega) ⟨v40, rfl, by omega, s43, f46, (by intro T P j t0 yh9; have k0 := t0.2.2.1.2; have l0 := t0.2.2.2.1; have a_1 : tPo T P j h4 := tPo_f t0 (fun i => (zwr_r e5 (by first | decide | exact (absurd ·.1 (by decide)) | exact (absurd ·.2 (by decide)) | omega))) (fun i => (zwr_r e5 (by first | decide | exact (absurd ·.1 (by decide)) | exact (absurd ·.2 (by decide)) | omega))) (zwr_r e5 (by first | decide | exact (absurd ·.1 (by decide)) | exact (absurd ·.2 (by decide)) | omega)) (zwr_r e5 (by first | decide | exact (absurd ·.1 (by decide)) | exact (absurd ·.2 (by decide)) | omega)) (zwr_r e5 (by first | decide | exact (absurd ·.1 (by decide)) | exact (absurd ·.2 (by decide)) | omega)) (zwr_r e5 (by first | decide | exact (absurd ·.1 (by decide)) | exact (absurd ·.2 (by decide)) | omega)) (zwr_r e5 (by first | decide | exact (absurd ·.1 (by decide)) | exact (absurd ·.2 (by decide)) | omega)); have k_2 := a_1.2.2.1.2; have k_2l := a_1.2.2.2.1; have a_3 : tPo T P (j + 1) h9 := u12 T P j a_1 (by omega); have a_4 : tPo T P (j + 1) h15 := tPo_f a_3 (fun i => (zwr_r e16 (by first | decide | exact (absurd ·.1 (by decide)) | exact (absurd ·.2 (by decide)) | omega))) (fun i => (zwr_r e16 (by first | decide | exact (absurd ·.1 (by decide)) | exact (absurd ·.2 (by decide)) | omega))) (zwr_r e16 (by first | decide | exact (absurd ·.1 (by decide)) | exact (absurd ·.2 (by decide)) | omega)) (zwr_r e16 (by first | decide | exact (absurd ·.1 (by decide)) | exact (absurd ·.2 (by decide)) | omega)) (zwr_r e16 (by first | decide | exact (absurd ·.1 (by decide)) | exact (absurd ·.2 (by decide)) | omega)) (zwr_r e16 (by first | decide | exact (absurd ·.1 (by decide)) | exact (absurd ·.2 (by decide)) | omega)) (zwr_r e16 (by first | decide | exact (absurd ·.1 (by decide)) | exact (absurd ·.2 (by decide)) | omega)); obtain ⟨r_5j, r_5a, r_5l, r_5r⟩ := (u23 T P (j + 1) a_4).1 (by omega); have k_6 := r_5a.2.2.1.2; have k_6l := r_5a.2.2.2.1; have a_7 : tPo T P r_5j h27 := tPo_f r_5a (fun i => (zwr_r e28 (by first | decide | exact (absurd ·.1 (by decide)) | exact (absurd ·.2 (by decide)) | omega))) (fun i => (zwr_r e28 (by first | decide | exact (absurd ·.1 (by decide)) | exact (absurd ·.2 (by decide)) | omega))) (zwr_r e28 (by first | decide | exact (absurd ·.1 (by decide)) | exact (absurd ·.2 (by decide)) | omega)) (zwr_r e28 (by first | decide | exact (absurd ·.1 (by decide)) | exact (absurd ·.2 (by decide)) | omega)) (zwr_r e28 (by first | decide | exact (absurd ·.1 (by decide)) | exact (absurd ·.2 (by decide)) | omega)) (zwr_r e28 (by first | decide | exact (absurd ·.1 (by decide)) | exact (absurd ·.2 (by decide)) | omega)) (zwr_r e28 (by first | decide | exact (absurd ·.1 (by decide)) | exact (absurd ·.2 (by decide)) | omega)); have a_8 : tPo T P r_5j h36 := tPo_f a_7 (fun i => (zwr_r e37 (by first | decide | exact (absurd ·.1 (by decide)) | exact (absurd ·.2 (by decide)) | omega))) (fun i => (zwr_r e37 (by first | decide | exact (absurd ·.1 (by decide)) | exact (absurd ·.2 (by decide)) | omega))) (zwr_r e37 (by first | decide | exact (absurd ·.1 (by decide)) | exact (absurd ·.2 (by decide)) | omega)) (zwr_r e37 (by first | decide | exact (absurd ·.1 (by decide)) | exact (absurd ·.2 (by decide)) | omega)) (zwr_r e37 (by first | decide | exact (absurd ·.1 (by decide)) | exact (absurd ·.2 (by decide)) | omega)) (zwr_r e37 (by first | decide | exact (absurd ·.1 (by decide)) | exact (absurd ·.2 (by decide)) | omega)) (zwr_r e37 (by first | decide | exact (absurd ·.1 (by decide)) | exact (absurd ·.2 (by decide)) | omega)); have e_9 := u44 T P r_5j a_8; exact ⟨fun z => ⟨(r_5j + 1), (e_9.1 z).2 (by omega), by omega, fun p9 s9 => tRe_s (show tRe T p9 (2, j, p2, s9) (10, r_5j, p2, []) from by have z9 : tRe T p9 (2, j, p2, s9) (10, r_5j, p2 + 1000 - 1000, []) := tRe_s (tRe_t (tRe_1 (tM2_l yh9 (by omega))) (r_5r p9 [100, p2 + 1000])) (tM5_v (by omega)); rw [show p2 + 1000 - 1000 = p2 by omega] at z9; exact z9) (tM10_y (e_9.1 z).1)⟩, fun z => ⟨r_5j, _, (e_9.2 z).2, fun p9 s9 => tRe_s (show tRe T p9 (2, j, p2, s9) (10, r_5j, p2, []) from by have z9 : tRe T p9 (2, j, p2, s9) (10, r_5j, p2 + 1000 - 1000, []) := tRe_s (tRe_t (tRe_1 (tM2_l yh9 (by omega))) (r_5r p9 [100, p2 + 1000])) (tM5_v (by omega)); rw [show p2 + 1000 - 1000 = p2 by omega] at z9; exact z9) (tM10_n (e_9.2 z).1)⟩⟩)⟩
      · exact absurd c35 (by omega)
    · refine zj_if_eq (t := 84) (zdk ttX7_readLawLine 35 rfl rfl) (by decide) (by decide) (fun c57 => ?_) (fun c57 => ?_)
      · exact absurd c57 (by omega)
      · refine zj_aload_n (zdk ttX7_readLawLine 36 rfl rfl) rfl (by decide) ?_
        refine zj_getr (r := 103) (zdk ttX7_readLawLine 37 rfl rfl) zf_RX7_9 rfl (k_L107 s29) (rf_L107_0 s29) ?_
        refine zj_callV (av := []) (st := []) (zdk ttX7_readLawLine 38 rfl rfl) mb_X6_pass mv_RX7_47 (ci := 6) rfl rfl (k_L103 s29) rfl rfl (Nat.le_of_ble_eq_true rfl) (s2_X6_pass l h27 s29) (rm_ok (by decide) (by decide)) (zq_v fun h60 q58 => ?_)
        obtain ⟨s62, f64, u63⟩ := q58
        refine zj_aload_n (zdk ttX7_readLawLine 39 rfl rfl) rfl (by decide) ?_
        refine zj_aload_n (zdk ttX7_readLawLine 40 rfl rfl) rfl (by omega) ?_
        refine zj_iconst (zdk ttX7_readLawLine 41 rfl rfl) ?_
        refine zj_callV (av := [.inr p1, .inl 0]) (st := []) (zdk ttX7_readLawLine 42 rfl rfl) mb_X7_readChoice mv_RX7_64 (ci := 7) rfl rfl (k_L107 s62) rfl rfl (Nat.le_of_ble_eq_true rfl) ((s2_X7_readSingle_and_X7_readChoice l 10).2 h60 p1 0 s62 r_p1 (by omega) (by omega)) (rm_ok (by decide) (by decide)) (zq_i fun v66 h67 q65 => ?_)
        obtain ⟨b68, s69, f71, u70⟩ := q65
        refine zj_if_ne (t := 84) (zdk ttX7_readLawLine 43 rfl rfl) (by decide) (by omega) (fun c72 => ?_) (fun c72 => ?_)
        · refine zj_aload_n (zdk ttX7_readLawLine 46 rfl rfl) rfl (by omega) ?_
          refine zj_getr (r := (p1 + 4)) (zdk ttX7_readLawLine 47 rfl rfl) zf_RX7_67 rfl (k_3_0 s69 r_p1) (rf_3_0_3 s69 r_p1) ?_
          refine zj_iload_n (zdk ttX7_readLawLine 48 rfl rfl) rfl ?_
          refine zj_aload_n (zdk ttX7_readLawLine 49 rfl rfl) rfl (by omega) ?_
          have b73 : 0 ≤ (h67.2 p1 7) ∧ (h67.2 p1 7) ≤ 400 := fb_3_0_7 s69 r_p1
          refine zj_geti (v := (h67.2 p1 7)) (zdk ttX7_readLawLine 50 rfl rfl) zf_RX7_29 rfl (k_3_0 s69 r_p1) rfl ?_
          refine zj_iast (zdk ttX7_readLawLine 51 rfl rfl) (ka_3_0_3 s69 r_p1) (by decide) (by omega) (fun h74 e75 => ?_)
          refine zj_aload_n (zdk ttX7_readLawLine 52 rfl rfl) rfl (by decide) ?_
          have s76 : okC h74 := aw_3_0_3 s69 r_p1 e75 (by omega)
          refine zj_getr (r := 103) (zdk ttX7_readLawLine 53 rfl rfl) zf_RX7_9 rfl (k_L107 s76) (rf_L107_0 s76) ?_
          refine zj_bipush (zdk ttX7_readLawLine 54 rfl rfl) (by decide) ?_
          refine zj_callV (av := [.inl 59]) (st := []) (zdk ttX7_readLawLine 55 rfl rfl) mb_X6_takes mv_RX7_70 (ci := 6) rfl rfl (k_L103 s76) rfl rfl (Nat.le_of_ble_eq_true rfl) (s2_X6_takes l h74 59 s76 (by omega)) (rm_ok (by decide) (by decide)) (zq_i fun v78 h79 q77 => ?_)
          obtain ⟨b80, s81, f83, u82⟩ := q77
          have f92 : zfC (w_X7_readLawLine p1) h h4 := zfC_w (zfC_r _ _) e5 (Or.inr (Or.inr (by omega)))
          have f91 : zfC (w_X7_readLawLine p1) h h9 := zfC_t f92 f13 (fun a9 b9 z9 => by
            exact (Or.inl (by omega)))
          have f90 : zfC (w_X7_readLawLine p1) h h15 := zfC_w f91 e16 (Or.inr (Or.inr (by omega)))
          have f89 : zfC (w_X7_readLawLine p1) h h20 := zfC_t f90 f24 (fun a9 b9 z9 => by
            rcases z9 with z9 | z9 | z9
            · exact (Or.inl z9)
            · exact (Or.inr (Or.inl (by omega)))
            · exact (Or.inr (Or.inr (by omega))))
          have f88 : zfC (w_X7_readLawLine p1) h h27 := zfC_w f89 e28 (Or.inr (Or.inr (by omega)))
          have f87 : zfC (w_X7_readLawLine p1) h h60 := zfC_t f88 f64 (fun a9 b9 z9 => by
            exact (Or.inl (by omega)))
          have f86 : zfC (w_X7_readLawLine p1) h h67 := zfC_t f87 f71 (fun a9 b9 z9 => by
            rcases z9 with z9 | z9 | z9
            · exact (Or.inl z9)
            · exact (Or.inr (Or.inl (by omega)))
            · exact (Or.inr (Or.inr (by omega))))
          have f85 : zfC (w_X7_readLawLine p1) h h74 := zfC_w f86 e75 (Or.inr (Or.inr (by omega)))
          have f84 : zfC (w_X7_readLawLine p1) h h79 := zfC_t f85 f83 (fun a9 b9 z9 => by
            exact (Or.inl z9))
          have b93 : h4.2 103 6 = (h.2 103 6) := (zwr_r e5 (by first | decide | exact (absurd ·.1 (by decide)) | exact (absurd ·.2 (by decide)) | omega))
          have b94 : h15.2 103 6 = (h9.2 103 6) := (zwr_r e16 (by first | decide | exact (absurd ·.1 (by decide)) | exact (absurd ·.2 (by decide)) | omega))
          have b95 : h27.2 103 6 = (h20.2 103 6) := (zwr_r e28 (by first | decide | exact (absurd ·.1 (by decide)) | exact (absurd ·.2 (by decide)) | omega))
          have b96 : h74.2 103 6 = (h67.2 103 6) := (zwr_r e75 (by first | decide | exact (absurd ·.1 (by decide)) | exact (absurd ·.2 (by decide)) | omega))
          exact zj_zret rfl (zdk ttX7_readLawLine 56 rfl rfl) (Nat.le_refl _) (Nat.le_refl _) (by omega) ⟨v78, rfl, by omega, s81, f84, (by intro T P j t0 yh9; have k0 := t0.2.2.1.2; have l0 := t0.2.2.2.1; have a_1 : tPo T P j h4 := tPo_f t0 (fun i => (zwr_r e5 (by first | decide | exact (absurd ·.1 (by decide)) | exact (absurd ·.2 (by decide)) | omega))) (fun i => (zwr_r e5 (by first | decide | exact (absurd ·.1 (by decide)) | exact (absurd ·.2 (by decide)) | omega))) (zwr_r e5 (by first | decide | exact (absurd ·.1 (by decide)) | exact (absurd ·.2 (by decide)) | omega)) (zwr_r e5 (by first | decide | exact (absurd ·.1 (by decide)) | exact (absurd ·.2 (by decide)) | omega)) (zwr_r e5 (by first | decide | exact (absurd ·.1 (by decide)) | exact (absurd ·.2 (by decide)) | omega)) (zwr_r e5 (by first | decide | exact (absurd ·.1 (by decide)) | exact (absurd ·.2 (by decide)) | omega)) (zwr_r e5 (by first | decide | exact (absurd ·.1 (by decide)) | exact (absurd ·.2 (by decide)) | omega)); have k_2 := a_1.2.2.1.2; have k_2l := a_1.2.2.2.1; have a_3 : tPo T P (j + 1) h9 := u12 T P j a_1 (by omega); have a_4 : tPo T P (j + 1) h15 := tPo_f a_3 (fun i => (zwr_r e16 (by first | decide | exact (absurd ·.1 (by decide)) | exact (absurd ·.2 (by decide)) | omega))) (fun i => (zwr_r e16 (by first | decide | exact (absurd ·.1 (by decide)) | exact (absurd ·.2 (by decide)) | omega))) (zwr_r e16 (by first | decide | exact (absurd ·.1 (by decide)) | exact (absurd ·.2 (by decide)) | omega)) (zwr_r e16 (by first | decide | exact (absurd ·.1 (by decide)) | exact (absurd ·.2 (by decide)) | omega)) (zwr_r e16 (by first | decide | exact (absurd ·.1 (by decide)) | exact (absurd ·.2 (by decide)) | omega)) (zwr_r e16 (by first | decide | exact (absurd ·.1 (by decide)) | exact (absurd ·.2 (by decide)) | omega)) (zwr_r e16 (by first | decide | exact (absurd ·.1 (by decide)) | exact (absurd ·.2 (by decide)) | omega)); obtain ⟨r_5j, r_5a, r_5l, r_5r⟩ := (u23 T P (j + 1) a_4).1 (by omega); have k_6 := r_5a.2.2.1.2; have k_6l := r_5a.2.2.2.1; have a_7 : tPo T P r_5j h27 := tPo_f r_5a (fun i => (zwr_r e28 (by first | decide | exact (absurd ·.1 (by decide)) | exact (absurd ·.2 (by decide)) | omega))) (fun i => (zwr_r e28 (by first | decide | exact (absurd ·.1 (by decide)) | exact (absurd ·.2 (by decide)) | omega))) (zwr_r e28 (by first | decide | exact (absurd ·.1 (by decide)) | exact (absurd ·.2 (by decide)) | omega)) (zwr_r e28 (by first | decide | exact (absurd ·.1 (by decide)) | exact (absurd ·.2 (by decide)) | omega)) (zwr_r e28 (by first | decide | exact (absurd ·.1 (by decide)) | exact (absurd ·.2 (by decide)) | omega)) (zwr_r e28 (by first | decide | exact (absurd ·.1 (by decide)) | exact (absurd ·.2 (by decide)) | omega)) (zwr_r e28 (by first | decide | exact (absurd ·.1 (by decide)) | exact (absurd ·.2 (by decide)) | omega)); have k_8 := a_7.2.2.1.2; have k_8l := a_7.2.2.2.1; have a_9 : tPo T P (r_5j + 1) h60 := u63 T P r_5j a_7 (by omega); obtain ⟨r_10j, r_10a, r_10l, r_10r⟩ := (u70 T P (r_5j + 1) a_9).1 (by omega); have a_11 : tPo T P r_10j h74 := tPo_f r_10a (fun i => (zwr_r e75 (by first | decide | exact (absurd ·.1 (by decide)) | exact (absurd ·.2 (by decide)) | omega))) (fun i => (zwr_r e75 (by first | decide | exact (absurd ·.1 (by decide)) | exact (absurd ·.2 (by decide)) | omega))) (zwr_r e75 (by first | decide | exact (absurd ·.1 (by decide)) | exact (absurd ·.2 (by decide)) | omega)) (zwr_r e75 (by first | decide | exact (absurd ·.1 (by decide)) | exact (absurd ·.2 (by decide)) | omega)) (zwr_r e75 (by first | decide | exact (absurd ·.1 (by decide)) | exact (absurd ·.2 (by decide)) | omega)) (zwr_r e75 (by first | decide | exact (absurd ·.1 (by decide)) | exact (absurd ·.2 (by decide)) | omega)) (zwr_r e75 (by first | decide | exact (absurd ·.1 (by decide)) | exact (absurd ·.2 (by decide)) | omega)); have e_12 := u82 T P r_10j a_11; exact ⟨fun z => ⟨(r_10j + 1), (e_12.1 z).2 (by omega), by omega, fun p9 s9 => tRe_s (show tRe T p9 (2, j, p2, s9) (10, r_10j, p2, []) from by have z9 : tRe T p9 (2, j, p2, s9) (10, r_10j, p2 + 1000 - 1000, []) := tRe_s (tRe_t (tRe_s (tRe_t (tRe_1 (tM2_l yh9 (by omega))) (r_5r p9 [100, p2 + 1000])) (tM5_w (by omega))) (r_10r p9 [90, p2 + 1000] (tOpn_90 (by omega)) (Or.inl rfl))) tM12_z; rw [show p2 + 1000 - 1000 = p2 by omega] at z9; exact z9) (tM10_y (e_12.1 z).1)⟩, fun z => ⟨r_10j, _, (e_12.2 z).2, fun p9 s9 => tRe_s (show tRe T p9 (2, j, p2, s9) (10, r_10j, p2, []) from by have z9 : tRe T p9 (2, j, p2, s9) (10, r_10j, p2 + 1000 - 1000, []) := tRe_s (tRe_t (tRe_s (tRe_t (tRe_1 (tM2_l yh9 (by omega))) (r_5r p9 [100, p2 + 1000])) (tM5_w (by omega))) (r_10r p9 [90, p2 + 1000] (tOpn_90 (by omega)) (Or.inl rfl))) tM12_z; rw [show p2 + 1000 - 1000 = p2 by omega] at z9; exact z9) (tM10_n (e_12.2 z).1)⟩⟩)⟩
        · refine zj_iconst (zdk ttX7_readLawLine 44 rfl rfl) ?_
          have f103 : zfC (w_X7_readLawLine p1) h h4 := zfC_w (zfC_r _ _) e5 (Or.inr (Or.inr (by omega)))
          have f102 : zfC (w_X7_readLawLine p1) h h9 := zfC_t f103 f13 (fun a9 b9 z9 => by
            exact (Or.inl (by omega)))
          have f101 : zfC (w_X7_readLawLine p1) h h15 := zfC_w f102 e16 (Or.inr (Or.inr (by omega)))
          have f100 : zfC (w_X7_readLawLine p1) h h20 := zfC_t f101 f24 (fun a9 b9 z9 => by
            rcases z9 with z9 | z9 | z9
            · exact (Or.inl z9)
            · exact (Or.inr (Or.inl (by omega)))
            · exact (Or.inr (Or.inr (by omega))))
          have f99 : zfC (w_X7_readLawLine p1) h h27 := zfC_w f100 e28 (Or.inr (Or.inr (by omega)))
          have f98 : zfC (w_X7_readLawLine p1) h h60 := zfC_t f99 f64 (fun a9 b9 z9 => by
            exact (Or.inl (by omega)))
          have f97 : zfC (w_X7_readLawLine p1) h h67 := zfC_t f98 f71 (fun a9 b9 z9 => by
            rcases z9 with z9 | z9 | z9
            · exact (Or.inl z9)
            · exact (Or.inr (Or.inl (by omega)))
            · exact (Or.inr (Or.inr (by omega))))
          have b104 : h4.2 103 6 = (h.2 103 6) := (zwr_r e5 (by first | decide | exact (absurd ·.1 (by decide)) | exact (absurd ·.2 (by decide)) | omega))
          have b105 : h15.2 103 6 = (h9.2 103 6) := (zwr_r e16 (by first | decide | exact (absurd ·.1 (by decide)) | exact (absurd ·.2 (by decide)) | omega))
          have b106 : h27.2 103 6 = (h20.2 103 6) := (zwr_r e28 (by first | decide | exact (absurd ·.1 (by decide)) | exact (absurd ·.2 (by decide)) | omega))
          exact zj_zret rfl (zdk ttX7_readLawLine 45 rfl rfl) (Nat.le_refl _) (Nat.le_refl _) (by omega) ⟨0, rfl, by omega, s69, f97, (by intro T P j t0 yh9; have k0 := t0.2.2.1.2; have l0 := t0.2.2.2.1; have a_1 : tPo T P j h4 := tPo_f t0 (fun i => (zwr_r e5 (by first | decide | exact (absurd ·.1 (by decide)) | exact (absurd ·.2 (by decide)) | omega))) (fun i => (zwr_r e5 (by first | decide | exact (absurd ·.1 (by decide)) | exact (absurd ·.2 (by decide)) | omega))) (zwr_r e5 (by first | decide | exact (absurd ·.1 (by decide)) | exact (absurd ·.2 (by decide)) | omega)) (zwr_r e5 (by first | decide | exact (absurd ·.1 (by decide)) | exact (absurd ·.2 (by decide)) | omega)) (zwr_r e5 (by first | decide | exact (absurd ·.1 (by decide)) | exact (absurd ·.2 (by decide)) | omega)) (zwr_r e5 (by first | decide | exact (absurd ·.1 (by decide)) | exact (absurd ·.2 (by decide)) | omega)) (zwr_r e5 (by first | decide | exact (absurd ·.1 (by decide)) | exact (absurd ·.2 (by decide)) | omega)); have k_2 := a_1.2.2.1.2; have k_2l := a_1.2.2.2.1; have a_3 : tPo T P (j + 1) h9 := u12 T P j a_1 (by omega); have a_4 : tPo T P (j + 1) h15 := tPo_f a_3 (fun i => (zwr_r e16 (by first | decide | exact (absurd ·.1 (by decide)) | exact (absurd ·.2 (by decide)) | omega))) (fun i => (zwr_r e16 (by first | decide | exact (absurd ·.1 (by decide)) | exact (absurd ·.2 (by decide)) | omega))) (zwr_r e16 (by first | decide | exact (absurd ·.1 (by decide)) | exact (absurd ·.2 (by decide)) | omega)) (zwr_r e16 (by first | decide | exact (absurd ·.1 (by decide)) | exact (absurd ·.2 (by decide)) | omega)) (zwr_r e16 (by first | decide | exact (absurd ·.1 (by decide)) | exact (absurd ·.2 (by decide)) | omega)) (zwr_r e16 (by first | decide | exact (absurd ·.1 (by decide)) | exact (absurd ·.2 (by decide)) | omega)) (zwr_r e16 (by first | decide | exact (absurd ·.1 (by decide)) | exact (absurd ·.2 (by decide)) | omega)); obtain ⟨r_5j, r_5a, r_5l, r_5r⟩ := (u23 T P (j + 1) a_4).1 (by omega); have k_6 := r_5a.2.2.1.2; have k_6l := r_5a.2.2.2.1; have a_7 : tPo T P r_5j h27 := tPo_f r_5a (fun i => (zwr_r e28 (by first | decide | exact (absurd ·.1 (by decide)) | exact (absurd ·.2 (by decide)) | omega))) (fun i => (zwr_r e28 (by first | decide | exact (absurd ·.1 (by decide)) | exact (absurd ·.2 (by decide)) | omega))) (zwr_r e28 (by first | decide | exact (absurd ·.1 (by decide)) | exact (absurd ·.2 (by decide)) | omega)) (zwr_r e28 (by first | decide | exact (absurd ·.1 (by decide)) | exact (absurd ·.2 (by decide)) | omega)) (zwr_r e28 (by first | decide | exact (absurd ·.1 (by decide)) | exact (absurd ·.2 (by decide)) | omega)) (zwr_r e28 (by first | decide | exact (absurd ·.1 (by decide)) | exact (absurd ·.2 (by decide)) | omega)) (zwr_r e28 (by first | decide | exact (absurd ·.1 (by decide)) | exact (absurd ·.2 (by decide)) | omega)); have k_8 := a_7.2.2.1.2; have k_8l := a_7.2.2.2.1; have a_9 : tPo T P (r_5j + 1) h60 := u63 T P r_5j a_7 (by omega); obtain ⟨e_10i, e_10f, e_10q, e_10r⟩ := (u70 T P (r_5j + 1) a_9).2 (by omega); exact ⟨fun z => absurd z (by omega), fun _ => ⟨e_10i, e_10f, e_10q, fun p9 s9 => tRe_t (tRe_s (tRe_t (tRe_1 (tM2_l yh9 (by omega))) (r_5r p9 [100, p2 + 1000])) (tM5_w (by omega))) (e_10r p9 [90, p2 + 1000] (tOpn_90 (by omega)) (Or.inl rfl))⟩⟩)⟩
  · refine zj_iconst (zdk ttX7_readLawLine 22 rfl rfl) ?_
    have f110 : zfC (w_X7_readLawLine p1) h h4 := zfC_w (zfC_r _ _) e5 (Or.inr (Or.inr (by omega)))
    have f109 : zfC (w_X7_readLawLine p1) h h9 := zfC_t f110 f13 (fun a9 b9 z9 => by
      exact (Or.inl (by omega)))
    have f108 : zfC (w_X7_readLawLine p1) h h15 := zfC_w f109 e16 (Or.inr (Or.inr (by omega)))
    have f107 : zfC (w_X7_readLawLine p1) h h20 := zfC_t f108 f24 (fun a9 b9 z9 => by
      rcases z9 with z9 | z9 | z9
      · exact (Or.inl z9)
      · exact (Or.inr (Or.inl (by omega)))
      · exact (Or.inr (Or.inr (by omega))))
    have b111 : h4.2 103 6 = (h.2 103 6) := (zwr_r e5 (by first | decide | exact (absurd ·.1 (by decide)) | exact (absurd ·.2 (by decide)) | omega))
    have b112 : h15.2 103 6 = (h9.2 103 6) := (zwr_r e16 (by first | decide | exact (absurd ·.1 (by decide)) | exact (absurd ·.2 (by decide)) | omega))
    exact zj_zret rfl (zdk ttX7_readLawLine 23 rfl rfl) (Nat.le_refl _) (Nat.le_refl _) (by omega) ⟨0, rfl, by omega, s22, f107, (by intro T P j t0 yh9; have k0 := t0.2.2.1.2; have l0 := t0.2.2.2.1; have a_1 : tPo T P j h4 := tPo_f t0 (fun i => (zwr_r e5 (by first | decide | exact (absurd ·.1 (by decide)) | exact (absurd ·.2 (by decide)) | omega))) (fun i => (zwr_r e5 (by first | decide | exact (absurd ·.1 (by decide)) | exact (absurd ·.2 (by decide)) | omega))) (zwr_r e5 (by first | decide | exact (absurd ·.1 (by decide)) | exact (absurd ·.2 (by decide)) | omega)) (zwr_r e5 (by first | decide | exact (absurd ·.1 (by decide)) | exact (absurd ·.2 (by decide)) | omega)) (zwr_r e5 (by first | decide | exact (absurd ·.1 (by decide)) | exact (absurd ·.2 (by decide)) | omega)) (zwr_r e5 (by first | decide | exact (absurd ·.1 (by decide)) | exact (absurd ·.2 (by decide)) | omega)) (zwr_r e5 (by first | decide | exact (absurd ·.1 (by decide)) | exact (absurd ·.2 (by decide)) | omega)); have k_2 := a_1.2.2.1.2; have k_2l := a_1.2.2.2.1; have a_3 : tPo T P (j + 1) h9 := u12 T P j a_1 (by omega); have a_4 : tPo T P (j + 1) h15 := tPo_f a_3 (fun i => (zwr_r e16 (by first | decide | exact (absurd ·.1 (by decide)) | exact (absurd ·.2 (by decide)) | omega))) (fun i => (zwr_r e16 (by first | decide | exact (absurd ·.1 (by decide)) | exact (absurd ·.2 (by decide)) | omega))) (zwr_r e16 (by first | decide | exact (absurd ·.1 (by decide)) | exact (absurd ·.2 (by decide)) | omega)) (zwr_r e16 (by first | decide | exact (absurd ·.1 (by decide)) | exact (absurd ·.2 (by decide)) | omega)) (zwr_r e16 (by first | decide | exact (absurd ·.1 (by decide)) | exact (absurd ·.2 (by decide)) | omega)) (zwr_r e16 (by first | decide | exact (absurd ·.1 (by decide)) | exact (absurd ·.2 (by decide)) | omega)) (zwr_r e16 (by first | decide | exact (absurd ·.1 (by decide)) | exact (absurd ·.2 (by decide)) | omega)); obtain ⟨e_5i, e_5f, e_5q, e_5r⟩ := (u23 T P (j + 1) a_4).2 (by omega); exact ⟨fun z => absurd z (by omega), fun _ => ⟨e_5i, e_5f, e_5q, fun p9 s9 => tRe_t (tRe_1 (tM2_l yh9 (by omega))) (e_5r p9 [100, p2 + 1000])⟩⟩)⟩

abbrev q2_X7_readLaw (h : zM) (p1 : Int) : Option zV → zM → Prop := zqi fun v h' => (0 ≤ v ∧ v ≤ 1) ∧ okC h' ∧ zfC (w_X7_readLaw p1) h h' ∧ (h.2 103 7 = 0 → h.2 103 8 = -1 → ∃ T P c9, tCk 0 (h.2 104) (h.2 103 3) T P c9 ∧ (v = 1 → (h'.2 103 7 = 0 ∧ h'.2 103 8 = -1) ∧ ∃ j9, tRe T 0 (2, 0, 0, []) (1, j9, (h'.2 p1 6), [])) ∧ (v = 0 → ∃ i9 f9, (h'.2 103 7 = f9 ∧ h'.2 103 8 = P i9) ∧ tRe T 0 (2, 0, 0, []) (tEr i9 f9)))
set_option maxRecDepth 100000 in
set_option maxHeartbeats 4000000 in
theorem s2_X7_readLaw (l : Launch) (h : zM) (p1 : Int) (s0 : okC h) (r_p1 : zLw p1) : zT shC l yX7_readLaw cX7_readLaw 3 (some .boolean) (rmL 32) 0 0 [.inr 107, .inr p1] h (q2_X7_readLaw h p1) := by
  refine zT_of (by decide +kernel) (L0 := [some (.inr 107), some (.inr p1), none]) rfl (Nat.le_of_ble_eq_true rfl) ?_
  have b1 := zLw_b r_p1
  refine zj_aload_n (zdk ttX7_readLaw 0 rfl rfl) rfl (by decide) ?_
  refine zj_getr (r := 103) (zdk ttX7_readLaw 1 rfl rfl) zf_RX7_9 rfl (k_L107 s0) (rf_L107_0 s0) ?_
  refine zj_ldcS (i := 0) (zdk ttX7_readLaw 2 rfl rfl) (List.mem_of_getElem? (i := 0) rfl) ?_
  refine zj_callV (av := [.inr (-2 - ((0 : Nat) : Int))]) (st := []) (zdk ttX7_readLaw 3 rfl rfl) mb_X6_cut mv_RX7_19 (ci := 6) rfl rfl (k_L103 s0) rfl rfl (Nat.le_of_ble_eq_true rfl) (s2_X6_cut l h 0 s0 (show 0 < 5 by decide)) (rm_ok (by decide) (by decide)) (zq_v fun h4 q2 => ?_)
  obtain ⟨s6, f10, u7, u8, u9⟩ := q2
  refine zj_aload_n (zdk ttX7_readLaw 4 rfl rfl) rfl (by omega) ?_
  refine zj_iconst (zdk ttX7_readLaw 5 rfl rfl) ?_
  refine zj_puti (zdk ttX7_readLaw 6 rfl rfl) zf_RX7_25 rfl (k_3_0 s6 r_p1) (Or.inl zw_RX7_25) (k2 := 6) rfl (fun h11 e12 => ?_)
  refine zj_aload_n (zdk ttX7_readLaw 7 rfl rfl) rfl (by omega) ?_
  refine zj_iconst (zdk ttX7_readLaw 8 rfl rfl) ?_
  have s13 : okC h11 := fw_3_0_6 s6 r_p1 e12 (by omega)
  refine zj_puti (zdk ttX7_readLaw 9 rfl rfl) zf_RX7_29 rfl (k_3_0 s13 r_p1) (Or.inl zw_RX7_29) (k2 := 7) rfl (fun h14 e15 => ?_)
  refine zj_iconst (zdk ttX7_readLaw 10 rfl rfl) ?_
  refine zj_istore_n (L' := [some (.inr 107), some (.inr p1), some (.inl 0)]) (zdk ttX7_readLaw 11 rfl rfl) (by decide) rfl ?_
  have lp42 : ∀ (n : Nat) (x16 : Int) (h17 : zM), (0 ≤ x16 ∧ x16 ≤ 16) → okC h17 → zfC (w_X7_readLaw p1) h h17 → (h.2 103 7 = 0 → h.2 103 8 = -1 → ∃ j9, tPo (h4.2 105) (h4.2 106) j9 h17 ∧ tRe (h4.2 105) 0 (2, 0, 0, []) (2, j9, x16, [])) → (h17.2 p1 6 = x16) → (17 - x16).toNat < n → zJ shC l yX7_readLaw cX7_readLaw 3 (some .boolean) (rmL 32) 0 0 (q2_X7_readLaw h p1) 0 0 21 [some (.inr 107), some (.inr p1), some (.inl x16)] [] h17 := by
    intro n
    induction n with
    | zero => intro x16 h17 b43 s18 f19 u44 u45 m46; exact absurd m46 (Nat.not_lt_zero _)
    | succ n ih47 =>
      intro x16 h17 b43 s18 f19 u44 u45 m46
      refine zj_iload_n (zdk ttX7_readLaw 12 rfl rfl) rfl ?_
      refine zj_bipush (zdk ttX7_readLaw 13 rfl rfl) (by decide) ?_
      refine zj_icmp_gt (t := 74) (zdk ttX7_readLaw 14 rfl rfl) (by decide) (by omega) (by decide) (fun c48 => ?_) (fun c48 => ?_)
      · exact absurd c48 (by omega)
      · refine zj_aload_n (zdk ttX7_readLaw 15 rfl rfl) rfl (by decide) ?_
        refine zj_getr (r := 103) (zdk ttX7_readLaw 16 rfl rfl) zf_RX7_9 rfl (k_L107 s18) (rf_L107_0 s18) ?_
        have b49 : -2147483648 ≤ (h17.2 103 6) ∧ (h17.2 103 6) ≤ 2147483647 := fb_L103_6 s18
        refine zj_geti (v := (h17.2 103 6)) (zdk ttX7_readLaw 17 rfl rfl) zf_RX7_32 rfl (k_L103 s18) rfl ?_
        refine zj_if_eq (t := 74) (zdk ttX7_readLaw 18 rfl rfl) (by decide) (by omega) (fun c50 => ?_) (fun c50 => ?_)
        · refine zj_iconst (zdk ttX7_readLaw 40 rfl rfl) ?_
          exact zj_zret rfl (zdk ttX7_readLaw 41 rfl rfl) (Nat.le_refl _) (Nat.le_refl _) (by omega) ⟨1, rfl, by omega, s18, f19, (by intro y7 y8; obtain ⟨j, t0, r0⟩ := u44 y7 y8; have k0 := t0.2.2.1.2; have l0 := t0.2.2.2.1; exact ⟨(h4.2 105), (h4.2 106), _, u9, fun _ => ⟨t0.2.2.2.2.2.2, j, by have z9 := tRe_s r0 (tM2_e (by omega)); rw [show x16 = h17.2 p1 6 by omega] at z9; exact z9⟩, fun z => absurd z (by omega)⟩)⟩
        · refine zj_aload_n (zdk ttX7_readLaw 19 rfl rfl) rfl (by decide) ?_
          refine zj_getr (r := 103) (zdk ttX7_readLaw 20 rfl rfl) zf_RX7_9 rfl (k_L107 s18) (rf_L107_0 s18) ?_
          refine zj_iload_n (zdk ttX7_readLaw 21 rfl rfl) rfl ?_
          refine zj_iconst (zdk ttX7_readLaw 22 rfl rfl) ?_
          refine zj_iconst (zdk ttX7_readLaw 23 rfl rfl) ?_
          refine zj_callV (av := [.inl x16, .inl 0, .inl 2]) (st := []) (zdk ttX7_readLaw 24 rfl rfl) mb_X6_opensLine mv_RX7_35 (ci := 6) rfl rfl (k_L103 s18) rfl rfl (Nat.le_of_ble_eq_true rfl) (s2_X6_opensLine l h17 x16 0 2 s18 (by omega) (by omega) (by omega)) (rm_ok (by decide) (by decide)) (zq_i fun v52 h53 q51 => ?_)
          obtain ⟨b54, s55, f58, u56, u57⟩ := q51
          refine zj_if_eq (t := 59) (zdk ttX7_readLaw 25 rfl rfl) (by decide) (by omega) (fun c59 => ?_) (fun c59 => ?_)
          · refine zj_iconst (zdk ttX7_readLaw 31 rfl rfl) ?_
            have f60 : zfC (w_X7_readLaw p1) h h53 := zfC_t f19 f58 (fun a9 b9 z9 => by
              exact (Or.inl (by omega)))
            have b61 : h53.2 103 6 = (h17.2 103 6) := (zfC_a f58 (fun z9 => by unfold w_X6_opensLine at z9; first | (revert z9; decide) | omega))
            exact zj_zret rfl (zdk ttX7_readLaw 32 rfl rfl) (Nat.le_refl _) (Nat.le_refl _) (by omega) ⟨0, rfl, by omega, s55, f60, (by intro y7 y8; obtain ⟨j, t0, r0⟩ := u44 y7 y8; have k0 := t0.2.2.1.2; have l0 := t0.2.2.2.1; have e_1 := (u56 (h4.2 105) (h4.2 106) j t0).2 (by omega); exact ⟨(h4.2 105), (h4.2 106), _, u9, fun z => absurd z (by omega), fun _ => by rcases e_1 with ⟨q1, ⟨q2, q3⟩ | ⟨q2, q3, q4⟩⟩; exact ⟨j, _, ⟨q3, q1⟩, tRe_s r0 (tM2_1 (by omega) q2)⟩; exact ⟨j, _, ⟨q4, q1⟩, tRe_s r0 (tM2_3 q2 (by omega))⟩⟩)⟩
          · refine zj_aload_n (zdk ttX7_readLaw 26 rfl rfl) rfl (by decide) ?_
            refine zj_aload_n (zdk ttX7_readLaw 27 rfl rfl) rfl (by omega) ?_
            refine zj_iload_n (zdk ttX7_readLaw 28 rfl rfl) rfl ?_
            refine zj_callV (av := [.inr p1, .inl x16]) (st := []) (zdk ttX7_readLaw 29 rfl rfl) mb_X7_readLawLine mv_RX7_39 (ci := 7) rfl rfl (k_L107 s55) rfl rfl (Nat.le_of_ble_eq_true rfl) (s2_X7_readLawLine l h53 p1 x16 s55 r_p1 (by omega)) (rm_ok (by decide) (by decide)) (zq_i fun v63 h64 q62 => ?_)
            obtain ⟨b65, s66, f68, u67⟩ := q62
            refine zj_if_ne (t := 61) (zdk ttX7_readLaw 30 rfl rfl) (by decide) (by omega) (fun c69 => ?_) (fun c69 => ?_)
            · refine zj_aload_n (zdk ttX7_readLaw 33 rfl rfl) rfl (by omega) ?_
              refine zj_iload_n (zdk ttX7_readLaw 34 rfl rfl) rfl ?_
              refine zj_iconst (zdk ttX7_readLaw 35 rfl rfl) ?_
              refine zj_iadd (zdk ttX7_readLaw 36 rfl rfl) ?_
              refine zj_puti (zdk ttX7_readLaw 37 rfl rfl) zf_RX7_25 rfl (k_3_0 s66 r_p1) (Or.inl zw_RX7_25) (k2 := 6) rfl (fun h70 e71 => ?_)
              refine zj_iinc (L' := [some (.inr 107), some (.inr p1), some (.inl (x16 + 1))]) (zdk ttX7_readLaw 38 rfl rfl) rfl (by decide) rfl ?_
              refine zj_goto (t := 21) (zdk ttX7_readLaw 39 rfl rfl) (by decide) ?_
              have b72 : h70.2 p1 6 = (x16 + 1) := (zwr_v e71)
              have s73 : okC h70 := fw_3_0_6 s66 r_p1 e71 (by omega)
              have f76 : zfC (w_X7_readLaw p1) h h53 := zfC_t f19 f58 (fun a9 b9 z9 => by
                exact (Or.inl (by omega)))
              have f75 : zfC (w_X7_readLaw p1) h h64 := zfC_t f76 f68 (fun a9 b9 z9 => by
                rcases z9 with z9 | z9 | z9
                · exact (Or.inl (by omega))
                · exact (Or.inr (Or.inr (Or.inl (by omega))))
                · exact (Or.inr (Or.inr (Or.inr (by omega)))))
              have f74 : zfC (w_X7_readLaw p1) h h70 := zfC_w f75 e71 (Or.inr (Or.inr (Or.inl (by omega))))
              have b77 : h53.2 103 6 = (h17.2 103 6) := (zfC_a f58 (fun z9 => by unfold w_X6_opensLine at z9; first | (revert z9; decide) | omega))
              have b78 : h70.2 103 6 = (h64.2 103 6) := (zwr_r e71 (by first | decide | exact (absurd ·.1 (by decide)) | exact (absurd ·.2 (by decide)) | omega))
              exact ih47  (x16 + 1) h70 (by omega) s73 f74 (by intro y7 y8; obtain ⟨j, t0, r0⟩ := u44 y7 y8; have k0 := t0.2.2.1.2; have l0 := t0.2.2.2.1; have r_1 := (u56 (h4.2 105) (h4.2 106) j t0).1 (by omega); obtain ⟨r_2j, r_2a, r_2l, r_2r⟩ := (u67 (h4.2 105) (h4.2 106) j r_1.2.2 (by have z9 := r_1.1; omega)).1 (by omega); have a_3 : tPo (h4.2 105) (h4.2 106) r_2j h70 := tPo_f r_2a (fun i => (zwr_r e71 (by first | decide | exact (absurd ·.1 (by decide)) | exact (absurd ·.2 (by decide)) | omega))) (fun i => (zwr_r e71 (by first | decide | exact (absurd ·.1 (by decide)) | exact (absurd ·.2 (by decide)) | omega))) (zwr_r e71 (by first | decide | exact (absurd ·.1 (by decide)) | exact (absurd ·.2 (by decide)) | omega)) (zwr_r e71 (by first | decide | exact (absurd ·.1 (by decide)) | exact (absurd ·.2 (by decide)) | omega)) (zwr_r e71 (by first | decide | exact (absurd ·.1 (by decide)) | exact (absurd ·.2 (by decide)) | omega)) (zwr_r e71 (by first | decide | exact (absurd ·.1 (by decide)) | exact (absurd ·.2 (by decide)) | omega)) (zwr_r e71 (by first | decide | exact (absurd ·.1 (by decide)) | exact (absurd ·.2 (by decide)) | omega)); exact ⟨r_2j, a_3, tRe_t r0 (r_2r 0 [])⟩) (by omega) (by omega)
            · refine zj_iconst (zdk ttX7_readLaw 31 rfl rfl) ?_
              have f80 : zfC (w_X7_readLaw p1) h h53 := zfC_t f19 f58 (fun a9 b9 z9 => by
                exact (Or.inl (by omega)))
              have f79 : zfC (w_X7_readLaw p1) h h64 := zfC_t f80 f68 (fun a9 b9 z9 => by
                rcases z9 with z9 | z9 | z9
                · exact (Or.inl (by omega))
                · exact (Or.inr (Or.inr (Or.inl (by omega))))
                · exact (Or.inr (Or.inr (Or.inr (by omega)))))
              have b81 : h53.2 103 6 = (h17.2 103 6) := (zfC_a f58 (fun z9 => by unfold w_X6_opensLine at z9; first | (revert z9; decide) | omega))
              exact zj_zret rfl (zdk ttX7_readLaw 32 rfl rfl) (Nat.le_refl _) (Nat.le_refl _) (by omega) ⟨0, rfl, by omega, s66, f79, (by intro y7 y8; obtain ⟨j, t0, r0⟩ := u44 y7 y8; have k0 := t0.2.2.1.2; have l0 := t0.2.2.2.1; have r_1 := (u56 (h4.2 105) (h4.2 106) j t0).1 (by omega); obtain ⟨e_2i, e_2f, e_2q, e_2r⟩ := (u67 (h4.2 105) (h4.2 106) j r_1.2.2 (by have z9 := r_1.1; omega)).2 (by omega); exact ⟨(h4.2 105), (h4.2 106), _, u9, fun z => absurd z (by omega), fun _ => ⟨e_2i, e_2f, e_2q, tRe_t r0 (e_2r 0 [])⟩⟩)⟩
  have b82 : h14.2 p1 6 = 0 := ((zwr_r e15 (by first | decide | exact (absurd ·.1 (by decide)) | exact (absurd ·.2 (by decide)) | omega)).trans (zwr_v e12))
  have s83 : okC h14 := fw_3_0_7 s13 r_p1 e15 (by omega)
  have f86 : zfC (w_X7_readLaw p1) h h4 := zfC_t (zfC_r _ _) f10 (fun a9 b9 z9 => by
    rcases z9 with z9 | z9
    · exact (Or.inl (by omega))
    · exact (Or.inr (Or.inl z9)))
  have f85 : zfC (w_X7_readLaw p1) h h11 := zfC_w f86 e12 (Or.inr (Or.inr (Or.inl (by omega))))
  have f84 : zfC (w_X7_readLaw p1) h h14 := zfC_w f85 e15 (Or.inr (Or.inr (Or.inl (by omega))))
  have b87 : h11.2 103 6 = (h4.2 103 6) := (zwr_r e12 (by first | decide | exact (absurd ·.1 (by decide)) | exact (absurd ·.2 (by decide)) | omega))
  have b88 : h14.2 103 6 = (h4.2 103 6) := ((zwr_r e15 (by first | decide | exact (absurd ·.1 (by decide)) | exact (absurd ·.2 (by decide)) | omega)).trans (zwr_r e12 (by first | decide | exact (absurd ·.1 (by decide)) | exact (absurd ·.2 (by decide)) | omega)))
  exact lp42 _ 0 h14 (by omega) s83 f84 (by intro y7 y8; have t0 := tCk_po (h := h4) (by have z8 := u9; exact z8) u7 u8 ((zfC_a f10 (fun z9 => by unfold w_X6_cut at z9; first | (revert z9; decide) | omega)).trans y7) ((zfC_a f10 (fun z9 => by unfold w_X6_cut at z9; first | (revert z9; decide) | omega)).trans y8); have k0 := t0.2.2.1.2; have l0 := t0.2.2.2.1; have a_1 : tPo (h4.2 105) (h4.2 106) 0 h11 := tPo_f t0 (fun i => (zwr_r e12 (by first | decide | exact (absurd ·.1 (by decide)) | exact (absurd ·.2 (by decide)) | omega))) (fun i => (zwr_r e12 (by first | decide | exact (absurd ·.1 (by decide)) | exact (absurd ·.2 (by decide)) | omega))) (zwr_r e12 (by first | decide | exact (absurd ·.1 (by decide)) | exact (absurd ·.2 (by decide)) | omega)) (zwr_r e12 (by first | decide | exact (absurd ·.1 (by decide)) | exact (absurd ·.2 (by decide)) | omega)) (zwr_r e12 (by first | decide | exact (absurd ·.1 (by decide)) | exact (absurd ·.2 (by decide)) | omega)) (zwr_r e12 (by first | decide | exact (absurd ·.1 (by decide)) | exact (absurd ·.2 (by decide)) | omega)) (zwr_r e12 (by first | decide | exact (absurd ·.1 (by decide)) | exact (absurd ·.2 (by decide)) | omega)); have a_2 : tPo (h4.2 105) (h4.2 106) 0 h14 := tPo_f a_1 (fun i => (zwr_r e15 (by first | decide | exact (absurd ·.1 (by decide)) | exact (absurd ·.2 (by decide)) | omega))) (fun i => (zwr_r e15 (by first | decide | exact (absurd ·.1 (by decide)) | exact (absurd ·.2 (by decide)) | omega))) (zwr_r e15 (by first | decide | exact (absurd ·.1 (by decide)) | exact (absurd ·.2 (by decide)) | omega)) (zwr_r e15 (by first | decide | exact (absurd ·.1 (by decide)) | exact (absurd ·.2 (by decide)) | omega)) (zwr_r e15 (by first | decide | exact (absurd ·.1 (by decide)) | exact (absurd ·.2 (by decide)) | omega)) (zwr_r e15 (by first | decide | exact (absurd ·.1 (by decide)) | exact (absurd ·.2 (by decide)) | omega)) (zwr_r e15 (by first | decide | exact (absurd ·.1 (by decide)) | exact (absurd ·.2 (by decide)) | omega)); exact ⟨0, a_2, tRe_r⟩) (by omega) (Nat.lt_succ_self _)

abbrev q2_X7_readDay (h : zM) (p1 : Int) (p2 : Int) : Option zV → zM → Prop := zqi fun v h' => (0 ≤ v ∧ v ≤ 1) ∧ okC h' ∧ zfC (w_X7_readDay p1) h h' ∧ (∀ T P j, tPo T P j h → T j = 200 → (v = 1 → 0 ≤ tNm 0 999 (T (j + 1)) ∧ tPo T P (j + 1 + 1) h') ∧ (v = 0 → tNm 0 999 (T (j + 1)) < 0 ∧ h'.2 103 7 = -(tNm 0 999 (T (j + 1))) ∧ h'.2 103 8 = P (j + 1)))
set_option maxRecDepth 100000 in
set_option maxHeartbeats 4000000 in
theorem s2_X7_readDay (l : Launch) (h : zM) (p1 : Int) (p2 : Int) (s0 : okC h) (r_p1 : zPl p1) (b_p2 : 0 ≤ p2 ∧ p2 ≤ 15) : zT shC l yX7_readDay cX7_readDay 3 (some .boolean) (rmL 5) 0 0 [.inr 107, .inr p1, .inl p2] h (q2_X7_readDay h p1 p2) := by
  refine zT_of (by decide +kernel) (L0 := [some (.inr 107), some (.inr p1), some (.inl p2)]) rfl (Nat.le_of_ble_eq_true rfl) ?_
  have b1 := zPl_b r_p1
  refine zj_aload_n (zdk ttX7_readDay 0 rfl rfl) rfl (by decide) ?_
  refine zj_getr (r := 103) (zdk ttX7_readDay 1 rfl rfl) zf_RX7_9 rfl (k_L107 s0) (rf_L107_0 s0) ?_
  refine zj_callV (av := []) (st := []) (zdk ttX7_readDay 2 rfl rfl) mb_X6_pass mv_RX7_47 (ci := 6) rfl rfl (k_L103 s0) rfl rfl (Nat.le_of_ble_eq_true rfl) (s2_X6_pass l h s0) (rm_ok (by decide) (by decide)) (zq_v fun h4 q2 => ?_)
  obtain ⟨s6, f8, u7⟩ := q2
  refine zj_aload_n (zdk ttX7_readDay 3 rfl rfl) rfl (by decide) ?_
  refine zj_getr (r := 103) (zdk ttX7_readDay 4 rfl rfl) zf_RX7_9 rfl (k_L107 s6) (rf_L107_0 s6) ?_
  refine zj_iconst (zdk ttX7_readDay 5 rfl rfl) ?_
  refine zj_sipush (zdk ttX7_readDay 6 rfl rfl) (by decide) ?_
  refine zj_callV (av := [.inl 0, .inl 999]) (st := []) (zdk ttX7_readDay 7 rfl rfl) mb_X6_takesNumber mv_RX7_104 (ci := 6) rfl rfl (k_L103 s6) rfl rfl (Nat.le_of_ble_eq_true rfl) (s2_X6_takesNumber l h4 0 999 s6 (by omega) (by omega)) (rm_ok (by decide) (by decide)) (zq_i fun v10 h11 q9 => ?_)
  obtain ⟨b12, s13, f16, u14, u15⟩ := q9
  refine zj_if_ne (t := 23) (zdk ttX7_readDay 8 rfl rfl) (by decide) (by omega) (fun c17 => ?_) (fun c17 => ?_)
  · refine zj_aload_n (zdk ttX7_readDay 11 rfl rfl) rfl (by omega) ?_
    refine zj_getr (r := (p1 + 1)) (zdk ttX7_readDay 12 rfl rfl) zf_RX7_116 rfl (k_4_0 s13 r_p1) (rf_4_0_0 s13 r_p1) ?_
    refine zj_iload_n (zdk ttX7_readDay 13 rfl rfl) rfl ?_
    refine zj_aload_n (zdk ttX7_readDay 14 rfl rfl) rfl (by decide) ?_
    refine zj_getr (r := 103) (zdk ttX7_readDay 15 rfl rfl) zf_RX7_9 rfl (k_L107 s13) (rf_L107_0 s13) ?_
    have b18 : -2147483648 ≤ (h11.2 103 9) ∧ (h11.2 103 9) ≤ 2147483647 := fb_L103_9 s13
    refine zj_geti (v := (h11.2 103 9)) (zdk ttX7_readDay 16 rfl rfl) zf_RX7_110 rfl (k_L103 s13) rfl ?_
    refine zj_iast (zdk ttX7_readDay 17 rfl rfl) (ka_4_0_0 s13 r_p1) (by decide) (by omega) (fun h19 e20 => ?_)
    refine zj_iconst (zdk ttX7_readDay 18 rfl rfl) ?_
    have s21 : okC h19 := aw_4_0_0 s13 r_p1 e20 (by omega)
    have f24 : zfC (w_X7_readDay p1) h h4 := zfC_t (zfC_r _ _) f8 (fun a9 b9 z9 => by
      exact (Or.inl (by omega)))
    have f23 : zfC (w_X7_readDay p1) h h11 := zfC_t f24 f16 (fun a9 b9 z9 => by
      exact (Or.inl z9))
    have f22 : zfC (w_X7_readDay p1) h h19 := zfC_w f23 e20 (Or.inr (by omega))
    have b25 : h19.2 103 6 = (h11.2 103 6) := (zwr_r e20 (by first | decide | exact (absurd ·.1 (by decide)) | exact (absurd ·.2 (by decide)) | omega))
    exact zj_zret rfl (zdk ttX7_readDay 19 rfl rfl) (Nat.le_refl _) (Nat.le_refl _) (by omega) ⟨1, rfl, by omega, s21, f22, (by intro T P j t0 yh9; have k0 := t0.2.2.1.2; have l0 := t0.2.2.2.1; have k_1 := t0.2.2.1.2; have k_1l := t0.2.2.2.1; have a_2 : tPo T P (j + 1) h4 := u7 T P j t0 (by omega); have r_3 := (u14 T P (j + 1) a_2).1 (by omega); have r_3a : tPo T P ((j + 1) + 1) h11 := r_3.2.2; have a_4 : tPo T P ((j + 1) + 1) h19 := tPo_f r_3a (fun i => (zwr_r e20 (by first | decide | exact (absurd ·.1 (by decide)) | exact (absurd ·.2 (by decide)) | omega))) (fun i => (zwr_r e20 (by first | decide | exact (absurd ·.1 (by decide)) | exact (absurd ·.2 (by decide)) | omega))) (zwr_r e20 (by first | decide | exact (absurd ·.1 (by decide)) | exact (absurd ·.2 (by decide)) | omega)) (zwr_r e20 (by first | decide | exact (absurd ·.1 (by decide)) | exact (absurd ·.2 (by decide)) | omega)) (zwr_r e20 (by first | decide | exact (absurd ·.1 (by decide)) | exact (absurd ·.2 (by decide)) | omega)) (zwr_r e20 (by first | decide | exact (absurd ·.1 (by decide)) | exact (absurd ·.2 (by decide)) | omega)) (zwr_r e20 (by first | decide | exact (absurd ·.1 (by decide)) | exact (absurd ·.2 (by decide)) | omega)); exact ⟨fun _ => ⟨r_3.1, a_4⟩, fun z => absurd z (by omega)⟩)⟩
  · refine zj_iconst (zdk ttX7_readDay 9 rfl rfl) ?_
    have f27 : zfC (w_X7_readDay p1) h h4 := zfC_t (zfC_r _ _) f8 (fun a9 b9 z9 => by
      exact (Or.inl (by omega)))
    have f26 : zfC (w_X7_readDay p1) h h11 := zfC_t f27 f16 (fun a9 b9 z9 => by
      exact (Or.inl z9))
    exact zj_zret rfl (zdk ttX7_readDay 10 rfl rfl) (Nat.le_refl _) (Nat.le_refl _) (by omega) ⟨0, rfl, by omega, s13, f26, (by intro T P j t0 yh9; have k0 := t0.2.2.1.2; have l0 := t0.2.2.2.1; have k_1 := t0.2.2.1.2; have k_1l := t0.2.2.2.1; have a_2 : tPo T P (j + 1) h4 := u7 T P j t0 (by omega); have e_3 := (u14 T P (j + 1) a_2).2 (by omega); exact ⟨fun z => absurd z (by omega), fun _ => e_3⟩)⟩

abbrev q2_X7_readBoat (h : zM) (p1 : Int) (p2 : Int) : Option zV → zM → Prop := zqi fun v h' => (0 ≤ v ∧ v ≤ 1) ∧ okC h' ∧ zfC (w_X7_readBoat p1) h h' ∧ (∀ T P j, tPo T P j h → T j = 200 → (v = 1 → ∃ j9, tPo T P j9 h' ∧ j < j9 ∧ ∀ p9 s9, tRe T p9 (20, j, p2, s9) (20, j9, p2 + 1, [])) ∧ (v = 0 → ∃ i9 f9, (h'.2 103 7 = f9 ∧ h'.2 103 8 = P i9) ∧ ∀ p9 s9, tRe T p9 (20, j, p2, s9) (tEr i9 f9)))
set_option maxRecDepth 100000 in
set_option maxHeartbeats 4000000 in
theorem s2_X7_readBoat (l : Launch) (h : zM) (p1 : Int) (p2 : Int) (s0 : okC h) (r_p1 : zPl p1) (b_p2 : 0 ≤ p2 ∧ p2 ≤ 15) : zT shC l yX7_readBoat cX7_readBoat 3 (some .boolean) (rmL 6) 0 0 [.inr 107, .inr p1, .inl p2] h (q2_X7_readBoat h p1 p2) := by
  refine zT_of (by decide +kernel) (L0 := [some (.inr 107), some (.inr p1), some (.inl p2)]) rfl (Nat.le_of_ble_eq_true rfl) ?_
  have b1 := zPl_b r_p1
  refine zj_aload_n (zdk ttX7_readBoat 0 rfl rfl) rfl (by decide) ?_
  refine zj_aload_n (zdk ttX7_readBoat 1 rfl rfl) rfl (by omega) ?_
  refine zj_iload_n (zdk ttX7_readBoat 2 rfl rfl) rfl ?_
  refine zj_callV (av := [.inr p1, .inl p2]) (st := []) (zdk ttX7_readBoat 3 rfl rfl) mb_X7_readDay mv_RX7_101 (ci := 7) rfl rfl (k_L107 s0) rfl rfl (Nat.le_of_ble_eq_true rfl) (s2_X7_readDay l h p1 p2 s0 r_p1 (by omega)) (rm_ok (by decide) (by decide)) (zq_i fun v3 h4 q2 => ?_)
  obtain ⟨b5, s6, f8, u7⟩ := q2
  refine zj_if_eq (t := 35) (zdk ttX7_readBoat 4 rfl rfl) (by decide) (by omega) (fun c9 => ?_) (fun c9 => ?_)
  · refine zj_iconst (zdk ttX7_readBoat 16 rfl rfl) ?_
    have f10 : zfC (w_X7_readBoat p1) h h4 := zfC_t (zfC_r _ _) f8 (fun a9 b9 z9 => by
      rcases z9 with z9 | z9
      · exact (Or.inl z9)
      · exact (Or.inr (by omega)))
    exact zj_zret rfl (zdk ttX7_readBoat 17 rfl rfl) (Nat.le_refl _) (Nat.le_refl _) (by omega) ⟨0, rfl, by omega, s6, f10, (by intro T P j t0 yh9; have k0 := t0.2.2.1.2; have l0 := t0.2.2.2.1; have e_1 := (u7 T P j t0 yh9).2 (by omega); exact ⟨fun z => absurd z (by omega), fun _ => ⟨(j + 1), _, e_1.2, fun p9 s9 => tRe_s (tRe_s tRe_r (tMl_l (Or.inl rfl) yh9 (by omega))) (tMd_n (Or.inl rfl) rfl (by omega) rfl)⟩⟩)⟩
  · refine zj_aload_n (zdk ttX7_readBoat 5 rfl rfl) rfl (by decide) ?_
    refine zj_getr (r := 103) (zdk ttX7_readBoat 6 rfl rfl) zf_RX7_9 rfl (k_L107 s6) (rf_L107_0 s6) ?_
    refine zj_sipush (zdk ttX7_readBoat 7 rfl rfl) (by decide) ?_
    refine zj_callV (av := [.inl 201]) (st := []) (zdk ttX7_readBoat 8 rfl rfl) mb_X6_takes mv_RX7_70 (ci := 6) rfl rfl (k_L103 s6) rfl rfl (Nat.le_of_ble_eq_true rfl) (s2_X6_takes l h4 201 s6 (by omega)) (rm_ok (by decide) (by decide)) (zq_i fun v12 h13 q11 => ?_)
    obtain ⟨b14, s15, f17, u16⟩ := q11
    refine zj_if_eq (t := 35) (zdk ttX7_readBoat 9 rfl rfl) (by decide) (by omega) (fun c18 => ?_) (fun c18 => ?_)
    · refine zj_iconst (zdk ttX7_readBoat 16 rfl rfl) ?_
      have f20 : zfC (w_X7_readBoat p1) h h4 := zfC_t (zfC_r _ _) f8 (fun a9 b9 z9 => by
        rcases z9 with z9 | z9
        · exact (Or.inl z9)
        · exact (Or.inr (by omega)))
      have f19 : zfC (w_X7_readBoat p1) h h13 := zfC_t f20 f17 (fun a9 b9 z9 => by
        exact (Or.inl (by omega)))
      exact zj_zret rfl (zdk ttX7_readBoat 17 rfl rfl) (Nat.le_refl _) (Nat.le_refl _) (by omega) ⟨0, rfl, by omega, s15, f19, (by intro T P j t0 yh9; have k0 := t0.2.2.1.2; have l0 := t0.2.2.2.1; have r_1 := (u7 T P j t0 yh9).1 (by omega); have e_2 := (u16 T P (j + 1 + 1) r_1.2).2 (by omega); exact ⟨fun z => absurd z (by omega), fun _ => ⟨(j + 1 + 1), _, e_2.2, fun p9 s9 => tRe_s (tRe_s (tRe_s tRe_r (tMl_l (Or.inl rfl) yh9 (by omega))) (tMd_y (Or.inl rfl) rfl r_1.1)) (tM22_n e_2.1)⟩⟩)⟩
    · refine zj_aload_n (zdk ttX7_readBoat 10 rfl rfl) rfl (by decide) ?_
      refine zj_getr (r := 103) (zdk ttX7_readBoat 11 rfl rfl) zf_RX7_9 rfl (k_L107 s15) (rf_L107_0 s15) ?_
      refine zj_iconst (zdk ttX7_readBoat 12 rfl rfl) ?_
      refine zj_bipush (zdk ttX7_readBoat 13 rfl rfl) (by decide) ?_
      refine zj_callV (av := [.inl 1, .inl 18]) (st := []) (zdk ttX7_readBoat 14 rfl rfl) mb_X6_takesNumber mv_RX7_104 (ci := 6) rfl rfl (k_L103 s15) rfl rfl (Nat.le_of_ble_eq_true rfl) (s2_X6_takesNumber l h13 1 18 s15 (by omega) (by omega)) (rm_ok (by decide) (by decide)) (zq_i fun v22 h23 q21 => ?_)
      obtain ⟨b24, s25, f28, u26, u27⟩ := q21
      refine zj_if_ne (t := 37) (zdk ttX7_readBoat 15 rfl rfl) (by decide) (by omega) (fun c29 => ?_) (fun c29 => ?_)
      · refine zj_aload_n (zdk ttX7_readBoat 18 rfl rfl) rfl (by omega) ?_
        refine zj_getr (r := (p1 + 3)) (zdk ttX7_readBoat 19 rfl rfl) zf_RX7_107 rfl (k_4_0 s25 r_p1) (rf_4_0_2 s25 r_p1) ?_
        refine zj_iload_n (zdk ttX7_readBoat 20 rfl rfl) rfl ?_
        refine zj_aload_n (zdk ttX7_readBoat 21 rfl rfl) rfl (by decide) ?_
        refine zj_getr (r := 103) (zdk ttX7_readBoat 22 rfl rfl) zf_RX7_9 rfl (k_L107 s25) (rf_L107_0 s25) ?_
        have b30 : -2147483648 ≤ (h23.2 103 9) ∧ (h23.2 103 9) ≤ 2147483647 := fb_L103_9 s25
        refine zj_geti (v := (h23.2 103 9)) (zdk ttX7_readBoat 23 rfl rfl) zf_RX7_110 rfl (k_L103 s25) rfl ?_
        refine zj_iast (zdk ttX7_readBoat 24 rfl rfl) (ka_4_0_2 s25 r_p1) (by decide) (by omega) (fun h31 e32 => ?_)
        refine zj_aload_n (zdk ttX7_readBoat 25 rfl rfl) rfl (by decide) ?_
        have s33 : okC h31 := aw_4_0_2 s25 r_p1 e32 (by omega)
        refine zj_getr (r := 103) (zdk ttX7_readBoat 26 rfl rfl) zf_RX7_9 rfl (k_L107 s33) (rf_L107_0 s33) ?_
        refine zj_iconst (zdk ttX7_readBoat 27 rfl rfl) ?_
        refine zj_iconst (zdk ttX7_readBoat 28 rfl rfl) ?_
        refine zj_callV (av := [.inl 2, .inl 3]) (st := []) (zdk ttX7_readBoat 29 rfl rfl) mb_X6_isWord mv_RX7_60 (ci := 6) rfl rfl (k_L103 s33) rfl rfl (Nat.le_of_ble_eq_true rfl) (s_X6_isWord l h31 2 3 s33 (by omega) (by omega)) (rm_ok (by decide) (by decide)) (zq_i fun v35 h36 q34 => ?_)
        obtain ⟨rfl, b38, ⟨rfl, b37⟩ | ⟨rfl, b37⟩⟩ := q34
        · refine zj_if_ne (t := 71) (zdk ttX7_readBoat 30 rfl rfl) (by decide) (by decide) (fun c39 => ?_) (fun c39 => ?_)
          · exact absurd c39 (by omega)
          · refine zj_aload_n (zdk ttX7_readBoat 31 rfl rfl) rfl (by decide) ?_
            refine zj_getr (r := 103) (zdk ttX7_readBoat 32 rfl rfl) zf_RX7_9 rfl (k_L107 s33) (rf_L107_0 s33) ?_
            refine zj_iconst (zdk ttX7_readBoat 33 rfl rfl) ?_
            refine zj_callV (av := [.inl 1]) (st := []) (zdk ttX7_readBoat 34 rfl rfl) mb_X6_refuse mv_RX7_81 (ci := 6) rfl rfl (k_L103 s33) rfl rfl (Nat.le_of_ble_eq_true rfl) (s2_X6_refuse l h31 1 s33 (by omega)) (rm_ok (by decide) (by decide)) (zq_i fun v41 h42 q40 => ?_)
            obtain ⟨b43, s44, f46, u45⟩ := q40
            have f51 : zfC (w_X7_readBoat p1) h h4 := zfC_t (zfC_r _ _) f8 (fun a9 b9 z9 => by
              rcases z9 with z9 | z9
              · exact (Or.inl z9)
              · exact (Or.inr (by omega)))
            have f50 : zfC (w_X7_readBoat p1) h h13 := zfC_t f51 f17 (fun a9 b9 z9 => by
              exact (Or.inl (by omega)))
            have f49 : zfC (w_X7_readBoat p1) h h23 := zfC_t f50 f28 (fun a9 b9 z9 => by
              exact (Or.inl z9))
            have f48 : zfC (w_X7_readBoat p1) h h31 := zfC_w f49 e32 (Or.inr (by omega))
            have f47 : zfC (w_X7_readBoat p1) h h42 := zfC_t f48 f46 (fun a9 b9 z9 => by
              exact (Or.inl (by omega)))
            have b52 : h31.2 103 6 = (h23.2 103 6) := (zwr_r e32 (by first | decide | exact (absurd ·.1 (by decide)) | exact (absurd ·.2 (by decide)) | omega))
            have b53 : h42.2 103 6 = (h23.2 103 6) := ((zfC_a f46 (fun z9 => by unfold w_X6_refuse at z9; first | (revert z9; decide) | omega)).trans (zwr_r e32 (by first | decide | exact (absurd ·.1 (by decide)) | exact (absurd ·.2 (by decide)) | omega)))
            exact zj_zret rfl (zdk ttX7_readBoat 35 rfl rfl) (Nat.le_refl _) (Nat.le_refl _) (by omega) ⟨v41, rfl, by omega, s44, f47, (by intro T P j t0 yh9; have k0 := t0.2.2.1.2; have l0 := t0.2.2.2.1; have r_1 := (u7 T P j t0 yh9).1 (by omega); have r_2 := (u16 T P (j + 1 + 1) r_1.2).1 (by omega); have r_2a : tPo T P ((j + 1 + 1) + 1) h13 := (r_2.2 (by omega)); have r_3 := (u26 T P ((j + 1 + 1) + 1) r_2a).1 (by omega); have r_3a : tPo T P (((j + 1 + 1) + 1) + 1) h23 := r_3.2.2; have k_4 := r_3a.2.2.1.2; have k_4l := r_3a.2.2.2.1; have a_5 : tPo T P (((j + 1 + 1) + 1) + 1) h31 := tPo_f r_3a (fun i => (zwr_r e32 (by first | decide | exact (absurd ·.1 (by decide)) | exact (absurd ·.2 (by decide)) | omega))) (fun i => (zwr_r e32 (by first | decide | exact (absurd ·.1 (by decide)) | exact (absurd ·.2 (by decide)) | omega))) (zwr_r e32 (by first | decide | exact (absurd ·.1 (by decide)) | exact (absurd ·.2 (by decide)) | omega)) (zwr_r e32 (by first | decide | exact (absurd ·.1 (by decide)) | exact (absurd ·.2 (by decide)) | omega)) (zwr_r e32 (by first | decide | exact (absurd ·.1 (by decide)) | exact (absurd ·.2 (by decide)) | omega)) (zwr_r e32 (by first | decide | exact (absurd ·.1 (by decide)) | exact (absurd ·.2 (by decide)) | omega)) (zwr_r e32 (by first | decide | exact (absurd ·.1 (by decide)) | exact (absurd ·.2 (by decide)) | omega)); have e_6 := u45 T P (((j + 1 + 1) + 1) + 1) a_5; exact ⟨fun z => absurd z (by omega), fun _ => ⟨(((j + 1 + 1) + 1) + 1), _, e_6, fun p9 s9 => tRe_s (tRe_s (tRe_s (tRe_s (tRe_s tRe_r (tMl_l (Or.inl rfl) yh9 (by omega))) (tMd_y (Or.inl rfl) rfl r_1.1)) (tM22_y r_2.1)) (tM23_y rfl r_3.1)) (tM24_n (by omega))⟩⟩)⟩
        · refine zj_if_ne (t := 71) (zdk ttX7_readBoat 30 rfl rfl) (by decide) (by decide) (fun c54 => ?_) (fun c54 => ?_)
          · refine zj_aload_n (zdk ttX7_readBoat 36 rfl rfl) rfl (by omega) ?_
            refine zj_getr (r := (p1 + 2)) (zdk ttX7_readBoat 37 rfl rfl) zf_RX7_113 rfl (k_4_0 s33 r_p1) (rf_4_0_1 s33 r_p1) ?_
            refine zj_iload_n (zdk ttX7_readBoat 38 rfl rfl) rfl ?_
            refine zj_aload_n (zdk ttX7_readBoat 39 rfl rfl) rfl (by decide) ?_
            refine zj_getr (r := 103) (zdk ttX7_readBoat 40 rfl rfl) zf_RX7_9 rfl (k_L107 s33) (rf_L107_0 s33) ?_
            have b55 : -2147483648 ≤ (h23.2 103 6) ∧ (h23.2 103 6) ≤ 2147483647 := fb_L103_6 s25
            refine zj_geti (v := (h23.2 103 6)) (zdk ttX7_readBoat 41 rfl rfl) zf_RX7_32 rfl (k_L103 s33) (zwr_r e32 (by first | decide | exact (absurd ·.1 (by decide)) | exact (absurd ·.2 (by decide)) | omega)) ?_
            refine zj_sipush (zdk ttX7_readBoat 42 rfl rfl) (by decide) ?_
            refine zj_isub (zdk ttX7_readBoat 43 rfl rfl) ?_
            refine zj_wrap ?_
            have b56 := zwp_in ((h23.2 103 6) - 200)
            refine zj_iast (zdk ttX7_readBoat 44 rfl rfl) (ka_4_0_1 s33 r_p1) (by decide) (by omega) (fun h57 e58 => ?_)
            refine zj_aload_n (zdk ttX7_readBoat 45 rfl rfl) rfl (by decide) ?_
            have s59 : okC h57 := aw_4_0_1 s33 r_p1 e58 (by omega)
            refine zj_getr (r := 103) (zdk ttX7_readBoat 46 rfl rfl) zf_RX7_9 rfl (k_L107 s59) (rf_L107_0 s59) ?_
            refine zj_callV (av := []) (st := []) (zdk ttX7_readBoat 47 rfl rfl) mb_X6_pass mv_RX7_47 (ci := 6) rfl rfl (k_L103 s59) rfl rfl (Nat.le_of_ble_eq_true rfl) (s2_X6_pass l h57 s59) (rm_ok (by decide) (by decide)) (zq_v fun h62 q60 => ?_)
            obtain ⟨s64, f66, u65⟩ := q60
            refine zj_aload_n (zdk ttX7_readBoat 48 rfl rfl) rfl (by decide) ?_
            refine zj_getr (r := 103) (zdk ttX7_readBoat 49 rfl rfl) zf_RX7_9 rfl (k_L107 s64) (rf_L107_0 s64) ?_
            refine zj_bipush (zdk ttX7_readBoat 50 rfl rfl) (by decide) ?_
            refine zj_callV (av := [.inl 59]) (st := []) (zdk ttX7_readBoat 51 rfl rfl) mb_X6_takes mv_RX7_70 (ci := 6) rfl rfl (k_L103 s64) rfl rfl (Nat.le_of_ble_eq_true rfl) (s2_X6_takes l h62 59 s64 (by omega)) (rm_ok (by decide) (by decide)) (zq_i fun v68 h69 q67 => ?_)
            obtain ⟨b70, s71, f73, u72⟩ := q67
            have f80 : zfC (w_X7_readBoat p1) h h4 := zfC_t (zfC_r _ _) f8 (fun a9 b9 z9 => by
              rcases z9 with z9 | z9
              · exact (Or.inl z9)
              · exact (Or.inr (by omega)))
            have f79 : zfC (w_X7_readBoat p1) h h13 := zfC_t f80 f17 (fun a9 b9 z9 => by
              exact (Or.inl (by omega)))
            have f78 : zfC (w_X7_readBoat p1) h h23 := zfC_t f79 f28 (fun a9 b9 z9 => by
              exact (Or.inl z9))
            have f77 : zfC (w_X7_readBoat p1) h h31 := zfC_w f78 e32 (Or.inr (by omega))
            have f76 : zfC (w_X7_readBoat p1) h h57 := zfC_w f77 e58 (Or.inr (by omega))
            have f75 : zfC (w_X7_readBoat p1) h h62 := zfC_t f76 f66 (fun a9 b9 z9 => by
              exact (Or.inl (by omega)))
            have f74 : zfC (w_X7_readBoat p1) h h69 := zfC_t f75 f73 (fun a9 b9 z9 => by
              exact (Or.inl (by omega)))
            have b81 : h31.2 103 6 = (h23.2 103 6) := (zwr_r e32 (by first | decide | exact (absurd ·.1 (by decide)) | exact (absurd ·.2 (by decide)) | omega))
            have b82 : h57.2 103 6 = (h23.2 103 6) := ((zwr_r e58 (by first | decide | exact (absurd ·.1 (by decide)) | exact (absurd ·.2 (by decide)) | omega)).trans (zwr_r e32 (by first | decide | exact (absurd ·.1 (by decide)) | exact (absurd ·.2 (by decide)) | omega)))
            exact zj_zret rfl (zdk ttX7_readBoat 52 rfl rfl) (Nat.le_refl _) (Nat.le_refl _) (by omega) ⟨v68, rfl, by omega, s71, f74, (by intro T P j t0 yh9; have k0 := t0.2.2.1.2; have l0 := t0.2.2.2.1; have r_1 := (u7 T P j t0 yh9).1 (by omega); have r_2 := (u16 T P (j + 1 + 1) r_1.2).1 (by omega); have r_2a : tPo T P ((j + 1 + 1) + 1) h13 := (r_2.2 (by omega)); have r_3 := (u26 T P ((j + 1 + 1) + 1) r_2a).1 (by omega); have r_3a : tPo T P (((j + 1 + 1) + 1) + 1) h23 := r_3.2.2; have k_4 := r_3a.2.2.1.2; have k_4l := r_3a.2.2.2.1; have a_5 : tPo T P (((j + 1 + 1) + 1) + 1) h31 := tPo_f r_3a (fun i => (zwr_r e32 (by first | decide | exact (absurd ·.1 (by decide)) | exact (absurd ·.2 (by decide)) | omega))) (fun i => (zwr_r e32 (by first | decide | exact (absurd ·.1 (by decide)) | exact (absurd ·.2 (by decide)) | omega))) (zwr_r e32 (by first | decide | exact (absurd ·.1 (by decide)) | exact (absurd ·.2 (by decide)) | omega)) (zwr_r e32 (by first | decide | exact (absurd ·.1 (by decide)) | exact (absurd ·.2 (by decide)) | omega)) (zwr_r e32 (by first | decide | exact (absurd ·.1 (by decide)) | exact (absurd ·.2 (by decide)) | omega)) (zwr_r e32 (by first | decide | exact (absurd ·.1 (by decide)) | exact (absurd ·.2 (by decide)) | omega)) (zwr_r e32 (by first | decide | exact (absurd ·.1 (by decide)) | exact (absurd ·.2 (by decide)) | omega)); have a_6 : tPo T P (((j + 1 + 1) + 1) + 1) h57 := tPo_f a_5 (fun i => (zwr_r e58 (by first | decide | exact (absurd ·.1 (by decide)) | exact (absurd ·.2 (by decide)) | omega))) (fun i => (zwr_r e58 (by first | decide | exact (absurd ·.1 (by decide)) | exact (absurd ·.2 (by decide)) | omega))) (zwr_r e58 (by first | decide | exact (absurd ·.1 (by decide)) | exact (absurd ·.2 (by decide)) | omega)) (zwr_r e58 (by first | decide | exact (absurd ·.1 (by decide)) | exact (absurd ·.2 (by decide)) | omega)) (zwr_r e58 (by first | decide | exact (absurd ·.1 (by decide)) | exact (absurd ·.2 (by decide)) | omega)) (zwr_r e58 (by first | decide | exact (absurd ·.1 (by decide)) | exact (absurd ·.2 (by decide)) | omega)) (zwr_r e58 (by first | decide | exact (absurd ·.1 (by decide)) | exact (absurd ·.2 (by decide)) | omega)); have k_7 := a_6.2.2.1.2; have k_7l := a_6.2.2.2.1; have a_8 : tPo T P ((((j + 1 + 1) + 1) + 1) + 1) h62 := u65 T P (((j + 1 + 1) + 1) + 1) a_6 (by omega); have e_9 := u72 T P ((((j + 1 + 1) + 1) + 1) + 1) a_8; exact ⟨fun z => ⟨(((((j + 1 + 1) + 1) + 1) + 1) + 1), (e_9.1 z).2 (by omega), by omega, fun p9 s9 => tRe_s (tRe_s (tRe_s (tRe_s (tRe_s (tRe_s tRe_r (tMl_l (Or.inl rfl) yh9 (by omega))) (tMd_y (Or.inl rfl) rfl r_1.1)) (tM22_y r_2.1)) (tM23_y rfl r_3.1)) (tM24_y (by omega))) (tMs_y (Or.inl ⟨rfl, rfl⟩) (e_9.1 z).1)⟩, fun z => ⟨((((j + 1 + 1) + 1) + 1) + 1), _, (e_9.2 z).2, fun p9 s9 => tRe_s (tRe_s (tRe_s (tRe_s (tRe_s (tRe_s tRe_r (tMl_l (Or.inl rfl) yh9 (by omega))) (tMd_y (Or.inl rfl) rfl r_1.1)) (tM22_y r_2.1)) (tM23_y rfl r_3.1)) (tM24_y (by omega))) (tMs_n (Or.inl rfl) (e_9.2 z).1)⟩⟩)⟩
          · exact absurd c54 (by omega)
      · refine zj_iconst (zdk ttX7_readBoat 16 rfl rfl) ?_
        have f85 : zfC (w_X7_readBoat p1) h h4 := zfC_t (zfC_r _ _) f8 (fun a9 b9 z9 => by
          rcases z9 with z9 | z9
          · exact (Or.inl z9)
          · exact (Or.inr (by omega)))
        have f84 : zfC (w_X7_readBoat p1) h h13 := zfC_t f85 f17 (fun a9 b9 z9 => by
          exact (Or.inl (by omega)))
        have f83 : zfC (w_X7_readBoat p1) h h23 := zfC_t f84 f28 (fun a9 b9 z9 => by
          exact (Or.inl z9))
        exact zj_zret rfl (zdk ttX7_readBoat 17 rfl rfl) (Nat.le_refl _) (Nat.le_refl _) (by omega) ⟨0, rfl, by omega, s25, f83, (by intro T P j t0 yh9; have k0 := t0.2.2.1.2; have l0 := t0.2.2.2.1; have r_1 := (u7 T P j t0 yh9).1 (by omega); have r_2 := (u16 T P (j + 1 + 1) r_1.2).1 (by omega); have r_2a : tPo T P ((j + 1 + 1) + 1) h13 := (r_2.2 (by omega)); have e_3 := (u26 T P ((j + 1 + 1) + 1) r_2a).2 (by omega); exact ⟨fun z => absurd z (by omega), fun _ => ⟨((j + 1 + 1) + 1), _, e_3.2, fun p9 s9 => tRe_s (tRe_s (tRe_s (tRe_s tRe_r (tMl_l (Or.inl rfl) yh9 (by omega))) (tMd_y (Or.inl rfl) rfl r_1.1)) (tM22_y r_2.1)) (tM23_n rfl (by omega) rfl)⟩⟩)⟩

abbrev q2_X7_readBoats (h : zM) (p1 : Int) : Option zV → zM → Prop := zqi fun v h' => (0 ≤ v ∧ v ≤ 1) ∧ okC h' ∧ zfC (w_X7_readBoats p1) h h' ∧ (h.2 103 7 = 0 → h.2 103 8 = -1 → ∃ T P c9, tCk 2 (h.2 104) (h.2 103 3) T P c9 ∧ (v = 1 → (h'.2 103 7 = 0 ∧ h'.2 103 8 = -1) ∧ ∃ j9, tRe T 0 (20, 0, 0, []) (1, j9, (h'.2 p1 3), [])) ∧ (v = 0 → ∃ i9 f9, (h'.2 103 7 = f9 ∧ h'.2 103 8 = P i9) ∧ tRe T 0 (20, 0, 0, []) (tEr i9 f9)))
set_option maxRecDepth 100000 in
set_option maxHeartbeats 4000000 in
theorem s2_X7_readBoats (l : Launch) (h : zM) (p1 : Int) (s0 : okC h) (r_p1 : zPl p1) : zT shC l yX7_readBoats cX7_readBoats 3 (some .boolean) (rmL 9) 0 0 [.inr 107, .inr p1] h (q2_X7_readBoats h p1) := by
  refine zT_of (by decide +kernel) (L0 := [some (.inr 107), some (.inr p1), none]) rfl (Nat.le_of_ble_eq_true rfl) ?_
  have b1 := zPl_b r_p1
  refine zj_aload_n (zdk ttX7_readBoats 0 rfl rfl) rfl (by decide) ?_
  refine zj_getr (r := 103) (zdk ttX7_readBoats 1 rfl rfl) zf_RX7_9 rfl (k_L107 s0) (rf_L107_0 s0) ?_
  refine zj_ldcS (i := 2) (zdk ttX7_readBoats 2 rfl rfl) (List.mem_of_getElem? (i := 2) rfl) ?_
  refine zj_callV (av := [.inr (-2 - ((2 : Nat) : Int))]) (st := []) (zdk ttX7_readBoats 3 rfl rfl) mb_X6_cut mv_RX7_19 (ci := 6) rfl rfl (k_L103 s0) rfl rfl (Nat.le_of_ble_eq_true rfl) (s2_X6_cut l h 2 s0 (show 2 < 5 by decide)) (rm_ok (by decide) (by decide)) (zq_v fun h4 q2 => ?_)
  obtain ⟨s6, f10, u7, u8, u9⟩ := q2
  refine zj_aload_n (zdk ttX7_readBoats 4 rfl rfl) rfl (by omega) ?_
  refine zj_iconst (zdk ttX7_readBoats 5 rfl rfl) ?_
  refine zj_puti (zdk ttX7_readBoats 6 rfl rfl) zf_RX7_96 rfl (k_4_0 s6 r_p1) (Or.inl zw_RX7_96) (k2 := 3) rfl (fun h11 e12 => ?_)
  refine zj_iconst (zdk ttX7_readBoats 7 rfl rfl) ?_
  refine zj_istore_n (L' := [some (.inr 107), some (.inr p1), some (.inl 0)]) (zdk ttX7_readBoats 8 rfl rfl) (by decide) rfl ?_
  have lp39 : ∀ (n : Nat) (x13 : Int) (h14 : zM), (0 ≤ x13 ∧ x13 ≤ 16) → okC h14 → zfC (w_X7_readBoats p1) h h14 → (h.2 103 7 = 0 → h.2 103 8 = -1 → ∃ j9, tPo (h4.2 105) (h4.2 106) j9 h14 ∧ tRe (h4.2 105) 0 (20, 0, 0, []) (20, j9, x13, [])) → (h14.2 p1 3 = x13) → (17 - x13).toNat < n → zJ shC l yX7_readBoats cX7_readBoats 3 (some .boolean) (rmL 9) 0 0 (q2_X7_readBoats h p1) 0 0 16 [some (.inr 107), some (.inr p1), some (.inl x13)] [] h14 := by
    intro n
    induction n with
    | zero => intro x13 h14 b40 s15 f16 u41 u42 m43; exact absurd m43 (Nat.not_lt_zero _)
    | succ n ih44 =>
      intro x13 h14 b40 s15 f16 u41 u42 m43
      refine zj_iload_n (zdk ttX7_readBoats 9 rfl rfl) rfl ?_
      refine zj_bipush (zdk ttX7_readBoats 10 rfl rfl) (by decide) ?_
      refine zj_icmp_gt (t := 69) (zdk ttX7_readBoats 11 rfl rfl) (by decide) (by omega) (by decide) (fun c45 => ?_) (fun c45 => ?_)
      · exact absurd c45 (by omega)
      · refine zj_aload_n (zdk ttX7_readBoats 12 rfl rfl) rfl (by decide) ?_
        refine zj_getr (r := 103) (zdk ttX7_readBoats 13 rfl rfl) zf_RX7_9 rfl (k_L107 s15) (rf_L107_0 s15) ?_
        have b46 : -2147483648 ≤ (h14.2 103 6) ∧ (h14.2 103 6) ≤ 2147483647 := fb_L103_6 s15
        refine zj_geti (v := (h14.2 103 6)) (zdk ttX7_readBoats 14 rfl rfl) zf_RX7_32 rfl (k_L103 s15) rfl ?_
        refine zj_if_eq (t := 69) (zdk ttX7_readBoats 15 rfl rfl) (by decide) (by omega) (fun c47 => ?_) (fun c47 => ?_)
        · refine zj_iconst (zdk ttX7_readBoats 37 rfl rfl) ?_
          exact zj_zret rfl (zdk ttX7_readBoats 38 rfl rfl) (Nat.le_refl _) (Nat.le_refl _) (by omega) ⟨1, rfl, by omega, s15, f16, (by intro y7 y8; obtain ⟨j, t0, r0⟩ := u41 y7 y8; have k0 := t0.2.2.1.2; have l0 := t0.2.2.2.1; exact ⟨(h4.2 105), (h4.2 106), _, u9, fun _ => ⟨t0.2.2.2.2.2.2, j, by have z9 := tRe_s r0 (tMl_e (Or.inl rfl) (by omega)); rw [show x13 = h14.2 p1 3 by omega] at z9; exact z9⟩, fun z => absurd z (by omega)⟩)⟩
        · refine zj_aload_n (zdk ttX7_readBoats 16 rfl rfl) rfl (by decide) ?_
          refine zj_getr (r := 103) (zdk ttX7_readBoats 17 rfl rfl) zf_RX7_9 rfl (k_L107 s15) (rf_L107_0 s15) ?_
          refine zj_iload_n (zdk ttX7_readBoats 18 rfl rfl) rfl ?_
          refine zj_iconst (zdk ttX7_readBoats 19 rfl rfl) ?_
          refine zj_iconst (zdk ttX7_readBoats 20 rfl rfl) ?_
          refine zj_callV (av := [.inl x13, .inl 0, .inl 0]) (st := []) (zdk ttX7_readBoats 21 rfl rfl) mb_X6_opensLine mv_RX7_35 (ci := 6) rfl rfl (k_L103 s15) rfl rfl (Nat.le_of_ble_eq_true rfl) (s2_X6_opensLine l h14 x13 0 0 s15 (by omega) (by omega) (by omega)) (rm_ok (by decide) (by decide)) (zq_i fun v49 h50 q48 => ?_)
          obtain ⟨b51, s52, f55, u53, u54⟩ := q48
          refine zj_if_eq (t := 54) (zdk ttX7_readBoats 22 rfl rfl) (by decide) (by omega) (fun c56 => ?_) (fun c56 => ?_)
          · refine zj_iconst (zdk ttX7_readBoats 28 rfl rfl) ?_
            have f57 : zfC (w_X7_readBoats p1) h h50 := zfC_t f16 f55 (fun a9 b9 z9 => by
              exact (Or.inl (by omega)))
            have b58 : h50.2 103 6 = (h14.2 103 6) := (zfC_a f55 (fun z9 => by unfold w_X6_opensLine at z9; first | (revert z9; decide) | omega))
            exact zj_zret rfl (zdk ttX7_readBoats 29 rfl rfl) (Nat.le_refl _) (Nat.le_refl _) (by omega) ⟨0, rfl, by omega, s52, f57, (by intro y7 y8; obtain ⟨j, t0, r0⟩ := u41 y7 y8; have k0 := t0.2.2.1.2; have l0 := t0.2.2.2.1; have e_1 := (u53 (h4.2 105) (h4.2 106) j t0).2 (by omega); exact ⟨(h4.2 105), (h4.2 106), _, u9, fun z => absurd z (by omega), fun _ => by rcases e_1 with ⟨q1, ⟨q2, q3⟩ | ⟨q2, q3, q4⟩⟩; exact ⟨j, _, ⟨q3, q1⟩, tRe_s r0 (tMl_1 (Or.inl rfl) (by omega) (by omega))⟩; exact ⟨j, _, ⟨q4, q1⟩, tRe_s r0 (tMl_3 (Or.inl rfl) (by omega) (by omega))⟩⟩)⟩
          · refine zj_aload_n (zdk ttX7_readBoats 23 rfl rfl) rfl (by decide) ?_
            refine zj_aload_n (zdk ttX7_readBoats 24 rfl rfl) rfl (by omega) ?_
            refine zj_iload_n (zdk ttX7_readBoats 25 rfl rfl) rfl ?_
            refine zj_callV (av := [.inr p1, .inl x13]) (st := []) (zdk ttX7_readBoats 26 rfl rfl) mb_X7_readBoat mv_RX7_97 (ci := 7) rfl rfl (k_L107 s52) rfl rfl (Nat.le_of_ble_eq_true rfl) (s2_X7_readBoat l h50 p1 x13 s52 r_p1 (by omega)) (rm_ok (by decide) (by decide)) (zq_i fun v60 h61 q59 => ?_)
            obtain ⟨b62, s63, f65, u64⟩ := q59
            refine zj_if_ne (t := 56) (zdk ttX7_readBoats 27 rfl rfl) (by decide) (by omega) (fun c66 => ?_) (fun c66 => ?_)
            · refine zj_aload_n (zdk ttX7_readBoats 30 rfl rfl) rfl (by omega) ?_
              refine zj_iload_n (zdk ttX7_readBoats 31 rfl rfl) rfl ?_
              refine zj_iconst (zdk ttX7_readBoats 32 rfl rfl) ?_
              refine zj_iadd (zdk ttX7_readBoats 33 rfl rfl) ?_
              refine zj_puti (zdk ttX7_readBoats 34 rfl rfl) zf_RX7_96 rfl (k_4_0 s63 r_p1) (Or.inl zw_RX7_96) (k2 := 3) rfl (fun h67 e68 => ?_)
              refine zj_iinc (L' := [some (.inr 107), some (.inr p1), some (.inl (x13 + 1))]) (zdk ttX7_readBoats 35 rfl rfl) rfl (by decide) rfl ?_
              refine zj_goto (t := 16) (zdk ttX7_readBoats 36 rfl rfl) (by decide) ?_
              have b69 : h67.2 p1 3 = (x13 + 1) := (zwr_v e68)
              have s70 : okC h67 := fw_4_0_3 s63 r_p1 e68 (by omega)
              have f73 : zfC (w_X7_readBoats p1) h h50 := zfC_t f16 f55 (fun a9 b9 z9 => by
                exact (Or.inl (by omega)))
              have f72 : zfC (w_X7_readBoats p1) h h61 := zfC_t f73 f65 (fun a9 b9 z9 => by
                rcases z9 with z9 | z9
                · exact (Or.inl (by omega))
                · exact (Or.inr (Or.inr (Or.inr (by omega)))))
              have f71 : zfC (w_X7_readBoats p1) h h67 := zfC_w f72 e68 (Or.inr (Or.inr (Or.inl (by omega))))
              have b74 : h50.2 103 6 = (h14.2 103 6) := (zfC_a f55 (fun z9 => by unfold w_X6_opensLine at z9; first | (revert z9; decide) | omega))
              have b75 : h67.2 103 6 = (h61.2 103 6) := (zwr_r e68 (by first | decide | exact (absurd ·.1 (by decide)) | exact (absurd ·.2 (by decide)) | omega))
              exact ih44  (x13 + 1) h67 (by omega) s70 f71 (by intro y7 y8; obtain ⟨j, t0, r0⟩ := u41 y7 y8; have k0 := t0.2.2.1.2; have l0 := t0.2.2.2.1; have r_1 := (u53 (h4.2 105) (h4.2 106) j t0).1 (by omega); obtain ⟨r_2j, r_2a, r_2l, r_2r⟩ := (u64 (h4.2 105) (h4.2 106) j r_1.2.2 (by have z9 := r_1.1; omega)).1 (by omega); have a_3 : tPo (h4.2 105) (h4.2 106) r_2j h67 := tPo_f r_2a (fun i => (zwr_r e68 (by first | decide | exact (absurd ·.1 (by decide)) | exact (absurd ·.2 (by decide)) | omega))) (fun i => (zwr_r e68 (by first | decide | exact (absurd ·.1 (by decide)) | exact (absurd ·.2 (by decide)) | omega))) (zwr_r e68 (by first | decide | exact (absurd ·.1 (by decide)) | exact (absurd ·.2 (by decide)) | omega)) (zwr_r e68 (by first | decide | exact (absurd ·.1 (by decide)) | exact (absurd ·.2 (by decide)) | omega)) (zwr_r e68 (by first | decide | exact (absurd ·.1 (by decide)) | exact (absurd ·.2 (by decide)) | omega)) (zwr_r e68 (by first | decide | exact (absurd ·.1 (by decide)) | exact (absurd ·.2 (by decide)) | omega)) (zwr_r e68 (by first | decide | exact (absurd ·.1 (by decide)) | exact (absurd ·.2 (by decide)) | omega)); exact ⟨r_2j, a_3, tRe_t r0 (r_2r 0 [])⟩) (by omega) (by omega)
            · refine zj_iconst (zdk ttX7_readBoats 28 rfl rfl) ?_
              have f77 : zfC (w_X7_readBoats p1) h h50 := zfC_t f16 f55 (fun a9 b9 z9 => by
                exact (Or.inl (by omega)))
              have f76 : zfC (w_X7_readBoats p1) h h61 := zfC_t f77 f65 (fun a9 b9 z9 => by
                rcases z9 with z9 | z9
                · exact (Or.inl (by omega))
                · exact (Or.inr (Or.inr (Or.inr (by omega)))))
              have b78 : h50.2 103 6 = (h14.2 103 6) := (zfC_a f55 (fun z9 => by unfold w_X6_opensLine at z9; first | (revert z9; decide) | omega))
              exact zj_zret rfl (zdk ttX7_readBoats 29 rfl rfl) (Nat.le_refl _) (Nat.le_refl _) (by omega) ⟨0, rfl, by omega, s63, f76, (by intro y7 y8; obtain ⟨j, t0, r0⟩ := u41 y7 y8; have k0 := t0.2.2.1.2; have l0 := t0.2.2.2.1; have r_1 := (u53 (h4.2 105) (h4.2 106) j t0).1 (by omega); obtain ⟨e_2i, e_2f, e_2q, e_2r⟩ := (u64 (h4.2 105) (h4.2 106) j r_1.2.2 (by have z9 := r_1.1; omega)).2 (by omega); exact ⟨(h4.2 105), (h4.2 106), _, u9, fun z => absurd z (by omega), fun _ => ⟨e_2i, e_2f, e_2q, tRe_t r0 (e_2r 0 [])⟩⟩)⟩
  have b79 : h11.2 p1 3 = 0 := (zwr_v e12)
  have s80 : okC h11 := fw_4_0_3 s6 r_p1 e12 (by omega)
  have f82 : zfC (w_X7_readBoats p1) h h4 := zfC_t (zfC_r _ _) f10 (fun a9 b9 z9 => by
    rcases z9 with z9 | z9
    · exact (Or.inl (by omega))
    · exact (Or.inr (Or.inl z9)))
  have f81 : zfC (w_X7_readBoats p1) h h11 := zfC_w f82 e12 (Or.inr (Or.inr (Or.inl (by omega))))
  have b83 : h11.2 103 6 = (h4.2 103 6) := (zwr_r e12 (by first | decide | exact (absurd ·.1 (by decide)) | exact (absurd ·.2 (by decide)) | omega))
  exact lp39 _ 0 h11 (by omega) s80 f81 (by intro y7 y8; have t0 := tCk_po (h := h4) (by have z8 := u9; exact z8) u7 u8 ((zfC_a f10 (fun z9 => by unfold w_X6_cut at z9; first | (revert z9; decide) | omega)).trans y7) ((zfC_a f10 (fun z9 => by unfold w_X6_cut at z9; first | (revert z9; decide) | omega)).trans y8); have k0 := t0.2.2.1.2; have l0 := t0.2.2.2.1; have a_1 : tPo (h4.2 105) (h4.2 106) 0 h11 := tPo_f t0 (fun i => (zwr_r e12 (by first | decide | exact (absurd ·.1 (by decide)) | exact (absurd ·.2 (by decide)) | omega))) (fun i => (zwr_r e12 (by first | decide | exact (absurd ·.1 (by decide)) | exact (absurd ·.2 (by decide)) | omega))) (zwr_r e12 (by first | decide | exact (absurd ·.1 (by decide)) | exact (absurd ·.2 (by decide)) | omega)) (zwr_r e12 (by first | decide | exact (absurd ·.1 (by decide)) | exact (absurd ·.2 (by decide)) | omega)) (zwr_r e12 (by first | decide | exact (absurd ·.1 (by decide)) | exact (absurd ·.2 (by decide)) | omega)) (zwr_r e12 (by first | decide | exact (absurd ·.1 (by decide)) | exact (absurd ·.2 (by decide)) | omega)) (zwr_r e12 (by first | decide | exact (absurd ·.1 (by decide)) | exact (absurd ·.2 (by decide)) | omega)); exact ⟨0, a_1, tRe_r⟩) (by omega) (Nat.lt_succ_self _)

abbrev q2_X7_readAmount (h : zM) (p1 : Int) (p2 : Int) : Option zV → zM → Prop := zqi fun v h' => (0 ≤ v ∧ v ≤ 1) ∧ okC h' ∧ zfC w_X7_readAmount h h' ∧ (∀ T P j, tPo T P j h → (v = 1 → 0 ≤ tNm (if 5 ≤ p1 then 1 else 0) (if p1 = 5 then 99 else if p1 = 6 then 719 else p2 - 1) (T j) ∧ tPo T P (j + 1) h') ∧ (v = 0 → tNm (if 5 ≤ p1 then 1 else 0) (if p1 = 5 then 99 else if p1 = 6 then 719 else p2 - 1) (T j) < 0 ∧ h'.2 103 7 = -(tNm (if 5 ≤ p1 then 1 else 0) (if p1 = 5 then 99 else if p1 = 6 then 719 else p2 - 1) (T j)) ∧ h'.2 103 8 = P j))
set_option maxRecDepth 100000 in
set_option maxHeartbeats 4000000 in
theorem s2_X7_readAmount (l : Launch) (h : zM) (p1 : Int) (p2 : Int) (s0 : okC h) (b_p1 : 1 ≤ p1 ∧ p1 ≤ 6) (b_p2 : 0 ≤ p2 ∧ p2 ≤ 18) : zT shC l yX7_readAmount cX7_readAmount 3 (some .boolean) (rmL 5) 0 0 [.inr 107, .inl p1, .inl p2] h (q2_X7_readAmount h p1 p2) := by
  refine zT_of (by decide +kernel) (L0 := [some (.inr 107), some (.inl p1), some (.inl p2)]) rfl (Nat.le_of_ble_eq_true rfl) ?_
  refine zj_iload_n (zdk ttX7_readAmount 0 rfl rfl) rfl ?_
  have k2 : (¬ p1 = 5 ∧ ¬ p1 = 6) → zJ shC l yX7_readAmount cX7_readAmount 3 (some .boolean) (rmL 5) 0 0 (q2_X7_readAmount h p1 p2) 0 0 51 [some (.inr 107), some (.inl p1), some (.inl p2)] [] h := by
    intro c1
    refine zj_aload_n (zdk ttX7_readAmount 14 rfl rfl) rfl (by decide) ?_
    refine zj_getr (r := 103) (zdk ttX7_readAmount 15 rfl rfl) zf_RX7_9 rfl (k_L107 s0) (rf_L107_0 s0) ?_
    refine zj_iconst (zdk ttX7_readAmount 16 rfl rfl) ?_
    refine zj_iload_n (zdk ttX7_readAmount 17 rfl rfl) rfl ?_
    refine zj_iconst (zdk ttX7_readAmount 18 rfl rfl) ?_
    refine zj_isub (zdk ttX7_readAmount 19 rfl rfl) ?_
    refine zj_callV (av := [.inl 0, .inl (p2 - 1)]) (st := []) (zdk ttX7_readAmount 20 rfl rfl) mb_X6_takesNumber mv_RX7_104 (ci := 6) rfl rfl (k_L103 s0) rfl rfl (Nat.le_of_ble_eq_true rfl) (s2_X6_takesNumber l h 0 (p2 - 1) s0 (by omega) (by omega)) (rm_ok (by decide) (by decide)) (zq_i fun v4 h5 q3 => ?_)
    obtain ⟨b6, s7, f10, u8, u9⟩ := q3
    have f11 : zfC w_X7_readAmount h h5 := zfC_t (zfC_r _ _) f10 (fun a9 b9 z9 => by
      exact z9)
    exact zj_zret rfl (zdk ttX7_readAmount 21 rfl rfl) (Nat.le_refl _) (Nat.le_refl _) (by omega) ⟨v4, rfl, by omega, s7, f11, (by intro T P j t0; have e9 := u8 T P j t0; (first | rw [if_pos (show 5 ≤ p1 by omega), if_pos (show p1 = 5 by omega)] | rw [if_pos (show 5 ≤ p1 by omega), if_neg (show ¬ p1 = 5 by omega), if_pos (show p1 = 6 by omega)] | rw [if_neg (show ¬ 5 ≤ p1 by omega), if_neg (show ¬ p1 = 5 by omega), if_neg (show ¬ p1 = 6 by omega)]); exact ⟨fun z => ⟨(e9.1 z).1, (e9.1 z).2.2⟩, fun z => e9.2 z⟩)⟩
  have k12 : p1 = 5 → zJ shC l yX7_readAmount cX7_readAmount 3 (some .boolean) (rmL 5) 0 0 (q2_X7_readAmount h p1 p2) 0 0 28 [some (.inr 107), some (.inl p1), some (.inl p2)] [] h := by
    intro c1
    refine zj_aload_n (zdk ttX7_readAmount 2 rfl rfl) rfl (by decide) ?_
    refine zj_getr (r := 103) (zdk ttX7_readAmount 3 rfl rfl) zf_RX7_9 rfl (k_L107 s0) (rf_L107_0 s0) ?_
    refine zj_iconst (zdk ttX7_readAmount 4 rfl rfl) ?_
    refine zj_bipush (zdk ttX7_readAmount 5 rfl rfl) (by decide) ?_
    refine zj_callV (av := [.inl 1, .inl 99]) (st := []) (zdk ttX7_readAmount 6 rfl rfl) mb_X6_takesNumber mv_RX7_104 (ci := 6) rfl rfl (k_L103 s0) rfl rfl (Nat.le_of_ble_eq_true rfl) (s2_X6_takesNumber l h 1 99 s0 (by omega) (by omega)) (rm_ok (by decide) (by decide)) (zq_i fun v14 h15 q13 => ?_)
    obtain ⟨b16, s17, f20, u18, u19⟩ := q13
    have f21 : zfC w_X7_readAmount h h15 := zfC_t (zfC_r _ _) f20 (fun a9 b9 z9 => by
      exact z9)
    exact zj_zret rfl (zdk ttX7_readAmount 7 rfl rfl) (Nat.le_refl _) (Nat.le_refl _) (by omega) ⟨v14, rfl, by omega, s17, f21, (by intro T P j t0; have e9 := u18 T P j t0; (first | rw [if_pos (show 5 ≤ p1 by omega), if_pos (show p1 = 5 by omega)] | rw [if_pos (show 5 ≤ p1 by omega), if_neg (show ¬ p1 = 5 by omega), if_pos (show p1 = 6 by omega)] | rw [if_neg (show ¬ 5 ≤ p1 by omega), if_neg (show ¬ p1 = 5 by omega), if_neg (show ¬ p1 = 6 by omega)]); exact ⟨fun z => ⟨(e9.1 z).1, (e9.1 z).2.2⟩, fun z => e9.2 z⟩)⟩
  have k22 : p1 = 6 → zJ shC l yX7_readAmount cX7_readAmount 3 (some .boolean) (rmL 5) 0 0 (q2_X7_readAmount h p1 p2) 0 0 39 [some (.inr 107), some (.inl p1), some (.inl p2)] [] h := by
    intro c1
    refine zj_aload_n (zdk ttX7_readAmount 8 rfl rfl) rfl (by decide) ?_
    refine zj_getr (r := 103) (zdk ttX7_readAmount 9 rfl rfl) zf_RX7_9 rfl (k_L107 s0) (rf_L107_0 s0) ?_
    refine zj_iconst (zdk ttX7_readAmount 10 rfl rfl) ?_
    refine zj_sipush (zdk ttX7_readAmount 11 rfl rfl) (by decide) ?_
    refine zj_callV (av := [.inl 1, .inl 719]) (st := []) (zdk ttX7_readAmount 12 rfl rfl) mb_X6_takesNumber mv_RX7_104 (ci := 6) rfl rfl (k_L103 s0) rfl rfl (Nat.le_of_ble_eq_true rfl) (s2_X6_takesNumber l h 1 719 s0 (by omega) (by omega)) (rm_ok (by decide) (by decide)) (zq_i fun v24 h25 q23 => ?_)
    obtain ⟨b26, s27, f30, u28, u29⟩ := q23
    have f31 : zfC w_X7_readAmount h h25 := zfC_t (zfC_r _ _) f30 (fun a9 b9 z9 => by
      exact z9)
    exact zj_zret rfl (zdk ttX7_readAmount 13 rfl rfl) (Nat.le_refl _) (Nat.le_refl _) (by omega) ⟨v24, rfl, by omega, s27, f31, (by intro T P j t0; have e9 := u28 T P j t0; (first | rw [if_pos (show 5 ≤ p1 by omega), if_pos (show p1 = 5 by omega)] | rw [if_pos (show 5 ≤ p1 by omega), if_neg (show ¬ p1 = 5 by omega), if_pos (show p1 = 6 by omega)] | rw [if_neg (show ¬ 5 ≤ p1 by omega), if_neg (show ¬ p1 = 5 by omega), if_neg (show ¬ p1 = 6 by omega)]); exact ⟨fun z => ⟨(e9.1 z).1, (e9.1 z).2.2⟩, fun z => e9.2 z⟩)⟩
  by_cases z32 : p1 = 5
  · exact zj_lookup (t := 28) (zdk ttX7_readAmount 1 rfl rfl) (by omega) rfl (by rw [z32] <;> rfl) (by decide) (k12 z32)
  by_cases z33 : p1 = 6
  · exact zj_lookup (t := 39) (zdk ttX7_readAmount 1 rfl rfl) (by omega) rfl (by rw [z33] <;> rfl) (by decide) (k22 z33)
  exact zj_lookup (t := 51) (zdk ttX7_readAmount 1 rfl rfl) (by omega) rfl (by show Op.lookupswitch.offset [(5, 27), (6, 38)] 50 p1 = _; rw [Op.lookupswitch.offset_cons, if_neg (by omega), Op.lookupswitch.offset_cons, if_neg (by omega), Op.lookupswitch.offset_nil]) (by decide) (k2 (by omega))

abbrev q2_X7_readDoing (h : zM) (p1 : Int) (p2 : Int) (p3 : Int) : Option zV → zM → Prop := zqi fun v h' => (0 ≤ v ∧ v ≤ 1) ∧ okC h' ∧ zfC (w_X7_readDoing p1) h h' ∧ (∀ T P j, tPo T P j h → T j = 200 → (v = 1 → ∃ j9, tPo T P j9 h' ∧ j < j9 ∧ ∀ s9, tRe T p3 (30, j, p2, s9) (30, j9, p2 + 1, [])) ∧ (v = 0 → ∃ i9 f9, (h'.2 103 7 = f9 ∧ h'.2 103 8 = P i9) ∧ ∀ s9, tRe T p3 (30, j, p2, s9) (tEr i9 f9)))
set_option maxRecDepth 100000 in
set_option maxHeartbeats 4000000 in
theorem s2_X7_readDoing (l : Launch) (h : zM) (p1 : Int) (p2 : Int) (p3 : Int) (s0 : okC h) (r_p1 : zPl p1) (b_p2 : 0 ≤ p2 ∧ p2 ≤ 15) (b_p3 : 0 ≤ p3 ∧ p3 ≤ 18) : zT shC l yX7_readDoing cX7_readDoing 5 (some .boolean) (rmL 6) 0 0 [.inr 107, .inr p1, .inl p2, .inl p3] h (q2_X7_readDoing h p1 p2 p3) := by
  refine zT_of (by decide +kernel) (L0 := [some (.inr 107), some (.inr p1), some (.inl p2), some (.inl p3), none]) rfl (Nat.le_of_ble_eq_true rfl) ?_
  have b1 := zPl_b r_p1
  refine zj_aload_n (zdk ttX7_readDoing 0 rfl rfl) rfl (by decide) ?_
  refine zj_aload_n (zdk ttX7_readDoing 1 rfl rfl) rfl (by omega) ?_
  refine zj_iload_n (zdk ttX7_readDoing 2 rfl rfl) rfl ?_
  refine zj_callV (av := [.inr p1, .inl p2]) (st := []) (zdk ttX7_readDoing 3 rfl rfl) mb_X7_readDay mv_RX7_101 (ci := 7) rfl rfl (k_L107 s0) rfl rfl (Nat.le_of_ble_eq_true rfl) (s2_X7_readDay l h p1 p2 s0 r_p1 (by omega)) (rm_ok (by decide) (by decide)) (zq_i fun v3 h4 q2 => ?_)
  obtain ⟨b5, s6, f8, u7⟩ := q2
  refine zj_if_ne (t := 11) (zdk ttX7_readDoing 4 rfl rfl) (by decide) (by omega) (fun c9 => ?_) (fun c9 => ?_)
  · refine zj_aload_n (zdk ttX7_readDoing 7 rfl rfl) rfl (by decide) ?_
    refine zj_getr (r := 103) (zdk ttX7_readDoing 8 rfl rfl) zf_RX7_9 rfl (k_L107 s6) (rf_L107_0 s6) ?_
    refine zj_iconst (zdk ttX7_readDoing 9 rfl rfl) ?_
    refine zj_bipush (zdk ttX7_readDoing 10 rfl rfl) (by decide) ?_
    refine zj_callV (av := [.inl 1, .inl 6]) (st := []) (zdk ttX7_readDoing 11 rfl rfl) mb_X6_isWord mv_RX7_60 (ci := 6) rfl rfl (k_L103 s6) rfl rfl (Nat.le_of_ble_eq_true rfl) (s_X6_isWord l h4 1 6 s6 (by omega) (by omega)) (rm_ok (by decide) (by decide)) (zq_i fun v11 h12 q10 => ?_)
    obtain ⟨rfl, b14, ⟨rfl, b13⟩ | ⟨rfl, b13⟩⟩ := q10
    · refine zj_if_ne (t := 33) (zdk ttX7_readDoing 12 rfl rfl) (by decide) (by decide) (fun c15 => ?_) (fun c15 => ?_)
      · exact absurd c15 (by omega)
      · refine zj_aload_n (zdk ttX7_readDoing 13 rfl rfl) rfl (by decide) ?_
        refine zj_getr (r := 103) (zdk ttX7_readDoing 14 rfl rfl) zf_RX7_9 rfl (k_L107 s6) (rf_L107_0 s6) ?_
        refine zj_iconst (zdk ttX7_readDoing 15 rfl rfl) ?_
        refine zj_callV (av := [.inl 1]) (st := []) (zdk ttX7_readDoing 16 rfl rfl) mb_X6_refuse mv_RX7_81 (ci := 6) rfl rfl (k_L103 s6) rfl rfl (Nat.le_of_ble_eq_true rfl) (s2_X6_refuse l h4 1 s6 (by omega)) (rm_ok (by decide) (by decide)) (zq_i fun v17 h18 q16 => ?_)
        obtain ⟨b19, s20, f22, u21⟩ := q16
        have f24 : zfC (w_X7_readDoing p1) h h4 := zfC_t (zfC_r _ _) f8 (fun a9 b9 z9 => by
          rcases z9 with z9 | z9
          · exact (Or.inl z9)
          · exact (Or.inr (by omega)))
        have f23 : zfC (w_X7_readDoing p1) h h18 := zfC_t f24 f22 (fun a9 b9 z9 => by
          exact (Or.inl (by omega)))
        have b25 : h18.2 103 6 = (h4.2 103 6) := (zfC_a f22 (fun z9 => by unfold w_X6_refuse at z9; first | (revert z9; decide) | omega))
        exact zj_zret rfl (zdk ttX7_readDoing 17 rfl rfl) (Nat.le_refl _) (Nat.le_refl _) (by omega) ⟨v17, rfl, by omega, s20, f23, (by intro T P j t0 yh9; have k0 := t0.2.2.1.2; have l0 := t0.2.2.2.1; have r_1 := (u7 T P j t0 yh9).1 (by omega); have k_2 := r_1.2.2.2.1.2; have k_2l := r_1.2.2.2.2.1; have e_3 := u21 T P (j + 1 + 1) r_1.2; exact ⟨fun z => absurd z (by omega), fun _ => ⟨(j + 1 + 1), _, e_3, fun s9 => tRe_s (tRe_s (tRe_s tRe_r (tMl_l (Or.inr (Or.inl rfl)) yh9 (by omega))) (tMd_y (Or.inr rfl) rfl r_1.1)) (tM32_n (by omega))⟩⟩)⟩
    · refine zj_if_ne (t := 33) (zdk ttX7_readDoing 12 rfl rfl) (by decide) (by decide) (fun c26 => ?_) (fun c26 => ?_)
      · refine zj_aload_n (zdk ttX7_readDoing 18 rfl rfl) rfl (by decide) ?_
        refine zj_getr (r := 103) (zdk ttX7_readDoing 19 rfl rfl) zf_RX7_9 rfl (k_L107 s6) (rf_L107_0 s6) ?_
        refine zj_geti (v := (h4.2 103 6)) (zdk ttX7_readDoing 20 rfl rfl) zf_RX7_32 rfl (k_L103 s6) rfl ?_
        refine zj_sipush (zdk ttX7_readDoing 21 rfl rfl) (by decide) ?_
        refine zj_isub (zdk ttX7_readDoing 22 rfl rfl) ?_
        refine zj_istore (L' := [some (.inr 107), some (.inr p1), some (.inl p2), some (.inl p3), some (.inl ((h4.2 103 6) - 200))]) (zdk ttX7_readDoing 23 rfl rfl) (by decide) rfl ?_
        refine zj_aload_n (zdk ttX7_readDoing 24 rfl rfl) rfl (by decide) ?_
        refine zj_getr (r := 103) (zdk ttX7_readDoing 25 rfl rfl) zf_RX7_9 rfl (k_L107 s6) (rf_L107_0 s6) ?_
        refine zj_callV (av := []) (st := []) (zdk ttX7_readDoing 26 rfl rfl) mb_X6_pass mv_RX7_47 (ci := 6) rfl rfl (k_L103 s6) rfl rfl (Nat.le_of_ble_eq_true rfl) (s2_X6_pass l h4 s6) (rm_ok (by decide) (by decide)) (zq_v fun h29 q27 => ?_)
        obtain ⟨s31, f33, u32⟩ := q27
        refine zj_aload_n (zdk ttX7_readDoing 27 rfl rfl) rfl (by omega) ?_
        refine zj_getr (r := (p1 + 2)) (zdk ttX7_readDoing 28 rfl rfl) zf_RX7_113 rfl (k_4_0 s31 r_p1) (rf_4_0_1 s31 r_p1) ?_
        refine zj_iload_n (zdk ttX7_readDoing 29 rfl rfl) rfl ?_
        refine zj_iload (zdk ttX7_readDoing 30 rfl rfl) rfl ?_
        refine zj_iast (zdk ttX7_readDoing 31 rfl rfl) (ka_4_0_1 s31 r_p1) (by decide) (by omega) (fun h34 e35 => ?_)
        refine zj_aload_n (zdk ttX7_readDoing 32 rfl rfl) rfl (by omega) ?_
        have s36 : okC h34 := aw_4_0_1 s31 r_p1 e35 (by omega)
        refine zj_getr (r := (p1 + 3)) (zdk ttX7_readDoing 33 rfl rfl) zf_RX7_107 rfl (k_4_0 s36 r_p1) (rf_4_0_2 s36 r_p1) ?_
        refine zj_iload_n (zdk ttX7_readDoing 34 rfl rfl) rfl ?_
        refine zj_iconst (zdk ttX7_readDoing 35 rfl rfl) ?_
        refine zj_iast (zdk ttX7_readDoing 36 rfl rfl) (ka_4_0_2 s36 r_p1) (by decide) (by omega) (fun h37 e38 => ?_)
        refine zj_iload (zdk ttX7_readDoing 37 rfl rfl) rfl ?_
        refine zj_iconst (zdk ttX7_readDoing 38 rfl rfl) ?_
        refine zj_icmp_eq (t := 105) (zdk ttX7_readDoing 39 rfl rfl) (by decide) (by omega) (by decide) (fun c39 => ?_) (fun c39 => ?_)
        · refine zj_aload_n (zdk ttX7_readDoing 57 rfl rfl) rfl (by decide) ?_
          have s40 : okC h37 := aw_4_0_2 s36 r_p1 e38 (by omega)
          refine zj_getr (r := 103) (zdk ttX7_readDoing 58 rfl rfl) zf_RX7_9 rfl (k_L107 s40) (rf_L107_0 s40) ?_
          refine zj_bipush (zdk ttX7_readDoing 59 rfl rfl) (by decide) ?_
          refine zj_callV (av := [.inl 59]) (st := []) (zdk ttX7_readDoing 60 rfl rfl) mb_X6_takes mv_RX7_70 (ci := 6) rfl rfl (k_L103 s40) rfl rfl (Nat.le_of_ble_eq_true rfl) (s2_X6_takes l h37 59 s40 (by omega)) (rm_ok (by decide) (by decide)) (zq_i fun v42 h43 q41 => ?_)
          obtain ⟨b44, s45, f47, u46⟩ := q41
          have f52 : zfC (w_X7_readDoing p1) h h4 := zfC_t (zfC_r _ _) f8 (fun a9 b9 z9 => by
            rcases z9 with z9 | z9
            · exact (Or.inl z9)
            · exact (Or.inr (by omega)))
          have f51 : zfC (w_X7_readDoing p1) h h29 := zfC_t f52 f33 (fun a9 b9 z9 => by
            exact (Or.inl (by omega)))
          have f50 : zfC (w_X7_readDoing p1) h h34 := zfC_w f51 e35 (Or.inr (by omega))
          have f49 : zfC (w_X7_readDoing p1) h h37 := zfC_w f50 e38 (Or.inr (by omega))
          have f48 : zfC (w_X7_readDoing p1) h h43 := zfC_t f49 f47 (fun a9 b9 z9 => by
            exact (Or.inl (by omega)))
          have b53 : h34.2 103 6 = (h29.2 103 6) := (zwr_r e35 (by first | decide | exact (absurd ·.1 (by decide)) | exact (absurd ·.2 (by decide)) | omega))
          have b54 : h37.2 103 6 = (h29.2 103 6) := ((zwr_r e38 (by first | decide | exact (absurd ·.1 (by decide)) | exact (absurd ·.2 (by decide)) | omega)).trans (zwr_r e35 (by first | decide | exact (absurd ·.1 (by decide)) | exact (absurd ·.2 (by decide)) | omega)))
          exact zj_zret rfl (zdk ttX7_readDoing 61 rfl rfl) (Nat.le_refl _) (Nat.le_refl _) (by omega) ⟨v42, rfl, by omega, s45, f48, (by intro T P j t0 yh9; have k0 := t0.2.2.1.2; have l0 := t0.2.2.2.1; have r_1 := (u7 T P j t0 yh9).1 (by omega); have k_2 := r_1.2.2.2.1.2; have k_2l := r_1.2.2.2.2.1; have k_3 := r_1.2.2.2.1.2; have k_3l := r_1.2.2.2.2.1; have a_4 : tPo T P ((j + 1 + 1) + 1) h29 := u32 T P (j + 1 + 1) r_1.2 (by omega); have a_5 : tPo T P ((j + 1 + 1) + 1) h34 := tPo_f a_4 (fun i => (zwr_r e35 (by first | decide | exact (absurd ·.1 (by decide)) | exact (absurd ·.2 (by decide)) | omega))) (fun i => (zwr_r e35 (by first | decide | exact (absurd ·.1 (by decide)) | exact (absurd ·.2 (by decide)) | omega))) (zwr_r e35 (by first | decide | exact (absurd ·.1 (by decide)) | exact (absurd ·.2 (by decide)) | omega)) (zwr_r e35 (by first | decide | exact (absurd ·.1 (by decide)) | exact (absurd ·.2 (by decide)) | omega)) (zwr_r e35 (by first | decide | exact (absurd ·.1 (by decide)) | exact (absurd ·.2 (by decide)) | omega)) (zwr_r e35 (by first | decide | exact (absurd ·.1 (by decide)) | exact (absurd ·.2 (by decide)) | omega)) (zwr_r e35 (by first | decide | exact (absurd ·.1 (by decide)) | exact (absurd ·.2 (by decide)) | omega)); have a_6 : tPo T P ((j + 1 + 1) + 1) h37 := tPo_f a_5 (fun i => (zwr_r e38 (by first | decide | exact (absurd ·.1 (by decide)) | exact (absurd ·.2 (by decide)) | omega))) (fun i => (zwr_r e38 (by first | decide | exact (absurd ·.1 (by decide)) | exact (absurd ·.2 (by decide)) | omega))) (zwr_r e38 (by first | decide | exact (absurd ·.1 (by decide)) | exact (absurd ·.2 (by decide)) | omega)) (zwr_r e38 (by first | decide | exact (absurd ·.1 (by decide)) | exact (absurd ·.2 (by decide)) | omega)) (zwr_r e38 (by first | decide | exact (absurd ·.1 (by decide)) | exact (absurd ·.2 (by decide)) | omega)) (zwr_r e38 (by first | decide | exact (absurd ·.1 (by decide)) | exact (absurd ·.2 (by decide)) | omega)) (zwr_r e38 (by first | decide | exact (absurd ·.1 (by decide)) | exact (absurd ·.2 (by decide)) | omega)); have e_7 := u46 T P ((j + 1 + 1) + 1) a_6; exact ⟨fun z => ⟨(((j + 1 + 1) + 1) + 1), (e_7.1 z).2 (by omega), by omega, fun s9 => tRe_s (tRe_s (tRe_s (tRe_s tRe_r (tMl_l (Or.inr (Or.inl rfl)) yh9 (by omega))) (tMd_y (Or.inr rfl) rfl r_1.1)) (tM32_s (by omega))) (tMs_y (Or.inr (Or.inl ⟨rfl, rfl⟩)) (e_7.1 z).1)⟩, fun z => ⟨((j + 1 + 1) + 1), _, (e_7.2 z).2, fun s9 => tRe_s (tRe_s (tRe_s (tRe_s tRe_r (tMl_l (Or.inr (Or.inl rfl)) yh9 (by omega))) (tMd_y (Or.inr rfl) rfl r_1.1)) (tM32_s (by omega))) (tMs_n (Or.inr (Or.inl rfl)) (e_7.2 z).1)⟩⟩)⟩
        · refine zj_iload (zdk ttX7_readDoing 40 rfl rfl) rfl ?_
          refine zj_iconst (zdk ttX7_readDoing 41 rfl rfl) ?_
          refine zj_icmp_eq (t := 105) (zdk ttX7_readDoing 42 rfl rfl) (by decide) (by omega) (by decide) (fun c55 => ?_) (fun c55 => ?_)
          · refine zj_aload_n (zdk ttX7_readDoing 57 rfl rfl) rfl (by decide) ?_
            have s56 : okC h37 := aw_4_0_2 s36 r_p1 e38 (by omega)
            refine zj_getr (r := 103) (zdk ttX7_readDoing 58 rfl rfl) zf_RX7_9 rfl (k_L107 s56) (rf_L107_0 s56) ?_
            refine zj_bipush (zdk ttX7_readDoing 59 rfl rfl) (by decide) ?_
            refine zj_callV (av := [.inl 59]) (st := []) (zdk ttX7_readDoing 60 rfl rfl) mb_X6_takes mv_RX7_70 (ci := 6) rfl rfl (k_L103 s56) rfl rfl (Nat.le_of_ble_eq_true rfl) (s2_X6_takes l h37 59 s56 (by omega)) (rm_ok (by decide) (by decide)) (zq_i fun v58 h59 q57 => ?_)
            obtain ⟨b60, s61, f63, u62⟩ := q57
            have f68 : zfC (w_X7_readDoing p1) h h4 := zfC_t (zfC_r _ _) f8 (fun a9 b9 z9 => by
              rcases z9 with z9 | z9
              · exact (Or.inl z9)
              · exact (Or.inr (by omega)))
            have f67 : zfC (w_X7_readDoing p1) h h29 := zfC_t f68 f33 (fun a9 b9 z9 => by
              exact (Or.inl (by omega)))
            have f66 : zfC (w_X7_readDoing p1) h h34 := zfC_w f67 e35 (Or.inr (by omega))
            have f65 : zfC (w_X7_readDoing p1) h h37 := zfC_w f66 e38 (Or.inr (by omega))
            have f64 : zfC (w_X7_readDoing p1) h h59 := zfC_t f65 f63 (fun a9 b9 z9 => by
              exact (Or.inl (by omega)))
            have b69 : h34.2 103 6 = (h29.2 103 6) := (zwr_r e35 (by first | decide | exact (absurd ·.1 (by decide)) | exact (absurd ·.2 (by decide)) | omega))
            have b70 : h37.2 103 6 = (h29.2 103 6) := ((zwr_r e38 (by first | decide | exact (absurd ·.1 (by decide)) | exact (absurd ·.2 (by decide)) | omega)).trans (zwr_r e35 (by first | decide | exact (absurd ·.1 (by decide)) | exact (absurd ·.2 (by decide)) | omega)))
            exact zj_zret rfl (zdk ttX7_readDoing 61 rfl rfl) (Nat.le_refl _) (Nat.le_refl _) (by omega) ⟨v58, rfl, by omega, s61, f64, (by intro T P j t0 yh9; have k0 := t0.2.2.1.2; have l0 := t0.2.2.2.1; have r_1 := (u7 T P j t0 yh9).1 (by omega); have k_2 := r_1.2.2.2.1.2; have k_2l := r_1.2.2.2.2.1; have k_3 := r_1.2.2.2.1.2; have k_3l := r_1.2.2.2.2.1; have a_4 : tPo T P ((j + 1 + 1) + 1) h29 := u32 T P (j + 1 + 1) r_1.2 (by omega); have a_5 : tPo T P ((j + 1 + 1) + 1) h34 := tPo_f a_4 (fun i => (zwr_r e35 (by first | decide | exact (absurd ·.1 (by decide)) | exact (absurd ·.2 (by decide)) | omega))) (fun i => (zwr_r e35 (by first | decide | exact (absurd ·.1 (by decide)) | exact (absurd ·.2 (by decide)) | omega))) (zwr_r e35 (by first | decide | exact (absurd ·.1 (by decide)) | exact (absurd ·.2 (by decide)) | omega)) (zwr_r e35 (by first | decide | exact (absurd ·.1 (by decide)) | exact (absurd ·.2 (by decide)) | omega)) (zwr_r e35 (by first | decide | exact (absurd ·.1 (by decide)) | exact (absurd ·.2 (by decide)) | omega)) (zwr_r e35 (by first | decide | exact (absurd ·.1 (by decide)) | exact (absurd ·.2 (by decide)) | omega)) (zwr_r e35 (by first | decide | exact (absurd ·.1 (by decide)) | exact (absurd ·.2 (by decide)) | omega)); have a_6 : tPo T P ((j + 1 + 1) + 1) h37 := tPo_f a_5 (fun i => (zwr_r e38 (by first | decide | exact (absurd ·.1 (by decide)) | exact (absurd ·.2 (by decide)) | omega))) (fun i => (zwr_r e38 (by first | decide | exact (absurd ·.1 (by decide)) | exact (absurd ·.2 (by decide)) | omega))) (zwr_r e38 (by first | decide | exact (absurd ·.1 (by decide)) | exact (absurd ·.2 (by decide)) | omega)) (zwr_r e38 (by first | decide | exact (absurd ·.1 (by decide)) | exact (absurd ·.2 (by decide)) | omega)) (zwr_r e38 (by first | decide | exact (absurd ·.1 (by decide)) | exact (absurd ·.2 (by decide)) | omega)) (zwr_r e38 (by first | decide | exact (absurd ·.1 (by decide)) | exact (absurd ·.2 (by decide)) | omega)) (zwr_r e38 (by first | decide | exact (absurd ·.1 (by decide)) | exact (absurd ·.2 (by decide)) | omega)); have e_7 := u62 T P ((j + 1 + 1) + 1) a_6; exact ⟨fun z => ⟨(((j + 1 + 1) + 1) + 1), (e_7.1 z).2 (by omega), by omega, fun s9 => tRe_s (tRe_s (tRe_s (tRe_s tRe_r (tMl_l (Or.inr (Or.inl rfl)) yh9 (by omega))) (tMd_y (Or.inr rfl) rfl r_1.1)) (tM32_s (by omega))) (tMs_y (Or.inr (Or.inl ⟨rfl, rfl⟩)) (e_7.1 z).1)⟩, fun z => ⟨((j + 1 + 1) + 1), _, (e_7.2 z).2, fun s9 => tRe_s (tRe_s (tRe_s (tRe_s tRe_r (tMl_l (Or.inr (Or.inl rfl)) yh9 (by omega))) (tMd_y (Or.inr rfl) rfl r_1.1)) (tM32_s (by omega))) (tMs_n (Or.inr (Or.inl rfl)) (e_7.2 z).1)⟩⟩)⟩
          · refine zj_aload_n (zdk ttX7_readDoing 43 rfl rfl) rfl (by decide) ?_
            refine zj_iload (zdk ttX7_readDoing 44 rfl rfl) rfl ?_
            refine zj_iload_n (zdk ttX7_readDoing 45 rfl rfl) rfl ?_
            have s71 : okC h37 := aw_4_0_2 s36 r_p1 e38 (by omega)
            refine zj_callV (av := [.inl ((h4.2 103 6) - 200), .inl p3]) (st := []) (zdk ttX7_readDoing 46 rfl rfl) mb_X7_readAmount mv_RX7_125 (ci := 7) rfl rfl (k_L107 s71) rfl rfl (Nat.le_of_ble_eq_true rfl) (s2_X7_readAmount l h37 ((h4.2 103 6) - 200) p3 s71 (by omega) (by omega)) (rm_ok (by decide) (by decide)) (zq_i fun v73 h74 q72 => ?_)
            obtain ⟨b75, s76, f78, u77⟩ := q72
            refine zj_if_ne (t := 92) (zdk ttX7_readDoing 47 rfl rfl) (by decide) (by omega) (fun c79 => ?_) (fun c79 => ?_)
            · refine zj_aload_n (zdk ttX7_readDoing 50 rfl rfl) rfl (by omega) ?_
              refine zj_getr (r := (p1 + 3)) (zdk ttX7_readDoing 51 rfl rfl) zf_RX7_107 rfl (k_4_0 s76 r_p1) (rf_4_0_2 s76 r_p1) ?_
              refine zj_iload_n (zdk ttX7_readDoing 52 rfl rfl) rfl ?_
              refine zj_aload_n (zdk ttX7_readDoing 53 rfl rfl) rfl (by decide) ?_
              refine zj_getr (r := 103) (zdk ttX7_readDoing 54 rfl rfl) zf_RX7_9 rfl (k_L107 s76) (rf_L107_0 s76) ?_
              have b80 : -2147483648 ≤ (h74.2 103 9) ∧ (h74.2 103 9) ≤ 2147483647 := fb_L103_9 s76
              refine zj_geti (v := (h74.2 103 9)) (zdk ttX7_readDoing 55 rfl rfl) zf_RX7_110 rfl (k_L103 s76) rfl ?_
              refine zj_iast (zdk ttX7_readDoing 56 rfl rfl) (ka_4_0_2 s76 r_p1) (by decide) (by omega) (fun h81 e82 => ?_)
              refine zj_aload_n (zdk ttX7_readDoing 57 rfl rfl) rfl (by decide) ?_
              have s83 : okC h81 := aw_4_0_2 s76 r_p1 e82 (by omega)
              refine zj_getr (r := 103) (zdk ttX7_readDoing 58 rfl rfl) zf_RX7_9 rfl (k_L107 s83) (rf_L107_0 s83) ?_
              refine zj_bipush (zdk ttX7_readDoing 59 rfl rfl) (by decide) ?_
              refine zj_callV (av := [.inl 59]) (st := []) (zdk ttX7_readDoing 60 rfl rfl) mb_X6_takes mv_RX7_70 (ci := 6) rfl rfl (k_L103 s83) rfl rfl (Nat.le_of_ble_eq_true rfl) (s2_X6_takes l h81 59 s83 (by omega)) (rm_ok (by decide) (by decide)) (zq_i fun v85 h86 q84 => ?_)
              obtain ⟨b87, s88, f90, u89⟩ := q84
              have f97 : zfC (w_X7_readDoing p1) h h4 := zfC_t (zfC_r _ _) f8 (fun a9 b9 z9 => by
                rcases z9 with z9 | z9
                · exact (Or.inl z9)
                · exact (Or.inr (by omega)))
              have f96 : zfC (w_X7_readDoing p1) h h29 := zfC_t f97 f33 (fun a9 b9 z9 => by
                exact (Or.inl (by omega)))
              have f95 : zfC (w_X7_readDoing p1) h h34 := zfC_w f96 e35 (Or.inr (by omega))
              have f94 : zfC (w_X7_readDoing p1) h h37 := zfC_w f95 e38 (Or.inr (by omega))
              have f93 : zfC (w_X7_readDoing p1) h h74 := zfC_t f94 f78 (fun a9 b9 z9 => by
                exact (Or.inl z9))
              have f92 : zfC (w_X7_readDoing p1) h h81 := zfC_w f93 e82 (Or.inr (by omega))
              have f91 : zfC (w_X7_readDoing p1) h h86 := zfC_t f92 f90 (fun a9 b9 z9 => by
                exact (Or.inl (by omega)))
              have b98 : h34.2 103 6 = (h29.2 103 6) := (zwr_r e35 (by first | decide | exact (absurd ·.1 (by decide)) | exact (absurd ·.2 (by decide)) | omega))
              have b99 : h37.2 103 6 = (h29.2 103 6) := ((zwr_r e38 (by first | decide | exact (absurd ·.1 (by decide)) | exact (absurd ·.2 (by decide)) | omega)).trans (zwr_r e35 (by first | decide | exact (absurd ·.1 (by decide)) | exact (absurd ·.2 (by decide)) | omega)))
              have b100 : h81.2 103 6 = (h74.2 103 6) := (zwr_r e82 (by first | decide | exact (absurd ·.1 (by decide)) | exact (absurd ·.2 (by decide)) | omega))
              exact zj_zret rfl (zdk ttX7_readDoing 61 rfl rfl) (Nat.le_refl _) (Nat.le_refl _) (by omega) ⟨v85, rfl, by omega, s88, f91, (by intro T P j t0 yh9; have k0 := t0.2.2.1.2; have l0 := t0.2.2.2.1; have r_1 := (u7 T P j t0 yh9).1 (by omega); have k_2 := r_1.2.2.2.1.2; have k_2l := r_1.2.2.2.2.1; have k_3 := r_1.2.2.2.1.2; have k_3l := r_1.2.2.2.2.1; have a_4 : tPo T P ((j + 1 + 1) + 1) h29 := u32 T P (j + 1 + 1) r_1.2 (by omega); have a_5 : tPo T P ((j + 1 + 1) + 1) h34 := tPo_f a_4 (fun i => (zwr_r e35 (by first | decide | exact (absurd ·.1 (by decide)) | exact (absurd ·.2 (by decide)) | omega))) (fun i => (zwr_r e35 (by first | decide | exact (absurd ·.1 (by decide)) | exact (absurd ·.2 (by decide)) | omega))) (zwr_r e35 (by first | decide | exact (absurd ·.1 (by decide)) | exact (absurd ·.2 (by decide)) | omega)) (zwr_r e35 (by first | decide | exact (absurd ·.1 (by decide)) | exact (absurd ·.2 (by decide)) | omega)) (zwr_r e35 (by first | decide | exact (absurd ·.1 (by decide)) | exact (absurd ·.2 (by decide)) | omega)) (zwr_r e35 (by first | decide | exact (absurd ·.1 (by decide)) | exact (absurd ·.2 (by decide)) | omega)) (zwr_r e35 (by first | decide | exact (absurd ·.1 (by decide)) | exact (absurd ·.2 (by decide)) | omega)); have a_6 : tPo T P ((j + 1 + 1) + 1) h37 := tPo_f a_5 (fun i => (zwr_r e38 (by first | decide | exact (absurd ·.1 (by decide)) | exact (absurd ·.2 (by decide)) | omega))) (fun i => (zwr_r e38 (by first | decide | exact (absurd ·.1 (by decide)) | exact (absurd ·.2 (by decide)) | omega))) (zwr_r e38 (by first | decide | exact (absurd ·.1 (by decide)) | exact (absurd ·.2 (by decide)) | omega)) (zwr_r e38 (by first | decide | exact (absurd ·.1 (by decide)) | exact (absurd ·.2 (by decide)) | omega)) (zwr_r e38 (by first | decide | exact (absurd ·.1 (by decide)) | exact (absurd ·.2 (by decide)) | omega)) (zwr_r e38 (by first | decide | exact (absurd ·.1 (by decide)) | exact (absurd ·.2 (by decide)) | omega)) (zwr_r e38 (by first | decide | exact (absurd ·.1 (by decide)) | exact (absurd ·.2 (by decide)) | omega)); have r_7 := (u77 T P ((j + 1 + 1) + 1) a_6).1 (by omega); have r_7a : tPo T P (((j + 1 + 1) + 1) + 1) h74 := r_7.2; have a_8 : tPo T P (((j + 1 + 1) + 1) + 1) h81 := tPo_f r_7a (fun i => (zwr_r e82 (by first | decide | exact (absurd ·.1 (by decide)) | exact (absurd ·.2 (by decide)) | omega))) (fun i => (zwr_r e82 (by first | decide | exact (absurd ·.1 (by decide)) | exact (absurd ·.2 (by decide)) | omega))) (zwr_r e82 (by first | decide | exact (absurd ·.1 (by decide)) | exact (absurd ·.2 (by decide)) | omega)) (zwr_r e82 (by first | decide | exact (absurd ·.1 (by decide)) | exact (absurd ·.2 (by decide)) | omega)) (zwr_r e82 (by first | decide | exact (absurd ·.1 (by decide)) | exact (absurd ·.2 (by decide)) | omega)) (zwr_r e82 (by first | decide | exact (absurd ·.1 (by decide)) | exact (absurd ·.2 (by decide)) | omega)) (zwr_r e82 (by first | decide | exact (absurd ·.1 (by decide)) | exact (absurd ·.2 (by decide)) | omega)); have e_9 := u89 T P (((j + 1 + 1) + 1) + 1) a_8; exact ⟨fun z => ⟨((((j + 1 + 1) + 1) + 1) + 1), (e_9.1 z).2 (by omega), by omega, fun s9 => tRe_s (tRe_s (tRe_s (tRe_s (tRe_s tRe_r (tMl_l (Or.inr (Or.inl rfl)) yh9 (by omega))) (tMd_y (Or.inr rfl) rfl r_1.1)) (tM32_y (by omega) (by omega))) (tM33_y (by rw [show T (j + 1 + 1) - 200 = ((h4.2 103 6) - 200) by omega]) (by rw [show T (j + 1 + 1) - 200 = ((h4.2 103 6) - 200) by omega]) rfl r_7.1)) (tMs_y (Or.inr (Or.inl ⟨rfl, rfl⟩)) (e_9.1 z).1)⟩, fun z => ⟨(((j + 1 + 1) + 1) + 1), _, (e_9.2 z).2, fun s9 => tRe_s (tRe_s (tRe_s (tRe_s (tRe_s tRe_r (tMl_l (Or.inr (Or.inl rfl)) yh9 (by omega))) (tMd_y (Or.inr rfl) rfl r_1.1)) (tM32_y (by omega) (by omega))) (tM33_y (by rw [show T (j + 1 + 1) - 200 = ((h4.2 103 6) - 200) by omega]) (by rw [show T (j + 1 + 1) - 200 = ((h4.2 103 6) - 200) by omega]) rfl r_7.1)) (tMs_n (Or.inr (Or.inl rfl)) (e_9.2 z).1)⟩⟩)⟩
            · refine zj_iconst (zdk ttX7_readDoing 48 rfl rfl) ?_
              have f105 : zfC (w_X7_readDoing p1) h h4 := zfC_t (zfC_r _ _) f8 (fun a9 b9 z9 => by
                rcases z9 with z9 | z9
                · exact (Or.inl z9)
                · exact (Or.inr (by omega)))
              have f104 : zfC (w_X7_readDoing p1) h h29 := zfC_t f105 f33 (fun a9 b9 z9 => by
                exact (Or.inl (by omega)))
              have f103 : zfC (w_X7_readDoing p1) h h34 := zfC_w f104 e35 (Or.inr (by omega))
              have f102 : zfC (w_X7_readDoing p1) h h37 := zfC_w f103 e38 (Or.inr (by omega))
              have f101 : zfC (w_X7_readDoing p1) h h74 := zfC_t f102 f78 (fun a9 b9 z9 => by
                exact (Or.inl z9))
              have b106 : h34.2 103 6 = (h29.2 103 6) := (zwr_r e35 (by first | decide | exact (absurd ·.1 (by decide)) | exact (absurd ·.2 (by decide)) | omega))
              have b107 : h37.2 103 6 = (h29.2 103 6) := ((zwr_r e38 (by first | decide | exact (absurd ·.1 (by decide)) | exact (absurd ·.2 (by decide)) | omega)).trans (zwr_r e35 (by first | decide | exact (absurd ·.1 (by decide)) | exact (absurd ·.2 (by decide)) | omega)))
              exact zj_zret rfl (zdk ttX7_readDoing 49 rfl rfl) (Nat.le_refl _) (Nat.le_refl _) (by omega) ⟨0, rfl, by omega, s76, f101, (by intro T P j t0 yh9; have k0 := t0.2.2.1.2; have l0 := t0.2.2.2.1; have r_1 := (u7 T P j t0 yh9).1 (by omega); have k_2 := r_1.2.2.2.1.2; have k_2l := r_1.2.2.2.2.1; have k_3 := r_1.2.2.2.1.2; have k_3l := r_1.2.2.2.2.1; have a_4 : tPo T P ((j + 1 + 1) + 1) h29 := u32 T P (j + 1 + 1) r_1.2 (by omega); have a_5 : tPo T P ((j + 1 + 1) + 1) h34 := tPo_f a_4 (fun i => (zwr_r e35 (by first | decide | exact (absurd ·.1 (by decide)) | exact (absurd ·.2 (by decide)) | omega))) (fun i => (zwr_r e35 (by first | decide | exact (absurd ·.1 (by decide)) | exact (absurd ·.2 (by decide)) | omega))) (zwr_r e35 (by first | decide | exact (absurd ·.1 (by decide)) | exact (absurd ·.2 (by decide)) | omega)) (zwr_r e35 (by first | decide | exact (absurd ·.1 (by decide)) | exact (absurd ·.2 (by decide)) | omega)) (zwr_r e35 (by first | decide | exact (absurd ·.1 (by decide)) | exact (absurd ·.2 (by decide)) | omega)) (zwr_r e35 (by first | decide | exact (absurd ·.1 (by decide)) | exact (absurd ·.2 (by decide)) | omega)) (zwr_r e35 (by first | decide | exact (absurd ·.1 (by decide)) | exact (absurd ·.2 (by decide)) | omega)); have a_6 : tPo T P ((j + 1 + 1) + 1) h37 := tPo_f a_5 (fun i => (zwr_r e38 (by first | decide | exact (absurd ·.1 (by decide)) | exact (absurd ·.2 (by decide)) | omega))) (fun i => (zwr_r e38 (by first | decide | exact (absurd ·.1 (by decide)) | exact (absurd ·.2 (by decide)) | omega))) (zwr_r e38 (by first | decide | exact (absurd ·.1 (by decide)) | exact (absurd ·.2 (by decide)) | omega)) (zwr_r e38 (by first | decide | exact (absurd ·.1 (by decide)) | exact (absurd ·.2 (by decide)) | omega)) (zwr_r e38 (by first | decide | exact (absurd ·.1 (by decide)) | exact (absurd ·.2 (by decide)) | omega)) (zwr_r e38 (by first | decide | exact (absurd ·.1 (by decide)) | exact (absurd ·.2 (by decide)) | omega)) (zwr_r e38 (by first | decide | exact (absurd ·.1 (by decide)) | exact (absurd ·.2 (by decide)) | omega)); have e_7 := (u77 T P ((j + 1 + 1) + 1) a_6).2 (by omega); exact ⟨fun z => absurd z (by omega), fun _ => ⟨((j + 1 + 1) + 1), _, e_7.2, fun s9 => tRe_s (tRe_s (tRe_s (tRe_s tRe_r (tMl_l (Or.inr (Or.inl rfl)) yh9 (by omega))) (tMd_y (Or.inr rfl) rfl r_1.1)) (tM32_y (by omega) (by omega))) (tM33_n (by rw [show T (j + 1 + 1) - 200 = ((h4.2 103 6) - 200) by omega]) (by rw [show T (j + 1 + 1) - 200 = ((h4.2 103 6) - 200) by omega]) rfl (by omega) rfl)⟩⟩)⟩
      · exact absurd c26 (by omega)
  · refine zj_iconst (zdk ttX7_readDoing 5 rfl rfl) ?_
    have f108 : zfC (w_X7_readDoing p1) h h4 := zfC_t (zfC_r _ _) f8 (fun a9 b9 z9 => by
      rcases z9 with z9 | z9
      · exact (Or.inl z9)
      · exact (Or.inr (by omega)))
    exact zj_zret rfl (zdk ttX7_readDoing 6 rfl rfl) (Nat.le_refl _) (Nat.le_refl _) (by omega) ⟨0, rfl, by omega, s6, f108, (by intro T P j t0 yh9; have k0 := t0.2.2.1.2; have l0 := t0.2.2.2.1; have e_1 := (u7 T P j t0 yh9).2 (by omega); exact ⟨fun z => absurd z (by omega), fun _ => ⟨(j + 1), _, e_1.2, fun s9 => tRe_s (tRe_s tRe_r (tMl_l (Or.inr (Or.inl rfl)) yh9 (by omega))) (tMd_n (Or.inr rfl) rfl (by omega) rfl)⟩⟩)⟩

abbrev q2_X7_readTown (h : zM) (p1 : Int) (p2 : Int) : Option zV → zM → Prop := zqi fun v h' => (0 ≤ v ∧ v ≤ 1) ∧ okC h' ∧ zfC (w_X7_readTown p1) h h' ∧ (h.2 103 7 = 0 → h.2 103 8 = -1 → ∃ T P c9, tCk 3 (h.2 104) (h.2 103 3) T P c9 ∧ (v = 1 → (h'.2 103 7 = 0 ∧ h'.2 103 8 = -1) ∧ ∃ j9, tRe T p2 (30, 0, 0, []) (1, j9, (h'.2 p1 3), [])) ∧ (v = 0 → ∃ i9 f9, (h'.2 103 7 = f9 ∧ h'.2 103 8 = P i9) ∧ tRe T p2 (30, 0, 0, []) (tEr i9 f9)))
set_option maxRecDepth 100000 in
set_option maxHeartbeats 4000000 in
theorem s2_X7_readTown (l : Launch) (h : zM) (p1 : Int) (p2 : Int) (s0 : okC h) (r_p1 : zPl p1) (b_p2 : 0 ≤ p2 ∧ p2 ≤ 18) : zT shC l yX7_readTown cX7_readTown 4 (some .boolean) (rmL 9) 0 0 [.inr 107, .inr p1, .inl p2] h (q2_X7_readTown h p1 p2) := by
  refine zT_of (by decide +kernel) (L0 := [some (.inr 107), some (.inr p1), some (.inl p2), none]) rfl (Nat.le_of_ble_eq_true rfl) ?_
  have b1 := zPl_b r_p1
  refine zj_aload_n (zdk ttX7_readTown 0 rfl rfl) rfl (by decide) ?_
  refine zj_getr (r := 103) (zdk ttX7_readTown 1 rfl rfl) zf_RX7_9 rfl (k_L107 s0) (rf_L107_0 s0) ?_
  refine zj_ldcS (i := 3) (zdk ttX7_readTown 2 rfl rfl) (List.mem_of_getElem? (i := 3) rfl) ?_
  refine zj_callV (av := [.inr (-2 - ((3 : Nat) : Int))]) (st := []) (zdk ttX7_readTown 3 rfl rfl) mb_X6_cut mv_RX7_19 (ci := 6) rfl rfl (k_L103 s0) rfl rfl (Nat.le_of_ble_eq_true rfl) (s2_X6_cut l h 3 s0 (show 3 < 5 by decide)) (rm_ok (by decide) (by decide)) (zq_v fun h4 q2 => ?_)
  obtain ⟨s6, f10, u7, u8, u9⟩ := q2
  refine zj_aload_n (zdk ttX7_readTown 4 rfl rfl) rfl (by omega) ?_
  refine zj_iconst (zdk ttX7_readTown 5 rfl rfl) ?_
  refine zj_puti (zdk ttX7_readTown 6 rfl rfl) zf_RX7_96 rfl (k_4_0 s6 r_p1) (Or.inl zw_RX7_96) (k2 := 3) rfl (fun h11 e12 => ?_)
  refine zj_iconst (zdk ttX7_readTown 7 rfl rfl) ?_
  refine zj_istore_n (L' := [some (.inr 107), some (.inr p1), some (.inl p2), some (.inl 0)]) (zdk ttX7_readTown 8 rfl rfl) (by decide) rfl ?_
  have lp39 : ∀ (n : Nat) (x13 : Int) (h14 : zM), (0 ≤ x13 ∧ x13 ≤ 16) → okC h14 → zfC (w_X7_readTown p1) h h14 → (h.2 103 7 = 0 → h.2 103 8 = -1 → ∃ j9, tPo (h4.2 105) (h4.2 106) j9 h14 ∧ tRe (h4.2 105) p2 (30, 0, 0, []) (30, j9, x13, [])) → (h14.2 p1 3 = x13) → (17 - x13).toNat < n → zJ shC l yX7_readTown cX7_readTown 4 (some .boolean) (rmL 9) 0 0 (q2_X7_readTown h p1 p2) 0 0 16 [some (.inr 107), some (.inr p1), some (.inl p2), some (.inl x13)] [] h14 := by
    intro n
    induction n with
    | zero => intro x13 h14 b40 s15 f16 u41 u42 m43; exact absurd m43 (Nat.not_lt_zero _)
    | succ n ih44 =>
      intro x13 h14 b40 s15 f16 u41 u42 m43
      refine zj_iload_n (zdk ttX7_readTown 9 rfl rfl) rfl ?_
      refine zj_bipush (zdk ttX7_readTown 10 rfl rfl) (by decide) ?_
      refine zj_icmp_gt (t := 70) (zdk ttX7_readTown 11 rfl rfl) (by decide) (by omega) (by decide) (fun c45 => ?_) (fun c45 => ?_)
      · exact absurd c45 (by omega)
      · refine zj_aload_n (zdk ttX7_readTown 12 rfl rfl) rfl (by decide) ?_
        refine zj_getr (r := 103) (zdk ttX7_readTown 13 rfl rfl) zf_RX7_9 rfl (k_L107 s15) (rf_L107_0 s15) ?_
        have b46 : -2147483648 ≤ (h14.2 103 6) ∧ (h14.2 103 6) ≤ 2147483647 := fb_L103_6 s15
        refine zj_geti (v := (h14.2 103 6)) (zdk ttX7_readTown 14 rfl rfl) zf_RX7_32 rfl (k_L103 s15) rfl ?_
        refine zj_if_eq (t := 70) (zdk ttX7_readTown 15 rfl rfl) (by decide) (by omega) (fun c47 => ?_) (fun c47 => ?_)
        · refine zj_iconst (zdk ttX7_readTown 38 rfl rfl) ?_
          exact zj_zret rfl (zdk ttX7_readTown 39 rfl rfl) (Nat.le_refl _) (Nat.le_refl _) (by omega) ⟨1, rfl, by omega, s15, f16, (by intro y7 y8; obtain ⟨j, t0, r0⟩ := u41 y7 y8; have k0 := t0.2.2.1.2; have l0 := t0.2.2.2.1; exact ⟨(h4.2 105), (h4.2 106), _, u9, fun _ => ⟨t0.2.2.2.2.2.2, j, by have z9 := tRe_s r0 (tMl_e (Or.inr (Or.inl rfl)) (by omega)); rw [show x13 = h14.2 p1 3 by omega] at z9; exact z9⟩, fun z => absurd z (by omega)⟩)⟩
        · refine zj_aload_n (zdk ttX7_readTown 16 rfl rfl) rfl (by decide) ?_
          refine zj_getr (r := 103) (zdk ttX7_readTown 17 rfl rfl) zf_RX7_9 rfl (k_L107 s15) (rf_L107_0 s15) ?_
          refine zj_iload_n (zdk ttX7_readTown 18 rfl rfl) rfl ?_
          refine zj_iconst (zdk ttX7_readTown 19 rfl rfl) ?_
          refine zj_iconst (zdk ttX7_readTown 20 rfl rfl) ?_
          refine zj_callV (av := [.inl x13, .inl 0, .inl 0]) (st := []) (zdk ttX7_readTown 21 rfl rfl) mb_X6_opensLine mv_RX7_35 (ci := 6) rfl rfl (k_L103 s15) rfl rfl (Nat.le_of_ble_eq_true rfl) (s2_X6_opensLine l h14 x13 0 0 s15 (by omega) (by omega) (by omega)) (rm_ok (by decide) (by decide)) (zq_i fun v49 h50 q48 => ?_)
          obtain ⟨b51, s52, f55, u53, u54⟩ := q48
          refine zj_if_eq (t := 55) (zdk ttX7_readTown 22 rfl rfl) (by decide) (by omega) (fun c56 => ?_) (fun c56 => ?_)
          · refine zj_iconst (zdk ttX7_readTown 29 rfl rfl) ?_
            have f57 : zfC (w_X7_readTown p1) h h50 := zfC_t f16 f55 (fun a9 b9 z9 => by
              exact (Or.inl (by omega)))
            have b58 : h50.2 103 6 = (h14.2 103 6) := (zfC_a f55 (fun z9 => by unfold w_X6_opensLine at z9; first | (revert z9; decide) | omega))
            exact zj_zret rfl (zdk ttX7_readTown 30 rfl rfl) (Nat.le_refl _) (Nat.le_refl _) (by omega) ⟨0, rfl, by omega, s52, f57, (by intro y7 y8; obtain ⟨j, t0, r0⟩ := u41 y7 y8; have k0 := t0.2.2.1.2; have l0 := t0.2.2.2.1; have e_1 := (u53 (h4.2 105) (h4.2 106) j t0).2 (by omega); exact ⟨(h4.2 105), (h4.2 106), _, u9, fun z => absurd z (by omega), fun _ => by rcases e_1 with ⟨q1, ⟨q2, q3⟩ | ⟨q2, q3, q4⟩⟩; exact ⟨j, _, ⟨q3, q1⟩, tRe_s r0 (tMl_1 (Or.inr (Or.inl rfl)) (by omega) (by omega))⟩; exact ⟨j, _, ⟨q4, q1⟩, tRe_s r0 (tMl_3 (Or.inr (Or.inl rfl)) (by omega) (by omega))⟩⟩)⟩
          · refine zj_aload_n (zdk ttX7_readTown 23 rfl rfl) rfl (by decide) ?_
            refine zj_aload_n (zdk ttX7_readTown 24 rfl rfl) rfl (by omega) ?_
            refine zj_iload_n (zdk ttX7_readTown 25 rfl rfl) rfl ?_
            refine zj_iload_n (zdk ttX7_readTown 26 rfl rfl) rfl ?_
            refine zj_callV (av := [.inr p1, .inl x13, .inl p2]) (st := []) (zdk ttX7_readTown 27 rfl rfl) mb_X7_readDoing mv_RX7_121 (ci := 7) rfl rfl (k_L107 s52) rfl rfl (Nat.le_of_ble_eq_true rfl) (s2_X7_readDoing l h50 p1 x13 p2 s52 r_p1 (by omega) (by omega)) (rm_ok (by decide) (by decide)) (zq_i fun v60 h61 q59 => ?_)
            obtain ⟨b62, s63, f65, u64⟩ := q59
            refine zj_if_ne (t := 57) (zdk ttX7_readTown 28 rfl rfl) (by decide) (by omega) (fun c66 => ?_) (fun c66 => ?_)
            · refine zj_aload_n (zdk ttX7_readTown 31 rfl rfl) rfl (by omega) ?_
              refine zj_iload_n (zdk ttX7_readTown 32 rfl rfl) rfl ?_
              refine zj_iconst (zdk ttX7_readTown 33 rfl rfl) ?_
              refine zj_iadd (zdk ttX7_readTown 34 rfl rfl) ?_
              refine zj_puti (zdk ttX7_readTown 35 rfl rfl) zf_RX7_96 rfl (k_4_0 s63 r_p1) (Or.inl zw_RX7_96) (k2 := 3) rfl (fun h67 e68 => ?_)
              refine zj_iinc (L' := [some (.inr 107), some (.inr p1), some (.inl p2), some (.inl (x13 + 1))]) (zdk ttX7_readTown 36 rfl rfl) rfl (by decide) rfl ?_
              refine zj_goto (t := 16) (zdk ttX7_readTown 37 rfl rfl) (by decide) ?_
              have b69 : h67.2 p1 3 = (x13 + 1) := (zwr_v e68)
              have s70 : okC h67 := fw_4_0_3 s63 r_p1 e68 (by omega)
              have f73 : zfC (w_X7_readTown p1) h h50 := zfC_t f16 f55 (fun a9 b9 z9 => by
                exact (Or.inl (by omega)))
              have f72 : zfC (w_X7_readTown p1) h h61 := zfC_t f73 f65 (fun a9 b9 z9 => by
                rcases z9 with z9 | z9
                · exact (Or.inl (by omega))
                · exact (Or.inr (Or.inr (Or.inr (by omega)))))
              have f71 : zfC (w_X7_readTown p1) h h67 := zfC_w f72 e68 (Or.inr (Or.inr (Or.inl (by omega))))
              have b74 : h50.2 103 6 = (h14.2 103 6) := (zfC_a f55 (fun z9 => by unfold w_X6_opensLine at z9; first | (revert z9; decide) | omega))
              have b75 : h67.2 103 6 = (h61.2 103 6) := (zwr_r e68 (by first | decide | exact (absurd ·.1 (by decide)) | exact (absurd ·.2 (by decide)) | omega))
              exact ih44  (x13 + 1) h67 (by omega) s70 f71 (by intro y7 y8; obtain ⟨j, t0, r0⟩ := u41 y7 y8; have k0 := t0.2.2.1.2; have l0 := t0.2.2.2.1; have r_1 := (u53 (h4.2 105) (h4.2 106) j t0).1 (by omega); obtain ⟨r_2j, r_2a, r_2l, r_2r⟩ := (u64 (h4.2 105) (h4.2 106) j r_1.2.2 (by have z9 := r_1.1; omega)).1 (by omega); have a_3 : tPo (h4.2 105) (h4.2 106) r_2j h67 := tPo_f r_2a (fun i => (zwr_r e68 (by first | decide | exact (absurd ·.1 (by decide)) | exact (absurd ·.2 (by decide)) | omega))) (fun i => (zwr_r e68 (by first | decide | exact (absurd ·.1 (by decide)) | exact (absurd ·.2 (by decide)) | omega))) (zwr_r e68 (by first | decide | exact (absurd ·.1 (by decide)) | exact (absurd ·.2 (by decide)) | omega)) (zwr_r e68 (by first | decide | exact (absurd ·.1 (by decide)) | exact (absurd ·.2 (by decide)) | omega)) (zwr_r e68 (by first | decide | exact (absurd ·.1 (by decide)) | exact (absurd ·.2 (by decide)) | omega)) (zwr_r e68 (by first | decide | exact (absurd ·.1 (by decide)) | exact (absurd ·.2 (by decide)) | omega)) (zwr_r e68 (by first | decide | exact (absurd ·.1 (by decide)) | exact (absurd ·.2 (by decide)) | omega)); exact ⟨r_2j, a_3, tRe_t r0 (r_2r [])⟩) (by omega) (by omega)
            · refine zj_iconst (zdk ttX7_readTown 29 rfl rfl) ?_
              have f77 : zfC (w_X7_readTown p1) h h50 := zfC_t f16 f55 (fun a9 b9 z9 => by
                exact (Or.inl (by omega)))
              have f76 : zfC (w_X7_readTown p1) h h61 := zfC_t f77 f65 (fun a9 b9 z9 => by
                rcases z9 with z9 | z9
                · exact (Or.inl (by omega))
                · exact (Or.inr (Or.inr (Or.inr (by omega)))))
              have b78 : h50.2 103 6 = (h14.2 103 6) := (zfC_a f55 (fun z9 => by unfold w_X6_opensLine at z9; first | (revert z9; decide) | omega))
              exact zj_zret rfl (zdk ttX7_readTown 30 rfl rfl) (Nat.le_refl _) (Nat.le_refl _) (by omega) ⟨0, rfl, by omega, s63, f76, (by intro y7 y8; obtain ⟨j, t0, r0⟩ := u41 y7 y8; have k0 := t0.2.2.1.2; have l0 := t0.2.2.2.1; have r_1 := (u53 (h4.2 105) (h4.2 106) j t0).1 (by omega); obtain ⟨e_2i, e_2f, e_2q, e_2r⟩ := (u64 (h4.2 105) (h4.2 106) j r_1.2.2 (by have z9 := r_1.1; omega)).2 (by omega); exact ⟨(h4.2 105), (h4.2 106), _, u9, fun z => absurd z (by omega), fun _ => ⟨e_2i, e_2f, e_2q, tRe_t r0 (e_2r [])⟩⟩)⟩
  have b79 : h11.2 p1 3 = 0 := (zwr_v e12)
  have s80 : okC h11 := fw_4_0_3 s6 r_p1 e12 (by omega)
  have f82 : zfC (w_X7_readTown p1) h h4 := zfC_t (zfC_r _ _) f10 (fun a9 b9 z9 => by
    rcases z9 with z9 | z9
    · exact (Or.inl (by omega))
    · exact (Or.inr (Or.inl z9)))
  have f81 : zfC (w_X7_readTown p1) h h11 := zfC_w f82 e12 (Or.inr (Or.inr (Or.inl (by omega))))
  have b83 : h11.2 103 6 = (h4.2 103 6) := (zwr_r e12 (by first | decide | exact (absurd ·.1 (by decide)) | exact (absurd ·.2 (by decide)) | omega))
  exact lp39 _ 0 h11 (by omega) s80 f81 (by intro y7 y8; have t0 := tCk_po (h := h4) (by have z8 := u9; exact z8) u7 u8 ((zfC_a f10 (fun z9 => by unfold w_X6_cut at z9; first | (revert z9; decide) | omega)).trans y7) ((zfC_a f10 (fun z9 => by unfold w_X6_cut at z9; first | (revert z9; decide) | omega)).trans y8); have k0 := t0.2.2.1.2; have l0 := t0.2.2.2.1; have a_1 : tPo (h4.2 105) (h4.2 106) 0 h11 := tPo_f t0 (fun i => (zwr_r e12 (by first | decide | exact (absurd ·.1 (by decide)) | exact (absurd ·.2 (by decide)) | omega))) (fun i => (zwr_r e12 (by first | decide | exact (absurd ·.1 (by decide)) | exact (absurd ·.2 (by decide)) | omega))) (zwr_r e12 (by first | decide | exact (absurd ·.1 (by decide)) | exact (absurd ·.2 (by decide)) | omega)) (zwr_r e12 (by first | decide | exact (absurd ·.1 (by decide)) | exact (absurd ·.2 (by decide)) | omega)) (zwr_r e12 (by first | decide | exact (absurd ·.1 (by decide)) | exact (absurd ·.2 (by decide)) | omega)) (zwr_r e12 (by first | decide | exact (absurd ·.1 (by decide)) | exact (absurd ·.2 (by decide)) | omega)) (zwr_r e12 (by first | decide | exact (absurd ·.1 (by decide)) | exact (absurd ·.2 (by decide)) | omega)); exact ⟨0, a_1, tRe_r⟩) (by omega) (Nat.lt_succ_self _)

abbrev q2_X2_clear (h : zM) (c : Int) : Option zV → zM → Prop := zqv fun h' => okC h' ∧ zfC (w_X2_clear c) h h' ∧ (h'.2 c 1 = 0)
set_option maxRecDepth 100000 in
set_option maxHeartbeats 4000000 in
theorem s2_X2_clear (l : Launch) (h : zM) (c : Int) (s0 : okC h) (hc : zKi c) : zT shC l yX2_clear cX2_clear 1 none (rmL 2) 0 0 [.inr c] h (q2_X2_clear h c) := by
  refine zT_of (by decide +kernel) (L0 := [some (.inr c)]) rfl (Nat.le_of_ble_eq_true rfl) ?_
  have b1 := zKi_b hc
  refine zj_aload_n (zdk ttX2_clear 0 rfl rfl) rfl (by omega) ?_
  refine zj_getr (r := (c + 1)) (zdk ttX2_clear 1 rfl rfl) zf_RX2_9 rfl (k_2_0 s0 hc) (rf_2_0_0 s0 hc) ?_
  refine zj_iconst (zdk ttX2_clear 2 rfl rfl) ?_
  refine zj_callS (av := [.inr (c + 1), .inl 0]) (st := []) (zdk ttX2_clear 3 rfl rfl) mb_J7_fill_53178 ms_RX2_25 rfl rfl (Nat.le_of_ble_eq_true rfl) (s_J7_fill_53178 shC l h (c + 1) 0 (ka_2_0_0 s0 hc) (by decide)) (rm_ok (by decide) (by decide)) (zq_v fun h2 e3 => ?_)
  refine zj_aload_n (zdk ttX2_clear 4 rfl rfl) rfl (by omega) ?_
  refine zj_iconst (zdk ttX2_clear 5 rfl rfl) ?_
  have s4 : okC h2 := okC_fill s0 e3 (fun j => pa_2_0_0 hc (v := 0) (by omega) j) (na_2_0_0 hc).1 (na_2_0_0 hc).2
  refine zj_puti (zdk ttX2_clear 6 rfl rfl) zf_RX2_15 rfl (k_2_0 s4 hc) (Or.inl zw_RX2_15) (k2 := 1) rfl (fun h5 e6 => ?_)
  have s7 : okC h5 := fw_2_0_1 s4 hc e6 (by omega)
  have f9 : zfC (w_X2_clear c) h h2 := zfC_fill (zfC_r _ _) e3 (fun _ => (Or.inr (by omega)))
  have f8 : zfC (w_X2_clear c) h h5 := zfC_w f9 e6 (Or.inl (by omega))
  have b10 : h5.2 c 1 = 0 := (zwr_v e6)
  exact zj_vret rfl (zdk ttX2_clear 7 rfl rfl) (Nat.le_refl _) (Nat.le_refl _) ⟨rfl, s7, f8, by omega⟩

abbrev q2_X7_readKinLine (h : zM) (p1 : Int) (p2 : Int) : Option zV → zM → Prop := zqi fun v h' => (0 ≤ v ∧ v ≤ 1) ∧ okC h' ∧ zfC (w_X7_readKinLine p1) h h' ∧ (∀ T P j, tPo T P j h → T j = 200 → (v = 1 → ∃ j9, tPo T P j9 h' ∧ j < j9 ∧ ∀ n9 s9, n9 < 16 → tRe T p2 (40, j, n9, s9) (40, j9, n9 + 1, [])) ∧ (v = 0 → ∃ i9 f9, (h'.2 103 7 = f9 ∧ h'.2 103 8 = P i9) ∧ ∀ n9 s9, n9 < 16 → tRe T p2 (40, j, n9, s9) (tEr i9 f9)))
set_option maxRecDepth 100000 in
set_option maxHeartbeats 4000000 in
theorem s2_X7_readKinLine (l : Launch) (h : zM) (p1 : Int) (p2 : Int) (s0 : okC h) (r_p1 : zKi p1) (b_p2 : 0 ≤ p2 ∧ p2 ≤ 18) : zT shC l yX7_readKinLine cX7_readKinLine 4 (some .boolean) (rmL 6) 0 0 [.inr 107, .inr p1, .inl p2] h (q2_X7_readKinLine h p1 p2) := by
  refine zT_of (by decide +kernel) (L0 := [some (.inr 107), some (.inr p1), some (.inl p2), none]) rfl (Nat.le_of_ble_eq_true rfl) ?_
  have b1 := zKi_b r_p1
  refine zj_aload_n (zdk ttX7_readKinLine 0 rfl rfl) rfl (by decide) ?_
  refine zj_getr (r := 103) (zdk ttX7_readKinLine 1 rfl rfl) zf_RX7_9 rfl (k_L107 s0) (rf_L107_0 s0) ?_
  refine zj_callV (av := []) (st := []) (zdk ttX7_readKinLine 2 rfl rfl) mb_X6_pass mv_RX7_47 (ci := 6) rfl rfl (k_L103 s0) rfl rfl (Nat.le_of_ble_eq_true rfl) (s2_X6_pass l h s0) (rm_ok (by decide) (by decide)) (zq_v fun h4 q2 => ?_)
  obtain ⟨s6, f8, u7⟩ := q2
  refine zj_aload_n (zdk ttX7_readKinLine 3 rfl rfl) rfl (by decide) ?_
  refine zj_getr (r := 103) (zdk ttX7_readKinLine 4 rfl rfl) zf_RX7_9 rfl (k_L107 s6) (rf_L107_0 s6) ?_
  refine zj_iconst (zdk ttX7_readKinLine 5 rfl rfl) ?_
  refine zj_iload_n (zdk ttX7_readKinLine 6 rfl rfl) rfl ?_
  refine zj_iconst (zdk ttX7_readKinLine 7 rfl rfl) ?_
  refine zj_isub (zdk ttX7_readKinLine 8 rfl rfl) ?_
  refine zj_callV (av := [.inl 0, .inl (p2 - 1)]) (st := []) (zdk ttX7_readKinLine 9 rfl rfl) mb_X6_takesNumber mv_RX7_104 (ci := 6) rfl rfl (k_L103 s6) rfl rfl (Nat.le_of_ble_eq_true rfl) (s2_X6_takesNumber l h4 0 (p2 - 1) s6 (by omega) (by omega)) (rm_ok (by decide) (by decide)) (zq_i fun v10 h11 q9 => ?_)
  obtain ⟨b12, s13, f16, u14, u15⟩ := q9
  refine zj_if_ne (t := 23) (zdk ttX7_readKinLine 10 rfl rfl) (by decide) (by omega) (fun c17 => ?_) (fun c17 => ?_)
  · refine zj_aload_n (zdk ttX7_readKinLine 13 rfl rfl) rfl (by decide) ?_
    refine zj_getr (r := 103) (zdk ttX7_readKinLine 14 rfl rfl) zf_RX7_9 rfl (k_L107 s13) (rf_L107_0 s13) ?_
    have b18 : -2147483648 ≤ (h11.2 103 9) ∧ (h11.2 103 9) ≤ 2147483647 := fb_L103_9 s13
    refine zj_geti (v := (h11.2 103 9)) (zdk ttX7_readKinLine 15 rfl rfl) zf_RX7_110 rfl (k_L103 s13) rfl ?_
    have b19 : 0 ≤ (h11.2 103 9) ∧ (h11.2 103 9) ≤ 17 := by omega
    refine zj_istore_n (L' := [some (.inr 107), some (.inr p1), some (.inl p2), some (.inl (h11.2 103 9))]) (zdk ttX7_readKinLine 16 rfl rfl) (by decide) rfl ?_
    refine zj_aload_n (zdk ttX7_readKinLine 17 rfl rfl) rfl (by decide) ?_
    refine zj_getr (r := 103) (zdk ttX7_readKinLine 18 rfl rfl) zf_RX7_9 rfl (k_L107 s13) (rf_L107_0 s13) ?_
    refine zj_sipush (zdk ttX7_readKinLine 19 rfl rfl) (by decide) ?_
    refine zj_callV (av := [.inl 201]) (st := []) (zdk ttX7_readKinLine 20 rfl rfl) mb_X6_takes mv_RX7_70 (ci := 6) rfl rfl (k_L103 s13) rfl rfl (Nat.le_of_ble_eq_true rfl) (s2_X6_takes l h11 201 s13 (by omega)) (rm_ok (by decide) (by decide)) (zq_i fun v21 h22 q20 => ?_)
    obtain ⟨b23, s24, f26, u25⟩ := q20
    refine zj_if_ne (t := 46) (zdk ttX7_readKinLine 21 rfl rfl) (by decide) (by omega) (fun c27 => ?_) (fun c27 => ?_)
    · refine zj_aload_n (zdk ttX7_readKinLine 24 rfl rfl) rfl (by decide) ?_
      refine zj_getr (r := 103) (zdk ttX7_readKinLine 25 rfl rfl) zf_RX7_9 rfl (k_L107 s24) (rf_L107_0 s24) ?_
      have b28 : -2147483648 ≤ (h22.2 103 6) ∧ (h22.2 103 6) ≤ 2147483647 := fb_L103_6 s24
      refine zj_geti (v := (h22.2 103 6)) (zdk ttX7_readKinLine 26 rfl rfl) zf_RX7_32 rfl (k_L103 s24) rfl ?_
      refine zj_sipush (zdk ttX7_readKinLine 27 rfl rfl) (by decide) ?_
      refine zj_iload_n (zdk ttX7_readKinLine 28 rfl rfl) rfl ?_
      refine zj_iadd (zdk ttX7_readKinLine 29 rfl rfl) ?_
      refine zj_icmp_ne (t := 70) (zdk ttX7_readKinLine 30 rfl rfl) (by decide) (by omega) (by omega) (fun c29 => ?_) (fun c29 => ?_)
      · refine zj_aload_n (zdk ttX7_readKinLine 36 rfl rfl) rfl (by decide) ?_
        refine zj_getr (r := 103) (zdk ttX7_readKinLine 37 rfl rfl) zf_RX7_9 rfl (k_L107 s24) (rf_L107_0 s24) ?_
        refine zj_iconst (zdk ttX7_readKinLine 38 rfl rfl) ?_
        refine zj_iload_n (zdk ttX7_readKinLine 39 rfl rfl) rfl ?_
        refine zj_iconst (zdk ttX7_readKinLine 40 rfl rfl) ?_
        refine zj_isub (zdk ttX7_readKinLine 41 rfl rfl) ?_
        refine zj_callV (av := [.inl 0, .inl (p2 - 1)]) (st := []) (zdk ttX7_readKinLine 42 rfl rfl) mb_X6_takesNumber mv_RX7_104 (ci := 6) rfl rfl (k_L103 s24) rfl rfl (Nat.le_of_ble_eq_true rfl) (s2_X6_takesNumber l h22 0 (p2 - 1) s24 (by omega) (by omega)) (rm_ok (by decide) (by decide)) (zq_i fun v31 h32 q30 => ?_)
        obtain ⟨b33, s34, f37, u35, u36⟩ := q30
        refine zj_if_ne (t := 86) (zdk ttX7_readKinLine 43 rfl rfl) (by decide) (by omega) (fun c38 => ?_) (fun c38 => ?_)
        · refine zj_aload_n (zdk ttX7_readKinLine 46 rfl rfl) rfl (by omega) ?_
          refine zj_iload_n (zdk ttX7_readKinLine 47 rfl rfl) rfl ?_
          refine zj_aload_n (zdk ttX7_readKinLine 48 rfl rfl) rfl (by decide) ?_
          refine zj_getr (r := 103) (zdk ttX7_readKinLine 49 rfl rfl) zf_RX7_9 rfl (k_L107 s34) (rf_L107_0 s34) ?_
          have b39 : -2147483648 ≤ (h32.2 103 9) ∧ (h32.2 103 9) ≤ 2147483647 := fb_L103_9 s34
          refine zj_geti (v := (h32.2 103 9)) (zdk ttX7_readKinLine 50 rfl rfl) zf_RX7_110 rfl (k_L103 s34) rfl ?_
          refine zj_callV (av := [.inl (h11.2 103 9), .inl (h32.2 103 9)]) (st := []) (zdk ttX7_readKinLine 51 rfl rfl) mb_X2_join mv_RX7_140 (ci := 2) rfl rfl (k_2_0 s34 r_p1) rfl rfl (Nat.le_of_ble_eq_true rfl) (s_X2_join l h32 p1 (h11.2 103 9) (h32.2 103 9) s34 r_p1 (by omega) (by omega)) (rm_ok (by decide) (by decide)) (zq_v fun h42 q40 => ?_)
          obtain ⟨s44, f45⟩ := q40
          refine zj_aload_n (zdk ttX7_readKinLine 52 rfl rfl) rfl (by decide) ?_
          refine zj_getr (r := 103) (zdk ttX7_readKinLine 53 rfl rfl) zf_RX7_9 rfl (k_L107 s44) (rf_L107_0 s44) ?_
          refine zj_bipush (zdk ttX7_readKinLine 54 rfl rfl) (by decide) ?_
          refine zj_callV (av := [.inl 59]) (st := []) (zdk ttX7_readKinLine 55 rfl rfl) mb_X6_takes mv_RX7_70 (ci := 6) rfl rfl (k_L103 s44) rfl rfl (Nat.le_of_ble_eq_true rfl) (s2_X6_takes l h42 59 s44 (by omega)) (rm_ok (by decide) (by decide)) (zq_i fun v47 h48 q46 => ?_)
          obtain ⟨b49, s50, f52, u51⟩ := q46
          have f58 : zfC (w_X7_readKinLine p1) h h4 := zfC_t (zfC_r _ _) f8 (fun a9 b9 z9 => by
            exact (Or.inl (by omega)))
          have f57 : zfC (w_X7_readKinLine p1) h h11 := zfC_t f58 f16 (fun a9 b9 z9 => by
            exact (Or.inl z9))
          have f56 : zfC (w_X7_readKinLine p1) h h22 := zfC_t f57 f26 (fun a9 b9 z9 => by
            exact (Or.inl (by omega)))
          have f55 : zfC (w_X7_readKinLine p1) h h32 := zfC_t f56 f37 (fun a9 b9 z9 => by
            exact (Or.inl z9))
          have f54 : zfC (w_X7_readKinLine p1) h h42 := zfC_t f55 f45 (fun a9 b9 z9 => by
            exact (Or.inr (by omega)))
          have f53 : zfC (w_X7_readKinLine p1) h h48 := zfC_t f54 f52 (fun a9 b9 z9 => by
            exact (Or.inl (by omega)))
          have b59 : h42.2 103 6 = (h32.2 103 6) := (zfC_a f45 (fun z9 => by unfold w_X2_join at z9; first | (revert z9; decide) | omega))
          exact zj_zret rfl (zdk ttX7_readKinLine 56 rfl rfl) (Nat.le_refl _) (Nat.le_refl _) (by omega) ⟨v47, rfl, by omega, s50, f53, (by intro T P j t0 yh9; have k0 := t0.2.2.1.2; have l0 := t0.2.2.2.1; have k_1 := t0.2.2.1.2; have k_1l := t0.2.2.2.1; have a_2 : tPo T P (j + 1) h4 := u7 T P j t0 (by omega); have r_3 := (u14 T P (j + 1) a_2).1 (by omega); have r_3a : tPo T P ((j + 1) + 1) h11 := r_3.2.2; have r_4 := (u25 T P ((j + 1) + 1) r_3a).1 (by omega); have r_4a : tPo T P (((j + 1) + 1) + 1) h22 := (r_4.2 (by omega)); have k_5 := r_4a.2.2.1.2; have k_5l := r_4a.2.2.2.1; have v9 := r_3.2.1; have r_6 := (u35 T P (((j + 1) + 1) + 1) r_4a).1 (by omega); have r_6a : tPo T P ((((j + 1) + 1) + 1) + 1) h32 := r_6.2.2; have a_7 : tPo T P ((((j + 1) + 1) + 1) + 1) h42 := tPo_f r_6a (fun i => (zfC_a f45 (fun z9 => by unfold w_X2_join at z9; first | (revert z9; decide) | omega))) (fun i => (zfC_a f45 (fun z9 => by unfold w_X2_join at z9; first | (revert z9; decide) | omega))) (zfC_a f45 (fun z9 => by unfold w_X2_join at z9; first | (revert z9; decide) | omega)) (zfC_a f45 (fun z9 => by unfold w_X2_join at z9; first | (revert z9; decide) | omega)) (zfC_a f45 (fun z9 => by unfold w_X2_join at z9; first | (revert z9; decide) | omega)) (zfC_a f45 (fun z9 => by unfold w_X2_join at z9; first | (revert z9; decide) | omega)) (zfC_a f45 (fun z9 => by unfold w_X2_join at z9; first | (revert z9; decide) | omega)); have e_8 := u51 T P ((((j + 1) + 1) + 1) + 1) a_7; exact ⟨fun z => ⟨(((((j + 1) + 1) + 1) + 1) + 1), (e_8.1 z).2 (by omega), by omega, fun n9 s9 w9 => tRe_s (tRe_s (tRe_s (tRe_s (tRe_s tRe_r (tMl_l (Or.inr (Or.inr rfl)) yh9 w9)) (tM41_y rfl r_3.1)) (tM42_y r_4.1)) (tM43_y (by omega) rfl r_6.1)) (tMs_y (Or.inr (Or.inr ⟨rfl, rfl⟩)) (e_8.1 z).1)⟩, fun z => ⟨((((j + 1) + 1) + 1) + 1), _, (e_8.2 z).2, fun n9 s9 w9 => tRe_s (tRe_s (tRe_s (tRe_s (tRe_s tRe_r (tMl_l (Or.inr (Or.inr rfl)) yh9 w9)) (tM41_y rfl r_3.1)) (tM42_y r_4.1)) (tM43_y (by omega) rfl r_6.1)) (tMs_n (Or.inr (Or.inr rfl)) (e_8.2 z).1)⟩⟩)⟩
        · refine zj_iconst (zdk ttX7_readKinLine 44 rfl rfl) ?_
          have f63 : zfC (w_X7_readKinLine p1) h h4 := zfC_t (zfC_r _ _) f8 (fun a9 b9 z9 => by
            exact (Or.inl (by omega)))
          have f62 : zfC (w_X7_readKinLine p1) h h11 := zfC_t f63 f16 (fun a9 b9 z9 => by
            exact (Or.inl z9))
          have f61 : zfC (w_X7_readKinLine p1) h h22 := zfC_t f62 f26 (fun a9 b9 z9 => by
            exact (Or.inl (by omega)))
          have f60 : zfC (w_X7_readKinLine p1) h h32 := zfC_t f61 f37 (fun a9 b9 z9 => by
            exact (Or.inl z9))
          exact zj_zret rfl (zdk ttX7_readKinLine 45 rfl rfl) (Nat.le_refl _) (Nat.le_refl _) (by omega) ⟨0, rfl, by omega, s34, f60, (by intro T P j t0 yh9; have k0 := t0.2.2.1.2; have l0 := t0.2.2.2.1; have k_1 := t0.2.2.1.2; have k_1l := t0.2.2.2.1; have a_2 : tPo T P (j + 1) h4 := u7 T P j t0 (by omega); have r_3 := (u14 T P (j + 1) a_2).1 (by omega); have r_3a : tPo T P ((j + 1) + 1) h11 := r_3.2.2; have r_4 := (u25 T P ((j + 1) + 1) r_3a).1 (by omega); have r_4a : tPo T P (((j + 1) + 1) + 1) h22 := (r_4.2 (by omega)); have k_5 := r_4a.2.2.1.2; have k_5l := r_4a.2.2.2.1; have v9 := r_3.2.1; have e_6 := (u35 T P (((j + 1) + 1) + 1) r_4a).2 (by omega); exact ⟨fun z => absurd z (by omega), fun _ => ⟨(((j + 1) + 1) + 1), _, e_6.2, fun n9 s9 w9 => tRe_s (tRe_s (tRe_s (tRe_s tRe_r (tMl_l (Or.inr (Or.inr rfl)) yh9 w9)) (tM41_y rfl r_3.1)) (tM42_y r_4.1)) (tM43_n (by omega) rfl (by omega) rfl)⟩⟩)⟩
      · refine zj_aload_n (zdk ttX7_readKinLine 31 rfl rfl) rfl (by decide) ?_
        refine zj_getr (r := 103) (zdk ttX7_readKinLine 32 rfl rfl) zf_RX7_9 rfl (k_L107 s24) (rf_L107_0 s24) ?_
        refine zj_iconst (zdk ttX7_readKinLine 33 rfl rfl) ?_
        refine zj_callV (av := [.inl 2]) (st := []) (zdk ttX7_readKinLine 34 rfl rfl) mb_X6_refuse mv_RX7_81 (ci := 6) rfl rfl (k_L103 s24) rfl rfl (Nat.le_of_ble_eq_true rfl) (s2_X6_refuse l h22 2 s24 (by omega)) (rm_ok (by decide) (by decide)) (zq_i fun v65 h66 q64 => ?_)
        obtain ⟨b67, s68, f70, u69⟩ := q64
        have f74 : zfC (w_X7_readKinLine p1) h h4 := zfC_t (zfC_r _ _) f8 (fun a9 b9 z9 => by
          exact (Or.inl (by omega)))
        have f73 : zfC (w_X7_readKinLine p1) h h11 := zfC_t f74 f16 (fun a9 b9 z9 => by
          exact (Or.inl z9))
        have f72 : zfC (w_X7_readKinLine p1) h h22 := zfC_t f73 f26 (fun a9 b9 z9 => by
          exact (Or.inl (by omega)))
        have f71 : zfC (w_X7_readKinLine p1) h h66 := zfC_t f72 f70 (fun a9 b9 z9 => by
          exact (Or.inl (by omega)))
        have b75 : h66.2 103 6 = (h22.2 103 6) := (zfC_a f70 (fun z9 => by unfold w_X6_refuse at z9; first | (revert z9; decide) | omega))
        exact zj_zret rfl (zdk ttX7_readKinLine 35 rfl rfl) (Nat.le_refl _) (Nat.le_refl _) (by omega) ⟨v65, rfl, by omega, s68, f71, (by intro T P j t0 yh9; have k0 := t0.2.2.1.2; have l0 := t0.2.2.2.1; have k_1 := t0.2.2.1.2; have k_1l := t0.2.2.2.1; have a_2 : tPo T P (j + 1) h4 := u7 T P j t0 (by omega); have r_3 := (u14 T P (j + 1) a_2).1 (by omega); have r_3a : tPo T P ((j + 1) + 1) h11 := r_3.2.2; have r_4 := (u25 T P ((j + 1) + 1) r_3a).1 (by omega); have r_4a : tPo T P (((j + 1) + 1) + 1) h22 := (r_4.2 (by omega)); have k_5 := r_4a.2.2.1.2; have k_5l := r_4a.2.2.2.1; have v9 := r_3.2.1; have e_6 := u69 T P (((j + 1) + 1) + 1) r_4a; exact ⟨fun z => absurd z (by omega), fun _ => ⟨(((j + 1) + 1) + 1), _, e_6, fun n9 s9 w9 => tRe_s (tRe_s (tRe_s (tRe_s tRe_r (tMl_l (Or.inr (Or.inr rfl)) yh9 w9)) (tM41_y rfl r_3.1)) (tM42_y r_4.1)) (tM43_2 (by omega))⟩⟩)⟩
    · refine zj_iconst (zdk ttX7_readKinLine 22 rfl rfl) ?_
      have f78 : zfC (w_X7_readKinLine p1) h h4 := zfC_t (zfC_r _ _) f8 (fun a9 b9 z9 => by
        exact (Or.inl (by omega)))
      have f77 : zfC (w_X7_readKinLine p1) h h11 := zfC_t f78 f16 (fun a9 b9 z9 => by
        exact (Or.inl z9))
      have f76 : zfC (w_X7_readKinLine p1) h h22 := zfC_t f77 f26 (fun a9 b9 z9 => by
        exact (Or.inl (by omega)))
      exact zj_zret rfl (zdk ttX7_readKinLine 23 rfl rfl) (Nat.le_refl _) (Nat.le_refl _) (by omega) ⟨0, rfl, by omega, s24, f76, (by intro T P j t0 yh9; have k0 := t0.2.2.1.2; have l0 := t0.2.2.2.1; have k_1 := t0.2.2.1.2; have k_1l := t0.2.2.2.1; have a_2 : tPo T P (j + 1) h4 := u7 T P j t0 (by omega); have r_3 := (u14 T P (j + 1) a_2).1 (by omega); have r_3a : tPo T P ((j + 1) + 1) h11 := r_3.2.2; have e_4 := (u25 T P ((j + 1) + 1) r_3a).2 (by omega); exact ⟨fun z => absurd z (by omega), fun _ => ⟨((j + 1) + 1), _, e_4.2, fun n9 s9 w9 => tRe_s (tRe_s (tRe_s tRe_r (tMl_l (Or.inr (Or.inr rfl)) yh9 w9)) (tM41_y rfl r_3.1)) (tM42_n e_4.1)⟩⟩)⟩
  · refine zj_iconst (zdk ttX7_readKinLine 11 rfl rfl) ?_
    have f80 : zfC (w_X7_readKinLine p1) h h4 := zfC_t (zfC_r _ _) f8 (fun a9 b9 z9 => by
      exact (Or.inl (by omega)))
    have f79 : zfC (w_X7_readKinLine p1) h h11 := zfC_t f80 f16 (fun a9 b9 z9 => by
      exact (Or.inl z9))
    exact zj_zret rfl (zdk ttX7_readKinLine 12 rfl rfl) (Nat.le_refl _) (Nat.le_refl _) (by omega) ⟨0, rfl, by omega, s13, f79, (by intro T P j t0 yh9; have k0 := t0.2.2.1.2; have l0 := t0.2.2.2.1; have k_1 := t0.2.2.1.2; have k_1l := t0.2.2.2.1; have a_2 : tPo T P (j + 1) h4 := u7 T P j t0 (by omega); have e_3 := (u14 T P (j + 1) a_2).2 (by omega); exact ⟨fun z => absurd z (by omega), fun _ => ⟨(j + 1), _, e_3.2, fun n9 s9 w9 => tRe_s (tRe_s tRe_r (tMl_l (Or.inr (Or.inr rfl)) yh9 w9)) (tM41_n rfl (by omega) rfl)⟩⟩)⟩

abbrev q2_X7_readKin (h : zM) (p1 : Int) (p2 : Int) : Option zV → zM → Prop := zqi fun v h' => (0 ≤ v ∧ v ≤ 1) ∧ okC h' ∧ zfC (w_X7_readKin p1) h h' ∧ (h.2 103 7 = 0 → h.2 103 8 = -1 → ∃ T P c9, tCk 4 (h.2 104) (h.2 103 3) T P c9 ∧ (v = 1 → (h'.2 103 7 = 0 ∧ h'.2 103 8 = -1) ∧ ∃ j9, tRe T p2 (40, 0, 0, []) (1, j9, (h'.2 p1 1), [])) ∧ (v = 0 → ∃ i9 f9, (h'.2 103 7 = f9 ∧ h'.2 103 8 = P i9) ∧ tRe T p2 (40, 0, 0, []) (tEr i9 f9)))
set_option maxRecDepth 100000 in
set_option maxHeartbeats 4000000 in
theorem s2_X7_readKin (l : Launch) (h : zM) (p1 : Int) (p2 : Int) (s0 : okC h) (r_p1 : zKi p1) (b_p2 : 0 ≤ p2 ∧ p2 ≤ 18) : zT shC l yX7_readKin cX7_readKin 4 (some .boolean) (rmL 9) 0 0 [.inr 107, .inr p1, .inl p2] h (q2_X7_readKin h p1 p2) := by
  refine zT_of (by decide +kernel) (L0 := [some (.inr 107), some (.inr p1), some (.inl p2), none]) rfl (Nat.le_of_ble_eq_true rfl) ?_
  have b1 := zKi_b r_p1
  refine zj_aload_n (zdk ttX7_readKin 0 rfl rfl) rfl (by decide) ?_
  refine zj_getr (r := 103) (zdk ttX7_readKin 1 rfl rfl) zf_RX7_9 rfl (k_L107 s0) (rf_L107_0 s0) ?_
  refine zj_ldcS (i := 4) (zdk ttX7_readKin 2 rfl rfl) (List.mem_of_getElem? (i := 4) rfl) ?_
  refine zj_callV (av := [.inr (-2 - ((4 : Nat) : Int))]) (st := []) (zdk ttX7_readKin 3 rfl rfl) mb_X6_cut mv_RX7_19 (ci := 6) rfl rfl (k_L103 s0) rfl rfl (Nat.le_of_ble_eq_true rfl) (s2_X6_cut l h 4 s0 (show 4 < 5 by decide)) (rm_ok (by decide) (by decide)) (zq_v fun h4 q2 => ?_)
  obtain ⟨s6, f10, u7, u8, u9⟩ := q2
  refine zj_aload_n (zdk ttX7_readKin 4 rfl rfl) rfl (by omega) ?_
  refine zj_callV (av := []) (st := []) (zdk ttX7_readKin 5 rfl rfl) mb_X2_clear mv_RX7_132 (ci := 2) rfl rfl (k_2_0 s6 r_p1) rfl rfl (Nat.le_of_ble_eq_true rfl) (s2_X2_clear l h4 p1 s6 r_p1) (rm_ok (by decide) (by decide)) (zq_v fun h13 q11 => ?_)
  obtain ⟨s15, f17, u16⟩ := q11
  refine zj_iconst (zdk ttX7_readKin 6 rfl rfl) ?_
  refine zj_istore_n (L' := [some (.inr 107), some (.inr p1), some (.inl p2), some (.inl 0)]) (zdk ttX7_readKin 7 rfl rfl) (by decide) rfl ?_
  have lp44 : ∀ (n : Nat) (x18 : Int) (h19 : zM), (0 ≤ x18 ∧ x18 ≤ 16) → okC h19 → zfC (w_X7_readKin p1) h h19 → (h.2 103 7 = 0 → h.2 103 8 = -1 → ∃ j9, tPo (h4.2 105) (h4.2 106) j9 h19 ∧ tRe (h4.2 105) p2 (40, 0, 0, []) (40, j9, x18, [])) → (h19.2 p1 1 = x18) → (17 - x18).toNat < n → zJ shC l yX7_readKin cX7_readKin 4 (some .boolean) (rmL 9) 0 0 (q2_X7_readKin h p1 p2) 0 0 15 [some (.inr 107), some (.inr p1), some (.inl p2), some (.inl x18)] [] h19 := by
    intro n
    induction n with
    | zero => intro x18 h19 b45 s20 f21 u46 u47 m48; exact absurd m48 (Nat.not_lt_zero _)
    | succ n ih49 =>
      intro x18 h19 b45 s20 f21 u46 u47 m48
      refine zj_iload_n (zdk ttX7_readKin 8 rfl rfl) rfl ?_
      refine zj_bipush (zdk ttX7_readKin 9 rfl rfl) (by decide) ?_
      refine zj_icmp_gt (t := 68) (zdk ttX7_readKin 10 rfl rfl) (by decide) (by omega) (by decide) (fun c50 => ?_) (fun c50 => ?_)
      · exact absurd c50 (by omega)
      · refine zj_aload_n (zdk ttX7_readKin 11 rfl rfl) rfl (by decide) ?_
        refine zj_getr (r := 103) (zdk ttX7_readKin 12 rfl rfl) zf_RX7_9 rfl (k_L107 s20) (rf_L107_0 s20) ?_
        have b51 : -2147483648 ≤ (h19.2 103 6) ∧ (h19.2 103 6) ≤ 2147483647 := fb_L103_6 s20
        refine zj_geti (v := (h19.2 103 6)) (zdk ttX7_readKin 13 rfl rfl) zf_RX7_32 rfl (k_L103 s20) rfl ?_
        refine zj_if_eq (t := 68) (zdk ttX7_readKin 14 rfl rfl) (by decide) (by omega) (fun c52 => ?_) (fun c52 => ?_)
        · refine zj_iconst (zdk ttX7_readKin 36 rfl rfl) ?_
          exact zj_zret rfl (zdk ttX7_readKin 37 rfl rfl) (Nat.le_refl _) (Nat.le_refl _) (by omega) ⟨1, rfl, by omega, s20, f21, (by intro y7 y8; obtain ⟨j, t0, r0⟩ := u46 y7 y8; have k0 := t0.2.2.1.2; have l0 := t0.2.2.2.1; exact ⟨(h4.2 105), (h4.2 106), _, u9, fun _ => ⟨t0.2.2.2.2.2.2, j, by have z9 := tRe_s r0 (tMl_e (Or.inr (Or.inr rfl)) (by omega)); rw [show x18 = h19.2 p1 1 by omega] at z9; exact z9⟩, fun z => absurd z (by omega)⟩)⟩
        · refine zj_aload_n (zdk ttX7_readKin 15 rfl rfl) rfl (by decide) ?_
          refine zj_getr (r := 103) (zdk ttX7_readKin 16 rfl rfl) zf_RX7_9 rfl (k_L107 s20) (rf_L107_0 s20) ?_
          refine zj_iload_n (zdk ttX7_readKin 17 rfl rfl) rfl ?_
          refine zj_iconst (zdk ttX7_readKin 18 rfl rfl) ?_
          refine zj_iconst (zdk ttX7_readKin 19 rfl rfl) ?_
          refine zj_callV (av := [.inl x18, .inl 0, .inl 0]) (st := []) (zdk ttX7_readKin 20 rfl rfl) mb_X6_opensLine mv_RX7_35 (ci := 6) rfl rfl (k_L103 s20) rfl rfl (Nat.le_of_ble_eq_true rfl) (s2_X6_opensLine l h19 x18 0 0 s20 (by omega) (by omega) (by omega)) (rm_ok (by decide) (by decide)) (zq_i fun v54 h55 q53 => ?_)
          obtain ⟨b56, s57, f60, u58, u59⟩ := q53
          refine zj_if_eq (t := 53) (zdk ttX7_readKin 21 rfl rfl) (by decide) (by omega) (fun c61 => ?_) (fun c61 => ?_)
          · refine zj_iconst (zdk ttX7_readKin 27 rfl rfl) ?_
            have f62 : zfC (w_X7_readKin p1) h h55 := zfC_t f21 f60 (fun a9 b9 z9 => by
              exact (Or.inl (by omega)))
            have b63 : h55.2 103 6 = (h19.2 103 6) := (zfC_a f60 (fun z9 => by unfold w_X6_opensLine at z9; first | (revert z9; decide) | omega))
            exact zj_zret rfl (zdk ttX7_readKin 28 rfl rfl) (Nat.le_refl _) (Nat.le_refl _) (by omega) ⟨0, rfl, by omega, s57, f62, (by intro y7 y8; obtain ⟨j, t0, r0⟩ := u46 y7 y8; have k0 := t0.2.2.1.2; have l0 := t0.2.2.2.1; have e_1 := (u58 (h4.2 105) (h4.2 106) j t0).2 (by omega); exact ⟨(h4.2 105), (h4.2 106), _, u9, fun z => absurd z (by omega), fun _ => by rcases e_1 with ⟨q1, ⟨q2, q3⟩ | ⟨q2, q3, q4⟩⟩; exact ⟨j, _, ⟨q3, q1⟩, tRe_s r0 (tMl_1 (Or.inr (Or.inr rfl)) (by omega) (by omega))⟩; exact ⟨j, _, ⟨q4, q1⟩, tRe_s r0 (tMl_3 (Or.inr (Or.inr rfl)) (by omega) (by omega))⟩⟩)⟩
          · refine zj_aload_n (zdk ttX7_readKin 22 rfl rfl) rfl (by decide) ?_
            refine zj_aload_n (zdk ttX7_readKin 23 rfl rfl) rfl (by omega) ?_
            refine zj_iload_n (zdk ttX7_readKin 24 rfl rfl) rfl ?_
            refine zj_callV (av := [.inr p1, .inl p2]) (st := []) (zdk ttX7_readKin 25 rfl rfl) mb_X7_readKinLine mv_RX7_135 (ci := 7) rfl rfl (k_L107 s57) rfl rfl (Nat.le_of_ble_eq_true rfl) (s2_X7_readKinLine l h55 p1 p2 s57 r_p1 (by omega)) (rm_ok (by decide) (by decide)) (zq_i fun v65 h66 q64 => ?_)
            obtain ⟨b67, s68, f70, u69⟩ := q64
            refine zj_if_ne (t := 55) (zdk ttX7_readKin 26 rfl rfl) (by decide) (by omega) (fun c71 => ?_) (fun c71 => ?_)
            · refine zj_aload_n (zdk ttX7_readKin 29 rfl rfl) rfl (by omega) ?_
              refine zj_iload_n (zdk ttX7_readKin 30 rfl rfl) rfl ?_
              refine zj_iconst (zdk ttX7_readKin 31 rfl rfl) ?_
              refine zj_iadd (zdk ttX7_readKin 32 rfl rfl) ?_
              refine zj_puti (zdk ttX7_readKin 33 rfl rfl) zf_RX7_139 rfl (k_2_0 s68 r_p1) (Or.inl zw_RX7_139) (k2 := 1) rfl (fun h72 e73 => ?_)
              refine zj_iinc (L' := [some (.inr 107), some (.inr p1), some (.inl p2), some (.inl (x18 + 1))]) (zdk ttX7_readKin 34 rfl rfl) rfl (by decide) rfl ?_
              refine zj_goto (t := 15) (zdk ttX7_readKin 35 rfl rfl) (by decide) ?_
              have b74 : h72.2 p1 1 = (x18 + 1) := (zwr_v e73)
              have s75 : okC h72 := fw_2_0_1 s68 r_p1 e73 (by omega)
              have f78 : zfC (w_X7_readKin p1) h h55 := zfC_t f21 f60 (fun a9 b9 z9 => by
                exact (Or.inl (by omega)))
              have f77 : zfC (w_X7_readKin p1) h h66 := zfC_t f78 f70 (fun a9 b9 z9 => by
                rcases z9 with z9 | z9
                · exact (Or.inl (by omega))
                · exact (Or.inr (Or.inr (Or.inr (by omega)))))
              have f76 : zfC (w_X7_readKin p1) h h72 := zfC_w f77 e73 (Or.inr (Or.inr (Or.inl (by omega))))
              have b79 : h55.2 103 6 = (h19.2 103 6) := (zfC_a f60 (fun z9 => by unfold w_X6_opensLine at z9; first | (revert z9; decide) | omega))
              have b80 : h72.2 103 6 = (h66.2 103 6) := (zwr_r e73 (by first | decide | exact (absurd ·.1 (by decide)) | exact (absurd ·.2 (by decide)) | omega))
              exact ih49  (x18 + 1) h72 (by omega) s75 f76 (by intro y7 y8; obtain ⟨j, t0, r0⟩ := u46 y7 y8; have k0 := t0.2.2.1.2; have l0 := t0.2.2.2.1; have r_1 := (u58 (h4.2 105) (h4.2 106) j t0).1 (by omega); obtain ⟨r_2j, r_2a, r_2l, r_2r⟩ := (u69 (h4.2 105) (h4.2 106) j r_1.2.2 (by have z9 := r_1.1; omega)).1 (by omega); have a_3 : tPo (h4.2 105) (h4.2 106) r_2j h72 := tPo_f r_2a (fun i => (zwr_r e73 (by first | decide | exact (absurd ·.1 (by decide)) | exact (absurd ·.2 (by decide)) | omega))) (fun i => (zwr_r e73 (by first | decide | exact (absurd ·.1 (by decide)) | exact (absurd ·.2 (by decide)) | omega))) (zwr_r e73 (by first | decide | exact (absurd ·.1 (by decide)) | exact (absurd ·.2 (by decide)) | omega)) (zwr_r e73 (by first | decide | exact (absurd ·.1 (by decide)) | exact (absurd ·.2 (by decide)) | omega)) (zwr_r e73 (by first | decide | exact (absurd ·.1 (by decide)) | exact (absurd ·.2 (by decide)) | omega)) (zwr_r e73 (by first | decide | exact (absurd ·.1 (by decide)) | exact (absurd ·.2 (by decide)) | omega)) (zwr_r e73 (by first | decide | exact (absurd ·.1 (by decide)) | exact (absurd ·.2 (by decide)) | omega)); exact ⟨r_2j, a_3, tRe_t r0 (r_2r x18 [] (by omega))⟩) (by omega) (by omega)
            · refine zj_iconst (zdk ttX7_readKin 27 rfl rfl) ?_
              have f82 : zfC (w_X7_readKin p1) h h55 := zfC_t f21 f60 (fun a9 b9 z9 => by
                exact (Or.inl (by omega)))
              have f81 : zfC (w_X7_readKin p1) h h66 := zfC_t f82 f70 (fun a9 b9 z9 => by
                rcases z9 with z9 | z9
                · exact (Or.inl (by omega))
                · exact (Or.inr (Or.inr (Or.inr (by omega)))))
              have b83 : h55.2 103 6 = (h19.2 103 6) := (zfC_a f60 (fun z9 => by unfold w_X6_opensLine at z9; first | (revert z9; decide) | omega))
              exact zj_zret rfl (zdk ttX7_readKin 28 rfl rfl) (Nat.le_refl _) (Nat.le_refl _) (by omega) ⟨0, rfl, by omega, s68, f81, (by intro y7 y8; obtain ⟨j, t0, r0⟩ := u46 y7 y8; have k0 := t0.2.2.1.2; have l0 := t0.2.2.2.1; have r_1 := (u58 (h4.2 105) (h4.2 106) j t0).1 (by omega); obtain ⟨e_2i, e_2f, e_2q, e_2r⟩ := (u69 (h4.2 105) (h4.2 106) j r_1.2.2 (by have z9 := r_1.1; omega)).2 (by omega); exact ⟨(h4.2 105), (h4.2 106), _, u9, fun z => absurd z (by omega), fun _ => ⟨e_2i, e_2f, e_2q, tRe_t r0 (e_2r x18 [] (by omega))⟩⟩)⟩
  have f85 : zfC (w_X7_readKin p1) h h4 := zfC_t (zfC_r _ _) f10 (fun a9 b9 z9 => by
    rcases z9 with z9 | z9
    · exact (Or.inl (by omega))
    · exact (Or.inr (Or.inl z9)))
  have f84 : zfC (w_X7_readKin p1) h h13 := zfC_t f85 f17 (fun a9 b9 z9 => by
    rcases z9 with z9 | z9
    · exact (Or.inr (Or.inr (Or.inl (by omega))))
    · exact (Or.inr (Or.inr (Or.inr (by omega)))))
  have b86 : h13.2 103 6 = (h4.2 103 6) := (zfC_a f17 (fun z9 => by unfold w_X2_clear at z9; first | (revert z9; decide) | omega))
  exact lp44 _ 0 h13 (by omega) s15 f84 (by intro y7 y8; have t0 := tCk_po (h := h4) (by have z8 := u9; exact z8) u7 u8 ((zfC_a f10 (fun z9 => by unfold w_X6_cut at z9; first | (revert z9; decide) | omega)).trans y7) ((zfC_a f10 (fun z9 => by unfold w_X6_cut at z9; first | (revert z9; decide) | omega)).trans y8); have k0 := t0.2.2.1.2; have l0 := t0.2.2.2.1; have a_1 : tPo (h4.2 105) (h4.2 106) 0 h13 := tPo_f t0 (fun i => (zfC_a f17 (fun z9 => by unfold w_X2_clear at z9; first | (revert z9; decide) | omega))) (fun i => (zfC_a f17 (fun z9 => by unfold w_X2_clear at z9; first | (revert z9; decide) | omega))) (zfC_a f17 (fun z9 => by unfold w_X2_clear at z9; first | (revert z9; decide) | omega)) (zfC_a f17 (fun z9 => by unfold w_X2_clear at z9; first | (revert z9; decide) | omega)) (zfC_a f17 (fun z9 => by unfold w_X2_clear at z9; first | (revert z9; decide) | omega)) (zfC_a f17 (fun z9 => by unfold w_X2_clear at z9; first | (revert z9; decide) | omega)) (zfC_a f17 (fun z9 => by unfold w_X2_clear at z9; first | (revert z9; decide) | omega)); exact ⟨0, a_1, tRe_r⟩) (by omega) (Nat.lt_succ_self _)

abbrev q2_X6_rewind (h : zM) : Option zV → zM → Prop := zqv fun h' => okC h' ∧ zfC w_X6_rewind h h' ∧ (h'.2 103 7 = 0 ∧ h'.2 103 8 = -1)
set_option maxRecDepth 100000 in
set_option maxHeartbeats 4000000 in
theorem s2_X6_rewind (l : Launch) (h : zM) (s0 : okC h) : zT shC l yX6_rewind cX6_rewind 1 none (rmL 1) 0 0 [.inr 103] h (q2_X6_rewind h) := by
  refine zT_of (by decide +kernel) (L0 := [some (.inr 103)]) rfl (Nat.le_of_ble_eq_true rfl) ?_
  refine zj_aload_n (zdk ttX6_rewind 0 rfl rfl) rfl (by decide) ?_
  refine zj_iconst (zdk ttX6_rewind 1 rfl rfl) ?_
  refine zj_puti (zdk ttX6_rewind 2 rfl rfl) zf_RX6_34 rfl (k_L103 s0) (Or.inl zw_RX6_34) (k2 := 7) rfl (fun h1 e2 => ?_)
  refine zj_aload_n (zdk ttX6_rewind 3 rfl rfl) rfl (by decide) ?_
  refine zj_iconst (zdk ttX6_rewind 4 rfl rfl) ?_
  have s3 : okC h1 := fw_L103_7 s0 e2 (by omega)
  refine zj_puti (zdk ttX6_rewind 5 rfl rfl) zf_RX6_37 rfl (k_L103 s3) (Or.inl zw_RX6_37) (k2 := 8) rfl (fun h4 e5 => ?_)
  have s6 : okC h4 := fw_L103_8 s3 e5 (by omega)
  have f8 : zfC w_X6_rewind h h1 := zfC_w (zfC_r _ _) e2 (by omega)
  have f7 : zfC w_X6_rewind h h4 := zfC_w f8 e5 (by omega)
  exact zj_vret rfl (zdk ttX6_rewind 6 rfl rfl) (Nat.le_refl _) (Nat.le_refl _) ⟨rfl, s6, f7, ⟨(zwr_r e5 (by first | decide | exact (absurd ·.1 (by decide)) | exact (absurd ·.2 (by decide)) | omega)).trans (zwr_v e2), zwr_v e5⟩⟩

abbrev q2_X3_copyFrom (h : zM) (c : Int) (p1 : Int) : Option zV → zM → Prop := zqv fun h' => okC h' ∧ zfC (w_X3_copyFrom c) h h' ∧ (h'.2 c 6 = h.2 p1 6)
set_option maxRecDepth 100000 in
set_option maxHeartbeats 4000000 in
theorem s2_X3_copyFrom (l : Launch) (h : zM) (c : Int) (p1 : Int) (s0 : okC h) (hc : zLw c) (r_p1 : zLw p1) : zT shC l yX3_copyFrom cX3_copyFrom 2 none (rmL 1) 0 0 [.inr c, .inr p1] h (q2_X3_copyFrom h c p1) := by
  refine zT_of (by decide +kernel) (L0 := [some (.inr c), some (.inr p1)]) rfl (Nat.le_of_ble_eq_true rfl) ?_
  have b1 := zLw_b hc
  have b2 := zLw_b r_p1
  refine zj_aload_n (zdk ttX3_copyFrom 0 rfl rfl) rfl (by omega) ?_
  refine zj_getr (r := (p1 + 1)) (zdk ttX3_copyFrom 1 rfl rfl) zf_RX3_9 rfl (k_3_0 s0 r_p1) (rf_3_0_0 s0 r_p1) ?_
  refine zj_iconst (zdk ttX3_copyFrom 2 rfl rfl) ?_
  refine zj_aload_n (zdk ttX3_copyFrom 3 rfl rfl) rfl (by omega) ?_
  refine zj_getr (r := (c + 1)) (zdk ttX3_copyFrom 4 rfl rfl) zf_RX3_9 rfl (k_3_0 s0 hc) (rf_3_0_0 s0 hc) ?_
  refine zj_iconst (zdk ttX3_copyFrom 5 rfl rfl) ?_
  refine zj_bipush (zdk ttX3_copyFrom 6 rfl rfl) (by decide) ?_
  refine zj_copy (zdk ttX3_copyFrom 7 rfl rfl) mc_RX3_39 (ka_3_0_0 s0 r_p1) (ka_3_0_0 s0 hc) (by decide) (by decide) (by decide) (by decide) (Nat.le_of_ble_eq_true rfl) (rm_c (by decide)) (fun h3 e4 => ?_)
  refine zj_aload_n (zdk ttX3_copyFrom 8 rfl rfl) rfl (by omega) ?_
  have s5 : okC h3 := okC_cp s0 e4 (fun j i => pa_3_0_0 hc (ab_3_0_0 s0 r_p1 i) j) (na_3_0_0 hc).1 (na_3_0_0 hc).2
  refine zj_getr (r := (p1 + 2)) (zdk ttX3_copyFrom 9 rfl rfl) zf_RX3_15 rfl (k_3_0 s5 r_p1) (rf_3_0_1 s5 r_p1) ?_
  refine zj_iconst (zdk ttX3_copyFrom 10 rfl rfl) ?_
  refine zj_aload_n (zdk ttX3_copyFrom 11 rfl rfl) rfl (by omega) ?_
  refine zj_getr (r := (c + 2)) (zdk ttX3_copyFrom 12 rfl rfl) zf_RX3_15 rfl (k_3_0 s5 hc) (rf_3_0_1 s5 hc) ?_
  refine zj_iconst (zdk ttX3_copyFrom 13 rfl rfl) ?_
  refine zj_bipush (zdk ttX3_copyFrom 14 rfl rfl) (by decide) ?_
  refine zj_copy (zdk ttX3_copyFrom 15 rfl rfl) mc_RX3_39 (ka_3_0_1 s5 r_p1) (ka_3_0_1 s5 hc) (by decide) (by decide) (by decide) (by decide) (Nat.le_of_ble_eq_true rfl) (rm_c (by decide)) (fun h6 e7 => ?_)
  refine zj_aload_n (zdk ttX3_copyFrom 16 rfl rfl) rfl (by omega) ?_
  have s8 : okC h6 := okC_cp s5 e7 (fun j i => pa_3_0_1 hc (ab_3_0_1 s5 r_p1 i) j) (na_3_0_1 hc).1 (na_3_0_1 hc).2
  refine zj_getr (r := (p1 + 3)) (zdk ttX3_copyFrom 17 rfl rfl) zf_RX3_18 rfl (k_3_0 s8 r_p1) (rf_3_0_2 s8 r_p1) ?_
  refine zj_iconst (zdk ttX3_copyFrom 18 rfl rfl) ?_
  refine zj_aload_n (zdk ttX3_copyFrom 19 rfl rfl) rfl (by omega) ?_
  refine zj_getr (r := (c + 3)) (zdk ttX3_copyFrom 20 rfl rfl) zf_RX3_18 rfl (k_3_0 s8 hc) (rf_3_0_2 s8 hc) ?_
  refine zj_iconst (zdk ttX3_copyFrom 21 rfl rfl) ?_
  refine zj_bipush (zdk ttX3_copyFrom 22 rfl rfl) (by decide) ?_
  refine zj_copy (zdk ttX3_copyFrom 23 rfl rfl) mc_RX3_39 (ka_3_0_2 s8 r_p1) (ka_3_0_2 s8 hc) (by decide) (by decide) (by decide) (by decide) (Nat.le_of_ble_eq_true rfl) (rm_c (by decide)) (fun h9 e10 => ?_)
  refine zj_aload_n (zdk ttX3_copyFrom 24 rfl rfl) rfl (by omega) ?_
  have s11 : okC h9 := okC_cp s8 e10 (fun j i => pa_3_0_2 hc (ab_3_0_2 s8 r_p1 i) j) (na_3_0_2 hc).1 (na_3_0_2 hc).2
  refine zj_getr (r := (p1 + 4)) (zdk ttX3_copyFrom 25 rfl rfl) zf_RX3_21 rfl (k_3_0 s11 r_p1) (rf_3_0_3 s11 r_p1) ?_
  refine zj_iconst (zdk ttX3_copyFrom 26 rfl rfl) ?_
  refine zj_aload_n (zdk ttX3_copyFrom 27 rfl rfl) rfl (by omega) ?_
  refine zj_getr (r := (c + 4)) (zdk ttX3_copyFrom 28 rfl rfl) zf_RX3_21 rfl (k_3_0 s11 hc) (rf_3_0_3 s11 hc) ?_
  refine zj_iconst (zdk ttX3_copyFrom 29 rfl rfl) ?_
  refine zj_bipush (zdk ttX3_copyFrom 30 rfl rfl) (by decide) ?_
  refine zj_copy (zdk ttX3_copyFrom 31 rfl rfl) mc_RX3_39 (ka_3_0_3 s11 r_p1) (ka_3_0_3 s11 hc) (by decide) (by decide) (by decide) (by decide) (Nat.le_of_ble_eq_true rfl) (rm_c (by decide)) (fun h12 e13 => ?_)
  refine zj_aload_n (zdk ttX3_copyFrom 32 rfl rfl) rfl (by omega) ?_
  have s14 : okC h12 := okC_cp s11 e13 (fun j i => pa_3_0_3 hc (ab_3_0_3 s11 r_p1 i) j) (na_3_0_3 hc).1 (na_3_0_3 hc).2
  refine zj_getr (r := (p1 + 5)) (zdk ttX3_copyFrom 33 rfl rfl) zf_RX3_26 rfl (k_3_0 s14 r_p1) (rf_3_0_4 s14 r_p1) ?_
  refine zj_iconst (zdk ttX3_copyFrom 34 rfl rfl) ?_
  refine zj_aload_n (zdk ttX3_copyFrom 35 rfl rfl) rfl (by omega) ?_
  refine zj_getr (r := (c + 5)) (zdk ttX3_copyFrom 36 rfl rfl) zf_RX3_26 rfl (k_3_0 s14 hc) (rf_3_0_4 s14 hc) ?_
  refine zj_iconst (zdk ttX3_copyFrom 37 rfl rfl) ?_
  refine zj_sipush (zdk ttX3_copyFrom 38 rfl rfl) (by decide) ?_
  refine zj_copy (zdk ttX3_copyFrom 39 rfl rfl) mc_RX3_39 (ka_3_0_4 s14 r_p1) (ka_3_0_4 s14 hc) (by decide) (by decide) (by decide) (by decide) (Nat.le_of_ble_eq_true rfl) (rm_c (by decide)) (fun h15 e16 => ?_)
  refine zj_aload_n (zdk ttX3_copyFrom 40 rfl rfl) rfl (by omega) ?_
  refine zj_aload_n (zdk ttX3_copyFrom 41 rfl rfl) rfl (by omega) ?_
  have s17 : okC h15 := okC_cp s14 e16 (fun j i => pa_3_0_4 hc (ab_3_0_4 s14 r_p1 i) j) (na_3_0_4 hc).1 (na_3_0_4 hc).2
  have b18 : 0 ≤ (h15.2 p1 6) ∧ (h15.2 p1 6) ≤ 16 := fb_3_0_6 s17 r_p1
  refine zj_geti (v := (h15.2 p1 6)) (zdk ttX3_copyFrom 42 rfl rfl) zf_RX3_32 rfl (k_3_0 s17 r_p1) rfl ?_
  refine zj_puti (zdk ttX3_copyFrom 43 rfl rfl) zf_RX3_32 rfl (k_3_0 s17 hc) (Or.inl zw_RX3_32) (k2 := 6) rfl (fun h19 e20 => ?_)
  refine zj_aload_n (zdk ttX3_copyFrom 44 rfl rfl) rfl (by omega) ?_
  refine zj_aload_n (zdk ttX3_copyFrom 45 rfl rfl) rfl (by omega) ?_
  have b21 : 0 ≤ (h15.2 p1 7) ∧ (h15.2 p1 7) ≤ 400 := fb_3_0_7 s17 r_p1
  have s22 : okC h19 := fw_3_0_6 s17 hc e20 (by omega)
  refine zj_geti (v := (h15.2 p1 7)) (zdk ttX3_copyFrom 46 rfl rfl) zf_RX3_36 rfl (k_3_0 s22 r_p1) (zwr_r e20 (by first | decide | exact (absurd ·.1 (by decide)) | exact (absurd ·.2 (by decide)) | omega)) ?_
  refine zj_puti (zdk ttX3_copyFrom 47 rfl rfl) zf_RX3_36 rfl (k_3_0 s22 hc) (Or.inl zw_RX3_36) (k2 := 7) rfl (fun h23 e24 => ?_)
  have s25 : okC h23 := fw_3_0_7 s22 hc e24 (by omega)
  have f32 : zfC (w_X3_copyFrom c) h h3 := zfC_cp (zfC_r _ _) e4 (fun _ => (Or.inr (by omega)))
  have f31 : zfC (w_X3_copyFrom c) h h6 := zfC_cp f32 e7 (fun _ => (Or.inr (by omega)))
  have f30 : zfC (w_X3_copyFrom c) h h9 := zfC_cp f31 e10 (fun _ => (Or.inr (by omega)))
  have f29 : zfC (w_X3_copyFrom c) h h12 := zfC_cp f30 e13 (fun _ => (Or.inr (by omega)))
  have f28 : zfC (w_X3_copyFrom c) h h15 := zfC_cp f29 e16 (fun _ => (Or.inr (by omega)))
  have f27 : zfC (w_X3_copyFrom c) h h19 := zfC_w f28 e20 (Or.inl (by omega))
  have f26 : zfC (w_X3_copyFrom c) h h23 := zfC_w f27 e24 (Or.inl (by omega))
  exact zj_vret rfl (zdk ttX3_copyFrom 48 rfl rfl) (Nat.le_refl _) (Nat.le_refl _) ⟨rfl, s25, f26, (by have s9 := zLw_sep hc r_p1; have e9 := zwr_v e20; refine ((zwr_r e24 (by first | decide | exact (absurd ·.1 (by decide)) | exact (absurd ·.2 (by decide)) | omega))).trans (e9.trans ?_); first | rfl | exact (((((zcp_r e16 (by omega)).trans (zcp_r e13 (by omega))).trans (zcp_r e10 (by omega))).trans (zcp_r e7 (by omega))).trans (zcp_r e4 (by omega))) | exact ((((zcp_r e13 (by omega)).trans (zcp_r e10 (by omega))).trans (zcp_r e7 (by omega))).trans (zcp_r e4 (by omega))))⟩

abbrev q2_X4_copyFrom (h : zM) (c : Int) (p1 : Int) : Option zV → zM → Prop := zqv fun h' => okC h' ∧ zfC (w_X4_copyFrom c) h h' ∧ (h'.2 c 3 = h.2 p1 3)
set_option maxRecDepth 100000 in
set_option maxHeartbeats 4000000 in
theorem s2_X4_copyFrom (l : Launch) (h : zM) (c : Int) (p1 : Int) (s0 : okC h) (hc : zPl c) (r_p1 : zPl p1) : zT shC l yX4_copyFrom cX4_copyFrom 2 none (rmL 1) 0 0 [.inr c, .inr p1] h (q2_X4_copyFrom h c p1) := by
  refine zT_of (by decide +kernel) (L0 := [some (.inr c), some (.inr p1)]) rfl (Nat.le_of_ble_eq_true rfl) ?_
  have b1 := zPl_b hc
  have b2 := zPl_b r_p1
  refine zj_aload_n (zdk ttX4_copyFrom 0 rfl rfl) rfl (by omega) ?_
  refine zj_getr (r := (p1 + 1)) (zdk ttX4_copyFrom 1 rfl rfl) zf_RX4_9 rfl (k_4_0 s0 r_p1) (rf_4_0_0 s0 r_p1) ?_
  refine zj_iconst (zdk ttX4_copyFrom 2 rfl rfl) ?_
  refine zj_aload_n (zdk ttX4_copyFrom 3 rfl rfl) rfl (by omega) ?_
  refine zj_getr (r := (c + 1)) (zdk ttX4_copyFrom 4 rfl rfl) zf_RX4_9 rfl (k_4_0 s0 hc) (rf_4_0_0 s0 hc) ?_
  refine zj_iconst (zdk ttX4_copyFrom 5 rfl rfl) ?_
  refine zj_bipush (zdk ttX4_copyFrom 6 rfl rfl) (by decide) ?_
  refine zj_copy (zdk ttX4_copyFrom 7 rfl rfl) mc_RX4_25 (ka_4_0_0 s0 r_p1) (ka_4_0_0 s0 hc) (by decide) (by decide) (by decide) (by decide) (Nat.le_of_ble_eq_true rfl) (rm_c (by decide)) (fun h3 e4 => ?_)
  refine zj_aload_n (zdk ttX4_copyFrom 8 rfl rfl) rfl (by omega) ?_
  have s5 : okC h3 := okC_cp s0 e4 (fun j i => pa_4_0_0 hc (ab_4_0_0 s0 r_p1 i) j) (na_4_0_0 hc).1 (na_4_0_0 hc).2
  refine zj_getr (r := (p1 + 2)) (zdk ttX4_copyFrom 9 rfl rfl) zf_RX4_15 rfl (k_4_0 s5 r_p1) (rf_4_0_1 s5 r_p1) ?_
  refine zj_iconst (zdk ttX4_copyFrom 10 rfl rfl) ?_
  refine zj_aload_n (zdk ttX4_copyFrom 11 rfl rfl) rfl (by omega) ?_
  refine zj_getr (r := (c + 2)) (zdk ttX4_copyFrom 12 rfl rfl) zf_RX4_15 rfl (k_4_0 s5 hc) (rf_4_0_1 s5 hc) ?_
  refine zj_iconst (zdk ttX4_copyFrom 13 rfl rfl) ?_
  refine zj_bipush (zdk ttX4_copyFrom 14 rfl rfl) (by decide) ?_
  refine zj_copy (zdk ttX4_copyFrom 15 rfl rfl) mc_RX4_25 (ka_4_0_1 s5 r_p1) (ka_4_0_1 s5 hc) (by decide) (by decide) (by decide) (by decide) (Nat.le_of_ble_eq_true rfl) (rm_c (by decide)) (fun h6 e7 => ?_)
  refine zj_aload_n (zdk ttX4_copyFrom 16 rfl rfl) rfl (by omega) ?_
  have s8 : okC h6 := okC_cp s5 e7 (fun j i => pa_4_0_1 hc (ab_4_0_1 s5 r_p1 i) j) (na_4_0_1 hc).1 (na_4_0_1 hc).2
  refine zj_getr (r := (p1 + 3)) (zdk ttX4_copyFrom 17 rfl rfl) zf_RX4_18 rfl (k_4_0 s8 r_p1) (rf_4_0_2 s8 r_p1) ?_
  refine zj_iconst (zdk ttX4_copyFrom 18 rfl rfl) ?_
  refine zj_aload_n (zdk ttX4_copyFrom 19 rfl rfl) rfl (by omega) ?_
  refine zj_getr (r := (c + 3)) (zdk ttX4_copyFrom 20 rfl rfl) zf_RX4_18 rfl (k_4_0 s8 hc) (rf_4_0_2 s8 hc) ?_
  refine zj_iconst (zdk ttX4_copyFrom 21 rfl rfl) ?_
  refine zj_bipush (zdk ttX4_copyFrom 22 rfl rfl) (by decide) ?_
  refine zj_copy (zdk ttX4_copyFrom 23 rfl rfl) mc_RX4_25 (ka_4_0_2 s8 r_p1) (ka_4_0_2 s8 hc) (by decide) (by decide) (by decide) (by decide) (Nat.le_of_ble_eq_true rfl) (rm_c (by decide)) (fun h9 e10 => ?_)
  refine zj_aload_n (zdk ttX4_copyFrom 24 rfl rfl) rfl (by omega) ?_
  refine zj_aload_n (zdk ttX4_copyFrom 25 rfl rfl) rfl (by omega) ?_
  have s11 : okC h9 := okC_cp s8 e10 (fun j i => pa_4_0_2 hc (ab_4_0_2 s8 r_p1 i) j) (na_4_0_2 hc).1 (na_4_0_2 hc).2
  have b12 : 0 ≤ (h9.2 p1 3) ∧ (h9.2 p1 3) ≤ 16 := fb_4_0_3 s11 r_p1
  refine zj_geti (v := (h9.2 p1 3)) (zdk ttX4_copyFrom 26 rfl rfl) zf_RX4_21 rfl (k_4_0 s11 r_p1) rfl ?_
  refine zj_puti (zdk ttX4_copyFrom 27 rfl rfl) zf_RX4_21 rfl (k_4_0 s11 hc) (Or.inl zw_RX4_21) (k2 := 3) rfl (fun h13 e14 => ?_)
  have s15 : okC h13 := fw_4_0_3 s11 hc e14 (by omega)
  have f19 : zfC (w_X4_copyFrom c) h h3 := zfC_cp (zfC_r _ _) e4 (fun _ => (Or.inr (by omega)))
  have f18 : zfC (w_X4_copyFrom c) h h6 := zfC_cp f19 e7 (fun _ => (Or.inr (by omega)))
  have f17 : zfC (w_X4_copyFrom c) h h9 := zfC_cp f18 e10 (fun _ => (Or.inr (by omega)))
  have f16 : zfC (w_X4_copyFrom c) h h13 := zfC_w f17 e14 (Or.inl (by omega))
  exact zj_vret rfl (zdk ttX4_copyFrom 28 rfl rfl) (Nat.le_refl _) (Nat.le_refl _) ⟨rfl, s15, f16, (by have s9 := zPl_sep hc r_p1; have e9 := zwr_v e14; refine (rfl).trans (e9.trans ?_); first | rfl | exact (((zcp_r e10 (by omega)).trans (zcp_r e7 (by omega))).trans (zcp_r e4 (by omega))) | exact ((zcp_r e7 (by omega)).trans (zcp_r e4 (by omega))))⟩

abbrev q2_X2_copyFrom (h : zM) (c : Int) (p1 : Int) : Option zV → zM → Prop := zqv fun h' => okC h' ∧ zfC (w_X2_copyFrom c) h h' ∧ (h'.2 c 1 = h.2 p1 1)
set_option maxRecDepth 100000 in
set_option maxHeartbeats 4000000 in
theorem s2_X2_copyFrom (l : Launch) (h : zM) (c : Int) (p1 : Int) (s0 : okC h) (hc : zKi c) (r_p1 : zKi p1) : zT shC l yX2_copyFrom cX2_copyFrom 2 none (rmL 1) 0 0 [.inr c, .inr p1] h (q2_X2_copyFrom h c p1) := by
  refine zT_of (by decide +kernel) (L0 := [some (.inr c), some (.inr p1)]) rfl (Nat.le_of_ble_eq_true rfl) ?_
  have b1 := zKi_b hc
  have b2 := zKi_b r_p1
  refine zj_aload_n (zdk ttX2_copyFrom 0 rfl rfl) rfl (by omega) ?_
  refine zj_getr (r := (p1 + 1)) (zdk ttX2_copyFrom 1 rfl rfl) zf_RX2_9 rfl (k_2_0 s0 r_p1) (rf_2_0_0 s0 r_p1) ?_
  refine zj_iconst (zdk ttX2_copyFrom 2 rfl rfl) ?_
  refine zj_aload_n (zdk ttX2_copyFrom 3 rfl rfl) rfl (by omega) ?_
  refine zj_getr (r := (c + 1)) (zdk ttX2_copyFrom 4 rfl rfl) zf_RX2_9 rfl (k_2_0 s0 hc) (rf_2_0_0 s0 hc) ?_
  refine zj_iconst (zdk ttX2_copyFrom 5 rfl rfl) ?_
  refine zj_bipush (zdk ttX2_copyFrom 6 rfl rfl) (by decide) ?_
  refine zj_copy (zdk ttX2_copyFrom 7 rfl rfl) mc_RX2_19 (ka_2_0_0 s0 r_p1) (ka_2_0_0 s0 hc) (by decide) (by decide) (by decide) (by decide) (Nat.le_of_ble_eq_true rfl) (rm_c (by decide)) (fun h3 e4 => ?_)
  refine zj_aload_n (zdk ttX2_copyFrom 8 rfl rfl) rfl (by omega) ?_
  refine zj_aload_n (zdk ttX2_copyFrom 9 rfl rfl) rfl (by omega) ?_
  have s5 : okC h3 := okC_cp s0 e4 (fun j i => pa_2_0_0 hc (ab_2_0_0 s0 r_p1 i) j) (na_2_0_0 hc).1 (na_2_0_0 hc).2
  have b6 : -2147483648 ≤ (h3.2 p1 1) ∧ (h3.2 p1 1) ≤ 2147483647 := fb_2_0_1 s5 r_p1
  refine zj_geti (v := (h3.2 p1 1)) (zdk ttX2_copyFrom 10 rfl rfl) zf_RX2_15 rfl (k_2_0 s5 r_p1) rfl ?_
  refine zj_puti (zdk ttX2_copyFrom 11 rfl rfl) zf_RX2_15 rfl (k_2_0 s5 hc) (Or.inl zw_RX2_15) (k2 := 1) rfl (fun h7 e8 => ?_)
  have s9 : okC h7 := fw_2_0_1 s5 hc e8 (by omega)
  have f11 : zfC (w_X2_copyFrom c) h h3 := zfC_cp (zfC_r _ _) e4 (fun _ => (Or.inr (by omega)))
  have f10 : zfC (w_X2_copyFrom c) h h7 := zfC_w f11 e8 (Or.inl (by omega))
  exact zj_vret rfl (zdk ttX2_copyFrom 12 rfl rfl) (Nat.le_refl _) (Nat.le_refl _) ⟨rfl, s9, f10, (by have s9 := zKi_sep hc r_p1; have e9 := zwr_v e8; refine (rfl).trans (e9.trans ?_); first | rfl | exact (zcp_r e4 (by omega)) | exact rfl)⟩

abbrev q2_X10_text (h : zM) (p1 : Int) : Option zV → zM → Prop := zqi fun v h' => ((-2147483648) ≤ v ∧ v ≤ 2147483647) ∧ okC h' ∧ zfC w_X10_text h h' ∧ (h'.2 103 3 = 0) ∧ (zJP h → zJP h') ∧ (tTX p1 (h.2 2 3) (h.2 104) (h.2 103 3) v (h'.2 103 7) (h'.2 103 8))
set_option maxRecDepth 100000 in
set_option maxHeartbeats 4000000 in
theorem s2_X10_text (l : Launch) (h : zM) (p1 : Int) (s0 : okC h) (b_p1 : (-2147483648) ≤ p1 ∧ p1 ≤ 2147483647) : zT shC l yX10_text cX10_text 4 (some .int) (rmL 33) 0 0 [.inr 0, .inl p1] h (q2_X10_text h p1) := by
  refine zT_of (by decide +kernel) (L0 := [some (.inr 0), some (.inl p1), none, none]) rfl (Nat.le_of_ble_eq_true rfl) ?_
  refine zj_aload_n (zdk ttX10_text 0 rfl rfl) rfl (by decide) ?_
  refine zj_getr (r := 1) (zdk ttX10_text 1 rfl rfl) zf_RX10_10 rfl (k_L0 s0) (rf_L0_0 s0) ?_
  refine zj_getr (r := 2) (zdk ttX10_text 2 rfl rfl) zf_RX10_67 rfl (k_9_0 s0 zWd_1) (rf_9_0_0 s0 zWd_1) ?_
  have b1 : 0 ≤ (h.2 2 3) ∧ (h.2 2 3) ≤ 18 := fb_1_0_3 s0 zIs_2
  refine zj_geti (v := (h.2 2 3)) (zdk ttX10_text 3 rfl rfl) zf_RX10_81 rfl (k_1_0 s0 zIs_2) rfl ?_
  refine zj_istore_n (L' := [some (.inr 0), some (.inl p1), some (.inl (h.2 2 3)), none]) (zdk ttX10_text 4 rfl rfl) (by decide) rfl ?_
  refine zj_iconst (zdk ttX10_text 5 rfl rfl) ?_
  refine zj_istore_n (L' := [some (.inr 0), some (.inl p1), some (.inl (h.2 2 3)), some (.inl (-1))]) (zdk ttX10_text 6 rfl rfl) (by decide) rfl ?_
  refine zj_aload_n (zdk ttX10_text 7 rfl rfl) rfl (by decide) ?_
  refine zj_getr (r := 103) (zdk ttX10_text 8 rfl rfl) zf_RX10_25 rfl (k_L0 s0) (rf_L0_3 s0) ?_
  refine zj_callV (av := []) (st := []) (zdk ttX10_text 9 rfl rfl) mb_X6_rewind mv_RX10_143 (ci := 6) rfl rfl (k_L103 s0) rfl rfl (Nat.le_of_ble_eq_true rfl) (s2_X6_rewind l h s0) (rm_ok (by decide) (by decide)) (zq_v fun h4 q2 => ?_)
  obtain ⟨s6, f8, u7⟩ := q2
  refine zj_iload_n (zdk ttX10_text 10 rfl rfl) rfl ?_
  have k10 : (p1 < 0 ∨ 3 < p1) → zJ shC l yX10_text cX10_text 4 (some .int) (rmL 33) 0 0 (q2_X10_text h p1) 0 0 254 [some (.inr 0), some (.inl p1), some (.inl (h.2 2 3)), some (.inl (-1))] [] h4 := by
    intro c9
    refine zj_aload_n (zdk ttX10_text 98 rfl rfl) rfl (by decide) ?_
    refine zj_getr (r := 103) (zdk ttX10_text 99 rfl rfl) zf_RX10_25 rfl (k_L0 s6) (rf_L0_3 s6) ?_
    refine zj_iconst (zdk ttX10_text 100 rfl rfl) ?_
    refine zj_puti (zdk ttX10_text 101 rfl rfl) zf_RX10_137 rfl (k_L103 s6) (Or.inl zw_RX10_137) (k2 := 3) rfl (fun h11 e12 => ?_)
    refine zj_iload_n (zdk ttX10_text 102 rfl rfl) rfl ?_
    have s13 : okC h11 := fw_L103_3 s6 e12 (by omega)
    have f15 : zfC w_X10_text h h4 := zfC_t (zfC_r _ _) f8 (fun a9 b9 z9 => by
      exact (Or.inr (Or.inr (Or.inr (Or.inr (Or.inr (Or.inr (Or.inr (Or.inr (Or.inr (Or.inr (Or.inr (Or.inr (Or.inr (Or.inr (Or.inr (Or.inr (Or.inr (Or.inl (by omega))))))))))))))))))))
    have f14 : zfC w_X10_text h h11 := zfC_w f15 e12 (Or.inr (Or.inr (Or.inr (Or.inr (Or.inr (Or.inr (Or.inr (Or.inr (Or.inr (Or.inr (Or.inr (Or.inr (Or.inr (Or.inr (Or.inr (Or.inr (Or.inr (Or.inl (by omega)))))))))))))))))))
    have b16 : h11.2 103 3 = 0 := (zwr_v e12)
    have b17 : h11.2 103 7 = (h4.2 103 7) := (zwr_r e12 (by first | decide | exact (absurd ·.1 (by decide)) | exact (absurd ·.2 (by decide)) | omega))
    have b18 : h11.2 103 8 = (h4.2 103 8) := (zwr_r e12 (by first | decide | exact (absurd ·.1 (by decide)) | exact (absurd ·.2 (by decide)) | omega))
    exact zj_iret rfl (zdk ttX10_text 103 rfl rfl) (Nat.le_refl _) (Nat.le_refl _) ⟨(-1), rfl, by omega, s13, f14, by omega, (fun j => zJP_g s0 ((zwr_r e12 (by decide)).trans (zfC_a f8 (fun z9 => by unfold w_X6_rewind at z9; first | (revert z9; decide) | omega))) ((zwr_r e12 (by decide)).trans (zfC_a f8 (fun z9 => by unfold w_X6_rewind at z9; first | (revert z9; decide) | omega))) (fun a b z1 z2 => ((zwr_r e12 (by first | decide | exact (absurd ·.1 (by decide)) | exact (absurd ·.2 (by decide)) | omega)).trans (zfC_a f8 (fun z9 => by unfold w_X6_rewind at z9; first | (revert z9; decide) | omega)))) j), ⟨fun _ => ⟨by omega, by have z9 := u7; omega, by have z9 := u7; omega⟩, fun z => absurd z (by omega)⟩⟩
  have k19 : p1 = 0 → zJ shC l yX10_text cX10_text 4 (some .int) (rmL 33) 0 0 (q2_X10_text h p1) 0 0 52 [some (.inr 0), some (.inl p1), some (.inl (h.2 2 3)), some (.inl (-1))] [] h4 := by
    intro c9
    refine zj_aload_n (zdk ttX10_text 12 rfl rfl) rfl (by decide) ?_
    refine zj_getr (r := 107) (zdk ttX10_text 13 rfl rfl) zf_RX10_34 rfl (k_L0 s6) (rf_L0_4 s6) ?_
    refine zj_aload_n (zdk ttX10_text 14 rfl rfl) rfl (by decide) ?_
    refine zj_getr (r := 69) (zdk ttX10_text 15 rfl rfl) zf_RX10_19 rfl (k_L0 s6) (rf_L0_2 s6) ?_
    refine zj_getr (r := 74) (zdk ttX10_text 16 rfl rfl) zf_RX10_146 rfl (k_9_0 s6 zWd_69) (rf_9_0_1 s6 zWd_69) ?_
    refine zj_callV (av := [.inr 74]) (st := []) (zdk ttX10_text 17 rfl rfl) mb_X7_readLaw mv_RX10_150 (ci := 7) rfl rfl (k_L107 s6) rfl rfl (Nat.le_of_ble_eq_true rfl) (s2_X7_readLaw l h4 74 s6 zLw_74) (rm_ok (by decide) (by decide)) (zq_i fun v21 h22 q20 => ?_)
    obtain ⟨b23, s24, f26, u25⟩ := q20
    refine zj_if_eq (t := 254) (zdk ttX10_text 18 rfl rfl) (by decide) (by omega) (fun c27 => ?_) (fun c27 => ?_)
    · refine zj_aload_n (zdk ttX10_text 98 rfl rfl) rfl (by decide) ?_
      refine zj_getr (r := 103) (zdk ttX10_text 99 rfl rfl) zf_RX10_25 rfl (k_L0 s24) (rf_L0_3 s24) ?_
      refine zj_iconst (zdk ttX10_text 100 rfl rfl) ?_
      refine zj_puti (zdk ttX10_text 101 rfl rfl) zf_RX10_137 rfl (k_L103 s24) (Or.inl zw_RX10_137) (k2 := 3) rfl (fun h28 e29 => ?_)
      refine zj_iload_n (zdk ttX10_text 102 rfl rfl) rfl ?_
      have s30 : okC h28 := fw_L103_3 s24 e29 (by omega)
      have f33 : zfC w_X10_text h h4 := zfC_t (zfC_r _ _) f8 (fun a9 b9 z9 => by
        exact (Or.inr (Or.inr (Or.inr (Or.inr (Or.inr (Or.inr (Or.inr (Or.inr (Or.inr (Or.inr (Or.inr (Or.inr (Or.inr (Or.inr (Or.inr (Or.inr (Or.inr (Or.inl (by omega))))))))))))))))))))
      have f32 : zfC w_X10_text h h22 := zfC_t f33 f26 (fun a9 b9 z9 => by
        rcases z9 with z9 | z9 | z9 | z9
        · exact (Or.inr (Or.inr (Or.inr (Or.inr (Or.inr (Or.inr (Or.inr (Or.inr (Or.inr (Or.inr (Or.inr (Or.inr (Or.inr (Or.inr (Or.inr (Or.inr (Or.inr (Or.inl (by omega)))))))))))))))))))
        · exact (Or.inr (Or.inr (Or.inr (Or.inr (Or.inr (Or.inr (Or.inr (Or.inr (Or.inr (Or.inr (Or.inr (Or.inr (Or.inr (Or.inr (Or.inr (Or.inr (Or.inr (Or.inr z9))))))))))))))))))
        · exact (Or.inr (Or.inr (Or.inr (Or.inr (Or.inr (Or.inr (Or.inr (Or.inr (Or.inr (Or.inl z9))))))))))
        · exact (Or.inr (Or.inr (Or.inr (Or.inr (Or.inr (Or.inr (Or.inr (Or.inr (Or.inr (Or.inr (Or.inl z9))))))))))))
      have f31 : zfC w_X10_text h h28 := zfC_w f32 e29 (Or.inr (Or.inr (Or.inr (Or.inr (Or.inr (Or.inr (Or.inr (Or.inr (Or.inr (Or.inr (Or.inr (Or.inr (Or.inr (Or.inr (Or.inr (Or.inr (Or.inr (Or.inl (by omega)))))))))))))))))))
      have b34 : h28.2 103 3 = 0 := (zwr_v e29)
      have b35 : h28.2 103 7 = (h22.2 103 7) := (zwr_r e29 (by first | decide | exact (absurd ·.1 (by decide)) | exact (absurd ·.2 (by decide)) | omega))
      have b36 : h28.2 103 8 = (h22.2 103 8) := (zwr_r e29 (by first | decide | exact (absurd ·.1 (by decide)) | exact (absurd ·.2 (by decide)) | omega))
      exact zj_iret rfl (zdk ttX10_text 103 rfl rfl) (Nat.le_refl _) (Nat.le_refl _) ⟨(-1), rfl, by omega, s30, f31, by omega, (fun j => zJP_g s0 (((zwr_r e29 (by decide)).trans (zfC_a f26 (fun z9 => by unfold w_X7_readLaw at z9; first | (revert z9; decide) | omega))).trans (zfC_a f8 (fun z9 => by unfold w_X6_rewind at z9; first | (revert z9; decide) | omega))) (((zwr_r e29 (by decide)).trans (zfC_a f26 (fun z9 => by unfold w_X7_readLaw at z9; first | (revert z9; decide) | omega))).trans (zfC_a f8 (fun z9 => by unfold w_X6_rewind at z9; first | (revert z9; decide) | omega))) (fun a b z1 z2 => (((zwr_r e29 (by first | decide | exact (absurd ·.1 (by decide)) | exact (absurd ·.2 (by decide)) | omega)).trans (zfC_a f26 (fun z9 => by unfold w_X7_readLaw at z9; first | (revert z9; decide) | omega))).trans (zfC_a f8 (fun z9 => by unfold w_X6_rewind at z9; first | (revert z9; decide) | omega)))) j), (by have z7 := u7; have z8 := u25 z7.1 z7.2; rw [show h4.2 104 = h.2 104 from funext fun i9 => (zfC_a f8 (fun z9 => by unfold w_X6_rewind at z9; first | (revert z9; decide) | omega)), show h4.2 103 3 = h.2 103 3 from (zfC_a f8 (fun z9 => by unfold w_X6_rewind at z9; first | (revert z9; decide) | omega))] at z8; obtain ⟨T, P, c9, k9, y9, n9⟩ := z8; refine tTX_y (Or.inl ⟨by omega, rfl, rfl, rfl⟩) ⟨T, P, c9, k9, ?_⟩; obtain ⟨i9, f9, q9, r9⟩ := n9 (by omega); exact Or.inr ⟨i9, f9, r9, by omega, by omega, by have z9 := q9.2; omega⟩)⟩
    · refine zj_aload_n (zdk ttX10_text 19 rfl rfl) rfl (by decide) ?_
      refine zj_getr (r := 1) (zdk ttX10_text 20 rfl rfl) zf_RX10_10 rfl (k_L0 s24) (rf_L0_0 s24) ?_
      refine zj_getr (r := 6) (zdk ttX10_text 21 rfl rfl) zf_RX10_146 rfl (k_9_0 s24 zWd_1) (rf_9_0_1 s24 zWd_1) ?_
      refine zj_aload_n (zdk ttX10_text 22 rfl rfl) rfl (by decide) ?_
      refine zj_getr (r := 69) (zdk ttX10_text 23 rfl rfl) zf_RX10_19 rfl (k_L0 s24) (rf_L0_2 s24) ?_
      refine zj_getr (r := 74) (zdk ttX10_text 24 rfl rfl) zf_RX10_146 rfl (k_9_0 s24 zWd_69) (rf_9_0_1 s24 zWd_69) ?_
      refine zj_callV (av := [.inr 74]) (st := []) (zdk ttX10_text 25 rfl rfl) mb_X3_copyFrom mv_RX10_154 (ci := 3) rfl rfl (k_3_0 s24 zLw_6) rfl rfl (Nat.le_of_ble_eq_true rfl) (s2_X3_copyFrom l h22 6 74 s24 zLw_6 zLw_74) (rm_ok (by decide) (by decide)) (zq_v fun h39 q37 => ?_)
      obtain ⟨s41, f43, u42⟩ := q37
      refine zj_aload_n (zdk ttX10_text 26 rfl rfl) rfl (by decide) ?_
      refine zj_getr (r := 1) (zdk ttX10_text 27 rfl rfl) zf_RX10_10 rfl (k_L0 s41) (rf_L0_0 s41) ?_
      refine zj_getr (r := 6) (zdk ttX10_text 28 rfl rfl) zf_RX10_146 rfl (k_9_0 s41 zWd_1) (rf_9_0_1 s41 zWd_1) ?_
      have b44 : 0 ≤ (h39.2 6 6) ∧ (h39.2 6 6) ≤ 16 := fb_3_0_6 s41 zLw_6
      refine zj_geti (v := (h39.2 6 6)) (zdk ttX10_text 29 rfl rfl) zf_RX10_160 rfl (k_3_0 s41 zLw_6) rfl ?_
      refine zj_istore_n (L' := [some (.inr 0), some (.inl p1), some (.inl (h.2 2 3)), some (.inl (h39.2 6 6))]) (zdk ttX10_text 30 rfl rfl) (by decide) rfl ?_
      refine zj_goto (t := 254) (zdk ttX10_text 31 rfl rfl) (by decide) ?_
      refine zj_aload_n (zdk ttX10_text 98 rfl rfl) rfl (by decide) ?_
      refine zj_getr (r := 103) (zdk ttX10_text 99 rfl rfl) zf_RX10_25 rfl (k_L0 s41) (rf_L0_3 s41) ?_
      refine zj_iconst (zdk ttX10_text 100 rfl rfl) ?_
      refine zj_puti (zdk ttX10_text 101 rfl rfl) zf_RX10_137 rfl (k_L103 s41) (Or.inl zw_RX10_137) (k2 := 3) rfl (fun h45 e46 => ?_)
      refine zj_iload_n (zdk ttX10_text 102 rfl rfl) rfl ?_
      have s47 : okC h45 := fw_L103_3 s41 e46 (by omega)
      have f51 : zfC w_X10_text h h4 := zfC_t (zfC_r _ _) f8 (fun a9 b9 z9 => by
        exact (Or.inr (Or.inr (Or.inr (Or.inr (Or.inr (Or.inr (Or.inr (Or.inr (Or.inr (Or.inr (Or.inr (Or.inr (Or.inr (Or.inr (Or.inr (Or.inr (Or.inr (Or.inl (by omega))))))))))))))))))))
      have f50 : zfC w_X10_text h h22 := zfC_t f51 f26 (fun a9 b9 z9 => by
        rcases z9 with z9 | z9 | z9 | z9
        · exact (Or.inr (Or.inr (Or.inr (Or.inr (Or.inr (Or.inr (Or.inr (Or.inr (Or.inr (Or.inr (Or.inr (Or.inr (Or.inr (Or.inr (Or.inr (Or.inr (Or.inr (Or.inl (by omega)))))))))))))))))))
        · exact (Or.inr (Or.inr (Or.inr (Or.inr (Or.inr (Or.inr (Or.inr (Or.inr (Or.inr (Or.inr (Or.inr (Or.inr (Or.inr (Or.inr (Or.inr (Or.inr (Or.inr (Or.inr z9))))))))))))))))))
        · exact (Or.inr (Or.inr (Or.inr (Or.inr (Or.inr (Or.inr (Or.inr (Or.inr (Or.inr (Or.inl z9))))))))))
        · exact (Or.inr (Or.inr (Or.inr (Or.inr (Or.inr (Or.inr (Or.inr (Or.inr (Or.inr (Or.inr (Or.inl z9))))))))))))
      have f49 : zfC w_X10_text h h39 := zfC_t f50 f43 (fun a9 b9 z9 => by
        rcases z9 with z9 | z9
        · exact (Or.inr (Or.inl z9))
        · exact (Or.inr (Or.inr (Or.inl z9))))
      have f48 : zfC w_X10_text h h45 := zfC_w f49 e46 (Or.inr (Or.inr (Or.inr (Or.inr (Or.inr (Or.inr (Or.inr (Or.inr (Or.inr (Or.inr (Or.inr (Or.inr (Or.inr (Or.inr (Or.inr (Or.inr (Or.inr (Or.inl (by omega)))))))))))))))))))
      have b52 : h45.2 103 3 = 0 := (zwr_v e46)
      have b53 : h45.2 103 7 = (h22.2 103 7) := ((zwr_r e46 (by first | decide | exact (absurd ·.1 (by decide)) | exact (absurd ·.2 (by decide)) | omega)).trans (zfC_a f43 (fun z9 => by unfold w_X3_copyFrom at z9; first | (revert z9; decide) | omega)))
      have b54 : h45.2 103 8 = (h22.2 103 8) := ((zwr_r e46 (by first | decide | exact (absurd ·.1 (by decide)) | exact (absurd ·.2 (by decide)) | omega)).trans (zfC_a f43 (fun z9 => by unfold w_X3_copyFrom at z9; first | (revert z9; decide) | omega)))
      exact zj_iret rfl (zdk ttX10_text 103 rfl rfl) (Nat.le_refl _) (Nat.le_refl _) ⟨(h39.2 6 6), rfl, by omega, s47, f48, by omega, (fun j => zJP_g s0 ((((zwr_r e46 (by decide)).trans (zfC_a f43 (fun z9 => by unfold w_X3_copyFrom at z9; first | (revert z9; decide) | omega))).trans (zfC_a f26 (fun z9 => by unfold w_X7_readLaw at z9; first | (revert z9; decide) | omega))).trans (zfC_a f8 (fun z9 => by unfold w_X6_rewind at z9; first | (revert z9; decide) | omega))) ((((zwr_r e46 (by decide)).trans (zfC_a f43 (fun z9 => by unfold w_X3_copyFrom at z9; first | (revert z9; decide) | omega))).trans (zfC_a f26 (fun z9 => by unfold w_X7_readLaw at z9; first | (revert z9; decide) | omega))).trans (zfC_a f8 (fun z9 => by unfold w_X6_rewind at z9; first | (revert z9; decide) | omega))) (fun a b z1 z2 => ((((zwr_r e46 (by first | decide | exact (absurd ·.1 (by decide)) | exact (absurd ·.2 (by decide)) | omega)).trans (zfC_a f43 (fun z9 => by unfold w_X3_copyFrom at z9; first | (revert z9; decide) | omega))).trans (zfC_a f26 (fun z9 => by unfold w_X7_readLaw at z9; first | (revert z9; decide) | omega))).trans (zfC_a f8 (fun z9 => by unfold w_X6_rewind at z9; first | (revert z9; decide) | omega)))) j), (by have z7 := u7; have z8 := u25 z7.1 z7.2; rw [show h4.2 104 = h.2 104 from funext fun i9 => (zfC_a f8 (fun z9 => by unfold w_X6_rewind at z9; first | (revert z9; decide) | omega)), show h4.2 103 3 = h.2 103 3 from (zfC_a f8 (fun z9 => by unfold w_X6_rewind at z9; first | (revert z9; decide) | omega))] at z8; obtain ⟨T, P, c9, k9, y9, n9⟩ := z8; refine tTX_y (Or.inl ⟨by omega, rfl, rfl, rfl⟩) ⟨T, P, c9, k9, ?_⟩; obtain ⟨⟨a9, b9⟩, j9, r9⟩ := y9 (by omega); have c8 : h39.2 6 6 = h22.2 74 6 := u42; exact Or.inl ⟨j9, _, r9, by omega, by omega, by omega⟩)⟩
  have k55 : p1 = 1 → zJ shC l yX10_text cX10_text 4 (some .int) (rmL 33) 0 0 (q2_X10_text h p1) 0 0 100 [some (.inr 0), some (.inl p1), some (.inl (h.2 2 3)), some (.inl (-1))] [] h4 := by
    intro c9
    refine zj_aload_n (zdk ttX10_text 32 rfl rfl) rfl (by decide) ?_
    refine zj_getr (r := 107) (zdk ttX10_text 33 rfl rfl) zf_RX10_34 rfl (k_L0 s6) (rf_L0_4 s6) ?_
    refine zj_aload_n (zdk ttX10_text 34 rfl rfl) rfl (by decide) ?_
    refine zj_getr (r := 69) (zdk ttX10_text 35 rfl rfl) zf_RX10_19 rfl (k_L0 s6) (rf_L0_2 s6) ?_
    refine zj_getr (r := 81) (zdk ttX10_text 36 rfl rfl) zf_RX10_163 rfl (k_9_0 s6 zWd_69) (rf_9_0_2 s6 zWd_69) ?_
    refine zj_callV (av := [.inr 81]) (st := []) (zdk ttX10_text 37 rfl rfl) mb_X7_readBoats mv_RX10_167 (ci := 7) rfl rfl (k_L107 s6) rfl rfl (Nat.le_of_ble_eq_true rfl) (s2_X7_readBoats l h4 81 s6 zPl_81) (rm_ok (by decide) (by decide)) (zq_i fun v57 h58 q56 => ?_)
    obtain ⟨b59, s60, f62, u61⟩ := q56
    refine zj_if_eq (t := 254) (zdk ttX10_text 38 rfl rfl) (by decide) (by omega) (fun c63 => ?_) (fun c63 => ?_)
    · refine zj_aload_n (zdk ttX10_text 98 rfl rfl) rfl (by decide) ?_
      refine zj_getr (r := 103) (zdk ttX10_text 99 rfl rfl) zf_RX10_25 rfl (k_L0 s60) (rf_L0_3 s60) ?_
      refine zj_iconst (zdk ttX10_text 100 rfl rfl) ?_
      refine zj_puti (zdk ttX10_text 101 rfl rfl) zf_RX10_137 rfl (k_L103 s60) (Or.inl zw_RX10_137) (k2 := 3) rfl (fun h64 e65 => ?_)
      refine zj_iload_n (zdk ttX10_text 102 rfl rfl) rfl ?_
      have s66 : okC h64 := fw_L103_3 s60 e65 (by omega)
      have f69 : zfC w_X10_text h h4 := zfC_t (zfC_r _ _) f8 (fun a9 b9 z9 => by
        exact (Or.inr (Or.inr (Or.inr (Or.inr (Or.inr (Or.inr (Or.inr (Or.inr (Or.inr (Or.inr (Or.inr (Or.inr (Or.inr (Or.inr (Or.inr (Or.inr (Or.inr (Or.inl (by omega))))))))))))))))))))
      have f68 : zfC w_X10_text h h58 := zfC_t f69 f62 (fun a9 b9 z9 => by
        rcases z9 with z9 | z9 | z9 | z9
        · exact (Or.inr (Or.inr (Or.inr (Or.inr (Or.inr (Or.inr (Or.inr (Or.inr (Or.inr (Or.inr (Or.inr (Or.inr (Or.inr (Or.inr (Or.inr (Or.inr (Or.inr (Or.inl (by omega)))))))))))))))))))
        · exact (Or.inr (Or.inr (Or.inr (Or.inr (Or.inr (Or.inr (Or.inr (Or.inr (Or.inr (Or.inr (Or.inr (Or.inr (Or.inr (Or.inr (Or.inr (Or.inr (Or.inr (Or.inr z9))))))))))))))))))
        · exact (Or.inr (Or.inr (Or.inr (Or.inr (Or.inr (Or.inr (Or.inr (Or.inr (Or.inr (Or.inr (Or.inr (Or.inl z9))))))))))))
        · exact (Or.inr (Or.inr (Or.inr (Or.inr (Or.inr (Or.inr (Or.inr (Or.inr (Or.inr (Or.inr (Or.inr (Or.inr (Or.inl z9))))))))))))))
      have f67 : zfC w_X10_text h h64 := zfC_w f68 e65 (Or.inr (Or.inr (Or.inr (Or.inr (Or.inr (Or.inr (Or.inr (Or.inr (Or.inr (Or.inr (Or.inr (Or.inr (Or.inr (Or.inr (Or.inr (Or.inr (Or.inr (Or.inl (by omega)))))))))))))))))))
      have b70 : h64.2 103 3 = 0 := (zwr_v e65)
      have b71 : h64.2 103 7 = (h58.2 103 7) := (zwr_r e65 (by first | decide | exact (absurd ·.1 (by decide)) | exact (absurd ·.2 (by decide)) | omega))
      have b72 : h64.2 103 8 = (h58.2 103 8) := (zwr_r e65 (by first | decide | exact (absurd ·.1 (by decide)) | exact (absurd ·.2 (by decide)) | omega))
      exact zj_iret rfl (zdk ttX10_text 103 rfl rfl) (Nat.le_refl _) (Nat.le_refl _) ⟨(-1), rfl, by omega, s66, f67, by omega, (fun j => zJP_g s0 (((zwr_r e65 (by decide)).trans (zfC_a f62 (fun z9 => by unfold w_X7_readBoats at z9; first | (revert z9; decide) | omega))).trans (zfC_a f8 (fun z9 => by unfold w_X6_rewind at z9; first | (revert z9; decide) | omega))) (((zwr_r e65 (by decide)).trans (zfC_a f62 (fun z9 => by unfold w_X7_readBoats at z9; first | (revert z9; decide) | omega))).trans (zfC_a f8 (fun z9 => by unfold w_X6_rewind at z9; first | (revert z9; decide) | omega))) (fun a b z1 z2 => (((zwr_r e65 (by first | decide | exact (absurd ·.1 (by decide)) | exact (absurd ·.2 (by decide)) | omega)).trans (zfC_a f62 (fun z9 => by unfold w_X7_readBoats at z9; first | (revert z9; decide) | omega))).trans (zfC_a f8 (fun z9 => by unfold w_X6_rewind at z9; first | (revert z9; decide) | omega)))) j), (by have z7 := u7; have z8 := u61 z7.1 z7.2; rw [show h4.2 104 = h.2 104 from funext fun i9 => (zfC_a f8 (fun z9 => by unfold w_X6_rewind at z9; first | (revert z9; decide) | omega)), show h4.2 103 3 = h.2 103 3 from (zfC_a f8 (fun z9 => by unfold w_X6_rewind at z9; first | (revert z9; decide) | omega))] at z8; obtain ⟨T, P, c9, k9, y9, n9⟩ := z8; refine tTX_y (Or.inr (Or.inl ⟨by omega, rfl, rfl, rfl⟩)) ⟨T, P, c9, k9, ?_⟩; obtain ⟨i9, f9, q9, r9⟩ := n9 (by omega); exact Or.inr ⟨i9, f9, r9, by omega, by omega, by have z9 := q9.2; omega⟩)⟩
    · refine zj_aload_n (zdk ttX10_text 39 rfl rfl) rfl (by decide) ?_
      refine zj_getr (r := 1) (zdk ttX10_text 40 rfl rfl) zf_RX10_10 rfl (k_L0 s60) (rf_L0_0 s60) ?_
      refine zj_getr (r := 13) (zdk ttX10_text 41 rfl rfl) zf_RX10_163 rfl (k_9_0 s60 zWd_1) (rf_9_0_2 s60 zWd_1) ?_
      refine zj_aload_n (zdk ttX10_text 42 rfl rfl) rfl (by decide) ?_
      refine zj_getr (r := 69) (zdk ttX10_text 43 rfl rfl) zf_RX10_19 rfl (k_L0 s60) (rf_L0_2 s60) ?_
      refine zj_getr (r := 81) (zdk ttX10_text 44 rfl rfl) zf_RX10_163 rfl (k_9_0 s60 zWd_69) (rf_9_0_2 s60 zWd_69) ?_
      refine zj_callV (av := [.inr 81]) (st := []) (zdk ttX10_text 45 rfl rfl) mb_X4_copyFrom mv_RX10_171 (ci := 4) rfl rfl (k_4_0 s60 zPl_13) rfl rfl (Nat.le_of_ble_eq_true rfl) (s2_X4_copyFrom l h58 13 81 s60 zPl_13 zPl_81) (rm_ok (by decide) (by decide)) (zq_v fun h75 q73 => ?_)
      obtain ⟨s77, f79, u78⟩ := q73
      refine zj_aload_n (zdk ttX10_text 46 rfl rfl) rfl (by decide) ?_
      refine zj_getr (r := 1) (zdk ttX10_text 47 rfl rfl) zf_RX10_10 rfl (k_L0 s77) (rf_L0_0 s77) ?_
      refine zj_getr (r := 13) (zdk ttX10_text 48 rfl rfl) zf_RX10_163 rfl (k_9_0 s77 zWd_1) (rf_9_0_2 s77 zWd_1) ?_
      have b80 : 0 ≤ (h75.2 13 3) ∧ (h75.2 13 3) ≤ 16 := fb_4_0_3 s77 zPl_13
      refine zj_geti (v := (h75.2 13 3)) (zdk ttX10_text 49 rfl rfl) zf_RX10_176 rfl (k_4_0 s77 zPl_13) rfl ?_
      refine zj_istore_n (L' := [some (.inr 0), some (.inl p1), some (.inl (h.2 2 3)), some (.inl (h75.2 13 3))]) (zdk ttX10_text 50 rfl rfl) (by decide) rfl ?_
      refine zj_aload_n (zdk ttX10_text 51 rfl rfl) rfl (by decide) ?_
      refine zj_callV (av := []) (st := []) (zdk ttX10_text 52 rfl rfl) mb_X10_forget mv_RX10_74 (ci := 10) rfl rfl (k_L0 s77) rfl rfl (Nat.le_of_ble_eq_true rfl) (s_X10_forget l h75 s77) (rm_ok (by decide) (by decide)) (zq_v fun h83 q81 => ?_)
      obtain ⟨s85, f87, u86⟩ := q81
      refine zj_goto (t := 254) (zdk ttX10_text 53 rfl rfl) (by decide) ?_
      refine zj_aload_n (zdk ttX10_text 98 rfl rfl) rfl (by decide) ?_
      refine zj_getr (r := 103) (zdk ttX10_text 99 rfl rfl) zf_RX10_25 rfl (k_L0 s85) (rf_L0_3 s85) ?_
      refine zj_iconst (zdk ttX10_text 100 rfl rfl) ?_
      refine zj_puti (zdk ttX10_text 101 rfl rfl) zf_RX10_137 rfl (k_L103 s85) (Or.inl zw_RX10_137) (k2 := 3) rfl (fun h88 e89 => ?_)
      refine zj_iload_n (zdk ttX10_text 102 rfl rfl) rfl ?_
      have s90 : okC h88 := fw_L103_3 s85 e89 (by omega)
      have f95 : zfC w_X10_text h h4 := zfC_t (zfC_r _ _) f8 (fun a9 b9 z9 => by
        exact (Or.inr (Or.inr (Or.inr (Or.inr (Or.inr (Or.inr (Or.inr (Or.inr (Or.inr (Or.inr (Or.inr (Or.inr (Or.inr (Or.inr (Or.inr (Or.inr (Or.inr (Or.inl (by omega))))))))))))))))))))
      have f94 : zfC w_X10_text h h58 := zfC_t f95 f62 (fun a9 b9 z9 => by
        rcases z9 with z9 | z9 | z9 | z9
        · exact (Or.inr (Or.inr (Or.inr (Or.inr (Or.inr (Or.inr (Or.inr (Or.inr (Or.inr (Or.inr (Or.inr (Or.inr (Or.inr (Or.inr (Or.inr (Or.inr (Or.inr (Or.inl (by omega)))))))))))))))))))
        · exact (Or.inr (Or.inr (Or.inr (Or.inr (Or.inr (Or.inr (Or.inr (Or.inr (Or.inr (Or.inr (Or.inr (Or.inr (Or.inr (Or.inr (Or.inr (Or.inr (Or.inr (Or.inr z9))))))))))))))))))
        · exact (Or.inr (Or.inr (Or.inr (Or.inr (Or.inr (Or.inr (Or.inr (Or.inr (Or.inr (Or.inr (Or.inr (Or.inl z9))))))))))))
        · exact (Or.inr (Or.inr (Or.inr (Or.inr (Or.inr (Or.inr (Or.inr (Or.inr (Or.inr (Or.inr (Or.inr (Or.inr (Or.inl z9))))))))))))))
      have f93 : zfC w_X10_text h h75 := zfC_t f94 f79 (fun a9 b9 z9 => by
        rcases z9 with z9 | z9
        · exact (Or.inr (Or.inr (Or.inr (Or.inl z9))))
        · exact (Or.inr (Or.inr (Or.inr (Or.inr (Or.inl z9))))))
      have f92 : zfC w_X10_text h h83 := zfC_t f93 f87 (fun a9 b9 z9 => by
        exact (Or.inl z9))
      have f91 : zfC w_X10_text h h88 := zfC_w f92 e89 (Or.inr (Or.inr (Or.inr (Or.inr (Or.inr (Or.inr (Or.inr (Or.inr (Or.inr (Or.inr (Or.inr (Or.inr (Or.inr (Or.inr (Or.inr (Or.inr (Or.inr (Or.inl (by omega)))))))))))))))))))
      have b96 : h88.2 103 3 = 0 := (zwr_v e89)
      have b97 : h88.2 0 8 = (h83.2 0 8) := (zwr_r e89 (by first | decide | exact (absurd ·.1 (by decide)) | exact (absurd ·.2 (by decide)) | omega))
      have b98 : h88.2 103 7 = (h58.2 103 7) := (((zwr_r e89 (by first | decide | exact (absurd ·.1 (by decide)) | exact (absurd ·.2 (by decide)) | omega)).trans (zfC_a f87 (fun z9 => by unfold w_X10_forget at z9; first | (revert z9; decide) | omega))).trans (zfC_a f79 (fun z9 => by unfold w_X4_copyFrom at z9; first | (revert z9; decide) | omega)))
      have b99 : h88.2 103 8 = (h58.2 103 8) := (((zwr_r e89 (by first | decide | exact (absurd ·.1 (by decide)) | exact (absurd ·.2 (by decide)) | omega)).trans (zfC_a f87 (fun z9 => by unfold w_X10_forget at z9; first | (revert z9; decide) | omega))).trans (zfC_a f79 (fun z9 => by unfold w_X4_copyFrom at z9; first | (revert z9; decide) | omega)))
      exact zj_iret rfl (zdk ttX10_text 103 rfl rfl) (Nat.le_refl _) (Nat.le_refl _) ⟨(h75.2 13 3), rfl, by omega, s90, f91, by omega, (fun _ => zJP_0 (by omega)), (by have z7 := u7; have z8 := u61 z7.1 z7.2; rw [show h4.2 104 = h.2 104 from funext fun i9 => (zfC_a f8 (fun z9 => by unfold w_X6_rewind at z9; first | (revert z9; decide) | omega)), show h4.2 103 3 = h.2 103 3 from (zfC_a f8 (fun z9 => by unfold w_X6_rewind at z9; first | (revert z9; decide) | omega))] at z8; obtain ⟨T, P, c9, k9, y9, n9⟩ := z8; refine tTX_y (Or.inr (Or.inl ⟨by omega, rfl, rfl, rfl⟩)) ⟨T, P, c9, k9, ?_⟩; obtain ⟨⟨a9, b9⟩, j9, r9⟩ := y9 (by omega); have c8 : h75.2 13 3 = h58.2 81 3 := u78; exact Or.inl ⟨j9, _, r9, by omega, by omega, by omega⟩)⟩
  have k100 : p1 = 2 → zJ shC l yX10_text cX10_text 4 (some .int) (rmL 33) 0 0 (q2_X10_text h p1) 0 0 152 [some (.inr 0), some (.inl p1), some (.inl (h.2 2 3)), some (.inl (-1))] [] h4 := by
    intro c9
    refine zj_aload_n (zdk ttX10_text 54 rfl rfl) rfl (by decide) ?_
    refine zj_getr (r := 107) (zdk ttX10_text 55 rfl rfl) zf_RX10_34 rfl (k_L0 s6) (rf_L0_4 s6) ?_
    refine zj_aload_n (zdk ttX10_text 56 rfl rfl) rfl (by decide) ?_
    refine zj_getr (r := 69) (zdk ttX10_text 57 rfl rfl) zf_RX10_19 rfl (k_L0 s6) (rf_L0_2 s6) ?_
    refine zj_getr (r := 85) (zdk ttX10_text 58 rfl rfl) zf_RX10_177 rfl (k_9_0 s6 zWd_69) (rf_9_0_3 s6 zWd_69) ?_
    refine zj_iload_n (zdk ttX10_text 59 rfl rfl) rfl ?_
    refine zj_callV (av := [.inr 85, .inl (h.2 2 3)]) (st := []) (zdk ttX10_text 60 rfl rfl) mb_X7_readTown mv_RX10_180 (ci := 7) rfl rfl (k_L107 s6) rfl rfl (Nat.le_of_ble_eq_true rfl) (s2_X7_readTown l h4 85 (h.2 2 3) s6 zPl_85 (by omega)) (rm_ok (by decide) (by decide)) (zq_i fun v102 h103 q101 => ?_)
    obtain ⟨b104, s105, f107, u106⟩ := q101
    refine zj_if_eq (t := 254) (zdk ttX10_text 61 rfl rfl) (by decide) (by omega) (fun c108 => ?_) (fun c108 => ?_)
    · refine zj_aload_n (zdk ttX10_text 98 rfl rfl) rfl (by decide) ?_
      refine zj_getr (r := 103) (zdk ttX10_text 99 rfl rfl) zf_RX10_25 rfl (k_L0 s105) (rf_L0_3 s105) ?_
      refine zj_iconst (zdk ttX10_text 100 rfl rfl) ?_
      refine zj_puti (zdk ttX10_text 101 rfl rfl) zf_RX10_137 rfl (k_L103 s105) (Or.inl zw_RX10_137) (k2 := 3) rfl (fun h109 e110 => ?_)
      refine zj_iload_n (zdk ttX10_text 102 rfl rfl) rfl ?_
      have s111 : okC h109 := fw_L103_3 s105 e110 (by omega)
      have f114 : zfC w_X10_text h h4 := zfC_t (zfC_r _ _) f8 (fun a9 b9 z9 => by
        exact (Or.inr (Or.inr (Or.inr (Or.inr (Or.inr (Or.inr (Or.inr (Or.inr (Or.inr (Or.inr (Or.inr (Or.inr (Or.inr (Or.inr (Or.inr (Or.inr (Or.inr (Or.inl (by omega))))))))))))))))))))
      have f113 : zfC w_X10_text h h103 := zfC_t f114 f107 (fun a9 b9 z9 => by
        rcases z9 with z9 | z9 | z9 | z9
        · exact (Or.inr (Or.inr (Or.inr (Or.inr (Or.inr (Or.inr (Or.inr (Or.inr (Or.inr (Or.inr (Or.inr (Or.inr (Or.inr (Or.inr (Or.inr (Or.inr (Or.inr (Or.inl (by omega)))))))))))))))))))
        · exact (Or.inr (Or.inr (Or.inr (Or.inr (Or.inr (Or.inr (Or.inr (Or.inr (Or.inr (Or.inr (Or.inr (Or.inr (Or.inr (Or.inr (Or.inr (Or.inr (Or.inr (Or.inr z9))))))))))))))))))
        · exact (Or.inr (Or.inr (Or.inr (Or.inr (Or.inr (Or.inr (Or.inr (Or.inr (Or.inr (Or.inr (Or.inr (Or.inr (Or.inr (Or.inl z9))))))))))))))
        · exact (Or.inr (Or.inr (Or.inr (Or.inr (Or.inr (Or.inr (Or.inr (Or.inr (Or.inr (Or.inr (Or.inr (Or.inr (Or.inr (Or.inr (Or.inl z9))))))))))))))))
      have f112 : zfC w_X10_text h h109 := zfC_w f113 e110 (Or.inr (Or.inr (Or.inr (Or.inr (Or.inr (Or.inr (Or.inr (Or.inr (Or.inr (Or.inr (Or.inr (Or.inr (Or.inr (Or.inr (Or.inr (Or.inr (Or.inr (Or.inl (by omega)))))))))))))))))))
      have b115 : h109.2 103 3 = 0 := (zwr_v e110)
      have b116 : h109.2 103 7 = (h103.2 103 7) := (zwr_r e110 (by first | decide | exact (absurd ·.1 (by decide)) | exact (absurd ·.2 (by decide)) | omega))
      have b117 : h109.2 103 8 = (h103.2 103 8) := (zwr_r e110 (by first | decide | exact (absurd ·.1 (by decide)) | exact (absurd ·.2 (by decide)) | omega))
      exact zj_iret rfl (zdk ttX10_text 103 rfl rfl) (Nat.le_refl _) (Nat.le_refl _) ⟨(-1), rfl, by omega, s111, f112, by omega, (fun j => zJP_g s0 (((zwr_r e110 (by decide)).trans (zfC_a f107 (fun z9 => by unfold w_X7_readTown at z9; first | (revert z9; decide) | omega))).trans (zfC_a f8 (fun z9 => by unfold w_X6_rewind at z9; first | (revert z9; decide) | omega))) (((zwr_r e110 (by decide)).trans (zfC_a f107 (fun z9 => by unfold w_X7_readTown at z9; first | (revert z9; decide) | omega))).trans (zfC_a f8 (fun z9 => by unfold w_X6_rewind at z9; first | (revert z9; decide) | omega))) (fun a b z1 z2 => (((zwr_r e110 (by first | decide | exact (absurd ·.1 (by decide)) | exact (absurd ·.2 (by decide)) | omega)).trans (zfC_a f107 (fun z9 => by unfold w_X7_readTown at z9; first | (revert z9; decide) | omega))).trans (zfC_a f8 (fun z9 => by unfold w_X6_rewind at z9; first | (revert z9; decide) | omega)))) j), (by have z7 := u7; have z8 := u106 z7.1 z7.2; rw [show h4.2 104 = h.2 104 from funext fun i9 => (zfC_a f8 (fun z9 => by unfold w_X6_rewind at z9; first | (revert z9; decide) | omega)), show h4.2 103 3 = h.2 103 3 from (zfC_a f8 (fun z9 => by unfold w_X6_rewind at z9; first | (revert z9; decide) | omega))] at z8; obtain ⟨T, P, c9, k9, y9, n9⟩ := z8; refine tTX_y (Or.inr (Or.inr (Or.inl ⟨by omega, rfl, rfl, rfl⟩))) ⟨T, P, c9, k9, ?_⟩; obtain ⟨i9, f9, q9, r9⟩ := n9 (by omega); exact Or.inr ⟨i9, f9, r9, by omega, by omega, by have z9 := q9.2; omega⟩)⟩
    · refine zj_aload_n (zdk ttX10_text 62 rfl rfl) rfl (by decide) ?_
      refine zj_getr (r := 1) (zdk ttX10_text 63 rfl rfl) zf_RX10_10 rfl (k_L0 s105) (rf_L0_0 s105) ?_
      refine zj_getr (r := 17) (zdk ttX10_text 64 rfl rfl) zf_RX10_177 rfl (k_9_0 s105 zWd_1) (rf_9_0_3 s105 zWd_1) ?_
      refine zj_aload_n (zdk ttX10_text 65 rfl rfl) rfl (by decide) ?_
      refine zj_getr (r := 69) (zdk ttX10_text 66 rfl rfl) zf_RX10_19 rfl (k_L0 s105) (rf_L0_2 s105) ?_
      refine zj_getr (r := 85) (zdk ttX10_text 67 rfl rfl) zf_RX10_177 rfl (k_9_0 s105 zWd_69) (rf_9_0_3 s105 zWd_69) ?_
      refine zj_callV (av := [.inr 85]) (st := []) (zdk ttX10_text 68 rfl rfl) mb_X4_copyFrom mv_RX10_171 (ci := 4) rfl rfl (k_4_0 s105 zPl_17) rfl rfl (Nat.le_of_ble_eq_true rfl) (s2_X4_copyFrom l h103 17 85 s105 zPl_17 zPl_85) (rm_ok (by decide) (by decide)) (zq_v fun h120 q118 => ?_)
      obtain ⟨s122, f124, u123⟩ := q118
      refine zj_aload_n (zdk ttX10_text 69 rfl rfl) rfl (by decide) ?_
      refine zj_getr (r := 1) (zdk ttX10_text 70 rfl rfl) zf_RX10_10 rfl (k_L0 s122) (rf_L0_0 s122) ?_
      refine zj_getr (r := 17) (zdk ttX10_text 71 rfl rfl) zf_RX10_177 rfl (k_9_0 s122 zWd_1) (rf_9_0_3 s122 zWd_1) ?_
      have b125 : 0 ≤ (h120.2 17 3) ∧ (h120.2 17 3) ≤ 16 := fb_4_0_3 s122 zPl_17
      refine zj_geti (v := (h120.2 17 3)) (zdk ttX10_text 72 rfl rfl) zf_RX10_176 rfl (k_4_0 s122 zPl_17) rfl ?_
      refine zj_istore_n (L' := [some (.inr 0), some (.inl p1), some (.inl (h.2 2 3)), some (.inl (h120.2 17 3))]) (zdk ttX10_text 73 rfl rfl) (by decide) rfl ?_
      refine zj_aload_n (zdk ttX10_text 74 rfl rfl) rfl (by decide) ?_
      refine zj_callV (av := []) (st := []) (zdk ttX10_text 75 rfl rfl) mb_X10_forget mv_RX10_74 (ci := 10) rfl rfl (k_L0 s122) rfl rfl (Nat.le_of_ble_eq_true rfl) (s_X10_forget l h120 s122) (rm_ok (by decide) (by decide)) (zq_v fun h128 q126 => ?_)
      obtain ⟨s130, f132, u131⟩ := q126
      refine zj_goto (t := 254) (zdk ttX10_text 76 rfl rfl) (by decide) ?_
      refine zj_aload_n (zdk ttX10_text 98 rfl rfl) rfl (by decide) ?_
      refine zj_getr (r := 103) (zdk ttX10_text 99 rfl rfl) zf_RX10_25 rfl (k_L0 s130) (rf_L0_3 s130) ?_
      refine zj_iconst (zdk ttX10_text 100 rfl rfl) ?_
      refine zj_puti (zdk ttX10_text 101 rfl rfl) zf_RX10_137 rfl (k_L103 s130) (Or.inl zw_RX10_137) (k2 := 3) rfl (fun h133 e134 => ?_)
      refine zj_iload_n (zdk ttX10_text 102 rfl rfl) rfl ?_
      have s135 : okC h133 := fw_L103_3 s130 e134 (by omega)
      have f140 : zfC w_X10_text h h4 := zfC_t (zfC_r _ _) f8 (fun a9 b9 z9 => by
        exact (Or.inr (Or.inr (Or.inr (Or.inr (Or.inr (Or.inr (Or.inr (Or.inr (Or.inr (Or.inr (Or.inr (Or.inr (Or.inr (Or.inr (Or.inr (Or.inr (Or.inr (Or.inl (by omega))))))))))))))))))))
      have f139 : zfC w_X10_text h h103 := zfC_t f140 f107 (fun a9 b9 z9 => by
        rcases z9 with z9 | z9 | z9 | z9
        · exact (Or.inr (Or.inr (Or.inr (Or.inr (Or.inr (Or.inr (Or.inr (Or.inr (Or.inr (Or.inr (Or.inr (Or.inr (Or.inr (Or.inr (Or.inr (Or.inr (Or.inr (Or.inl (by omega)))))))))))))))))))
        · exact (Or.inr (Or.inr (Or.inr (Or.inr (Or.inr (Or.inr (Or.inr (Or.inr (Or.inr (Or.inr (Or.inr (Or.inr (Or.inr (Or.inr (Or.inr (Or.inr (Or.inr (Or.inr z9))))))))))))))))))
        · exact (Or.inr (Or.inr (Or.inr (Or.inr (Or.inr (Or.inr (Or.inr (Or.inr (Or.inr (Or.inr (Or.inr (Or.inr (Or.inr (Or.inl z9))))))))))))))
        · exact (Or.inr (Or.inr (Or.inr (Or.inr (Or.inr (Or.inr (Or.inr (Or.inr (Or.inr (Or.inr (Or.inr (Or.inr (Or.inr (Or.inr (Or.inl z9))))))))))))))))
      have f138 : zfC w_X10_text h h120 := zfC_t f139 f124 (fun a9 b9 z9 => by
        rcases z9 with z9 | z9
        · exact (Or.inr (Or.inr (Or.inr (Or.inr (Or.inr (Or.inl z9))))))
        · exact (Or.inr (Or.inr (Or.inr (Or.inr (Or.inr (Or.inr (Or.inl z9))))))))
      have f137 : zfC w_X10_text h h128 := zfC_t f138 f132 (fun a9 b9 z9 => by
        exact (Or.inl z9))
      have f136 : zfC w_X10_text h h133 := zfC_w f137 e134 (Or.inr (Or.inr (Or.inr (Or.inr (Or.inr (Or.inr (Or.inr (Or.inr (Or.inr (Or.inr (Or.inr (Or.inr (Or.inr (Or.inr (Or.inr (Or.inr (Or.inr (Or.inl (by omega)))))))))))))))))))
      have b141 : h133.2 103 3 = 0 := (zwr_v e134)
      have b142 : h133.2 0 8 = (h128.2 0 8) := (zwr_r e134 (by first | decide | exact (absurd ·.1 (by decide)) | exact (absurd ·.2 (by decide)) | omega))
      have b143 : h133.2 103 7 = (h103.2 103 7) := (((zwr_r e134 (by first | decide | exact (absurd ·.1 (by decide)) | exact (absurd ·.2 (by decide)) | omega)).trans (zfC_a f132 (fun z9 => by unfold w_X10_forget at z9; first | (revert z9; decide) | omega))).trans (zfC_a f124 (fun z9 => by unfold w_X4_copyFrom at z9; first | (revert z9; decide) | omega)))
      have b144 : h133.2 103 8 = (h103.2 103 8) := (((zwr_r e134 (by first | decide | exact (absurd ·.1 (by decide)) | exact (absurd ·.2 (by decide)) | omega)).trans (zfC_a f132 (fun z9 => by unfold w_X10_forget at z9; first | (revert z9; decide) | omega))).trans (zfC_a f124 (fun z9 => by unfold w_X4_copyFrom at z9; first | (revert z9; decide) | omega)))
      exact zj_iret rfl (zdk ttX10_text 103 rfl rfl) (Nat.le_refl _) (Nat.le_refl _) ⟨(h120.2 17 3), rfl, by omega, s135, f136, by omega, (fun _ => zJP_0 (by omega)), (by have z7 := u7; have z8 := u106 z7.1 z7.2; rw [show h4.2 104 = h.2 104 from funext fun i9 => (zfC_a f8 (fun z9 => by unfold w_X6_rewind at z9; first | (revert z9; decide) | omega)), show h4.2 103 3 = h.2 103 3 from (zfC_a f8 (fun z9 => by unfold w_X6_rewind at z9; first | (revert z9; decide) | omega))] at z8; obtain ⟨T, P, c9, k9, y9, n9⟩ := z8; refine tTX_y (Or.inr (Or.inr (Or.inl ⟨by omega, rfl, rfl, rfl⟩))) ⟨T, P, c9, k9, ?_⟩; obtain ⟨⟨a9, b9⟩, j9, r9⟩ := y9 (by omega); have c8 : h120.2 17 3 = h103.2 85 3 := u123; exact Or.inl ⟨j9, _, r9, by omega, by omega, by omega⟩)⟩
  have k145 : p1 = 3 → zJ shC l yX10_text cX10_text 4 (some .int) (rmL 33) 0 0 (q2_X10_text h p1) 0 0 205 [some (.inr 0), some (.inl p1), some (.inl (h.2 2 3)), some (.inl (-1))] [] h4 := by
    intro c9
    refine zj_aload_n (zdk ttX10_text 77 rfl rfl) rfl (by decide) ?_
    refine zj_getr (r := 107) (zdk ttX10_text 78 rfl rfl) zf_RX10_34 rfl (k_L0 s6) (rf_L0_4 s6) ?_
    refine zj_aload_n (zdk ttX10_text 79 rfl rfl) rfl (by decide) ?_
    refine zj_getr (r := 69) (zdk ttX10_text 80 rfl rfl) zf_RX10_19 rfl (k_L0 s6) (rf_L0_2 s6) ?_
    refine zj_getr (r := 89) (zdk ttX10_text 81 rfl rfl) zf_RX10_184 rfl (k_9_0 s6 zWd_69) (rf_9_0_4 s6 zWd_69) ?_
    refine zj_iload_n (zdk ttX10_text 82 rfl rfl) rfl ?_
    refine zj_callV (av := [.inr 89, .inl (h.2 2 3)]) (st := []) (zdk ttX10_text 83 rfl rfl) mb_X7_readKin mv_RX10_188 (ci := 7) rfl rfl (k_L107 s6) rfl rfl (Nat.le_of_ble_eq_true rfl) (s2_X7_readKin l h4 89 (h.2 2 3) s6 zKi_89 (by omega)) (rm_ok (by decide) (by decide)) (zq_i fun v147 h148 q146 => ?_)
    obtain ⟨b149, s150, f152, u151⟩ := q146
    refine zj_if_eq (t := 254) (zdk ttX10_text 84 rfl rfl) (by decide) (by omega) (fun c153 => ?_) (fun c153 => ?_)
    · refine zj_aload_n (zdk ttX10_text 98 rfl rfl) rfl (by decide) ?_
      refine zj_getr (r := 103) (zdk ttX10_text 99 rfl rfl) zf_RX10_25 rfl (k_L0 s150) (rf_L0_3 s150) ?_
      refine zj_iconst (zdk ttX10_text 100 rfl rfl) ?_
      refine zj_puti (zdk ttX10_text 101 rfl rfl) zf_RX10_137 rfl (k_L103 s150) (Or.inl zw_RX10_137) (k2 := 3) rfl (fun h154 e155 => ?_)
      refine zj_iload_n (zdk ttX10_text 102 rfl rfl) rfl ?_
      have s156 : okC h154 := fw_L103_3 s150 e155 (by omega)
      have f159 : zfC w_X10_text h h4 := zfC_t (zfC_r _ _) f8 (fun a9 b9 z9 => by
        exact (Or.inr (Or.inr (Or.inr (Or.inr (Or.inr (Or.inr (Or.inr (Or.inr (Or.inr (Or.inr (Or.inr (Or.inr (Or.inr (Or.inr (Or.inr (Or.inr (Or.inr (Or.inl (by omega))))))))))))))))))))
      have f158 : zfC w_X10_text h h148 := zfC_t f159 f152 (fun a9 b9 z9 => by
        rcases z9 with z9 | z9 | z9 | z9
        · exact (Or.inr (Or.inr (Or.inr (Or.inr (Or.inr (Or.inr (Or.inr (Or.inr (Or.inr (Or.inr (Or.inr (Or.inr (Or.inr (Or.inr (Or.inr (Or.inr (Or.inr (Or.inl (by omega)))))))))))))))))))
        · exact (Or.inr (Or.inr (Or.inr (Or.inr (Or.inr (Or.inr (Or.inr (Or.inr (Or.inr (Or.inr (Or.inr (Or.inr (Or.inr (Or.inr (Or.inr (Or.inr (Or.inr (Or.inr z9))))))))))))))))))
        · exact (Or.inr (Or.inr (Or.inr (Or.inr (Or.inr (Or.inr (Or.inr (Or.inr (Or.inr (Or.inr (Or.inr (Or.inr (Or.inr (Or.inr (Or.inr (Or.inl z9))))))))))))))))
        · exact (Or.inr (Or.inr (Or.inr (Or.inr (Or.inr (Or.inr (Or.inr (Or.inr (Or.inr (Or.inr (Or.inr (Or.inr (Or.inr (Or.inr (Or.inr (Or.inr (Or.inl z9))))))))))))))))))
      have f157 : zfC w_X10_text h h154 := zfC_w f158 e155 (Or.inr (Or.inr (Or.inr (Or.inr (Or.inr (Or.inr (Or.inr (Or.inr (Or.inr (Or.inr (Or.inr (Or.inr (Or.inr (Or.inr (Or.inr (Or.inr (Or.inr (Or.inl (by omega)))))))))))))))))))
      have b160 : h154.2 103 3 = 0 := (zwr_v e155)
      have b161 : h154.2 103 7 = (h148.2 103 7) := (zwr_r e155 (by first | decide | exact (absurd ·.1 (by decide)) | exact (absurd ·.2 (by decide)) | omega))
      have b162 : h154.2 103 8 = (h148.2 103 8) := (zwr_r e155 (by first | decide | exact (absurd ·.1 (by decide)) | exact (absurd ·.2 (by decide)) | omega))
      exact zj_iret rfl (zdk ttX10_text 103 rfl rfl) (Nat.le_refl _) (Nat.le_refl _) ⟨(-1), rfl, by omega, s156, f157, by omega, (fun j => zJP_g s0 (((zwr_r e155 (by decide)).trans (zfC_a f152 (fun z9 => by unfold w_X7_readKin at z9; first | (revert z9; decide) | omega))).trans (zfC_a f8 (fun z9 => by unfold w_X6_rewind at z9; first | (revert z9; decide) | omega))) (((zwr_r e155 (by decide)).trans (zfC_a f152 (fun z9 => by unfold w_X7_readKin at z9; first | (revert z9; decide) | omega))).trans (zfC_a f8 (fun z9 => by unfold w_X6_rewind at z9; first | (revert z9; decide) | omega))) (fun a b z1 z2 => (((zwr_r e155 (by first | decide | exact (absurd ·.1 (by decide)) | exact (absurd ·.2 (by decide)) | omega)).trans (zfC_a f152 (fun z9 => by unfold w_X7_readKin at z9; first | (revert z9; decide) | omega))).trans (zfC_a f8 (fun z9 => by unfold w_X6_rewind at z9; first | (revert z9; decide) | omega)))) j), (by have z7 := u7; have z8 := u151 z7.1 z7.2; rw [show h4.2 104 = h.2 104 from funext fun i9 => (zfC_a f8 (fun z9 => by unfold w_X6_rewind at z9; first | (revert z9; decide) | omega)), show h4.2 103 3 = h.2 103 3 from (zfC_a f8 (fun z9 => by unfold w_X6_rewind at z9; first | (revert z9; decide) | omega))] at z8; obtain ⟨T, P, c9, k9, y9, n9⟩ := z8; refine tTX_y (Or.inr (Or.inr (Or.inr ⟨by omega, rfl, rfl, rfl⟩))) ⟨T, P, c9, k9, ?_⟩; obtain ⟨i9, f9, q9, r9⟩ := n9 (by omega); exact Or.inr ⟨i9, f9, r9, by omega, by omega, by have z9 := q9.2; omega⟩)⟩
    · refine zj_aload_n (zdk ttX10_text 85 rfl rfl) rfl (by decide) ?_
      refine zj_getr (r := 1) (zdk ttX10_text 86 rfl rfl) zf_RX10_10 rfl (k_L0 s150) (rf_L0_0 s150) ?_
      refine zj_getr (r := 21) (zdk ttX10_text 87 rfl rfl) zf_RX10_184 rfl (k_9_0 s150 zWd_1) (rf_9_0_4 s150 zWd_1) ?_
      refine zj_aload_n (zdk ttX10_text 88 rfl rfl) rfl (by decide) ?_
      refine zj_getr (r := 69) (zdk ttX10_text 89 rfl rfl) zf_RX10_19 rfl (k_L0 s150) (rf_L0_2 s150) ?_
      refine zj_getr (r := 89) (zdk ttX10_text 90 rfl rfl) zf_RX10_184 rfl (k_9_0 s150 zWd_69) (rf_9_0_4 s150 zWd_69) ?_
      refine zj_callV (av := [.inr 89]) (st := []) (zdk ttX10_text 91 rfl rfl) mb_X2_copyFrom mv_RX10_192 (ci := 2) rfl rfl (k_2_0 s150 zKi_21) rfl rfl (Nat.le_of_ble_eq_true rfl) (s2_X2_copyFrom l h148 21 89 s150 zKi_21 zKi_89) (rm_ok (by decide) (by decide)) (zq_v fun h165 q163 => ?_)
      obtain ⟨s167, f169, u168⟩ := q163
      refine zj_aload_n (zdk ttX10_text 92 rfl rfl) rfl (by decide) ?_
      refine zj_getr (r := 1) (zdk ttX10_text 93 rfl rfl) zf_RX10_10 rfl (k_L0 s167) (rf_L0_0 s167) ?_
      refine zj_getr (r := 21) (zdk ttX10_text 94 rfl rfl) zf_RX10_184 rfl (k_9_0 s167 zWd_1) (rf_9_0_4 s167 zWd_1) ?_
      have b170 : -2147483648 ≤ (h165.2 21 1) ∧ (h165.2 21 1) ≤ 2147483647 := fb_2_0_1 s167 zKi_21
      refine zj_geti (v := (h165.2 21 1)) (zdk ttX10_text 95 rfl rfl) zf_RX10_197 rfl (k_2_0 s167 zKi_21) rfl ?_
      refine zj_istore_n (L' := [some (.inr 0), some (.inl p1), some (.inl (h.2 2 3)), some (.inl (h165.2 21 1))]) (zdk ttX10_text 96 rfl rfl) (by decide) rfl ?_
      refine zj_goto (t := 254) (zdk ttX10_text 97 rfl rfl) (by decide) ?_
      refine zj_aload_n (zdk ttX10_text 98 rfl rfl) rfl (by decide) ?_
      refine zj_getr (r := 103) (zdk ttX10_text 99 rfl rfl) zf_RX10_25 rfl (k_L0 s167) (rf_L0_3 s167) ?_
      refine zj_iconst (zdk ttX10_text 100 rfl rfl) ?_
      refine zj_puti (zdk ttX10_text 101 rfl rfl) zf_RX10_137 rfl (k_L103 s167) (Or.inl zw_RX10_137) (k2 := 3) rfl (fun h171 e172 => ?_)
      refine zj_iload_n (zdk ttX10_text 102 rfl rfl) rfl ?_
      have s173 : okC h171 := fw_L103_3 s167 e172 (by omega)
      have f177 : zfC w_X10_text h h4 := zfC_t (zfC_r _ _) f8 (fun a9 b9 z9 => by
        exact (Or.inr (Or.inr (Or.inr (Or.inr (Or.inr (Or.inr (Or.inr (Or.inr (Or.inr (Or.inr (Or.inr (Or.inr (Or.inr (Or.inr (Or.inr (Or.inr (Or.inr (Or.inl (by omega))))))))))))))))))))
      have f176 : zfC w_X10_text h h148 := zfC_t f177 f152 (fun a9 b9 z9 => by
        rcases z9 with z9 | z9 | z9 | z9
        · exact (Or.inr (Or.inr (Or.inr (Or.inr (Or.inr (Or.inr (Or.inr (Or.inr (Or.inr (Or.inr (Or.inr (Or.inr (Or.inr (Or.inr (Or.inr (Or.inr (Or.inr (Or.inl (by omega)))))))))))))))))))
        · exact (Or.inr (Or.inr (Or.inr (Or.inr (Or.inr (Or.inr (Or.inr (Or.inr (Or.inr (Or.inr (Or.inr (Or.inr (Or.inr (Or.inr (Or.inr (Or.inr (Or.inr (Or.inr z9))))))))))))))))))
        · exact (Or.inr (Or.inr (Or.inr (Or.inr (Or.inr (Or.inr (Or.inr (Or.inr (Or.inr (Or.inr (Or.inr (Or.inr (Or.inr (Or.inr (Or.inr (Or.inl z9))))))))))))))))
        · exact (Or.inr (Or.inr (Or.inr (Or.inr (Or.inr (Or.inr (Or.inr (Or.inr (Or.inr (Or.inr (Or.inr (Or.inr (Or.inr (Or.inr (Or.inr (Or.inr (Or.inl z9))))))))))))))))))
      have f175 : zfC w_X10_text h h165 := zfC_t f176 f169 (fun a9 b9 z9 => by
        rcases z9 with z9 | z9
        · exact (Or.inr (Or.inr (Or.inr (Or.inr (Or.inr (Or.inr (Or.inr (Or.inl z9))))))))
        · exact (Or.inr (Or.inr (Or.inr (Or.inr (Or.inr (Or.inr (Or.inr (Or.inr (Or.inl z9))))))))))
      have f174 : zfC w_X10_text h h171 := zfC_w f175 e172 (Or.inr (Or.inr (Or.inr (Or.inr (Or.inr (Or.inr (Or.inr (Or.inr (Or.inr (Or.inr (Or.inr (Or.inr (Or.inr (Or.inr (Or.inr (Or.inr (Or.inr (Or.inl (by omega)))))))))))))))))))
      have b178 : h171.2 103 3 = 0 := (zwr_v e172)
      have b179 : h171.2 103 7 = (h148.2 103 7) := ((zwr_r e172 (by first | decide | exact (absurd ·.1 (by decide)) | exact (absurd ·.2 (by decide)) | omega)).trans (zfC_a f169 (fun z9 => by unfold w_X2_copyFrom at z9; first | (revert z9; decide) | omega)))
      have b180 : h171.2 103 8 = (h148.2 103 8) := ((zwr_r e172 (by first | decide | exact (absurd ·.1 (by decide)) | exact (absurd ·.2 (by decide)) | omega)).trans (zfC_a f169 (fun z9 => by unfold w_X2_copyFrom at z9; first | (revert z9; decide) | omega)))
      exact zj_iret rfl (zdk ttX10_text 103 rfl rfl) (Nat.le_refl _) (Nat.le_refl _) ⟨(h165.2 21 1), rfl, by omega, s173, f174, by omega, (fun j => zJP_g s0 ((((zwr_r e172 (by decide)).trans (zfC_a f169 (fun z9 => by unfold w_X2_copyFrom at z9; first | (revert z9; decide) | omega))).trans (zfC_a f152 (fun z9 => by unfold w_X7_readKin at z9; first | (revert z9; decide) | omega))).trans (zfC_a f8 (fun z9 => by unfold w_X6_rewind at z9; first | (revert z9; decide) | omega))) ((((zwr_r e172 (by decide)).trans (zfC_a f169 (fun z9 => by unfold w_X2_copyFrom at z9; first | (revert z9; decide) | omega))).trans (zfC_a f152 (fun z9 => by unfold w_X7_readKin at z9; first | (revert z9; decide) | omega))).trans (zfC_a f8 (fun z9 => by unfold w_X6_rewind at z9; first | (revert z9; decide) | omega))) (fun a b z1 z2 => ((((zwr_r e172 (by first | decide | exact (absurd ·.1 (by decide)) | exact (absurd ·.2 (by decide)) | omega)).trans (zfC_a f169 (fun z9 => by unfold w_X2_copyFrom at z9; first | (revert z9; decide) | omega))).trans (zfC_a f152 (fun z9 => by unfold w_X7_readKin at z9; first | (revert z9; decide) | omega))).trans (zfC_a f8 (fun z9 => by unfold w_X6_rewind at z9; first | (revert z9; decide) | omega)))) j), (by have z7 := u7; have z8 := u151 z7.1 z7.2; rw [show h4.2 104 = h.2 104 from funext fun i9 => (zfC_a f8 (fun z9 => by unfold w_X6_rewind at z9; first | (revert z9; decide) | omega)), show h4.2 103 3 = h.2 103 3 from (zfC_a f8 (fun z9 => by unfold w_X6_rewind at z9; first | (revert z9; decide) | omega))] at z8; obtain ⟨T, P, c9, k9, y9, n9⟩ := z8; refine tTX_y (Or.inr (Or.inr (Or.inr ⟨by omega, rfl, rfl, rfl⟩))) ⟨T, P, c9, k9, ?_⟩; obtain ⟨⟨a9, b9⟩, j9, r9⟩ := y9 (by omega); have c8 : h165.2 21 1 = h148.2 89 1 := u168; exact Or.inl ⟨j9, _, r9, by omega, by omega, by omega⟩)⟩
  refine zj_table (t := 254) (zdk ttX10_text 11 rfl rfl) (by omega) (by decide) k10 (fun z1 z2 => ?_)
  have z3 : p1 = 0 ∨ p1 = 1 ∨ p1 = 2 ∨ p1 = 3 := by omega
  rcases z3 with z3 | z3 | z3 | z3
  · exact ⟨31, 52, by rw [z3] <;> rfl, by decide, k19 z3⟩
  · exact ⟨79, 100, by rw [z3] <;> rfl, by decide, k55 z3⟩
  · exact ⟨131, 152, by rw [z3] <;> rfl, by decide, k100 z3⟩
  · exact ⟨184, 205, by rw [z3] <;> rfl, by decide, k145 z3⟩

abbrev q2_X6_putFour (h : zM) (p1 : Int) : Option zV → zM → Prop := zqv fun h' => okC h' ∧ zfC w_X6_putFour h h' ∧ (h.2 103 3 ≤ 396 → h'.2 103 3 = h.2 103 3 + 4) ∧ (h.2 103 3 ≤ 396 → ∀ i, h'.2 104 i = if h.2 103 3 ≤ i ∧ i < h.2 103 3 + 4 then zand (zushr p1 (24 - 8 * (i - h.2 103 3))) 255 else h.2 104 i)
set_option maxRecDepth 100000 in
set_option maxHeartbeats 4000000 in
theorem s2_X6_putFour (l : Launch) (h : zM) (p1 : Int) (s0 : okC h) (b_p1 : (-2147483648) ≤ p1 ∧ p1 ≤ 2147483647) : zT shC l yX6_putFour cX6_putFour 3 none (rmL 1) 0 0 [.inr 103, .inl p1] h (q2_X6_putFour h p1) := by
  refine zT_of (by decide +kernel) (L0 := [some (.inr 103), some (.inl p1), none]) rfl (Nat.le_of_ble_eq_true rfl) ?_
  refine zj_bipush (zdk ttX6_putFour 0 rfl rfl) (by decide) ?_
  refine zj_istore_n (L' := [some (.inr 103), some (.inl p1), some (.inl 24)]) (zdk ttX6_putFour 1 rfl rfl) (by decide) rfl ?_
  have lp15 : ∀ (n : Nat) (x1 : Int) (h2 : zM), (-8 ≤ x1 ∧ x1 ≤ 24) → okC h2 → zfC w_X6_putFour h h2 → (h.2 103 3 ≤ 396 → (h2.2 103 3) * 8 + x1 = h.2 103 3 * 8 + 24) → ((x1 = 24 ∨ x1 = 16 ∨ x1 = 8 ∨ x1 = 0 ∨ x1 = -8)) → (h.2 103 3 ≤ 396 → ∀ i, h2.2 104 i = if h.2 103 3 ≤ i ∧ i < h2.2 103 3 then zand (zushr p1 (24 - 8 * (i - h.2 103 3))) 255 else h.2 104 i) → (x1 + 8).toNat < n → zJ shC l yX6_putFour cX6_putFour 3 none (rmL 1) 0 0 (q2_X6_putFour h p1) 0 0 3 [some (.inr 103), some (.inl p1), some (.inl x1)] [] h2 := by
    intro n
    induction n with
    | zero => intro x1 h2 b16 s3 f4 u17 u18 u19 m20; exact absurd m20 (Nat.not_lt_zero _)
    | succ n ih21 =>
      intro x1 h2 b16 s3 f4 u17 u18 u19 m20
      refine zj_iload_n (zdk ttX6_putFour 2 rfl rfl) rfl ?_
      refine zj_if_lt (t := 46) (zdk ttX6_putFour 3 rfl rfl) (by decide) (by omega) (fun c22 => ?_) (fun c22 => ?_)
      · exact zj_vret rfl (zdk ttX6_putFour 25 rfl rfl) (Nat.le_refl _) (Nat.le_refl _) ⟨rfl, s3, f4, by omega, (fun z9 => by have q9 := u19 z9; have c9 := u17 z9; rw [show h2.2 103 3 = h.2 103 3 + 4 by omega] at q9; exact q9)⟩
      · refine zj_aload_n (zdk ttX6_putFour 4 rfl rfl) rfl (by decide) ?_
        have b23 : 0 ≤ (h2.2 103 3) ∧ (h2.2 103 3) ≤ 400 := fb_L103_3 s3
        refine zj_geti (v := (h2.2 103 3)) (zdk ttX6_putFour 5 rfl rfl) zf_RX6_21 rfl (k_L103 s3) rfl ?_
        refine zj_sipush (zdk ttX6_putFour 6 rfl rfl) (by decide) ?_
        refine zj_icmp_ge (t := 46) (zdk ttX6_putFour 7 rfl rfl) (by decide) (by omega) (by decide) (fun c24 => ?_) (fun c24 => ?_)
        · exact zj_vret rfl (zdk ttX6_putFour 25 rfl rfl) (Nat.le_refl _) (Nat.le_refl _) ⟨rfl, s3, f4, by omega, (fun z9 => by have q9 := u19 z9; have c9 := u17 z9; rw [show h2.2 103 3 = h.2 103 3 + 4 by omega] at q9; exact q9)⟩
        · refine zj_aload_n (zdk ttX6_putFour 8 rfl rfl) rfl (by decide) ?_
          refine zj_getr (r := 104) (zdk ttX6_putFour 9 rfl rfl) zf_RX6_11 rfl (k_L103 s3) (rf_L103_0 s3) ?_
          refine zj_aload_n (zdk ttX6_putFour 10 rfl rfl) rfl (by decide) ?_
          refine zj_dup (zdk ttX6_putFour 11 rfl rfl) ?_
          refine zj_geti (v := (h2.2 103 3)) (zdk ttX6_putFour 12 rfl rfl) zf_RX6_21 rfl (k_L103 s3) rfl ?_
          refine zj_dup_x1 (zdk ttX6_putFour 13 rfl rfl) ?_
          refine zj_iconst (zdk ttX6_putFour 14 rfl rfl) ?_
          refine zj_iadd (zdk ttX6_putFour 15 rfl rfl) ?_
          refine zj_puti (zdk ttX6_putFour 16 rfl rfl) zf_RX6_21 rfl (k_L103 s3) (Or.inl zw_RX6_21) (k2 := 3) rfl (fun h25 e26 => ?_)
          refine zj_iload_n (zdk ttX6_putFour 17 rfl rfl) rfl ?_
          refine zj_iload_n (zdk ttX6_putFour 18 rfl rfl) rfl ?_
          refine zj_iushr (zdk ttX6_putFour 19 rfl rfl) ?_
          have b27 := zushr_in p1 x1
          refine zj_sipush (zdk ttX6_putFour 20 rfl rfl) (by decide) ?_
          refine zj_iand (zdk ttX6_putFour 21 rfl rfl) ?_
          have b28 := zand_m (d := 256) 8 (by decide) (c := 255) (by decide) (by decide) (zushr p1 x1)
          have s29 : okC h25 := fw_L103_3 s3 e26 (by omega)
          refine zj_iast (zdk ttX6_putFour 22 rfl rfl) (ka_L103_0 s29) (by decide) (by omega) (fun h30 e31 => ?_)
          refine zj_iinc (L' := [some (.inr 103), some (.inl p1), some (.inl (x1 + (-8)))]) (zdk ttX6_putFour 23 rfl rfl) rfl (by decide) rfl ?_
          refine zj_goto (t := 3) (zdk ttX6_putFour 24 rfl rfl) (by decide) ?_
          have b32 : h30.2 103 3 = ((h2.2 103 3) + 1) := ((zwr_r e31 (by first | decide | exact (absurd ·.1 (by decide)) | exact (absurd ·.2 (by decide)) | omega)).trans (zwr_v e26))
          have s33 : okC h30 := aw_L103_0 s29 e31 (by omega)
          have f35 : zfC w_X6_putFour h h25 := zfC_w f4 e26 (Or.inl (by omega))
          have f34 : zfC w_X6_putFour h h30 := zfC_w f35 e31 (Or.inr (by omega))
          exact ih21  (x1 + (-8)) h30 (by omega) s33 f34 (by omega) (by omega) (fun z9 => by have q9 := u19 z9; have c9 := u17 z9; rw [show h30.2 103 3 = h2.2 103 3 + 1 from (zwr_r e31 (by first | decide | exact (absurd ·.1 (by decide)) | exact (absurd ·.2 (by decide)) | omega)).trans (zwr_v e26)]; exact tFd_s (by omega) q9 (fun i => by rw [tRow e31 rfl i, zwr_r (a := 104) (b := i) e26 (by omega)]) (by rw [show 24 - 8 * (h2.2 103 3 - h.2 103 3) = x1 by omega])) (by omega)
  exact lp15 _ 24 h (by omega) s0 (zfC_r _ _) (by omega) (by omega) (fun _ i => by rw [if_neg (by omega)]) (Nat.lt_succ_self _)

abbrev q2_X10_feed (h : zM) (p1 : Int) (p2 : Int) (p3 : Int) (p4 : Int) (p5 : Int) : Option zV → zM → Prop := zqi fun v h' => ((-2147483648) ≤ v ∧ v ≤ 2147483647) ∧ okC h' ∧ zfC w_X10_feed h h' ∧ (zfd (h.2 103 3) v (h'.2 103 3)) ∧ (tFe (h.2 103 3) (h.2 104) (h'.2 104) p1 p2 p3 p4 p5)
set_option maxRecDepth 100000 in
set_option maxHeartbeats 4000000 in
theorem s2_X10_feed (l : Launch) (h : zM) (p1 : Int) (p2 : Int) (p3 : Int) (p4 : Int) (p5 : Int) (s0 : okC h) (b_p1 : (-2147483648) ≤ p1 ∧ p1 ≤ 2147483647) (b_p2 : (-2147483648) ≤ p2 ∧ p2 ≤ 2147483647) (b_p3 : (-2147483648) ≤ p3 ∧ p3 ≤ 2147483647) (b_p4 : (-2147483648) ≤ p4 ∧ p4 ≤ 2147483647) (b_p5 : (-2147483648) ≤ p5 ∧ p5 ≤ 2147483647) : zT shC l yX10_feed cX10_feed 6 (some .int) (rmL 2) 0 0 [.inr 0, .inl p1, .inl p2, .inl p3, .inl p4, .inl p5] h (q2_X10_feed h p1 p2 p3 p4 p5) := by
  refine zT_of (by decide +kernel) (L0 := [some (.inr 0), some (.inl p1), some (.inl p2), some (.inl p3), some (.inl p4), some (.inl p5)]) rfl (Nat.le_of_ble_eq_true rfl) ?_
  refine zj_aload_n (zdk ttX10_feed 0 rfl rfl) rfl (by decide) ?_
  refine zj_getr (r := 103) (zdk ttX10_feed 1 rfl rfl) zf_RX10_25 rfl (k_L0 s0) (rf_L0_3 s0) ?_
  have b1 : 0 ≤ (h.2 103 3) ∧ (h.2 103 3) ≤ 400 := fb_L103_3 s0
  refine zj_geti (v := (h.2 103 3)) (zdk ttX10_feed 2 rfl rfl) zf_RX10_137 rfl (k_L103 s0) rfl ?_
  refine zj_sipush (zdk ttX10_feed 3 rfl rfl) (by decide) ?_
  refine zj_icmp_le (t := 15) (zdk ttX10_feed 4 rfl rfl) (by decide) (by omega) (by decide) (fun c2 => ?_) (fun c2 => ?_)
  · refine zj_aload_n (zdk ttX10_feed 7 rfl rfl) rfl (by decide) ?_
    refine zj_getr (r := 103) (zdk ttX10_feed 8 rfl rfl) zf_RX10_25 rfl (k_L0 s0) (rf_L0_3 s0) ?_
    refine zj_iload_n (zdk ttX10_feed 9 rfl rfl) rfl ?_
    refine zj_callV (av := [.inl p1]) (st := []) (zdk ttX10_feed 10 rfl rfl) mb_X6_putFour mv_RX10_140 (ci := 6) rfl rfl (k_L103 s0) rfl rfl (Nat.le_of_ble_eq_true rfl) (s2_X6_putFour l h p1 s0 (by omega)) (rm_ok (by decide) (by decide)) (zq_v fun h5 q3 => ?_)
    obtain ⟨s7, f10, u8, u9⟩ := q3
    refine zj_aload_n (zdk ttX10_feed 11 rfl rfl) rfl (by decide) ?_
    refine zj_getr (r := 103) (zdk ttX10_feed 12 rfl rfl) zf_RX10_25 rfl (k_L0 s7) (rf_L0_3 s7) ?_
    refine zj_iload_n (zdk ttX10_feed 13 rfl rfl) rfl ?_
    refine zj_callV (av := [.inl p2]) (st := []) (zdk ttX10_feed 14 rfl rfl) mb_X6_putFour mv_RX10_140 (ci := 6) rfl rfl (k_L103 s7) rfl rfl (Nat.le_of_ble_eq_true rfl) (s2_X6_putFour l h5 p2 s7 (by omega)) (rm_ok (by decide) (by decide)) (zq_v fun h13 q11 => ?_)
    obtain ⟨s15, f18, u16, u17⟩ := q11
    refine zj_aload_n (zdk ttX10_feed 15 rfl rfl) rfl (by decide) ?_
    refine zj_getr (r := 103) (zdk ttX10_feed 16 rfl rfl) zf_RX10_25 rfl (k_L0 s15) (rf_L0_3 s15) ?_
    refine zj_iload_n (zdk ttX10_feed 17 rfl rfl) rfl ?_
    refine zj_callV (av := [.inl p3]) (st := []) (zdk ttX10_feed 18 rfl rfl) mb_X6_putFour mv_RX10_140 (ci := 6) rfl rfl (k_L103 s15) rfl rfl (Nat.le_of_ble_eq_true rfl) (s2_X6_putFour l h13 p3 s15 (by omega)) (rm_ok (by decide) (by decide)) (zq_v fun h21 q19 => ?_)
    obtain ⟨s23, f26, u24, u25⟩ := q19
    refine zj_aload_n (zdk ttX10_feed 19 rfl rfl) rfl (by decide) ?_
    refine zj_getr (r := 103) (zdk ttX10_feed 20 rfl rfl) zf_RX10_25 rfl (k_L0 s23) (rf_L0_3 s23) ?_
    refine zj_iload (zdk ttX10_feed 21 rfl rfl) rfl ?_
    refine zj_callV (av := [.inl p4]) (st := []) (zdk ttX10_feed 22 rfl rfl) mb_X6_putFour mv_RX10_140 (ci := 6) rfl rfl (k_L103 s23) rfl rfl (Nat.le_of_ble_eq_true rfl) (s2_X6_putFour l h21 p4 s23 (by omega)) (rm_ok (by decide) (by decide)) (zq_v fun h29 q27 => ?_)
    obtain ⟨s31, f34, u32, u33⟩ := q27
    refine zj_aload_n (zdk ttX10_feed 23 rfl rfl) rfl (by decide) ?_
    refine zj_getr (r := 103) (zdk ttX10_feed 24 rfl rfl) zf_RX10_25 rfl (k_L0 s31) (rf_L0_3 s31) ?_
    refine zj_iload (zdk ttX10_feed 25 rfl rfl) rfl ?_
    refine zj_callV (av := [.inl p5]) (st := []) (zdk ttX10_feed 26 rfl rfl) mb_X6_putFour mv_RX10_140 (ci := 6) rfl rfl (k_L103 s31) rfl rfl (Nat.le_of_ble_eq_true rfl) (s2_X6_putFour l h29 p5 s31 (by omega)) (rm_ok (by decide) (by decide)) (zq_v fun h37 q35 => ?_)
    obtain ⟨s39, f42, u40, u41⟩ := q35
    refine zj_aload_n (zdk ttX10_feed 27 rfl rfl) rfl (by decide) ?_
    refine zj_getr (r := 103) (zdk ttX10_feed 28 rfl rfl) zf_RX10_25 rfl (k_L0 s39) (rf_L0_3 s39) ?_
    have b43 : 0 ≤ (h37.2 103 3) ∧ (h37.2 103 3) ≤ 400 := fb_L103_3 s39
    refine zj_geti (v := (h37.2 103 3)) (zdk ttX10_feed 29 rfl rfl) zf_RX10_137 rfl (k_L103 s39) rfl ?_
    have f48 : zfC w_X10_feed h h5 := zfC_t (zfC_r _ _) f10 (fun a9 b9 z9 => by
      rcases z9 with z9 | z9
      · exact (Or.inl z9)
      · exact (Or.inr z9))
    have f47 : zfC w_X10_feed h h13 := zfC_t f48 f18 (fun a9 b9 z9 => by
      rcases z9 with z9 | z9
      · exact (Or.inl z9)
      · exact (Or.inr z9))
    have f46 : zfC w_X10_feed h h21 := zfC_t f47 f26 (fun a9 b9 z9 => by
      rcases z9 with z9 | z9
      · exact (Or.inl z9)
      · exact (Or.inr z9))
    have f45 : zfC w_X10_feed h h29 := zfC_t f46 f34 (fun a9 b9 z9 => by
      rcases z9 with z9 | z9
      · exact (Or.inl z9)
      · exact (Or.inr z9))
    have f44 : zfC w_X10_feed h h37 := zfC_t f45 f42 (fun a9 b9 z9 => by
      rcases z9 with z9 | z9
      · exact (Or.inl z9)
      · exact (Or.inr z9))
    exact zj_iret rfl (zdk ttX10_feed 30 rfl rfl) (Nat.le_refl _) (Nat.le_refl _) ⟨(h37.2 103 3), rfl, by omega, s39, f44, by unfold zfd; omega, ⟨by intro z9; have l1 := u8 (by omega); have e1 := u9 (by omega); have l2 := u16 (by omega); have e2 := u17 (by omega); rw [show h5.2 103 3 = h.2 103 3 + 4 by omega] at e2; have l3 := u24 (by omega); have e3 := u25 (by omega); rw [show h13.2 103 3 = h.2 103 3 + 8 by omega] at e3; have l4 := u32 (by omega); have e4 := u33 (by omega); rw [show h21.2 103 3 = h.2 103 3 + 12 by omega] at e4; have l5 := u40 (by omega); have e5 := u41 (by omega); rw [show h29.2 103 3 = h.2 103 3 + 16 by omega] at e5; exact tFd_5 e1 e2 e3 e4 e5, fun z => absurd z (by omega)⟩⟩
  · refine zj_iconst (zdk ttX10_feed 5 rfl rfl) ?_
    exact zj_iret rfl (zdk ttX10_feed 6 rfl rfl) (Nat.le_refl _) (Nat.le_refl _) ⟨(-1), rfl, by omega, s0, (zfC_r _ _), by unfold zfd; omega, ⟨fun z => absurd z (by omega), fun _ i => rfl⟩⟩

abbrev q2_X10_fault (h : zM) (p1 : Int) : Option zV → zM → Prop := zqi fun v h' => ((-2147483648) ≤ v ∧ v ≤ 2147483647) ∧ okC h' ∧ zfC w_X10_fault h h' ∧ ((p1 = 0 → v = h.2 103 7) ∧ (p1 = 1 → v = h.2 103 8) ∧ (¬ (p1 = 0 ∨ p1 = 1) → v = -1))
set_option maxRecDepth 100000 in
set_option maxHeartbeats 4000000 in
theorem s2_X10_fault (l : Launch) (h : zM) (p1 : Int) (s0 : okC h) (b_p1 : (-2147483648) ≤ p1 ∧ p1 ≤ 2147483647) : zT shC l yX10_fault cX10_fault 2 (some .int) (rmL 1) 0 0 [.inr 0, .inl p1] h (q2_X10_fault h p1) := by
  refine zT_of (by decide +kernel) (L0 := [some (.inr 0), some (.inl p1)]) rfl (Nat.le_of_ble_eq_true rfl) ?_
  refine zj_iload_n (zdk ttX10_fault 0 rfl rfl) rfl ?_
  have k2 : (¬ p1 = 0 ∧ ¬ p1 = 1) → zJ shC l yX10_fault cX10_fault 2 (some .int) (rmL 1) 0 0 (q2_X10_fault h p1) 0 0 44 [some (.inr 0), some (.inl p1)] [] h := by
    intro c1
    refine zj_iconst (zdk ttX10_fault 10 rfl rfl) ?_
    exact zj_iret rfl (zdk ttX10_fault 11 rfl rfl) (Nat.le_refl _) (Nat.le_refl _) ⟨(-1), rfl, by omega, s0, (zfC_r _ _), by omega⟩
  have k3 : p1 = 0 → zJ shC l yX10_fault cX10_fault 2 (some .int) (rmL 1) 0 0 (q2_X10_fault h p1) 0 0 28 [some (.inr 0), some (.inl p1)] [] h := by
    intro c1
    refine zj_aload_n (zdk ttX10_fault 2 rfl rfl) rfl (by decide) ?_
    refine zj_getr (r := 103) (zdk ttX10_fault 3 rfl rfl) zf_RX10_25 rfl (k_L0 s0) (rf_L0_3 s0) ?_
    have b4 : -2147483648 ≤ (h.2 103 7) ∧ (h.2 103 7) ≤ 2147483647 := fb_L103_7 s0
    refine zj_geti (v := (h.2 103 7)) (zdk ttX10_fault 4 rfl rfl) zf_RX10_198 rfl (k_L103 s0) rfl ?_
    exact zj_iret rfl (zdk ttX10_fault 5 rfl rfl) (Nat.le_refl _) (Nat.le_refl _) ⟨(h.2 103 7), rfl, by omega, s0, (zfC_r _ _), by omega⟩
  have k5 : p1 = 1 → zJ shC l yX10_fault cX10_fault 2 (some .int) (rmL 1) 0 0 (q2_X10_fault h p1) 0 0 36 [some (.inr 0), some (.inl p1)] [] h := by
    intro c1
    refine zj_aload_n (zdk ttX10_fault 6 rfl rfl) rfl (by decide) ?_
    refine zj_getr (r := 103) (zdk ttX10_fault 7 rfl rfl) zf_RX10_25 rfl (k_L0 s0) (rf_L0_3 s0) ?_
    have b6 : -2147483648 ≤ (h.2 103 8) ∧ (h.2 103 8) ≤ 2147483647 := fb_L103_8 s0
    refine zj_geti (v := (h.2 103 8)) (zdk ttX10_fault 8 rfl rfl) zf_RX10_201 rfl (k_L103 s0) rfl ?_
    exact zj_iret rfl (zdk ttX10_fault 9 rfl rfl) (Nat.le_refl _) (Nat.le_refl _) ⟨(h.2 103 8), rfl, by omega, s0, (zfC_r _ _), by omega⟩
  by_cases z7 : p1 = 0
  · exact zj_lookup (t := 28) (zdk ttX10_fault 1 rfl rfl) (by omega) rfl (by rw [z7] <;> rfl) (by decide) (k3 z7)
  by_cases z8 : p1 = 1
  · exact zj_lookup (t := 36) (zdk ttX10_fault 1 rfl rfl) (by omega) rfl (by rw [z8] <;> rfl) (by decide) (k5 z8)
  exact zj_lookup (t := 44) (zdk ttX10_fault 1 rfl rfl) (by omega) rfl (by show Op.lookupswitch.offset [(0, 27), (1, 35)] 43 p1 = _; rw [Op.lookupswitch.offset_cons, if_neg (by omega), Op.lookupswitch.offset_cons, if_neg (by omega), Op.lookupswitch.offset_nil]) (by decide) (k2 (by omega))
