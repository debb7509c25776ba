abbrev q2_X7_readLawLine (h : zM) (p1 : Int) (p2 : Int) : Option zV → zM → Prop := zqi fun v h' => (0 ≤ v ∧ v ≤ 1) ∧ okC h' ∧ zfC (w_X7_readLawLine p1) h h' ∧ (∀ T P j, tPo T P j h → h.2 p1 7 ≤ j → (200 ≤ T j ∧ T j ≤ 202) → (v = 1 → ∃ j9, tPo T P j9 h' ∧ j < j9 ∧ h'.2 p1 7 - h.2 p1 7 ≤ j9 - j ∧ ∀ p9 s9 d9, tRe T p9 (2, j, p2, s9, tCd h p1, d9) (2, j9, p2 + 1, [], tCd h' p1, h'.2 (p1 + 4) p2 :: h'.2 (p1 + 3) p2 :: h'.2 (p1 + 2) p2 :: h'.2 (p1 + 1) p2 :: d9)) ∧ (v = 0 → ∃ i9 f9, (h'.2 103 7 = f9 ∧ h'.2 103 8 = P i9) ∧ ∀ p9 s9 d9, tRe T p9 (2, j, p2, s9, tCd h p1, d9) (tEr i9 f9))) ∧ (∀ k9 i9, 1 ≤ k9 → k9 ≤ 4 → ¬ i9 = p2 → h'.2 (p1 + k9) i9 = h.2 (p1 + k9) i9)
set_option maxRecDepth 100000 in
set_option maxHeartbeats 4000000 in
theorem s2_X7_readLawLine (l : Launch) (h : zM) (p1 : Int) (p2 : Int) (s0 : okC h) (r_p1 : zLw p1) (b_p2 : 0 ≤ p2 ∧ p2 ≤ 15) : zT shC l yX7_readLawLine cX7_readLawLine 3 (some .boolean) (rmL 31) 0 0 [.inr 107, .inr p1, .inl p2] h (q2_X7_readLawLine h p1 p2) := by
  refine zT_of (by decide +kernel) (L0 := [some (.inr 107), some (.inr p1), some (.inl p2)]) rfl (Nat.le_of_ble_eq_true rfl) ?_
  have b1 := zLw_b r_p1
  refine zj_aload_n (zdk ttX7_readLawLine 0 rfl rfl) rfl (by omega) ?_
  refine zj_getr (r := (p1 + 1)) (zdk ttX7_readLawLine 1 rfl rfl) zf_RX7_43 rfl (k_3_0 s0 r_p1) (rf_3_0_0 s0 r_p1) ?_
  refine zj_iload_n (zdk ttX7_readLawLine 2 rfl rfl) rfl ?_
  refine zj_aload_n (zdk ttX7_readLawLine 3 rfl rfl) rfl (by decide) ?_
  refine zj_getr (r := 103) (zdk ttX7_readLawLine 4 rfl rfl) zf_RX7_9 rfl (k_L107 s0) (rf_L107_0 s0) ?_
  have b2 : -2147483648 ≤ (h.2 103 6) ∧ (h.2 103 6) ≤ 2147483647 := fb_L103_6 s0
  refine zj_geti (v := (h.2 103 6)) (zdk ttX7_readLawLine 5 rfl rfl) zf_RX7_32 rfl (k_L103 s0) rfl ?_
  refine zj_sipush (zdk ttX7_readLawLine 6 rfl rfl) (by decide) ?_
  refine zj_isub (zdk ttX7_readLawLine 7 rfl rfl) ?_
  refine zj_wrap ?_
  have b3 := zwp_in ((h.2 103 6) - 200)
  refine zj_iast (zdk ttX7_readLawLine 8 rfl rfl) (ka_3_0_0 s0 r_p1) (by decide) (by omega) (fun h4 e5 => ?_)
  refine zj_aload_n (zdk ttX7_readLawLine 9 rfl rfl) rfl (by decide) ?_
  have s6 : okC h4 := aw_3_0_0 s0 r_p1 e5 (by omega)
  refine zj_getr (r := 103) (zdk ttX7_readLawLine 10 rfl rfl) zf_RX7_9 rfl (k_L107 s6) (rf_L107_0 s6) ?_
  refine zj_callV (av := []) (st := []) (zdk ttX7_readLawLine 11 rfl rfl) mb_X6_pass mv_RX7_47 (ci := 6) rfl rfl (k_L103 s6) rfl rfl (Nat.le_of_ble_eq_true rfl) (s2_X6_pass l h4 s6) (rm_ok (by decide) (by decide)) (zq_v fun h9 q7 => ?_)
  obtain ⟨s11, f13, u12⟩ := q7
  refine zj_aload_n (zdk ttX7_readLawLine 12 rfl rfl) rfl (by omega) ?_
  refine zj_getr (r := (p1 + 2)) (zdk ttX7_readLawLine 13 rfl rfl) zf_RX7_50 rfl (k_3_0 s11 r_p1) (rf_3_0_1 s11 r_p1) ?_
  refine zj_iload_n (zdk ttX7_readLawLine 14 rfl rfl) rfl ?_
  refine zj_aload_n (zdk ttX7_readLawLine 15 rfl rfl) rfl (by omega) ?_
  have b14 : 0 ≤ (h.2 p1 7) ∧ (h.2 p1 7) ≤ 400 := fb_3_0_7 s0 r_p1
  refine zj_geti (v := (h.2 p1 7)) (zdk ttX7_readLawLine 16 rfl rfl) zf_RX7_29 rfl (k_3_0 s11 r_p1) ((zfC_a f13 (fun z9 => by unfold w_X6_pass at z9; omega)).trans (zwr_r e5 (by omega))) ?_
  refine zj_iast (zdk ttX7_readLawLine 17 rfl rfl) (ka_3_0_1 s11 r_p1) (by decide) (by omega) (fun h15 e16 => ?_)
  refine zj_aload_n (zdk ttX7_readLawLine 18 rfl rfl) rfl (by decide) ?_
  refine zj_aload_n (zdk ttX7_readLawLine 19 rfl rfl) rfl (by omega) ?_
  have s17 : okC h15 := aw_3_0_1 s11 r_p1 e16 (by omega)
  refine zj_callV (av := [.inr p1]) (st := []) (zdk ttX7_readLawLine 20 rfl rfl) mb_X7_readSum mv_RX7_53 (ci := 7) rfl rfl (k_L107 s17) rfl rfl (Nat.le_of_ble_eq_true rfl) (s2_X7_readSum l h15 p1 s17 r_p1) (rm_ok (by decide) (by decide)) (zq_i fun v19 h20 q18 => ?_)
  obtain ⟨b21, s22, f24, u23⟩ := q18
  refine zj_if_ne (t := 44) (zdk ttX7_readLawLine 21 rfl rfl) (by decide) (by omega) (fun c25 => ?_) (fun c25 => ?_)
  · refine zj_aload_n (zdk ttX7_readLawLine 24 rfl rfl) rfl (by omega) ?_
    refine zj_getr (r := (p1 + 3)) (zdk ttX7_readLawLine 25 rfl rfl) zf_RX7_57 rfl (k_3_0 s22 r_p1) (rf_3_0_2 s22 r_p1) ?_
    refine zj_iload_n (zdk ttX7_readLawLine 26 rfl rfl) rfl ?_
    refine zj_aload_n (zdk ttX7_readLawLine 27 rfl rfl) rfl (by omega) ?_
    have b26 : 0 ≤ (h20.2 p1 7) ∧ (h20.2 p1 7) ≤ 400 := fb_3_0_7 s22 r_p1
    refine zj_geti (v := (h20.2 p1 7)) (zdk ttX7_readLawLine 28 rfl rfl) zf_RX7_29 rfl (k_3_0 s22 r_p1) rfl ?_
    refine zj_iast (zdk ttX7_readLawLine 29 rfl rfl) (ka_3_0_2 s22 r_p1) (by decide) (by omega) (fun h27 e28 => ?_)
    refine zj_aload_n (zdk ttX7_readLawLine 30 rfl rfl) rfl (by decide) ?_
    have s29 : okC h27 := aw_3_0_2 s22 r_p1 e28 (by omega)
    refine zj_getr (r := 103) (zdk ttX7_readLawLine 31 rfl rfl) zf_RX7_9 rfl (k_L107 s29) (rf_L107_0 s29) ?_
    refine zj_iconst (zdk ttX7_readLawLine 32 rfl rfl) ?_
    refine zj_iconst (zdk ttX7_readLawLine 33 rfl rfl) ?_
    refine zj_callV (av := [.inl 3, .inl 3]) (st := []) (zdk ttX7_readLawLine 34 rfl rfl) mb_X6_isWord mv_RX7_60 (ci := 6) rfl rfl (k_L103 s29) rfl rfl (Nat.le_of_ble_eq_true rfl) (s_X6_isWord l h27 3 3 s29 (by omega) (by omega)) (rm_ok (by decide) (by decide)) (zq_i fun v31 h32 q30 => ?_)
    obtain ⟨rfl, b34, ⟨rfl, b33⟩ | ⟨rfl, b33⟩⟩ := q30
    · refine zj_if_eq (t := 84) (zdk ttX7_readLawLine 35 rfl rfl) (by decide) (by decide) (fun c35 => ?_) (fun c35 => ?_)
      · refine zj_aload_n (zdk ttX7_readLawLine 46 rfl rfl) rfl (by omega) ?_
        refine zj_getr (r := (p1 + 4)) (zdk ttX7_readLawLine 47 rfl rfl) zf_RX7_67 rfl (k_3_0 s29 r_p1) (rf_3_0_3 s29 r_p1) ?_
        refine zj_iload_n (zdk ttX7_readLawLine 48 rfl rfl) rfl ?_
        refine zj_aload_n (zdk ttX7_readLawLine 49 rfl rfl) rfl (by omega) ?_
        refine zj_geti (v := (h20.2 p1 7)) (zdk ttX7_readLawLine 50 rfl rfl) zf_RX7_29 rfl (k_3_0 s29 r_p1) (zwr_r e28 (by omega)) ?_
        refine zj_iast (zdk ttX7_readLawLine 51 rfl rfl) (ka_3_0_3 s29 r_p1) (by decide) (by omega) (fun h36 e37 => ?_)
        refine zj_aload_n (zdk ttX7_readLawLine 52 rfl rfl) rfl (by decide) ?_
        have s38 : okC h36 := aw_3_0_3 s29 r_p1 e37 (by omega)
        refine zj_getr (r := 103) (zdk ttX7_readLawLine 53 rfl rfl) zf_RX7_9 rfl (k_L107 s38) (rf_L107_0 s38) ?_
        refine zj_bipush (zdk ttX7_readLawLine 54 rfl rfl) (by decide) ?_
        refine zj_callV (av := [.inl 59]) (st := []) (zdk ttX7_readLawLine 55 rfl rfl) mb_X6_takes mv_RX7_70 (ci := 6) rfl rfl (k_L103 s38) rfl rfl (Nat.le_of_ble_eq_true rfl) (s2_X6_takes l h36 59 s38 (by omega)) (rm_ok (by decide) (by decide)) (zq_i fun v40 h41 q39 => ?_)
        obtain ⟨b42, s43, f45, u44⟩ := q39
        have f52 : zfC (w_X7_readLawLine p1) h h4 := zfC_w (zfC_r _ _) e5 (Or.inr (Or.inr (by omega)))
        have f51 : zfC (w_X7_readLawLine p1) h h9 := zfC_t f52 f13 (fun a9 b9 z9 => by
          exact (Or.inl (by omega)))
        have f50 : zfC (w_X7_readLawLine p1) h h15 := zfC_w f51 e16 (Or.inr (Or.inr (by omega)))
        have f49 : zfC (w_X7_readLawLine p1) h h20 := zfC_t f50 f24 (fun a9 b9 z9 => by
          rcases z9 with z9 | z9 | z9
          · exact (Or.inl z9)
          · exact (Or.inr (Or.inl (by omega)))
          · exact (Or.inr (Or.inr (by omega))))
        have f48 : zfC (w_X7_readLawLine p1) h h27 := zfC_w f49 e28 (Or.inr (Or.inr (by omega)))
        have f47 : zfC (w_X7_readLawLine p1) h h36 := zfC_w f48 e37 (Or.inr (Or.inr (by omega)))
        have f46 : zfC (w_X7_readLawLine p1) h h41 := zfC_t f47 f45 (fun a9 b9 z9 => by
          exact (Or.inl z9))
        have b53 : h4.2 103 6 = (h.2 103 6) := (zwr_r e5 (by omega))
        have b54 : h15.2 103 6 = (h9.2 103 6) := (zwr_r e16 (by omega))
        have b55 : h27.2 103 6 = (h20.2 103 6) := (zwr_r e28 (by omega))
        have b56 : h36.2 103 6 = (h20.2 103 6) := ((zwr_r e37 (by omega)).trans (zwr_r e28 (by omega)))
        exact zj_zret rfl (zdk ttX7_readLawLine 56 rfl rfl) (Nat.le_refl _) (Nat.le_refl _) (by omega) ⟨v40, rfl, by omega, s43, f46, (by intro T P j t0 y0 yh9; have k0 := t0.2.2.1.2; have l0 := t0.2.2.2.1; have n0 := t0.2.2.2.1; have a_1 : tPo T P j h4 := tPo_f t0 (fun i => (zwr_r e5 (by omega))) (fun i => (zwr_r e5 (by omega))) (zwr_r e5 (by omega)) (zwr_r e5 (by omega)) (zwr_r e5 (by omega)) (zwr_r e5 (by omega)) (zwr_r e5 (by omega)); have k_2 := a_1.2.2.1.2; have k_2l := a_1.2.2.2.1; have a_3 : tPo T P (j + 1) h9 := u12 T P j a_1 (by omega); have a_3q := a_3.2.2.2.1; have a_4 : tPo T P (j + 1) h15 := tPo_f a_3 (fun i => (zwr_r e16 (by omega))) (fun i => (zwr_r e16 (by omega))) (zwr_r e16 (by omega)) (zwr_r e16 (by omega)) (zwr_r e16 (by omega)) (zwr_r e16 (by omega)) (zwr_r e16 (by omega)); have c_5l : h4.2 p1 7 = h.2 p1 7 := (zwr_r e5 (by omega)); have c_5e : tCd h4 p1 = tCd h p1 := (tCd_f (zwr_r e5 (by omega)) (fun i => (zwr_r e5 (by omega)))).trans rfl; have c_6l : h9.2 p1 7 = h4.2 p1 7 := (zfC_a f13 (fun z9 => by unfold w_X6_pass at z9; omega)); have c_6e : tCd h9 p1 = tCd h p1 := (tCd_f (zfC_a f13 (fun z9 => by unfold w_X6_pass at z9; omega)) (fun i => (zfC_a f13 (fun z9 => by unfold w_X6_pass at z9; omega)))).trans c_5e; have c_7l : h15.2 p1 7 = h9.2 p1 7 := (zwr_r e16 (by omega)); have c_7e : tCd h15 p1 = tCd h p1 := (tCd_f (zwr_r e16 (by omega)) (fun i => (zwr_r e16 (by omega)))).trans c_6e; have z7 : 0 ≤ h.2 p1 7 := (fb_3_0_7 s0 r_p1).1; obtain ⟨r_8j, r_8a, r_8l, r_8n, r_8r⟩ := (u23 T P (j + 1) a_4 (by omega)).1 (by omega); have r_8q := r_8a.2.2.2.1; have k_9 := r_8a.2.2.1.2; have k_9l := r_8a.2.2.2.1; have c_10l := r_8n; have a_11 : tPo T P r_8j h27 := tPo_f r_8a (fun i => (zwr_r e28 (by omega))) (fun i => (zwr_r e28 (by omega))) (zwr_r e28 (by omega)) (zwr_r e28 (by omega)) (zwr_r e28 (by omega)) (zwr_r e28 (by omega)) (zwr_r e28 (by omega)); have a_12 : tPo T P r_8j h36 := tPo_f a_11 (fun i => (zwr_r e37 (by omega))) (fun i => (zwr_r e37 (by omega))) (zwr_r e37 (by omega)) (zwr_r e37 (by omega)) (zwr_r e37 (by omega)) (zwr_r e37 (by omega)) (zwr_r e37 (by omega)); have c_13l : h27.2 p1 7 = h20.2 p1 7 := (zwr_r e28 (by omega)); have c_13e : tCd h27 p1 = tCd h20 p1 := (tCd_f (zwr_r e28 (by omega)) (fun i => (zwr_r e28 (by omega)))).trans rfl; have c_14l : h36.2 p1 7 = h27.2 p1 7 := (zwr_r e37 (by omega)); have c_14e : tCd h36 p1 = tCd h20 p1 := (tCd_f (zwr_r e37 (by omega)) (fun i => (zwr_r e37 (by omega)))).trans c_13e; have e_15 := u44 T P r_8j a_12; have g_16 : tCd h41 p1 = tCd h36 p1 := tCd_f (zfC_a f45 (fun z9 => by unfold w_X6_takes at z9; omega)) (fun i => (zfC_a f45 (fun z9 => by unfold w_X6_takes at z9; omega))); have g_16l : h41.2 p1 7 = h36.2 p1 7 := (zfC_a f45 (fun z9 => by unfold w_X6_takes at z9; omega)); have k1 : h41.2 (p1 + 1) p2 = (zwp ((h.2 103 6) - 200)) := (((((((zfC_a f45 (fun z9 => by unfold w_X6_takes at z9; omega)).trans (zwr_r e37 (by omega))).trans (zwr_r e28 (by omega))).trans (zfC_a f24 (fun z9 => by unfold w_X7_readSum at z9; omega))).trans (zwr_r e16 (by omega))).trans (zfC_a f13 (fun z9 => by unfold w_X6_pass at z9; omega)))).trans (zwr_v e5); have k2 : h41.2 (p1 + 2) p2 = (h.2 p1 7) := (((((zfC_a f45 (fun z9 => by unfold w_X6_takes at z9; omega)).trans (zwr_r e37 (by omega))).trans (zwr_r e28 (by omega))).trans (zfC_a f24 (fun z9 => by unfold w_X7_readSum at z9; omega)))).trans (zwr_v e16); have k3 : h41.2 (p1 + 3) p2 = (h20.2 p1 7) := (((zfC_a f45 (fun z9 => by unfold w_X6_takes at z9; omega)).trans (zwr_r e37 (by omega)))).trans (zwr_v e28); have k4 : h41.2 (p1 + 4) p2 = (h20.2 p1 7) := ((zfC_a f45 (fun z9 => by unfold w_X6_takes at z9; omega))).trans (zwr_v e37); have kz9 : (zwp ((h.2 103 6) - 200)) = T j - 200 := (by rw [k0]; exact zwp_id (by omega)); have n2 : ((tCd h p1).length : Int) = h.2 p1 7 := tCd_l z7; have n3 : ((tCd h20 p1).length : Int) = h20.2 p1 7 := tCd_l (fb_3_0_7 s22 r_p1).1; have n4 : ((tCd h36 p1).length : Int) = h36.2 p1 7 := tCd_l (fb_3_0_7 s38 r_p1).1; exact ⟨fun z => ⟨(r_8j + 1), (e_15.1 z).2 (by omega), by omega, by omega, fun p9 s9 d9 => by have q9 : tRe T p9 (2, j, p2, s9, tCd h p1, d9) _ := tRe_s (tRe_k (tRe_s (tRe_t (tRe_k (tRe_1 (tM2_l yh9 (by omega))) c_7e.symm) (r_8r p9 [100, p2 + 1000] _)) (tM5_v (by omega))) c_14e.symm) (tM10_y (e_15.1 z).1); rw [show p2 + 1000 - 1000 + 1 = p2 + 1 by omega] at q9; exact tRe_q (tRe_k q9 g_16.symm) (by rw [k1, k2, k3, k4]; simp only [List.cons.injEq]; refine ⟨?_, ?_, ?_, ?_, ?_⟩ <;> first | trivial | rfl | omega)⟩, fun z => ⟨r_8j, _, (e_15.2 z).2, fun p9 s9 d9 => tRe_s (tRe_k (tRe_s (tRe_t (tRe_k (tRe_1 (tM2_l yh9 (by omega))) c_7e.symm) (r_8r p9 [100, p2 + 1000] _)) (tM5_v (by omega))) c_14e.symm) (tM10_n (e_15.2 z).1)⟩⟩), (fun k9 i9 a9 b9 c9 => (((((((zfC_a f45 (fun z9 => by unfold w_X6_takes at z9; omega)).trans (zwr_r e37 (by omega))).trans (zwr_r e28 (by omega))).trans (zfC_a f24 (fun z9 => by unfold w_X7_readSum at z9; omega))).trans (zwr_r e16 (by omega))).trans (zfC_a f13 (fun z9 => by unfold w_X6_pass at z9; omega))).trans (zwr_r e5 (by omega))))⟩
      · exact absurd c35 (by omega)
    · refine zj_if_eq (t := 84) (zdk ttX7_readLawLine 35 rfl rfl) (by decide) (by decide) (fun c57 => ?_) (fun c57 => ?_)
      · exact absurd c57 (by omega)
      · refine zj_aload_n (zdk ttX7_readLawLine 36 rfl rfl) rfl (by decide) ?_
        refine zj_getr (r := 103) (zdk ttX7_readLawLine 37 rfl rfl) zf_RX7_9 rfl (k_L107 s29) (rf_L107_0 s29) ?_
        refine zj_callV (av := []) (st := []) (zdk ttX7_readLawLine 38 rfl rfl) mb_X6_pass mv_RX7_47 (ci := 6) rfl rfl (k_L103 s29) rfl rfl (Nat.le_of_ble_eq_true rfl) (s2_X6_pass l h27 s29) (rm_ok (by decide) (by decide)) (zq_v fun h60 q58 => ?_)
        obtain ⟨s62, f64, u63⟩ := q58
        refine zj_aload_n (zdk ttX7_readLawLine 39 rfl rfl) rfl (by decide) ?_
        refine zj_aload_n (zdk ttX7_readLawLine 40 rfl rfl) rfl (by omega) ?_
        refine zj_iconst (zdk ttX7_readLawLine 41 rfl rfl) ?_
        refine zj_callV (av := [.inr p1, .inl 0]) (st := []) (zdk ttX7_readLawLine 42 rfl rfl) mb_X7_readChoice mv_RX7_64 (ci := 7) rfl rfl (k_L107 s62) rfl rfl (Nat.le_of_ble_eq_true rfl) ((s2_X7_readSingle_and_X7_readChoice l 10).2 h60 p1 0 s62 r_p1 (by omega) (by omega)) (rm_ok (by decide) (by decide)) (zq_i fun v66 h67 q65 => ?_)
        obtain ⟨b68, s69, f71, u70⟩ := q65
        refine zj_if_ne (t := 84) (zdk ttX7_readLawLine 43 rfl rfl) (by decide) (by omega) (fun c72 => ?_) (fun c72 => ?_)
        · refine zj_aload_n (zdk ttX7_readLawLine 46 rfl rfl) rfl (by omega) ?_
          refine zj_getr (r := (p1 + 4)) (zdk ttX7_readLawLine 47 rfl rfl) zf_RX7_67 rfl (k_3_0 s69 r_p1) (rf_3_0_3 s69 r_p1) ?_
          refine zj_iload_n (zdk ttX7_readLawLine 48 rfl rfl) rfl ?_
          refine zj_aload_n (zdk ttX7_readLawLine 49 rfl rfl) rfl (by omega) ?_
          have b73 : 0 ≤ (h67.2 p1 7) ∧ (h67.2 p1 7) ≤ 400 := fb_3_0_7 s69 r_p1
          refine zj_geti (v := (h67.2 p1 7)) (zdk ttX7_readLawLine 50 rfl rfl) zf_RX7_29 rfl (k_3_0 s69 r_p1) rfl ?_
          refine zj_iast (zdk ttX7_readLawLine 51 rfl rfl) (ka_3_0_3 s69 r_p1) (by decide) (by omega) (fun h74 e75 => ?_)
          refine zj_aload_n (zdk ttX7_readLawLine 52 rfl rfl) rfl (by decide) ?_
          have s76 : okC h74 := aw_3_0_3 s69 r_p1 e75 (by omega)
          refine zj_getr (r := 103) (zdk ttX7_readLawLine 53 rfl rfl) zf_RX7_9 rfl (k_L107 s76) (rf_L107_0 s76) ?_
          refine zj_bipush (zdk ttX7_readLawLine 54 rfl rfl) (by decide) ?_
          refine zj_callV (av := [.inl 59]) (st := []) (zdk ttX7_readLawLine 55 rfl rfl) mb_X6_takes mv_RX7_70 (ci := 6) rfl rfl (k_L103 s76) rfl rfl (Nat.le_of_ble_eq_true rfl) (s2_X6_takes l h74 59 s76 (by omega)) (rm_ok (by decide) (by decide)) (zq_i fun v78 h79 q77 => ?_)
          obtain ⟨b80, s81, f83, u82⟩ := q77
          have f92 : zfC (w_X7_readLawLine p1) h h4 := zfC_w (zfC_r _ _) e5 (Or.inr (Or.inr (by omega)))
          have f91 : zfC (w_X7_readLawLine p1) h h9 := zfC_t f92 f13 (fun a9 b9 z9 => by
            exact (Or.inl (by omega)))
          have f90 : zfC (w_X7_readLawLine p1) h h15 := zfC_w f91 e16 (Or.inr (Or.inr (by omega)))
          have f89 : zfC (w_X7_readLawLine p1) h h20 := zfC_t f90 f24 (fun a9 b9 z9 => by
            rcases z9 with z9 | z9 | z9
            · exact (Or.inl z9)
            · exact (Or.inr (Or.inl (by omega)))
            · exact (Or.inr (Or.inr (by omega))))
          have f88 : zfC (w_X7_readLawLine p1) h h27 := zfC_w f89 e28 (Or.inr (Or.inr (by omega)))
          have f87 : zfC (w_X7_readLawLine p1) h h60 := zfC_t f88 f64 (fun a9 b9 z9 => by
            exact (Or.inl (by omega)))
          have f86 : zfC (w_X7_readLawLine p1) h h67 := zfC_t f87 f71 (fun a9 b9 z9 => by
            rcases z9 with z9 | z9 | z9
            · exact (Or.inl z9)
            · exact (Or.inr (Or.inl (by omega)))
            · exact (Or.inr (Or.inr (by omega))))
          have f85 : zfC (w_X7_readLawLine p1) h h74 := zfC_w f86 e75 (Or.inr (Or.inr (by omega)))
          have f84 : zfC (w_X7_readLawLine p1) h h79 := zfC_t f85 f83 (fun a9 b9 z9 => by
            exact (Or.inl z9))
          have b93 : h4.2 103 6 = (h.2 103 6) := (zwr_r e5 (by omega))
          have b94 : h15.2 103 6 = (h9.2 103 6) := (zwr_r e16 (by omega))
          have b95 : h27.2 103 6 = (h20.2 103 6) := (zwr_r e28 (by omega))
          have b96 : h74.2 103 6 = (h67.2 103 6) := (zwr_r e75 (by omega))
          exact zj_zret rfl (zdk ttX7_readLawLine 56 rfl rfl) (Nat.le_refl _) (Nat.le_refl _) (by omega) ⟨v78, rfl, by omega, s81, f84, (by intro T P j t0 y0 yh9; have k0 := t0.2.2.1.2; have l0 := t0.2.2.2.1; have n0 := t0.2.2.2.1; have a_1 : tPo T P j h4 := tPo_f t0 (fun i => (zwr_r e5 (by omega))) (fun i => (zwr_r e5 (by omega))) (zwr_r e5 (by omega)) (zwr_r e5 (by omega)) (zwr_r e5 (by omega)) (zwr_r e5 (by omega)) (zwr_r e5 (by omega)); have k_2 := a_1.2.2.1.2; have k_2l := a_1.2.2.2.1; have a_3 : tPo T P (j + 1) h9 := u12 T P j a_1 (by omega); have a_3q := a_3.2.2.2.1; have a_4 : tPo T P (j + 1) h15 := tPo_f a_3 (fun i => (zwr_r e16 (by omega))) (fun i => (zwr_r e16 (by omega))) (zwr_r e16 (by omega)) (zwr_r e16 (by omega)) (zwr_r e16 (by omega)) (zwr_r e16 (by omega)) (zwr_r e16 (by omega)); have c_5l : h4.2 p1 7 = h.2 p1 7 := (zwr_r e5 (by omega)); have c_5e : tCd h4 p1 = tCd h p1 := (tCd_f (zwr_r e5 (by omega)) (fun i => (zwr_r e5 (by omega)))).trans rfl; have c_6l : h9.2 p1 7 = h4.2 p1 7 := (zfC_a f13 (fun z9 => by unfold w_X6_pass at z9; omega)); have c_6e : tCd h9 p1 = tCd h p1 := (tCd_f (zfC_a f13 (fun z9 => by unfold w_X6_pass at z9; omega)) (fun i => (zfC_a f13 (fun z9 => by unfold w_X6_pass at z9; omega)))).trans c_5e; have c_7l : h15.2 p1 7 = h9.2 p1 7 := (zwr_r e16 (by omega)); have c_7e : tCd h15 p1 = tCd h p1 := (tCd_f (zwr_r e16 (by omega)) (fun i => (zwr_r e16 (by omega)))).trans c_6e; have z7 : 0 ≤ h.2 p1 7 := (fb_3_0_7 s0 r_p1).1; obtain ⟨r_8j, r_8a, r_8l, r_8n, r_8r⟩ := (u23 T P (j + 1) a_4 (by omega)).1 (by omega); have r_8q := r_8a.2.2.2.1; have k_9 := r_8a.2.2.1.2; have k_9l := r_8a.2.2.2.1; have c_10l := r_8n; have a_11 : tPo T P r_8j h27 := tPo_f r_8a (fun i => (zwr_r e28 (by omega))) (fun i => (zwr_r e28 (by omega))) (zwr_r e28 (by omega)) (zwr_r e28 (by omega)) (zwr_r e28 (by omega)) (zwr_r e28 (by omega)) (zwr_r e28 (by omega)); have k_12 := a_11.2.2.1.2; have k_12l := a_11.2.2.2.1; have a_13 : tPo T P (r_8j + 1) h60 := u63 T P r_8j a_11 (by omega); have a_13q := a_13.2.2.2.1; have c_14l : h27.2 p1 7 = h20.2 p1 7 := (zwr_r e28 (by omega)); have c_14e : tCd h27 p1 = tCd h20 p1 := (tCd_f (zwr_r e28 (by omega)) (fun i => (zwr_r e28 (by omega)))).trans rfl; have c_15l : h60.2 p1 7 = h27.2 p1 7 := (zfC_a f64 (fun z9 => by unfold w_X6_pass at z9; omega)); have c_15e : tCd h60 p1 = tCd h20 p1 := (tCd_f (zfC_a f64 (fun z9 => by unfold w_X6_pass at z9; omega)) (fun i => (zfC_a f64 (fun z9 => by unfold w_X6_pass at z9; omega)))).trans c_14e; obtain ⟨r_16j, r_16a, r_16l, r_16n, r_16r⟩ := (u70 T P (r_8j + 1) a_13 (by omega)).1 (by omega); have r_16q := r_16a.2.2.2.1; have a_17 : tPo T P r_16j h74 := tPo_f r_16a (fun i => (zwr_r e75 (by omega))) (fun i => (zwr_r e75 (by omega))) (zwr_r e75 (by omega)) (zwr_r e75 (by omega)) (zwr_r e75 (by omega)) (zwr_r e75 (by omega)) (zwr_r e75 (by omega)); have c_18l := r_16n; have c_19l : h74.2 p1 7 = h67.2 p1 7 := (zwr_r e75 (by omega)); have c_19e : tCd h74 p1 = tCd h67 p1 := (tCd_f (zwr_r e75 (by omega)) (fun i => (zwr_r e75 (by omega)))).trans rfl; have e_20 := u82 T P r_16j a_17; have g_21 : tCd h79 p1 = tCd h74 p1 := tCd_f (zfC_a f83 (fun z9 => by unfold w_X6_takes at z9; omega)) (fun i => (zfC_a f83 (fun z9 => by unfold w_X6_takes at z9; omega))); have g_21l : h79.2 p1 7 = h74.2 p1 7 := (zfC_a f83 (fun z9 => by unfold w_X6_takes at z9; omega)); have k1 : h79.2 (p1 + 1) p2 = (zwp ((h.2 103 6) - 200)) := (((((((((zfC_a f83 (fun z9 => by unfold w_X6_takes at z9; omega)).trans (zwr_r e75 (by omega))).trans (zfC_a f71 (fun z9 => by unfold w_X7_readChoice at z9; omega))).trans (zfC_a f64 (fun z9 => by unfold w_X6_pass at z9; omega))).trans (zwr_r e28 (by omega))).trans (zfC_a f24 (fun z9 => by unfold w_X7_readSum at z9; omega))).trans (zwr_r e16 (by omega))).trans (zfC_a f13 (fun z9 => by unfold w_X6_pass at z9; omega)))).trans (zwr_v e5); have k2 : h79.2 (p1 + 2) p2 = (h.2 p1 7) := (((((((zfC_a f83 (fun z9 => by unfold w_X6_takes at z9; omega)).trans (zwr_r e75 (by omega))).trans (zfC_a f71 (fun z9 => by unfold w_X7_readChoice at z9; omega))).trans (zfC_a f64 (fun z9 => by unfold w_X6_pass at z9; omega))).trans (zwr_r e28 (by omega))).trans (zfC_a f24 (fun z9 => by unfold w_X7_readSum at z9; omega)))).trans (zwr_v e16); have k3 : h79.2 (p1 + 3) p2 = (h20.2 p1 7) := (((((zfC_a f83 (fun z9 => by unfold w_X6_takes at z9; omega)).trans (zwr_r e75 (by omega))).trans (zfC_a f71 (fun z9 => by unfold w_X7_readChoice at z9; omega))).trans (zfC_a f64 (fun z9 => by unfold w_X6_pass at z9; omega)))).trans (zwr_v e28); have k4 : h79.2 (p1 + 4) p2 = (h67.2 p1 7) := ((zfC_a f83 (fun z9 => by unfold w_X6_takes at z9; omega))).trans (zwr_v e75); have kz9 : (zwp ((h.2 103 6) - 200)) = T j - 200 := (by rw [k0]; exact zwp_id (by omega)); have n2 : ((tCd h p1).length : Int) = h.2 p1 7 := tCd_l z7; have n3 : ((tCd h20 p1).length : Int) = h20.2 p1 7 := tCd_l (fb_3_0_7 s22 r_p1).1; have n4 : ((tCd h74 p1).length : Int) = h74.2 p1 7 := tCd_l (fb_3_0_7 s76 r_p1).1; exact ⟨fun z => ⟨(r_16j + 1), (e_20.1 z).2 (by omega), by omega, by omega, fun p9 s9 d9 => by have q9 : tRe T p9 (2, j, p2, s9, tCd h p1, d9) _ := tRe_s (tRe_k (tRe_s (tRe_t (tRe_k (tRe_s (tRe_t (tRe_k (tRe_1 (tM2_l yh9 (by omega))) c_7e.symm) (r_8r p9 [100, p2 + 1000] _)) (tM5_w (by omega))) c_15e.symm) (r_16r p9 [90, p2 + 1000] _ (tOpn_90 (by omega)) (Or.inl rfl))) tM12_z) c_19e.symm) (tM10_y (e_20.1 z).1); rw [show p2 + 1000 - 1000 + 1 = p2 + 1 by omega] at q9; exact tRe_q (tRe_k q9 g_21.symm) (by rw [k1, k2, k3, k4]; simp only [List.cons.injEq]; refine ⟨?_, ?_, ?_, ?_, ?_⟩ <;> first | trivial | rfl | omega)⟩, fun z => ⟨r_16j, _, (e_20.2 z).2, fun p9 s9 d9 => tRe_s (tRe_k (tRe_s (tRe_t (tRe_k (tRe_s (tRe_t (tRe_k (tRe_1 (tM2_l yh9 (by omega))) c_7e.symm) (r_8r p9 [100, p2 + 1000] _)) (tM5_w (by omega))) c_15e.symm) (r_16r p9 [90, p2 + 1000] _ (tOpn_90 (by omega)) (Or.inl rfl))) tM12_z) c_19e.symm) (tM10_n (e_20.2 z).1)⟩⟩), (fun k9 i9 a9 b9 c9 => (((((((((zfC_a f83 (fun z9 => by unfold w_X6_takes at z9; omega)).trans (zwr_r e75 (by omega))).trans (zfC_a f71 (fun z9 => by unfold w_X7_readChoice at z9; omega))).trans (zfC_a f64 (fun z9 => by unfold w_X6_pass at z9; omega))).trans (zwr_r e28 (by omega))).trans (zfC_a f24 (fun z9 => by unfold w_X7_readSum at z9; omega))).trans (zwr_r e16 (by omega))).trans (zfC_a f13 (fun z9 => by unfold w_X6_pass at z9; omega))).trans (zwr_r e5 (by omega))))⟩
        · refine zj_iconst (zdk ttX7_readLawLine 44 rfl rfl) ?_
          have f103 : zfC (w_X7_readLawLine p1) h h4 := zfC_w (zfC_r _ _) e5 (Or.inr (Or.inr (by omega)))
          have f102 : zfC (w_X7_readLawLine p1) h h9 := zfC_t f103 f13 (fun a9 b9 z9 => by
            exact (Or.inl (by omega)))
          have f101 : zfC (w_X7_readLawLine p1) h h15 := zfC_w f102 e16 (Or.inr (Or.inr (by omega)))
          have f100 : zfC (w_X7_readLawLine p1) h h20 := zfC_t f101 f24 (fun a9 b9 z9 => by
            rcases z9 with z9 | z9 | z9
            · exact (Or.inl z9)
            · exact (Or.inr (Or.inl (by omega)))
            · exact (Or.inr (Or.inr (by omega))))
          have f99 : zfC (w_X7_readLawLine p1) h h27 := zfC_w f100 e28 (Or.inr (Or.inr (by omega)))
          have f98 : zfC (w_X7_readLawLine p1) h h60 := zfC_t f99 f64 (fun a9 b9 z9 => by
            exact (Or.inl (by omega)))
          have f97 : zfC (w_X7_readLawLine p1) h h67 := zfC_t f98 f71 (fun a9 b9 z9 => by
            rcases z9 with z9 | z9 | z9
            · exact (Or.inl z9)
            · exact (Or.inr (Or.inl (by omega)))
            · exact (Or.inr (Or.inr (by omega))))
          have b104 : h4.2 103 6 = (h.2 103 6) := (zwr_r e5 (by omega))
          have b105 : h15.2 103 6 = (h9.2 103 6) := (zwr_r e16 (by omega))
          have b106 : h27.2 103 6 = (h20.2 103 6) := (zwr_r e28 (by omega))
          exact zj_zret rfl (zdk ttX7_readLawLine 45 rfl rfl) (Nat.le_refl _) (Nat.le_refl _) (by omega) ⟨0, rfl, by omega, s69, f97, (by intro T P j t0 y0 yh9; have k0 := t0.2.2.1.2; have l0 := t0.2.2.2.1; have n0 := t0.2.2.2.1; have a_1 : tPo T P j h4 := tPo_f t0 (fun i => (zwr_r e5 (by omega))) (fun i => (zwr_r e5 (by omega))) (zwr_r e5 (by omega)) (zwr_r e5 (by omega)) (zwr_r e5 (by omega)) (zwr_r e5 (by omega)) (zwr_r e5 (by omega)); have k_2 := a_1.2.2.1.2; have k_2l := a_1.2.2.2.1; have a_3 : tPo T P (j + 1) h9 := u12 T P j a_1 (by omega); have a_3q := a_3.2.2.2.1; have a_4 : tPo T P (j + 1) h15 := tPo_f a_3 (fun i => (zwr_r e16 (by omega))) (fun i => (zwr_r e16 (by omega))) (zwr_r e16 (by omega)) (zwr_r e16 (by omega)) (zwr_r e16 (by omega)) (zwr_r e16 (by omega)) (zwr_r e16 (by omega)); have c_5l : h4.2 p1 7 = h.2 p1 7 := (zwr_r e5 (by omega)); have c_5e : tCd h4 p1 = tCd h p1 := (tCd_f (zwr_r e5 (by omega)) (fun i => (zwr_r e5 (by omega)))).trans rfl; have c_6l : h9.2 p1 7 = h4.2 p1 7 := (zfC_a f13 (fun z9 => by unfold w_X6_pass at z9; omega)); have c_6e : tCd h9 p1 = tCd h p1 := (tCd_f (zfC_a f13 (fun z9 => by unfold w_X6_pass at z9; omega)) (fun i => (zfC_a f13 (fun z9 => by unfold w_X6_pass at z9; omega)))).trans c_5e; have c_7l : h15.2 p1 7 = h9.2 p1 7 := (zwr_r e16 (by omega)); have c_7e : tCd h15 p1 = tCd h p1 := (tCd_f (zwr_r e16 (by omega)) (fun i => (zwr_r e16 (by omega)))).trans c_6e; have z7 : 0 ≤ h.2 p1 7 := (fb_3_0_7 s0 r_p1).1; obtain ⟨r_8j, r_8a, r_8l, r_8n, r_8r⟩ := (u23 T P (j + 1) a_4 (by omega)).1 (by omega); have r_8q := r_8a.2.2.2.1; have k_9 := r_8a.2.2.1.2; have k_9l := r_8a.2.2.2.1; have c_10l := r_8n; have a_11 : tPo T P r_8j h27 := tPo_f r_8a (fun i => (zwr_r e28 (by omega))) (fun i => (zwr_r e28 (by omega))) (zwr_r e28 (by omega)) (zwr_r e28 (by omega)) (zwr_r e28 (by omega)) (zwr_r e28 (by omega)) (zwr_r e28 (by omega)); have k_12 := a_11.2.2.1.2; have k_12l := a_11.2.2.2.1; have a_13 : tPo T P (r_8j + 1) h60 := u63 T P r_8j a_11 (by omega); have a_13q := a_13.2.2.2.1; have c_14l : h27.2 p1 7 = h20.2 p1 7 := (zwr_r e28 (by omega)); have c_14e : tCd h27 p1 = tCd h20 p1 := (tCd_f (zwr_r e28 (by omega)) (fun i => (zwr_r e28 (by omega)))).trans rfl; have c_15l : h60.2 p1 7 = h27.2 p1 7 := (zfC_a f64 (fun z9 => by unfold w_X6_pass at z9; omega)); have c_15e : tCd h60 p1 = tCd h20 p1 := (tCd_f (zfC_a f64 (fun z9 => by unfold w_X6_pass at z9; omega)) (fun i => (zfC_a f64 (fun z9 => by unfold w_X6_pass at z9; omega)))).trans c_14e; obtain ⟨e_16i, e_16f, e_16q, e_16r⟩ := (u70 T P (r_8j + 1) a_13 (by omega)).2 (by omega); exact ⟨fun z => absurd z (by omega), fun _ => ⟨e_16i, e_16f, e_16q, fun p9 s9 d9 => tRe_t (tRe_k (tRe_s (tRe_t (tRe_k (tRe_1 (tM2_l yh9 (by omega))) c_7e.symm) (r_8r p9 [100, p2 + 1000] _)) (tM5_w (by omega))) c_15e.symm) (e_16r p9 [90, p2 + 1000] _ (tOpn_90 (by omega)) (Or.inl rfl))⟩⟩), (fun k9 i9 a9 b9 c9 => (((((((zfC_a f71 (fun z9 => by unfold w_X7_readChoice at z9; omega)).trans (zfC_a f64 (fun z9 => by unfold w_X6_pass at z9; omega))).trans (zwr_r e28 (by omega))).trans (zfC_a f24 (fun z9 => by unfold w_X7_readSum at z9; omega))).trans (zwr_r e16 (by omega))).trans (zfC_a f13 (fun z9 => by unfold w_X6_pass at z9; omega))).trans (zwr_r e5 (by omega))))⟩
  · refine zj_iconst (zdk ttX7_readLawLine 22 rfl rfl) ?_
    have f110 : zfC (w_X7_readLawLine p1) h h4 := zfC_w (zfC_r _ _) e5 (Or.inr (Or.inr (by omega)))
    have f109 : zfC (w_X7_readLawLine p1) h h9 := zfC_t f110 f13 (fun a9 b9 z9 => by
      exact (Or.inl (by omega)))
    have f108 : zfC (w_X7_readLawLine p1) h h15 := zfC_w f109 e16 (Or.inr (Or.inr (by omega)))
    have f107 : zfC (w_X7_readLawLine p1) h h20 := zfC_t f108 f24 (fun a9 b9 z9 => by
      rcases z9 with z9 | z9 | z9
      · exact (Or.inl z9)
      · exact (Or.inr (Or.inl (by omega)))
      · exact (Or.inr (Or.inr (by omega))))
    have b111 : h4.2 103 6 = (h.2 103 6) := (zwr_r e5 (by omega))
    have b112 : h15.2 103 6 = (h9.2 103 6) := (zwr_r e16 (by omega))
    exact zj_zret rfl (zdk ttX7_readLawLine 23 rfl rfl) (Nat.le_refl _) (Nat.le_refl _) (by omega) ⟨0, rfl, by omega, s22, f107, (by intro T P j t0 y0 yh9; have k0 := t0.2.2.1.2; have l0 := t0.2.2.2.1; have n0 := t0.2.2.2.1; have a_1 : tPo T P j h4 := tPo_f t0 (fun i => (zwr_r e5 (by omega))) (fun i => (zwr_r e5 (by omega))) (zwr_r e5 (by omega)) (zwr_r e5 (by omega)) (zwr_r e5 (by omega)) (zwr_r e5 (by omega)) (zwr_r e5 (by omega)); have k_2 := a_1.2.2.1.2; have k_2l := a_1.2.2.2.1; have a_3 : tPo T P (j + 1) h9 := u12 T P j a_1 (by omega); have a_3q := a_3.2.2.2.1; have a_4 : tPo T P (j + 1) h15 := tPo_f a_3 (fun i => (zwr_r e16 (by omega))) (fun i => (zwr_r e16 (by omega))) (zwr_r e16 (by omega)) (zwr_r e16 (by omega)) (zwr_r e16 (by omega)) (zwr_r e16 (by omega)) (zwr_r e16 (by omega)); have c_5l : h4.2 p1 7 = h.2 p1 7 := (zwr_r e5 (by omega)); have c_5e : tCd h4 p1 = tCd h p1 := (tCd_f (zwr_r e5 (by omega)) (fun i => (zwr_r e5 (by omega)))).trans rfl; have c_6l : h9.2 p1 7 = h4.2 p1 7 := (zfC_a f13 (fun z9 => by unfold w_X6_pass at z9; omega)); have c_6e : tCd h9 p1 = tCd h p1 := (tCd_f (zfC_a f13 (fun z9 => by unfold w_X6_pass at z9; omega)) (fun i => (zfC_a f13 (fun z9 => by unfold w_X6_pass at z9; omega)))).trans c_5e; have c_7l : h15.2 p1 7 = h9.2 p1 7 := (zwr_r e16 (by omega)); have c_7e : tCd h15 p1 = tCd h p1 := (tCd_f (zwr_r e16 (by omega)) (fun i => (zwr_r e16 (by omega)))).trans c_6e; have z7 : 0 ≤ h.2 p1 7 := (fb_3_0_7 s0 r_p1).1; obtain ⟨e_8i, e_8f, e_8q, e_8r⟩ := (u23 T P (j + 1) a_4 (by omega)).2 (by omega); exact ⟨fun z => absurd z (by omega), fun _ => ⟨e_8i, e_8f, e_8q, fun p9 s9 d9 => tRe_t (tRe_k (tRe_1 (tM2_l yh9 (by omega))) c_7e.symm) (e_8r p9 [100, p2 + 1000] _)⟩⟩), (fun k9 i9 a9 b9 c9 => ((((zfC_a f24 (fun z9 => by unfold w_X7_readSum at z9; omega)).trans (zwr_r e16 (by omega))).trans (zfC_a f13 (fun z9 => by unfold w_X6_pass at z9; omega))).trans (zwr_r e5 (by omega))))⟩

abbrev q2_X7_readLaw (h : zM) (p1 : Int) : Option zV → zM → Prop := zqi fun v h' => (0 ≤ v ∧ v ≤ 1) ∧ okC h' ∧ zfC (w_X7_readLaw p1) h h' ∧ (h.2 103 7 = 0 → h.2 103 8 = -1 → ∃ T P c9, tCk 0 (h.2 104) (h.2 103 3) T P c9 ∧ (∀ j9, T j9 ≤ 10999) ∧ (v = 1 → (h'.2 103 7 = 0 ∧ h'.2 103 8 = -1) ∧ (0 ≤ h'.2 p1 6 ∧ h'.2 p1 6 ≤ 16) ∧ ∃ j9, tRe T 0 (2, 0, 0, [], [], []) (1, j9, h'.2 p1 6, [], tCd h' p1, tD4 h' p1 (h'.2 p1 6).toNat)) ∧ (v = 0 → ∃ i9 f9, (h'.2 103 7 = f9 ∧ h'.2 103 8 = P i9) ∧ tRe T 0 (2, 0, 0, [], [], []) (tEr i9 f9)))
set_option maxRecDepth 100000 in
set_option maxHeartbeats 4000000 in
theorem s2_X7_readLaw (l : Launch) (h : zM) (p1 : Int) (s0 : okC h) (r_p1 : zLw p1) : zT shC l yX7_readLaw cX7_readLaw 3 (some .boolean) (rmL 32) 0 0 [.inr 107, .inr p1] h (q2_X7_readLaw h p1) := by
  refine zT_of (by decide +kernel) (L0 := [some (.inr 107), some (.inr p1), none]) rfl (Nat.le_of_ble_eq_true rfl) ?_
  have b1 := zLw_b r_p1
  refine zj_aload_n (zdk ttX7_readLaw 0 rfl rfl) rfl (by decide) ?_
  refine zj_getr (r := 103) (zdk ttX7_readLaw 1 rfl rfl) zf_RX7_9 rfl (k_L107 s0) (rf_L107_0 s0) ?_
  refine zj_ldcS (i := 0) (zdk ttX7_readLaw 2 rfl rfl) (List.mem_of_getElem? (i := 0) rfl) ?_
  refine zj_callV (av := [.inr (-2 - ((0 : Nat) : Int))]) (st := []) (zdk ttX7_readLaw 3 rfl rfl) mb_X6_cut mv_RX7_19 (ci := 6) rfl rfl (k_L103 s0) rfl rfl (Nat.le_of_ble_eq_true rfl) (s2_X6_cut l h 0 s0 (show 0 < 5 by decide)) (rm_ok (by decide) (by decide)) (zq_v fun h4 q2 => ?_)
  obtain ⟨s6, f10, u7, u8, u9⟩ := q2
  refine zj_aload_n (zdk ttX7_readLaw 4 rfl rfl) rfl (by omega) ?_
  refine zj_iconst (zdk ttX7_readLaw 5 rfl rfl) ?_
  refine zj_puti (zdk ttX7_readLaw 6 rfl rfl) zf_RX7_25 rfl (k_3_0 s6 r_p1) (Or.inl zw_RX7_25) (k2 := 6) rfl (fun h11 e12 => ?_)
  refine zj_aload_n (zdk ttX7_readLaw 7 rfl rfl) rfl (by omega) ?_
  refine zj_iconst (zdk ttX7_readLaw 8 rfl rfl) ?_
  have s13 : okC h11 := fw_3_0_6 s6 r_p1 e12 (by omega)
  refine zj_puti (zdk ttX7_readLaw 9 rfl rfl) zf_RX7_29 rfl (k_3_0 s13 r_p1) (Or.inl zw_RX7_29) (k2 := 7) rfl (fun h14 e15 => ?_)
  refine zj_iconst (zdk ttX7_readLaw 10 rfl rfl) ?_
  refine zj_istore_n (L' := [some (.inr 107), some (.inr p1), some (.inl 0)]) (zdk ttX7_readLaw 11 rfl rfl) (by decide) rfl ?_
  have lp43 : ∀ (n : Nat) (x16 : Int) (h17 : zM), (0 ≤ x16 ∧ x16 ≤ 16) → okC h17 → zfC (w_X7_readLaw p1) h h17 → (h.2 103 7 = 0 → h.2 103 8 = -1 → ∃ j9, tPo (tZt h4) (h4.2 106) j9 h17 ∧ h17.2 p1 7 ≤ j9 ∧ tRe (tZt h4) 0 (2, 0, 0, [], [], []) (2, j9, x16, [], tCd h17 p1, tD4 h17 p1 x16.toNat)) → (h17.2 p1 6 = x16) → (17 - x16).toNat < n → zJ shC l yX7_readLaw cX7_readLaw 3 (some .boolean) (rmL 32) 0 0 (q2_X7_readLaw h p1) 0 0 21 [some (.inr 107), some (.inr p1), some (.inl x16)] [] h17 := by
    intro n
    induction n with
    | zero => intro x16 h17 b44 s18 f19 u45 u46 m47; exact absurd m47 (Nat.not_lt_zero _)
    | succ n ih48 =>
      intro x16 h17 b44 s18 f19 u45 u46 m47
      refine zj_iload_n (zdk ttX7_readLaw 12 rfl rfl) rfl ?_
      refine zj_bipush (zdk ttX7_readLaw 13 rfl rfl) (by decide) ?_
      refine zj_icmp_gt (t := 74) (zdk ttX7_readLaw 14 rfl rfl) (by decide) (by omega) (by decide) (fun c49 => ?_) (fun c49 => ?_)
      · exact absurd c49 (by omega)
      · refine zj_aload_n (zdk ttX7_readLaw 15 rfl rfl) rfl (by decide) ?_
        refine zj_getr (r := 103) (zdk ttX7_readLaw 16 rfl rfl) zf_RX7_9 rfl (k_L107 s18) (rf_L107_0 s18) ?_
        have b50 : -2147483648 ≤ (h17.2 103 6) ∧ (h17.2 103 6) ≤ 2147483647 := fb_L103_6 s18
        refine zj_geti (v := (h17.2 103 6)) (zdk ttX7_readLaw 17 rfl rfl) zf_RX7_32 rfl (k_L103 s18) rfl ?_
        refine zj_if_eq (t := 74) (zdk ttX7_readLaw 18 rfl rfl) (by decide) (by omega) (fun c51 => ?_) (fun c51 => ?_)
        · refine zj_iconst (zdk ttX7_readLaw 40 rfl rfl) ?_
          exact zj_zret rfl (zdk ttX7_readLaw 41 rfl rfl) (Nat.le_refl _) (Nat.le_refl _) (by omega) ⟨1, rfl, by omega, s18, f19, (by intro y7 y8; obtain ⟨j, t0, l7, r0⟩ := u45 y7 y8; have k0 := t0.2.2.1.2; have l0 := t0.2.2.2.1; exact ⟨(tZt h4), (h4.2 106), _, (tZt_k u9), (tZt_b (by decide) u9), fun _ => ⟨t0.2.2.2.2.2.2, by omega, j, by have z9 := tRe_s r0 (tM2_e (by omega)); rw [show x16 = h17.2 p1 6 by omega] at z9; exact z9⟩, fun z => absurd z (by omega)⟩)⟩
        · refine zj_aload_n (zdk ttX7_readLaw 19 rfl rfl) rfl (by decide) ?_
          refine zj_getr (r := 103) (zdk ttX7_readLaw 20 rfl rfl) zf_RX7_9 rfl (k_L107 s18) (rf_L107_0 s18) ?_
          refine zj_iload_n (zdk ttX7_readLaw 21 rfl rfl) rfl ?_
          refine zj_iconst (zdk ttX7_readLaw 22 rfl rfl) ?_
          refine zj_iconst (zdk ttX7_readLaw 23 rfl rfl) ?_
          refine zj_callV (av := [.inl x16, .inl 0, .inl 2]) (st := []) (zdk ttX7_readLaw 24 rfl rfl) mb_X6_opensLine mv_RX7_35 (ci := 6) rfl rfl (k_L103 s18) rfl rfl (Nat.le_of_ble_eq_true rfl) (s2_X6_opensLine l h17 x16 0 2 s18 (by omega) (by omega) (by omega)) (rm_ok (by decide) (by decide)) (zq_i fun v53 h54 q52 => ?_)
          obtain ⟨b55, s56, f59, u57, u58⟩ := q52
          refine zj_if_eq (t := 59) (zdk ttX7_readLaw 25 rfl rfl) (by decide) (by omega) (fun c60 => ?_) (fun c60 => ?_)
          · refine zj_iconst (zdk ttX7_readLaw 31 rfl rfl) ?_
            have f61 : zfC (w_X7_readLaw p1) h h54 := zfC_t f19 f59 (fun a9 b9 z9 => by
              exact (Or.inl (by omega)))
            have b62 : h54.2 103 6 = (h17.2 103 6) := (zfC_a f59 (fun z9 => by unfold w_X6_opensLine at z9; omega))
            exact zj_zret rfl (zdk ttX7_readLaw 32 rfl rfl) (Nat.le_refl _) (Nat.le_refl _) (by omega) ⟨0, rfl, by omega, s56, f61, (by intro y7 y8; obtain ⟨j, t0, l7, r0⟩ := u45 y7 y8; have k0 := t0.2.2.1.2; have l0 := t0.2.2.2.1; have e_1 := (u57 (tZt h4) (h4.2 106) j t0).2 (by omega); exact ⟨(tZt h4), (h4.2 106), _, (tZt_k u9), (tZt_b (by decide) u9), fun z => absurd z (by omega), fun _ => by rcases e_1 with ⟨q1, ⟨q2, q3⟩ | ⟨q2, q3, q4⟩⟩; exact ⟨j, _, ⟨q3, q1⟩, tRe_s r0 (tM2_1 (by omega) (by omega))⟩; exact ⟨j, _, ⟨q4, q1⟩, tRe_s r0 (tM2_3 (by omega) (by omega))⟩⟩)⟩
          · refine zj_aload_n (zdk ttX7_readLaw 26 rfl rfl) rfl (by decide) ?_
            refine zj_aload_n (zdk ttX7_readLaw 27 rfl rfl) rfl (by omega) ?_
            refine zj_iload_n (zdk ttX7_readLaw 28 rfl rfl) rfl ?_
            refine zj_callV (av := [.inr p1, .inl x16]) (st := []) (zdk ttX7_readLaw 29 rfl rfl) mb_X7_readLawLine mv_RX7_39 (ci := 7) rfl rfl (k_L107 s56) rfl rfl (Nat.le_of_ble_eq_true rfl) (s2_X7_readLawLine l h54 p1 x16 s56 r_p1 (by omega)) (rm_ok (by decide) (by decide)) (zq_i fun v64 h65 q63 => ?_)
            obtain ⟨b66, s67, f70, u68, u69⟩ := q63
            refine zj_if_ne (t := 61) (zdk ttX7_readLaw 30 rfl rfl) (by decide) (by omega) (fun c71 => ?_) (fun c71 => ?_)
            · refine zj_aload_n (zdk ttX7_readLaw 33 rfl rfl) rfl (by omega) ?_
              refine zj_iload_n (zdk ttX7_readLaw 34 rfl rfl) rfl ?_
              refine zj_iconst (zdk ttX7_readLaw 35 rfl rfl) ?_
              refine zj_iadd (zdk ttX7_readLaw 36 rfl rfl) ?_
              refine zj_puti (zdk ttX7_readLaw 37 rfl rfl) zf_RX7_25 rfl (k_3_0 s67 r_p1) (Or.inl zw_RX7_25) (k2 := 6) rfl (fun h72 e73 => ?_)
              refine zj_iinc (L' := [some (.inr 107), some (.inr p1), some (.inl (x16 + 1))]) (zdk ttX7_readLaw 38 rfl rfl) rfl (by decide) rfl ?_
              refine zj_goto (t := 21) (zdk ttX7_readLaw 39 rfl rfl) (by decide) ?_
              have b74 : h72.2 p1 6 = (x16 + 1) := (zwr_v e73)
              have s75 : okC h72 := fw_3_0_6 s67 r_p1 e73 (by omega)
              have f78 : zfC (w_X7_readLaw p1) h h54 := zfC_t f19 f59 (fun a9 b9 z9 => by
                exact (Or.inl (by omega)))
              have f77 : zfC (w_X7_readLaw p1) h h65 := zfC_t f78 f70 (fun a9 b9 z9 => by
                rcases z9 with z9 | z9 | z9
                · exact (Or.inl (by omega))
                · exact (Or.inr (Or.inr (Or.inl (by omega))))
                · exact (Or.inr (Or.inr (Or.inr (by omega)))))
              have f76 : zfC (w_X7_readLaw p1) h h72 := zfC_w f77 e73 (Or.inr (Or.inr (Or.inl (by omega))))
              have b79 : h54.2 103 6 = (h17.2 103 6) := (zfC_a f59 (fun z9 => by unfold w_X6_opensLine at z9; omega))
              have b80 : h72.2 103 6 = (h65.2 103 6) := (zwr_r e73 (by omega))
              exact ih48  (x16 + 1) h72 (by omega) s75 f76 (by intro y7 y8; obtain ⟨j, t0, l7, r0⟩ := u45 y7 y8; have k0 := t0.2.2.1.2; have l0 := t0.2.2.2.1; have r_1 := (u57 (tZt h4) (h4.2 106) j t0).1 (by omega); have q7 : h54.2 p1 7 = h17.2 p1 7 := (zfC_a f59 (fun z9 => by unfold w_X6_opensLine at z9; omega)); have qc : tCd h54 p1 = tCd h17 p1 := tCd_f (zfC_a f59 (fun z9 => by unfold w_X6_opensLine at z9; omega)) (fun i => (zfC_a f59 (fun z9 => by unfold w_X6_opensLine at z9; omega))); obtain ⟨r_2j, r_2a, r_2l, r_2n, r_2r⟩ := (u68 (tZt h4) (h4.2 106) j r_1.2.2 (by omega) (by have z9 := r_1.1; omega)).1 (by omega); have a_3 : tPo (tZt h4) (h4.2 106) r_2j h72 := tPo_f r_2a (fun i => (zwr_r e73 (by omega))) (fun i => (zwr_r e73 (by omega))) (zwr_r e73 (by omega)) (zwr_r e73 (by omega)) (zwr_r e73 (by omega)) (zwr_r e73 (by omega)) (zwr_r e73 (by omega)); have e7 : h72.2 p1 7 = h65.2 p1 7 := (zwr_r e73 (by omega)); have ec : tCd h72 p1 = tCd h65 p1 := tCd_f (zwr_r e73 (by omega)) (fun i => (zwr_r e73 (by omega))); have ed : tD4 h72 p1 (x16 + 1).toNat = h65.2 (p1 + 4) x16 :: h65.2 (p1 + 3) x16 :: h65.2 (p1 + 2) x16 :: h65.2 (p1 + 1) x16 :: tD4 h17 p1 x16.toNat := (by rw [tD4_x (h := h65) _ (fun k i a9 b9 c9 d9 => (zwr_r e73 (by omega))), tD4_s (by omega), tD4_x (h := h17) (h' := h65) x16.toNat (fun k i a9 b9 c9 d9 => (u69 k i a9 b9 (by omega)).trans ((zfC_a f59 (fun z9 => by unfold w_X6_opensLine at z9; omega))))]); exact ⟨r_2j, a_3, by omega, by rw [ec, ed]; exact tRe_t (tRe_k r0 qc.symm) (r_2r 0 [] _)⟩) (by omega) (by omega)
            · refine zj_iconst (zdk ttX7_readLaw 31 rfl rfl) ?_
              have f82 : zfC (w_X7_readLaw p1) h h54 := zfC_t f19 f59 (fun a9 b9 z9 => by
                exact (Or.inl (by omega)))
              have f81 : zfC (w_X7_readLaw p1) h h65 := zfC_t f82 f70 (fun a9 b9 z9 => by
                rcases z9 with z9 | z9 | z9
                · exact (Or.inl (by omega))
                · exact (Or.inr (Or.inr (Or.inl (by omega))))
                · exact (Or.inr (Or.inr (Or.inr (by omega)))))
              have b83 : h54.2 103 6 = (h17.2 103 6) := (zfC_a f59 (fun z9 => by unfold w_X6_opensLine at z9; omega))
              exact zj_zret rfl (zdk ttX7_readLaw 32 rfl rfl) (Nat.le_refl _) (Nat.le_refl _) (by omega) ⟨0, rfl, by omega, s67, f81, (by intro y7 y8; obtain ⟨j, t0, l7, r0⟩ := u45 y7 y8; have k0 := t0.2.2.1.2; have l0 := t0.2.2.2.1; have r_1 := (u57 (tZt h4) (h4.2 106) j t0).1 (by omega); have q7 : h54.2 p1 7 = h17.2 p1 7 := (zfC_a f59 (fun z9 => by unfold w_X6_opensLine at z9; omega)); have qc : tCd h54 p1 = tCd h17 p1 := tCd_f (zfC_a f59 (fun z9 => by unfold w_X6_opensLine at z9; omega)) (fun i => (zfC_a f59 (fun z9 => by unfold w_X6_opensLine at z9; omega))); obtain ⟨ei, ef, eq9, er⟩ := (u68 (tZt h4) (h4.2 106) j r_1.2.2 (by omega) (by have z9 := r_1.1; omega)).2 (by omega); exact ⟨(tZt h4), (h4.2 106), _, (tZt_k u9), (tZt_b (by decide) u9), fun z => absurd z (by omega), fun _ => ⟨ei, ef, eq9, tRe_t (tRe_k r0 qc.symm) (er 0 [] _)⟩⟩)⟩
  have b84 : h14.2 p1 6 = 0 := ((zwr_r e15 (by omega)).trans (zwr_v e12))
  have s85 : okC h14 := fw_3_0_7 s13 r_p1 e15 (by omega)
  have f88 : zfC (w_X7_readLaw p1) h h4 := zfC_t (zfC_r _ _) f10 (fun a9 b9 z9 => by
    rcases z9 with z9 | z9
    · exact (Or.inl (by omega))
    · exact (Or.inr (Or.inl z9)))
  have f87 : zfC (w_X7_readLaw p1) h h11 := zfC_w f88 e12 (Or.inr (Or.inr (Or.inl (by omega))))
  have f86 : zfC (w_X7_readLaw p1) h h14 := zfC_w f87 e15 (Or.inr (Or.inr (Or.inl (by omega))))
  have b89 : h11.2 103 6 = (h4.2 103 6) := (zwr_r e12 (by omega))
  have b90 : h14.2 103 6 = (h4.2 103 6) := ((zwr_r e15 (by omega)).trans (zwr_r e12 (by omega)))
  have b91 : h14.2 p1 7 = 0 := (zwr_v e15)
  exact lp43 _ 0 h14 (by omega) s85 f86 (by intro y7 y8; have t0 := tZt_po (h := h4) (by have z8 := u9; exact z8) u7 u8 ((zfC_a f10 (fun z9 => by unfold w_X6_cut at z9; omega)).trans y7) ((zfC_a f10 (fun z9 => by unfold w_X6_cut at z9; omega)).trans y8); have k0 := t0.2.2.1.2; have l0 := t0.2.2.2.1; have a_1 : tPo (tZt h4) (h4.2 106) 0 h11 := tPo_f t0 (fun i => (zwr_r e12 (by omega))) (fun i => (zwr_r e12 (by omega))) (zwr_r e12 (by omega)) (zwr_r e12 (by omega)) (zwr_r e12 (by omega)) (zwr_r e12 (by omega)) (zwr_r e12 (by omega)); have a_2 : tPo (tZt h4) (h4.2 106) 0 h14 := tPo_f a_1 (fun i => (zwr_r e15 (by omega))) (fun i => (zwr_r e15 (by omega))) (zwr_r e15 (by omega)) (zwr_r e15 (by omega)) (zwr_r e15 (by omega)) (zwr_r e15 (by omega)) (zwr_r e15 (by omega)); exact ⟨0, a_2, by omega, by rw [tCd_0 (show h14.2 p1 7 = 0 by omega)]; exact tRe_r⟩) (by omega) (Nat.lt_succ_self _)

