abbrev q2_X6_rewind (h : zM) : Option zV → zM → Prop := zqv fun h' => okC h' ∧ zfC w_X6_rewind h h' ∧ (h'.2 103 7 = 0 ∧ h'.2 103 8 = -1)
set_option maxRecDepth 100000 in
set_option maxHeartbeats 4000000 in
theorem s2_X6_rewind (l : Launch) (h : zM) (s0 : okC h) : zT shC l yX6_rewind cX6_rewind 1 none (rmL 1) 0 0 [.inr 103] h (q2_X6_rewind h) := by
  refine zT_of (by decide +kernel) (L0 := [some (.inr 103)]) rfl (Nat.le_of_ble_eq_true rfl) ?_
  refine zj_aload_n (zdk ttX6_rewind 0 rfl rfl) rfl (by decide) ?_
  refine zj_iconst (zdk ttX6_rewind 1 rfl rfl) ?_
  refine zj_puti (zdk ttX6_rewind 2 rfl rfl) zf_RX6_34 rfl (k_L103 s0) (Or.inl zw_RX6_34) (k2 := 7) rfl (fun h1 e2 => ?_)
  refine zj_aload_n (zdk ttX6_rewind 3 rfl rfl) rfl (by decide) ?_
  refine zj_iconst (zdk ttX6_rewind 4 rfl rfl) ?_
  have s3 : okC h1 := fw_L103_7 s0 e2 (by omega)
  refine zj_puti (zdk ttX6_rewind 5 rfl rfl) zf_RX6_37 rfl (k_L103 s3) (Or.inl zw_RX6_37) (k2 := 8) rfl (fun h4 e5 => ?_)
  have s6 : okC h4 := fw_L103_8 s3 e5 (by omega)
  have f8 : zfC w_X6_rewind h h1 := zfC_w (zfC_r _ _) e2 (by omega)
  have f7 : zfC w_X6_rewind h h4 := zfC_w f8 e5 (by omega)
  exact zj_vret rfl (zdk ttX6_rewind 6 rfl rfl) (Nat.le_refl _) (Nat.le_refl _) ⟨rfl, s6, f7, ⟨(zwr_r e5 (by first | decide | exact (absurd ·.1 (by decide)) | exact (absurd ·.2 (by decide)) | omega)).trans (zwr_v e2), zwr_v e5⟩⟩

abbrev q2_X10_text (h : zM) (p1 : Int) : Option zV → zM → Prop := zqi fun v h' => ((-2147483648) ≤ v ∧ v ≤ 2147483647) ∧ okC h' ∧ zfC w_X10_text h h' ∧ (h'.2 103 3 = 0) ∧ (zJP h → zJP h') ∧ (∀ z, xK h z → tXT p1 z (h.2 104) (h.2 103 3) v (h'.2 103 7) (h'.2 103 8) (xK h'))
set_option maxRecDepth 100000 in
set_option maxHeartbeats 4000000 in
theorem s2_X10_text (l : Launch) (h : zM) (p1 : Int) (s0 : okC h) (b_p1 : (-2147483648) ≤ p1 ∧ p1 ≤ 2147483647) : zT shC l yX10_text cX10_text 4 (some .int) (rmL 33) 0 0 [.inr 0, .inl p1] h (q2_X10_text h p1) := by
  refine zT_of (by decide +kernel) (L0 := [some (.inr 0), some (.inl p1), none, none]) rfl (Nat.le_of_ble_eq_true rfl) ?_
  refine zj_aload_n (zdk ttX10_text 0 rfl rfl) rfl (by decide) ?_
  refine zj_getr (r := 1) (zdk ttX10_text 1 rfl rfl) zf_RX10_10 rfl (k_L0 s0) (rf_L0_0 s0) ?_
  refine zj_getr (r := 2) (zdk ttX10_text 2 rfl rfl) zf_RX10_67 rfl (k_9_0 s0 zWd_1) (rf_9_0_0 s0 zWd_1) ?_
  have b1 : 0 ≤ (h.2 2 3) ∧ (h.2 2 3) ≤ 18 := fb_1_0_3 s0 zIs_2
  refine zj_geti (v := (h.2 2 3)) (zdk ttX10_text 3 rfl rfl) zf_RX10_81 rfl (k_1_0 s0 zIs_2) rfl ?_
  refine zj_istore_n (L' := [some (.inr 0), some (.inl p1), some (.inl (h.2 2 3)), none]) (zdk ttX10_text 4 rfl rfl) (by decide) rfl ?_
  refine zj_iconst (zdk ttX10_text 5 rfl rfl) ?_
  refine zj_istore_n (L' := [some (.inr 0), some (.inl p1), some (.inl (h.2 2 3)), some (.inl (-1))]) (zdk ttX10_text 6 rfl rfl) (by decide) rfl ?_
  refine zj_aload_n (zdk ttX10_text 7 rfl rfl) rfl (by decide) ?_
  refine zj_getr (r := 103) (zdk ttX10_text 8 rfl rfl) zf_RX10_25 rfl (k_L0 s0) (rf_L0_3 s0) ?_
  refine zj_callV (av := []) (st := []) (zdk ttX10_text 9 rfl rfl) mb_X6_rewind mv_RX10_143 (ci := 6) rfl rfl (k_L103 s0) rfl rfl (Nat.le_of_ble_eq_true rfl) (s2_X6_rewind l h s0) (rm_ok (by decide) (by decide)) (zq_v fun h4 q2 => ?_)
  obtain ⟨s6, f8, u7⟩ := q2
  refine zj_iload_n (zdk ttX10_text 10 rfl rfl) rfl ?_
  have k10 : (p1 < 0 ∨ 3 < p1) → zJ shC l yX10_text cX10_text 4 (some .int) (rmL 33) 0 0 (q2_X10_text h p1) 0 0 254 [some (.inr 0), some (.inl p1), some (.inl (h.2 2 3)), some (.inl (-1))] [] h4 := by
    intro c9
    refine zj_aload_n (zdk ttX10_text 98 rfl rfl) rfl (by decide) ?_
    refine zj_getr (r := 103) (zdk ttX10_text 99 rfl rfl) zf_RX10_25 rfl (k_L0 s6) (rf_L0_3 s6) ?_
    refine zj_iconst (zdk ttX10_text 100 rfl rfl) ?_
    refine zj_puti (zdk ttX10_text 101 rfl rfl) zf_RX10_137 rfl (k_L103 s6) (Or.inl zw_RX10_137) (k2 := 3) rfl (fun h11 e12 => ?_)
    refine zj_iload_n (zdk ttX10_text 102 rfl rfl) rfl ?_
    have s13 : okC h11 := fw_L103_3 s6 e12 (by omega)
    have f15 : zfC w_X10_text h h4 := zfC_t (zfC_r _ _) f8 (fun a9 b9 z9 => by
      exact (Or.inr (Or.inr (Or.inr (Or.inr (Or.inr (Or.inr (Or.inr (Or.inr (Or.inr (Or.inr (Or.inr (Or.inr (Or.inr (Or.inr (Or.inr (Or.inr (Or.inr (Or.inl (by omega))))))))))))))))))))
    have f14 : zfC w_X10_text h h11 := zfC_w f15 e12 (Or.inr (Or.inr (Or.inr (Or.inr (Or.inr (Or.inr (Or.inr (Or.inr (Or.inr (Or.inr (Or.inr (Or.inr (Or.inr (Or.inr (Or.inr (Or.inr (Or.inr (Or.inl (by omega)))))))))))))))))))
    have b16 : h11.2 103 3 = 0 := (zwr_v e12)
    have b17 : h11.2 103 7 = (h4.2 103 7) := (zwr_r e12 (by first | decide | exact (absurd ·.1 (by decide)) | exact (absurd ·.2 (by decide)) | omega))
    have b18 : h11.2 103 8 = (h4.2 103 8) := (zwr_r e12 (by first | decide | exact (absurd ·.1 (by decide)) | exact (absurd ·.2 (by decide)) | omega))
    exact zj_iret rfl (zdk ttX10_text 103 rfl rfl) (Nat.le_refl _) (Nat.le_refl _) ⟨(-1), rfl, by omega, s13, f14, by omega, (fun j => zJP_g s0 ((zwr_r e12 (by decide)).trans (zfC_a f8 (fun z9 => by unfold w_X6_rewind at z9; first | (revert z9; decide) | omega))) ((zwr_r e12 (by decide)).trans (zfC_a f8 (fun z9 => by unfold w_X6_rewind at z9; first | (revert z9; decide) | omega))) (fun a b z1 z2 => ((zwr_r e12 (by first | decide | exact (absurd ·.1 (by decide)) | exact (absurd ·.2 (by decide)) | omega)).trans (zfC_a f8 (fun z9 => by unfold w_X6_rewind at z9; first | (revert z9; decide) | omega)))) j), (by intro z t0; exact ⟨fun _ => ⟨by omega, by have z9 := u7; omega, by have z9 := u7; omega, (xK_f s0 t0 ((zwr_r e12 (by first | decide | exact (absurd ·.1 (by decide)) | exact (absurd ·.2 (by decide)) | omega)).trans (zfC_a f8 (fun z9 => by unfold w_X6_rewind at z9; first | (revert z9; decide) | omega))) ((zwr_r e12 (by first | decide | exact (absurd ·.1 (by decide)) | exact (absurd ·.2 (by decide)) | omega)).trans (zfC_a f8 (fun z9 => by unfold w_X6_rewind at z9; first | (revert z9; decide) | omega))) (fun a9 b9 y9 => by unfold zD at y9; exact ((zwr_r e12 (by first | decide | exact (absurd ·.1 (by decide)) | exact (absurd ·.2 (by decide)) | omega)).trans (zfC_a f8 (fun z9 => by unfold w_X6_rewind at z9; first | (revert z9; decide) | omega)))) (fun a9 b9 y9 => by unfold zD at y9; exact ((zwr_r e12 (by first | decide | exact (absurd ·.1 (by decide)) | exact (absurd ·.2 (by decide)) | omega)).trans (zfC_a f8 (fun z9 => by unfold w_X6_rewind at z9; first | (revert z9; decide) | omega)))) (fun a9 b9 y9 z9 => ((zwr_r e12 (by first | decide | exact (absurd ·.1 (by decide)) | exact (absurd ·.2 (by decide)) | omega)).trans (zfC_a f8 (fun z9 => by unfold w_X6_rewind at z9; first | (revert z9; decide) | omega)))))⟩, fun q => absurd q (by omega)⟩)⟩
  have k19 : p1 = 0 → zJ shC l yX10_text cX10_text 4 (some .int) (rmL 33) 0 0 (q2_X10_text h p1) 0 0 52 [some (.inr 0), some (.inl p1), some (.inl (h.2 2 3)), some (.inl (-1))] [] h4 := by
    intro c9
    refine zj_aload_n (zdk ttX10_text 12 rfl rfl) rfl (by decide) ?_
    refine zj_getr (r := 107) (zdk ttX10_text 13 rfl rfl) zf_RX10_34 rfl (k_L0 s6) (rf_L0_4 s6) ?_
    refine zj_aload_n (zdk ttX10_text 14 rfl rfl) rfl (by decide) ?_
    refine zj_getr (r := 69) (zdk ttX10_text 15 rfl rfl) zf_RX10_19 rfl (k_L0 s6) (rf_L0_2 s6) ?_
    refine zj_getr (r := 74) (zdk ttX10_text 16 rfl rfl) zf_RX10_146 rfl (k_9_0 s6 zWd_69) (rf_9_0_1 s6 zWd_69) ?_
    refine zj_callV (av := [.inr 74]) (st := []) (zdk ttX10_text 17 rfl rfl) mb_X7_readLaw mv_RX10_150 (ci := 7) rfl rfl (k_L107 s6) rfl rfl (Nat.le_of_ble_eq_true rfl) (s2_X7_readLaw l h4 74 s6 zLw_74) (rm_ok (by decide) (by decide)) (zq_i fun v21 h22 q20 => ?_)
    obtain ⟨b23, s24, f26, u25⟩ := q20
    refine zj_if_eq (t := 254) (zdk ttX10_text 18 rfl rfl) (by decide) (by omega) (fun c27 => ?_) (fun c27 => ?_)
    · refine zj_aload_n (zdk ttX10_text 98 rfl rfl) rfl (by decide) ?_
      refine zj_getr (r := 103) (zdk ttX10_text 99 rfl rfl) zf_RX10_25 rfl (k_L0 s24) (rf_L0_3 s24) ?_
      refine zj_iconst (zdk ttX10_text 100 rfl rfl) ?_
      refine zj_puti (zdk ttX10_text 101 rfl rfl) zf_RX10_137 rfl (k_L103 s24) (Or.inl zw_RX10_137) (k2 := 3) rfl (fun h28 e29 => ?_)
      refine zj_iload_n (zdk ttX10_text 102 rfl rfl) rfl ?_
      have s30 : okC h28 := fw_L103_3 s24 e29 (by omega)
      have f33 : zfC w_X10_text h h4 := zfC_t (zfC_r _ _) f8 (fun a9 b9 z9 => by
        exact (Or.inr (Or.inr (Or.inr (Or.inr (Or.inr (Or.inr (Or.inr (Or.inr (Or.inr (Or.inr (Or.inr (Or.inr (Or.inr (Or.inr (Or.inr (Or.inr (Or.inr (Or.inl (by omega))))))))))))))))))))
      have f32 : zfC w_X10_text h h22 := zfC_t f33 f26 (fun a9 b9 z9 => by
        rcases z9 with z9 | z9 | z9 | z9
        · exact (Or.inr (Or.inr (Or.inr (Or.inr (Or.inr (Or.inr (Or.inr (Or.inr (Or.inr (Or.inr (Or.inr (Or.inr (Or.inr (Or.inr (Or.inr (Or.inr (Or.inr (Or.inl (by omega)))))))))))))))))))
        · exact (Or.inr (Or.inr (Or.inr (Or.inr (Or.inr (Or.inr (Or.inr (Or.inr (Or.inr (Or.inr (Or.inr (Or.inr (Or.inr (Or.inr (Or.inr (Or.inr (Or.inr (Or.inr z9))))))))))))))))))
        · exact (Or.inr (Or.inr (Or.inr (Or.inr (Or.inr (Or.inr (Or.inr (Or.inr (Or.inr (Or.inl z9))))))))))
        · exact (Or.inr (Or.inr (Or.inr (Or.inr (Or.inr (Or.inr (Or.inr (Or.inr (Or.inr (Or.inr (Or.inl z9))))))))))))
      have f31 : zfC w_X10_text h h28 := zfC_w f32 e29 (Or.inr (Or.inr (Or.inr (Or.inr (Or.inr (Or.inr (Or.inr (Or.inr (Or.inr (Or.inr (Or.inr (Or.inr (Or.inr (Or.inr (Or.inr (Or.inr (Or.inr (Or.inl (by omega)))))))))))))))))))
      have b34 : h28.2 103 3 = 0 := (zwr_v e29)
      have b35 : h28.2 103 7 = (h22.2 103 7) := (zwr_r e29 (by first | decide | exact (absurd ·.1 (by decide)) | exact (absurd ·.2 (by decide)) | omega))
      have b36 : h28.2 103 8 = (h22.2 103 8) := (zwr_r e29 (by first | decide | exact (absurd ·.1 (by decide)) | exact (absurd ·.2 (by decide)) | omega))
      exact zj_iret rfl (zdk ttX10_text 103 rfl rfl) (Nat.le_refl _) (Nat.le_refl _) ⟨(-1), rfl, by omega, s30, f31, by omega, (fun j => zJP_g s0 (((zwr_r e29 (by decide)).trans (zfC_a f26 (fun z9 => by unfold w_X7_readLaw at z9; first | (revert z9; decide) | omega))).trans (zfC_a f8 (fun z9 => by unfold w_X6_rewind at z9; first | (revert z9; decide) | omega))) (((zwr_r e29 (by decide)).trans (zfC_a f26 (fun z9 => by unfold w_X7_readLaw at z9; first | (revert z9; decide) | omega))).trans (zfC_a f8 (fun z9 => by unfold w_X6_rewind at z9; first | (revert z9; decide) | omega))) (fun a b z1 z2 => (((zwr_r e29 (by first | decide | exact (absurd ·.1 (by decide)) | exact (absurd ·.2 (by decide)) | omega)).trans (zfC_a f26 (fun z9 => by unfold w_X7_readLaw at z9; first | (revert z9; decide) | omega))).trans (zfC_a f8 (fun z9 => by unfold w_X6_rewind at z9; first | (revert z9; decide) | omega)))) j), (by intro z t0; have n9 := xK_g t0; have m9 := xK_n t0; have z7 := u7; have z8 := u25 z7.1 z7.2; rw [show h4.2 104 = h.2 104 from funext fun i9 => (zfC_a f8 (fun z9 => by unfold w_X6_rewind at z9; first | (revert z9; decide) | omega)), show h4.2 103 3 = h.2 103 3 from (zfC_a f8 (fun z9 => by unfold w_X6_rewind at z9; first | (revert z9; decide) | omega))] at z8; obtain ⟨T9, P9, c9, k9, tb9, y9, f9⟩ := z8; rw [show p1 = 0 by omega]; refine tXT_y (Or.inl ⟨rfl, rfl, rfl, rfl⟩) ⟨T9, P9, c9, k9, tb9, ?_⟩; obtain ⟨i9, g9, q9, r9⟩ := f9 (by omega); exact Or.inr ⟨i9, g9, r9, by omega, by omega, by have w9 := q9.2; omega, (xK_f s0 t0 (((zwr_r e29 (by first | decide | exact (absurd ·.1 (by decide)) | exact (absurd ·.2 (by decide)) | omega)).trans (zfC_a f26 (fun z9 => by unfold w_X7_readLaw at z9; first | (revert z9; decide) | omega))).trans (zfC_a f8 (fun z9 => by unfold w_X6_rewind at z9; first | (revert z9; decide) | omega))) (((zwr_r e29 (by first | decide | exact (absurd ·.1 (by decide)) | exact (absurd ·.2 (by decide)) | omega)).trans (zfC_a f26 (fun z9 => by unfold w_X7_readLaw at z9; first | (revert z9; decide) | omega))).trans (zfC_a f8 (fun z9 => by unfold w_X6_rewind at z9; first | (revert z9; decide) | omega))) (fun a9 b9 y9 => by unfold zD at y9; exact (((zwr_r e29 (by first | decide | exact (absurd ·.1 (by decide)) | exact (absurd ·.2 (by decide)) | omega)).trans (zfC_a f26 (fun z9 => by unfold w_X7_readLaw at z9; first | (revert z9; decide) | omega))).trans (zfC_a f8 (fun z9 => by unfold w_X6_rewind at z9; first | (revert z9; decide) | omega)))) (fun a9 b9 y9 => by unfold zD at y9; exact (((zwr_r e29 (by first | decide | exact (absurd ·.1 (by decide)) | exact (absurd ·.2 (by decide)) | omega)).trans (zfC_a f26 (fun z9 => by unfold w_X7_readLaw at z9; first | (revert z9; decide) | omega))).trans (zfC_a f8 (fun z9 => by unfold w_X6_rewind at z9; first | (revert z9; decide) | omega)))) (fun a9 b9 y9 z9 => (((zwr_r e29 (by first | decide | exact (absurd ·.1 (by decide)) | exact (absurd ·.2 (by decide)) | omega)).trans (zfC_a f26 (fun z9 => by unfold w_X7_readLaw at z9; first | (revert z9; decide) | omega))).trans (zfC_a f8 (fun z9 => by unfold w_X6_rewind at z9; first | (revert z9; decide) | omega)))))⟩)⟩
    · refine zj_aload_n (zdk ttX10_text 19 rfl rfl) rfl (by decide) ?_
      refine zj_getr (r := 1) (zdk ttX10_text 20 rfl rfl) zf_RX10_10 rfl (k_L0 s24) (rf_L0_0 s24) ?_
      refine zj_getr (r := 6) (zdk ttX10_text 21 rfl rfl) zf_RX10_146 rfl (k_9_0 s24 zWd_1) (rf_9_0_1 s24 zWd_1) ?_
      refine zj_aload_n (zdk ttX10_text 22 rfl rfl) rfl (by decide) ?_
      refine zj_getr (r := 69) (zdk ttX10_text 23 rfl rfl) zf_RX10_19 rfl (k_L0 s24) (rf_L0_2 s24) ?_
      refine zj_getr (r := 74) (zdk ttX10_text 24 rfl rfl) zf_RX10_146 rfl (k_9_0 s24 zWd_69) (rf_9_0_1 s24 zWd_69) ?_
      refine zj_callV (av := [.inr 74]) (st := []) (zdk ttX10_text 25 rfl rfl) mb_X3_copyFrom mv_RX10_154 (ci := 3) rfl rfl (k_3_0 s24 zLw_6) rfl rfl (Nat.le_of_ble_eq_true rfl) (s2_X3_copyFrom l h22 6 74 s24 zLw_6 zLw_74) (rm_ok (by decide) (by decide)) (zq_v fun h39 q37 => ?_)
      obtain ⟨s41, f45, u42, u43, u44⟩ := q37
      refine zj_aload_n (zdk ttX10_text 26 rfl rfl) rfl (by decide) ?_
      refine zj_getr (r := 1) (zdk ttX10_text 27 rfl rfl) zf_RX10_10 rfl (k_L0 s41) (rf_L0_0 s41) ?_
      refine zj_getr (r := 6) (zdk ttX10_text 28 rfl rfl) zf_RX10_146 rfl (k_9_0 s41 zWd_1) (rf_9_0_1 s41 zWd_1) ?_
      have b46 : 0 ≤ (h39.2 6 6) ∧ (h39.2 6 6) ≤ 16 := fb_3_0_6 s41 zLw_6
      refine zj_geti (v := (h39.2 6 6)) (zdk ttX10_text 29 rfl rfl) zf_RX10_160 rfl (k_3_0 s41 zLw_6) rfl ?_
      refine zj_istore_n (L' := [some (.inr 0), some (.inl p1), some (.inl (h.2 2 3)), some (.inl (h39.2 6 6))]) (zdk ttX10_text 30 rfl rfl) (by decide) rfl ?_
      refine zj_goto (t := 254) (zdk ttX10_text 31 rfl rfl) (by decide) ?_
      refine zj_aload_n (zdk ttX10_text 98 rfl rfl) rfl (by decide) ?_
      refine zj_getr (r := 103) (zdk ttX10_text 99 rfl rfl) zf_RX10_25 rfl (k_L0 s41) (rf_L0_3 s41) ?_
      refine zj_iconst (zdk ttX10_text 100 rfl rfl) ?_
      refine zj_puti (zdk ttX10_text 101 rfl rfl) zf_RX10_137 rfl (k_L103 s41) (Or.inl zw_RX10_137) (k2 := 3) rfl (fun h47 e48 => ?_)
      refine zj_iload_n (zdk ttX10_text 102 rfl rfl) rfl ?_
      have s49 : okC h47 := fw_L103_3 s41 e48 (by omega)
      have f53 : zfC w_X10_text h h4 := zfC_t (zfC_r _ _) f8 (fun a9 b9 z9 => by
        exact (Or.inr (Or.inr (Or.inr (Or.inr (Or.inr (Or.inr (Or.inr (Or.inr (Or.inr (Or.inr (Or.inr (Or.inr (Or.inr (Or.inr (Or.inr (Or.inr (Or.inr (Or.inl (by omega))))))))))))))))))))
      have f52 : zfC w_X10_text h h22 := zfC_t f53 f26 (fun a9 b9 z9 => by
        rcases z9 with z9 | z9 | z9 | z9
        · exact (Or.inr (Or.inr (Or.inr (Or.inr (Or.inr (Or.inr (Or.inr (Or.inr (Or.inr (Or.inr (Or.inr (Or.inr (Or.inr (Or.inr (Or.inr (Or.inr (Or.inr (Or.inl (by omega)))))))))))))))))))
        · exact (Or.inr (Or.inr (Or.inr (Or.inr (Or.inr (Or.inr (Or.inr (Or.inr (Or.inr (Or.inr (Or.inr (Or.inr (Or.inr (Or.inr (Or.inr (Or.inr (Or.inr (Or.inr z9))))))))))))))))))
        · exact (Or.inr (Or.inr (Or.inr (Or.inr (Or.inr (Or.inr (Or.inr (Or.inr (Or.inr (Or.inl z9))))))))))
        · exact (Or.inr (Or.inr (Or.inr (Or.inr (Or.inr (Or.inr (Or.inr (Or.inr (Or.inr (Or.inr (Or.inl z9))))))))))))
      have f51 : zfC w_X10_text h h39 := zfC_t f52 f45 (fun a9 b9 z9 => by
        rcases z9 with z9 | z9
        · exact (Or.inr (Or.inl z9))
        · exact (Or.inr (Or.inr (Or.inl z9))))
      have f50 : zfC w_X10_text h h47 := zfC_w f51 e48 (Or.inr (Or.inr (Or.inr (Or.inr (Or.inr (Or.inr (Or.inr (Or.inr (Or.inr (Or.inr (Or.inr (Or.inr (Or.inr (Or.inr (Or.inr (Or.inr (Or.inr (Or.inl (by omega)))))))))))))))))))
      have b54 : h47.2 103 3 = 0 := (zwr_v e48)
      have b55 : h47.2 103 7 = (h22.2 103 7) := ((zwr_r e48 (by first | decide | exact (absurd ·.1 (by decide)) | exact (absurd ·.2 (by decide)) | omega)).trans (zfC_a f45 (fun z9 => by unfold w_X3_copyFrom at z9; first | (revert z9; decide) | omega)))
      have b56 : h47.2 103 8 = (h22.2 103 8) := ((zwr_r e48 (by first | decide | exact (absurd ·.1 (by decide)) | exact (absurd ·.2 (by decide)) | omega)).trans (zfC_a f45 (fun z9 => by unfold w_X3_copyFrom at z9; first | (revert z9; decide) | omega)))
      exact zj_iret rfl (zdk ttX10_text 103 rfl rfl) (Nat.le_refl _) (Nat.le_refl _) ⟨(h39.2 6 6), rfl, by omega, s49, f50, by omega, (fun j => zJP_g s0 ((((zwr_r e48 (by decide)).trans (zfC_a f45 (fun z9 => by unfold w_X3_copyFrom at z9; first | (revert z9; decide) | omega))).trans (zfC_a f26 (fun z9 => by unfold w_X7_readLaw at z9; first | (revert z9; decide) | omega))).trans (zfC_a f8 (fun z9 => by unfold w_X6_rewind at z9; first | (revert z9; decide) | omega))) ((((zwr_r e48 (by decide)).trans (zfC_a f45 (fun z9 => by unfold w_X3_copyFrom at z9; first | (revert z9; decide) | omega))).trans (zfC_a f26 (fun z9 => by unfold w_X7_readLaw at z9; first | (revert z9; decide) | omega))).trans (zfC_a f8 (fun z9 => by unfold w_X6_rewind at z9; first | (revert z9; decide) | omega))) (fun a b z1 z2 => ((((zwr_r e48 (by first | decide | exact (absurd ·.1 (by decide)) | exact (absurd ·.2 (by decide)) | omega)).trans (zfC_a f45 (fun z9 => by unfold w_X3_copyFrom at z9; first | (revert z9; decide) | omega))).trans (zfC_a f26 (fun z9 => by unfold w_X7_readLaw at z9; first | (revert z9; decide) | omega))).trans (zfC_a f8 (fun z9 => by unfold w_X6_rewind at z9; first | (revert z9; decide) | omega)))) j), (by intro z t0; have n9 := xK_g t0; have m9 := xK_n t0; have z7 := u7; have z8 := u25 z7.1 z7.2; rw [show h4.2 104 = h.2 104 from funext fun i9 => (zfC_a f8 (fun z9 => by unfold w_X6_rewind at z9; first | (revert z9; decide) | omega)), show h4.2 103 3 = h.2 103 3 from (zfC_a f8 (fun z9 => by unfold w_X6_rewind at z9; first | (revert z9; decide) | omega))] at z8; obtain ⟨T9, P9, c9, k9, tb9, y9, f9⟩ := z8; rw [show p1 = 0 by omega]; refine tXT_y (Or.inl ⟨rfl, rfl, rfl, rfl⟩) ⟨T9, P9, c9, k9, tb9, ?_⟩; obtain ⟨⟨a9, b9⟩, v9, j9, r9⟩ := y9 (by omega); have g9 := tInv_law tb9 r9; have c8 : h39.2 6 6 = h22.2 74 6 := u42 6 (by decide) (by decide); have xc := xC_t0 (m := h22) (k := h39) t0.1 (fun a9 b9 y9 x9 => by unfold zD at y9; exact (((zfC_a f45 (fun z9 => by unfold w_X3_copyFrom at z9; first | (revert z9; decide) | omega)).trans (zfC_a f26 (fun z9 => by unfold w_X7_readLaw at z9; first | (revert z9; decide) | omega))).trans (zfC_a f8 (fun z9 => by unfold w_X6_rewind at z9; first | (revert z9; decide) | omega)))) c8 (fun i9 j9 a9 b9 c9 d9 => u43 i9 j9 a9 b9 c9 d9) (fun j9 a9 b9 => u44 5 j9 (by decide) (by decide) a9 b9) (fb_3_0_7 s24 zLw_74) v9 g9; have xd := xC_f (h' := h47) xc (fun a9 b9 y9 => by unfold zD at y9; exact (zwr_r e48 (by first | decide | exact (absurd ·.1 (by decide)) | exact (absurd ·.2 (by decide)) | omega))); have xk : xK h47 ((fTx0 z.e (h22.2 74 6) (tCd h22 74) (tD4 h22 74 (h22.2 74 6).toNat)), z.x, z.u, z.q, z.g, z.f, z.y) := xK_t0 s0 t0 xd rfl (fun i9 a9 b9 => ⟨rfl, rfl⟩) ((((zwr_r e48 (by first | decide | exact (absurd ·.1 (by decide)) | exact (absurd ·.2 (by decide)) | omega)).trans (zfC_a f45 (fun z9 => by unfold w_X3_copyFrom at z9; first | (revert z9; decide) | omega))).trans (zfC_a f26 (fun z9 => by unfold w_X7_readLaw at z9; first | (revert z9; decide) | omega))).trans (zfC_a f8 (fun z9 => by unfold w_X6_rewind at z9; first | (revert z9; decide) | omega))) ((((zwr_r e48 (by first | decide | exact (absurd ·.1 (by decide)) | exact (absurd ·.2 (by decide)) | omega)).trans (zfC_a f45 (fun z9 => by unfold w_X3_copyFrom at z9; first | (revert z9; decide) | omega))).trans (zfC_a f26 (fun z9 => by unfold w_X7_readLaw at z9; first | (revert z9; decide) | omega))).trans (zfC_a f8 (fun z9 => by unfold w_X6_rewind at z9; first | (revert z9; decide) | omega))) (fun a9 b9 y9 => by unfold zD at y9; exact ((((zwr_r e48 (by first | decide | exact (absurd ·.1 (by decide)) | exact (absurd ·.2 (by decide)) | omega)).trans (zfC_a f45 (fun z9 => by unfold w_X3_copyFrom at z9; first | (revert z9; decide) | omega))).trans (zfC_a f26 (fun z9 => by unfold w_X7_readLaw at z9; first | (revert z9; decide) | omega))).trans (zfC_a f8 (fun z9 => by unfold w_X6_rewind at z9; first | (revert z9; decide) | omega)))) (fun a9 b9 y9 z9 => ((((zwr_r e48 (by first | decide | exact (absurd ·.1 (by decide)) | exact (absurd ·.2 (by decide)) | omega)).trans (zfC_a f45 (fun z9 => by unfold w_X3_copyFrom at z9; first | (revert z9; decide) | omega))).trans (zfC_a f26 (fun z9 => by unfold w_X7_readLaw at z9; first | (revert z9; decide) | omega))).trans (zfC_a f8 (fun z9 => by unfold w_X6_rewind at z9; first | (revert z9; decide) | omega)))); rw [show (h39.2 6 6) = h22.2 74 6 by omega]; exact Or.inl ⟨j9, _, _, r9, by omega, by omega, by omega, xk⟩)⟩
  have k57 : p1 = 1 → zJ shC l yX10_text cX10_text 4 (some .int) (rmL 33) 0 0 (q2_X10_text h p1) 0 0 100 [some (.inr 0), some (.inl p1), some (.inl (h.2 2 3)), some (.inl (-1))] [] h4 := by
    intro c9
    refine zj_aload_n (zdk ttX10_text 32 rfl rfl) rfl (by decide) ?_
    refine zj_getr (r := 107) (zdk ttX10_text 33 rfl rfl) zf_RX10_34 rfl (k_L0 s6) (rf_L0_4 s6) ?_
    refine zj_aload_n (zdk ttX10_text 34 rfl rfl) rfl (by decide) ?_
    refine zj_getr (r := 69) (zdk ttX10_text 35 rfl rfl) zf_RX10_19 rfl (k_L0 s6) (rf_L0_2 s6) ?_
    refine zj_getr (r := 81) (zdk ttX10_text 36 rfl rfl) zf_RX10_163 rfl (k_9_0 s6 zWd_69) (rf_9_0_2 s6 zWd_69) ?_
    refine zj_callV (av := [.inr 81]) (st := []) (zdk ttX10_text 37 rfl rfl) mb_X7_readBoats mv_RX10_167 (ci := 7) rfl rfl (k_L107 s6) rfl rfl (Nat.le_of_ble_eq_true rfl) (s2_X7_readBoats l h4 81 s6 zPl_81) (rm_ok (by decide) (by decide)) (zq_i fun v59 h60 q58 => ?_)
    obtain ⟨b61, s62, f64, u63⟩ := q58
    refine zj_if_eq (t := 254) (zdk ttX10_text 38 rfl rfl) (by decide) (by omega) (fun c65 => ?_) (fun c65 => ?_)
    · refine zj_aload_n (zdk ttX10_text 98 rfl rfl) rfl (by decide) ?_
      refine zj_getr (r := 103) (zdk ttX10_text 99 rfl rfl) zf_RX10_25 rfl (k_L0 s62) (rf_L0_3 s62) ?_
      refine zj_iconst (zdk ttX10_text 100 rfl rfl) ?_
      refine zj_puti (zdk ttX10_text 101 rfl rfl) zf_RX10_137 rfl (k_L103 s62) (Or.inl zw_RX10_137) (k2 := 3) rfl (fun h66 e67 => ?_)
      refine zj_iload_n (zdk ttX10_text 102 rfl rfl) rfl ?_
      have s68 : okC h66 := fw_L103_3 s62 e67 (by omega)
      have f71 : zfC w_X10_text h h4 := zfC_t (zfC_r _ _) f8 (fun a9 b9 z9 => by
        exact (Or.inr (Or.inr (Or.inr (Or.inr (Or.inr (Or.inr (Or.inr (Or.inr (Or.inr (Or.inr (Or.inr (Or.inr (Or.inr (Or.inr (Or.inr (Or.inr (Or.inr (Or.inl (by omega))))))))))))))))))))
      have f70 : zfC w_X10_text h h60 := zfC_t f71 f64 (fun a9 b9 z9 => by
        rcases z9 with z9 | z9 | z9 | z9
        · exact (Or.inr (Or.inr (Or.inr (Or.inr (Or.inr (Or.inr (Or.inr (Or.inr (Or.inr (Or.inr (Or.inr (Or.inr (Or.inr (Or.inr (Or.inr (Or.inr (Or.inr (Or.inl (by omega)))))))))))))))))))
        · exact (Or.inr (Or.inr (Or.inr (Or.inr (Or.inr (Or.inr (Or.inr (Or.inr (Or.inr (Or.inr (Or.inr (Or.inr (Or.inr (Or.inr (Or.inr (Or.inr (Or.inr (Or.inr z9))))))))))))))))))
        · exact (Or.inr (Or.inr (Or.inr (Or.inr (Or.inr (Or.inr (Or.inr (Or.inr (Or.inr (Or.inr (Or.inr (Or.inl z9))))))))))))
        · exact (Or.inr (Or.inr (Or.inr (Or.inr (Or.inr (Or.inr (Or.inr (Or.inr (Or.inr (Or.inr (Or.inr (Or.inr (Or.inl z9))))))))))))))
      have f69 : zfC w_X10_text h h66 := zfC_w f70 e67 (Or.inr (Or.inr (Or.inr (Or.inr (Or.inr (Or.inr (Or.inr (Or.inr (Or.inr (Or.inr (Or.inr (Or.inr (Or.inr (Or.inr (Or.inr (Or.inr (Or.inr (Or.inl (by omega)))))))))))))))))))
      have b72 : h66.2 103 3 = 0 := (zwr_v e67)
      have b73 : h66.2 103 7 = (h60.2 103 7) := (zwr_r e67 (by first | decide | exact (absurd ·.1 (by decide)) | exact (absurd ·.2 (by decide)) | omega))
      have b74 : h66.2 103 8 = (h60.2 103 8) := (zwr_r e67 (by first | decide | exact (absurd ·.1 (by decide)) | exact (absurd ·.2 (by decide)) | omega))
      exact zj_iret rfl (zdk ttX10_text 103 rfl rfl) (Nat.le_refl _) (Nat.le_refl _) ⟨(-1), rfl, by omega, s68, f69, by omega, (fun j => zJP_g s0 (((zwr_r e67 (by decide)).trans (zfC_a f64 (fun z9 => by unfold w_X7_readBoats at z9; first | (revert z9; decide) | omega))).trans (zfC_a f8 (fun z9 => by unfold w_X6_rewind at z9; first | (revert z9; decide) | omega))) (((zwr_r e67 (by decide)).trans (zfC_a f64 (fun z9 => by unfold w_X7_readBoats at z9; first | (revert z9; decide) | omega))).trans (zfC_a f8 (fun z9 => by unfold w_X6_rewind at z9; first | (revert z9; decide) | omega))) (fun a b z1 z2 => (((zwr_r e67 (by first | decide | exact (absurd ·.1 (by decide)) | exact (absurd ·.2 (by decide)) | omega)).trans (zfC_a f64 (fun z9 => by unfold w_X7_readBoats at z9; first | (revert z9; decide) | omega))).trans (zfC_a f8 (fun z9 => by unfold w_X6_rewind at z9; first | (revert z9; decide) | omega)))) j), (by intro z t0; have n9 := xK_g t0; have m9 := xK_n t0; have z7 := u7; have z8 := u63 z7.1 z7.2; rw [show h4.2 104 = h.2 104 from funext fun i9 => (zfC_a f8 (fun z9 => by unfold w_X6_rewind at z9; first | (revert z9; decide) | omega)), show h4.2 103 3 = h.2 103 3 from (zfC_a f8 (fun z9 => by unfold w_X6_rewind at z9; first | (revert z9; decide) | omega))] at z8; obtain ⟨T9, P9, c9, k9, tb9, y9, f9⟩ := z8; rw [show p1 = 1 by omega]; refine tXT_y (Or.inr (Or.inl ⟨rfl, rfl, rfl, rfl⟩)) ⟨T9, P9, c9, k9, tb9, ?_⟩; obtain ⟨i9, g9, q9, r9⟩ := f9 (by omega); exact Or.inr ⟨i9, g9, r9, by omega, by omega, by have w9 := q9.2; omega, (xK_f s0 t0 (((zwr_r e67 (by first | decide | exact (absurd ·.1 (by decide)) | exact (absurd ·.2 (by decide)) | omega)).trans (zfC_a f64 (fun z9 => by unfold w_X7_readBoats at z9; first | (revert z9; decide) | omega))).trans (zfC_a f8 (fun z9 => by unfold w_X6_rewind at z9; first | (revert z9; decide) | omega))) (((zwr_r e67 (by first | decide | exact (absurd ·.1 (by decide)) | exact (absurd ·.2 (by decide)) | omega)).trans (zfC_a f64 (fun z9 => by unfold w_X7_readBoats at z9; first | (revert z9; decide) | omega))).trans (zfC_a f8 (fun z9 => by unfold w_X6_rewind at z9; first | (revert z9; decide) | omega))) (fun a9 b9 y9 => by unfold zD at y9; exact (((zwr_r e67 (by first | decide | exact (absurd ·.1 (by decide)) | exact (absurd ·.2 (by decide)) | omega)).trans (zfC_a f64 (fun z9 => by unfold w_X7_readBoats at z9; first | (revert z9; decide) | omega))).trans (zfC_a f8 (fun z9 => by unfold w_X6_rewind at z9; first | (revert z9; decide) | omega)))) (fun a9 b9 y9 => by unfold zD at y9; exact (((zwr_r e67 (by first | decide | exact (absurd ·.1 (by decide)) | exact (absurd ·.2 (by decide)) | omega)).trans (zfC_a f64 (fun z9 => by unfold w_X7_readBoats at z9; first | (revert z9; decide) | omega))).trans (zfC_a f8 (fun z9 => by unfold w_X6_rewind at z9; first | (revert z9; decide) | omega)))) (fun a9 b9 y9 z9 => (((zwr_r e67 (by first | decide | exact (absurd ·.1 (by decide)) | exact (absurd ·.2 (by decide)) | omega)).trans (zfC_a f64 (fun z9 => by unfold w_X7_readBoats at z9; first | (revert z9; decide) | omega))).trans (zfC_a f8 (fun z9 => by unfold w_X6_rewind at z9; first | (revert z9; decide) | omega)))))⟩)⟩
    · refine zj_aload_n (zdk ttX10_text 39 rfl rfl) rfl (by decide) ?_
      refine zj_getr (r := 1) (zdk ttX10_text 40 rfl rfl) zf_RX10_10 rfl (k_L0 s62) (rf_L0_0 s62) ?_
      refine zj_getr (r := 13) (zdk ttX10_text 41 rfl rfl) zf_RX10_163 rfl (k_9_0 s62 zWd_1) (rf_9_0_2 s62 zWd_1) ?_
      refine zj_aload_n (zdk ttX10_text 42 rfl rfl) rfl (by decide) ?_
      refine zj_getr (r := 69) (zdk ttX10_text 43 rfl rfl) zf_RX10_19 rfl (k_L0 s62) (rf_L0_2 s62) ?_
      refine zj_getr (r := 81) (zdk ttX10_text 44 rfl rfl) zf_RX10_163 rfl (k_9_0 s62 zWd_69) (rf_9_0_2 s62 zWd_69) ?_
      refine zj_callV (av := [.inr 81]) (st := []) (zdk ttX10_text 45 rfl rfl) mb_X4_copyFrom mv_RX10_171 (ci := 4) rfl rfl (k_4_0 s62 zPl_13) rfl rfl (Nat.le_of_ble_eq_true rfl) (s2_X4_copyFrom l h60 13 81 s62 zPl_13 zPl_81) (rm_ok (by decide) (by decide)) (zq_v fun h77 q75 => ?_)
      obtain ⟨s79, f82, u80, u81⟩ := q75
      refine zj_aload_n (zdk ttX10_text 46 rfl rfl) rfl (by decide) ?_
      refine zj_getr (r := 1) (zdk ttX10_text 47 rfl rfl) zf_RX10_10 rfl (k_L0 s79) (rf_L0_0 s79) ?_
      refine zj_getr (r := 13) (zdk ttX10_text 48 rfl rfl) zf_RX10_163 rfl (k_9_0 s79 zWd_1) (rf_9_0_2 s79 zWd_1) ?_
      have b83 : 0 ≤ (h77.2 13 3) ∧ (h77.2 13 3) ≤ 16 := fb_4_0_3 s79 zPl_13
      refine zj_geti (v := (h77.2 13 3)) (zdk ttX10_text 49 rfl rfl) zf_RX10_176 rfl (k_4_0 s79 zPl_13) rfl ?_
      refine zj_istore_n (L' := [some (.inr 0), some (.inl p1), some (.inl (h.2 2 3)), some (.inl (h77.2 13 3))]) (zdk ttX10_text 50 rfl rfl) (by decide) rfl ?_
      refine zj_aload_n (zdk ttX10_text 51 rfl rfl) rfl (by decide) ?_
      refine zj_callV (av := []) (st := []) (zdk ttX10_text 52 rfl rfl) mb_X10_forget mv_RX10_74 (ci := 10) rfl rfl (k_L0 s79) rfl rfl (Nat.le_of_ble_eq_true rfl) (s_X10_forget l h77 s79) (rm_ok (by decide) (by decide)) (zq_v fun h86 q84 => ?_)
      obtain ⟨s88, f90, u89⟩ := q84
      refine zj_goto (t := 254) (zdk ttX10_text 53 rfl rfl) (by decide) ?_
      refine zj_aload_n (zdk ttX10_text 98 rfl rfl) rfl (by decide) ?_
      refine zj_getr (r := 103) (zdk ttX10_text 99 rfl rfl) zf_RX10_25 rfl (k_L0 s88) (rf_L0_3 s88) ?_
      refine zj_iconst (zdk ttX10_text 100 rfl rfl) ?_
      refine zj_puti (zdk ttX10_text 101 rfl rfl) zf_RX10_137 rfl (k_L103 s88) (Or.inl zw_RX10_137) (k2 := 3) rfl (fun h91 e92 => ?_)
      refine zj_iload_n (zdk ttX10_text 102 rfl rfl) rfl ?_
      have s93 : okC h91 := fw_L103_3 s88 e92 (by omega)
      have f98 : zfC w_X10_text h h4 := zfC_t (zfC_r _ _) f8 (fun a9 b9 z9 => by
        exact (Or.inr (Or.inr (Or.inr (Or.inr (Or.inr (Or.inr (Or.inr (Or.inr (Or.inr (Or.inr (Or.inr (Or.inr (Or.inr (Or.inr (Or.inr (Or.inr (Or.inr (Or.inl (by omega))))))))))))))))))))
      have f97 : zfC w_X10_text h h60 := zfC_t f98 f64 (fun a9 b9 z9 => by
        rcases z9 with z9 | z9 | z9 | z9
        · exact (Or.inr (Or.inr (Or.inr (Or.inr (Or.inr (Or.inr (Or.inr (Or.inr (Or.inr (Or.inr (Or.inr (Or.inr (Or.inr (Or.inr (Or.inr (Or.inr (Or.inr (Or.inl (by omega)))))))))))))))))))
        · exact (Or.inr (Or.inr (Or.inr (Or.inr (Or.inr (Or.inr (Or.inr (Or.inr (Or.inr (Or.inr (Or.inr (Or.inr (Or.inr (Or.inr (Or.inr (Or.inr (Or.inr (Or.inr z9))))))))))))))))))
        · exact (Or.inr (Or.inr (Or.inr (Or.inr (Or.inr (Or.inr (Or.inr (Or.inr (Or.inr (Or.inr (Or.inr (Or.inl z9))))))))))))
        · exact (Or.inr (Or.inr (Or.inr (Or.inr (Or.inr (Or.inr (Or.inr (Or.inr (Or.inr (Or.inr (Or.inr (Or.inr (Or.inl z9))))))))))))))
      have f96 : zfC w_X10_text h h77 := zfC_t f97 f82 (fun a9 b9 z9 => by
        rcases z9 with z9 | z9
        · exact (Or.inr (Or.inr (Or.inr (Or.inl z9))))
        · exact (Or.inr (Or.inr (Or.inr (Or.inr (Or.inl z9))))))
      have f95 : zfC w_X10_text h h86 := zfC_t f96 f90 (fun a9 b9 z9 => by
        exact (Or.inl z9))
      have f94 : zfC w_X10_text h h91 := zfC_w f95 e92 (Or.inr (Or.inr (Or.inr (Or.inr (Or.inr (Or.inr (Or.inr (Or.inr (Or.inr (Or.inr (Or.inr (Or.inr (Or.inr (Or.inr (Or.inr (Or.inr (Or.inr (Or.inl (by omega)))))))))))))))))))
      have b99 : h91.2 103 3 = 0 := (zwr_v e92)
      have b100 : h91.2 0 8 = (h86.2 0 8) := (zwr_r e92 (by first | decide | exact (absurd ·.1 (by decide)) | exact (absurd ·.2 (by decide)) | omega))
      have b101 : h91.2 103 7 = (h60.2 103 7) := (((zwr_r e92 (by first | decide | exact (absurd ·.1 (by decide)) | exact (absurd ·.2 (by decide)) | omega)).trans (zfC_a f90 (fun z9 => by unfold w_X10_forget at z9; first | (revert z9; decide) | omega))).trans (zfC_a f82 (fun z9 => by unfold w_X4_copyFrom at z9; first | (revert z9; decide) | omega)))
      have b102 : h91.2 103 8 = (h60.2 103 8) := (((zwr_r e92 (by first | decide | exact (absurd ·.1 (by decide)) | exact (absurd ·.2 (by decide)) | omega)).trans (zfC_a f90 (fun z9 => by unfold w_X10_forget at z9; first | (revert z9; decide) | omega))).trans (zfC_a f82 (fun z9 => by unfold w_X4_copyFrom at z9; first | (revert z9; decide) | omega)))
      have b103 : h91.2 0 8 = (h86.2 0 8) := (zwr_r e92 (by first | decide | exact (absurd ·.1 (by decide)) | exact (absurd ·.2 (by decide)) | omega))
      exact zj_iret rfl (zdk ttX10_text 103 rfl rfl) (Nat.le_refl _) (Nat.le_refl _) ⟨(h77.2 13 3), rfl, by omega, s93, f94, by omega, (fun _ => zJP_0 (by omega)), (by intro z t0; have n9 := xK_g t0; have m9 := xK_n t0; have z7 := u7; have z8 := u63 z7.1 z7.2; rw [show h4.2 104 = h.2 104 from funext fun i9 => (zfC_a f8 (fun z9 => by unfold w_X6_rewind at z9; first | (revert z9; decide) | omega)), show h4.2 103 3 = h.2 103 3 from (zfC_a f8 (fun z9 => by unfold w_X6_rewind at z9; first | (revert z9; decide) | omega))] at z8; obtain ⟨T9, P9, c9, k9, tb9, y9, f9⟩ := z8; rw [show p1 = 1 by omega]; refine tXT_y (Or.inr (Or.inl ⟨rfl, rfl, rfl, rfl⟩)) ⟨T9, P9, c9, k9, tb9, ?_⟩; obtain ⟨⟨a9, b9⟩, v9, j9, r9⟩ := y9 (by omega); have g9 := tIb_r r9; have c8 : h77.2 13 3 = h60.2 81 3 := u80 3 (by decide) (by decide); have xc := xC_t1 (m := h60) (k := h77) t0.1 (fun a9 b9 y9 x9 => by unfold zD at y9; exact (((zfC_a f82 (fun z9 => by unfold w_X4_copyFrom at z9; first | (revert z9; decide) | omega)).trans (zfC_a f64 (fun z9 => by unfold w_X7_readBoats at z9; first | (revert z9; decide) | omega))).trans (zfC_a f8 (fun z9 => by unfold w_X6_rewind at z9; first | (revert z9; decide) | omega)))) c8 (fun i9 j9 a9 b9 c9 d9 => u81 i9 j9 a9 b9 c9 d9) v9 g9; have xd := xC_f (h' := h91) xc (fun a9 b9 y9 => by unfold zD at y9; exact ((zwr_r e92 (by first | decide | exact (absurd ·.1 (by decide)) | exact (absurd ·.2 (by decide)) | omega)).trans (zfC_a f90 (fun z9 => by unfold w_X10_forget at z9; first | (revert z9; decide) | omega)))); have xk : xK h91 (fZ0 z (fTx1 z.e (h60.2 81 3) (tP3 h60 81 2 3 1 (h60.2 81 3).toNat)) z.x) := xK_0 t0 xd (by omega) (((((zwr_r e92 (by first | decide | exact (absurd ·.1 (by decide)) | exact (absurd ·.2 (by decide)) | omega)).trans (zfC_a f90 (fun z9 => by unfold w_X10_forget at z9; first | (revert z9; decide) | omega))).trans (zfC_a f82 (fun z9 => by unfold w_X4_copyFrom at z9; first | (revert z9; decide) | omega))).trans (zfC_a f64 (fun z9 => by unfold w_X7_readBoats at z9; first | (revert z9; decide) | omega))).trans (zfC_a f8 (fun z9 => by unfold w_X6_rewind at z9; first | (revert z9; decide) | omega))) (fun a9 b9 y9 => by unfold zD at y9; exact (((((zwr_r e92 (by first | decide | exact (absurd ·.1 (by decide)) | exact (absurd ·.2 (by decide)) | omega)).trans (zfC_a f90 (fun z9 => by unfold w_X10_forget at z9; first | (revert z9; decide) | omega))).trans (zfC_a f82 (fun z9 => by unfold w_X4_copyFrom at z9; first | (revert z9; decide) | omega))).trans (zfC_a f64 (fun z9 => by unfold w_X7_readBoats at z9; first | (revert z9; decide) | omega))).trans (zfC_a f8 (fun z9 => by unfold w_X6_rewind at z9; first | (revert z9; decide) | omega)))) (fun b9 => (((((zwr_r e92 (by first | decide | exact (absurd ·.1 (by decide)) | exact (absurd ·.2 (by decide)) | omega)).trans (zfC_a f90 (fun z9 => by unfold w_X10_forget at z9; first | (revert z9; decide) | omega))).trans (zfC_a f82 (fun z9 => by unfold w_X4_copyFrom at z9; first | (revert z9; decide) | omega))).trans (zfC_a f64 (fun z9 => by unfold w_X7_readBoats at z9; first | (revert z9; decide) | omega))).trans (zfC_a f8 (fun z9 => by unfold w_X6_rewind at z9; first | (revert z9; decide) | omega)))); rw [show (h77.2 13 3) = h60.2 81 3 by omega]; exact Or.inl ⟨j9, _, _, r9, by omega, by omega, by omega, xk⟩)⟩
  have k104 : p1 = 2 → zJ shC l yX10_text cX10_text 4 (some .int) (rmL 33) 0 0 (q2_X10_text h p1) 0 0 152 [some (.inr 0), some (.inl p1), some (.inl (h.2 2 3)), some (.inl (-1))] [] h4 := by
    intro c9
    refine zj_aload_n (zdk ttX10_text 54 rfl rfl) rfl (by decide) ?_
    refine zj_getr (r := 107) (zdk ttX10_text 55 rfl rfl) zf_RX10_34 rfl (k_L0 s6) (rf_L0_4 s6) ?_
    refine zj_aload_n (zdk ttX10_text 56 rfl rfl) rfl (by decide) ?_
    refine zj_getr (r := 69) (zdk ttX10_text 57 rfl rfl) zf_RX10_19 rfl (k_L0 s6) (rf_L0_2 s6) ?_
    refine zj_getr (r := 85) (zdk ttX10_text 58 rfl rfl) zf_RX10_177 rfl (k_9_0 s6 zWd_69) (rf_9_0_3 s6 zWd_69) ?_
    refine zj_iload_n (zdk ttX10_text 59 rfl rfl) rfl ?_
    refine zj_callV (av := [.inr 85, .inl (h.2 2 3)]) (st := []) (zdk ttX10_text 60 rfl rfl) mb_X7_readTown mv_RX10_180 (ci := 7) rfl rfl (k_L107 s6) rfl rfl (Nat.le_of_ble_eq_true rfl) (s2_X7_readTown l h4 85 (h.2 2 3) s6 zPl_85 (by omega)) (rm_ok (by decide) (by decide)) (zq_i fun v106 h107 q105 => ?_)
    obtain ⟨b108, s109, f111, u110⟩ := q105
    refine zj_if_eq (t := 254) (zdk ttX10_text 61 rfl rfl) (by decide) (by omega) (fun c112 => ?_) (fun c112 => ?_)
    · refine zj_aload_n (zdk ttX10_text 98 rfl rfl) rfl (by decide) ?_
      refine zj_getr (r := 103) (zdk ttX10_text 99 rfl rfl) zf_RX10_25 rfl (k_L0 s109) (rf_L0_3 s109) ?_
      refine zj_iconst (zdk ttX10_text 100 rfl rfl) ?_
      refine zj_puti (zdk ttX10_text 101 rfl rfl) zf_RX10_137 rfl (k_L103 s109) (Or.inl zw_RX10_137) (k2 := 3) rfl (fun h113 e114 => ?_)
      refine zj_iload_n (zdk ttX10_text 102 rfl rfl) rfl ?_
      have s115 : okC h113 := fw_L103_3 s109 e114 (by omega)
      have f118 : zfC w_X10_text h h4 := zfC_t (zfC_r _ _) f8 (fun a9 b9 z9 => by
        exact (Or.inr (Or.inr (Or.inr (Or.inr (Or.inr (Or.inr (Or.inr (Or.inr (Or.inr (Or.inr (Or.inr (Or.inr (Or.inr (Or.inr (Or.inr (Or.inr (Or.inr (Or.inl (by omega))))))))))))))))))))
      have f117 : zfC w_X10_text h h107 := zfC_t f118 f111 (fun a9 b9 z9 => by
        rcases z9 with z9 | z9 | z9 | z9
        · exact (Or.inr (Or.inr (Or.inr (Or.inr (Or.inr (Or.inr (Or.inr (Or.inr (Or.inr (Or.inr (Or.inr (Or.inr (Or.inr (Or.inr (Or.inr (Or.inr (Or.inr (Or.inl (by omega)))))))))))))))))))
        · exact (Or.inr (Or.inr (Or.inr (Or.inr (Or.inr (Or.inr (Or.inr (Or.inr (Or.inr (Or.inr (Or.inr (Or.inr (Or.inr (Or.inr (Or.inr (Or.inr (Or.inr (Or.inr z9))))))))))))))))))
        · exact (Or.inr (Or.inr (Or.inr (Or.inr (Or.inr (Or.inr (Or.inr (Or.inr (Or.inr (Or.inr (Or.inr (Or.inr (Or.inr (Or.inl z9))))))))))))))
        · exact (Or.inr (Or.inr (Or.inr (Or.inr (Or.inr (Or.inr (Or.inr (Or.inr (Or.inr (Or.inr (Or.inr (Or.inr (Or.inr (Or.inr (Or.inl z9))))))))))))))))
      have f116 : zfC w_X10_text h h113 := zfC_w f117 e114 (Or.inr (Or.inr (Or.inr (Or.inr (Or.inr (Or.inr (Or.inr (Or.inr (Or.inr (Or.inr (Or.inr (Or.inr (Or.inr (Or.inr (Or.inr (Or.inr (Or.inr (Or.inl (by omega)))))))))))))))))))
      have b119 : h113.2 103 3 = 0 := (zwr_v e114)
      have b120 : h113.2 103 7 = (h107.2 103 7) := (zwr_r e114 (by first | decide | exact (absurd ·.1 (by decide)) | exact (absurd ·.2 (by decide)) | omega))
      have b121 : h113.2 103 8 = (h107.2 103 8) := (zwr_r e114 (by first | decide | exact (absurd ·.1 (by decide)) | exact (absurd ·.2 (by decide)) | omega))
      exact zj_iret rfl (zdk ttX10_text 103 rfl rfl) (Nat.le_refl _) (Nat.le_refl _) ⟨(-1), rfl, by omega, s115, f116, by omega, (fun j => zJP_g s0 (((zwr_r e114 (by decide)).trans (zfC_a f111 (fun z9 => by unfold w_X7_readTown at z9; first | (revert z9; decide) | omega))).trans (zfC_a f8 (fun z9 => by unfold w_X6_rewind at z9; first | (revert z9; decide) | omega))) (((zwr_r e114 (by decide)).trans (zfC_a f111 (fun z9 => by unfold w_X7_readTown at z9; first | (revert z9; decide) | omega))).trans (zfC_a f8 (fun z9 => by unfold w_X6_rewind at z9; first | (revert z9; decide) | omega))) (fun a b z1 z2 => (((zwr_r e114 (by first | decide | exact (absurd ·.1 (by decide)) | exact (absurd ·.2 (by decide)) | omega)).trans (zfC_a f111 (fun z9 => by unfold w_X7_readTown at z9; first | (revert z9; decide) | omega))).trans (zfC_a f8 (fun z9 => by unfold w_X6_rewind at z9; first | (revert z9; decide) | omega)))) j), (by intro z t0; have n9 := xK_g t0; have m9 := xK_n t0; have z7 := u7; have z8 := u110 z7.1 z7.2; rw [show h4.2 104 = h.2 104 from funext fun i9 => (zfC_a f8 (fun z9 => by unfold w_X6_rewind at z9; first | (revert z9; decide) | omega)), show h4.2 103 3 = h.2 103 3 from (zfC_a f8 (fun z9 => by unfold w_X6_rewind at z9; first | (revert z9; decide) | omega))] at z8; rw [n9.1] at z8; obtain ⟨T9, P9, c9, k9, tb9, y9, f9⟩ := z8; rw [show p1 = 2 by omega]; refine tXT_y (Or.inr (Or.inr (Or.inl ⟨rfl, rfl, rfl, rfl⟩))) ⟨T9, P9, c9, k9, tb9, ?_⟩; obtain ⟨i9, g9, q9, r9⟩ := f9 (by omega); exact Or.inr ⟨i9, g9, r9, by omega, by omega, by have w9 := q9.2; omega, (xK_f s0 t0 (((zwr_r e114 (by first | decide | exact (absurd ·.1 (by decide)) | exact (absurd ·.2 (by decide)) | omega)).trans (zfC_a f111 (fun z9 => by unfold w_X7_readTown at z9; first | (revert z9; decide) | omega))).trans (zfC_a f8 (fun z9 => by unfold w_X6_rewind at z9; first | (revert z9; decide) | omega))) (((zwr_r e114 (by first | decide | exact (absurd ·.1 (by decide)) | exact (absurd ·.2 (by decide)) | omega)).trans (zfC_a f111 (fun z9 => by unfold w_X7_readTown at z9; first | (revert z9; decide) | omega))).trans (zfC_a f8 (fun z9 => by unfold w_X6_rewind at z9; first | (revert z9; decide) | omega))) (fun a9 b9 y9 => by unfold zD at y9; exact (((zwr_r e114 (by first | decide | exact (absurd ·.1 (by decide)) | exact (absurd ·.2 (by decide)) | omega)).trans (zfC_a f111 (fun z9 => by unfold w_X7_readTown at z9; first | (revert z9; decide) | omega))).trans (zfC_a f8 (fun z9 => by unfold w_X6_rewind at z9; first | (revert z9; decide) | omega)))) (fun a9 b9 y9 => by unfold zD at y9; exact (((zwr_r e114 (by first | decide | exact (absurd ·.1 (by decide)) | exact (absurd ·.2 (by decide)) | omega)).trans (zfC_a f111 (fun z9 => by unfold w_X7_readTown at z9; first | (revert z9; decide) | omega))).trans (zfC_a f8 (fun z9 => by unfold w_X6_rewind at z9; first | (revert z9; decide) | omega)))) (fun a9 b9 y9 z9 => (((zwr_r e114 (by first | decide | exact (absurd ·.1 (by decide)) | exact (absurd ·.2 (by decide)) | omega)).trans (zfC_a f111 (fun z9 => by unfold w_X7_readTown at z9; first | (revert z9; decide) | omega))).trans (zfC_a f8 (fun z9 => by unfold w_X6_rewind at z9; first | (revert z9; decide) | omega)))))⟩)⟩
    · refine zj_aload_n (zdk ttX10_text 62 rfl rfl) rfl (by decide) ?_
      refine zj_getr (r := 1) (zdk ttX10_text 63 rfl rfl) zf_RX10_10 rfl (k_L0 s109) (rf_L0_0 s109) ?_
      refine zj_getr (r := 17) (zdk ttX10_text 64 rfl rfl) zf_RX10_177 rfl (k_9_0 s109 zWd_1) (rf_9_0_3 s109 zWd_1) ?_
      refine zj_aload_n (zdk ttX10_text 65 rfl rfl) rfl (by decide) ?_
      refine zj_getr (r := 69) (zdk ttX10_text 66 rfl rfl) zf_RX10_19 rfl (k_L0 s109) (rf_L0_2 s109) ?_
      refine zj_getr (r := 85) (zdk ttX10_text 67 rfl rfl) zf_RX10_177 rfl (k_9_0 s109 zWd_69) (rf_9_0_3 s109 zWd_69) ?_
      refine zj_callV (av := [.inr 85]) (st := []) (zdk ttX10_text 68 rfl rfl) mb_X4_copyFrom mv_RX10_171 (ci := 4) rfl rfl (k_4_0 s109 zPl_17) rfl rfl (Nat.le_of_ble_eq_true rfl) (s2_X4_copyFrom l h107 17 85 s109 zPl_17 zPl_85) (rm_ok (by decide) (by decide)) (zq_v fun h124 q122 => ?_)
      obtain ⟨s126, f129, u127, u128⟩ := q122
      refine zj_aload_n (zdk ttX10_text 69 rfl rfl) rfl (by decide) ?_
      refine zj_getr (r := 1) (zdk ttX10_text 70 rfl rfl) zf_RX10_10 rfl (k_L0 s126) (rf_L0_0 s126) ?_
      refine zj_getr (r := 17) (zdk ttX10_text 71 rfl rfl) zf_RX10_177 rfl (k_9_0 s126 zWd_1) (rf_9_0_3 s126 zWd_1) ?_
      have b130 : 0 ≤ (h124.2 17 3) ∧ (h124.2 17 3) ≤ 16 := fb_4_0_3 s126 zPl_17
      refine zj_geti (v := (h124.2 17 3)) (zdk ttX10_text 72 rfl rfl) zf_RX10_176 rfl (k_4_0 s126 zPl_17) rfl ?_
      refine zj_istore_n (L' := [some (.inr 0), some (.inl p1), some (.inl (h.2 2 3)), some (.inl (h124.2 17 3))]) (zdk ttX10_text 73 rfl rfl) (by decide) rfl ?_
      refine zj_aload_n (zdk ttX10_text 74 rfl rfl) rfl (by decide) ?_
      refine zj_callV (av := []) (st := []) (zdk ttX10_text 75 rfl rfl) mb_X10_forget mv_RX10_74 (ci := 10) rfl rfl (k_L0 s126) rfl rfl (Nat.le_of_ble_eq_true rfl) (s_X10_forget l h124 s126) (rm_ok (by decide) (by decide)) (zq_v fun h133 q131 => ?_)
      obtain ⟨s135, f137, u136⟩ := q131
      refine zj_goto (t := 254) (zdk ttX10_text 76 rfl rfl) (by decide) ?_
      refine zj_aload_n (zdk ttX10_text 98 rfl rfl) rfl (by decide) ?_
      refine zj_getr (r := 103) (zdk ttX10_text 99 rfl rfl) zf_RX10_25 rfl (k_L0 s135) (rf_L0_3 s135) ?_
      refine zj_iconst (zdk ttX10_text 100 rfl rfl) ?_
      refine zj_puti (zdk ttX10_text 101 rfl rfl) zf_RX10_137 rfl (k_L103 s135) (Or.inl zw_RX10_137) (k2 := 3) rfl (fun h138 e139 => ?_)
      refine zj_iload_n (zdk ttX10_text 102 rfl rfl) rfl ?_
      have s140 : okC h138 := fw_L103_3 s135 e139 (by omega)
      have f145 : zfC w_X10_text h h4 := zfC_t (zfC_r _ _) f8 (fun a9 b9 z9 => by
        exact (Or.inr (Or.inr (Or.inr (Or.inr (Or.inr (Or.inr (Or.inr (Or.inr (Or.inr (Or.inr (Or.inr (Or.inr (Or.inr (Or.inr (Or.inr (Or.inr (Or.inr (Or.inl (by omega))))))))))))))))))))
      have f144 : zfC w_X10_text h h107 := zfC_t f145 f111 (fun a9 b9 z9 => by
        rcases z9 with z9 | z9 | z9 | z9
        · exact (Or.inr (Or.inr (Or.inr (Or.inr (Or.inr (Or.inr (Or.inr (Or.inr (Or.inr (Or.inr (Or.inr (Or.inr (Or.inr (Or.inr (Or.inr (Or.inr (Or.inr (Or.inl (by omega)))))))))))))))))))
        · exact (Or.inr (Or.inr (Or.inr (Or.inr (Or.inr (Or.inr (Or.inr (Or.inr (Or.inr (Or.inr (Or.inr (Or.inr (Or.inr (Or.inr (Or.inr (Or.inr (Or.inr (Or.inr z9))))))))))))))))))
        · exact (Or.inr (Or.inr (Or.inr (Or.inr (Or.inr (Or.inr (Or.inr (Or.inr (Or.inr (Or.inr (Or.inr (Or.inr (Or.inr (Or.inl z9))))))))))))))
        · exact (Or.inr (Or.inr (Or.inr (Or.inr (Or.inr (Or.inr (Or.inr (Or.inr (Or.inr (Or.inr (Or.inr (Or.inr (Or.inr (Or.inr (Or.inl z9))))))))))))))))
      have f143 : zfC w_X10_text h h124 := zfC_t f144 f129 (fun a9 b9 z9 => by
        rcases z9 with z9 | z9
        · exact (Or.inr (Or.inr (Or.inr (Or.inr (Or.inr (Or.inl z9))))))
        · exact (Or.inr (Or.inr (Or.inr (Or.inr (Or.inr (Or.inr (Or.inl z9))))))))
      have f142 : zfC w_X10_text h h133 := zfC_t f143 f137 (fun a9 b9 z9 => by
        exact (Or.inl z9))
      have f141 : zfC w_X10_text h h138 := zfC_w f142 e139 (Or.inr (Or.inr (Or.inr (Or.inr (Or.inr (Or.inr (Or.inr (Or.inr (Or.inr (Or.inr (Or.inr (Or.inr (Or.inr (Or.inr (Or.inr (Or.inr (Or.inr (Or.inl (by omega)))))))))))))))))))
      have b146 : h138.2 103 3 = 0 := (zwr_v e139)
      have b147 : h138.2 0 8 = (h133.2 0 8) := (zwr_r e139 (by first | decide | exact (absurd ·.1 (by decide)) | exact (absurd ·.2 (by decide)) | omega))
      have b148 : h138.2 103 7 = (h107.2 103 7) := (((zwr_r e139 (by first | decide | exact (absurd ·.1 (by decide)) | exact (absurd ·.2 (by decide)) | omega)).trans (zfC_a f137 (fun z9 => by unfold w_X10_forget at z9; first | (revert z9; decide) | omega))).trans (zfC_a f129 (fun z9 => by unfold w_X4_copyFrom at z9; first | (revert z9; decide) | omega)))
      have b149 : h138.2 103 8 = (h107.2 103 8) := (((zwr_r e139 (by first | decide | exact (absurd ·.1 (by decide)) | exact (absurd ·.2 (by decide)) | omega)).trans (zfC_a f137 (fun z9 => by unfold w_X10_forget at z9; first | (revert z9; decide) | omega))).trans (zfC_a f129 (fun z9 => by unfold w_X4_copyFrom at z9; first | (revert z9; decide) | omega)))
      have b150 : h138.2 0 8 = (h133.2 0 8) := (zwr_r e139 (by first | decide | exact (absurd ·.1 (by decide)) | exact (absurd ·.2 (by decide)) | omega))
      exact zj_iret rfl (zdk ttX10_text 103 rfl rfl) (Nat.le_refl _) (Nat.le_refl _) ⟨(h124.2 17 3), rfl, by omega, s140, f141, by omega, (fun _ => zJP_0 (by omega)), (by intro z t0; have n9 := xK_g t0; have m9 := xK_n t0; have z7 := u7; have z8 := u110 z7.1 z7.2; rw [show h4.2 104 = h.2 104 from funext fun i9 => (zfC_a f8 (fun z9 => by unfold w_X6_rewind at z9; first | (revert z9; decide) | omega)), show h4.2 103 3 = h.2 103 3 from (zfC_a f8 (fun z9 => by unfold w_X6_rewind at z9; first | (revert z9; decide) | omega))] at z8; rw [n9.1] at z8; obtain ⟨T9, P9, c9, k9, tb9, y9, f9⟩ := z8; rw [show p1 = 2 by omega]; refine tXT_y (Or.inr (Or.inr (Or.inl ⟨rfl, rfl, rfl, rfl⟩))) ⟨T9, P9, c9, k9, tb9, ?_⟩; obtain ⟨⟨a9, b9⟩, v9, j9, r9⟩ := y9 (by omega); have g9 := tIt2_r (by omega) r9; have c8 : h124.2 17 3 = h107.2 85 3 := u127 3 (by decide) (by decide); have xc := xC_t2 (m := h107) (k := h124) t0.1 (fun a9 b9 y9 x9 => by unfold zD at y9; exact (((zfC_a f129 (fun z9 => by unfold w_X4_copyFrom at z9; first | (revert z9; decide) | omega)).trans (zfC_a f111 (fun z9 => by unfold w_X7_readTown at z9; first | (revert z9; decide) | omega))).trans (zfC_a f8 (fun z9 => by unfold w_X6_rewind at z9; first | (revert z9; decide) | omega)))) c8 (fun i9 j9 a9 b9 c9 d9 => u128 i9 j9 a9 b9 c9 d9) v9 g9; have xd := xC_f (h' := h138) xc (fun a9 b9 y9 => by unfold zD at y9; exact ((zwr_r e139 (by first | decide | exact (absurd ·.1 (by decide)) | exact (absurd ·.2 (by decide)) | omega)).trans (zfC_a f137 (fun z9 => by unfold w_X10_forget at z9; first | (revert z9; decide) | omega)))); have xk : xK h138 (fZ0 z (fTx2 z.e (h107.2 85 3) (tP3 h107 85 3 2 1 (h107.2 85 3).toNat)) z.x) := xK_0 t0 xd (by omega) (((((zwr_r e139 (by first | decide | exact (absurd ·.1 (by decide)) | exact (absurd ·.2 (by decide)) | omega)).trans (zfC_a f137 (fun z9 => by unfold w_X10_forget at z9; first | (revert z9; decide) | omega))).trans (zfC_a f129 (fun z9 => by unfold w_X4_copyFrom at z9; first | (revert z9; decide) | omega))).trans (zfC_a f111 (fun z9 => by unfold w_X7_readTown at z9; first | (revert z9; decide) | omega))).trans (zfC_a f8 (fun z9 => by unfold w_X6_rewind at z9; first | (revert z9; decide) | omega))) (fun a9 b9 y9 => by unfold zD at y9; exact (((((zwr_r e139 (by first | decide | exact (absurd ·.1 (by decide)) | exact (absurd ·.2 (by decide)) | omega)).trans (zfC_a f137 (fun z9 => by unfold w_X10_forget at z9; first | (revert z9; decide) | omega))).trans (zfC_a f129 (fun z9 => by unfold w_X4_copyFrom at z9; first | (revert z9; decide) | omega))).trans (zfC_a f111 (fun z9 => by unfold w_X7_readTown at z9; first | (revert z9; decide) | omega))).trans (zfC_a f8 (fun z9 => by unfold w_X6_rewind at z9; first | (revert z9; decide) | omega)))) (fun b9 => (((((zwr_r e139 (by first | decide | exact (absurd ·.1 (by decide)) | exact (absurd ·.2 (by decide)) | omega)).trans (zfC_a f137 (fun z9 => by unfold w_X10_forget at z9; first | (revert z9; decide) | omega))).trans (zfC_a f129 (fun z9 => by unfold w_X4_copyFrom at z9; first | (revert z9; decide) | omega))).trans (zfC_a f111 (fun z9 => by unfold w_X7_readTown at z9; first | (revert z9; decide) | omega))).trans (zfC_a f8 (fun z9 => by unfold w_X6_rewind at z9; first | (revert z9; decide) | omega)))); rw [show (h124.2 17 3) = h107.2 85 3 by omega]; exact Or.inl ⟨j9, _, _, r9, by omega, by omega, by omega, xk⟩)⟩
  have k151 : p1 = 3 → zJ shC l yX10_text cX10_text 4 (some .int) (rmL 33) 0 0 (q2_X10_text h p1) 0 0 205 [some (.inr 0), some (.inl p1), some (.inl (h.2 2 3)), some (.inl (-1))] [] h4 := by
    intro c9
    refine zj_aload_n (zdk ttX10_text 77 rfl rfl) rfl (by decide) ?_
    refine zj_getr (r := 107) (zdk ttX10_text 78 rfl rfl) zf_RX10_34 rfl (k_L0 s6) (rf_L0_4 s6) ?_
    refine zj_aload_n (zdk ttX10_text 79 rfl rfl) rfl (by decide) ?_
    refine zj_getr (r := 69) (zdk ttX10_text 80 rfl rfl) zf_RX10_19 rfl (k_L0 s6) (rf_L0_2 s6) ?_
    refine zj_getr (r := 89) (zdk ttX10_text 81 rfl rfl) zf_RX10_184 rfl (k_9_0 s6 zWd_69) (rf_9_0_4 s6 zWd_69) ?_
    refine zj_iload_n (zdk ttX10_text 82 rfl rfl) rfl ?_
    refine zj_callV (av := [.inr 89, .inl (h.2 2 3)]) (st := []) (zdk ttX10_text 83 rfl rfl) mb_X7_readKin mv_RX10_188 (ci := 7) rfl rfl (k_L107 s6) rfl rfl (Nat.le_of_ble_eq_true rfl) (s2_X7_readKin l h4 89 (h.2 2 3) s6 zKi_89 (by omega)) (rm_ok (by decide) (by decide)) (zq_i fun v153 h154 q152 => ?_)
    obtain ⟨b155, s156, f158, u157⟩ := q152
    refine zj_if_eq (t := 254) (zdk ttX10_text 84 rfl rfl) (by decide) (by omega) (fun c159 => ?_) (fun c159 => ?_)
    · refine zj_aload_n (zdk ttX10_text 98 rfl rfl) rfl (by decide) ?_
      refine zj_getr (r := 103) (zdk ttX10_text 99 rfl rfl) zf_RX10_25 rfl (k_L0 s156) (rf_L0_3 s156) ?_
      refine zj_iconst (zdk ttX10_text 100 rfl rfl) ?_
      refine zj_puti (zdk ttX10_text 101 rfl rfl) zf_RX10_137 rfl (k_L103 s156) (Or.inl zw_RX10_137) (k2 := 3) rfl (fun h160 e161 => ?_)
      refine zj_iload_n (zdk ttX10_text 102 rfl rfl) rfl ?_
      have s162 : okC h160 := fw_L103_3 s156 e161 (by omega)
      have f165 : zfC w_X10_text h h4 := zfC_t (zfC_r _ _) f8 (fun a9 b9 z9 => by
        exact (Or.inr (Or.inr (Or.inr (Or.inr (Or.inr (Or.inr (Or.inr (Or.inr (Or.inr (Or.inr (Or.inr (Or.inr (Or.inr (Or.inr (Or.inr (Or.inr (Or.inr (Or.inl (by omega))))))))))))))))))))
      have f164 : zfC w_X10_text h h154 := zfC_t f165 f158 (fun a9 b9 z9 => by
        rcases z9 with z9 | z9 | z9 | z9
        · exact (Or.inr (Or.inr (Or.inr (Or.inr (Or.inr (Or.inr (Or.inr (Or.inr (Or.inr (Or.inr (Or.inr (Or.inr (Or.inr (Or.inr (Or.inr (Or.inr (Or.inr (Or.inl (by omega)))))))))))))))))))
        · exact (Or.inr (Or.inr (Or.inr (Or.inr (Or.inr (Or.inr (Or.inr (Or.inr (Or.inr (Or.inr (Or.inr (Or.inr (Or.inr (Or.inr (Or.inr (Or.inr (Or.inr (Or.inr z9))))))))))))))))))
        · exact (Or.inr (Or.inr (Or.inr (Or.inr (Or.inr (Or.inr (Or.inr (Or.inr (Or.inr (Or.inr (Or.inr (Or.inr (Or.inr (Or.inr (Or.inr (Or.inl z9))))))))))))))))
        · exact (Or.inr (Or.inr (Or.inr (Or.inr (Or.inr (Or.inr (Or.inr (Or.inr (Or.inr (Or.inr (Or.inr (Or.inr (Or.inr (Or.inr (Or.inr (Or.inr (Or.inl z9))))))))))))))))))
      have f163 : zfC w_X10_text h h160 := zfC_w f164 e161 (Or.inr (Or.inr (Or.inr (Or.inr (Or.inr (Or.inr (Or.inr (Or.inr (Or.inr (Or.inr (Or.inr (Or.inr (Or.inr (Or.inr (Or.inr (Or.inr (Or.inr (Or.inl (by omega)))))))))))))))))))
      have b166 : h160.2 103 3 = 0 := (zwr_v e161)
      have b167 : h160.2 103 7 = (h154.2 103 7) := (zwr_r e161 (by first | decide | exact (absurd ·.1 (by decide)) | exact (absurd ·.2 (by decide)) | omega))
      have b168 : h160.2 103 8 = (h154.2 103 8) := (zwr_r e161 (by first | decide | exact (absurd ·.1 (by decide)) | exact (absurd ·.2 (by decide)) | omega))
      exact zj_iret rfl (zdk ttX10_text 103 rfl rfl) (Nat.le_refl _) (Nat.le_refl _) ⟨(-1), rfl, by omega, s162, f163, by omega, (fun j => zJP_g s0 (((zwr_r e161 (by decide)).trans (zfC_a f158 (fun z9 => by unfold w_X7_readKin at z9; first | (revert z9; decide) | omega))).trans (zfC_a f8 (fun z9 => by unfold w_X6_rewind at z9; first | (revert z9; decide) | omega))) (((zwr_r e161 (by decide)).trans (zfC_a f158 (fun z9 => by unfold w_X7_readKin at z9; first | (revert z9; decide) | omega))).trans (zfC_a f8 (fun z9 => by unfold w_X6_rewind at z9; first | (revert z9; decide) | omega))) (fun a b z1 z2 => (((zwr_r e161 (by first | decide | exact (absurd ·.1 (by decide)) | exact (absurd ·.2 (by decide)) | omega)).trans (zfC_a f158 (fun z9 => by unfold w_X7_readKin at z9; first | (revert z9; decide) | omega))).trans (zfC_a f8 (fun z9 => by unfold w_X6_rewind at z9; first | (revert z9; decide) | omega)))) j), (by intro z t0; have n9 := xK_g t0; have m9 := xK_n t0; have z7 := u7; have z8 := u157 z7.1 z7.2; rw [show h4.2 104 = h.2 104 from funext fun i9 => (zfC_a f8 (fun z9 => by unfold w_X6_rewind at z9; first | (revert z9; decide) | omega)), show h4.2 103 3 = h.2 103 3 from (zfC_a f8 (fun z9 => by unfold w_X6_rewind at z9; first | (revert z9; decide) | omega))] at z8; rw [n9.1] at z8; obtain ⟨T9, P9, c9, k9, tb9, y9, f9⟩ := z8; rw [show p1 = 3 by omega]; refine tXT_y (Or.inr (Or.inr (Or.inr ⟨rfl, rfl, rfl, rfl⟩))) ⟨T9, P9, c9, k9, tb9, ?_⟩; obtain ⟨i9, g9, q9, r9⟩ := f9 (by omega); exact Or.inr ⟨i9, g9, r9, by omega, by omega, by have w9 := q9.2; omega, (xK_f s0 t0 (((zwr_r e161 (by first | decide | exact (absurd ·.1 (by decide)) | exact (absurd ·.2 (by decide)) | omega)).trans (zfC_a f158 (fun z9 => by unfold w_X7_readKin at z9; first | (revert z9; decide) | omega))).trans (zfC_a f8 (fun z9 => by unfold w_X6_rewind at z9; first | (revert z9; decide) | omega))) (((zwr_r e161 (by first | decide | exact (absurd ·.1 (by decide)) | exact (absurd ·.2 (by decide)) | omega)).trans (zfC_a f158 (fun z9 => by unfold w_X7_readKin at z9; first | (revert z9; decide) | omega))).trans (zfC_a f8 (fun z9 => by unfold w_X6_rewind at z9; first | (revert z9; decide) | omega))) (fun a9 b9 y9 => by unfold zD at y9; exact (((zwr_r e161 (by first | decide | exact (absurd ·.1 (by decide)) | exact (absurd ·.2 (by decide)) | omega)).trans (zfC_a f158 (fun z9 => by unfold w_X7_readKin at z9; first | (revert z9; decide) | omega))).trans (zfC_a f8 (fun z9 => by unfold w_X6_rewind at z9; first | (revert z9; decide) | omega)))) (fun a9 b9 y9 => by unfold zD at y9; exact (((zwr_r e161 (by first | decide | exact (absurd ·.1 (by decide)) | exact (absurd ·.2 (by decide)) | omega)).trans (zfC_a f158 (fun z9 => by unfold w_X7_readKin at z9; first | (revert z9; decide) | omega))).trans (zfC_a f8 (fun z9 => by unfold w_X6_rewind at z9; first | (revert z9; decide) | omega)))) (fun a9 b9 y9 z9 => (((zwr_r e161 (by first | decide | exact (absurd ·.1 (by decide)) | exact (absurd ·.2 (by decide)) | omega)).trans (zfC_a f158 (fun z9 => by unfold w_X7_readKin at z9; first | (revert z9; decide) | omega))).trans (zfC_a f8 (fun z9 => by unfold w_X6_rewind at z9; first | (revert z9; decide) | omega)))))⟩)⟩
    · refine zj_aload_n (zdk ttX10_text 85 rfl rfl) rfl (by decide) ?_
      refine zj_getr (r := 1) (zdk ttX10_text 86 rfl rfl) zf_RX10_10 rfl (k_L0 s156) (rf_L0_0 s156) ?_
      refine zj_getr (r := 21) (zdk ttX10_text 87 rfl rfl) zf_RX10_184 rfl (k_9_0 s156 zWd_1) (rf_9_0_4 s156 zWd_1) ?_
      refine zj_aload_n (zdk ttX10_text 88 rfl rfl) rfl (by decide) ?_
      refine zj_getr (r := 69) (zdk ttX10_text 89 rfl rfl) zf_RX10_19 rfl (k_L0 s156) (rf_L0_2 s156) ?_
      refine zj_getr (r := 89) (zdk ttX10_text 90 rfl rfl) zf_RX10_184 rfl (k_9_0 s156 zWd_69) (rf_9_0_4 s156 zWd_69) ?_
      refine zj_callV (av := [.inr 89]) (st := []) (zdk ttX10_text 91 rfl rfl) mb_X2_copyFrom mv_RX10_192 (ci := 2) rfl rfl (k_2_0 s156 zKi_21) rfl rfl (Nat.le_of_ble_eq_true rfl) (s2_X2_copyFrom l h154 21 89 s156 zKi_21 zKi_89) (rm_ok (by decide) (by decide)) (zq_v fun h171 q169 => ?_)
      obtain ⟨s173, f176, u174, u175⟩ := q169
      refine zj_aload_n (zdk ttX10_text 92 rfl rfl) rfl (by decide) ?_
      refine zj_getr (r := 1) (zdk ttX10_text 93 rfl rfl) zf_RX10_10 rfl (k_L0 s173) (rf_L0_0 s173) ?_
      refine zj_getr (r := 21) (zdk ttX10_text 94 rfl rfl) zf_RX10_184 rfl (k_9_0 s173 zWd_1) (rf_9_0_4 s173 zWd_1) ?_
      have b177 : -2147483648 ≤ (h171.2 21 1) ∧ (h171.2 21 1) ≤ 2147483647 := fb_2_0_1 s173 zKi_21
      refine zj_geti (v := (h171.2 21 1)) (zdk ttX10_text 95 rfl rfl) zf_RX10_197 rfl (k_2_0 s173 zKi_21) rfl ?_
      refine zj_istore_n (L' := [some (.inr 0), some (.inl p1), some (.inl (h.2 2 3)), some (.inl (h171.2 21 1))]) (zdk ttX10_text 96 rfl rfl) (by decide) rfl ?_
      refine zj_goto (t := 254) (zdk ttX10_text 97 rfl rfl) (by decide) ?_
      refine zj_aload_n (zdk ttX10_text 98 rfl rfl) rfl (by decide) ?_
      refine zj_getr (r := 103) (zdk ttX10_text 99 rfl rfl) zf_RX10_25 rfl (k_L0 s173) (rf_L0_3 s173) ?_
      refine zj_iconst (zdk ttX10_text 100 rfl rfl) ?_
      refine zj_puti (zdk ttX10_text 101 rfl rfl) zf_RX10_137 rfl (k_L103 s173) (Or.inl zw_RX10_137) (k2 := 3) rfl (fun h178 e179 => ?_)
      refine zj_iload_n (zdk ttX10_text 102 rfl rfl) rfl ?_
      have s180 : okC h178 := fw_L103_3 s173 e179 (by omega)
      have f184 : zfC w_X10_text h h4 := zfC_t (zfC_r _ _) f8 (fun a9 b9 z9 => by
        exact (Or.inr (Or.inr (Or.inr (Or.inr (Or.inr (Or.inr (Or.inr (Or.inr (Or.inr (Or.inr (Or.inr (Or.inr (Or.inr (Or.inr (Or.inr (Or.inr (Or.inr (Or.inl (by omega))))))))))))))))))))
      have f183 : zfC w_X10_text h h154 := zfC_t f184 f158 (fun a9 b9 z9 => by
        rcases z9 with z9 | z9 | z9 | z9
        · exact (Or.inr (Or.inr (Or.inr (Or.inr (Or.inr (Or.inr (Or.inr (Or.inr (Or.inr (Or.inr (Or.inr (Or.inr (Or.inr (Or.inr (Or.inr (Or.inr (Or.inr (Or.inl (by omega)))))))))))))))))))
        · exact (Or.inr (Or.inr (Or.inr (Or.inr (Or.inr (Or.inr (Or.inr (Or.inr (Or.inr (Or.inr (Or.inr (Or.inr (Or.inr (Or.inr (Or.inr (Or.inr (Or.inr (Or.inr z9))))))))))))))))))
        · exact (Or.inr (Or.inr (Or.inr (Or.inr (Or.inr (Or.inr (Or.inr (Or.inr (Or.inr (Or.inr (Or.inr (Or.inr (Or.inr (Or.inr (Or.inr (Or.inl z9))))))))))))))))
        · exact (Or.inr (Or.inr (Or.inr (Or.inr (Or.inr (Or.inr (Or.inr (Or.inr (Or.inr (Or.inr (Or.inr (Or.inr (Or.inr (Or.inr (Or.inr (Or.inr (Or.inl z9))))))))))))))))))
      have f182 : zfC w_X10_text h h171 := zfC_t f183 f176 (fun a9 b9 z9 => by
        rcases z9 with z9 | z9
        · exact (Or.inr (Or.inr (Or.inr (Or.inr (Or.inr (Or.inr (Or.inr (Or.inl z9))))))))
        · exact (Or.inr (Or.inr (Or.inr (Or.inr (Or.inr (Or.inr (Or.inr (Or.inr (Or.inl z9))))))))))
      have f181 : zfC w_X10_text h h178 := zfC_w f182 e179 (Or.inr (Or.inr (Or.inr (Or.inr (Or.inr (Or.inr (Or.inr (Or.inr (Or.inr (Or.inr (Or.inr (Or.inr (Or.inr (Or.inr (Or.inr (Or.inr (Or.inr (Or.inl (by omega)))))))))))))))))))
      have b185 : h178.2 103 3 = 0 := (zwr_v e179)
      have b186 : h178.2 103 7 = (h154.2 103 7) := ((zwr_r e179 (by first | decide | exact (absurd ·.1 (by decide)) | exact (absurd ·.2 (by decide)) | omega)).trans (zfC_a f176 (fun z9 => by unfold w_X2_copyFrom at z9; first | (revert z9; decide) | omega)))
      have b187 : h178.2 103 8 = (h154.2 103 8) := ((zwr_r e179 (by first | decide | exact (absurd ·.1 (by decide)) | exact (absurd ·.2 (by decide)) | omega)).trans (zfC_a f176 (fun z9 => by unfold w_X2_copyFrom at z9; first | (revert z9; decide) | omega)))
      exact zj_iret rfl (zdk ttX10_text 103 rfl rfl) (Nat.le_refl _) (Nat.le_refl _) ⟨(h171.2 21 1), rfl, by omega, s180, f181, by omega, (fun j => zJP_g s0 ((((zwr_r e179 (by decide)).trans (zfC_a f176 (fun z9 => by unfold w_X2_copyFrom at z9; first | (revert z9; decide) | omega))).trans (zfC_a f158 (fun z9 => by unfold w_X7_readKin at z9; first | (revert z9; decide) | omega))).trans (zfC_a f8 (fun z9 => by unfold w_X6_rewind at z9; first | (revert z9; decide) | omega))) ((((zwr_r e179 (by decide)).trans (zfC_a f176 (fun z9 => by unfold w_X2_copyFrom at z9; first | (revert z9; decide) | omega))).trans (zfC_a f158 (fun z9 => by unfold w_X7_readKin at z9; first | (revert z9; decide) | omega))).trans (zfC_a f8 (fun z9 => by unfold w_X6_rewind at z9; first | (revert z9; decide) | omega))) (fun a b z1 z2 => ((((zwr_r e179 (by first | decide | exact (absurd ·.1 (by decide)) | exact (absurd ·.2 (by decide)) | omega)).trans (zfC_a f176 (fun z9 => by unfold w_X2_copyFrom at z9; first | (revert z9; decide) | omega))).trans (zfC_a f158 (fun z9 => by unfold w_X7_readKin at z9; first | (revert z9; decide) | omega))).trans (zfC_a f8 (fun z9 => by unfold w_X6_rewind at z9; first | (revert z9; decide) | omega)))) j), (by intro z t0; have n9 := xK_g t0; have m9 := xK_n t0; have z7 := u7; have z8 := u157 z7.1 z7.2; rw [show h4.2 104 = h.2 104 from funext fun i9 => (zfC_a f8 (fun z9 => by unfold w_X6_rewind at z9; first | (revert z9; decide) | omega)), show h4.2 103 3 = h.2 103 3 from (zfC_a f8 (fun z9 => by unfold w_X6_rewind at z9; first | (revert z9; decide) | omega))] at z8; rw [n9.1] at z8; obtain ⟨T9, P9, c9, k9, tb9, y9, f9⟩ := z8; rw [show p1 = 3 by omega]; refine tXT_y (Or.inr (Or.inr (Or.inr ⟨rfl, rfl, rfl, rfl⟩))) ⟨T9, P9, c9, k9, tb9, ?_⟩; obtain ⟨⟨a9, b9⟩, v9, j9, d9, kd9, r9⟩ := y9 (by omega); have g9 := tIk_r r9; have c8 : h171.2 21 1 = h154.2 89 1 := u174 1 (by decide) (by decide); have xc := xC_t3 (k := h171) (v := h154.2 89 1) (dd := d9) t0.1 (fun a9 b9 y9 x9 => by unfold zD at y9; exact (((zfC_a f176 (fun z9 => by unfold w_X2_copyFrom at z9; first | (revert z9; decide) | omega)).trans (zfC_a f158 (fun z9 => by unfold w_X7_readKin at z9; first | (revert z9; decide) | omega))).trans (zfC_a f8 (fun z9 => by unfold w_X6_rewind at z9; first | (revert z9; decide) | omega)))) c8 (fun j9 a9 b9 => (u175 1 j9 (by decide) (by decide) a9 b9).trans (kd9 j9 a9 b9)) g9; have xd := xC_f (h' := h178) xc (fun a9 b9 y9 => by unfold zD at y9; exact (zwr_r e179 (by first | decide | exact (absurd ·.1 (by decide)) | exact (absurd ·.2 (by decide)) | omega))); have xk : xK h178 ((fTx3 z.e (h154.2 89 1) d9), z.x, z.u, z.q, z.g, z.f, z.y) := xK_t0 s0 t0 xd rfl (fun i9 a9 b9 => ⟨rfl, rfl⟩) ((((zwr_r e179 (by first | decide | exact (absurd ·.1 (by decide)) | exact (absurd ·.2 (by decide)) | omega)).trans (zfC_a f176 (fun z9 => by unfold w_X2_copyFrom at z9; first | (revert z9; decide) | omega))).trans (zfC_a f158 (fun z9 => by unfold w_X7_readKin at z9; first | (revert z9; decide) | omega))).trans (zfC_a f8 (fun z9 => by unfold w_X6_rewind at z9; first | (revert z9; decide) | omega))) ((((zwr_r e179 (by first | decide | exact (absurd ·.1 (by decide)) | exact (absurd ·.2 (by decide)) | omega)).trans (zfC_a f176 (fun z9 => by unfold w_X2_copyFrom at z9; first | (revert z9; decide) | omega))).trans (zfC_a f158 (fun z9 => by unfold w_X7_readKin at z9; first | (revert z9; decide) | omega))).trans (zfC_a f8 (fun z9 => by unfold w_X6_rewind at z9; first | (revert z9; decide) | omega))) (fun a9 b9 y9 => by unfold zD at y9; exact ((((zwr_r e179 (by first | decide | exact (absurd ·.1 (by decide)) | exact (absurd ·.2 (by decide)) | omega)).trans (zfC_a f176 (fun z9 => by unfold w_X2_copyFrom at z9; first | (revert z9; decide) | omega))).trans (zfC_a f158 (fun z9 => by unfold w_X7_readKin at z9; first | (revert z9; decide) | omega))).trans (zfC_a f8 (fun z9 => by unfold w_X6_rewind at z9; first | (revert z9; decide) | omega)))) (fun a9 b9 y9 z9 => ((((zwr_r e179 (by first | decide | exact (absurd ·.1 (by decide)) | exact (absurd ·.2 (by decide)) | omega)).trans (zfC_a f176 (fun z9 => by unfold w_X2_copyFrom at z9; first | (revert z9; decide) | omega))).trans (zfC_a f158 (fun z9 => by unfold w_X7_readKin at z9; first | (revert z9; decide) | omega))).trans (zfC_a f8 (fun z9 => by unfold w_X6_rewind at z9; first | (revert z9; decide) | omega)))); rw [show (h171.2 21 1) = h154.2 89 1 by omega]; exact Or.inl ⟨j9, _, _, r9, by omega, by omega, by omega, xk⟩)⟩
  refine zj_table (t := 254) (zdk ttX10_text 11 rfl rfl) (by omega) (by decide) k10 (fun z1 z2 => ?_)
  have z3 : p1 = 0 ∨ p1 = 1 ∨ p1 = 2 ∨ p1 = 3 := by omega
  rcases z3 with z3 | z3 | z3 | z3
  · exact ⟨31, 52, by rw [z3] <;> rfl, by decide, k19 z3⟩
  · exact ⟨79, 100, by rw [z3] <;> rfl, by decide, k57 z3⟩
  · exact ⟨131, 152, by rw [z3] <;> rfl, by decide, k104 z3⟩
  · exact ⟨184, 205, by rw [z3] <;> rfl, by decide, k151 z3⟩

