abbrev q2_X10_undo (h : zM) : Option zV → zM → Prop := zqi fun v h' => (0 ≤ v ∧ v ≤ 1) ∧ okC h' ∧ zfC w_X10_undo h h' ∧ (zJP h → zJP h' ∧ h'.2 2 3 = h.2 2 3) ∧ (∀ z, xK h z → v = (pUndo z).1 ∧ xK h' (pUndo z).2)
set_option maxRecDepth 100000 in
set_option maxHeartbeats 4000000 in
theorem s2_X10_undo (l : Launch) (h : zM) (s0 : okC h) : zT shC l yX10_undo cX10_undo 1 (some .boolean) (rmL 2) 0 0 [.inr 0] h (q2_X10_undo h) := by
  refine zT_of (by decide +kernel) (L0 := [some (.inr 0)]) rfl (Nat.le_of_ble_eq_true rfl) ?_
  refine zj_aload_n (zdk ttX10_undo 0 rfl rfl) rfl (by decide) ?_
  have b1 : 0 ≤ (h.2 0 8) ∧ (h.2 0 8) ≤ 6 := fb_L0_8 s0
  refine zj_geti (v := (h.2 0 8)) (zdk ttX10_undo 1 rfl rfl) zf_RX10_55 rfl (k_L0 s0) rfl ?_
  refine zj_if_gt (t := 9) (zdk ttX10_undo 2 rfl rfl) (by decide) (by omega) (fun c2 => ?_) (fun c2 => ?_)
  · refine zj_aload_n (zdk ttX10_undo 5 rfl rfl) rfl (by decide) ?_
    refine zj_dup (zdk ttX10_undo 6 rfl rfl) ?_
    refine zj_geti (v := (h.2 0 8)) (zdk ttX10_undo 7 rfl rfl) zf_RX10_55 rfl (k_L0 s0) rfl ?_
    refine zj_iconst (zdk ttX10_undo 8 rfl rfl) ?_
    refine zj_isub (zdk ttX10_undo 9 rfl rfl) ?_
    refine zj_puti (zdk ttX10_undo 10 rfl rfl) zf_RX10_55 rfl (k_L0 s0) (Or.inl zw_RX10_55) (k2 := 8) rfl (fun h3 e4 => ?_)
    refine zj_aload_n (zdk ttX10_undo 11 rfl rfl) rfl (by decide) ?_
    have s5 : okC h3 := fw_L0_8 s0 e4 (by omega)
    refine zj_getr (r := 1) (zdk ttX10_undo 12 rfl rfl) zf_RX10_10 rfl (k_L0 s5) (rf_L0_0 s5) ?_
    refine zj_getr (r := 2) (zdk ttX10_undo 13 rfl rfl) zf_RX10_67 rfl (k_9_0 s5 zWd_1) (rf_9_0_0 s5 zWd_1) ?_
    refine zj_aload_n (zdk ttX10_undo 14 rfl rfl) rfl (by decide) ?_
    refine zj_getr (r := 114) (zdk ttX10_undo 15 rfl rfl) zf_RX10_47 rfl (k_L0 s5) (rf_L0_6 s5) ?_
    refine zj_aload_n (zdk ttX10_undo 16 rfl rfl) rfl (by decide) ?_
    refine zj_geti (v := ((h.2 0 8) - 1)) (zdk ttX10_undo 17 rfl rfl) zf_RX10_55 rfl (k_L0 s5) (zwr_v e4) ?_
    have p6 : zPast (h3.2 114 ((h.2 0 8) - 1)) := s5.2.2.1 ((h.2 0 8) - 1) (by omega) (by omega)
    have p7 := zPast_Is p6
    have b8 := zIs_b p7
    have b9 := zPast_b p6
    refine zj_aald (r := (h3.2 114 ((h.2 0 8) - 1))) (zdk ttX10_undo 18 rfl rfl) (ka_L0_6 s5) (by decide) (by omega) rfl ?_
    refine zj_callV (av := [.inr (h3.2 114 ((h.2 0 8) - 1))]) (st := []) (zdk ttX10_undo 19 rfl rfl) mb_X1_copyFrom mv_RX10_332 (ci := 1) rfl rfl (k_1_0 s5 zIs_2) rfl rfl (Nat.le_of_ble_eq_true rfl) (s2_X1_copyFrom l h3 2 (h3.2 114 ((h.2 0 8) - 1)) s5 zIs_2 p7) (rm_ok (by decide) (by decide)) (zq_v fun h12 q10 => ?_)
    obtain ⟨s14, f18, u15, u16, u17⟩ := q10
    refine zj_aload_n (zdk ttX10_undo 20 rfl rfl) rfl (by decide) ?_
    refine zj_getr (r := 1) (zdk ttX10_undo 21 rfl rfl) zf_RX10_10 rfl (k_L0 s14) (rf_L0_0 s14) ?_
    refine zj_getr (r := 23) (zdk ttX10_undo 22 rfl rfl) zf_RX10_219 rfl (k_9_0 s14 zWd_1) (rf_9_0_5 s14 zWd_1) ?_
    refine zj_aload_n (zdk ttX10_undo 23 rfl rfl) rfl (by decide) ?_
    refine zj_getr (r := 115) (zdk ttX10_undo 24 rfl rfl) zf_RX10_51 rfl (k_L0 s14) (rf_L0_7 s14) ?_
    refine zj_aload_n (zdk ttX10_undo 25 rfl rfl) rfl (by decide) ?_
    refine zj_geti (v := ((h.2 0 8) - 1)) (zdk ttX10_undo 26 rfl rfl) zf_RX10_55 rfl (k_L0 s14) ((zfC_a f18 (fun z9 => by unfold w_X1_copyFrom at z9; first | (revert z9; decide) | omega)).trans (zwr_v e4)) ?_
    have b19 : 0 ≤ (h.2 115 ((h.2 0 8) - 1)) ∧ (h.2 115 ((h.2 0 8) - 1)) ≤ 150 := ab_L0_7 s0 ((h.2 0 8) - 1)
    refine zj_iald (v := (h.2 115 ((h.2 0 8) - 1))) (zdk ttX10_undo 27 rfl rfl) (ka_L0_7 s14) (by decide) (by omega) ((zfC_a f18 (fun z9 => by unfold w_X1_copyFrom at z9; first | (revert z9; decide) | omega)).trans (zwr_r e4 (by first | decide | exact (absurd ·.1 (by decide)) | exact (absurd ·.2 (by decide)) | omega))) ?_
    refine zj_puti (zdk ttX10_undo 28 rfl rfl) zf_RX10_223 rfl (k_0_0 s14 zBo_23) (Or.inl zw_RX10_223) (k2 := 4) rfl (fun h20 e21 => ?_)
    refine zj_iconst (zdk ttX10_undo 29 rfl rfl) ?_
    have s22 : okC h20 := fw_0_0_4 s14 zBo_23 e21 (by omega)
    have f25 : zfC w_X10_undo h h3 := zfC_w (zfC_r _ _) e4 (Or.inl (by omega))
    have f24 : zfC w_X10_undo h h12 := zfC_t f25 f18 (fun a9 b9 z9 => by
      rcases z9 with z9 | z9
      · exact (Or.inr (Or.inl z9))
      · exact (Or.inr (Or.inr (Or.inl z9))))
    have f23 : zfC w_X10_undo h h20 := zfC_w f24 e21 (Or.inr (Or.inr (Or.inr (by omega))))
    exact zj_zret rfl (zdk ttX10_undo 30 rfl rfl) (Nat.le_refl _) (Nat.le_refl _) (by omega) ⟨1, rfl, by omega, s22, f23, (zJP_undo s0 rfl (by omega) e4 f18 u15 e21), (by intro z t0; obtain ⟨xc, xp, hg, hi⟩ := t0; have u6 := xp.1; unfold pUndo; rw [if_pos (by omega)]; have eu : z.u = h.2 0 8 := u6.1.symm; have e1 : h3 = zwr h 0 8 (z.u - 1) := (by rw [eu]; exact e4); have i9 : ((h.2 0 8) - 1) = z.u - 1 := (by omega); have cp : ∀ E r, zRi h3 (h3.2 114 (z.u - 1)) E r → zRi h12 2 E r := fun E r z8 => zRi_cp z8 (by rw [← i9]; exact u16) (by rw [← i9]; exact u17); have hl : (h.2 115 ((h.2 0 8) - 1)) = h3.2 115 (z.u - 1) := (by rw [← i9]; first | rfl | exact (zfC_a f18 (fun z9 => by unfold w_X1_copyFrom at z9; first | (revert z9; decide) | omega)) | (symm; exact (zwr_r e4 (by first | decide | exact (absurd ·.1 (by decide)) | exact (absurd ·.2 (by decide)) | omega)))); refine ⟨rfl, xC_un s0 xp xc (by omega) e1 f18 cp hl e21, xP_un s0 xp (by omega) e1 f18 e21, ?_, fun q9 => xC_f (hi q9) (fun a9 b9 y9 => by unfold zD at y9; exact (((zwr_r e21 (by first | decide | exact (absurd ·.1 (by decide)) | exact (absurd ·.2 (by decide)) | omega)).trans (zfC_a f18 (fun z9 => by unfold w_X1_copyFrom at z9; first | (revert z9; decide) | omega))).trans (zwr_r e4 (by first | decide | exact (absurd ·.1 (by decide)) | exact (absurd ·.2 (by decide)) | omega))))⟩; exact ((((zwr_r e21 (by first | decide | exact (absurd ·.1 (by decide)) | exact (absurd ·.2 (by decide)) | omega)).trans (zfC_a f18 (fun z9 => by unfold w_X1_copyFrom at z9; first | (revert z9; decide) | omega))).trans (zwr_r e4 (by first | decide | exact (absurd ·.1 (by decide)) | exact (absurd ·.2 (by decide)) | omega)))).trans hg)⟩
  · refine zj_iconst (zdk ttX10_undo 3 rfl rfl) ?_
    exact zj_zret rfl (zdk ttX10_undo 4 rfl rfl) (Nat.le_refl _) (Nat.le_refl _) (by omega) ⟨0, rfl, by omega, s0, (zfC_r _ _), (fun j => ⟨j, rfl⟩), (by intro z t0; obtain ⟨xc, xp, hg, hi⟩ := t0; have u6 := xp.1; unfold pUndo; rw [if_neg (by omega)]; exact ⟨rfl, xc, xp, hg, hi⟩)⟩

abbrev q2_X10_image (h : zM) (p1 : Int) : Option zV → zM → Prop := zqi fun v h' => (0 ≤ v ∧ v ≤ 1) ∧ okC h' ∧ zfC w_X10_image h h' ∧ (zimc p1 (h.2 0 9) v (h'.2 0 9)) ∧ (zimx p1 (h.2 0 9) (h.2 28 2) (h.2 62 2) (h'.2 28 2) (h'.2 62 2)) ∧ (zimx p1 (h.2 0 9) (h.2 28 4) (h.2 62 4) (h'.2 28 4) (h'.2 62 4)) ∧ (zimx p1 (h.2 0 9) (h.2 28 6) (h.2 62 6) (h'.2 28 6) (h'.2 62 6)) ∧ (zimx p1 (h.2 0 9) (h.2 28 9) (h.2 62 9) (h'.2 28 9) (h'.2 62 9)) ∧ (zimx p1 (h.2 0 9) (h.2 2 3) (h.2 36 3) (h'.2 2 3) (h'.2 36 3)) ∧ (zJP h → zJP h') ∧ (∀ z, xK h z → v = (pImg p1 z).1 ∧ xK h' (pImg p1 z).2)
set_option maxRecDepth 100000 in
set_option maxHeartbeats 4000000 in
theorem s2_X10_image (l : Launch) (h : zM) (p1 : Int) (s0 : okC h) (b_p1 : 0 ≤ p1 ∧ p1 ≤ 1) : zT shC l yX10_image cX10_image 2 (some .boolean) (rmL 3) 0 0 [.inr 0, .inl p1] h (q2_X10_image h p1) := by
  refine zT_of (by decide +kernel) (L0 := [some (.inr 0), some (.inl p1)]) rfl (Nat.le_of_ble_eq_true rfl) ?_
  refine zj_iload_n (zdk ttX10_image 0 rfl rfl) rfl ?_
  refine zj_if_eq (t := 22) (zdk ttX10_image 1 rfl rfl) (by decide) (by omega) (fun c1 => ?_) (fun c1 => ?_)
  · refine zj_aload_n (zdk ttX10_image 12 rfl rfl) rfl (by decide) ?_
    have b2 : 0 ≤ (h.2 0 9) ∧ (h.2 0 9) ≤ 1 := fb_L0_9 s0
    refine zj_geti (v := (h.2 0 9)) (zdk ttX10_image 13 rfl rfl) zf_RX10_59 rfl (k_L0 s0) rfl ?_
    refine zj_if_ne (t := 31) (zdk ttX10_image 14 rfl rfl) (by decide) (by omega) (fun c3 => ?_) (fun c3 => ?_)
    · refine zj_aload_n (zdk ttX10_image 17 rfl rfl) rfl (by decide) ?_
      refine zj_getr (r := 1) (zdk ttX10_image 18 rfl rfl) zf_RX10_10 rfl (k_L0 s0) (rf_L0_0 s0) ?_
      refine zj_aload_n (zdk ttX10_image 19 rfl rfl) rfl (by decide) ?_
      refine zj_getr (r := 35) (zdk ttX10_image 20 rfl rfl) zf_RX10_16 rfl (k_L0 s0) (rf_L0_1 s0) ?_
      refine zj_callV (av := [.inr 35]) (st := []) (zdk ttX10_image 21 rfl rfl) mb_X9_copyFrom mv_RX10_237 (ci := 9) rfl rfl (k_9_0 s0 zWd_1) rfl rfl (Nat.le_of_ble_eq_true rfl) (s2_X9_copyFrom l h 1 35 s0 zWd_1 zWd_35) (rm_ok (by decide) (by decide)) (zq_v fun h6 q4 => ?_)
      obtain ⟨s8, f15, u9, u10, u11, u12, u13, u14⟩ := q4
      have b16i : h6.2 2 3 = h.2 36 3 := u13
      have b16 : h6.2 28 2 = h.2 62 2 := u9
      have b17 : h6.2 28 4 = h.2 62 4 := u10
      have b18 : h6.2 28 6 = h.2 62 6 := u11
      have b19 : h6.2 28 9 = h.2 62 9 := u12
      refine zj_aload_n (zdk ttX10_image 22 rfl rfl) rfl (by decide) ?_
      refine zj_callV (av := []) (st := []) (zdk ttX10_image 23 rfl rfl) mb_X10_forget mv_RX10_74 (ci := 10) rfl rfl (k_L0 s8) rfl rfl (Nat.le_of_ble_eq_true rfl) (s_X10_forget l h6 s8) (rm_ok (by decide) (by decide)) (zq_v fun h22 q20 => ?_)
      obtain ⟨s24, f26, u25⟩ := q20
      refine zj_iconst (zdk ttX10_image 24 rfl rfl) ?_
      have f28 : zfC w_X10_image h h6 := zfC_t (zfC_r _ _) f15 (fun a9 b9 z9 => by
        rcases z9 with z9 | z9 | z9 | z9 | z9 | z9 | z9 | z9 | z9 | z9 | z9 | z9 | z9 | z9 | z9 | z9 | z9
        · exact (Or.inr (Or.inl z9))
        · exact (Or.inr (Or.inr (Or.inl z9)))
        · exact (Or.inr (Or.inr (Or.inr (Or.inl z9))))
        · exact (Or.inr (Or.inr (Or.inr (Or.inr (Or.inl z9)))))
        · exact (Or.inr (Or.inr (Or.inr (Or.inr (Or.inr (Or.inl z9))))))
        · exact (Or.inr (Or.inr (Or.inr (Or.inr (Or.inr (Or.inr (Or.inl z9)))))))
        · exact (Or.inr (Or.inr (Or.inr (Or.inr (Or.inr (Or.inr (Or.inr (Or.inl z9))))))))
        · exact (Or.inr (Or.inr (Or.inr (Or.inr (Or.inr (Or.inr (Or.inr (Or.inr (Or.inl z9)))))))))
        · exact (Or.inr (Or.inr (Or.inr (Or.inr (Or.inr (Or.inr (Or.inr (Or.inr (Or.inr (Or.inl z9))))))))))
        · exact (Or.inr (Or.inr (Or.inr (Or.inr (Or.inr (Or.inr (Or.inr (Or.inr (Or.inr (Or.inr (Or.inl z9)))))))))))
        · exact (Or.inr (Or.inr (Or.inr (Or.inr (Or.inr (Or.inr (Or.inr (Or.inr (Or.inr (Or.inr (Or.inr (Or.inl z9))))))))))))
        · exact (Or.inr (Or.inr (Or.inr (Or.inr (Or.inr (Or.inr (Or.inr (Or.inr (Or.inr (Or.inr (Or.inr (Or.inr (Or.inl z9)))))))))))))
        · exact (Or.inr (Or.inr (Or.inr (Or.inr (Or.inr (Or.inr (Or.inr (Or.inr (Or.inr (Or.inr (Or.inr (Or.inr (Or.inr (Or.inl z9))))))))))))))
        · exact (Or.inr (Or.inr (Or.inr (Or.inr (Or.inr (Or.inr (Or.inr (Or.inr (Or.inr (Or.inr (Or.inr (Or.inr (Or.inr (Or.inr (Or.inl z9)))))))))))))))
        · exact (Or.inr (Or.inr (Or.inr (Or.inr (Or.inr (Or.inr (Or.inr (Or.inr (Or.inr (Or.inr (Or.inr (Or.inr (Or.inr (Or.inr (Or.inr (Or.inl z9))))))))))))))))
        · exact (Or.inr (Or.inr (Or.inr (Or.inr (Or.inr (Or.inr (Or.inr (Or.inr (Or.inr (Or.inr (Or.inr (Or.inr (Or.inr (Or.inr (Or.inr (Or.inr (Or.inl z9)))))))))))))))))
        · exact (Or.inr (Or.inr (Or.inr (Or.inr (Or.inr (Or.inr (Or.inr (Or.inr (Or.inr (Or.inr (Or.inr (Or.inr (Or.inr (Or.inr (Or.inr (Or.inr (Or.inr (Or.inl z9)))))))))))))))))))
      have f27 : zfC w_X10_image h h22 := zfC_t f28 f26 (fun a9 b9 z9 => by
        exact (Or.inl (by omega)))
      have b29 : h22.2 0 9 = (h.2 0 9) := ((zfC_a f26 (fun z9 => by unfold w_X10_forget at z9; first | (revert z9; decide) | omega)).trans (zfC_a f15 (fun z9 => by unfold w_X9_copyFrom at z9; first | (revert z9; decide) | omega)))
      have b30 : h22.2 28 2 = (h6.2 28 2) := (zfC_a f26 (fun z9 => by unfold w_X10_forget at z9; first | (revert z9; decide) | omega))
      have b31 : h22.2 62 2 = (h.2 62 2) := ((zfC_a f26 (fun z9 => by unfold w_X10_forget at z9; first | (revert z9; decide) | omega)).trans (zfC_a f15 (fun z9 => by unfold w_X9_copyFrom at z9; first | (revert z9; decide) | omega)))
      have b32 : h22.2 28 4 = (h6.2 28 4) := (zfC_a f26 (fun z9 => by unfold w_X10_forget at z9; first | (revert z9; decide) | omega))
      have b33 : h22.2 62 4 = (h.2 62 4) := ((zfC_a f26 (fun z9 => by unfold w_X10_forget at z9; first | (revert z9; decide) | omega)).trans (zfC_a f15 (fun z9 => by unfold w_X9_copyFrom at z9; first | (revert z9; decide) | omega)))
      have b34 : h22.2 28 6 = (h6.2 28 6) := (zfC_a f26 (fun z9 => by unfold w_X10_forget at z9; first | (revert z9; decide) | omega))
      have b35 : h22.2 62 6 = (h.2 62 6) := ((zfC_a f26 (fun z9 => by unfold w_X10_forget at z9; first | (revert z9; decide) | omega)).trans (zfC_a f15 (fun z9 => by unfold w_X9_copyFrom at z9; first | (revert z9; decide) | omega)))
      have b36 : h22.2 28 9 = (h6.2 28 9) := (zfC_a f26 (fun z9 => by unfold w_X10_forget at z9; first | (revert z9; decide) | omega))
      have b37 : h22.2 62 9 = (h.2 62 9) := ((zfC_a f26 (fun z9 => by unfold w_X10_forget at z9; first | (revert z9; decide) | omega)).trans (zfC_a f15 (fun z9 => by unfold w_X9_copyFrom at z9; first | (revert z9; decide) | omega)))
      have b38 : h22.2 2 3 = (h6.2 2 3) := (zfC_a f26 (fun z9 => by unfold w_X10_forget at z9; first | (revert z9; decide) | omega))
      have b39 : h22.2 36 3 = (h.2 36 3) := ((zfC_a f26 (fun z9 => by unfold w_X10_forget at z9; first | (revert z9; decide) | omega)).trans (zfC_a f15 (fun z9 => by unfold w_X9_copyFrom at z9; first | (revert z9; decide) | omega)))
      exact zj_zret rfl (zdk ttX10_image 25 rfl rfl) (Nat.le_refl _) (Nat.le_refl _) (by omega) ⟨1, rfl, by omega, s24, f27, by unfold zimc; omega, by unfold zimx; omega, by unfold zimx; omega, by unfold zimx; omega, by unfold zimx; omega, by unfold zimx; omega, (fun _ => zJP_0 u25), (by intro z t0; obtain ⟨xc, xp, hg, hi⟩ := t0; unfold pImg; rw [if_neg (by omega), if_pos (by omega)]; have gi := hi (by omega); have c1 : xC h6 1 z.f false z.y := xC_cp gi u14; refine ⟨rfl, xC_f c1 (fun a9 b9 y9 => by unfold zD at y9; exact (zfC_a f26 (fun z9 => by unfold w_X10_forget at z9; first | (revert z9; decide) | omega))), xP_0 xp u25 (fun b9 => ((zfC_a f26 (fun z9 => by unfold w_X10_forget at z9; first | (revert z9; decide) | omega)).trans (zfC_a f15 (fun z9 => by unfold w_X9_copyFrom at z9; first | (revert z9; decide) | omega)))), (((zfC_a f26 (fun z9 => by unfold w_X10_forget at z9; first | (revert z9; decide) | omega)).trans (zfC_a f15 (fun z9 => by unfold w_X9_copyFrom at z9; first | (revert z9; decide) | omega)))).trans hg, fun _ => xC_f gi (fun a9 b9 y9 => by unfold zD at y9; exact ((zfC_a f26 (fun z9 => by unfold w_X10_forget at z9; first | (revert z9; decide) | omega)).trans (zfC_a f15 (fun z9 => by unfold w_X9_copyFrom at z9; first | (revert z9; decide) | omega))))⟩)⟩
    · refine zj_iconst (zdk ttX10_image 15 rfl rfl) ?_
      exact zj_zret rfl (zdk ttX10_image 16 rfl rfl) (Nat.le_refl _) (Nat.le_refl _) (by omega) ⟨0, rfl, by omega, s0, (zfC_r _ _), by unfold zimc; omega, by unfold zimx; omega, by unfold zimx; omega, by unfold zimx; omega, by unfold zimx; omega, by unfold zimx; omega, (fun j => j), (by intro z t0; obtain ⟨xc, xp, hg, hi⟩ := t0; unfold pImg; rw [if_neg (by omega), if_neg (by omega)]; exact ⟨rfl, xc, xp, hg, hi⟩)⟩
  · refine zj_aload_n (zdk ttX10_image 2 rfl rfl) rfl (by decide) ?_
    refine zj_getr (r := 35) (zdk ttX10_image 3 rfl rfl) zf_RX10_16 rfl (k_L0 s0) (rf_L0_1 s0) ?_
    refine zj_aload_n (zdk ttX10_image 4 rfl rfl) rfl (by decide) ?_
    refine zj_getr (r := 1) (zdk ttX10_image 5 rfl rfl) zf_RX10_10 rfl (k_L0 s0) (rf_L0_0 s0) ?_
    refine zj_callV (av := [.inr 1]) (st := []) (zdk ttX10_image 6 rfl rfl) mb_X9_copyFrom mv_RX10_237 (ci := 9) rfl rfl (k_9_0 s0 zWd_35) rfl rfl (Nat.le_of_ble_eq_true rfl) (s2_X9_copyFrom l h 35 1 s0 zWd_35 zWd_1) (rm_ok (by decide) (by decide)) (zq_v fun h42 q40 => ?_)
    obtain ⟨s44, f51, u45, u46, u47, u48, u49, u50⟩ := q40
    have b52i : h42.2 36 3 = h.2 2 3 := u49
    have b52 : h42.2 62 2 = h.2 28 2 := u45
    have b53 : h42.2 62 4 = h.2 28 4 := u46
    have b54 : h42.2 62 6 = h.2 28 6 := u47
    have b55 : h42.2 62 9 = h.2 28 9 := u48
    refine zj_aload_n (zdk ttX10_image 7 rfl rfl) rfl (by decide) ?_
    refine zj_iconst (zdk ttX10_image 8 rfl rfl) ?_
    refine zj_putz (zdk ttX10_image 9 rfl rfl) zf_RX10_59 rfl (by omega) (k_L0 s44) (Or.inl zw_RX10_59) (k2 := 9) rfl (fun h56 e57 => ?_)
    refine zj_iconst (zdk ttX10_image 10 rfl rfl) ?_
    have s58 : okC h56 := fw_L0_9 s44 e57 (by omega)
    have f60 : zfC w_X10_image h h42 := zfC_t (zfC_r _ _) f51 (fun a9 b9 z9 => by
      rcases z9 with z9 | z9 | z9 | z9 | z9 | z9 | z9 | z9 | z9 | z9 | z9 | z9 | z9 | z9 | z9 | z9 | z9
      · exact (Or.inr (Or.inr (Or.inr (Or.inr (Or.inr (Or.inr (Or.inr (Or.inr (Or.inr (Or.inr (Or.inr (Or.inr (Or.inr (Or.inr (Or.inr (Or.inr (Or.inr (Or.inr (Or.inl z9)))))))))))))))))))
      · exact (Or.inr (Or.inr (Or.inr (Or.inr (Or.inr (Or.inr (Or.inr (Or.inr (Or.inr (Or.inr (Or.inr (Or.inr (Or.inr (Or.inr (Or.inr (Or.inr (Or.inr (Or.inr (Or.inr (Or.inl z9))))))))))))))))))))
      · exact (Or.inr (Or.inr (Or.inr (Or.inr (Or.inr (Or.inr (Or.inr (Or.inr (Or.inr (Or.inr (Or.inr (Or.inr (Or.inr (Or.inr (Or.inr (Or.inr (Or.inr (Or.inr (Or.inr (Or.inr (Or.inl z9)))))))))))))))))))))
      · exact (Or.inr (Or.inr (Or.inr (Or.inr (Or.inr (Or.inr (Or.inr (Or.inr (Or.inr (Or.inr (Or.inr (Or.inr (Or.inr (Or.inr (Or.inr (Or.inr (Or.inr (Or.inr (Or.inr (Or.inr (Or.inr (Or.inl z9))))))))))))))))))))))
      · exact (Or.inr (Or.inr (Or.inr (Or.inr (Or.inr (Or.inr (Or.inr (Or.inr (Or.inr (Or.inr (Or.inr (Or.inr (Or.inr (Or.inr (Or.inr (Or.inr (Or.inr (Or.inr (Or.inr (Or.inr (Or.inr (Or.inr (Or.inl z9)))))))))))))))))))))))
      · exact (Or.inr (Or.inr (Or.inr (Or.inr (Or.inr (Or.inr (Or.inr (Or.inr (Or.inr (Or.inr (Or.inr (Or.inr (Or.inr (Or.inr (Or.inr (Or.inr (Or.inr (Or.inr (Or.inr (Or.inr (Or.inr (Or.inr (Or.inr (Or.inl z9))))))))))))))))))))))))
      · exact (Or.inr (Or.inr (Or.inr (Or.inr (Or.inr (Or.inr (Or.inr (Or.inr (Or.inr (Or.inr (Or.inr (Or.inr (Or.inr (Or.inr (Or.inr (Or.inr (Or.inr (Or.inr (Or.inr (Or.inr (Or.inr (Or.inr (Or.inr (Or.inr (Or.inl z9)))))))))))))))))))))))))
      · exact (Or.inr (Or.inr (Or.inr (Or.inr (Or.inr (Or.inr (Or.inr (Or.inr (Or.inr (Or.inr (Or.inr (Or.inr (Or.inr (Or.inr (Or.inr (Or.inr (Or.inr (Or.inr (Or.inr (Or.inr (Or.inr (Or.inr (Or.inr (Or.inr (Or.inr (Or.inl z9))))))))))))))))))))))))))
      · exact (Or.inr (Or.inr (Or.inr (Or.inr (Or.inr (Or.inr (Or.inr (Or.inr (Or.inr (Or.inr (Or.inr (Or.inr (Or.inr (Or.inr (Or.inr (Or.inr (Or.inr (Or.inr (Or.inr (Or.inr (Or.inr (Or.inr (Or.inr (Or.inr (Or.inr (Or.inr (Or.inl z9)))))))))))))))))))))))))))
      · exact (Or.inr (Or.inr (Or.inr (Or.inr (Or.inr (Or.inr (Or.inr (Or.inr (Or.inr (Or.inr (Or.inr (Or.inr (Or.inr (Or.inr (Or.inr (Or.inr (Or.inr (Or.inr (Or.inr (Or.inr (Or.inr (Or.inr (Or.inr (Or.inr (Or.inr (Or.inr (Or.inr (Or.inl z9))))))))))))))))))))))))))))
      · exact (Or.inr (Or.inr (Or.inr (Or.inr (Or.inr (Or.inr (Or.inr (Or.inr (Or.inr (Or.inr (Or.inr (Or.inr (Or.inr (Or.inr (Or.inr (Or.inr (Or.inr (Or.inr (Or.inr (Or.inr (Or.inr (Or.inr (Or.inr (Or.inr (Or.inr (Or.inr (Or.inr (Or.inr (Or.inl z9)))))))))))))))))))))))))))))
      · exact (Or.inr (Or.inr (Or.inr (Or.inr (Or.inr (Or.inr (Or.inr (Or.inr (Or.inr (Or.inr (Or.inr (Or.inr (Or.inr (Or.inr (Or.inr (Or.inr (Or.inr (Or.inr (Or.inr (Or.inr (Or.inr (Or.inr (Or.inr (Or.inr (Or.inr (Or.inr (Or.inr (Or.inr (Or.inr (Or.inl z9))))))))))))))))))))))))))))))
      · exact (Or.inr (Or.inr (Or.inr (Or.inr (Or.inr (Or.inr (Or.inr (Or.inr (Or.inr (Or.inr (Or.inr (Or.inr (Or.inr (Or.inr (Or.inr (Or.inr (Or.inr (Or.inr (Or.inr (Or.inr (Or.inr (Or.inr (Or.inr (Or.inr (Or.inr (Or.inr (Or.inr (Or.inr (Or.inr (Or.inr (Or.inl z9)))))))))))))))))))))))))))))))
      · exact (Or.inr (Or.inr (Or.inr (Or.inr (Or.inr (Or.inr (Or.inr (Or.inr (Or.inr (Or.inr (Or.inr (Or.inr (Or.inr (Or.inr (Or.inr (Or.inr (Or.inr (Or.inr (Or.inr (Or.inr (Or.inr (Or.inr (Or.inr (Or.inr (Or.inr (Or.inr (Or.inr (Or.inr (Or.inr (Or.inr (Or.inr (Or.inl z9))))))))))))))))))))))))))))))))
      · exact (Or.inr (Or.inr (Or.inr (Or.inr (Or.inr (Or.inr (Or.inr (Or.inr (Or.inr (Or.inr (Or.inr (Or.inr (Or.inr (Or.inr (Or.inr (Or.inr (Or.inr (Or.inr (Or.inr (Or.inr (Or.inr (Or.inr (Or.inr (Or.inr (Or.inr (Or.inr (Or.inr (Or.inr (Or.inr (Or.inr (Or.inr (Or.inr (Or.inl z9)))))))))))))))))))))))))))))))))
      · exact (Or.inr (Or.inr (Or.inr (Or.inr (Or.inr (Or.inr (Or.inr (Or.inr (Or.inr (Or.inr (Or.inr (Or.inr (Or.inr (Or.inr (Or.inr (Or.inr (Or.inr (Or.inr (Or.inr (Or.inr (Or.inr (Or.inr (Or.inr (Or.inr (Or.inr (Or.inr (Or.inr (Or.inr (Or.inr (Or.inr (Or.inr (Or.inr (Or.inr (Or.inl z9))))))))))))))))))))))))))))))))))
      · exact (Or.inr (Or.inr (Or.inr (Or.inr (Or.inr (Or.inr (Or.inr (Or.inr (Or.inr (Or.inr (Or.inr (Or.inr (Or.inr (Or.inr (Or.inr (Or.inr (Or.inr (Or.inr (Or.inr (Or.inr (Or.inr (Or.inr (Or.inr (Or.inr (Or.inr (Or.inr (Or.inr (Or.inr (Or.inr (Or.inr (Or.inr (Or.inr (Or.inr (Or.inr z9)))))))))))))))))))))))))))))))))))
    have f59 : zfC w_X10_image h h56 := zfC_w f60 e57 (Or.inl (by omega))
    have b61 : h56.2 0 9 = 1 := (zwr_v e57)
    have b62 : h56.2 28 2 = (h.2 28 2) := ((zwr_r e57 (by first | decide | exact (absurd ·.1 (by decide)) | exact (absurd ·.2 (by decide)) | omega)).trans (zfC_a f51 (fun z9 => by unfold w_X9_copyFrom at z9; first | (revert z9; decide) | omega)))
    have b63 : h56.2 62 2 = (h42.2 62 2) := (zwr_r e57 (by first | decide | exact (absurd ·.1 (by decide)) | exact (absurd ·.2 (by decide)) | omega))
    have b64 : h56.2 28 4 = (h.2 28 4) := ((zwr_r e57 (by first | decide | exact (absurd ·.1 (by decide)) | exact (absurd ·.2 (by decide)) | omega)).trans (zfC_a f51 (fun z9 => by unfold w_X9_copyFrom at z9; first | (revert z9; decide) | omega)))
    have b65 : h56.2 62 4 = (h42.2 62 4) := (zwr_r e57 (by first | decide | exact (absurd ·.1 (by decide)) | exact (absurd ·.2 (by decide)) | omega))
    have b66 : h56.2 28 6 = (h.2 28 6) := ((zwr_r e57 (by first | decide | exact (absurd ·.1 (by decide)) | exact (absurd ·.2 (by decide)) | omega)).trans (zfC_a f51 (fun z9 => by unfold w_X9_copyFrom at z9; first | (revert z9; decide) | omega)))
    have b67 : h56.2 62 6 = (h42.2 62 6) := (zwr_r e57 (by first | decide | exact (absurd ·.1 (by decide)) | exact (absurd ·.2 (by decide)) | omega))
    have b68 : h56.2 28 9 = (h.2 28 9) := ((zwr_r e57 (by first | decide | exact (absurd ·.1 (by decide)) | exact (absurd ·.2 (by decide)) | omega)).trans (zfC_a f51 (fun z9 => by unfold w_X9_copyFrom at z9; first | (revert z9; decide) | omega)))
    have b69 : h56.2 62 9 = (h42.2 62 9) := (zwr_r e57 (by first | decide | exact (absurd ·.1 (by decide)) | exact (absurd ·.2 (by decide)) | omega))
    have b70 : h56.2 2 3 = (h.2 2 3) := ((zwr_r e57 (by first | decide | exact (absurd ·.1 (by decide)) | exact (absurd ·.2 (by decide)) | omega)).trans (zfC_a f51 (fun z9 => by unfold w_X9_copyFrom at z9; first | (revert z9; decide) | omega)))
    have b71 : h56.2 36 3 = (h42.2 36 3) := (zwr_r e57 (by first | decide | exact (absurd ·.1 (by decide)) | exact (absurd ·.2 (by decide)) | omega))
    exact zj_zret rfl (zdk ttX10_image 11 rfl rfl) (Nat.le_refl _) (Nat.le_refl _) (by omega) ⟨1, rfl, by omega, s58, f59, by unfold zimc; omega, by unfold zimx; omega, by unfold zimx; omega, by unfold zimx; omega, by unfold zimx; omega, by unfold zimx; omega, (fun j => zJP_g s0 ((zwr_r e57 (by decide)).trans (zfC_a f51 (fun z9 => by unfold w_X9_copyFrom at z9; first | (revert z9; decide) | omega))) ((zwr_r e57 (by decide)).trans (zfC_a f51 (fun z9 => by unfold w_X9_copyFrom at z9; first | (revert z9; decide) | omega))) (fun a b z1 z2 => ((zwr_r e57 (by first | decide | exact (absurd ·.1 (by decide)) | exact (absurd ·.2 (by decide)) | omega)).trans (zfC_a f51 (fun z9 => by unfold w_X9_copyFrom at z9; first | (revert z9; decide) | omega)))) j), (by intro z t0; obtain ⟨xc, xp, hg, hi⟩ := t0; unfold pImg; rw [if_pos (by omega)]; have c1 : xC h42 35 z.e false z.x := xC_cp xc u50; refine ⟨rfl, xC_f xc (fun a9 b9 y9 => by unfold zD at y9; exact ((zwr_r e57 (by first | decide | exact (absurd ·.1 (by decide)) | exact (absurd ·.2 (by decide)) | omega)).trans (zfC_a f51 (fun z9 => by unfold w_X9_copyFrom at z9; first | (revert z9; decide) | omega)))), xP_f s0 xp ((zwr_r e57 (by first | decide | exact (absurd ·.1 (by decide)) | exact (absurd ·.2 (by decide)) | omega)).trans (zfC_a f51 (fun z9 => by unfold w_X9_copyFrom at z9; first | (revert z9; decide) | omega))) (fun a9 b9 y9 z9 => ((zwr_r e57 (by first | decide | exact (absurd ·.1 (by decide)) | exact (absurd ·.2 (by decide)) | omega)).trans (zfC_a f51 (fun z9 => by unfold w_X9_copyFrom at z9; first | (revert z9; decide) | omega)))), ?_, fun _ => xC_f c1 (fun a9 b9 y9 => by unfold zD at y9; exact (zwr_r e57 (by first | decide | exact (absurd ·.1 (by decide)) | exact (absurd ·.2 (by decide)) | omega)))⟩; exact zwr_v e57)⟩

