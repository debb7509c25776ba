abbrev q2_X10_state (h : zM) (p1 : Int) : Option zV → zM → Prop := zqi fun v h' => ((-2147483648) ≤ v ∧ v ≤ 2147483647) ∧ okC h' ∧ zfC w_X10_state h h' ∧ (zJP h → zJP h') ∧ (∀ z, xK h z → v = (pState p1 z).1 ∧ xK h' (pState p1 z).2)
set_option maxRecDepth 100000 in
set_option maxHeartbeats 4000000 in
theorem s2_X10_state (l : Launch) (h : zM) (p1 : Int) (s0 : okC h) (b_p1 : (-2147483648) ≤ p1 ∧ p1 ≤ 2147483647) : zT shC l yX10_state cX10_state 3 (some .int) (rmL 2) 0 0 [.inr 0, .inl p1] h (q2_X10_state h p1) := by
  refine zT_of (by decide +kernel) (L0 := [some (.inr 0), some (.inl p1), none]) rfl (Nat.le_of_ble_eq_true rfl) ?_
  refine zj_aload_n (zdk ttX10_state 0 rfl rfl) rfl (by decide) ?_
  refine zj_getr (r := 1) (zdk ttX10_state 1 rfl rfl) zf_RX10_10 rfl (k_L0 s0) (rf_L0_0 s0) ?_
  refine zj_getr (r := 2) (zdk ttX10_state 2 rfl rfl) zf_RX10_67 rfl (k_9_0 s0 zWd_1) (rf_9_0_0 s0 zWd_1) ?_
  have b1 : -2147483648 ≤ (h.2 2 13) ∧ (h.2 2 13) ≤ 2147483647 := fb_1_0_13 s0 zIs_2
  refine zj_geti (v := (h.2 2 13)) (zdk ttX10_state 3 rfl rfl) zf_RX10_71 rfl (k_1_0 s0 zIs_2) rfl ?_
  refine zj_istore_n (L' := [some (.inr 0), some (.inl p1), some (.inl (h.2 2 13))]) (zdk ttX10_state 4 rfl rfl) (by decide) rfl ?_
  refine zj_aload_n (zdk ttX10_state 5 rfl rfl) rfl (by decide) ?_
  refine zj_getr (r := 1) (zdk ttX10_state 6 rfl rfl) zf_RX10_10 rfl (k_L0 s0) (rf_L0_0 s0) ?_
  refine zj_getr (r := 2) (zdk ttX10_state 7 rfl rfl) zf_RX10_67 rfl (k_9_0 s0 zWd_1) (rf_9_0_0 s0 zWd_1) ?_
  refine zj_iload_n (zdk ttX10_state 8 rfl rfl) rfl ?_
  refine zj_puti (zdk ttX10_state 9 rfl rfl) zf_RX10_71 rfl (k_1_0 s0 zIs_2) (Or.inl zw_RX10_71) (k2 := 13) rfl (fun h2 e3 => ?_)
  refine zj_aload_n (zdk ttX10_state 10 rfl rfl) rfl (by decide) ?_
  have s4 : okC h2 := fw_1_0_13 s0 zIs_2 e3 (by omega)
  refine zj_callV (av := []) (st := []) (zdk ttX10_state 11 rfl rfl) mb_X10_forget mv_RX10_74 (ci := 10) rfl rfl (k_L0 s4) rfl rfl (Nat.le_of_ble_eq_true rfl) (s_X10_forget l h2 s4) (rm_ok (by decide) (by decide)) (zq_v fun h7 q5 => ?_)
  obtain ⟨s9, f11, u10⟩ := q5
  refine zj_iload_n (zdk ttX10_state 12 rfl rfl) rfl ?_
  have f13 : zfC w_X10_state h h2 := zfC_w (zfC_r _ _) e3 (Or.inr (by omega))
  have f12 : zfC w_X10_state h h7 := zfC_t f13 f11 (fun a9 b9 z9 => by
    exact (Or.inl z9))
  exact zj_iret rfl (zdk ttX10_state 13 rfl rfl) (Nat.le_refl _) (Nat.le_refl _) ⟨(h.2 2 13), rfl, by omega, s9, f12, (fun _ => zJP_0 (by omega)), (by intro z t0; have g0 := xK_g t0; have t1 := xC_w (k := 1) t0.1 e3 (Or.inr (Or.inr (Or.inr (Or.inr (Or.inr (Or.inr ⟨rfl, rfl⟩)))))); refine ⟨?_, ?_⟩; (show _ = z.x.1 1; exact g0.2.2.2.2.2.2.2.2); exact xK_0 t0 (xC_f t1 (fun a9 b9 y9 => by unfold zD at y9; exact (zfC_a f11 (fun z9 => by unfold w_X10_forget at z9; first | (revert z9; decide) | omega)))) u10 ((zfC_a f11 (fun z9 => by unfold w_X10_forget at z9; first | (revert z9; decide) | omega)).trans (zwr_r e3 (by first | decide | exact (absurd ·.1 (by decide)) | exact (absurd ·.2 (by decide)) | omega))) (fun a9 b9 y9 => by unfold zD at y9; exact ((zfC_a f11 (fun z9 => by unfold w_X10_forget at z9; first | (revert z9; decide) | omega)).trans (zwr_r e3 (by first | decide | exact (absurd ·.1 (by decide)) | exact (absurd ·.2 (by decide)) | omega)))) (fun b9 => ((zfC_a f11 (fun z9 => by unfold w_X10_forget at z9; first | (revert z9; decide) | omega)).trans (zwr_r e3 (by first | decide | exact (absurd ·.1 (by decide)) | exact (absurd ·.2 (by decide)) | omega)))))⟩

abbrev q2_X1_comes (h : zM) (c : Int) (p1 : Int) (p2 : Int) : Option zV → zM → Prop := zqi fun v h' => ((-1) ≤ v ∧ v ≤ 17) ∧ okC h' ∧ zfC (w_X1_comes c) h h' ∧ (zcm (h.2 c 3) v (h'.2 c 3)) ∧ (∀ w E th x, c = w + 1 → xC h w E th x → E.n < 18 → (1 ≤ p1 ∧ p1 ≤ 200) → (0 ≤ p2 ∧ p2 ≤ 9) → v = E.n ∧ xC h' w (fEi E p1 p2) th (fRi x.1 E.n, x.2))
set_option maxRecDepth 100000 in
set_option maxHeartbeats 4000000 in
theorem s2_X1_comes (l : Launch) (h : zM) (c : Int) (p1 : Int) (p2 : Int) (s0 : okC h) (hc : zIs c) (b_p1 : (-2147483648) ≤ p1 ∧ p1 ≤ 2147483647) (b_p2 : (-2147483648) ≤ p2 ∧ p2 ≤ 2147483647) : zT shC l yX1_comes cX1_comes 3 (some .int) (rmL 1) 0 0 [.inr c, .inl p1, .inl p2] h (q2_X1_comes h c p1 p2) := by
  refine zT_of (by decide +kernel) (L0 := [some (.inr c), some (.inl p1), some (.inl p2)]) rfl (Nat.le_of_ble_eq_true rfl) ?_
  have b1 := zIs_b hc
  refine zj_aload_n (zdk ttX1_comes 0 rfl rfl) rfl (by omega) ?_
  have b2 : 0 ≤ (h.2 c 3) ∧ (h.2 c 3) ≤ 18 := fb_1_0_3 s0 hc
  refine zj_geti (v := (h.2 c 3)) (zdk ttX1_comes 1 rfl rfl) zf_RX1_21 rfl (k_1_0 s0 hc) rfl ?_
  refine zj_bipush (zdk ttX1_comes 2 rfl rfl) (by decide) ?_
  refine zj_icmp_lt (t := 11) (zdk ttX1_comes 3 rfl rfl) (by decide) (by omega) (by decide) (fun c3 => ?_) (fun c3 => ?_)
  · refine zj_aload_n (zdk ttX1_comes 6 rfl rfl) rfl (by omega) ?_
    refine zj_getr (r := (c + 1)) (zdk ttX1_comes 7 rfl rfl) zf_RX1_9 rfl (k_1_0 s0 hc) (rf_1_0_0 s0 hc) ?_
    refine zj_aload_n (zdk ttX1_comes 8 rfl rfl) rfl (by omega) ?_
    refine zj_geti (v := (h.2 c 3)) (zdk ttX1_comes 9 rfl rfl) zf_RX1_21 rfl (k_1_0 s0 hc) rfl ?_
    refine zj_iload_n (zdk ttX1_comes 10 rfl rfl) rfl ?_
    refine zj_iast (zdk ttX1_comes 11 rfl rfl) (ka_1_0_0 s0 hc) (by decide) (by omega) (fun h4 e5 => ?_)
    refine zj_aload_n (zdk ttX1_comes 12 rfl rfl) rfl (by omega) ?_
    have s6 : okC h4 := aw_1_0_0 s0 hc e5 (by omega)
    refine zj_getr (r := (c + 2)) (zdk ttX1_comes 13 rfl rfl) zf_RX1_15 rfl (k_1_0 s6 hc) (rf_1_0_1 s6 hc) ?_
    refine zj_aload_n (zdk ttX1_comes 14 rfl rfl) rfl (by omega) ?_
    refine zj_geti (v := (h.2 c 3)) (zdk ttX1_comes 15 rfl rfl) zf_RX1_21 rfl (k_1_0 s6 hc) (zwr_r e5 (by first | decide | exact (absurd ·.1 (by decide)) | exact (absurd ·.2 (by decide)) | omega)) ?_
    refine zj_iload_n (zdk ttX1_comes 16 rfl rfl) rfl ?_
    refine zj_iast (zdk ttX1_comes 17 rfl rfl) (ka_1_0_1 s6 hc) (by decide) (by omega) (fun h7 e8 => ?_)
    refine zj_aload_n (zdk ttX1_comes 18 rfl rfl) rfl (by omega) ?_
    have s9 : okC h7 := aw_1_0_1 s6 hc e8 (by omega)
    refine zj_getr (r := (c + 3)) (zdk ttX1_comes 19 rfl rfl) zf_RX1_18 rfl (k_1_0 s9 hc) (rf_1_0_2 s9 hc) ?_
    refine zj_aload_n (zdk ttX1_comes 20 rfl rfl) rfl (by omega) ?_
    refine zj_geti (v := (h.2 c 3)) (zdk ttX1_comes 21 rfl rfl) zf_RX1_21 rfl (k_1_0 s9 hc) ((zwr_r e8 (by first | decide | exact (absurd ·.1 (by decide)) | exact (absurd ·.2 (by decide)) | omega)).trans (zwr_r e5 (by first | decide | exact (absurd ·.1 (by decide)) | exact (absurd ·.2 (by decide)) | omega))) ?_
    refine zj_iconst (zdk ttX1_comes 22 rfl rfl) ?_
    refine zj_iast (zdk ttX1_comes 23 rfl rfl) (ka_1_0_2 s9 hc) (by decide) (by omega) (fun h10 e11 => ?_)
    refine zj_aload_n (zdk ttX1_comes 24 rfl rfl) rfl (by omega) ?_
    refine zj_dup (zdk ttX1_comes 25 rfl rfl) ?_
    have b12 : -2147483648 ≤ (h.2 c 4) ∧ (h.2 c 4) ≤ 2147483647 := fb_1_0_4 s0 hc
    have s13 : okC h10 := aw_1_0_2 s9 hc e11 (by omega)
    refine zj_geti (v := (h.2 c 4)) (zdk ttX1_comes 26 rfl rfl) zf_RX1_25 rfl (k_1_0 s13 hc) (((zwr_r e11 (by first | decide | exact (absurd ·.1 (by decide)) | exact (absurd ·.2 (by decide)) | omega)).trans (zwr_r e8 (by first | decide | exact (absurd ·.1 (by decide)) | exact (absurd ·.2 (by decide)) | omega))).trans (zwr_r e5 (by first | decide | exact (absurd ·.1 (by decide)) | exact (absurd ·.2 (by decide)) | omega))) ?_
    refine zj_iconst (zdk ttX1_comes 27 rfl rfl) ?_
    refine zj_aload_n (zdk ttX1_comes 28 rfl rfl) rfl (by omega) ?_
    refine zj_geti (v := (h.2 c 3)) (zdk ttX1_comes 29 rfl rfl) zf_RX1_21 rfl (k_1_0 s13 hc) (((zwr_r e11 (by first | decide | exact (absurd ·.1 (by decide)) | exact (absurd ·.2 (by decide)) | omega)).trans (zwr_r e8 (by first | decide | exact (absurd ·.1 (by decide)) | exact (absurd ·.2 (by decide)) | omega))).trans (zwr_r e5 (by first | decide | exact (absurd ·.1 (by decide)) | exact (absurd ·.2 (by decide)) | omega))) ?_
    refine zj_ishl (zdk ttX1_comes 30 rfl rfl) ?_
    have b14 := zshl_1 (n := (h.2 c 3)) (a := 0) (b := 17) (lo := 1) (hi := 131072) (by omega) (by decide) (by decide) (by decide)
    refine zj_ior (zdk ttX1_comes 31 rfl rfl) ?_
    have b15 := zor_in (h.2 c 4) (zshl 1 (h.2 c 3))
    refine zj_puti (zdk ttX1_comes 32 rfl rfl) zf_RX1_25 rfl (k_1_0 s13 hc) (Or.inl zw_RX1_25) (k2 := 4) rfl (fun h16 e17 => ?_)
    refine zj_aload_n (zdk ttX1_comes 33 rfl rfl) rfl (by omega) ?_
    refine zj_dup (zdk ttX1_comes 34 rfl rfl) ?_
    have s18 : okC h16 := fw_1_0_4 s13 hc e17 (by omega)
    refine zj_geti (v := (h.2 c 3)) (zdk ttX1_comes 35 rfl rfl) zf_RX1_21 rfl (k_1_0 s18 hc) ((((zwr_r e17 (by first | decide | exact (absurd ·.1 (by decide)) | exact (absurd ·.2 (by decide)) | omega)).trans (zwr_r e11 (by first | decide | exact (absurd ·.1 (by decide)) | exact (absurd ·.2 (by decide)) | omega))).trans (zwr_r e8 (by first | decide | exact (absurd ·.1 (by decide)) | exact (absurd ·.2 (by decide)) | omega))).trans (zwr_r e5 (by first | decide | exact (absurd ·.1 (by decide)) | exact (absurd ·.2 (by decide)) | omega))) ?_
    refine zj_dup_x1 (zdk ttX1_comes 36 rfl rfl) ?_
    refine zj_iconst (zdk ttX1_comes 37 rfl rfl) ?_
    refine zj_iadd (zdk ttX1_comes 38 rfl rfl) ?_
    refine zj_puti (zdk ttX1_comes 39 rfl rfl) zf_RX1_21 rfl (k_1_0 s18 hc) (Or.inl zw_RX1_21) (k2 := 3) rfl (fun h19 e20 => ?_)
    have s21 : okC h19 := fw_1_0_3 s18 hc e20 (by omega)
    have f26 : zfC (w_X1_comes c) h h4 := zfC_w (zfC_r _ _) e5 (Or.inr (by omega))
    have f25 : zfC (w_X1_comes c) h h7 := zfC_w f26 e8 (Or.inr (by omega))
    have f24 : zfC (w_X1_comes c) h h10 := zfC_w f25 e11 (Or.inr (by omega))
    have f23 : zfC (w_X1_comes c) h h16 := zfC_w f24 e17 (Or.inl (by omega))
    have f22 : zfC (w_X1_comes c) h h19 := zfC_w f23 e20 (Or.inl (by omega))
    have b27 : h19.2 c 3 = ((h.2 c 3) + 1) := (zwr_v e20)
    exact zj_iret rfl (zdk ttX1_comes 40 rfl rfl) (Nat.le_refl _) (Nat.le_refl _) ⟨(h.2 c 3), rfl, by omega, s21, f22, by unfold zcm; omega, (by intro w E th x ec t0 n18 hw hl; subst ec; have g0 := xC_g t0; have eN : h.2 (w + 1) 3 = E.n := g0.1; have e1 : h4 = zwr h (w + 2) E.n p1 := (by have z8 := e5; rw [show w + 1 + 1 = w + 2 by omega, eN] at z8; exact z8); have e2 : h7 = zwr h4 (w + 3) E.n p2 := (by have z8 := e8; rw [show w + 1 + 2 = w + 3 by omega, eN] at z8; exact z8); have e3 : h10 = zwr h7 (w + 4) E.n 0 := (by have z8 := e11; rw [show w + 1 + 3 = w + 4 by omega, eN] at z8; exact z8); have v4 : (zor (h.2 (w + 1) 4) (zshl 1 (h.2 (w + 1) 3))) = zor (h.2 (w + 1) 4) (zshl 1 E.n) := (by rw [eN]); have e5 : h19 = zwr h16 (w + 1) 3 (E.n + 1) := (by have z8 := e20; rw [eN] at z8; exact z8); exact ⟨eN, xC_is t0 n18 hw hl e1 e2 e3 e17 v4 e5⟩)⟩
  · refine zj_iconst (zdk ttX1_comes 4 rfl rfl) ?_
    exact zj_iret rfl (zdk ttX1_comes 5 rfl rfl) (Nat.le_refl _) (Nat.le_refl _) ⟨(-1), rfl, by omega, s0, (zfC_r _ _), by unfold zcm; omega, (by intro w E th x ec t0 n18 hw hl; subst ec; have g0 := xC_g t0; exfalso; omega)⟩

abbrev q2_X10_islander (h : zM) (p1 : Int) (p2 : Int) : Option zV → zM → Prop := zqi fun v h' => ((-2147483648) ≤ v ∧ v ≤ 2147483647) ∧ okC h' ∧ zfC w_X10_islander h h' ∧ (zis p1 p2 (h.2 2 3) v (h'.2 2 3)) ∧ (zJP h → zJP h') ∧ (∀ z, xK h z → v = (pIsl p1 p2 z).1 ∧ xK h' (pIsl p1 p2 z).2)
set_option maxRecDepth 100000 in
set_option maxHeartbeats 4000000 in
theorem s2_X10_islander (l : Launch) (h : zM) (p1 : Int) (p2 : Int) (s0 : okC h) (b_p1 : (-2147483648) ≤ p1 ∧ p1 ≤ 2147483647) (b_p2 : (-2147483648) ≤ p2 ∧ p2 ≤ 2147483647) : zT shC l yX10_islander cX10_islander 4 (some .int) (rmL 2) 0 0 [.inr 0, .inl p1, .inl p2] h (q2_X10_islander h p1 p2) := by
  refine zT_of (by decide +kernel) (L0 := [some (.inr 0), some (.inl p1), some (.inl p2), none]) rfl (Nat.le_of_ble_eq_true rfl) ?_
  refine zj_aload_n (zdk ttX10_islander 0 rfl rfl) rfl (by decide) ?_
  refine zj_getr (r := 1) (zdk ttX10_islander 1 rfl rfl) zf_RX10_10 rfl (k_L0 s0) (rf_L0_0 s0) ?_
  refine zj_getr (r := 2) (zdk ttX10_islander 2 rfl rfl) zf_RX10_67 rfl (k_9_0 s0 zWd_1) (rf_9_0_0 s0 zWd_1) ?_
  refine zj_astore_n (L' := [some (.inr 0), some (.inl p1), some (.inl p2), some (.inr 2)]) (zdk ttX10_islander 3 rfl rfl) (by decide) (by decide) rfl ?_
  refine zj_iload_n (zdk ttX10_islander 4 rfl rfl) rfl ?_
  refine zj_iconst (zdk ttX10_islander 5 rfl rfl) ?_
  refine zj_sipush (zdk ttX10_islander 6 rfl rfl) (by decide) ?_
  refine zj_callS (av := [.inl p1, .inl 1, .inl 200]) (st := []) (zdk ttX10_islander 7 rfl rfl) mb_X10_within ms_RX10_77 rfl rfl (Nat.le_of_ble_eq_true rfl) (s_X10_within l h p1 1 200 s0 (by omega) (by omega) (by omega)) (rm_ok (by decide) (by decide)) (zq_i fun v2 h3 q1 => ?_)
  obtain ⟨rfl, ⟨rfl, b4⟩ | ⟨rfl, b4⟩⟩ := q1
  · refine zj_if_eq (t := 38) (zdk ttX10_islander 8 rfl rfl) (by decide) (by decide) (fun c5 => ?_) (fun c5 => ?_)
    · refine zj_iconst (zdk ttX10_islander 18 rfl rfl) ?_
      exact zj_iret rfl (zdk ttX10_islander 19 rfl rfl) (Nat.le_refl _) (Nat.le_refl _) ⟨(-1), rfl, by omega, s0, (zfC_r _ _), by unfold zis zisG; omega, (fun j => j), (by intro z t0; have g0 := xK_g t0; unfold pIsl; rw [if_neg (by omega)]; exact ⟨rfl, t0⟩)⟩
    · exact absurd c5 (by omega)
  · refine zj_if_eq (t := 38) (zdk ttX10_islander 8 rfl rfl) (by decide) (by decide) (fun c6 => ?_) (fun c6 => ?_)
    · exact absurd c6 (by omega)
    · refine zj_iload_n (zdk ttX10_islander 9 rfl rfl) rfl ?_
      refine zj_iconst (zdk ttX10_islander 10 rfl rfl) ?_
      refine zj_bipush (zdk ttX10_islander 11 rfl rfl) (by decide) ?_
      refine zj_callS (av := [.inl p2, .inl 0, .inl 9]) (st := []) (zdk ttX10_islander 12 rfl rfl) mb_X10_within ms_RX10_77 rfl rfl (Nat.le_of_ble_eq_true rfl) (s_X10_within l h p2 0 9 s0 (by omega) (by omega) (by omega)) (rm_ok (by decide) (by decide)) (zq_i fun v8 h9 q7 => ?_)
      obtain ⟨rfl, ⟨rfl, b10⟩ | ⟨rfl, b10⟩⟩ := q7
      · refine zj_if_eq (t := 38) (zdk ttX10_islander 13 rfl rfl) (by decide) (by decide) (fun c11 => ?_) (fun c11 => ?_)
        · refine zj_iconst (zdk ttX10_islander 18 rfl rfl) ?_
          exact zj_iret rfl (zdk ttX10_islander 19 rfl rfl) (Nat.le_refl _) (Nat.le_refl _) ⟨(-1), rfl, by omega, s0, (zfC_r _ _), by unfold zis zisG; omega, (fun j => j), (by intro z t0; have g0 := xK_g t0; unfold pIsl; rw [if_neg (by omega)]; exact ⟨rfl, t0⟩)⟩
        · exact absurd c11 (by omega)
      · refine zj_if_eq (t := 38) (zdk ttX10_islander 13 rfl rfl) (by decide) (by decide) (fun c12 => ?_) (fun c12 => ?_)
        · exact absurd c12 (by omega)
        · refine zj_aload_n (zdk ttX10_islander 14 rfl rfl) rfl (by decide) ?_
          have b13 : 0 ≤ (h.2 2 3) ∧ (h.2 2 3) ≤ 18 := fb_1_0_3 s0 zIs_2
          refine zj_geti (v := (h.2 2 3)) (zdk ttX10_islander 15 rfl rfl) zf_RX10_81 rfl (k_1_0 s0 zIs_2) rfl ?_
          refine zj_bipush (zdk ttX10_islander 16 rfl rfl) (by decide) ?_
          refine zj_icmp_lt (t := 40) (zdk ttX10_islander 17 rfl rfl) (by decide) (by omega) (by decide) (fun c14 => ?_) (fun c14 => ?_)
          · refine zj_aload_n (zdk ttX10_islander 20 rfl rfl) rfl (by decide) ?_
            refine zj_callV (av := []) (st := []) (zdk ttX10_islander 21 rfl rfl) mb_X10_forget mv_RX10_74 (ci := 10) rfl rfl (k_L0 s0) rfl rfl (Nat.le_of_ble_eq_true rfl) (s_X10_forget l h s0) (rm_ok (by decide) (by decide)) (zq_v fun h17 q15 => ?_)
            obtain ⟨s19, f21, u20⟩ := q15
            refine zj_aload_n (zdk ttX10_islander 22 rfl rfl) rfl (by decide) ?_
            refine zj_iload_n (zdk ttX10_islander 23 rfl rfl) rfl ?_
            refine zj_iload_n (zdk ttX10_islander 24 rfl rfl) rfl ?_
            refine zj_callV (av := [.inl p1, .inl p2]) (st := []) (zdk ttX10_islander 25 rfl rfl) mb_X1_comes mv_RX10_84 (ci := 1) rfl rfl (k_1_0 s19 zIs_2) rfl rfl (Nat.le_of_ble_eq_true rfl) (s2_X1_comes l h17 2 p1 p2 s19 zIs_2 (by omega) (by omega)) (rm_ok (by decide) (by decide)) (zq_i fun v23 h24 q22 => ?_)
            obtain ⟨b25, s26, f29, u27, u28⟩ := q22
            have f31 : zfC w_X10_islander h h17 := zfC_t (zfC_r _ _) f21 (fun a9 b9 z9 => by
              exact (Or.inl z9))
            have f30 : zfC w_X10_islander h h24 := zfC_t f31 f29 (fun a9 b9 z9 => by
              rcases z9 with z9 | z9
              · exact (Or.inr (Or.inl z9))
              · exact (Or.inr (Or.inr z9)))
            have b32 : h17.2 2 3 = (h.2 2 3) := (zfC_a f21 (fun z9 => by unfold w_X10_forget at z9; first | (revert z9; decide) | omega))
            have b33 : h24.2 0 8 = (h17.2 0 8) := (zfC_a f29 (fun z9 => by unfold w_X1_comes at z9; first | (revert z9; decide) | omega))
            exact zj_iret rfl (zdk ttX10_islander 26 rfl rfl) (Nat.le_refl _) (Nat.le_refl _) ⟨v23, rfl, by omega, s26, f30, by have z9 := u27; unfold zcm at z9; unfold zis zisG; omega, (fun _ => zJP_0 (by omega)), (by intro z t0; have g0 := xK_g t0; unfold pIsl; rw [if_pos (by omega)]; have t1 := (xC_f t0.1 (fun a9 b9 y9 => by unfold zD at y9; exact (zfC_a f21 (fun z9 => by unfold w_X10_forget at z9; first | (revert z9; decide) | omega)))); obtain ⟨v1, t2⟩ := u28 1 z.e false z.x rfl t1 (by omega) (by omega) (by omega); have e8 : h24.2 0 8 = 0 := ((zfC_a f29 (fun z9 => by unfold w_X1_comes at z9; first | (revert z9; decide) | omega))).trans u20; exact ⟨v1, xK_0 t0 t2 e8 ((zfC_a f29 (fun z9 => by unfold w_X1_comes at z9; first | (revert z9; decide) | omega)).trans (zfC_a f21 (fun z9 => by unfold w_X10_forget at z9; first | (revert z9; decide) | omega))) (fun a9 b9 y9 => by unfold zD at y9; exact ((zfC_a f29 (fun z9 => by unfold w_X1_comes at z9; first | (revert z9; decide) | omega)).trans (zfC_a f21 (fun z9 => by unfold w_X10_forget at z9; first | (revert z9; decide) | omega)))) (fun b9 => ((zfC_a f29 (fun z9 => by unfold w_X1_comes at z9; first | (revert z9; decide) | omega)).trans (zfC_a f21 (fun z9 => by unfold w_X10_forget at z9; first | (revert z9; decide) | omega))))⟩)⟩
          · refine zj_iconst (zdk ttX10_islander 18 rfl rfl) ?_
            exact zj_iret rfl (zdk ttX10_islander 19 rfl rfl) (Nat.le_refl _) (Nat.le_refl _) ⟨(-1), rfl, by omega, s0, (zfC_r _ _), by unfold zis zisG; omega, (fun j => j), (by intro z t0; have g0 := xK_g t0; unfold pIsl; rw [if_neg (by omega)]; exact ⟨rfl, t0⟩)⟩

