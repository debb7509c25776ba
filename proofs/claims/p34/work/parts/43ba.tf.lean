abbrev q2_X11_errs (h : zM) (p1 : Int) : Option zV → zM → Prop := zqi fun v h' => ((-1) ≤ v ∧ v ≤ (-1)) ∧ okM h' ∧ zfr [29, 30] [] h h' ∧ (h'.2 0 29 = p1 ∧ h'.2 0 30 = h.2 0 13)
set_option maxRecDepth 100000 in
set_option maxHeartbeats 4000000 in
theorem s2_X11_errs (l : Launch) (h : zM) (p1 : Int) (s0 : okM h) (b_p1 : (-2147483648) ≤ p1 ∧ p1 ≤ 2147483647) : zT shM l yX11_errs cX11_errs 2 (some .int) (rmL 1) 0 0 [.inr 0, .inl p1] h (q2_X11_errs h p1) := by
  refine zT_of (by decide +kernel) (L0 := [some (.inr 0), some (.inl p1)]) rfl (Nat.le_of_ble_eq_true rfl) ?_
  refine zj_aload_n (zdk ttX11_errs 0 rfl rfl) rfl (by decide) ?_
  refine zj_iload_n (zdk ttX11_errs 1 rfl rfl) rfl ?_
  refine zj_puti (zdk ttX11_errs 2 rfl rfl) zf_RX11_185 rfl (k_M s0) (Or.inl zw_RX11_185) (k2 := 29) rfl (fun h1 e2 => ?_)
  refine zj_aload_n (zdk ttX11_errs 3 rfl rfl) rfl (by decide) ?_
  refine zj_aload_n (zdk ttX11_errs 4 rfl rfl) rfl (by decide) ?_
  have b3 : 0 ≤ (h.2 0 13) ∧ (h.2 0 13) ≤ 400 := fM_13 s0
  have s4 : okM h1 := fwM_29 s0 e2 (by omega)
  refine zj_geti (v := (h.2 0 13)) (zdk ttX11_errs 5 rfl rfl) zf_RX11_163 rfl (k_M s4) (zwr_r e2 (by first | decide | exact (absurd ·.1 (by decide)) | exact (absurd ·.2 (by decide)) | omega)) ?_
  refine zj_puti (zdk ttX11_errs 6 rfl rfl) zf_RX11_188 rfl (k_M s4) (Or.inl zw_RX11_188) (k2 := 30) rfl (fun h5 e6 => ?_)
  refine zj_iconst (zdk ttX11_errs 7 rfl rfl) ?_
  have s7 : okM h5 := fwM_30 s4 e6 (by omega)
  have f9 : zfr [29, 30] [] h h1 := zfr_wf (zfr_r _ _ _) e2 rfl
  have f8 : zfr [29, 30] [] h h5 := zfr_wf f9 e6 rfl
  exact zj_iret rfl (zdk ttX11_errs 8 rfl rfl) (Nat.le_refl _) (Nat.le_refl _) ⟨(-1), rfl, by omega, s7, f8, ⟨(zwr_r e6 (by first | decide | exact (absurd ·.1 (by decide)) | exact (absurd ·.2 (by decide)) | omega)).trans (zwr_v e2), zwr_v e6⟩⟩

abbrev q2_X11_readUnit (h : zM) : Option zV → zM → Prop := zqi fun v h' => ((-1) ≤ v ∧ v ≤ 0) ∧ okM h' ∧ zfr [12, 13, 14, 15, 25, 29, 30] [14, 15] h h' ∧ (v = 0 → RD h h') ∧ (v = 0 → h'.2 0 25 = h.2 0 25 + 1 ∧ (h.2 0 14 = 3 → dop h' (h.2 0 25) = 0 ∧ dar h' (h.2 0 25) = h.2 0 15)) ∧ (tLo h h') ∧ (∀ T j, tPm 0 T j h → (v = 0 → 0 ≤ tOp 0 (T j) ∧ tPm 0 T (j + 1) h' ∧ tCm h' = tOp 0 (T j) :: tCm h) ∧ (v = -1 → tOp 0 (T j) < 0 ∧ tEp h h' j (-(tOp 0 (T j)))))
set_option maxRecDepth 100000 in
set_option maxHeartbeats 4000000 in
theorem s2_X11_readUnit (l : Launch) (h : zM) (s0 : okM h) (u_0 : tok h) (u_1 : h.2 0 25 ≤ h.2 0 13) : zT shM l yX11_readUnit cX11_readUnit 2 (some .int) (rmL 4) 0 0 [.inr 0] h (q2_X11_readUnit h) := by
  refine zT_of (by decide +kernel) (L0 := [some (.inr 0), none]) rfl (Nat.le_of_ble_eq_true rfl) ?_
  refine zj_aload_n (zdk ttX11_readUnit 0 rfl rfl) rfl (by decide) ?_
  have b1 : 0 ≤ (h.2 0 14) ∧ (h.2 0 14) ≤ 4 := fM_14 s0
  refine zj_geti (v := (h.2 0 14)) (zdk ttX11_readUnit 1 rfl rfl) zf_RX11_166 rfl (k_M s0) rfl ?_
  refine zj_iconst (zdk ttX11_readUnit 2 rfl rfl) ?_
  refine zj_icmp_ne (t := 23) (zdk ttX11_readUnit 3 rfl rfl) (by decide) (by omega) (by decide) (fun c2 => ?_) (fun c2 => ?_)
  · refine zj_iconst (zdk ttX11_readUnit 11 rfl rfl) ?_
    refine zj_istore_n (L' := [some (.inr 0), some (.inl 0)]) (zdk ttX11_readUnit 12 rfl rfl) (by decide) rfl ?_
    refine zj_iload_n (zdk ttX11_readUnit 13 rfl rfl) rfl ?_
    refine zj_if_ne (t := 43) (zdk ttX11_readUnit 14 rfl rfl) (by decide) (by decide) (fun c3 => ?_) (fun c3 => ?_)
    · exact absurd c3 (by omega)
    · refine zj_aload_n (zdk ttX11_readUnit 15 rfl rfl) rfl (by decide) ?_
      refine zj_geti (v := (h.2 0 14)) (zdk ttX11_readUnit 16 rfl rfl) zf_RX11_166 rfl (k_M s0) rfl ?_
      refine zj_iconst (zdk ttX11_readUnit 17 rfl rfl) ?_
      refine zj_icmp_eq (t := 43) (zdk ttX11_readUnit 18 rfl rfl) (by decide) (by omega) (by decide) (fun c4 => ?_) (fun c4 => ?_)
      · refine zj_aload_n (zdk ttX11_readUnit 23 rfl rfl) rfl (by decide) ?_
        refine zj_iload_n (zdk ttX11_readUnit 24 rfl rfl) rfl ?_
        refine zj_if_eq (t := 52) (zdk ttX11_readUnit 25 rfl rfl) (by decide) (by decide) (fun c5 => ?_) (fun c5 => ?_)
        · refine zj_iconst (zdk ttX11_readUnit 28 rfl rfl) ?_
          refine zj_iload_n (zdk ttX11_readUnit 29 rfl rfl) rfl ?_
          refine zj_if_eq (t := 67) (zdk ttX11_readUnit 30 rfl rfl) (by decide) (by decide) (fun c6 => ?_) (fun c6 => ?_)
          · refine zj_aload_n (zdk ttX11_readUnit 36 rfl rfl) rfl (by decide) ?_
            have b7 : -2147483648 ≤ (h.2 0 15) ∧ (h.2 0 15) ≤ 2147483647 := fM_15 s0
            refine zj_geti (v := (h.2 0 15)) (zdk ttX11_readUnit 37 rfl rfl) zf_RX11_169 rfl (k_M s0) rfl ?_
            have b8 : 0 ≤ (h.2 0 12) ∧ (h.2 0 12) ≤ 400 := fM_12 s0
            have b9 : 0 ≤ (h.2 0 13) ∧ (h.2 0 13) ≤ 400 := fM_13 s0
            have b10 : 0 ≤ (h.2 0 25) ∧ (h.2 0 25) ≤ 400 := fM_25 s0
            have t11 : tok h := u_0
            unfold tok at t11
            refine zj_callV (av := [.inl 0, .inl (h.2 0 15)]) (st := []) (zdk ttX11_readUnit 38 rfl rfl) mb_X11_emits mv_RX11_200 (ci := 11) rfl rfl (k_M s0) rfl rfl (Nat.le_of_ble_eq_true rfl) (s_X11_emits l h 0 (h.2 0 15) s0 (by omega) (by omega) (by omega)) (rm_ok (by decide) (by decide)) (zq_v fun h14 q12 => ?_)
            obtain ⟨s16, f18, u17⟩ := q12
            refine zj_aload_n (zdk ttX11_readUnit 39 rfl rfl) rfl (by decide) ?_
            refine zj_callV (av := []) (st := []) (zdk ttX11_readUnit 40 rfl rfl) mb_X11_reads mv_RX11_204 (ci := 11) rfl rfl (k_M s16) rfl rfl (Nat.le_of_ble_eq_true rfl) (s2_X11_reads l h14 s16) (rm_ok (by decide) (by decide)) (zq_v fun h21 q19 => ?_)
            obtain ⟨s23, f27, u24, u25, u26⟩ := q19
            refine zj_iconst (zdk ttX11_readUnit 41 rfl rfl) ?_
            have f29 : zfr [12, 13, 14, 15, 25, 29, 30] [14, 15] h h14 := zfr_t (zfr_r _ _ _) f18 rfl rfl
            have f28 : zfr [12, 13, 14, 15, 25, 29, 30] [14, 15] h h21 := zfr_t f29 f27 rfl rfl
            have r30B : rdB (-1) h h14 := rdB_t (rdB_r h) (rdB_em u17 f18) (by omega)
            have r30P : rdP 1 h h14 := rdP_t (rdP_r h) (rdP_push u17 (by omega)) (by omega) (by omega)
            have b32 : h14.2 0 12 = (h.2 0 12) := (zfr_f f18 rfl rfl)
            have b33 : h14.2 0 13 = (h.2 0 13) := (zfr_f f18 rfl rfl)
            have b34 : h14.2 0 14 = (h.2 0 14) := (zfr_f f18 rfl rfl)
            have b35 : 0 ≤ (h14.2 0 25) ∧ (h14.2 0 25) ≤ 400 := fM_25 s16
            have b36 : 0 ≤ (h21.2 0 12) ∧ (h21.2 0 12) ≤ 400 := fM_12 s23
            have b37 : 0 ≤ (h21.2 0 13) ∧ (h21.2 0 13) ≤ 400 := fM_13 s23
            have b38 : 0 ≤ (h21.2 0 14) ∧ (h21.2 0 14) ≤ 4 := fM_14 s23
            have b39 : h21.2 0 25 = (h14.2 0 25) := (zfr_f f27 rfl rfl)
            have t40 : tok h14 := (tok_same u_0 f18 rfl rfl rfl rfl)
            unfold tok at t40
            have r31B : rdB 0 h h21 := rdB_t r30B (rdB_same (s := 1) f27 rfl (by omega)) (by omega)
            have r31P : rdP 1 h h21 := rdP_t r30P (rdP_same f27 rfl) (by omega) (by omega)
            have b41 := u17.1
            have b42 : h14.2 0 14 = (h.2 0 14) := (zfr_f f18 rfl rfl)
            have b43 : h14.2 0 15 = (h.2 0 15) := (zfr_f f18 rfl rfl)
            have b44 : -2147483648 ≤ (h21.2 0 15) ∧ (h21.2 0 15) ≤ 2147483647 := fM_15 s23
            exact zj_iret rfl (zdk ttX11_readUnit 42 rfl rfl) (Nat.le_refl _) (Nat.le_refl _) ⟨0, rfl, by omega, s23, f28, (fun _ => ⟨u24, rdB_t r31B (rdB_r _) (by omega), r31P⟩), (fun _ => ⟨by omega, fun q => ⟨by rw [(zd_same f27).1]; exact u17.2.1.1, by rw [(zd_same f27).2]; exact u17.2.1.2⟩⟩), (tLo_f (tLo_e tLo_r (fM_25 s0).1 u17) (fun i => zfr_a f27 rfl (by decide)) (fun i => zfr_a f27 rfl (by decide))), (by intro T j t0; have k_1 := tT0 t0.2.2.1; have k_1j := t0.1.1; have o9 := tOp_f 0 (T j); have a_2 : tPm 0 T j h14 := tPm_f t0 (fun k => (zfr_a f18 rfl (by decide))) (fun k => (zfr_a f18 rfl (by decide))) (zfr_f f18 rfl rfl) (zfr_f f18 rfl rfl) (zfr_f f18 rfl rfl) (zfr_f f18 rfl rfl) (zfr_f f18 rfl rfl); have k_3 := tT0 a_2.2.2.1; have k_3j := a_2.1.1; have a_4 : tPm 0 T (j + 1) h21 := tPm_r a_2 (by omega) (u26 a_2.2.2.2.2.2.1 (tPm_l a_2 (by omega))) (fun k => (zfr_a f27 rfl (by decide))) (fun k => (zfr_a f27 rfl (by decide))) (zfr_f f27 rfl rfl); have c_5 : tCm h14 = tEo 0 (h.2 0 15) :: tCm h := (tCm_e (fM_25 s0).1 u17).trans (congrArg _ (rfl : tCm h = tCm h)); have c_6 : tCm h21 = (tEo 0 (h.2 0 15) :: tCm h) := (tCm_f (zfr_f f27 rfl rfl) (fun i => zfr_a f27 rfl (by decide)) (fun i => zfr_a f27 rfl (by decide))).trans c_5; have q9 := tEo_f 0 (h.2 0 15); exact ⟨fun _ => ⟨by omega, a_4, c_6.trans (by rw [show tEo 0 (h.2 0 15) = tOp 0 (T j) by omega])⟩, fun z => absurd z (by omega)⟩)⟩
          · exact absurd c6 (by omega)
        · exact absurd c5 (by omega)
      · refine zj_aload_n (zdk ttX11_readUnit 19 rfl rfl) rfl (by decide) ?_
        refine zj_iconst (zdk ttX11_readUnit 20 rfl rfl) ?_
        refine zj_callV (av := [.inl 1]) (st := []) (zdk ttX11_readUnit 21 rfl rfl) mb_X11_errs mv_RX11_197 (ci := 11) rfl rfl (k_M s0) rfl rfl (Nat.le_of_ble_eq_true rfl) (s2_X11_errs l h 1 s0 (by omega)) (rm_ok (by decide) (by decide)) (zq_i fun v46 h47 q45 => ?_)
        obtain ⟨b48, s49, f51, u50⟩ := q45
        have f52 : zfr [12, 13, 14, 15, 25, 29, 30] [14, 15] h h47 := zfr_t (zfr_r _ _ _) f51 rfl rfl
        have b53 : -2147483648 ≤ (h.2 0 15) ∧ (h.2 0 15) ≤ 2147483647 := fM_15 s0
        have b54 : h47.2 0 14 = (h.2 0 14) := (zfr_f f51 rfl rfl)
        have b55 : h47.2 0 15 = (h.2 0 15) := (zfr_f f51 rfl rfl)
        exact zj_iret rfl (zdk ttX11_readUnit 22 rfl rfl) (Nat.le_refl _) (Nat.le_refl _) ⟨v46, rfl, by omega, s49, f52, (fun q => absurd q (by omega)), (fun q => absurd q (by omega)), (tLo_f tLo_r (fun i => zfr_a f51 rfl (by decide)) (fun i => zfr_a f51 rfl (by decide))), (by intro T j t0; have k_1 := tT0 t0.2.2.1; have k_1j := t0.1.1; have o9 := tOp_f 0 (T j); have e_2 : tEp h h47 j 1 := ⟨u50.1, t0.1.1, by have q9 := t0.2.1; rw [show h.2 7 = h.2 7 from funext fun i9 => rfl, show h.2 0 11 = h.2 0 11 from rfl] at q9; rw [u50.2]; exact q9⟩; exact ⟨fun z => absurd z (by omega), fun _ => ⟨by omega, by rw [show -(tOp 0 (T j)) = 1 by omega]; exact e_2⟩⟩)⟩
  · refine zj_aload_n (zdk ttX11_readUnit 4 rfl rfl) rfl (by decide) ?_
    refine zj_aload_n (zdk ttX11_readUnit 5 rfl rfl) rfl (by decide) ?_
    have b56 : -2147483648 ≤ (h.2 0 15) ∧ (h.2 0 15) ≤ 2147483647 := fM_15 s0
    refine zj_geti (v := (h.2 0 15)) (zdk ttX11_readUnit 6 rfl rfl) zf_RX11_169 rfl (k_M s0) rfl ?_
    refine zj_callV (av := [.inl (h.2 0 15)]) (st := []) (zdk ttX11_readUnit 7 rfl rfl) mb_X11_canAsk mv_RX11_194 (ci := 11) rfl rfl (k_M s0) rfl rfl (Nat.le_of_ble_eq_true rfl) (s_X11_canAsk l h (h.2 0 15) s0 (by omega)) (rm_ok (by decide) (by decide)) (zq_i fun v58 h59 q57 => ?_)
    obtain ⟨rfl, ⟨rfl, b60⟩ | ⟨rfl, b60⟩⟩ := q57
    · refine zj_if_eq (t := 23) (zdk ttX11_readUnit 8 rfl rfl) (by decide) (by decide) (fun c61 => ?_) (fun c61 => ?_)
      · refine zj_iconst (zdk ttX11_readUnit 11 rfl rfl) ?_
        refine zj_istore_n (L' := [some (.inr 0), some (.inl 0)]) (zdk ttX11_readUnit 12 rfl rfl) (by decide) rfl ?_
        refine zj_iload_n (zdk ttX11_readUnit 13 rfl rfl) rfl ?_
        refine zj_if_ne (t := 43) (zdk ttX11_readUnit 14 rfl rfl) (by decide) (by decide) (fun c62 => ?_) (fun c62 => ?_)
        · exact absurd c62 (by omega)
        · refine zj_aload_n (zdk ttX11_readUnit 15 rfl rfl) rfl (by decide) ?_
          refine zj_geti (v := (h.2 0 14)) (zdk ttX11_readUnit 16 rfl rfl) zf_RX11_166 rfl (k_M s0) rfl ?_
          refine zj_iconst (zdk ttX11_readUnit 17 rfl rfl) ?_
          refine zj_icmp_eq (t := 43) (zdk ttX11_readUnit 18 rfl rfl) (by decide) (by omega) (by decide) (fun c63 => ?_) (fun c63 => ?_)
          · exact absurd c63 (by omega)
          · refine zj_aload_n (zdk ttX11_readUnit 19 rfl rfl) rfl (by decide) ?_
            refine zj_iconst (zdk ttX11_readUnit 20 rfl rfl) ?_
            refine zj_callV (av := [.inl 1]) (st := []) (zdk ttX11_readUnit 21 rfl rfl) mb_X11_errs mv_RX11_197 (ci := 11) rfl rfl (k_M s0) rfl rfl (Nat.le_of_ble_eq_true rfl) (s2_X11_errs l h 1 s0 (by omega)) (rm_ok (by decide) (by decide)) (zq_i fun v65 h66 q64 => ?_)
            obtain ⟨b67, s68, f70, u69⟩ := q64
            have f71 : zfr [12, 13, 14, 15, 25, 29, 30] [14, 15] h h66 := zfr_t (zfr_r _ _ _) f70 rfl rfl
            have b72 : h66.2 0 14 = (h.2 0 14) := (zfr_f f70 rfl rfl)
            have b73 : h66.2 0 15 = (h.2 0 15) := (zfr_f f70 rfl rfl)
            exact zj_iret rfl (zdk ttX11_readUnit 22 rfl rfl) (Nat.le_refl _) (Nat.le_refl _) ⟨v65, rfl, by omega, s68, f71, (fun q => absurd q (by omega)), (fun q => absurd q (by omega)), (tLo_f tLo_r (fun i => zfr_a f70 rfl (by decide)) (fun i => zfr_a f70 rfl (by decide))), (by intro T j t0; have k_1 := tT0 t0.2.2.1; have k_1j := t0.1.1; have o9 := tOp_f 0 (T j); have e_2 : tEp h h66 j 1 := ⟨u69.1, t0.1.1, by have q9 := t0.2.1; rw [show h.2 7 = h.2 7 from funext fun i9 => rfl, show h.2 0 11 = h.2 0 11 from rfl] at q9; rw [u69.2]; exact q9⟩; exact ⟨fun z => absurd z (by omega), fun _ => ⟨by omega, by rw [show -(tOp 0 (T j)) = 1 by omega]; exact e_2⟩⟩)⟩
      · exact absurd c61 (by omega)
    · refine zj_if_eq (t := 23) (zdk ttX11_readUnit 8 rfl rfl) (by decide) (by decide) (fun c74 => ?_) (fun c74 => ?_)
      · exact absurd c74 (by omega)
      · refine zj_iconst (zdk ttX11_readUnit 9 rfl rfl) ?_
        refine zj_goto (t := 24) (zdk ttX11_readUnit 10 rfl rfl) (by decide) ?_
        refine zj_istore_n (L' := [some (.inr 0), some (.inl 1)]) (zdk ttX11_readUnit 12 rfl rfl) (by decide) rfl ?_
        refine zj_iload_n (zdk ttX11_readUnit 13 rfl rfl) rfl ?_
        refine zj_if_ne (t := 43) (zdk ttX11_readUnit 14 rfl rfl) (by decide) (by decide) (fun c75 => ?_) (fun c75 => ?_)
        · refine zj_aload_n (zdk ttX11_readUnit 23 rfl rfl) rfl (by decide) ?_
          refine zj_iload_n (zdk ttX11_readUnit 24 rfl rfl) rfl ?_
          refine zj_if_eq (t := 52) (zdk ttX11_readUnit 25 rfl rfl) (by decide) (by decide) (fun c76 => ?_) (fun c76 => ?_)
          · exact absurd c76 (by omega)
          · refine zj_iconst (zdk ttX11_readUnit 26 rfl rfl) ?_
            refine zj_goto (t := 53) (zdk ttX11_readUnit 27 rfl rfl) (by decide) ?_
            refine zj_iload_n (zdk ttX11_readUnit 29 rfl rfl) rfl ?_
            refine zj_if_eq (t := 67) (zdk ttX11_readUnit 30 rfl rfl) (by decide) (by decide) (fun c77 => ?_) (fun c77 => ?_)
            · exact absurd c77 (by omega)
            · refine zj_aload_n (zdk ttX11_readUnit 31 rfl rfl) rfl (by decide) ?_
              refine zj_geti (v := (h.2 0 15)) (zdk ttX11_readUnit 32 rfl rfl) zf_RX11_169 rfl (k_M s0) rfl ?_
              refine zj_bipush (zdk ttX11_readUnit 33 rfl rfl) (by decide) ?_
              refine zj_isub (zdk ttX11_readUnit 34 rfl rfl) ?_
              refine zj_goto (t := 71) (zdk ttX11_readUnit 35 rfl rfl) (by decide) ?_
              have b78 : 0 ≤ (h.2 0 12) ∧ (h.2 0 12) ≤ 400 := fM_12 s0
              have b79 : 0 ≤ (h.2 0 13) ∧ (h.2 0 13) ≤ 400 := fM_13 s0
              have b80 : 0 ≤ (h.2 0 25) ∧ (h.2 0 25) ≤ 400 := fM_25 s0
              have t81 : tok h := u_0
              unfold tok at t81
              refine zj_callV (av := [.inl 1, .inl ((h.2 0 15) - 7)]) (st := []) (zdk ttX11_readUnit 38 rfl rfl) mb_X11_emits mv_RX11_200 (ci := 11) rfl rfl (k_M s0) rfl rfl (Nat.le_of_ble_eq_true rfl) (s_X11_emits l h 1 ((h.2 0 15) - 7) s0 (by omega) (by omega) (by omega)) (rm_ok (by decide) (by decide)) (zq_v fun h84 q82 => ?_)
              obtain ⟨s86, f88, u87⟩ := q82
              refine zj_aload_n (zdk ttX11_readUnit 39 rfl rfl) rfl (by decide) ?_
              refine zj_callV (av := []) (st := []) (zdk ttX11_readUnit 40 rfl rfl) mb_X11_reads mv_RX11_204 (ci := 11) rfl rfl (k_M s86) rfl rfl (Nat.le_of_ble_eq_true rfl) (s2_X11_reads l h84 s86) (rm_ok (by decide) (by decide)) (zq_v fun h91 q89 => ?_)
              obtain ⟨s93, f97, u94, u95, u96⟩ := q89
              refine zj_iconst (zdk ttX11_readUnit 41 rfl rfl) ?_
              have f99 : zfr [12, 13, 14, 15, 25, 29, 30] [14, 15] h h84 := zfr_t (zfr_r _ _ _) f88 rfl rfl
              have f98 : zfr [12, 13, 14, 15, 25, 29, 30] [14, 15] h h91 := zfr_t f99 f97 rfl rfl
              have r100B : rdB (-1) h h84 := rdB_t (rdB_r h) (rdB_em u87 f88) (by omega)
              have r100P : rdP 1 h h84 := rdP_t (rdP_r h) (rdP_push u87 (by omega)) (by omega) (by omega)
              have b102 : h84.2 0 12 = (h.2 0 12) := (zfr_f f88 rfl rfl)
              have b103 : h84.2 0 13 = (h.2 0 13) := (zfr_f f88 rfl rfl)
              have b104 : h84.2 0 14 = (h.2 0 14) := (zfr_f f88 rfl rfl)
              have b105 : 0 ≤ (h84.2 0 25) ∧ (h84.2 0 25) ≤ 400 := fM_25 s86
              have b106 : 0 ≤ (h91.2 0 12) ∧ (h91.2 0 12) ≤ 400 := fM_12 s93
              have b107 : 0 ≤ (h91.2 0 13) ∧ (h91.2 0 13) ≤ 400 := fM_13 s93
              have b108 : 0 ≤ (h91.2 0 14) ∧ (h91.2 0 14) ≤ 4 := fM_14 s93
              have b109 : h91.2 0 25 = (h84.2 0 25) := (zfr_f f97 rfl rfl)
              have t110 : tok h84 := (tok_same u_0 f88 rfl rfl rfl rfl)
              unfold tok at t110
              have r101B : rdB 0 h h91 := rdB_t r100B (rdB_same (s := 1) f97 rfl (by omega)) (by omega)
              have r101P : rdP 1 h h91 := rdP_t r100P (rdP_same f97 rfl) (by omega) (by omega)
              have b111 := u87.1
              have b112 : h84.2 0 14 = (h.2 0 14) := (zfr_f f88 rfl rfl)
              have b113 : h84.2 0 15 = (h.2 0 15) := (zfr_f f88 rfl rfl)
              have b114 : -2147483648 ≤ (h91.2 0 15) ∧ (h91.2 0 15) ≤ 2147483647 := fM_15 s93
              exact zj_iret rfl (zdk ttX11_readUnit 42 rfl rfl) (Nat.le_refl _) (Nat.le_refl _) ⟨0, rfl, by omega, s93, f98, (fun _ => ⟨u94, rdB_t r101B (rdB_r _) (by omega), r101P⟩), (fun _ => ⟨by omega, fun q => absurd q (by omega)⟩), (tLo_f (tLo_e tLo_r (fM_25 s0).1 u87) (fun i => zfr_a f97 rfl (by decide)) (fun i => zfr_a f97 rfl (by decide))), (by intro T j t0; have k_1 := tT0 t0.2.2.1; have k_1j := t0.1.1; have o9 := tOp_f 0 (T j); have a_2 : tPm 0 T j h84 := tPm_f t0 (fun k => (zfr_a f88 rfl (by decide))) (fun k => (zfr_a f88 rfl (by decide))) (zfr_f f88 rfl rfl) (zfr_f f88 rfl rfl) (zfr_f f88 rfl rfl) (zfr_f f88 rfl rfl) (zfr_f f88 rfl rfl); have k_3 := tT0 a_2.2.2.1; have k_3j := a_2.1.1; have a_4 : tPm 0 T (j + 1) h91 := tPm_r a_2 (by omega) (u96 a_2.2.2.2.2.2.1 (tPm_l a_2 (by omega))) (fun k => (zfr_a f97 rfl (by decide))) (fun k => (zfr_a f97 rfl (by decide))) (zfr_f f97 rfl rfl); have c_5 : tCm h84 = tEo 1 ((h.2 0 15) - 7) :: tCm h := (tCm_e (fM_25 s0).1 u87).trans (congrArg _ (rfl : tCm h = tCm h)); have c_6 : tCm h91 = (tEo 1 ((h.2 0 15) - 7) :: tCm h) := (tCm_f (zfr_f f97 rfl rfl) (fun i => zfr_a f97 rfl (by decide)) (fun i => zfr_a f97 rfl (by decide))).trans c_5; have q9 := tEo_f 1 ((h.2 0 15) - 7); exact ⟨fun _ => ⟨by omega, a_4, c_6.trans (by rw [show tEo 1 ((h.2 0 15) - 7) = tOp 0 (T j) by omega])⟩, fun z => absurd z (by omega)⟩)⟩
        · exact absurd c75 (by omega)

