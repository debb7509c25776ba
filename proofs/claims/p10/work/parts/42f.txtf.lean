abbrev q2_X11_errs (h : zM) (p1 : Int) : Option zV → zM → Prop := zqi fun v h' => ((-1) ≤ v ∧ v ≤ (-1)) ∧ okM h' ∧ zfr [29, 30] [] h h' ∧ (h'.2 0 29 = p1 ∧ h'.2 0 30 = h.2 0 13)
set_option maxRecDepth 100000 in
set_option maxHeartbeats 4000000 in
theorem s2_X11_errs (l : Launch) (h : zM) (p1 : Int) (s0 : okM h) (b_p1 : (-2147483648) ≤ p1 ∧ p1 ≤ 2147483647) : zT shM l yX11_errs cX11_errs 2 (some .int) (rmL 1) 0 0 [.inr 0, .inl p1] h (q2_X11_errs h p1) := by
  refine zT_of (by decide +kernel) (L0 := [some (.inr 0), some (.inl p1)]) rfl (Nat.le_of_ble_eq_true rfl) ?_
  refine zj_aload_n (zdk ttX11_errs 0 rfl rfl) rfl (by decide) ?_
  refine zj_iload_n (zdk ttX11_errs 1 rfl rfl) rfl ?_
  refine zj_puti (zdk ttX11_errs 2 rfl rfl) zf_RX11_185 rfl (k_M s0) (Or.inl zw_RX11_185) (k2 := 29) rfl (fun h1 e2 => ?_)
  refine zj_aload_n (zdk ttX11_errs 3 rfl rfl) rfl (by decide) ?_
  refine zj_aload_n (zdk ttX11_errs 4 rfl rfl) rfl (by decide) ?_
  have b3 : 0 ≤ (h.2 0 13) ∧ (h.2 0 13) ≤ 400 := fM_13 s0
  have s4 : okM h1 := fwM_29 s0 e2 (by omega)
  refine zj_geti (v := (h.2 0 13)) (zdk ttX11_errs 5 rfl rfl) zf_RX11_163 rfl (k_M s4) (zwr_r e2 (by first | decide | exact (absurd ·.1 (by decide)) | exact (absurd ·.2 (by decide)) | omega)) ?_
  refine zj_puti (zdk ttX11_errs 6 rfl rfl) zf_RX11_188 rfl (k_M s4) (Or.inl zw_RX11_188) (k2 := 30) rfl (fun h5 e6 => ?_)
  refine zj_iconst (zdk ttX11_errs 7 rfl rfl) ?_
  have s7 : okM h5 := fwM_30 s4 e6 (by omega)
  have f9 : zfr [29, 30] [] h h1 := zfr_wf (zfr_r _ _ _) e2 rfl
  have f8 : zfr [29, 30] [] h h5 := zfr_wf f9 e6 rfl
  exact zj_iret rfl (zdk ttX11_errs 8 rfl rfl) (Nat.le_refl _) (Nat.le_refl _) ⟨(-1), rfl, by omega, s7, f8, ⟨(zwr_r e6 (by first | decide | exact (absurd ·.1 (by decide)) | exact (absurd ·.2 (by decide)) | omega)).trans (zwr_v e2), zwr_v e6⟩⟩

abbrev q2_X11_readUnit (h : zM) : Option zV → zM → Prop := zqi fun v h' => ((-1) ≤ v ∧ v ≤ 0) ∧ okM h' ∧ zfr [12, 13, 14, 15, 25, 29, 30] [14, 15] h h' ∧ (v = 0 → RD h h') ∧ (v = 0 → h'.2 0 25 = h.2 0 25 + 1 ∧ (h.2 0 14 = 3 → dop h' (h.2 0 25) = 0 ∧ dar h' (h.2 0 25) = h.2 0 15)) ∧ (∀ T j, tPm 0 T j h → (v = 0 → 0 ≤ tOp 0 (T j) ∧ tPm 0 T (j + 1) h') ∧ (v = -1 → tOp 0 (T j) < 0 ∧ tEp h h' j (-(tOp 0 (T j)))))
set_option maxRecDepth 100000 in
set_option maxHeartbeats 4000000 in
theorem s2_X11_readUnit (l : Launch) (h : zM) (s0 : okM h) (u_0 : tok h) (u_1 : h.2 0 25 ≤ h.2 0 13) : zT shM l yX11_readUnit cX11_readUnit 2 (some .int) (rmL 4) 0 0 [.inr 0] h (q2_X11_readUnit h) := by
  refine zT_of (by decide +kernel) (L0 := [some (.inr 0), none]) rfl (Nat.le_of_ble_eq_true rfl) ?_
  refine zj_aload_n (zdk ttX11_readUnit 0 rfl rfl) rfl (by decide) ?_
  have b1 : 0 ≤ (h.2 0 14) ∧ (h.2 0 14) ≤ 4 := fM_14 s0
  refine zj_geti (v := (h.2 0 14)) (zdk ttX11_readUnit 1 rfl rfl) zf_RX11_166 rfl (k_M s0) rfl ?_
  refine zj_iconst (zdk ttX11_readUnit 2 rfl rfl) ?_
  refine zj_icmp_ne (t := 23) (zdk ttX11_readUnit 3 rfl rfl) (by decide) (by omega) (by decide) (fun c2 => ?_) (fun c2 => ?_)
  · refine zj_iconst (zdk ttX11_readUnit 11 rfl rfl) ?_
    refine zj_istore_n (L' := [some (.inr 0), some (.inl 0)]) (zdk ttX11_readUnit 12 rfl rfl) (by decide) rfl ?_
    refine zj_iload_n (zdk ttX11_readUnit 13 rfl rfl) rfl ?_
    refine zj_if_ne (t := 43) (zdk ttX11_readUnit 14 rfl rfl) (by decide) (by decide) (fun c3 => ?_) (fun c3 => ?_)
    · exact absurd c3 (by omega)
    · refine zj_aload_n (zdk ttX11_readUnit 15 rfl rfl) rfl (by decide) ?_
      refine zj_geti (v := (h.2 0 14)) (zdk ttX11_readUnit 16 rfl rfl) zf_RX11_166 rfl (k_M s0) rfl ?_
      refine zj_iconst (zdk ttX11_readUnit 17 rfl rfl) ?_
      refine zj_icmp_eq (t := 43) (zdk ttX11_readUnit 18 rfl rfl) (by decide) (by omega) (by decide) (fun c4 => ?_) (fun c4 => ?_)
      · refine zj_aload_n (zdk ttX11_readUnit 23 rfl rfl) rfl (by decide) ?_
        refine zj_iload_n (zdk ttX11_readUnit 24 rfl rfl) rfl ?_
        refine zj_if_eq (t := 52) (zdk ttX11_readUnit 25 rfl rfl) (by decide) (by decide) (fun c5 => ?_) (fun c5 => ?_)
        · refine zj_iconst (zdk ttX11_readUnit 28 rfl rfl) ?_
          refine zj_iload_n (zdk ttX11_readUnit 29 rfl rfl) rfl ?_
          refine zj_if_eq (t := 67) (zdk ttX11_readUnit 30 rfl rfl) (by decide) (by decide) (fun c6 => ?_) (fun c6 => ?_)
          · refine zj_aload_n (zdk ttX11_readUnit 36 rfl rfl) rfl (by decide) ?_
            have b7 : -2147483648 ≤ (h.2 0 15) ∧ (h.2 0 15) ≤ 2147483647 := fM_15 s0
            refine zj_geti (v := (h.2 0 15)) (zdk ttX11_readUnit 37 rfl rfl) zf_RX11_169 rfl (k_M s0) rfl ?_
            have b8 : 0 ≤ (h.2 0 12) ∧ (h.2 0 12) ≤ 400 := fM_12 s0
            have b9 : 0 ≤ (h.2 0 13) ∧ (h.2 0 13) ≤ 400 := fM_13 s0
            have b10 : 0 ≤ (h.2 0 25) ∧ (h.2 0 25) ≤ 400 := fM_25 s0
            have t11 : tok h := u_0
            unfold tok at t11
            refine zj_callV (av := [.inl 0, .inl (h.2 0 15)]) (st := []) (zdk ttX11_readUnit 38 rfl rfl) mb_X11_emits mv_RX11_200 (ci := 11) rfl rfl (k_M s0) rfl rfl (Nat.le_of_ble_eq_true rfl) (s_X11_emits l h 0 (h.2 0 15) s0 (by omega) (by omega) (by omega)) (rm_ok (by decide) (by decide)) (zq_v fun h14 q12 => ?_)
            obtain ⟨s16, f18, u17⟩ := q12
            refine zj_aload_n (zdk ttX11_readUnit 39 rfl rfl) rfl (by decide) ?_
            refine zj_callV (av := []) (st := []) (zdk ttX11_readUnit 40 rfl rfl) mb_X11_reads mv_RX11_204 (ci := 11) rfl rfl (k_M s16) rfl rfl (Nat.le_of_ble_eq_true rfl) (s2_X11_reads l h14 s16) (rm_ok (by decide) (by decide)) (zq_v fun h21 q19 => ?_)
            obtain ⟨s23, f27, u24, u25, u26⟩ := q19
            refine zj_iconst (zdk ttX11_readUnit 41 rfl rfl) ?_
            have f29 : zfr [12, 13, 14, 15, 25, 29, 30] [14, 15] h h14 := zfr_t (zfr_r _ _ _) f18 rfl rfl
            have f28 : zfr [12, 13, 14, 15, 25, 29, 30] [14, 15] h h21 := zfr_t f29 f27 rfl rfl
            have r30B : rdB (-1) h h14 := rdB_t (rdB_r h) (rdB_em u17 f18) (by omega)
            have r30P : rdP 1 h h14 := rdP_t (rdP_r h) (rdP_push u17 (by omega)) (by omega) (by omega)
            have b32 : h14.2 0 12 = (h.2 0 12) := (zfr_f f18 rfl rfl)
            have b33 : h14.2 0 13 = (h.2 0 13) := (zfr_f f18 rfl rfl)
            have b34 : h14.2 0 14 = (h.2 0 14) := (zfr_f f18 rfl rfl)
            have b35 : 0 ≤ (h14.2 0 25) ∧ (h14.2 0 25) ≤ 400 := fM_25 s16
            have b36 : 0 ≤ (h21.2 0 12) ∧ (h21.2 0 12) ≤ 400 := fM_12 s23
            have b37 : 0 ≤ (h21.2 0 13) ∧ (h21.2 0 13) ≤ 400 := fM_13 s23
            have b38 : 0 ≤ (h21.2 0 14) ∧ (h21.2 0 14) ≤ 4 := fM_14 s23
            have b39 : h21.2 0 25 = (h14.2 0 25) := (zfr_f f27 rfl rfl)
            have t40 : tok h14 := (tok_same u_0 f18 rfl rfl rfl rfl)
            unfold tok at t40
            have r31B : rdB 0 h h21 := rdB_t r30B (rdB_same (s := 1) f27 rfl (by omega)) (by omega)
            have r31P : rdP 1 h h21 := rdP_t r30P (rdP_same f27 rfl) (by omega) (by omega)
            have b41 := u17.1
            have b42 : h14.2 0 14 = (h.2 0 14) := (zfr_f f18 rfl rfl)
            have b43 : h14.2 0 15 = (h.2 0 15) := (zfr_f f18 rfl rfl)
            have b44 : -2147483648 ≤ (h21.2 0 15) ∧ (h21.2 0 15) ≤ 2147483647 := fM_15 s23
            exact zj_iret rfl (zdk ttX11_readUnit 42 rfl rfl) (Nat.le_refl _) (Nat.le_refl _) ⟨0, rfl, by omega, s23, f28, (fun _ => ⟨u24, rdB_t r31B (rdB_r _) (by omega), r31P⟩), (fun _ => ⟨by omega, fun q => ⟨by rw [(zd_same f27).1]; exact u17.2.1.1, by rw [(zd_same f27).2]; exact u17.2.1.2⟩⟩), (by intro T j t0; have k_1 := tT0 t0.2.2.1; have k_1j := t0.1.1; have o9 := tOp_f 0 (T j); have a_2 : tPm 0 T j h14 := tPm_f t0 (fun k => (zfr_a f18 rfl (by decide))) (fun k => (zfr_a f18 rfl (by decide))) (zfr_f f18 rfl rfl) (zfr_f f18 rfl rfl) (zfr_f f18 rfl rfl) (zfr_f f18 rfl rfl) (zfr_f f18 rfl rfl); have k_3 := tT0 a_2.2.2.1; have k_3j := a_2.1.1; have a_4 : tPm 0 T (j + 1) h21 := tPm_r a_2 (by omega) (u26 a_2.2.2.2.2.2.1 (tPm_l a_2 (by omega))) (fun k => (zfr_a f27 rfl (by decide))) (fun k => (zfr_a f27 rfl (by decide))) (zfr_f f27 rfl rfl); exact ⟨fun _ => ⟨by omega, a_4⟩, fun z => absurd z (by omega)⟩)⟩
          · exact absurd c6 (by omega)
        · exact absurd c5 (by omega)
      · refine zj_aload_n (zdk ttX11_readUnit 19 rfl rfl) rfl (by decide) ?_
        refine zj_iconst (zdk ttX11_readUnit 20 rfl rfl) ?_
        refine zj_callV (av := [.inl 1]) (st := []) (zdk ttX11_readUnit 21 rfl rfl) mb_X11_errs mv_RX11_197 (ci := 11) rfl rfl (k_M s0) rfl rfl (Nat.le_of_ble_eq_true rfl) (s2_X11_errs l h 1 s0 (by omega)) (rm_ok (by decide) (by decide)) (zq_i fun v46 h47 q45 => ?_)
        obtain ⟨b48, s49, f51, u50⟩ := q45
        have f52 : zfr [12, 13, 14, 15, 25, 29, 30] [14, 15] h h47 := zfr_t (zfr_r _ _ _) f51 rfl rfl
        have b53 : -2147483648 ≤ (h.2 0 15) ∧ (h.2 0 15) ≤ 2147483647 := fM_15 s0
        have b54 : h47.2 0 14 = (h.2 0 14) := (zfr_f f51 rfl rfl)
        have b55 : h47.2 0 15 = (h.2 0 15) := (zfr_f f51 rfl rfl)
        exact zj_iret rfl (zdk ttX11_readUnit 22 rfl rfl) (Nat.le_refl _) (Nat.le_refl _) ⟨v46, rfl, by omega, s49, f52, (fun q => absurd q (by omega)), (fun q => absurd q (by omega)), (by intro T j t0; have k_1 := tT0 t0.2.2.1; have k_1j := t0.1.1; have o9 := tOp_f 0 (T j); have e_2 : tEp h h47 j 1 := ⟨u50.1, t0.1.1, by have q9 := t0.2.1; rw [show h.2 7 = h.2 7 from funext fun i9 => rfl, show h.2 0 11 = h.2 0 11 from rfl] at q9; rw [u50.2]; exact q9⟩; exact ⟨fun z => absurd z (by omega), fun _ => ⟨by omega, by rw [show -(tOp 0 (T j)) = 1 by omega]; exact e_2⟩⟩)⟩
  · refine zj_aload_n (zdk ttX11_readUnit 4 rfl rfl) rfl (by decide) ?_
    refine zj_aload_n (zdk ttX11_readUnit 5 rfl rfl) rfl (by decide) ?_
    have b56 : -2147483648 ≤ (h.2 0 15) ∧ (h.2 0 15) ≤ 2147483647 := fM_15 s0
    refine zj_geti (v := (h.2 0 15)) (zdk ttX11_readUnit 6 rfl rfl) zf_RX11_169 rfl (k_M s0) rfl ?_
    refine zj_callV (av := [.inl (h.2 0 15)]) (st := []) (zdk ttX11_readUnit 7 rfl rfl) mb_X11_canAsk mv_RX11_194 (ci := 11) rfl rfl (k_M s0) rfl rfl (Nat.le_of_ble_eq_true rfl) (s_X11_canAsk l h (h.2 0 15) s0 (by omega)) (rm_ok (by decide) (by decide)) (zq_i fun v58 h59 q57 => ?_)
    obtain ⟨rfl, ⟨rfl, b60⟩ | ⟨rfl, b60⟩⟩ := q57
    · refine zj_if_eq (t := 23) (zdk ttX11_readUnit 8 rfl rfl) (by decide) (by decide) (fun c61 => ?_) (fun c61 => ?_)
      · refine zj_iconst (zdk ttX11_readUnit 11 rfl rfl) ?_
        refine zj_istore_n (L' := [some (.inr 0), some (.inl 0)]) (zdk ttX11_readUnit 12 rfl rfl) (by decide) rfl ?_
        refine zj_iload_n (zdk ttX11_readUnit 13 rfl rfl) rfl ?_
        refine zj_if_ne (t := 43) (zdk ttX11_readUnit 14 rfl rfl) (by decide) (by decide) (fun c62 => ?_) (fun c62 => ?_)
        · exact absurd c62 (by omega)
        · refine zj_aload_n (zdk ttX11_readUnit 15 rfl rfl) rfl (by decide) ?_
          refine zj_geti (v := (h.2 0 14)) (zdk ttX11_readUnit 16 rfl rfl) zf_RX11_166 rfl (k_M s0) rfl ?_
          refine zj_iconst (zdk ttX11_readUnit 17 rfl rfl) ?_
          refine zj_icmp_eq (t := 43) (zdk ttX11_readUnit 18 rfl rfl) (by decide) (by omega) (by decide) (fun c63 => ?_) (fun c63 => ?_)
          · exact absurd c63 (by omega)
          · refine zj_aload_n (zdk ttX11_readUnit 19 rfl rfl) rfl (by decide) ?_
            refine zj_iconst (zdk ttX11_readUnit 20 rfl rfl) ?_
            refine zj_callV (av := [.inl 1]) (st := []) (zdk ttX11_readUnit 21 rfl rfl) mb_X11_errs mv_RX11_197 (ci := 11) rfl rfl (k_M s0) rfl rfl (Nat.le_of_ble_eq_true rfl) (s2_X11_errs l h 1 s0 (by omega)) (rm_ok (by decide) (by decide)) (zq_i fun v65 h66 q64 => ?_)
            obtain ⟨b67, s68, f70, u69⟩ := q64
            have f71 : zfr [12, 13, 14, 15, 25, 29, 30] [14, 15] h h66 := zfr_t (zfr_r _ _ _) f70 rfl rfl
            have b72 : h66.2 0 14 = (h.2 0 14) := (zfr_f f70 rfl rfl)
            have b73 : h66.2 0 15 = (h.2 0 15) := (zfr_f f70 rfl rfl)
            exact zj_iret rfl (zdk ttX11_readUnit 22 rfl rfl) (Nat.le_refl _) (Nat.le_refl _) ⟨v65, rfl, by omega, s68, f71, (fun q => absurd q (by omega)), (fun q => absurd q (by omega)), (by intro T j t0; have k_1 := tT0 t0.2.2.1; have k_1j := t0.1.1; have o9 := tOp_f 0 (T j); have e_2 : tEp h h66 j 1 := ⟨u69.1, t0.1.1, by have q9 := t0.2.1; rw [show h.2 7 = h.2 7 from funext fun i9 => rfl, show h.2 0 11 = h.2 0 11 from rfl] at q9; rw [u69.2]; exact q9⟩; exact ⟨fun z => absurd z (by omega), fun _ => ⟨by omega, by rw [show -(tOp 0 (T j)) = 1 by omega]; exact e_2⟩⟩)⟩
      · exact absurd c61 (by omega)
    · refine zj_if_eq (t := 23) (zdk ttX11_readUnit 8 rfl rfl) (by decide) (by decide) (fun c74 => ?_) (fun c74 => ?_)
      · exact absurd c74 (by omega)
      · refine zj_iconst (zdk ttX11_readUnit 9 rfl rfl) ?_
        refine zj_goto (t := 24) (zdk ttX11_readUnit 10 rfl rfl) (by decide) ?_
        refine zj_istore_n (L' := [some (.inr 0), some (.inl 1)]) (zdk ttX11_readUnit 12 rfl rfl) (by decide) rfl ?_
        refine zj_iload_n (zdk ttX11_readUnit 13 rfl rfl) rfl ?_
        refine zj_if_ne (t := 43) (zdk ttX11_readUnit 14 rfl rfl) (by decide) (by decide) (fun c75 => ?_) (fun c75 => ?_)
        · refine zj_aload_n (zdk ttX11_readUnit 23 rfl rfl) rfl (by decide) ?_
          refine zj_iload_n (zdk ttX11_readUnit 24 rfl rfl) rfl ?_
          refine zj_if_eq (t := 52) (zdk ttX11_readUnit 25 rfl rfl) (by decide) (by decide) (fun c76 => ?_) (fun c76 => ?_)
          · exact absurd c76 (by omega)
          · refine zj_iconst (zdk ttX11_readUnit 26 rfl rfl) ?_
            refine zj_goto (t := 53) (zdk ttX11_readUnit 27 rfl rfl) (by decide) ?_
            refine zj_iload_n (zdk ttX11_readUnit 29 rfl rfl) rfl ?_
            refine zj_if_eq (t := 67) (zdk ttX11_readUnit 30 rfl rfl) (by decide) (by decide) (fun c77 => ?_) (fun c77 => ?_)
            · exact absurd c77 (by omega)
            · refine zj_aload_n (zdk ttX11_readUnit 31 rfl rfl) rfl (by decide) ?_
              refine zj_geti (v := (h.2 0 15)) (zdk ttX11_readUnit 32 rfl rfl) zf_RX11_169 rfl (k_M s0) rfl ?_
              refine zj_bipush (zdk ttX11_readUnit 33 rfl rfl) (by decide) ?_
              refine zj_isub (zdk ttX11_readUnit 34 rfl rfl) ?_
              refine zj_goto (t := 71) (zdk ttX11_readUnit 35 rfl rfl) (by decide) ?_
              have b78 : 0 ≤ (h.2 0 12) ∧ (h.2 0 12) ≤ 400 := fM_12 s0
              have b79 : 0 ≤ (h.2 0 13) ∧ (h.2 0 13) ≤ 400 := fM_13 s0
              have b80 : 0 ≤ (h.2 0 25) ∧ (h.2 0 25) ≤ 400 := fM_25 s0
              have t81 : tok h := u_0
              unfold tok at t81
              refine zj_callV (av := [.inl 1, .inl ((h.2 0 15) - 7)]) (st := []) (zdk ttX11_readUnit 38 rfl rfl) mb_X11_emits mv_RX11_200 (ci := 11) rfl rfl (k_M s0) rfl rfl (Nat.le_of_ble_eq_true rfl) (s_X11_emits l h 1 ((h.2 0 15) - 7) s0 (by omega) (by omega) (by omega)) (rm_ok (by decide) (by decide)) (zq_v fun h84 q82 => ?_)
              obtain ⟨s86, f88, u87⟩ := q82
              refine zj_aload_n (zdk ttX11_readUnit 39 rfl rfl) rfl (by decide) ?_
              refine zj_callV (av := []) (st := []) (zdk ttX11_readUnit 40 rfl rfl) mb_X11_reads mv_RX11_204 (ci := 11) rfl rfl (k_M s86) rfl rfl (Nat.le_of_ble_eq_true rfl) (s2_X11_reads l h84 s86) (rm_ok (by decide) (by decide)) (zq_v fun h91 q89 => ?_)
              obtain ⟨s93, f97, u94, u95, u96⟩ := q89
              refine zj_iconst (zdk ttX11_readUnit 41 rfl rfl) ?_
              have f99 : zfr [12, 13, 14, 15, 25, 29, 30] [14, 15] h h84 := zfr_t (zfr_r _ _ _) f88 rfl rfl
              have f98 : zfr [12, 13, 14, 15, 25, 29, 30] [14, 15] h h91 := zfr_t f99 f97 rfl rfl
              have r100B : rdB (-1) h h84 := rdB_t (rdB_r h) (rdB_em u87 f88) (by omega)
              have r100P : rdP 1 h h84 := rdP_t (rdP_r h) (rdP_push u87 (by omega)) (by omega) (by omega)
              have b102 : h84.2 0 12 = (h.2 0 12) := (zfr_f f88 rfl rfl)
              have b103 : h84.2 0 13 = (h.2 0 13) := (zfr_f f88 rfl rfl)
              have b104 : h84.2 0 14 = (h.2 0 14) := (zfr_f f88 rfl rfl)
              have b105 : 0 ≤ (h84.2 0 25) ∧ (h84.2 0 25) ≤ 400 := fM_25 s86
              have b106 : 0 ≤ (h91.2 0 12) ∧ (h91.2 0 12) ≤ 400 := fM_12 s93
              have b107 : 0 ≤ (h91.2 0 13) ∧ (h91.2 0 13) ≤ 400 := fM_13 s93
              have b108 : 0 ≤ (h91.2 0 14) ∧ (h91.2 0 14) ≤ 4 := fM_14 s93
              have b109 : h91.2 0 25 = (h84.2 0 25) := (zfr_f f97 rfl rfl)
              have t110 : tok h84 := (tok_same u_0 f88 rfl rfl rfl rfl)
              unfold tok at t110
              have r101B : rdB 0 h h91 := rdB_t r100B (rdB_same (s := 1) f97 rfl (by omega)) (by omega)
              have r101P : rdP 1 h h91 := rdP_t r100P (rdP_same f97 rfl) (by omega) (by omega)
              have b111 := u87.1
              have b112 : h84.2 0 14 = (h.2 0 14) := (zfr_f f88 rfl rfl)
              have b113 : h84.2 0 15 = (h.2 0 15) := (zfr_f f88 rfl rfl)
              have b114 : -2147483648 ≤ (h91.2 0 15) ∧ (h91.2 0 15) ≤ 2147483647 := fM_15 s93
              exact zj_iret rfl (zdk ttX11_readUnit 42 rfl rfl) (Nat.le_refl _) (Nat.le_refl _) ⟨0, rfl, by omega, s93, f98, (fun _ => ⟨u94, rdB_t r101B (rdB_r _) (by omega), r101P⟩), (fun _ => ⟨by omega, fun q => absurd q (by omega)⟩), (by intro T j t0; have k_1 := tT0 t0.2.2.1; have k_1j := t0.1.1; have o9 := tOp_f 0 (T j); have a_2 : tPm 0 T j h84 := tPm_f t0 (fun k => (zfr_a f88 rfl (by decide))) (fun k => (zfr_a f88 rfl (by decide))) (zfr_f f88 rfl rfl) (zfr_f f88 rfl rfl) (zfr_f f88 rfl rfl) (zfr_f f88 rfl rfl) (zfr_f f88 rfl rfl); have k_3 := tT0 a_2.2.2.1; have k_3j := a_2.1.1; have a_4 : tPm 0 T (j + 1) h91 := tPm_r a_2 (by omega) (u96 a_2.2.2.2.2.2.1 (tPm_l a_2 (by omega))) (fun k => (zfr_a f97 rfl (by decide))) (fun k => (zfr_a f97 rfl (by decide))) (zfr_f f97 rfl rfl); exact ⟨fun _ => ⟨by omega, a_4⟩, fun z => absurd z (by omega)⟩)⟩
        · exact absurd c75 (by omega)

abbrev q2_X11_readProduct (h : zM) : Option zV → zM → Prop := zqi fun v h' => ((-1) ≤ v ∧ v ≤ 0) ∧ okM h' ∧ zfr [12, 13, 14, 15, 25, 29, 30] [14, 15] h h' ∧ (v = 0 → RD h h') ∧ (∀ T j, tPm 0 T j h → (v = 0 → ∃ j9, tPm 0 T j9 h' ∧ (j < j9 ∧ ¬ (T j9 = 42 ∨ T j9 = 47)) ∧ ∀ p9 w9 s9, tRe T p9 (3, j, w9, s9) (4, j9, w9, s9)) ∧ (v = -1 → ∃ i9 f9, tEp h h' i9 f9 ∧ ∀ p9 w9 s9, tRe T p9 (3, j, w9, s9) (tEr i9 f9)))
set_option maxRecDepth 100000 in
set_option maxHeartbeats 4000000 in
theorem s2_X11_readProduct (l : Launch) (h : zM) (s0 : okM h) (u_0 : tok h) (u_1 : h.2 0 25 ≤ h.2 0 13) : zT shM l yX11_readProduct cX11_readProduct 2 (some .int) (rmL 5) 0 0 [.inr 0] h (q2_X11_readProduct h) := by
  refine zT_of (by decide +kernel) (L0 := [some (.inr 0), none]) rfl (Nat.le_of_ble_eq_true rfl) ?_
  refine zj_aload_n (zdk ttX11_readProduct 0 rfl rfl) rfl (by decide) ?_
  refine zj_callV (av := []) (st := []) (zdk ttX11_readProduct 1 rfl rfl) mb_X11_readUnit mv_RX11_207 (ci := 11) rfl rfl (k_M s0) rfl rfl (Nat.le_of_ble_eq_true rfl) (s2_X11_readUnit l h s0 u_0 u_1) (rm_ok (by decide) (by decide)) (zq_i fun v2 h3 q1 => ?_)
  obtain ⟨b4, s5, f9, u6, u7, u8⟩ := q1
  refine zj_iconst (zdk ttX11_readProduct 2 rfl rfl) ?_
  refine zj_icmp_ne (t := 10) (zdk ttX11_readProduct 3 rfl rfl) (by decide) (by omega) (by decide) (fun c10 => ?_) (fun c10 => ?_)
  · have lp139 : ∀ (n10 : Nat) (h11 : zM), okM h11 → zfr [12, 13, 14, 15, 25, 29, 30] [14, 15] h h11 → (tok h11) → (rdB 0 h h11) → (rdP 1 h h11) → (∀ T j, tPm 0 T j h → ∃ j9, tPm 0 T j9 h11 ∧ j < j9 ∧ ∀ p9 w9 s9, tRe T p9 (3, j, w9, s9) (4, j9, w9, s9)) → (401 - (h11.2 0 13)).toNat < n10 → zJ shM l yX11_readProduct cX11_readProduct 2 (some .int) (rmL 5) 0 0 (q2_X11_readProduct h) 0 0 10 [some (.inr 0), none] [] h11 := by
      intro n10
      induction n10 with
      | zero => intro h11 s12 f13 u140 u141 u142 u143 m144; exact absurd m144 (Nat.not_lt_zero _)
      | succ n10 ih145 =>
        intro h11 s12 f13 u140 u141 u142 u143 m144
        refine zj_aload_n (zdk ttX11_readProduct 6 rfl rfl) rfl (by decide) ?_
        refine zj_bipush (zdk ttX11_readProduct 7 rfl rfl) (by decide) ?_
        refine zj_callV (av := [.inl 42]) (st := []) (zdk ttX11_readProduct 8 rfl rfl) mb_X11_isSign mv_RX11_211 (ci := 11) rfl rfl (k_M s12) rfl rfl (Nat.le_of_ble_eq_true rfl) (s_X11_isSign l h11 42 s12 (by omega)) (rm_ok (by decide) (by decide)) (zq_i fun v147 h148 q146 => ?_)
        obtain ⟨rfl, b150, b151, ⟨rfl, b149⟩ | ⟨rfl, b149⟩⟩ := q146
        · refine zj_if_ne (t := 28) (zdk ttX11_readProduct 9 rfl rfl) (by decide) (by decide) (fun c152 => ?_) (fun c152 => ?_)
          · exact absurd c152 (by omega)
          · refine zj_aload_n (zdk ttX11_readProduct 10 rfl rfl) rfl (by decide) ?_
            refine zj_bipush (zdk ttX11_readProduct 11 rfl rfl) (by decide) ?_
            refine zj_callV (av := [.inl 47]) (st := []) (zdk ttX11_readProduct 12 rfl rfl) mb_X11_isSign mv_RX11_211 (ci := 11) rfl rfl (k_M s12) rfl rfl (Nat.le_of_ble_eq_true rfl) (s_X11_isSign l h11 47 s12 (by omega)) (rm_ok (by decide) (by decide)) (zq_i fun v154 h155 q153 => ?_)
            obtain ⟨rfl, b157, b158, ⟨rfl, b156⟩ | ⟨rfl, b156⟩⟩ := q153
            · refine zj_if_eq (t := 101) (zdk ttX11_readProduct 13 rfl rfl) (by decide) (by decide) (fun c159 => ?_) (fun c159 => ?_)
              · refine zj_iconst (zdk ttX11_readProduct 54 rfl rfl) ?_
                have b160 : 0 ≤ (h.2 0 14) ∧ (h.2 0 14) ≤ 4 := fM_14 s0
                have b161 : -2147483648 ≤ (h.2 0 15) ∧ (h.2 0 15) ≤ 2147483647 := fM_15 s0
                exact zj_iret rfl (zdk ttX11_readProduct 55 rfl rfl) (Nat.le_refl _) (Nat.le_refl _) ⟨0, rfl, by omega, s12, f13, (fun _ => ⟨u140, rdB_t u141 (rdB_r _) (by omega), u142⟩), (by intro T j t0; obtain ⟨x_1j, x_1a, x_1l, x_1r⟩ := u143 T j t0; have k_2 := tT0 x_1a.2.2.1; have k_2j := x_1a.1.1; exact ⟨fun _ => ⟨x_1j, x_1a, by omega, x_1r⟩, fun z => absurd z (by omega)⟩)⟩
              · exact absurd c159 (by omega)
            · refine zj_if_eq (t := 101) (zdk ttX11_readProduct 13 rfl rfl) (by decide) (by decide) (fun c162 => ?_) (fun c162 => ?_)
              · exact absurd c162 (by omega)
              · refine zj_aload_n (zdk ttX11_readProduct 14 rfl rfl) rfl (by decide) ?_
                refine zj_bipush (zdk ttX11_readProduct 15 rfl rfl) (by decide) ?_
                refine zj_callV (av := [.inl 42]) (st := []) (zdk ttX11_readProduct 16 rfl rfl) mb_X11_isSign mv_RX11_211 (ci := 11) rfl rfl (k_M s12) rfl rfl (Nat.le_of_ble_eq_true rfl) (s_X11_isSign l h11 42 s12 (by omega)) (rm_ok (by decide) (by decide)) (zq_i fun v164 h165 q163 => ?_)
                obtain ⟨rfl, b167, b168, ⟨rfl, b166⟩ | ⟨rfl, b166⟩⟩ := q163
                · refine zj_istore_n (L' := [some (.inr 0), some (.inl 0)]) (zdk ttX11_readProduct 17 rfl rfl) (by decide) rfl ?_
                  refine zj_aload_n (zdk ttX11_readProduct 18 rfl rfl) rfl (by decide) ?_
                  refine zj_callV (av := []) (st := []) (zdk ttX11_readProduct 19 rfl rfl) mb_X11_reads mv_RX11_204 (ci := 11) rfl rfl (k_M s12) rfl rfl (Nat.le_of_ble_eq_true rfl) (s2_X11_reads l h11 s12) (rm_ok (by decide) (by decide)) (zq_v fun h171 q169 => ?_)
                  obtain ⟨s173, f177, u174, u175, u176⟩ := q169
                  refine zj_iload_n (zdk ttX11_readProduct 20 rfl rfl) rfl ?_
                  refine zj_if_ne (t := 57) (zdk ttX11_readProduct 21 rfl rfl) (by decide) (by decide) (fun c178 => ?_) (fun c178 => ?_)
                  · exact absurd c178 (by omega)
                  · refine zj_aload_n (zdk ttX11_readProduct 22 rfl rfl) rfl (by decide) ?_
                    have b179 : 0 ≤ (h171.2 0 14) ∧ (h171.2 0 14) ≤ 4 := fM_14 s173
                    refine zj_geti (v := (h171.2 0 14)) (zdk ttX11_readProduct 23 rfl rfl) zf_RX11_166 rfl (k_M s173) rfl ?_
                    refine zj_iconst (zdk ttX11_readProduct 24 rfl rfl) ?_
                    refine zj_icmp_eq (t := 57) (zdk ttX11_readProduct 25 rfl rfl) (by decide) (by omega) (by decide) (fun c180 => ?_) (fun c180 => ?_)
                    · refine zj_iload_n (zdk ttX11_readProduct 30 rfl rfl) rfl ?_
                      refine zj_if_ne (t := 74) (zdk ttX11_readProduct 31 rfl rfl) (by decide) (by decide) (fun c181 => ?_) (fun c181 => ?_)
                      · exact absurd c181 (by omega)
                      · refine zj_aload_n (zdk ttX11_readProduct 32 rfl rfl) rfl (by decide) ?_
                        have b182 : -2147483648 ≤ (h171.2 0 15) ∧ (h171.2 0 15) ≤ 2147483647 := fM_15 s173
                        refine zj_geti (v := (h171.2 0 15)) (zdk ttX11_readProduct 33 rfl rfl) zf_RX11_169 rfl (k_M s173) rfl ?_
                        refine zj_if_ne (t := 74) (zdk ttX11_readProduct 34 rfl rfl) (by decide) (by omega) (fun c183 => ?_) (fun c183 => ?_)
                        · refine zj_aload_n (zdk ttX11_readProduct 39 rfl rfl) rfl (by decide) ?_
                          have b185 : 0 ≤ (h11.2 0 12) ∧ (h11.2 0 12) ≤ 400 := fM_12 s12
                          have b186 : 0 ≤ (h11.2 0 13) ∧ (h11.2 0 13) ≤ 400 := fM_13 s12
                          have b187 : 0 ≤ (h11.2 0 25) ∧ (h11.2 0 25) ≤ 400 := fM_25 s12
                          have b188 : 0 ≤ (h171.2 0 12) ∧ (h171.2 0 12) ≤ 400 := fM_12 s173
                          have b189 : 0 ≤ (h171.2 0 13) ∧ (h171.2 0 13) ≤ 400 := fM_13 s173
                          have b190 : h171.2 0 25 = (h11.2 0 25) := (zfr_f f177 rfl rfl)
                          have t191 : tok h11 := u140
                          unfold tok at t191
                          have r184B : rdB 1 h h171 := rdB_t u141 (rdB_same (s := 1) f177 rfl (by omega)) (by omega)
                          have r184P : rdP 1 h h171 := rdP_t u142 (rdP_same f177 rfl) (by omega) (by omega)
                          have b192 := r184B.2
                          refine zj_callV (av := []) (st := []) (zdk ttX11_readProduct 40 rfl rfl) mb_X11_readUnit mv_RX11_207 (ci := 11) rfl rfl (k_M s173) rfl rfl (Nat.le_of_ble_eq_true rfl) (s2_X11_readUnit l h171 s173 u174 (by omega)) (rm_ok (by decide) (by decide)) (zq_i fun v194 h195 q193 => ?_)
                          obtain ⟨b196, s197, f201, u198, u199, u200⟩ := q193
                          refine zj_iconst (zdk ttX11_readProduct 41 rfl rfl) ?_
                          refine zj_icmp_ne (t := 84) (zdk ttX11_readProduct 42 rfl rfl) (by decide) (by omega) (by decide) (fun c202 => ?_) (fun c202 => ?_)
                          · refine zj_aload_n (zdk ttX11_readProduct 45 rfl rfl) rfl (by decide) ?_
                            refine zj_iload_n (zdk ttX11_readProduct 46 rfl rfl) rfl ?_
                            refine zj_if_eq (t := 93) (zdk ttX11_readProduct 47 rfl rfl) (by decide) (by decide) (fun c203 => ?_) (fun c203 => ?_)
                            · refine zj_iconst (zdk ttX11_readProduct 50 rfl rfl) ?_
                              refine zj_iconst (zdk ttX11_readProduct 51 rfl rfl) ?_
                              have r205 := u198 (by omega)
                              have r205b := r205.2.1.2
                              have r205t := r205.1
                              unfold tok at r205t
                              have r204B : rdB 1 h h195 := rdB_t r184B r205.2.1 (by omega)
                              have r204P : rdP 2 h h195 := rdP_t r184P r205.2.2 (by omega) (by omega)
                              have b206 : 0 ≤ (h195.2 0 12) ∧ (h195.2 0 12) ≤ 400 := fM_12 s197
                              have b207 : 0 ≤ (h195.2 0 13) ∧ (h195.2 0 13) ≤ 400 := fM_13 s197
                              have b208 : 0 ≤ (h195.2 0 14) ∧ (h195.2 0 14) ≤ 4 := fM_14 s197
                              have b209 : 0 ≤ (h195.2 0 25) ∧ (h195.2 0 25) ≤ 400 := fM_25 s197
                              have t210 : tok h195 := r205.1
                              unfold tok at t210
                              have b211 := r204B.2
                              refine zj_callV (av := [.inl 5, .inl 0]) (st := []) (zdk ttX11_readProduct 52 rfl rfl) mb_X11_emits mv_RX11_200 (ci := 11) rfl rfl (k_M s197) rfl rfl (Nat.le_of_ble_eq_true rfl) (s_X11_emits l h195 5 0 s197 (by omega) (by omega) (by omega)) (rm_ok (by decide) (by decide)) (zq_v fun h214 q212 => ?_)
                              obtain ⟨s216, f218, u217⟩ := q212
                              refine zj_goto (t := 10) (zdk ttX11_readProduct 53 rfl rfl) (by decide) ?_
                              refine zj_kill (k := 1) (L' := [some (.inr 0), none]) rfl ?_
                              have b219 : h214.2 0 12 = (h195.2 0 12) := (zfr_f f218 rfl rfl)
                              have b220 : h214.2 0 13 = (h195.2 0 13) := (zfr_f f218 rfl rfl)
                              have b221 : h214.2 0 14 = (h195.2 0 14) := (zfr_f f218 rfl rfl)
                              have b222 : 0 ≤ (h214.2 0 25) ∧ (h214.2 0 25) ≤ 400 := fM_25 s216
                              have f225 : zfr [12, 13, 14, 15, 25, 29, 30] [14, 15] h h171 := zfr_t f13 f177 rfl rfl
                              have f224 : zfr [12, 13, 14, 15, 25, 29, 30] [14, 15] h h195 := zfr_t f225 f201 rfl rfl
                              have f223 : zfr [12, 13, 14, 15, 25, 29, 30] [14, 15] h h214 := zfr_t f224 f218 rfl rfl
                              have r226B : rdB 0 h h214 := rdB_t r204B (rdB_em u217 f218) (by omega)
                              have r226u := u199 (by omega)
                              have r226v := r226u.2 (by omega)
                              have r226n : dop h195 (h195.2 0 25 - 1) = 0 ∧ ¬ dar h195 (h195.2 0 25 - 1) = 0 := by rw [show h195.2 0 25 - 1 = h171.2 0 25 by omega]; exact ⟨r226v.1, by rw [r226v.2]; omega⟩
                              have r226m := r204B.2
                              have r226P : rdP 1 h h214 := rdP_div r204P u217 (by omega) r226n
                              have b227 := r226B.2
                              have b228 : 0 ≤ (h.2 0 14) ∧ (h.2 0 14) ≤ 4 := fM_14 s0
                              have b229 : -2147483648 ≤ (h.2 0 15) ∧ (h.2 0 15) ≤ 2147483647 := fM_15 s0
                              have b230 : -2147483648 ≤ (h195.2 0 15) ∧ (h195.2 0 15) ≤ 2147483647 := fM_15 s197
                              have b231 : h214.2 0 14 = (h195.2 0 14) := (zfr_f f218 rfl rfl)
                              have b232 : h214.2 0 15 = (h195.2 0 15) := (zfr_f f218 rfl rfl)
                              exact ih145  h214 s216 f223 (tok_same r205.1 f218 rfl rfl rfl rfl) (rdB_t r226B (rdB_r _) (by omega)) r226P (by intro T j t0; obtain ⟨x_1j, x_1a, x_1l, x_1r⟩ := u143 T j t0; have k_2 := tT0 x_1a.2.2.1; have k_2j := x_1a.1.1; have k_3 := tT0 x_1a.2.2.1; have k_3j := x_1a.1.1; have a_4 : tPm 0 T (x_1j + 1) h171 := tPm_r x_1a (by omega) (u176 x_1a.2.2.2.2.2.1 (tPm_l x_1a (by omega))) (fun k => (zfr_a f177 rfl (by decide))) (fun k => (zfr_a f177 rfl (by decide))) (zfr_f f177 rfl rfl); have k_5 := tT0 a_4.2.2.1; have k_5j := a_4.1.1; have r_6 := (u200 T (x_1j + 1) a_4).1 (by omega); have a_7 : tPm 0 T ((x_1j + 1) + 1) h214 := tPm_f r_6.2 (fun k => (zfr_a f218 rfl (by decide))) (fun k => (zfr_a f218 rfl (by decide))) (zfr_f f218 rfl rfl) (zfr_f f218 rfl rfl) (zfr_f f218 rfl rfl) (zfr_f f218 rfl rfl) (zfr_f f218 rfl rfl); have o9 := tOp_f (T x_1j - 42) (T (x_1j + 1)); have o8 := tOp_f 0 (T (x_1j + 1)); exact ⟨((x_1j + 1) + 1), a_7, by omega, fun p9 w9 s9 => tRe_s (x_1r p9 w9 s9) (by rw [show x_1j + 1 + 1 = x_1j + 2 by omega]; exact tM4_y (by omega) rfl (by have r9 := r_6.1; omega))⟩) (by omega)
                            · exact absurd c203 (by omega)
                          · refine zj_iconst (zdk ttX11_readProduct 43 rfl rfl) ?_
                            have f234 : zfr [12, 13, 14, 15, 25, 29, 30] [14, 15] h h171 := zfr_t f13 f177 rfl rfl
                            have f233 : zfr [12, 13, 14, 15, 25, 29, 30] [14, 15] h h195 := zfr_t f234 f201 rfl rfl
                            have b235 : 0 ≤ (h.2 0 14) ∧ (h.2 0 14) ≤ 4 := fM_14 s0
                            have b236 : -2147483648 ≤ (h.2 0 15) ∧ (h.2 0 15) ≤ 2147483647 := fM_15 s0
                            have b237 : 0 ≤ (h195.2 0 14) ∧ (h195.2 0 14) ≤ 4 := fM_14 s197
                            have b238 : -2147483648 ≤ (h195.2 0 15) ∧ (h195.2 0 15) ≤ 2147483647 := fM_15 s197
                            exact zj_iret rfl (zdk ttX11_readProduct 44 rfl rfl) (Nat.le_refl _) (Nat.le_refl _) ⟨(-1), rfl, by omega, s197, f233, (fun q => absurd q (by omega)), (by intro T j t0; obtain ⟨x_1j, x_1a, x_1l, x_1r⟩ := u143 T j t0; have k_2 := tT0 x_1a.2.2.1; have k_2j := x_1a.1.1; have k_3 := tT0 x_1a.2.2.1; have k_3j := x_1a.1.1; have a_4 : tPm 0 T (x_1j + 1) h171 := tPm_r x_1a (by omega) (u176 x_1a.2.2.2.2.2.1 (tPm_l x_1a (by omega))) (fun k => (zfr_a f177 rfl (by decide))) (fun k => (zfr_a f177 rfl (by decide))) (zfr_f f177 rfl rfl); obtain ⟨e_5l, e_5p⟩ := (u200 T (x_1j + 1) a_4).2 (by omega); have e_5q := e_5p; unfold tEp at e_5q; rw [show h171.2 7 = h.2 7 from funext fun i9 => ((zfr_a f177 rfl (by decide)).trans (zfr_a f13 rfl (by decide))), show h171.2 0 11 = h.2 0 11 from ((zfr_f f177 rfl rfl).trans (zfr_f f13 rfl rfl))] at e_5q; have k_6 := tT0 a_4.2.2.1; have k_6j := a_4.1.1; have o9 := tOp_f (T x_1j - 42) (T (x_1j + 1)); have o8 := tOp_f 0 (T (x_1j + 1)); exact ⟨fun z => absurd z (by omega), fun _ => ⟨(x_1j + 1), _, e_5q, fun p9 w9 s9 => tRe_s (x_1r p9 w9 s9) (tM4_n (by omega) rfl (by omega) (by omega))⟩⟩)⟩
                        · refine zj_aload_n (zdk ttX11_readProduct 35 rfl rfl) rfl (by decide) ?_
                          refine zj_iconst (zdk ttX11_readProduct 36 rfl rfl) ?_
                          refine zj_callV (av := [.inl 2]) (st := []) (zdk ttX11_readProduct 37 rfl rfl) mb_X11_errs mv_RX11_197 (ci := 11) rfl rfl (k_M s173) rfl rfl (Nat.le_of_ble_eq_true rfl) (s2_X11_errs l h171 2 s173 (by omega)) (rm_ok (by decide) (by decide)) (zq_i fun v240 h241 q239 => ?_)
                          obtain ⟨b242, s243, f245, u244⟩ := q239
                          have f247 : zfr [12, 13, 14, 15, 25, 29, 30] [14, 15] h h171 := zfr_t f13 f177 rfl rfl
                          have f246 : zfr [12, 13, 14, 15, 25, 29, 30] [14, 15] h h241 := zfr_t f247 f245 rfl rfl
                          have b248 : 0 ≤ (h.2 0 14) ∧ (h.2 0 14) ≤ 4 := fM_14 s0
                          have b249 : -2147483648 ≤ (h.2 0 15) ∧ (h.2 0 15) ≤ 2147483647 := fM_15 s0
                          have b250 : h241.2 0 14 = (h171.2 0 14) := (zfr_f f245 rfl rfl)
                          have b251 : h241.2 0 15 = (h171.2 0 15) := (zfr_f f245 rfl rfl)
                          exact zj_iret rfl (zdk ttX11_readProduct 38 rfl rfl) (Nat.le_refl _) (Nat.le_refl _) ⟨v240, rfl, by omega, s243, f246, (fun q => absurd q (by omega)), (by intro T j t0; obtain ⟨x_1j, x_1a, x_1l, x_1r⟩ := u143 T j t0; have k_2 := tT0 x_1a.2.2.1; have k_2j := x_1a.1.1; have k_3 := tT0 x_1a.2.2.1; have k_3j := x_1a.1.1; have a_4 : tPm 0 T (x_1j + 1) h171 := tPm_r x_1a (by omega) (u176 x_1a.2.2.2.2.2.1 (tPm_l x_1a (by omega))) (fun k => (zfr_a f177 rfl (by decide))) (fun k => (zfr_a f177 rfl (by decide))) (zfr_f f177 rfl rfl); have e_5 : tEp h h241 (x_1j + 1) 2 := ⟨u244.1, a_4.1.1, by have q9 := a_4.2.1; rw [show h171.2 7 = h.2 7 from funext fun i9 => ((zfr_a f177 rfl (by decide)).trans (zfr_a f13 rfl (by decide))), show h171.2 0 11 = h.2 0 11 from ((zfr_f f177 rfl rfl).trans (zfr_f f13 rfl rfl))] at q9; rw [u244.2]; exact q9⟩; have k_6 := tT0 a_4.2.2.1; have k_6j := a_4.1.1; have o9 := tOp_f (T x_1j - 42) (T (x_1j + 1)); exact ⟨fun z => absurd z (by omega), fun _ => ⟨(x_1j + 1), _, e_5, fun p9 w9 s9 => tRe_s (x_1r p9 w9 s9) (tM4_n (by omega) rfl (by omega) (by omega))⟩⟩)⟩
                    · refine zj_aload_n (zdk ttX11_readProduct 26 rfl rfl) rfl (by decide) ?_
                      refine zj_iconst (zdk ttX11_readProduct 27 rfl rfl) ?_
                      refine zj_callV (av := [.inl 1]) (st := []) (zdk ttX11_readProduct 28 rfl rfl) mb_X11_errs mv_RX11_197 (ci := 11) rfl rfl (k_M s173) rfl rfl (Nat.le_of_ble_eq_true rfl) (s2_X11_errs l h171 1 s173 (by omega)) (rm_ok (by decide) (by decide)) (zq_i fun v253 h254 q252 => ?_)
                      obtain ⟨b255, s256, f258, u257⟩ := q252
                      have f260 : zfr [12, 13, 14, 15, 25, 29, 30] [14, 15] h h171 := zfr_t f13 f177 rfl rfl
                      have f259 : zfr [12, 13, 14, 15, 25, 29, 30] [14, 15] h h254 := zfr_t f260 f258 rfl rfl
                      have b261 : 0 ≤ (h.2 0 14) ∧ (h.2 0 14) ≤ 4 := fM_14 s0
                      have b262 : -2147483648 ≤ (h.2 0 15) ∧ (h.2 0 15) ≤ 2147483647 := fM_15 s0
                      have b263 : -2147483648 ≤ (h171.2 0 15) ∧ (h171.2 0 15) ≤ 2147483647 := fM_15 s173
                      have b264 : h254.2 0 14 = (h171.2 0 14) := (zfr_f f258 rfl rfl)
                      have b265 : h254.2 0 15 = (h171.2 0 15) := (zfr_f f258 rfl rfl)
                      exact zj_iret rfl (zdk ttX11_readProduct 29 rfl rfl) (Nat.le_refl _) (Nat.le_refl _) ⟨v253, rfl, by omega, s256, f259, (fun q => absurd q (by omega)), (by intro T j t0; obtain ⟨x_1j, x_1a, x_1l, x_1r⟩ := u143 T j t0; have k_2 := tT0 x_1a.2.2.1; have k_2j := x_1a.1.1; have k_3 := tT0 x_1a.2.2.1; have k_3j := x_1a.1.1; have a_4 : tPm 0 T (x_1j + 1) h171 := tPm_r x_1a (by omega) (u176 x_1a.2.2.2.2.2.1 (tPm_l x_1a (by omega))) (fun k => (zfr_a f177 rfl (by decide))) (fun k => (zfr_a f177 rfl (by decide))) (zfr_f f177 rfl rfl); have e_5 : tEp h h254 (x_1j + 1) 1 := ⟨u257.1, a_4.1.1, by have q9 := a_4.2.1; rw [show h171.2 7 = h.2 7 from funext fun i9 => ((zfr_a f177 rfl (by decide)).trans (zfr_a f13 rfl (by decide))), show h171.2 0 11 = h.2 0 11 from ((zfr_f f177 rfl rfl).trans (zfr_f f13 rfl rfl))] at q9; rw [u257.2]; exact q9⟩; have k_6 := tT0 a_4.2.2.1; have k_6j := a_4.1.1; have o9 := tOp_f (T x_1j - 42) (T (x_1j + 1)); exact ⟨fun z => absurd z (by omega), fun _ => ⟨(x_1j + 1), _, e_5, fun p9 w9 s9 => tRe_s (x_1r p9 w9 s9) (tM4_n (by omega) rfl (by omega) (by omega))⟩⟩)⟩
                · exact absurd b166 (by omega)
        · refine zj_if_ne (t := 28) (zdk ttX11_readProduct 9 rfl rfl) (by decide) (by decide) (fun c266 => ?_) (fun c266 => ?_)
          · refine zj_aload_n (zdk ttX11_readProduct 14 rfl rfl) rfl (by decide) ?_
            refine zj_bipush (zdk ttX11_readProduct 15 rfl rfl) (by decide) ?_
            refine zj_callV (av := [.inl 42]) (st := []) (zdk ttX11_readProduct 16 rfl rfl) mb_X11_isSign mv_RX11_211 (ci := 11) rfl rfl (k_M s12) rfl rfl (Nat.le_of_ble_eq_true rfl) (s_X11_isSign l h11 42 s12 (by omega)) (rm_ok (by decide) (by decide)) (zq_i fun v268 h269 q267 => ?_)
            obtain ⟨rfl, b271, b272, ⟨rfl, b270⟩ | ⟨rfl, b270⟩⟩ := q267
            · exact absurd b270 (by omega)
            · refine zj_istore_n (L' := [some (.inr 0), some (.inl 1)]) (zdk ttX11_readProduct 17 rfl rfl) (by decide) rfl ?_
              refine zj_aload_n (zdk ttX11_readProduct 18 rfl rfl) rfl (by decide) ?_
              refine zj_callV (av := []) (st := []) (zdk ttX11_readProduct 19 rfl rfl) mb_X11_reads mv_RX11_204 (ci := 11) rfl rfl (k_M s12) rfl rfl (Nat.le_of_ble_eq_true rfl) (s2_X11_reads l h11 s12) (rm_ok (by decide) (by decide)) (zq_v fun h275 q273 => ?_)
              obtain ⟨s277, f281, u278, u279, u280⟩ := q273
              refine zj_iload_n (zdk ttX11_readProduct 20 rfl rfl) rfl ?_
              refine zj_if_ne (t := 57) (zdk ttX11_readProduct 21 rfl rfl) (by decide) (by decide) (fun c282 => ?_) (fun c282 => ?_)
              · refine zj_iload_n (zdk ttX11_readProduct 30 rfl rfl) rfl ?_
                refine zj_if_ne (t := 74) (zdk ttX11_readProduct 31 rfl rfl) (by decide) (by decide) (fun c283 => ?_) (fun c283 => ?_)
                · refine zj_aload_n (zdk ttX11_readProduct 39 rfl rfl) rfl (by decide) ?_
                  have b285 : 0 ≤ (h11.2 0 12) ∧ (h11.2 0 12) ≤ 400 := fM_12 s12
                  have b286 : 0 ≤ (h11.2 0 13) ∧ (h11.2 0 13) ≤ 400 := fM_13 s12
                  have b287 : 0 ≤ (h11.2 0 25) ∧ (h11.2 0 25) ≤ 400 := fM_25 s12
                  have b288 : 0 ≤ (h275.2 0 12) ∧ (h275.2 0 12) ≤ 400 := fM_12 s277
                  have b289 : 0 ≤ (h275.2 0 13) ∧ (h275.2 0 13) ≤ 400 := fM_13 s277
                  have b290 : 0 ≤ (h275.2 0 14) ∧ (h275.2 0 14) ≤ 4 := fM_14 s277
                  have b291 : h275.2 0 25 = (h11.2 0 25) := (zfr_f f281 rfl rfl)
                  have t292 : tok h11 := u140
                  unfold tok at t292
                  have r284B : rdB 1 h h275 := rdB_t u141 (rdB_same (s := 1) f281 rfl (by omega)) (by omega)
                  have r284P : rdP 1 h h275 := rdP_t u142 (rdP_same f281 rfl) (by omega) (by omega)
                  have b293 := r284B.2
                  refine zj_callV (av := []) (st := []) (zdk ttX11_readProduct 40 rfl rfl) mb_X11_readUnit mv_RX11_207 (ci := 11) rfl rfl (k_M s277) rfl rfl (Nat.le_of_ble_eq_true rfl) (s2_X11_readUnit l h275 s277 u278 (by omega)) (rm_ok (by decide) (by decide)) (zq_i fun v295 h296 q294 => ?_)
                  obtain ⟨b297, s298, f302, u299, u300, u301⟩ := q294
                  refine zj_iconst (zdk ttX11_readProduct 41 rfl rfl) ?_
                  refine zj_icmp_ne (t := 84) (zdk ttX11_readProduct 42 rfl rfl) (by decide) (by omega) (by decide) (fun c303 => ?_) (fun c303 => ?_)
                  · refine zj_aload_n (zdk ttX11_readProduct 45 rfl rfl) rfl (by decide) ?_
                    refine zj_iload_n (zdk ttX11_readProduct 46 rfl rfl) rfl ?_
                    refine zj_if_eq (t := 93) (zdk ttX11_readProduct 47 rfl rfl) (by decide) (by decide) (fun c304 => ?_) (fun c304 => ?_)
                    · exact absurd c304 (by omega)
                    · refine zj_iconst (zdk ttX11_readProduct 48 rfl rfl) ?_
                      refine zj_goto (t := 94) (zdk ttX11_readProduct 49 rfl rfl) (by decide) ?_
                      refine zj_iconst (zdk ttX11_readProduct 51 rfl rfl) ?_
                      have r306 := u299 (by omega)
                      have r306b := r306.2.1.2
                      have r306t := r306.1
                      unfold tok at r306t
                      have r305B : rdB 1 h h296 := rdB_t r284B r306.2.1 (by omega)
                      have r305P : rdP 2 h h296 := rdP_t r284P r306.2.2 (by omega) (by omega)
                      have b307 : 0 ≤ (h296.2 0 12) ∧ (h296.2 0 12) ≤ 400 := fM_12 s298
                      have b308 : 0 ≤ (h296.2 0 13) ∧ (h296.2 0 13) ≤ 400 := fM_13 s298
                      have b309 : 0 ≤ (h296.2 0 14) ∧ (h296.2 0 14) ≤ 4 := fM_14 s298
                      have b310 : 0 ≤ (h296.2 0 25) ∧ (h296.2 0 25) ≤ 400 := fM_25 s298
                      have t311 : tok h296 := r306.1
                      unfold tok at t311
                      have b312 := r305B.2
                      refine zj_callV (av := [.inl 4, .inl 0]) (st := []) (zdk ttX11_readProduct 52 rfl rfl) mb_X11_emits mv_RX11_200 (ci := 11) rfl rfl (k_M s298) rfl rfl (Nat.le_of_ble_eq_true rfl) (s_X11_emits l h296 4 0 s298 (by omega) (by omega) (by omega)) (rm_ok (by decide) (by decide)) (zq_v fun h315 q313 => ?_)
                      obtain ⟨s317, f319, u318⟩ := q313
                      refine zj_goto (t := 10) (zdk ttX11_readProduct 53 rfl rfl) (by decide) ?_
                      refine zj_kill (k := 1) (L' := [some (.inr 0), none]) rfl ?_
                      have b320 : h315.2 0 12 = (h296.2 0 12) := (zfr_f f319 rfl rfl)
                      have b321 : h315.2 0 13 = (h296.2 0 13) := (zfr_f f319 rfl rfl)
                      have b322 : h315.2 0 14 = (h296.2 0 14) := (zfr_f f319 rfl rfl)
                      have b323 : 0 ≤ (h315.2 0 25) ∧ (h315.2 0 25) ≤ 400 := fM_25 s317
                      have f326 : zfr [12, 13, 14, 15, 25, 29, 30] [14, 15] h h275 := zfr_t f13 f281 rfl rfl
                      have f325 : zfr [12, 13, 14, 15, 25, 29, 30] [14, 15] h h296 := zfr_t f326 f302 rfl rfl
                      have f324 : zfr [12, 13, 14, 15, 25, 29, 30] [14, 15] h h315 := zfr_t f325 f319 rfl rfl
                      have r327B : rdB 0 h h315 := rdB_t r305B (rdB_em u318 f319) (by omega)
                      have r327P : rdP 1 h h315 := rdP_bin r305P u318 (by decide)
                      have b328 := r327B.2
                      have b329 : 0 ≤ (h.2 0 14) ∧ (h.2 0 14) ≤ 4 := fM_14 s0
                      have b330 : -2147483648 ≤ (h.2 0 15) ∧ (h.2 0 15) ≤ 2147483647 := fM_15 s0
                      have b331 : -2147483648 ≤ (h275.2 0 15) ∧ (h275.2 0 15) ≤ 2147483647 := fM_15 s277
                      have b332 : -2147483648 ≤ (h296.2 0 15) ∧ (h296.2 0 15) ≤ 2147483647 := fM_15 s298
                      have b333 : h315.2 0 14 = (h296.2 0 14) := (zfr_f f319 rfl rfl)
                      have b334 : h315.2 0 15 = (h296.2 0 15) := (zfr_f f319 rfl rfl)
                      exact ih145  h315 s317 f324 (tok_same r306.1 f319 rfl rfl rfl rfl) (rdB_t r327B (rdB_r _) (by omega)) r327P (by intro T j t0; obtain ⟨x_1j, x_1a, x_1l, x_1r⟩ := u143 T j t0; have k_2 := tT0 x_1a.2.2.1; have k_2j := x_1a.1.1; have k_3 := tT0 x_1a.2.2.1; have k_3j := x_1a.1.1; have a_4 : tPm 0 T (x_1j + 1) h275 := tPm_r x_1a (by omega) (u280 x_1a.2.2.2.2.2.1 (tPm_l x_1a (by omega))) (fun k => (zfr_a f281 rfl (by decide))) (fun k => (zfr_a f281 rfl (by decide))) (zfr_f f281 rfl rfl); have k_5 := tT0 a_4.2.2.1; have k_5j := a_4.1.1; have r_6 := (u301 T (x_1j + 1) a_4).1 (by omega); have a_7 : tPm 0 T ((x_1j + 1) + 1) h315 := tPm_f r_6.2 (fun k => (zfr_a f319 rfl (by decide))) (fun k => (zfr_a f319 rfl (by decide))) (zfr_f f319 rfl rfl) (zfr_f f319 rfl rfl) (zfr_f f319 rfl rfl) (zfr_f f319 rfl rfl) (zfr_f f319 rfl rfl); have o9 := tOp_f (T x_1j - 42) (T (x_1j + 1)); have o8 := tOp_f 0 (T (x_1j + 1)); exact ⟨((x_1j + 1) + 1), a_7, by omega, fun p9 w9 s9 => tRe_s (x_1r p9 w9 s9) (by rw [show x_1j + 1 + 1 = x_1j + 2 by omega]; exact tM4_y (by omega) rfl (by have r9 := r_6.1; omega))⟩) (by omega)
                  · refine zj_iconst (zdk ttX11_readProduct 43 rfl rfl) ?_
                    have f336 : zfr [12, 13, 14, 15, 25, 29, 30] [14, 15] h h275 := zfr_t f13 f281 rfl rfl
                    have f335 : zfr [12, 13, 14, 15, 25, 29, 30] [14, 15] h h296 := zfr_t f336 f302 rfl rfl
                    have b337 : 0 ≤ (h.2 0 14) ∧ (h.2 0 14) ≤ 4 := fM_14 s0
                    have b338 : -2147483648 ≤ (h.2 0 15) ∧ (h.2 0 15) ≤ 2147483647 := fM_15 s0
                    have b339 : -2147483648 ≤ (h275.2 0 15) ∧ (h275.2 0 15) ≤ 2147483647 := fM_15 s277
                    have b340 : 0 ≤ (h296.2 0 14) ∧ (h296.2 0 14) ≤ 4 := fM_14 s298
                    have b341 : -2147483648 ≤ (h296.2 0 15) ∧ (h296.2 0 15) ≤ 2147483647 := fM_15 s298
                    exact zj_iret rfl (zdk ttX11_readProduct 44 rfl rfl) (Nat.le_refl _) (Nat.le_refl _) ⟨(-1), rfl, by omega, s298, f335, (fun q => absurd q (by omega)), (by intro T j t0; obtain ⟨x_1j, x_1a, x_1l, x_1r⟩ := u143 T j t0; have k_2 := tT0 x_1a.2.2.1; have k_2j := x_1a.1.1; have k_3 := tT0 x_1a.2.2.1; have k_3j := x_1a.1.1; have a_4 : tPm 0 T (x_1j + 1) h275 := tPm_r x_1a (by omega) (u280 x_1a.2.2.2.2.2.1 (tPm_l x_1a (by omega))) (fun k => (zfr_a f281 rfl (by decide))) (fun k => (zfr_a f281 rfl (by decide))) (zfr_f f281 rfl rfl); obtain ⟨e_5l, e_5p⟩ := (u301 T (x_1j + 1) a_4).2 (by omega); have e_5q := e_5p; unfold tEp at e_5q; rw [show h275.2 7 = h.2 7 from funext fun i9 => ((zfr_a f281 rfl (by decide)).trans (zfr_a f13 rfl (by decide))), show h275.2 0 11 = h.2 0 11 from ((zfr_f f281 rfl rfl).trans (zfr_f f13 rfl rfl))] at e_5q; have k_6 := tT0 a_4.2.2.1; have k_6j := a_4.1.1; have o9 := tOp_f (T x_1j - 42) (T (x_1j + 1)); have o8 := tOp_f 0 (T (x_1j + 1)); exact ⟨fun z => absurd z (by omega), fun _ => ⟨(x_1j + 1), _, e_5q, fun p9 w9 s9 => tRe_s (x_1r p9 w9 s9) (tM4_n (by omega) rfl (by omega) (by omega))⟩⟩)⟩
                · exact absurd c283 (by omega)
              · exact absurd c282 (by omega)
          · exact absurd c266 (by omega)
    have b342 : 0 ≤ (h3.2 0 12) ∧ (h3.2 0 12) ≤ 400 := fM_12 s5
    have b343 : 0 ≤ (h3.2 0 13) ∧ (h3.2 0 13) ≤ 400 := fM_13 s5
    have b344 : 0 ≤ (h3.2 0 14) ∧ (h3.2 0 14) ≤ 4 := fM_14 s5
    have b345 : 0 ≤ (h3.2 0 25) ∧ (h3.2 0 25) ≤ 400 := fM_25 s5
    have f346 : zfr [12, 13, 14, 15, 25, 29, 30] [14, 15] h h3 := zfr_t (zfr_r _ _ _) f9 rfl rfl
    have r347 := u6 (by omega)
    have r347b := r347.2.1.2
    have r347t := r347.1
    unfold tok at r347t
    have r348B : rdB 0 h h3 := rdB_t (rdB_r h) r347.2.1 (by omega)
    have r348P : rdP 1 h h3 := rdP_t (rdP_r h) r347.2.2 (by omega) (by omega)
    have b349 := r348B.2
    have b350 : 0 ≤ (h.2 0 14) ∧ (h.2 0 14) ≤ 4 := fM_14 s0
    have b351 : -2147483648 ≤ (h.2 0 15) ∧ (h.2 0 15) ≤ 2147483647 := fM_15 s0
    have b352 : -2147483648 ≤ (h3.2 0 15) ∧ (h3.2 0 15) ≤ 2147483647 := fM_15 s5
    exact lp139 _ h3 s5 f346 r347.1 (rdB_t r348B (rdB_r _) (by omega)) r348P (by intro T j t0; have r_1 := (u8 T j t0).1 (by omega); exact ⟨(j + 1), r_1.2, by omega, fun p9 w9 s9 => tRe_1 (tM3_y rfl r_1.1)⟩) (Nat.lt_succ_self _)
  · refine zj_iconst (zdk ttX11_readProduct 4 rfl rfl) ?_
    have f353 : zfr [12, 13, 14, 15, 25, 29, 30] [14, 15] h h3 := zfr_t (zfr_r _ _ _) f9 rfl rfl
    have b354 : 0 ≤ (h.2 0 14) ∧ (h.2 0 14) ≤ 4 := fM_14 s0
    have b355 : -2147483648 ≤ (h.2 0 15) ∧ (h.2 0 15) ≤ 2147483647 := fM_15 s0
    have b356 : 0 ≤ (h3.2 0 14) ∧ (h3.2 0 14) ≤ 4 := fM_14 s5
    have b357 : -2147483648 ≤ (h3.2 0 15) ∧ (h3.2 0 15) ≤ 2147483647 := fM_15 s5
    exact zj_iret rfl (zdk ttX11_readProduct 5 rfl rfl) (Nat.le_refl _) (Nat.le_refl _) ⟨(-1), rfl, by omega, s5, f353, (fun q => absurd q (by omega)), (by intro T j t0; obtain ⟨e_1l, e_1p⟩ := (u8 T j t0).2 (by omega); have e_1q := e_1p; unfold tEp at e_1q; rw [show h.2 7 = h.2 7 from funext fun i9 => rfl, show h.2 0 11 = h.2 0 11 from rfl] at e_1q; exact ⟨fun z => absurd z (by omega), fun _ => ⟨j, _, e_1q, fun p9 w9 s9 => tRe_1 (tM3_n rfl (by omega) rfl)⟩⟩)⟩

abbrev q2_X11_readSum (h : zM) : Option zV → zM → Prop := zqi fun v h' => ((-1) ≤ v ∧ v ≤ 0) ∧ okM h' ∧ zfr [12, 13, 14, 15, 25, 29, 30] [14, 15] h h' ∧ (v = 0 → RD h h') ∧ (∀ T j, tPm 0 T j h → (v = 0 → ∃ j9, tPm 0 T j9 h' ∧ j < j9 ∧ ∀ p9 s9, tRe T p9 (3, j, 0, s9) (5, j9, 0, s9)) ∧ (v = -1 → ∃ i9 f9, tEp h h' i9 f9 ∧ ∀ p9 s9, tRe T p9 (3, j, 0, s9) (tEr i9 f9)))
set_option maxRecDepth 100000 in
set_option maxHeartbeats 4000000 in
theorem s2_X11_readSum (l : Launch) (h : zM) (s0 : okM h) (u_0 : tok h) (u_1 : h.2 0 25 ≤ h.2 0 13) : zT shM l yX11_readSum cX11_readSum 2 (some .int) (rmL 6) 0 0 [.inr 0] h (q2_X11_readSum h) := by
  refine zT_of (by decide +kernel) (L0 := [some (.inr 0), none]) rfl (Nat.le_of_ble_eq_true rfl) ?_
  refine zj_aload_n (zdk ttX11_readSum 0 rfl rfl) rfl (by decide) ?_
  refine zj_callV (av := []) (st := []) (zdk ttX11_readSum 1 rfl rfl) mb_X11_readProduct mv_RX11_214 (ci := 11) rfl rfl (k_M s0) rfl rfl (Nat.le_of_ble_eq_true rfl) (s2_X11_readProduct l h s0 u_0 u_1) (rm_ok (by decide) (by decide)) (zq_i fun v2 h3 q1 => ?_)
  obtain ⟨b4, s5, f8, u6, u7⟩ := q1
  refine zj_iconst (zdk ttX11_readSum 2 rfl rfl) ?_
  refine zj_icmp_ne (t := 10) (zdk ttX11_readSum 3 rfl rfl) (by decide) (by omega) (by decide) (fun c9 => ?_) (fun c9 => ?_)
  · have lp117 : ∀ (n10 : Nat) (h10 : zM), okM h10 → zfr [12, 13, 14, 15, 25, 29, 30] [14, 15] h h10 → (tok h10) → (rdB 0 h h10) → (rdP 1 h h10) → (∀ T j, tPm 0 T j h → ∃ j9, tPm 0 T j9 h10 ∧ (j < j9 ∧ ¬ (T j9 = 42 ∨ T j9 = 47)) ∧ ∃ w9, ∀ p9 s9, tRe T p9 (3, j, 0, s9) (4, j9, w9, s9)) → (401 - (h10.2 0 13)).toNat < n10 → zJ shM l yX11_readSum cX11_readSum 2 (some .int) (rmL 6) 0 0 (q2_X11_readSum h) 0 0 10 [some (.inr 0), none] [] h10 := by
      intro n10
      induction n10 with
      | zero => intro h10 s11 f12 u118 u119 u120 u121 m122; exact absurd m122 (Nat.not_lt_zero _)
      | succ n10 ih123 =>
        intro h10 s11 f12 u118 u119 u120 u121 m122
        refine zj_aload_n (zdk ttX11_readSum 6 rfl rfl) rfl (by decide) ?_
        refine zj_bipush (zdk ttX11_readSum 7 rfl rfl) (by decide) ?_
        refine zj_callV (av := [.inl 43]) (st := []) (zdk ttX11_readSum 8 rfl rfl) mb_X11_isSign mv_RX11_211 (ci := 11) rfl rfl (k_M s11) rfl rfl (Nat.le_of_ble_eq_true rfl) (s_X11_isSign l h10 43 s11 (by omega)) (rm_ok (by decide) (by decide)) (zq_i fun v125 h126 q124 => ?_)
        obtain ⟨rfl, b128, b129, ⟨rfl, b127⟩ | ⟨rfl, b127⟩⟩ := q124
        · refine zj_if_ne (t := 28) (zdk ttX11_readSum 9 rfl rfl) (by decide) (by decide) (fun c130 => ?_) (fun c130 => ?_)
          · exact absurd c130 (by omega)
          · refine zj_aload_n (zdk ttX11_readSum 10 rfl rfl) rfl (by decide) ?_
            refine zj_bipush (zdk ttX11_readSum 11 rfl rfl) (by decide) ?_
            refine zj_callV (av := [.inl 45]) (st := []) (zdk ttX11_readSum 12 rfl rfl) mb_X11_isSign mv_RX11_211 (ci := 11) rfl rfl (k_M s11) rfl rfl (Nat.le_of_ble_eq_true rfl) (s_X11_isSign l h10 45 s11 (by omega)) (rm_ok (by decide) (by decide)) (zq_i fun v132 h133 q131 => ?_)
            obtain ⟨rfl, b135, b136, ⟨rfl, b134⟩ | ⟨rfl, b134⟩⟩ := q131
            · refine zj_if_eq (t := 66) (zdk ttX11_readSum 13 rfl rfl) (by decide) (by decide) (fun c137 => ?_) (fun c137 => ?_)
              · refine zj_iconst (zdk ttX11_readSum 35 rfl rfl) ?_
                have b138 : 0 ≤ (h.2 0 14) ∧ (h.2 0 14) ≤ 4 := fM_14 s0
                have b139 : -2147483648 ≤ (h.2 0 15) ∧ (h.2 0 15) ≤ 2147483647 := fM_15 s0
                exact zj_iret rfl (zdk ttX11_readSum 36 rfl rfl) (Nat.le_refl _) (Nat.le_refl _) ⟨0, rfl, by omega, s11, f12, (fun _ => ⟨u118, rdB_t u119 (rdB_r _) (by omega), u120⟩), (by intro T j t0; obtain ⟨x_1j, x_1a, x_1l, x_1r⟩ := u121 T j t0; have k_2 := tT0 x_1a.2.2.1; have k_2j := x_1a.1.1; obtain ⟨x_1w, x_1r⟩ := x_1r; exact ⟨fun _ => ⟨x_1j, x_1a, by omega, fun p9 s9 => tRe_s (x_1r p9 s9) (tM4_e x_1l.2 (by omega))⟩, fun z => absurd z (by omega)⟩)⟩
              · exact absurd c137 (by omega)
            · refine zj_if_eq (t := 66) (zdk ttX11_readSum 13 rfl rfl) (by decide) (by decide) (fun c140 => ?_) (fun c140 => ?_)
              · exact absurd c140 (by omega)
              · refine zj_aload_n (zdk ttX11_readSum 14 rfl rfl) rfl (by decide) ?_
                refine zj_geti (v := (h10.2 0 15)) (zdk ttX11_readSum 15 rfl rfl) zf_RX11_169 rfl (k_M s11) rfl ?_
                refine zj_bipush (zdk ttX11_readSum 16 rfl rfl) (by decide) ?_
                refine zj_icmp_ne (t := 41) (zdk ttX11_readSum 17 rfl rfl) (by decide) (by omega) (by decide) (fun c141 => ?_) (fun c141 => ?_)
                · refine zj_iconst (zdk ttX11_readSum 20 rfl rfl) ?_
                  refine zj_istore_n (L' := [some (.inr 0), some (.inl 3)]) (zdk ttX11_readSum 21 rfl rfl) (by decide) rfl ?_
                  refine zj_aload_n (zdk ttX11_readSum 22 rfl rfl) rfl (by decide) ?_
                  refine zj_callV (av := []) (st := []) (zdk ttX11_readSum 23 rfl rfl) mb_X11_reads mv_RX11_204 (ci := 11) rfl rfl (k_M s11) rfl rfl (Nat.le_of_ble_eq_true rfl) (s2_X11_reads l h10 s11) (rm_ok (by decide) (by decide)) (zq_v fun h144 q142 => ?_)
                  obtain ⟨s146, f150, u147, u148, u149⟩ := q142
                  refine zj_aload_n (zdk ttX11_readSum 24 rfl rfl) rfl (by decide) ?_
                  have b152 : 0 ≤ (h10.2 0 12) ∧ (h10.2 0 12) ≤ 400 := fM_12 s11
                  have b153 : 0 ≤ (h10.2 0 13) ∧ (h10.2 0 13) ≤ 400 := fM_13 s11
                  have b154 : 0 ≤ (h10.2 0 25) ∧ (h10.2 0 25) ≤ 400 := fM_25 s11
                  have b155 : 0 ≤ (h144.2 0 12) ∧ (h144.2 0 12) ≤ 400 := fM_12 s146
                  have b156 : 0 ≤ (h144.2 0 13) ∧ (h144.2 0 13) ≤ 400 := fM_13 s146
                  have b157 : 0 ≤ (h144.2 0 14) ∧ (h144.2 0 14) ≤ 4 := fM_14 s146
                  have b158 : h144.2 0 25 = (h10.2 0 25) := (zfr_f f150 rfl rfl)
                  have t159 : tok h10 := u118
                  unfold tok at t159
                  have r151B : rdB 1 h h144 := rdB_t u119 (rdB_same (s := 1) f150 rfl (by omega)) (by omega)
                  have r151P : rdP 1 h h144 := rdP_t u120 (rdP_same f150 rfl) (by omega) (by omega)
                  have b160 := r151B.2
                  refine zj_callV (av := []) (st := []) (zdk ttX11_readSum 25 rfl rfl) mb_X11_readProduct mv_RX11_214 (ci := 11) rfl rfl (k_M s146) rfl rfl (Nat.le_of_ble_eq_true rfl) (s2_X11_readProduct l h144 s146 u147 (by omega)) (rm_ok (by decide) (by decide)) (zq_i fun v162 h163 q161 => ?_)
                  obtain ⟨b164, s165, f168, u166, u167⟩ := q161
                  refine zj_iconst (zdk ttX11_readSum 26 rfl rfl) ?_
                  refine zj_icmp_ne (t := 57) (zdk ttX11_readSum 27 rfl rfl) (by decide) (by omega) (by decide) (fun c169 => ?_) (fun c169 => ?_)
                  · refine zj_aload_n (zdk ttX11_readSum 30 rfl rfl) rfl (by decide) ?_
                    refine zj_iload_n (zdk ttX11_readSum 31 rfl rfl) rfl ?_
                    refine zj_iconst (zdk ttX11_readSum 32 rfl rfl) ?_
                    have r171 := u166 (by omega)
                    have r171b := r171.2.1.2
                    have r171t := r171.1
                    unfold tok at r171t
                    have r170B : rdB 1 h h163 := rdB_t r151B r171.2.1 (by omega)
                    have r170P : rdP 2 h h163 := rdP_t r151P r171.2.2 (by omega) (by omega)
                    have b172 : 0 ≤ (h163.2 0 12) ∧ (h163.2 0 12) ≤ 400 := fM_12 s165
                    have b173 : 0 ≤ (h163.2 0 13) ∧ (h163.2 0 13) ≤ 400 := fM_13 s165
                    have b174 : 0 ≤ (h163.2 0 14) ∧ (h163.2 0 14) ≤ 4 := fM_14 s165
                    have b175 : 0 ≤ (h163.2 0 25) ∧ (h163.2 0 25) ≤ 400 := fM_25 s165
                    have t176 : tok h163 := r171.1
                    unfold tok at t176
                    have b177 := r170B.2
                    refine zj_callV (av := [.inl 3, .inl 0]) (st := []) (zdk ttX11_readSum 33 rfl rfl) mb_X11_emits mv_RX11_200 (ci := 11) rfl rfl (k_M s165) rfl rfl (Nat.le_of_ble_eq_true rfl) (s_X11_emits l h163 3 0 s165 (by omega) (by omega) (by omega)) (rm_ok (by decide) (by decide)) (zq_v fun h180 q178 => ?_)
                    obtain ⟨s182, f184, u183⟩ := q178
                    refine zj_goto (t := 10) (zdk ttX11_readSum 34 rfl rfl) (by decide) ?_
                    refine zj_kill (k := 1) (L' := [some (.inr 0), none]) rfl ?_
                    have b185 : h180.2 0 12 = (h163.2 0 12) := (zfr_f f184 rfl rfl)
                    have b186 : h180.2 0 13 = (h163.2 0 13) := (zfr_f f184 rfl rfl)
                    have b187 : h180.2 0 14 = (h163.2 0 14) := (zfr_f f184 rfl rfl)
                    have b188 : 0 ≤ (h180.2 0 25) ∧ (h180.2 0 25) ≤ 400 := fM_25 s182
                    have f191 : zfr [12, 13, 14, 15, 25, 29, 30] [14, 15] h h144 := zfr_t f12 f150 rfl rfl
                    have f190 : zfr [12, 13, 14, 15, 25, 29, 30] [14, 15] h h163 := zfr_t f191 f168 rfl rfl
                    have f189 : zfr [12, 13, 14, 15, 25, 29, 30] [14, 15] h h180 := zfr_t f190 f184 rfl rfl
                    have r192B : rdB 0 h h180 := rdB_t r170B (rdB_em u183 f184) (by omega)
                    have r192P : rdP 1 h h180 := rdP_bin r170P u183 (by decide)
                    have b193 := r192B.2
                    have b194 : 0 ≤ (h.2 0 14) ∧ (h.2 0 14) ≤ 4 := fM_14 s0
                    have b195 : -2147483648 ≤ (h.2 0 15) ∧ (h.2 0 15) ≤ 2147483647 := fM_15 s0
                    have b196 : -2147483648 ≤ (h144.2 0 15) ∧ (h144.2 0 15) ≤ 2147483647 := fM_15 s146
                    have b197 : -2147483648 ≤ (h163.2 0 15) ∧ (h163.2 0 15) ≤ 2147483647 := fM_15 s165
                    have b198 : h180.2 0 14 = (h163.2 0 14) := (zfr_f f184 rfl rfl)
                    have b199 : h180.2 0 15 = (h163.2 0 15) := (zfr_f f184 rfl rfl)
                    exact ih123  h180 s182 f189 (tok_same r171.1 f184 rfl rfl rfl rfl) (rdB_t r192B (rdB_r _) (by omega)) r192P (by intro T j t0; obtain ⟨x_1j, x_1a, x_1l, x_1r⟩ := u121 T j t0; have k_2 := tT0 x_1a.2.2.1; have k_2j := x_1a.1.1; obtain ⟨x_1w, x_1r⟩ := x_1r; have k_3 := tT0 x_1a.2.2.1; have k_3j := x_1a.1.1; have a_4 : tPm 0 T (x_1j + 1) h144 := tPm_r x_1a (by omega) (u149 x_1a.2.2.2.2.2.1 (tPm_l x_1a (by omega))) (fun k => (zfr_a f150 rfl (by decide))) (fun k => (zfr_a f150 rfl (by decide))) (zfr_f f150 rfl rfl); obtain ⟨r_5j, r_5a, r_5l, r_5r⟩ := (u167 T (x_1j + 1) a_4).1 (by omega); have a_6 : tPm 0 T r_5j h180 := tPm_f r_5a (fun k => (zfr_a f184 rfl (by decide))) (fun k => (zfr_a f184 rfl (by decide))) (zfr_f f184 rfl rfl) (zfr_f f184 rfl rfl) (zfr_f f184 rfl rfl) (zfr_f f184 rfl rfl) (zfr_f f184 rfl rfl); exact ⟨r_5j, a_6, ⟨by omega, r_5l.2⟩, T x_1j, fun p9 s9 => tRe_t (tRe_s (x_1r p9 s9) (tM4_s (by omega))) (r_5r p9 (T x_1j) s9)⟩) (by omega)
                  · refine zj_iconst (zdk ttX11_readSum 28 rfl rfl) ?_
                    have f201 : zfr [12, 13, 14, 15, 25, 29, 30] [14, 15] h h144 := zfr_t f12 f150 rfl rfl
                    have f200 : zfr [12, 13, 14, 15, 25, 29, 30] [14, 15] h h163 := zfr_t f201 f168 rfl rfl
                    have b202 : 0 ≤ (h.2 0 14) ∧ (h.2 0 14) ≤ 4 := fM_14 s0
                    have b203 : -2147483648 ≤ (h.2 0 15) ∧ (h.2 0 15) ≤ 2147483647 := fM_15 s0
                    have b204 : -2147483648 ≤ (h144.2 0 15) ∧ (h144.2 0 15) ≤ 2147483647 := fM_15 s146
                    have b205 : 0 ≤ (h163.2 0 14) ∧ (h163.2 0 14) ≤ 4 := fM_14 s165
                    have b206 : -2147483648 ≤ (h163.2 0 15) ∧ (h163.2 0 15) ≤ 2147483647 := fM_15 s165
                    exact zj_iret rfl (zdk ttX11_readSum 29 rfl rfl) (Nat.le_refl _) (Nat.le_refl _) ⟨(-1), rfl, by omega, s165, f200, (fun q => absurd q (by omega)), (by intro T j t0; obtain ⟨x_1j, x_1a, x_1l, x_1r⟩ := u121 T j t0; have k_2 := tT0 x_1a.2.2.1; have k_2j := x_1a.1.1; obtain ⟨x_1w, x_1r⟩ := x_1r; have k_3 := tT0 x_1a.2.2.1; have k_3j := x_1a.1.1; have a_4 : tPm 0 T (x_1j + 1) h144 := tPm_r x_1a (by omega) (u149 x_1a.2.2.2.2.2.1 (tPm_l x_1a (by omega))) (fun k => (zfr_a f150 rfl (by decide))) (fun k => (zfr_a f150 rfl (by decide))) (zfr_f f150 rfl rfl); obtain ⟨e_5i, e_5f, e_5p, e_5r⟩ := (u167 T (x_1j + 1) a_4).2 (by omega); have e_5q : tEp h h163 e_5i e_5f := (by have q9 := e_5p; unfold tEp at q9 ⊢; rw [show h144.2 7 = h.2 7 from funext fun i9 => ((zfr_a f150 rfl (by decide)).trans (zfr_a f12 rfl (by decide))), show h144.2 0 11 = h.2 0 11 from ((zfr_f f150 rfl rfl).trans (zfr_f f12 rfl rfl))] at q9; exact q9); exact ⟨fun z => absurd z (by omega), fun _ => ⟨e_5i, e_5f, e_5q, fun p9 s9 => tRe_t (tRe_s (x_1r p9 s9) (tM4_s (by omega))) (e_5r p9 (T x_1j) s9)⟩⟩)⟩
                · exact absurd c141 (by omega)
        · refine zj_if_ne (t := 28) (zdk ttX11_readSum 9 rfl rfl) (by decide) (by decide) (fun c207 => ?_) (fun c207 => ?_)
          · refine zj_aload_n (zdk ttX11_readSum 14 rfl rfl) rfl (by decide) ?_
            refine zj_geti (v := (h10.2 0 15)) (zdk ttX11_readSum 15 rfl rfl) zf_RX11_169 rfl (k_M s11) rfl ?_
            refine zj_bipush (zdk ttX11_readSum 16 rfl rfl) (by decide) ?_
            refine zj_icmp_ne (t := 41) (zdk ttX11_readSum 17 rfl rfl) (by decide) (by omega) (by decide) (fun c208 => ?_) (fun c208 => ?_)
            · exact absurd c208 (by omega)
            · refine zj_iconst (zdk ttX11_readSum 18 rfl rfl) ?_
              refine zj_goto (t := 42) (zdk ttX11_readSum 19 rfl rfl) (by decide) ?_
              refine zj_istore_n (L' := [some (.inr 0), some (.inl 2)]) (zdk ttX11_readSum 21 rfl rfl) (by decide) rfl ?_
              refine zj_aload_n (zdk ttX11_readSum 22 rfl rfl) rfl (by decide) ?_
              refine zj_callV (av := []) (st := []) (zdk ttX11_readSum 23 rfl rfl) mb_X11_reads mv_RX11_204 (ci := 11) rfl rfl (k_M s11) rfl rfl (Nat.le_of_ble_eq_true rfl) (s2_X11_reads l h10 s11) (rm_ok (by decide) (by decide)) (zq_v fun h211 q209 => ?_)
              obtain ⟨s213, f217, u214, u215, u216⟩ := q209
              refine zj_aload_n (zdk ttX11_readSum 24 rfl rfl) rfl (by decide) ?_
              have b219 : 0 ≤ (h10.2 0 12) ∧ (h10.2 0 12) ≤ 400 := fM_12 s11
              have b220 : 0 ≤ (h10.2 0 13) ∧ (h10.2 0 13) ≤ 400 := fM_13 s11
              have b221 : 0 ≤ (h10.2 0 25) ∧ (h10.2 0 25) ≤ 400 := fM_25 s11
              have b222 : 0 ≤ (h211.2 0 12) ∧ (h211.2 0 12) ≤ 400 := fM_12 s213
              have b223 : 0 ≤ (h211.2 0 13) ∧ (h211.2 0 13) ≤ 400 := fM_13 s213
              have b224 : 0 ≤ (h211.2 0 14) ∧ (h211.2 0 14) ≤ 4 := fM_14 s213
              have b225 : h211.2 0 25 = (h10.2 0 25) := (zfr_f f217 rfl rfl)
              have t226 : tok h10 := u118
              unfold tok at t226
              have r218B : rdB 1 h h211 := rdB_t u119 (rdB_same (s := 1) f217 rfl (by omega)) (by omega)
              have r218P : rdP 1 h h211 := rdP_t u120 (rdP_same f217 rfl) (by omega) (by omega)
              have b227 := r218B.2
              refine zj_callV (av := []) (st := []) (zdk ttX11_readSum 25 rfl rfl) mb_X11_readProduct mv_RX11_214 (ci := 11) rfl rfl (k_M s213) rfl rfl (Nat.le_of_ble_eq_true rfl) (s2_X11_readProduct l h211 s213 u214 (by omega)) (rm_ok (by decide) (by decide)) (zq_i fun v229 h230 q228 => ?_)
              obtain ⟨b231, s232, f235, u233, u234⟩ := q228
              refine zj_iconst (zdk ttX11_readSum 26 rfl rfl) ?_
              refine zj_icmp_ne (t := 57) (zdk ttX11_readSum 27 rfl rfl) (by decide) (by omega) (by decide) (fun c236 => ?_) (fun c236 => ?_)
              · refine zj_aload_n (zdk ttX11_readSum 30 rfl rfl) rfl (by decide) ?_
                refine zj_iload_n (zdk ttX11_readSum 31 rfl rfl) rfl ?_
                refine zj_iconst (zdk ttX11_readSum 32 rfl rfl) ?_
                have r238 := u233 (by omega)
                have r238b := r238.2.1.2
                have r238t := r238.1
                unfold tok at r238t
                have r237B : rdB 1 h h230 := rdB_t r218B r238.2.1 (by omega)
                have r237P : rdP 2 h h230 := rdP_t r218P r238.2.2 (by omega) (by omega)
                have b239 : 0 ≤ (h230.2 0 12) ∧ (h230.2 0 12) ≤ 400 := fM_12 s232
                have b240 : 0 ≤ (h230.2 0 13) ∧ (h230.2 0 13) ≤ 400 := fM_13 s232
                have b241 : 0 ≤ (h230.2 0 14) ∧ (h230.2 0 14) ≤ 4 := fM_14 s232
                have b242 : 0 ≤ (h230.2 0 25) ∧ (h230.2 0 25) ≤ 400 := fM_25 s232
                have t243 : tok h230 := r238.1
                unfold tok at t243
                have b244 := r237B.2
                refine zj_callV (av := [.inl 2, .inl 0]) (st := []) (zdk ttX11_readSum 33 rfl rfl) mb_X11_emits mv_RX11_200 (ci := 11) rfl rfl (k_M s232) rfl rfl (Nat.le_of_ble_eq_true rfl) (s_X11_emits l h230 2 0 s232 (by omega) (by omega) (by omega)) (rm_ok (by decide) (by decide)) (zq_v fun h247 q245 => ?_)
                obtain ⟨s249, f251, u250⟩ := q245
                refine zj_goto (t := 10) (zdk ttX11_readSum 34 rfl rfl) (by decide) ?_
                refine zj_kill (k := 1) (L' := [some (.inr 0), none]) rfl ?_
                have b252 : h247.2 0 12 = (h230.2 0 12) := (zfr_f f251 rfl rfl)
                have b253 : h247.2 0 13 = (h230.2 0 13) := (zfr_f f251 rfl rfl)
                have b254 : h247.2 0 14 = (h230.2 0 14) := (zfr_f f251 rfl rfl)
                have b255 : 0 ≤ (h247.2 0 25) ∧ (h247.2 0 25) ≤ 400 := fM_25 s249
                have f258 : zfr [12, 13, 14, 15, 25, 29, 30] [14, 15] h h211 := zfr_t f12 f217 rfl rfl
                have f257 : zfr [12, 13, 14, 15, 25, 29, 30] [14, 15] h h230 := zfr_t f258 f235 rfl rfl
                have f256 : zfr [12, 13, 14, 15, 25, 29, 30] [14, 15] h h247 := zfr_t f257 f251 rfl rfl
                have r259B : rdB 0 h h247 := rdB_t r237B (rdB_em u250 f251) (by omega)
                have r259P : rdP 1 h h247 := rdP_bin r237P u250 (by decide)
                have b260 := r259B.2
                have b261 : 0 ≤ (h.2 0 14) ∧ (h.2 0 14) ≤ 4 := fM_14 s0
                have b262 : -2147483648 ≤ (h.2 0 15) ∧ (h.2 0 15) ≤ 2147483647 := fM_15 s0
                have b263 : -2147483648 ≤ (h211.2 0 15) ∧ (h211.2 0 15) ≤ 2147483647 := fM_15 s213
                have b264 : -2147483648 ≤ (h230.2 0 15) ∧ (h230.2 0 15) ≤ 2147483647 := fM_15 s232
                have b265 : h247.2 0 14 = (h230.2 0 14) := (zfr_f f251 rfl rfl)
                have b266 : h247.2 0 15 = (h230.2 0 15) := (zfr_f f251 rfl rfl)
                exact ih123  h247 s249 f256 (tok_same r238.1 f251 rfl rfl rfl rfl) (rdB_t r259B (rdB_r _) (by omega)) r259P (by intro T j t0; obtain ⟨x_1j, x_1a, x_1l, x_1r⟩ := u121 T j t0; have k_2 := tT0 x_1a.2.2.1; have k_2j := x_1a.1.1; obtain ⟨x_1w, x_1r⟩ := x_1r; have k_3 := tT0 x_1a.2.2.1; have k_3j := x_1a.1.1; have a_4 : tPm 0 T (x_1j + 1) h211 := tPm_r x_1a (by omega) (u216 x_1a.2.2.2.2.2.1 (tPm_l x_1a (by omega))) (fun k => (zfr_a f217 rfl (by decide))) (fun k => (zfr_a f217 rfl (by decide))) (zfr_f f217 rfl rfl); obtain ⟨r_5j, r_5a, r_5l, r_5r⟩ := (u234 T (x_1j + 1) a_4).1 (by omega); have a_6 : tPm 0 T r_5j h247 := tPm_f r_5a (fun k => (zfr_a f251 rfl (by decide))) (fun k => (zfr_a f251 rfl (by decide))) (zfr_f f251 rfl rfl) (zfr_f f251 rfl rfl) (zfr_f f251 rfl rfl) (zfr_f f251 rfl rfl) (zfr_f f251 rfl rfl); exact ⟨r_5j, a_6, ⟨by omega, r_5l.2⟩, T x_1j, fun p9 s9 => tRe_t (tRe_s (x_1r p9 s9) (tM4_s (by omega))) (r_5r p9 (T x_1j) s9)⟩) (by omega)
              · refine zj_iconst (zdk ttX11_readSum 28 rfl rfl) ?_
                have f268 : zfr [12, 13, 14, 15, 25, 29, 30] [14, 15] h h211 := zfr_t f12 f217 rfl rfl
                have f267 : zfr [12, 13, 14, 15, 25, 29, 30] [14, 15] h h230 := zfr_t f268 f235 rfl rfl
                have b269 : 0 ≤ (h.2 0 14) ∧ (h.2 0 14) ≤ 4 := fM_14 s0
                have b270 : -2147483648 ≤ (h.2 0 15) ∧ (h.2 0 15) ≤ 2147483647 := fM_15 s0
                have b271 : -2147483648 ≤ (h211.2 0 15) ∧ (h211.2 0 15) ≤ 2147483647 := fM_15 s213
                have b272 : 0 ≤ (h230.2 0 14) ∧ (h230.2 0 14) ≤ 4 := fM_14 s232
                have b273 : -2147483648 ≤ (h230.2 0 15) ∧ (h230.2 0 15) ≤ 2147483647 := fM_15 s232
                exact zj_iret rfl (zdk ttX11_readSum 29 rfl rfl) (Nat.le_refl _) (Nat.le_refl _) ⟨(-1), rfl, by omega, s232, f267, (fun q => absurd q (by omega)), (by intro T j t0; obtain ⟨x_1j, x_1a, x_1l, x_1r⟩ := u121 T j t0; have k_2 := tT0 x_1a.2.2.1; have k_2j := x_1a.1.1; obtain ⟨x_1w, x_1r⟩ := x_1r; have k_3 := tT0 x_1a.2.2.1; have k_3j := x_1a.1.1; have a_4 : tPm 0 T (x_1j + 1) h211 := tPm_r x_1a (by omega) (u216 x_1a.2.2.2.2.2.1 (tPm_l x_1a (by omega))) (fun k => (zfr_a f217 rfl (by decide))) (fun k => (zfr_a f217 rfl (by decide))) (zfr_f f217 rfl rfl); obtain ⟨e_5i, e_5f, e_5p, e_5r⟩ := (u234 T (x_1j + 1) a_4).2 (by omega); have e_5q : tEp h h230 e_5i e_5f := (by have q9 := e_5p; unfold tEp at q9 ⊢; rw [show h211.2 7 = h.2 7 from funext fun i9 => ((zfr_a f217 rfl (by decide)).trans (zfr_a f12 rfl (by decide))), show h211.2 0 11 = h.2 0 11 from ((zfr_f f217 rfl rfl).trans (zfr_f f12 rfl rfl))] at q9; exact q9); exact ⟨fun z => absurd z (by omega), fun _ => ⟨e_5i, e_5f, e_5q, fun p9 s9 => tRe_t (tRe_s (x_1r p9 s9) (tM4_s (by omega))) (e_5r p9 (T x_1j) s9)⟩⟩)⟩
          · exact absurd c207 (by omega)
    have b274 : 0 ≤ (h3.2 0 12) ∧ (h3.2 0 12) ≤ 400 := fM_12 s5
    have b275 : 0 ≤ (h3.2 0 13) ∧ (h3.2 0 13) ≤ 400 := fM_13 s5
    have b276 : 0 ≤ (h3.2 0 14) ∧ (h3.2 0 14) ≤ 4 := fM_14 s5
    have b277 : 0 ≤ (h3.2 0 25) ∧ (h3.2 0 25) ≤ 400 := fM_25 s5
    have f278 : zfr [12, 13, 14, 15, 25, 29, 30] [14, 15] h h3 := zfr_t (zfr_r _ _ _) f8 rfl rfl
    have r279 := u6 (by omega)
    have r279b := r279.2.1.2
    have r279t := r279.1
    unfold tok at r279t
    have r280B : rdB 0 h h3 := rdB_t (rdB_r h) r279.2.1 (by omega)
    have r280P : rdP 1 h h3 := rdP_t (rdP_r h) r279.2.2 (by omega) (by omega)
    have b281 := r280B.2
    have b282 : 0 ≤ (h.2 0 14) ∧ (h.2 0 14) ≤ 4 := fM_14 s0
    have b283 : -2147483648 ≤ (h.2 0 15) ∧ (h.2 0 15) ≤ 2147483647 := fM_15 s0
    have b284 : -2147483648 ≤ (h3.2 0 15) ∧ (h3.2 0 15) ≤ 2147483647 := fM_15 s5
    exact lp117 _ h3 s5 f278 r279.1 (rdB_t r280B (rdB_r _) (by omega)) r280P (by intro T j t0; obtain ⟨r_1j, r_1a, r_1l, r_1r⟩ := (u7 T j t0).1 (by omega); exact ⟨r_1j, r_1a, r_1l, 0, fun p9 s9 => r_1r p9 0 s9⟩) (Nat.lt_succ_self _)
  · refine zj_iconst (zdk ttX11_readSum 4 rfl rfl) ?_
    have f285 : zfr [12, 13, 14, 15, 25, 29, 30] [14, 15] h h3 := zfr_t (zfr_r _ _ _) f8 rfl rfl
    have b286 : 0 ≤ (h.2 0 14) ∧ (h.2 0 14) ≤ 4 := fM_14 s0
    have b287 : -2147483648 ≤ (h.2 0 15) ∧ (h.2 0 15) ≤ 2147483647 := fM_15 s0
    have b288 : 0 ≤ (h3.2 0 14) ∧ (h3.2 0 14) ≤ 4 := fM_14 s5
    have b289 : -2147483648 ≤ (h3.2 0 15) ∧ (h3.2 0 15) ≤ 2147483647 := fM_15 s5
    exact zj_iret rfl (zdk ttX11_readSum 5 rfl rfl) (Nat.le_refl _) (Nat.le_refl _) ⟨(-1), rfl, by omega, s5, f285, (fun q => absurd q (by omega)), (by intro T j t0; obtain ⟨e_1i, e_1f, e_1p, e_1r⟩ := (u7 T j t0).2 (by omega); have e_1q : tEp h h3 e_1i e_1f := (by have q9 := e_1p; unfold tEp at q9 ⊢; rw [show h.2 7 = h.2 7 from funext fun i9 => rfl, show h.2 0 11 = h.2 0 11 from rfl] at q9; exact q9); exact ⟨fun z => absurd z (by omega), fun _ => ⟨e_1i, e_1f, e_1q, fun p9 s9 => e_1r p9 0 s9⟩⟩)⟩

abbrev q2_X11_readCompared (h : zM) : Option zV → zM → Prop := zqi fun v h' => ((-1) ≤ v ∧ v ≤ 0) ∧ okM h' ∧ zfr [12, 13, 14, 15, 25, 29, 30] [14, 15] h h' ∧ (v = 0 → RD h h') ∧ (∀ T j, tPm 0 T j h → (v = 0 → ∃ j9, tPm 0 T j9 h' ∧ j < j9 ∧ ∀ p9 s9, tRe T p9 (3, j, 0, 101 :: s9) (9, j9, 0, s9)) ∧ (v = -1 → ∃ i9 f9, tEp h h' i9 f9 ∧ ∀ p9 s9, tRe T p9 (3, j, 0, 101 :: s9) (tEr i9 f9)))
set_option maxRecDepth 100000 in
set_option maxHeartbeats 4000000 in
theorem s2_X11_readCompared (l : Launch) (h : zM) (s0 : okM h) (u_0 : tok h) (u_1 : h.2 0 25 ≤ h.2 0 13) : zT shM l yX11_readCompared cX11_readCompared 2 (some .int) (rmL 7) 0 0 [.inr 0] h (q2_X11_readCompared h) := by
  refine zT_of (by decide +kernel) (L0 := [some (.inr 0), none]) rfl (Nat.le_of_ble_eq_true rfl) ?_
  refine zj_aload_n (zdk ttX11_readCompared 0 rfl rfl) rfl (by decide) ?_
  refine zj_callV (av := []) (st := []) (zdk ttX11_readCompared 1 rfl rfl) mb_X11_readSum mv_RX11_217 (ci := 11) rfl rfl (k_M s0) rfl rfl (Nat.le_of_ble_eq_true rfl) (s2_X11_readSum l h s0 u_0 u_1) (rm_ok (by decide) (by decide)) (zq_i fun v2 h3 q1 => ?_)
  obtain ⟨b4, s5, f8, u6, u7⟩ := q1
  refine zj_iconst (zdk ttX11_readCompared 2 rfl rfl) ?_
  refine zj_icmp_ne (t := 10) (zdk ttX11_readCompared 3 rfl rfl) (by decide) (by omega) (by decide) (fun c9 => ?_) (fun c9 => ?_)
  · refine zj_aload_n (zdk ttX11_readCompared 6 rfl rfl) rfl (by decide) ?_
    refine zj_bipush (zdk ttX11_readCompared 7 rfl rfl) (by decide) ?_
    refine zj_callV (av := [.inl 60]) (st := []) (zdk ttX11_readCompared 8 rfl rfl) mb_X11_isSign mv_RX11_211 (ci := 11) rfl rfl (k_M s5) rfl rfl (Nat.le_of_ble_eq_true rfl) (s_X11_isSign l h3 60 s5 (by omega)) (rm_ok (by decide) (by decide)) (zq_i fun v11 h12 q10 => ?_)
    obtain ⟨rfl, b14, b15, ⟨rfl, b13⟩ | ⟨rfl, b13⟩⟩ := q10
    · refine zj_if_ne (t := 43) (zdk ttX11_readCompared 9 rfl rfl) (by decide) (by decide) (fun c16 => ?_) (fun c16 => ?_)
      · exact absurd c16 (by omega)
      · refine zj_aload_n (zdk ttX11_readCompared 10 rfl rfl) rfl (by decide) ?_
        refine zj_bipush (zdk ttX11_readCompared 11 rfl rfl) (by decide) ?_
        refine zj_callV (av := [.inl 61]) (st := []) (zdk ttX11_readCompared 12 rfl rfl) mb_X11_isSign mv_RX11_211 (ci := 11) rfl rfl (k_M s5) rfl rfl (Nat.le_of_ble_eq_true rfl) (s_X11_isSign l h3 61 s5 (by omega)) (rm_ok (by decide) (by decide)) (zq_i fun v18 h19 q17 => ?_)
        obtain ⟨rfl, b21, b22, ⟨rfl, b20⟩ | ⟨rfl, b20⟩⟩ := q17
        · refine zj_if_ne (t := 43) (zdk ttX11_readCompared 13 rfl rfl) (by decide) (by decide) (fun c23 => ?_) (fun c23 => ?_)
          · exact absurd c23 (by omega)
          · refine zj_aload_n (zdk ttX11_readCompared 14 rfl rfl) rfl (by decide) ?_
            refine zj_bipush (zdk ttX11_readCompared 15 rfl rfl) (by decide) ?_
            refine zj_callV (av := [.inl 62]) (st := []) (zdk ttX11_readCompared 16 rfl rfl) mb_X11_isSign mv_RX11_211 (ci := 11) rfl rfl (k_M s5) rfl rfl (Nat.le_of_ble_eq_true rfl) (s_X11_isSign l h3 62 s5 (by omega)) (rm_ok (by decide) (by decide)) (zq_i fun v25 h26 q24 => ?_)
            obtain ⟨rfl, b28, b29, ⟨rfl, b27⟩ | ⟨rfl, b27⟩⟩ := q24
            · refine zj_if_ne (t := 43) (zdk ttX11_readCompared 17 rfl rfl) (by decide) (by decide) (fun c30 => ?_) (fun c30 => ?_)
              · exact absurd c30 (by omega)
              · refine zj_aload_n (zdk ttX11_readCompared 18 rfl rfl) rfl (by decide) ?_
                refine zj_iconst (zdk ttX11_readCompared 19 rfl rfl) ?_
                refine zj_callV (av := [.inl 1]) (st := []) (zdk ttX11_readCompared 20 rfl rfl) mb_X11_errs mv_RX11_197 (ci := 11) rfl rfl (k_M s5) rfl rfl (Nat.le_of_ble_eq_true rfl) (s2_X11_errs l h3 1 s5 (by omega)) (rm_ok (by decide) (by decide)) (zq_i fun v32 h33 q31 => ?_)
                obtain ⟨b34, s35, f37, u36⟩ := q31
                have f39 : zfr [12, 13, 14, 15, 25, 29, 30] [14, 15] h h3 := zfr_t (zfr_r _ _ _) f8 rfl rfl
                have f38 : zfr [12, 13, 14, 15, 25, 29, 30] [14, 15] h h33 := zfr_t f39 f37 rfl rfl
                have b40 : 0 ≤ (h.2 0 14) ∧ (h.2 0 14) ≤ 4 := fM_14 s0
                have b41 : -2147483648 ≤ (h.2 0 15) ∧ (h.2 0 15) ≤ 2147483647 := fM_15 s0
                have b42 : h33.2 0 14 = (h3.2 0 14) := (zfr_f f37 rfl rfl)
                have b43 : h33.2 0 15 = (h3.2 0 15) := (zfr_f f37 rfl rfl)
                exact zj_iret rfl (zdk ttX11_readCompared 21 rfl rfl) (Nat.le_refl _) (Nat.le_refl _) ⟨v32, rfl, by omega, s35, f38, (fun q => absurd q (by omega)), (by intro T j t0; obtain ⟨r_1j, r_1a, r_1l, r_1r⟩ := (u7 T j t0).1 (by omega); have k_2 := tT0 r_1a.2.2.1; have k_2j := r_1a.1.1; have e_3 : tEp h h33 r_1j 1 := ⟨u36.1, r_1a.1.1, by have q9 := r_1a.2.1; rw [show h3.2 7 = h.2 7 from funext fun i9 => (zfr_a f8 rfl (by decide)), show h3.2 0 11 = h.2 0 11 from (zfr_f f8 rfl rfl)] at q9; rw [u36.2]; exact q9⟩; exact ⟨fun z => absurd z (by omega), fun _ => ⟨r_1j, _, e_3, fun p9 s9 => tRe_s (r_1r p9 (101 :: s9)) (tM5_n (by omega))⟩⟩)⟩
            · refine zj_if_ne (t := 43) (zdk ttX11_readCompared 17 rfl rfl) (by decide) (by decide) (fun c44 => ?_) (fun c44 => ?_)
              · refine zj_aload_n (zdk ttX11_readCompared 22 rfl rfl) rfl (by decide) ?_
                refine zj_geti (v := (h3.2 0 15)) (zdk ttX11_readCompared 23 rfl rfl) zf_RX11_169 rfl (k_M s5) rfl ?_
                refine zj_bipush (zdk ttX11_readCompared 24 rfl rfl) (by decide) ?_
                refine zj_icmp_ne (t := 57) (zdk ttX11_readCompared 25 rfl rfl) (by decide) (by omega) (by decide) (fun c45 => ?_) (fun c45 => ?_)
                · refine zj_aload_n (zdk ttX11_readCompared 28 rfl rfl) rfl (by decide) ?_
                  refine zj_geti (v := (h3.2 0 15)) (zdk ttX11_readCompared 29 rfl rfl) zf_RX11_169 rfl (k_M s5) rfl ?_
                  refine zj_bipush (zdk ttX11_readCompared 30 rfl rfl) (by decide) ?_
                  refine zj_icmp_ne (t := 71) (zdk ttX11_readCompared 31 rfl rfl) (by decide) (by omega) (by decide) (fun c46 => ?_) (fun c46 => ?_)
                  · refine zj_bipush (zdk ttX11_readCompared 34 rfl rfl) (by decide) ?_
                    refine zj_istore_n (L' := [some (.inr 0), some (.inl 8)]) (zdk ttX11_readCompared 35 rfl rfl) (by decide) rfl ?_
                    refine zj_aload_n (zdk ttX11_readCompared 36 rfl rfl) rfl (by decide) ?_
                    refine zj_callV (av := []) (st := []) (zdk ttX11_readCompared 37 rfl rfl) mb_X11_reads mv_RX11_204 (ci := 11) rfl rfl (k_M s5) rfl rfl (Nat.le_of_ble_eq_true rfl) (s2_X11_reads l h3 s5) (rm_ok (by decide) (by decide)) (zq_v fun h49 q47 => ?_)
                    obtain ⟨s51, f55, u52, u53, u54⟩ := q47
                    refine zj_aload_n (zdk ttX11_readCompared 38 rfl rfl) rfl (by decide) ?_
                    have r57 := u6 (by omega)
                    have r57b := r57.2.1.2
                    have r57t := r57.1
                    unfold tok at r57t
                    have r56B : rdB 0 h h3 := rdB_t (rdB_r h) r57.2.1 (by omega)
                    have r56P : rdP 1 h h3 := rdP_t (rdP_r h) r57.2.2 (by omega) (by omega)
                    have b59 : 0 ≤ (h3.2 0 12) ∧ (h3.2 0 12) ≤ 400 := fM_12 s5
                    have b60 : 0 ≤ (h3.2 0 13) ∧ (h3.2 0 13) ≤ 400 := fM_13 s5
                    have b61 : 0 ≤ (h3.2 0 25) ∧ (h3.2 0 25) ≤ 400 := fM_25 s5
                    have b62 : 0 ≤ (h49.2 0 12) ∧ (h49.2 0 12) ≤ 400 := fM_12 s51
                    have b63 : 0 ≤ (h49.2 0 13) ∧ (h49.2 0 13) ≤ 400 := fM_13 s51
                    have b64 : 0 ≤ (h49.2 0 14) ∧ (h49.2 0 14) ≤ 4 := fM_14 s51
                    have b65 : h49.2 0 25 = (h3.2 0 25) := (zfr_f f55 rfl rfl)
                    have t66 : tok h3 := r57.1
                    unfold tok at t66
                    have r58B : rdB 1 h h49 := rdB_t r56B (rdB_same (s := 1) f55 rfl (by omega)) (by omega)
                    have r58P : rdP 1 h h49 := rdP_t r56P (rdP_same f55 rfl) (by omega) (by omega)
                    have b67 := r58B.2
                    refine zj_callV (av := []) (st := []) (zdk ttX11_readCompared 39 rfl rfl) mb_X11_readSum mv_RX11_217 (ci := 11) rfl rfl (k_M s51) rfl rfl (Nat.le_of_ble_eq_true rfl) (s2_X11_readSum l h49 s51 u52 (by omega)) (rm_ok (by decide) (by decide)) (zq_i fun v69 h70 q68 => ?_)
                    obtain ⟨b71, s72, f75, u73, u74⟩ := q68
                    refine zj_iconst (zdk ttX11_readCompared 40 rfl rfl) ?_
                    refine zj_icmp_ne (t := 88) (zdk ttX11_readCompared 41 rfl rfl) (by decide) (by omega) (by decide) (fun c76 => ?_) (fun c76 => ?_)
                    · refine zj_aload_n (zdk ttX11_readCompared 44 rfl rfl) rfl (by decide) ?_
                      refine zj_iload_n (zdk ttX11_readCompared 45 rfl rfl) rfl ?_
                      refine zj_iconst (zdk ttX11_readCompared 46 rfl rfl) ?_
                      have r78 := u73 (by omega)
                      have r78b := r78.2.1.2
                      have r78t := r78.1
                      unfold tok at r78t
                      have r77B : rdB 1 h h70 := rdB_t r58B r78.2.1 (by omega)
                      have r77P : rdP 2 h h70 := rdP_t r58P r78.2.2 (by omega) (by omega)
                      have b79 : 0 ≤ (h70.2 0 12) ∧ (h70.2 0 12) ≤ 400 := fM_12 s72
                      have b80 : 0 ≤ (h70.2 0 13) ∧ (h70.2 0 13) ≤ 400 := fM_13 s72
                      have b81 : 0 ≤ (h70.2 0 14) ∧ (h70.2 0 14) ≤ 4 := fM_14 s72
                      have b82 : 0 ≤ (h70.2 0 25) ∧ (h70.2 0 25) ≤ 400 := fM_25 s72
                      have t83 : tok h70 := r78.1
                      unfold tok at t83
                      have b84 := r77B.2
                      refine zj_callV (av := [.inl 8, .inl 0]) (st := []) (zdk ttX11_readCompared 47 rfl rfl) mb_X11_emits mv_RX11_200 (ci := 11) rfl rfl (k_M s72) rfl rfl (Nat.le_of_ble_eq_true rfl) (s_X11_emits l h70 8 0 s72 (by omega) (by omega) (by omega)) (rm_ok (by decide) (by decide)) (zq_v fun h87 q85 => ?_)
                      obtain ⟨s89, f91, u90⟩ := q85
                      refine zj_iconst (zdk ttX11_readCompared 48 rfl rfl) ?_
                      have f95 : zfr [12, 13, 14, 15, 25, 29, 30] [14, 15] h h3 := zfr_t (zfr_r _ _ _) f8 rfl rfl
                      have f94 : zfr [12, 13, 14, 15, 25, 29, 30] [14, 15] h h49 := zfr_t f95 f55 rfl rfl
                      have f93 : zfr [12, 13, 14, 15, 25, 29, 30] [14, 15] h h70 := zfr_t f94 f75 rfl rfl
                      have f92 : zfr [12, 13, 14, 15, 25, 29, 30] [14, 15] h h87 := zfr_t f93 f91 rfl rfl
                      have r96B : rdB 0 h h87 := rdB_t r77B (rdB_em u90 f91) (by omega)
                      have r96P : rdP 1 h h87 := rdP_bin r77P u90 (by decide)
                      have b97 : 0 ≤ (h.2 0 14) ∧ (h.2 0 14) ≤ 4 := fM_14 s0
                      have b98 : -2147483648 ≤ (h.2 0 15) ∧ (h.2 0 15) ≤ 2147483647 := fM_15 s0
                      have b99 : -2147483648 ≤ (h49.2 0 15) ∧ (h49.2 0 15) ≤ 2147483647 := fM_15 s51
                      have b100 : -2147483648 ≤ (h70.2 0 15) ∧ (h70.2 0 15) ≤ 2147483647 := fM_15 s72
                      have b101 : h87.2 0 14 = (h70.2 0 14) := (zfr_f f91 rfl rfl)
                      have b102 : h87.2 0 15 = (h70.2 0 15) := (zfr_f f91 rfl rfl)
                      exact zj_iret rfl (zdk ttX11_readCompared 49 rfl rfl) (Nat.le_refl _) (Nat.le_refl _) ⟨0, rfl, by omega, s89, f92, (fun _ => ⟨(tok_same r78.1 f91 rfl rfl rfl rfl), rdB_t r96B (rdB_r _) (by omega), r96P⟩), (by intro T j t0; obtain ⟨r_1j, r_1a, r_1l, r_1r⟩ := (u7 T j t0).1 (by omega); have k_2 := tT0 r_1a.2.2.1; have k_2j := r_1a.1.1; have k_3 := tT0 r_1a.2.2.1; have k_3j := r_1a.1.1; have a_4 : tPm 0 T (r_1j + 1) h49 := tPm_r r_1a (by omega) (u54 r_1a.2.2.2.2.2.1 (tPm_l r_1a (by omega))) (fun k => (zfr_a f55 rfl (by decide))) (fun k => (zfr_a f55 rfl (by decide))) (zfr_f f55 rfl rfl); obtain ⟨r_5j, r_5a, r_5l, r_5r⟩ := (u74 T (r_1j + 1) a_4).1 (by omega); have a_6 : tPm 0 T r_5j h87 := tPm_f r_5a (fun k => (zfr_a f91 rfl (by decide))) (fun k => (zfr_a f91 rfl (by decide))) (zfr_f f91 rfl rfl) (zfr_f f91 rfl rfl) (zfr_f f91 rfl rfl) (zfr_f f91 rfl rfl) (zfr_f f91 rfl rfl); exact ⟨fun _ => ⟨r_5j, a_6, by omega, fun p9 s9 => tRe_s (tRe_t (tRe_s (r_1r p9 (101 :: s9)) (tM5_c (by omega))) (r_5r p9 (T r_1j :: s9))) (tM5_r (by omega))⟩, fun z => absurd z (by omega)⟩)⟩
                    · refine zj_iconst (zdk ttX11_readCompared 42 rfl rfl) ?_
                      have f105 : zfr [12, 13, 14, 15, 25, 29, 30] [14, 15] h h3 := zfr_t (zfr_r _ _ _) f8 rfl rfl
                      have f104 : zfr [12, 13, 14, 15, 25, 29, 30] [14, 15] h h49 := zfr_t f105 f55 rfl rfl
                      have f103 : zfr [12, 13, 14, 15, 25, 29, 30] [14, 15] h h70 := zfr_t f104 f75 rfl rfl
                      have b106 : 0 ≤ (h.2 0 14) ∧ (h.2 0 14) ≤ 4 := fM_14 s0
                      have b107 : -2147483648 ≤ (h.2 0 15) ∧ (h.2 0 15) ≤ 2147483647 := fM_15 s0
                      have b108 : -2147483648 ≤ (h49.2 0 15) ∧ (h49.2 0 15) ≤ 2147483647 := fM_15 s51
                      have b109 : 0 ≤ (h70.2 0 14) ∧ (h70.2 0 14) ≤ 4 := fM_14 s72
                      have b110 : -2147483648 ≤ (h70.2 0 15) ∧ (h70.2 0 15) ≤ 2147483647 := fM_15 s72
                      exact zj_iret rfl (zdk ttX11_readCompared 43 rfl rfl) (Nat.le_refl _) (Nat.le_refl _) ⟨(-1), rfl, by omega, s72, f103, (fun q => absurd q (by omega)), (by intro T j t0; obtain ⟨r_1j, r_1a, r_1l, r_1r⟩ := (u7 T j t0).1 (by omega); have k_2 := tT0 r_1a.2.2.1; have k_2j := r_1a.1.1; have k_3 := tT0 r_1a.2.2.1; have k_3j := r_1a.1.1; have a_4 : tPm 0 T (r_1j + 1) h49 := tPm_r r_1a (by omega) (u54 r_1a.2.2.2.2.2.1 (tPm_l r_1a (by omega))) (fun k => (zfr_a f55 rfl (by decide))) (fun k => (zfr_a f55 rfl (by decide))) (zfr_f f55 rfl rfl); obtain ⟨e_5i, e_5f, e_5p, e_5r⟩ := (u74 T (r_1j + 1) a_4).2 (by omega); have e_5q : tEp h h70 e_5i e_5f := (by have q9 := e_5p; unfold tEp at q9 ⊢; rw [show h49.2 7 = h.2 7 from funext fun i9 => ((zfr_a f55 rfl (by decide)).trans (zfr_a f8 rfl (by decide))), show h49.2 0 11 = h.2 0 11 from ((zfr_f f55 rfl rfl).trans (zfr_f f8 rfl rfl))] at q9; exact q9); exact ⟨fun z => absurd z (by omega), fun _ => ⟨e_5i, e_5f, e_5q, fun p9 s9 => tRe_t (tRe_s (r_1r p9 (101 :: s9)) (tM5_c (by omega))) (e_5r p9 (T r_1j :: s9))⟩⟩)⟩
                  · exact absurd c46 (by omega)
                · exact absurd c45 (by omega)
              · exact absurd c44 (by omega)
        · refine zj_if_ne (t := 43) (zdk ttX11_readCompared 13 rfl rfl) (by decide) (by decide) (fun c111 => ?_) (fun c111 => ?_)
          · refine zj_aload_n (zdk ttX11_readCompared 22 rfl rfl) rfl (by decide) ?_
            refine zj_geti (v := (h3.2 0 15)) (zdk ttX11_readCompared 23 rfl rfl) zf_RX11_169 rfl (k_M s5) rfl ?_
            refine zj_bipush (zdk ttX11_readCompared 24 rfl rfl) (by decide) ?_
            refine zj_icmp_ne (t := 57) (zdk ttX11_readCompared 25 rfl rfl) (by decide) (by omega) (by decide) (fun c112 => ?_) (fun c112 => ?_)
            · refine zj_aload_n (zdk ttX11_readCompared 28 rfl rfl) rfl (by decide) ?_
              refine zj_geti (v := (h3.2 0 15)) (zdk ttX11_readCompared 29 rfl rfl) zf_RX11_169 rfl (k_M s5) rfl ?_
              refine zj_bipush (zdk ttX11_readCompared 30 rfl rfl) (by decide) ?_
              refine zj_icmp_ne (t := 71) (zdk ttX11_readCompared 31 rfl rfl) (by decide) (by omega) (by decide) (fun c113 => ?_) (fun c113 => ?_)
              · exact absurd c113 (by omega)
              · refine zj_bipush (zdk ttX11_readCompared 32 rfl rfl) (by decide) ?_
                refine zj_goto (t := 73) (zdk ttX11_readCompared 33 rfl rfl) (by decide) ?_
                refine zj_istore_n (L' := [some (.inr 0), some (.inl 7)]) (zdk ttX11_readCompared 35 rfl rfl) (by decide) rfl ?_
                refine zj_aload_n (zdk ttX11_readCompared 36 rfl rfl) rfl (by decide) ?_
                refine zj_callV (av := []) (st := []) (zdk ttX11_readCompared 37 rfl rfl) mb_X11_reads mv_RX11_204 (ci := 11) rfl rfl (k_M s5) rfl rfl (Nat.le_of_ble_eq_true rfl) (s2_X11_reads l h3 s5) (rm_ok (by decide) (by decide)) (zq_v fun h116 q114 => ?_)
                obtain ⟨s118, f122, u119, u120, u121⟩ := q114
                refine zj_aload_n (zdk ttX11_readCompared 38 rfl rfl) rfl (by decide) ?_
                have r124 := u6 (by omega)
                have r124b := r124.2.1.2
                have r124t := r124.1
                unfold tok at r124t
                have r123B : rdB 0 h h3 := rdB_t (rdB_r h) r124.2.1 (by omega)
                have r123P : rdP 1 h h3 := rdP_t (rdP_r h) r124.2.2 (by omega) (by omega)
                have b126 : 0 ≤ (h3.2 0 12) ∧ (h3.2 0 12) ≤ 400 := fM_12 s5
                have b127 : 0 ≤ (h3.2 0 13) ∧ (h3.2 0 13) ≤ 400 := fM_13 s5
                have b128 : 0 ≤ (h3.2 0 25) ∧ (h3.2 0 25) ≤ 400 := fM_25 s5
                have b129 : 0 ≤ (h116.2 0 12) ∧ (h116.2 0 12) ≤ 400 := fM_12 s118
                have b130 : 0 ≤ (h116.2 0 13) ∧ (h116.2 0 13) ≤ 400 := fM_13 s118
                have b131 : 0 ≤ (h116.2 0 14) ∧ (h116.2 0 14) ≤ 4 := fM_14 s118
                have b132 : h116.2 0 25 = (h3.2 0 25) := (zfr_f f122 rfl rfl)
                have t133 : tok h3 := r124.1
                unfold tok at t133
                have r125B : rdB 1 h h116 := rdB_t r123B (rdB_same (s := 1) f122 rfl (by omega)) (by omega)
                have r125P : rdP 1 h h116 := rdP_t r123P (rdP_same f122 rfl) (by omega) (by omega)
                have b134 := r125B.2
                refine zj_callV (av := []) (st := []) (zdk ttX11_readCompared 39 rfl rfl) mb_X11_readSum mv_RX11_217 (ci := 11) rfl rfl (k_M s118) rfl rfl (Nat.le_of_ble_eq_true rfl) (s2_X11_readSum l h116 s118 u119 (by omega)) (rm_ok (by decide) (by decide)) (zq_i fun v136 h137 q135 => ?_)
                obtain ⟨b138, s139, f142, u140, u141⟩ := q135
                refine zj_iconst (zdk ttX11_readCompared 40 rfl rfl) ?_
                refine zj_icmp_ne (t := 88) (zdk ttX11_readCompared 41 rfl rfl) (by decide) (by omega) (by decide) (fun c143 => ?_) (fun c143 => ?_)
                · refine zj_aload_n (zdk ttX11_readCompared 44 rfl rfl) rfl (by decide) ?_
                  refine zj_iload_n (zdk ttX11_readCompared 45 rfl rfl) rfl ?_
                  refine zj_iconst (zdk ttX11_readCompared 46 rfl rfl) ?_
                  have r145 := u140 (by omega)
                  have r145b := r145.2.1.2
                  have r145t := r145.1
                  unfold tok at r145t
                  have r144B : rdB 1 h h137 := rdB_t r125B r145.2.1 (by omega)
                  have r144P : rdP 2 h h137 := rdP_t r125P r145.2.2 (by omega) (by omega)
                  have b146 : 0 ≤ (h137.2 0 12) ∧ (h137.2 0 12) ≤ 400 := fM_12 s139
                  have b147 : 0 ≤ (h137.2 0 13) ∧ (h137.2 0 13) ≤ 400 := fM_13 s139
                  have b148 : 0 ≤ (h137.2 0 14) ∧ (h137.2 0 14) ≤ 4 := fM_14 s139
                  have b149 : 0 ≤ (h137.2 0 25) ∧ (h137.2 0 25) ≤ 400 := fM_25 s139
                  have t150 : tok h137 := r145.1
                  unfold tok at t150
                  have b151 := r144B.2
                  refine zj_callV (av := [.inl 7, .inl 0]) (st := []) (zdk ttX11_readCompared 47 rfl rfl) mb_X11_emits mv_RX11_200 (ci := 11) rfl rfl (k_M s139) rfl rfl (Nat.le_of_ble_eq_true rfl) (s_X11_emits l h137 7 0 s139 (by omega) (by omega) (by omega)) (rm_ok (by decide) (by decide)) (zq_v fun h154 q152 => ?_)
                  obtain ⟨s156, f158, u157⟩ := q152
                  refine zj_iconst (zdk ttX11_readCompared 48 rfl rfl) ?_
                  have f162 : zfr [12, 13, 14, 15, 25, 29, 30] [14, 15] h h3 := zfr_t (zfr_r _ _ _) f8 rfl rfl
                  have f161 : zfr [12, 13, 14, 15, 25, 29, 30] [14, 15] h h116 := zfr_t f162 f122 rfl rfl
                  have f160 : zfr [12, 13, 14, 15, 25, 29, 30] [14, 15] h h137 := zfr_t f161 f142 rfl rfl
                  have f159 : zfr [12, 13, 14, 15, 25, 29, 30] [14, 15] h h154 := zfr_t f160 f158 rfl rfl
                  have r163B : rdB 0 h h154 := rdB_t r144B (rdB_em u157 f158) (by omega)
                  have r163P : rdP 1 h h154 := rdP_bin r144P u157 (by decide)
                  have b164 : 0 ≤ (h.2 0 14) ∧ (h.2 0 14) ≤ 4 := fM_14 s0
                  have b165 : -2147483648 ≤ (h.2 0 15) ∧ (h.2 0 15) ≤ 2147483647 := fM_15 s0
                  have b166 : -2147483648 ≤ (h116.2 0 15) ∧ (h116.2 0 15) ≤ 2147483647 := fM_15 s118
                  have b167 : -2147483648 ≤ (h137.2 0 15) ∧ (h137.2 0 15) ≤ 2147483647 := fM_15 s139
                  have b168 : h154.2 0 14 = (h137.2 0 14) := (zfr_f f158 rfl rfl)
                  have b169 : h154.2 0 15 = (h137.2 0 15) := (zfr_f f158 rfl rfl)
                  exact zj_iret rfl (zdk ttX11_readCompared 49 rfl rfl) (Nat.le_refl _) (Nat.le_refl _) ⟨0, rfl, by omega, s156, f159, (fun _ => ⟨(tok_same r145.1 f158 rfl rfl rfl rfl), rdB_t r163B (rdB_r _) (by omega), r163P⟩), (by intro T j t0; obtain ⟨r_1j, r_1a, r_1l, r_1r⟩ := (u7 T j t0).1 (by omega); have k_2 := tT0 r_1a.2.2.1; have k_2j := r_1a.1.1; have k_3 := tT0 r_1a.2.2.1; have k_3j := r_1a.1.1; have a_4 : tPm 0 T (r_1j + 1) h116 := tPm_r r_1a (by omega) (u121 r_1a.2.2.2.2.2.1 (tPm_l r_1a (by omega))) (fun k => (zfr_a f122 rfl (by decide))) (fun k => (zfr_a f122 rfl (by decide))) (zfr_f f122 rfl rfl); obtain ⟨r_5j, r_5a, r_5l, r_5r⟩ := (u141 T (r_1j + 1) a_4).1 (by omega); have a_6 : tPm 0 T r_5j h154 := tPm_f r_5a (fun k => (zfr_a f158 rfl (by decide))) (fun k => (zfr_a f158 rfl (by decide))) (zfr_f f158 rfl rfl) (zfr_f f158 rfl rfl) (zfr_f f158 rfl rfl) (zfr_f f158 rfl rfl) (zfr_f f158 rfl rfl); exact ⟨fun _ => ⟨r_5j, a_6, by omega, fun p9 s9 => tRe_s (tRe_t (tRe_s (r_1r p9 (101 :: s9)) (tM5_c (by omega))) (r_5r p9 (T r_1j :: s9))) (tM5_r (by omega))⟩, fun z => absurd z (by omega)⟩)⟩
                · refine zj_iconst (zdk ttX11_readCompared 42 rfl rfl) ?_
                  have f172 : zfr [12, 13, 14, 15, 25, 29, 30] [14, 15] h h3 := zfr_t (zfr_r _ _ _) f8 rfl rfl
                  have f171 : zfr [12, 13, 14, 15, 25, 29, 30] [14, 15] h h116 := zfr_t f172 f122 rfl rfl
                  have f170 : zfr [12, 13, 14, 15, 25, 29, 30] [14, 15] h h137 := zfr_t f171 f142 rfl rfl
                  have b173 : 0 ≤ (h.2 0 14) ∧ (h.2 0 14) ≤ 4 := fM_14 s0
                  have b174 : -2147483648 ≤ (h.2 0 15) ∧ (h.2 0 15) ≤ 2147483647 := fM_15 s0
                  have b175 : -2147483648 ≤ (h116.2 0 15) ∧ (h116.2 0 15) ≤ 2147483647 := fM_15 s118
                  have b176 : 0 ≤ (h137.2 0 14) ∧ (h137.2 0 14) ≤ 4 := fM_14 s139
                  have b177 : -2147483648 ≤ (h137.2 0 15) ∧ (h137.2 0 15) ≤ 2147483647 := fM_15 s139
                  exact zj_iret rfl (zdk ttX11_readCompared 43 rfl rfl) (Nat.le_refl _) (Nat.le_refl _) ⟨(-1), rfl, by omega, s139, f170, (fun q => absurd q (by omega)), (by intro T j t0; obtain ⟨r_1j, r_1a, r_1l, r_1r⟩ := (u7 T j t0).1 (by omega); have k_2 := tT0 r_1a.2.2.1; have k_2j := r_1a.1.1; have k_3 := tT0 r_1a.2.2.1; have k_3j := r_1a.1.1; have a_4 : tPm 0 T (r_1j + 1) h116 := tPm_r r_1a (by omega) (u121 r_1a.2.2.2.2.2.1 (tPm_l r_1a (by omega))) (fun k => (zfr_a f122 rfl (by decide))) (fun k => (zfr_a f122 rfl (by decide))) (zfr_f f122 rfl rfl); obtain ⟨e_5i, e_5f, e_5p, e_5r⟩ := (u141 T (r_1j + 1) a_4).2 (by omega); have e_5q : tEp h h137 e_5i e_5f := (by have q9 := e_5p; unfold tEp at q9 ⊢; rw [show h116.2 7 = h.2 7 from funext fun i9 => ((zfr_a f122 rfl (by decide)).trans (zfr_a f8 rfl (by decide))), show h116.2 0 11 = h.2 0 11 from ((zfr_f f122 rfl rfl).trans (zfr_f f8 rfl rfl))] at q9; exact q9); exact ⟨fun z => absurd z (by omega), fun _ => ⟨e_5i, e_5f, e_5q, fun p9 s9 => tRe_t (tRe_s (r_1r p9 (101 :: s9)) (tM5_c (by omega))) (e_5r p9 (T r_1j :: s9))⟩⟩)⟩
            · exact absurd c112 (by omega)
          · exact absurd c111 (by omega)
    · refine zj_if_ne (t := 43) (zdk ttX11_readCompared 9 rfl rfl) (by decide) (by decide) (fun c178 => ?_) (fun c178 => ?_)
      · refine zj_aload_n (zdk ttX11_readCompared 22 rfl rfl) rfl (by decide) ?_
        refine zj_geti (v := (h3.2 0 15)) (zdk ttX11_readCompared 23 rfl rfl) zf_RX11_169 rfl (k_M s5) rfl ?_
        refine zj_bipush (zdk ttX11_readCompared 24 rfl rfl) (by decide) ?_
        refine zj_icmp_ne (t := 57) (zdk ttX11_readCompared 25 rfl rfl) (by decide) (by omega) (by decide) (fun c179 => ?_) (fun c179 => ?_)
        · exact absurd c179 (by omega)
        · refine zj_bipush (zdk ttX11_readCompared 26 rfl rfl) (by decide) ?_
          refine zj_goto (t := 73) (zdk ttX11_readCompared 27 rfl rfl) (by decide) ?_
          refine zj_istore_n (L' := [some (.inr 0), some (.inl 6)]) (zdk ttX11_readCompared 35 rfl rfl) (by decide) rfl ?_
          refine zj_aload_n (zdk ttX11_readCompared 36 rfl rfl) rfl (by decide) ?_
          refine zj_callV (av := []) (st := []) (zdk ttX11_readCompared 37 rfl rfl) mb_X11_reads mv_RX11_204 (ci := 11) rfl rfl (k_M s5) rfl rfl (Nat.le_of_ble_eq_true rfl) (s2_X11_reads l h3 s5) (rm_ok (by decide) (by decide)) (zq_v fun h182 q180 => ?_)
          obtain ⟨s184, f188, u185, u186, u187⟩ := q180
          refine zj_aload_n (zdk ttX11_readCompared 38 rfl rfl) rfl (by decide) ?_
          have r190 := u6 (by omega)
          have r190b := r190.2.1.2
          have r190t := r190.1
          unfold tok at r190t
          have r189B : rdB 0 h h3 := rdB_t (rdB_r h) r190.2.1 (by omega)
          have r189P : rdP 1 h h3 := rdP_t (rdP_r h) r190.2.2 (by omega) (by omega)
          have b192 : 0 ≤ (h3.2 0 12) ∧ (h3.2 0 12) ≤ 400 := fM_12 s5
          have b193 : 0 ≤ (h3.2 0 13) ∧ (h3.2 0 13) ≤ 400 := fM_13 s5
          have b194 : 0 ≤ (h3.2 0 25) ∧ (h3.2 0 25) ≤ 400 := fM_25 s5
          have b195 : 0 ≤ (h182.2 0 12) ∧ (h182.2 0 12) ≤ 400 := fM_12 s184
          have b196 : 0 ≤ (h182.2 0 13) ∧ (h182.2 0 13) ≤ 400 := fM_13 s184
          have b197 : 0 ≤ (h182.2 0 14) ∧ (h182.2 0 14) ≤ 4 := fM_14 s184
          have b198 : h182.2 0 25 = (h3.2 0 25) := (zfr_f f188 rfl rfl)
          have t199 : tok h3 := r190.1
          unfold tok at t199
          have r191B : rdB 1 h h182 := rdB_t r189B (rdB_same (s := 1) f188 rfl (by omega)) (by omega)
          have r191P : rdP 1 h h182 := rdP_t r189P (rdP_same f188 rfl) (by omega) (by omega)
          have b200 := r191B.2
          refine zj_callV (av := []) (st := []) (zdk ttX11_readCompared 39 rfl rfl) mb_X11_readSum mv_RX11_217 (ci := 11) rfl rfl (k_M s184) rfl rfl (Nat.le_of_ble_eq_true rfl) (s2_X11_readSum l h182 s184 u185 (by omega)) (rm_ok (by decide) (by decide)) (zq_i fun v202 h203 q201 => ?_)
          obtain ⟨b204, s205, f208, u206, u207⟩ := q201
          refine zj_iconst (zdk ttX11_readCompared 40 rfl rfl) ?_
          refine zj_icmp_ne (t := 88) (zdk ttX11_readCompared 41 rfl rfl) (by decide) (by omega) (by decide) (fun c209 => ?_) (fun c209 => ?_)
          · refine zj_aload_n (zdk ttX11_readCompared 44 rfl rfl) rfl (by decide) ?_
            refine zj_iload_n (zdk ttX11_readCompared 45 rfl rfl) rfl ?_
            refine zj_iconst (zdk ttX11_readCompared 46 rfl rfl) ?_
            have r211 := u206 (by omega)
            have r211b := r211.2.1.2
            have r211t := r211.1
            unfold tok at r211t
            have r210B : rdB 1 h h203 := rdB_t r191B r211.2.1 (by omega)
            have r210P : rdP 2 h h203 := rdP_t r191P r211.2.2 (by omega) (by omega)
            have b212 : 0 ≤ (h203.2 0 12) ∧ (h203.2 0 12) ≤ 400 := fM_12 s205
            have b213 : 0 ≤ (h203.2 0 13) ∧ (h203.2 0 13) ≤ 400 := fM_13 s205
            have b214 : 0 ≤ (h203.2 0 14) ∧ (h203.2 0 14) ≤ 4 := fM_14 s205
            have b215 : 0 ≤ (h203.2 0 25) ∧ (h203.2 0 25) ≤ 400 := fM_25 s205
            have t216 : tok h203 := r211.1
            unfold tok at t216
            have b217 := r210B.2
            refine zj_callV (av := [.inl 6, .inl 0]) (st := []) (zdk ttX11_readCompared 47 rfl rfl) mb_X11_emits mv_RX11_200 (ci := 11) rfl rfl (k_M s205) rfl rfl (Nat.le_of_ble_eq_true rfl) (s_X11_emits l h203 6 0 s205 (by omega) (by omega) (by omega)) (rm_ok (by decide) (by decide)) (zq_v fun h220 q218 => ?_)
            obtain ⟨s222, f224, u223⟩ := q218
            refine zj_iconst (zdk ttX11_readCompared 48 rfl rfl) ?_
            have f228 : zfr [12, 13, 14, 15, 25, 29, 30] [14, 15] h h3 := zfr_t (zfr_r _ _ _) f8 rfl rfl
            have f227 : zfr [12, 13, 14, 15, 25, 29, 30] [14, 15] h h182 := zfr_t f228 f188 rfl rfl
            have f226 : zfr [12, 13, 14, 15, 25, 29, 30] [14, 15] h h203 := zfr_t f227 f208 rfl rfl
            have f225 : zfr [12, 13, 14, 15, 25, 29, 30] [14, 15] h h220 := zfr_t f226 f224 rfl rfl
            have r229B : rdB 0 h h220 := rdB_t r210B (rdB_em u223 f224) (by omega)
            have r229P : rdP 1 h h220 := rdP_bin r210P u223 (by decide)
            have b230 : 0 ≤ (h.2 0 14) ∧ (h.2 0 14) ≤ 4 := fM_14 s0
            have b231 : -2147483648 ≤ (h.2 0 15) ∧ (h.2 0 15) ≤ 2147483647 := fM_15 s0
            have b232 : -2147483648 ≤ (h182.2 0 15) ∧ (h182.2 0 15) ≤ 2147483647 := fM_15 s184
            have b233 : -2147483648 ≤ (h203.2 0 15) ∧ (h203.2 0 15) ≤ 2147483647 := fM_15 s205
            have b234 : h220.2 0 14 = (h203.2 0 14) := (zfr_f f224 rfl rfl)
            have b235 : h220.2 0 15 = (h203.2 0 15) := (zfr_f f224 rfl rfl)
            exact zj_iret rfl (zdk ttX11_readCompared 49 rfl rfl) (Nat.le_refl _) (Nat.le_refl _) ⟨0, rfl, by omega, s222, f225, (fun _ => ⟨(tok_same r211.1 f224 rfl rfl rfl rfl), rdB_t r229B (rdB_r _) (by omega), r229P⟩), (by intro T j t0; obtain ⟨r_1j, r_1a, r_1l, r_1r⟩ := (u7 T j t0).1 (by omega); have k_2 := tT0 r_1a.2.2.1; have k_2j := r_1a.1.1; have k_3 := tT0 r_1a.2.2.1; have k_3j := r_1a.1.1; have a_4 : tPm 0 T (r_1j + 1) h182 := tPm_r r_1a (by omega) (u187 r_1a.2.2.2.2.2.1 (tPm_l r_1a (by omega))) (fun k => (zfr_a f188 rfl (by decide))) (fun k => (zfr_a f188 rfl (by decide))) (zfr_f f188 rfl rfl); obtain ⟨r_5j, r_5a, r_5l, r_5r⟩ := (u207 T (r_1j + 1) a_4).1 (by omega); have a_6 : tPm 0 T r_5j h220 := tPm_f r_5a (fun k => (zfr_a f224 rfl (by decide))) (fun k => (zfr_a f224 rfl (by decide))) (zfr_f f224 rfl rfl) (zfr_f f224 rfl rfl) (zfr_f f224 rfl rfl) (zfr_f f224 rfl rfl) (zfr_f f224 rfl rfl); exact ⟨fun _ => ⟨r_5j, a_6, by omega, fun p9 s9 => tRe_s (tRe_t (tRe_s (r_1r p9 (101 :: s9)) (tM5_c (by omega))) (r_5r p9 (T r_1j :: s9))) (tM5_r (by omega))⟩, fun z => absurd z (by omega)⟩)⟩
          · refine zj_iconst (zdk ttX11_readCompared 42 rfl rfl) ?_
            have f238 : zfr [12, 13, 14, 15, 25, 29, 30] [14, 15] h h3 := zfr_t (zfr_r _ _ _) f8 rfl rfl
            have f237 : zfr [12, 13, 14, 15, 25, 29, 30] [14, 15] h h182 := zfr_t f238 f188 rfl rfl
            have f236 : zfr [12, 13, 14, 15, 25, 29, 30] [14, 15] h h203 := zfr_t f237 f208 rfl rfl
            have b239 : 0 ≤ (h.2 0 14) ∧ (h.2 0 14) ≤ 4 := fM_14 s0
            have b240 : -2147483648 ≤ (h.2 0 15) ∧ (h.2 0 15) ≤ 2147483647 := fM_15 s0
            have b241 : -2147483648 ≤ (h182.2 0 15) ∧ (h182.2 0 15) ≤ 2147483647 := fM_15 s184
            have b242 : 0 ≤ (h203.2 0 14) ∧ (h203.2 0 14) ≤ 4 := fM_14 s205
            have b243 : -2147483648 ≤ (h203.2 0 15) ∧ (h203.2 0 15) ≤ 2147483647 := fM_15 s205
            exact zj_iret rfl (zdk ttX11_readCompared 43 rfl rfl) (Nat.le_refl _) (Nat.le_refl _) ⟨(-1), rfl, by omega, s205, f236, (fun q => absurd q (by omega)), (by intro T j t0; obtain ⟨r_1j, r_1a, r_1l, r_1r⟩ := (u7 T j t0).1 (by omega); have k_2 := tT0 r_1a.2.2.1; have k_2j := r_1a.1.1; have k_3 := tT0 r_1a.2.2.1; have k_3j := r_1a.1.1; have a_4 : tPm 0 T (r_1j + 1) h182 := tPm_r r_1a (by omega) (u187 r_1a.2.2.2.2.2.1 (tPm_l r_1a (by omega))) (fun k => (zfr_a f188 rfl (by decide))) (fun k => (zfr_a f188 rfl (by decide))) (zfr_f f188 rfl rfl); obtain ⟨e_5i, e_5f, e_5p, e_5r⟩ := (u207 T (r_1j + 1) a_4).2 (by omega); have e_5q : tEp h h203 e_5i e_5f := (by have q9 := e_5p; unfold tEp at q9 ⊢; rw [show h182.2 7 = h.2 7 from funext fun i9 => ((zfr_a f188 rfl (by decide)).trans (zfr_a f8 rfl (by decide))), show h182.2 0 11 = h.2 0 11 from ((zfr_f f188 rfl rfl).trans (zfr_f f8 rfl rfl))] at q9; exact q9); exact ⟨fun z => absurd z (by omega), fun _ => ⟨e_5i, e_5f, e_5q, fun p9 s9 => tRe_t (tRe_s (r_1r p9 (101 :: s9)) (tM5_c (by omega))) (e_5r p9 (T r_1j :: s9))⟩⟩)⟩
      · exact absurd c178 (by omega)
  · refine zj_iconst (zdk ttX11_readCompared 4 rfl rfl) ?_
    have f244 : zfr [12, 13, 14, 15, 25, 29, 30] [14, 15] h h3 := zfr_t (zfr_r _ _ _) f8 rfl rfl
    have b245 : 0 ≤ (h.2 0 14) ∧ (h.2 0 14) ≤ 4 := fM_14 s0
    have b246 : -2147483648 ≤ (h.2 0 15) ∧ (h.2 0 15) ≤ 2147483647 := fM_15 s0
    have b247 : 0 ≤ (h3.2 0 14) ∧ (h3.2 0 14) ≤ 4 := fM_14 s5
    have b248 : -2147483648 ≤ (h3.2 0 15) ∧ (h3.2 0 15) ≤ 2147483647 := fM_15 s5
    exact zj_iret rfl (zdk ttX11_readCompared 5 rfl rfl) (Nat.le_refl _) (Nat.le_refl _) ⟨(-1), rfl, by omega, s5, f244, (fun q => absurd q (by omega)), (by intro T j t0; obtain ⟨e_1i, e_1f, e_1p, e_1r⟩ := (u7 T j t0).2 (by omega); have e_1q : tEp h h3 e_1i e_1f := (by have q9 := e_1p; unfold tEp at q9 ⊢; rw [show h.2 7 = h.2 7 from funext fun i9 => rfl, show h.2 0 11 = h.2 0 11 from rfl] at q9; exact q9); exact ⟨fun z => absurd z (by omega), fun _ => ⟨e_1i, e_1f, e_1q, fun p9 s9 => e_1r p9 (101 :: s9)⟩⟩)⟩

