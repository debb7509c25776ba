abbrev q2_X11_lineOf (h : zM) (p1 : Int) : Option zV → zM → Prop := zqi fun v h' => ((-1) ≤ v ∧ v ≤ 15) ∧ okM h' ∧ zfr [] [21] h h' ∧ (v < h'.2 9 0) ∧ (∀ E th x i, zY h E th x → zAs h E x.1 i → v = fLn E x.1 i p1 E.lm.toNat 0)
set_option maxRecDepth 100000 in
set_option maxHeartbeats 4000000 in
theorem s2_X11_lineOf (l : Launch) (h : zM) (p1 : Int) (s0 : okM h) (b_p1 : (-2147483648) ≤ p1 ∧ p1 ≤ 2147483647) : zT shM l yX11_lineOf cX11_lineOf 3 (some .int) (rmL 3) 0 0 [.inr 0, .inl p1] h (q2_X11_lineOf h p1) := by
  refine zT_of (by decide +kernel) (L0 := [some (.inr 0), some (.inl p1), none]) rfl (Nat.le_of_ble_eq_true rfl) ?_
  refine zj_iconst (zdk ttX11_lineOf 0 rfl rfl) ?_
  refine zj_istore_n (L' := [some (.inr 0), some (.inl p1), some (.inl 0)]) (zdk ttX11_lineOf 1 rfl rfl) (by decide) rfl ?_
  have lp80 : ∀ (n2 : Nat) (x1 : Int) (h2 : zM), (0 ≤ x1 ∧ x1 ≤ 16) → okM h2 → zfr [] [21] h h2 → (∀ E th x i, zY h E th x → zAs h E x.1 i → fLn E x.1 i p1 (E.lm - x1).toNat x1 = fLn E x.1 i p1 E.lm.toNat 0) → (17 - x1).toNat < n2 → zJ shM l yX11_lineOf cX11_lineOf 3 (some .int) (rmL 3) 0 0 (q2_X11_lineOf h p1) 0 0 2 [some (.inr 0), some (.inl p1), some (.inl x1)] [] h2 := by
    intro n2
    induction n2 with
    | zero => intro x1 h2 b81 s3 f4 u82 m83; exact absurd m83 (Nat.not_lt_zero _)
    | succ n2 ih84 =>
      intro x1 h2 b81 s3 f4 u82 m83
      refine zj_iload_n (zdk ttX11_lineOf 2 rfl rfl) rfl ?_
      refine zj_aload_n (zdk ttX11_lineOf 3 rfl rfl) rfl (by decide) ?_
      refine zj_getr (r := 9) (zdk ttX11_lineOf 4 rfl rfl) zf_RX11_34 rfl (k_M s3) (rfM_17 s3) ?_
      refine zj_iconst (zdk ttX11_lineOf 5 rfl rfl) ?_
      have b85 : 0 ≤ (h2.2 9 0) ∧ (h2.2 9 0) ≤ 16 := abM_9 s3 0
      refine zj_iald (v := (h2.2 9 0)) (zdk ttX11_lineOf 6 rfl rfl) (kaM_9 s3) (by decide) (by omega) rfl ?_
      refine zj_icmp_ge (t := 65) (zdk ttX11_lineOf 7 rfl rfl) (by decide) (by omega) (by omega) (fun c86 => ?_) (fun c86 => ?_)
      · refine zj_iconst (zdk ttX11_lineOf 39 rfl rfl) ?_
        exact zj_iret rfl (zdk ttX11_lineOf 40 rfl rfl) (Nat.le_refl _) (Nat.le_refl _) ⟨(-1), rfl, by omega, s3, f4, by omega, (by intro E th x i t0 a0; have u0 := u82 E th x i t0 a0; have tH := (zY_fr t0 f4 rfl); have g0 := zY_g tH; have e0 := fLn_e (E := E) (r := x.1) (i := i) (w := p1) (l := x1) (by omega); rw [u0] at e0; exact e0.symm)⟩
      · refine zj_aload_n (zdk ttX11_lineOf 8 rfl rfl) rfl (by decide) ?_
        refine zj_getr (r := 10) (zdk ttX11_lineOf 9 rfl rfl) zf_RX11_37 rfl (k_M s3) (rfM_18 s3) ?_
        refine zj_iload_n (zdk ttX11_lineOf 10 rfl rfl) rfl ?_
        have b87 : -2147483648 ≤ (h2.2 10 x1) ∧ (h2.2 10 x1) ≤ 2147483647 := abM_10 s3 x1
        refine zj_iald (v := (h2.2 10 x1)) (zdk ttX11_lineOf 11 rfl rfl) (kaM_10 s3) (by decide) (by omega) rfl ?_
        refine zj_iload_n (zdk ttX11_lineOf 12 rfl rfl) rfl ?_
        refine zj_icmp_ne (t := 59) (zdk ttX11_lineOf 13 rfl rfl) (by decide) (by omega) (by omega) (fun c88 => ?_) (fun c88 => ?_)
        · refine zj_iinc (L' := [some (.inr 0), some (.inl p1), some (.inl (x1 + 1))]) (zdk ttX11_lineOf 37 rfl rfl) rfl (by decide) rfl ?_
          refine zj_goto (t := 2) (zdk ttX11_lineOf 38 rfl rfl) (by decide) ?_
          exact ih84  (x1 + 1) h2 (by omega) s3 f4 (by intro E th x i t0 a0; have u0 := u82 E th x i t0 a0; have tH := (zY_fr t0 f4 rfl); have g0 := zY_g tH; have l0 := zY_l tH (show 0 ≤ x1 by omega) (show x1 < E.lm by omega); have wl := l0.2; have wa := wl.1; rw [← u0]; exact (fLn_n (by omega) (fun z9 => by have q9 := z9.1; omega)).symm) (by omega)
        · refine zj_aload_n (zdk ttX11_lineOf 14 rfl rfl) rfl (by decide) ?_
          refine zj_getr (r := 12) (zdk ttX11_lineOf 15 rfl rfl) zf_RX11_43 rfl (k_M s3) (rfM_20 s3) ?_
          refine zj_iload_n (zdk ttX11_lineOf 16 rfl rfl) rfl ?_
          have b89 : 0 ≤ (h2.2 12 x1) ∧ (h2.2 12 x1) ≤ 400 := abM_12 s3 x1
          refine zj_iald (v := (h2.2 12 x1)) (zdk ttX11_lineOf 17 rfl rfl) (kaM_12 s3) (by decide) (by omega) rfl ?_
          refine zj_aload_n (zdk ttX11_lineOf 18 rfl rfl) rfl (by decide) ?_
          refine zj_getr (r := 13) (zdk ttX11_lineOf 19 rfl rfl) zf_RX11_46 rfl (k_M s3) (rfM_21 s3) ?_
          refine zj_iload_n (zdk ttX11_lineOf 20 rfl rfl) rfl ?_
          have b90 : 0 ≤ (h2.2 13 x1) ∧ (h2.2 13 x1) ≤ 400 := abM_13 s3 x1
          refine zj_iald (v := (h2.2 13 x1)) (zdk ttX11_lineOf 21 rfl rfl) (kaM_13 s3) (by decide) (by omega) rfl ?_
          refine zj_icmp_eq (t := 57) (zdk ttX11_lineOf 22 rfl rfl) (by decide) (by omega) (by omega) (fun c91 => ?_) (fun c91 => ?_)
          · refine zj_iload_n (zdk ttX11_lineOf 35 rfl rfl) rfl ?_
            exact zj_iret rfl (zdk ttX11_lineOf 36 rfl rfl) (Nat.le_refl _) (Nat.le_refl _) ⟨x1, rfl, by omega, s3, f4, by omega, (by intro E th x i t0 a0; have u0 := u82 E th x i t0 a0; have tH := (zY_fr t0 f4 rfl); have g0 := zY_g tH; have l0 := zY_l tH (show 0 ≤ x1 by omega) (show x1 < E.lm by omega); have wl := l0.2; have wa := wl.1; have e0 := fLn_y (E := E) (r := x.1) (i := i) (w := p1) (l := x1) (by omega) ⟨by omega, Or.inl (by omega)⟩; rw [u0] at e0; exact e0.symm)⟩
          · refine zj_aload_n (zdk ttX11_lineOf 23 rfl rfl) rfl (by decide) ?_
            refine zj_iconst (zdk ttX11_lineOf 24 rfl rfl) ?_
            refine zj_aload_n (zdk ttX11_lineOf 25 rfl rfl) rfl (by decide) ?_
            refine zj_getr (r := 12) (zdk ttX11_lineOf 26 rfl rfl) zf_RX11_43 rfl (k_M s3) (rfM_20 s3) ?_
            refine zj_iload_n (zdk ttX11_lineOf 27 rfl rfl) rfl ?_
            refine zj_iald (v := (h2.2 12 x1)) (zdk ttX11_lineOf 28 rfl rfl) (kaM_12 s3) (by decide) (by omega) rfl ?_
            refine zj_aload_n (zdk ttX11_lineOf 29 rfl rfl) rfl (by decide) ?_
            refine zj_getr (r := 13) (zdk ttX11_lineOf 30 rfl rfl) zf_RX11_46 rfl (k_M s3) (rfM_21 s3) ?_
            refine zj_iload_n (zdk ttX11_lineOf 31 rfl rfl) rfl ?_
            refine zj_iald (v := (h2.2 13 x1)) (zdk ttX11_lineOf 32 rfl rfl) (kaM_13 s3) (by decide) (by omega) rfl ?_
            refine zj_callV (av := [.inl 0, .inl (h2.2 12 x1), .inl (h2.2 13 x1)]) (st := []) (zdk ttX11_lineOf 33 rfl rfl) mb_X11_runs mv_RX11_306 (ci := 11) rfl rfl (k_M s3) rfl rfl (Nat.le_of_ble_eq_true rfl) (s2_X11_runs l h2 0 (h2.2 12 x1) (h2.2 13 x1) s3 (by omega) (by omega) (by omega) (s3.2.2.2.1.2.2 x1 (by omega) (by omega)).2.1) (rm_ok (by decide) (by decide)) (zq_i fun v93 h94 q92 => ?_)
            obtain ⟨b95, s96, f98, u97⟩ := q92
            refine zj_if_eq (t := 59) (zdk ttX11_lineOf 34 rfl rfl) (by decide) (by omega) (fun c99 => ?_) (fun c99 => ?_)
            · refine zj_iinc (L' := [some (.inr 0), some (.inl p1), some (.inl (x1 + 1))]) (zdk ttX11_lineOf 37 rfl rfl) rfl (by decide) rfl ?_
              refine zj_goto (t := 2) (zdk ttX11_lineOf 38 rfl rfl) (by decide) ?_
              have f100 : zfr [] [21] h h94 := zfr_t f4 f98 rfl rfl
              exact ih84  (x1 + 1) h94 (by omega) s96 f100 (by intro E th x i t0 a0; have u0 := u82 E th x i t0 a0; have tH := (zY_fr t0 f4 rfl); have g0 := zY_g tH; have l0 := zY_l tH (show 0 ≤ x1 by omega) (show x1 < E.lm by omega); have wl := l0.2; have wa := wl.1; have rc := u97 E th x i ⟨(zY_fr t0 f4 rfl), zAs_f a0 (fun k9 => (zfr_a f4 rfl (by decide))), by omega, (by rw [show (h2.2 12 x1) = E.lh x1 by omega, show (h2.2 13 x1) = E.lt x1 by omega]; exact (wl.2.2.elim (fun z9 => absurd z9 (by omega)) (fun z9 => ⟨_, z9⟩)))⟩; rw [show (h2.2 12 x1) = E.lh x1 by omega, show (h2.2 13 x1) = E.lt x1 by omega] at rc; rw [← u0]; exact (fLn_n (by omega) (fun z9 => z9.2.elim (fun q9 => by omega) (fun q9 => by omega))).symm) (by omega)
            · refine zj_iload_n (zdk ttX11_lineOf 35 rfl rfl) rfl ?_
              have b101 : h94.2 9 0 = (h2.2 9 0) := (zfr_a f98 rfl (by decide))
              have f102 : zfr [] [21] h h94 := zfr_t f4 f98 rfl rfl
              exact zj_iret rfl (zdk ttX11_lineOf 36 rfl rfl) (Nat.le_refl _) (Nat.le_refl _) ⟨x1, rfl, by omega, s96, f102, by omega, (by intro E th x i t0 a0; have u0 := u82 E th x i t0 a0; have tH := (zY_fr t0 f4 rfl); have g0 := zY_g tH; have l0 := zY_l tH (show 0 ≤ x1 by omega) (show x1 < E.lm by omega); have wl := l0.2; have wa := wl.1; have rc := u97 E th x i ⟨(zY_fr t0 f4 rfl), zAs_f a0 (fun k9 => (zfr_a f4 rfl (by decide))), by omega, (by rw [show (h2.2 12 x1) = E.lh x1 by omega, show (h2.2 13 x1) = E.lt x1 by omega]; exact (wl.2.2.elim (fun z9 => absurd z9 (by omega)) (fun z9 => ⟨_, z9⟩)))⟩; rw [show (h2.2 12 x1) = E.lh x1 by omega, show (h2.2 13 x1) = E.lt x1 by omega] at rc; have e0 := fLn_y (E := E) (r := x.1) (i := i) (w := p1) (l := x1) (by omega) ⟨by omega, Or.inr (by omega)⟩; rw [u0] at e0; exact e0.symm)⟩
  exact lp80 _ 0 h (by omega) s0 (zfr_r _ _ _) (fun E th x i t0 a0 => by rw [show E.lm - 0 = E.lm by omega]) (Nat.lt_succ_self _)

abbrev q2_X11_lawTells (h : zM) (p1 : Int) (p2 : Int) (p3 : Int) : Option zV → zM → Prop := zqi fun v h' => ((-2147483648) ≤ v ∧ v ≤ 2147483647) ∧ okM h' ∧ zfr [] [21] h h' ∧ (∀ E th x i, zY h E th x → zAs h E x.1 i → p2 = fDf E p1 i → p3 = fMo p1 → v = fTl E x.1 p1 i)
set_option maxRecDepth 100000 in
set_option maxHeartbeats 4000000 in
theorem s2_X11_lawTells (l : Launch) (h : zM) (p1 : Int) (p2 : Int) (p3 : Int) (s0 : okM h) (b_p1 : (-2147483648) ≤ p1 ∧ p1 ≤ 2147483647) (b_p2 : (-2147483648) ≤ p2 ∧ p2 ≤ 2147483647) (b_p3 : (-2147483648) ≤ p3 ∧ p3 ≤ 2147483647) : zT shM l yX11_lawTells cX11_lawTells 5 (some .int) (rmL 4) 0 0 [.inr 0, .inl p1, .inl p2, .inl p3] h (q2_X11_lawTells h p1 p2 p3) := by
  refine zT_of (by decide +kernel) (L0 := [some (.inr 0), some (.inl p1), some (.inl p2), some (.inl p3), none]) rfl (Nat.le_of_ble_eq_true rfl) ?_
  refine zj_aload_n (zdk ttX11_lawTells 0 rfl rfl) rfl (by decide) ?_
  refine zj_iload_n (zdk ttX11_lawTells 1 rfl rfl) rfl ?_
  refine zj_callV (av := [.inl p1]) (st := []) (zdk ttX11_lawTells 2 rfl rfl) mb_X11_lineOf mv_RX11_325 (ci := 11) rfl rfl (k_M s0) rfl rfl (Nat.le_of_ble_eq_true rfl) (s2_X11_lineOf l h p1 s0 (by omega)) (rm_ok (by decide) (by decide)) (zq_i fun v2 h3 q1 => ?_)
  obtain ⟨b4, s5, f8, u6, u7⟩ := q1
  refine zj_istore (L' := [some (.inr 0), some (.inl p1), some (.inl p2), some (.inl p3), some (.inl v2)]) (zdk ttX11_lawTells 3 rfl rfl) (by decide) rfl ?_
  refine zj_aload_n (zdk ttX11_lawTells 4 rfl rfl) rfl (by decide) ?_
  have b9 : 0 ≤ (h3.2 9 0) ∧ (h3.2 9 0) ≤ 16 := abM_9 s5 0
  refine zj_iload (zdk ttX11_lawTells 5 rfl rfl) rfl ?_
  refine zj_iconst (zdk ttX11_lawTells 6 rfl rfl) ?_
  refine zj_icmp_ne (t := 18) (zdk ttX11_lawTells 7 rfl rfl) (by decide) (by omega) (by decide) (fun c10 => ?_) (fun c10 => ?_)
  · refine zj_aload_n (zdk ttX11_lawTells 10 rfl rfl) rfl (by decide) ?_
    refine zj_iconst (zdk ttX11_lawTells 11 rfl rfl) ?_
    refine zj_aload_n (zdk ttX11_lawTells 12 rfl rfl) rfl (by decide) ?_
    refine zj_getr (r := 11) (zdk ttX11_lawTells 13 rfl rfl) zf_RX11_40 rfl (k_M s5) (rfM_19 s5) ?_
    refine zj_iload (zdk ttX11_lawTells 14 rfl rfl) rfl ?_
    have b11 : 0 ≤ (h3.2 11 v2) ∧ (h3.2 11 v2) ≤ 400 := abM_11 s5 v2
    refine zj_iald (v := (h3.2 11 v2)) (zdk ttX11_lawTells 15 rfl rfl) (kaM_11 s5) (by decide) (by omega) rfl ?_
    refine zj_aload_n (zdk ttX11_lawTells 16 rfl rfl) rfl (by decide) ?_
    refine zj_getr (r := 12) (zdk ttX11_lawTells 17 rfl rfl) zf_RX11_43 rfl (k_M s5) (rfM_20 s5) ?_
    refine zj_iload (zdk ttX11_lawTells 18 rfl rfl) rfl ?_
    have b12 : 0 ≤ (h3.2 12 v2) ∧ (h3.2 12 v2) ≤ 400 := abM_12 s5 v2
    refine zj_iald (v := (h3.2 12 v2)) (zdk ttX11_lawTells 19 rfl rfl) (kaM_12 s5) (by decide) (by omega) rfl ?_
    refine zj_callV (av := [.inl 0, .inl (h3.2 11 v2), .inl (h3.2 12 v2)]) (st := [.inr 0]) (zdk ttX11_lawTells 20 rfl rfl) mb_X11_runs mv_RX11_306 (ci := 11) rfl rfl (k_M s5) rfl rfl (Nat.le_of_ble_eq_true rfl) (s2_X11_runs l h3 0 (h3.2 11 v2) (h3.2 12 v2) s5 (by omega) (by omega) (by omega) (s5.2.2.2.1.2.2 v2 (by omega) (by omega)).1) (rm_ok (by decide) (by decide)) (zq_i fun v14 h15 q13 => ?_)
    obtain ⟨b16, s17, f19, u18⟩ := q13
    refine zj_iconst (zdk ttX11_lawTells 21 rfl rfl) ?_
    refine zj_iload_n (zdk ttX11_lawTells 22 rfl rfl) rfl ?_
    refine zj_callV (av := [.inl v14, .inl 0, .inl p3]) (st := []) (zdk ttX11_lawTells 23 rfl rfl) mb_X11_held mv_RX11_319 (ci := 11) rfl rfl (k_M s17) rfl rfl (Nat.le_of_ble_eq_true rfl) (s_X11_held l h15 v14 0 p3 s17 (by omega) (by omega) (by omega)) (rm_ok (by decide) (by decide)) (zq_i fun v21 h22 q20 => ?_)
    obtain ⟨rfl, b23⟩ := q20
    have b24 : -2147483648 ≤ v21 ∧ v21 ≤ 2147483647 := by omega
    have f26 : zfr [] [21] h h3 := zfr_t (zfr_r _ _ _) f8 rfl rfl
    have f25 : zfr [] [21] h h15 := zfr_t f26 f19 rfl rfl
    exact zj_iret rfl (zdk ttX11_lawTells 24 rfl rfl) (Nat.le_refl _) (Nat.le_refl _) ⟨v21, rfl, by omega, s17, f25, (by intro E th x i t0 a0 d0 m0; have lo := u7 E th x i t0 a0; have mb : 0 ≤ fMo p1 ∧ fMo p1 ≤ 1000 := (by unfold fMo; split <;> omega); have tH := (zY_fr t0 f8 rfl); have g0 := zY_g tH; have lb : v2 < E.lm := (by omega); have l0 := zY_l tH (show 0 ≤ v2 by omega) (show v2 < E.lm by omega); have wl := l0.2; have wa := wl.1; have rv := u18 E th x i ⟨(zY_fr t0 f8 rfl), zAs_f a0 (fun k9 => (zfr_a f8 rfl (by decide))), by omega, (by rw [show (h3.2 11 v2) = E.lf v2 by omega, show (h3.2 12 v2) = E.lh v2 by omega]; exact ⟨_, wl.2.1⟩)⟩; rw [show (h3.2 11 v2) = E.lf v2 by omega, show (h3.2 12 v2) = E.lh v2 by omega] at rv; have f5 := fHeld_f (fRun E x.1 i (E.lf v2) (E.lh v2)) 0 (fMo p1); refine fTl_y lo.symm (by omega) ?_; omega)⟩
  · refine zj_iload_n (zdk ttX11_lawTells 8 rfl rfl) rfl ?_
    refine zj_goto (t := 37) (zdk ttX11_lawTells 9 rfl rfl) (by decide) ?_
    refine zj_iconst (zdk ttX11_lawTells 21 rfl rfl) ?_
    refine zj_iload_n (zdk ttX11_lawTells 22 rfl rfl) rfl ?_
    refine zj_callV (av := [.inl p2, .inl 0, .inl p3]) (st := []) (zdk ttX11_lawTells 23 rfl rfl) mb_X11_held mv_RX11_319 (ci := 11) rfl rfl (k_M s5) rfl rfl (Nat.le_of_ble_eq_true rfl) (s_X11_held l h3 p2 0 p3 s5 (by omega) (by omega) (by omega)) (rm_ok (by decide) (by decide)) (zq_i fun v28 h29 q27 => ?_)
    obtain ⟨rfl, b30⟩ := q27
    have b31 : -2147483648 ≤ v28 ∧ v28 ≤ 2147483647 := by omega
    have f32 : zfr [] [21] h h3 := zfr_t (zfr_r _ _ _) f8 rfl rfl
    exact zj_iret rfl (zdk ttX11_lawTells 24 rfl rfl) (Nat.le_refl _) (Nat.le_refl _) ⟨v28, rfl, by omega, s5, f32, (by intro E th x i t0 a0 d0 m0; have lo := u7 E th x i t0 a0; have mb : 0 ≤ fMo p1 ∧ fMo p1 ≤ 1000 := (by unfold fMo; split <;> omega); have f5 := fHeld_f (fDf E p1 i) 0 (fMo p1); rw [show v2 = -1 by omega] at lo; refine fTl_n lo.symm ?_; omega)⟩

abbrev q2_X11_leavesOf (h : zM) (p1 : Int) : Option zV → zM → Prop := zqi fun v h' => ((-2147483648) ≤ v ∧ v ≤ 2147483647) ∧ okM h' ∧ zfr [] [20, 21] h h' ∧ (∀ E th x, zY h E th x → (0 ≤ p1 ∧ p1 < E.n) → v = fTl E x.1 0 p1)
set_option maxRecDepth 100000 in
set_option maxHeartbeats 4000000 in
theorem s2_X11_leavesOf (l : Launch) (h : zM) (p1 : Int) (s0 : okM h) (b_p1 : 0 ≤ p1 ∧ p1 ≤ 17) : zT shM l yX11_leavesOf cX11_leavesOf 2 (some .int) (rmL 5) 0 0 [.inr 0, .inl p1] h (q2_X11_leavesOf h p1) := by
  refine zT_of (by decide +kernel) (L0 := [some (.inr 0), some (.inl p1)]) rfl (Nat.le_of_ble_eq_true rfl) ?_
  refine zj_aload_n (zdk ttX11_leavesOf 0 rfl rfl) rfl (by decide) ?_
  refine zj_iload_n (zdk ttX11_leavesOf 1 rfl rfl) rfl ?_
  refine zj_callV (av := [.inl p1]) (st := []) (zdk ttX11_leavesOf 2 rfl rfl) mb_X11_asks mv_RX11_328 (ci := 11) rfl rfl (k_M s0) rfl rfl (Nat.le_of_ble_eq_true rfl) (s2_X11_asks l h p1 s0 (by omega)) (rm_ok (by decide) (by decide)) (zq_v fun h3 q1 => ?_)
  obtain ⟨s5, f7, u6⟩ := q1
  refine zj_aload_n (zdk ttX11_leavesOf 3 rfl rfl) rfl (by decide) ?_
  refine zj_iconst (zdk ttX11_leavesOf 4 rfl rfl) ?_
  refine zj_bipush (zdk ttX11_leavesOf 5 rfl rfl) (by decide) ?_
  refine zj_aload_n (zdk ttX11_leavesOf 6 rfl rfl) rfl (by decide) ?_
  refine zj_getr (r := 20) (zdk ttX11_leavesOf 7 rfl rfl) zf_RX11_71 rfl (k_M s5) (rfM_39 s5) ?_
  refine zj_iconst (zdk ttX11_leavesOf 8 rfl rfl) ?_
  have b8 : -2147483648 ≤ (h3.2 20 1) ∧ (h3.2 20 1) ≤ 2147483647 := abM_20 s5 1
  refine zj_iald (v := (h3.2 20 1)) (zdk ttX11_leavesOf 9 rfl rfl) (kaM_20 s5) (by decide) (by omega) rfl ?_
  refine zj_imul (zdk ttX11_leavesOf 10 rfl rfl) ?_
  refine zj_wrap ?_
  have b9 := zwp_in (80 * (h3.2 20 1))
  refine zj_sipush (zdk ttX11_leavesOf 11 rfl rfl) (by decide) ?_
  refine zj_callV (av := [.inl 0, .inl (zwp (80 * (h3.2 20 1))), .inl 1000]) (st := []) (zdk ttX11_leavesOf 12 rfl rfl) mb_X11_lawTells mv_RX11_331 (ci := 11) rfl rfl (k_M s5) rfl rfl (Nat.le_of_ble_eq_true rfl) (s2_X11_lawTells l h3 0 (zwp (80 * (h3.2 20 1))) 1000 s5 (by omega) (by omega) (by omega)) (rm_ok (by decide) (by decide)) (zq_i fun v11 h12 q10 => ?_)
  obtain ⟨b13, s14, f16, u15⟩ := q10
  have f18 : zfr [] [20, 21] h h3 := zfr_t (zfr_r _ _ _) f7 rfl rfl
  have f17 : zfr [] [20, 21] h h12 := zfr_t f18 f16 rfl rfl
  exact zj_iret rfl (zdk ttX11_leavesOf 13 rfl rfl) (Nat.le_refl _) (Nat.le_refl _) ⟨v11, rfl, by omega, s14, f17, (by intro E th x t0 i0; have as := u6 E th x t0 i0; have ty := (zY_fr t0 f7 rfl); have f9 := fAsk_f E x.1 p1; have q0 := (as 0 (by decide) (by decide)).trans ((f9 0).1 rfl); have q1 := (as 1 (by decide) (by decide)).trans ((f9 1).2.1 rfl); have g9 := zY_g t0; have wi := zY_wi t0 i0.1 (by omega); have z8 : zwp (80 * (h3.2 20 1)) = 80 * (h3.2 20 1) := zwp_s (by omega); have z9 : zwp (50 * (h3.2 20 1)) = 50 * (h3.2 20 1) := zwp_s (by omega); have z7 : zwp (500 - zwp (50 * (h3.2 20 1))) = 500 - 50 * (h3.2 20 1) := (by rw [z9]; exact zwp_s (by omega)); have df : (zwp (80 * (h3.2 20 1))) = fDf E 0 p1 := (by show _ = 80 * E.lg p1; omega); exact u15 E th x p1 ty as df rfl)⟩

abbrev q2_X11_windsOf (h : zM) (p1 : Int) : Option zV → zM → Prop := zqi fun v h' => ((-2147483648) ≤ v ∧ v ≤ 2147483647) ∧ okM h' ∧ zfr [] [20, 21] h h' ∧ (∀ E th x, zY h E th x → (0 ≤ p1 ∧ p1 < E.n) → v = fTl E x.1 1 p1)
set_option maxRecDepth 100000 in
set_option maxHeartbeats 4000000 in
theorem s2_X11_windsOf (l : Launch) (h : zM) (p1 : Int) (s0 : okM h) (b_p1 : 0 ≤ p1 ∧ p1 ≤ 17) : zT shM l yX11_windsOf cX11_windsOf 2 (some .int) (rmL 5) 0 0 [.inr 0, .inl p1] h (q2_X11_windsOf h p1) := by
  refine zT_of (by decide +kernel) (L0 := [some (.inr 0), some (.inl p1)]) rfl (Nat.le_of_ble_eq_true rfl) ?_
  refine zj_aload_n (zdk ttX11_windsOf 0 rfl rfl) rfl (by decide) ?_
  refine zj_iload_n (zdk ttX11_windsOf 1 rfl rfl) rfl ?_
  refine zj_callV (av := [.inl p1]) (st := []) (zdk ttX11_windsOf 2 rfl rfl) mb_X11_asks mv_RX11_328 (ci := 11) rfl rfl (k_M s0) rfl rfl (Nat.le_of_ble_eq_true rfl) (s2_X11_asks l h p1 s0 (by omega)) (rm_ok (by decide) (by decide)) (zq_v fun h3 q1 => ?_)
  obtain ⟨s5, f7, u6⟩ := q1
  refine zj_aload_n (zdk ttX11_windsOf 3 rfl rfl) rfl (by decide) ?_
  refine zj_iconst (zdk ttX11_windsOf 4 rfl rfl) ?_
  refine zj_aload_n (zdk ttX11_windsOf 5 rfl rfl) rfl (by decide) ?_
  refine zj_getr (r := 20) (zdk ttX11_windsOf 6 rfl rfl) zf_RX11_71 rfl (k_M s5) (rfM_39 s5) ?_
  refine zj_iconst (zdk ttX11_windsOf 7 rfl rfl) ?_
  have b8 : -2147483648 ≤ (h3.2 20 0) ∧ (h3.2 20 0) ≤ 2147483647 := abM_20 s5 0
  refine zj_iald (v := (h3.2 20 0)) (zdk ttX11_windsOf 8 rfl rfl) (kaM_20 s5) (by decide) (by omega) rfl ?_
  refine zj_sipush (zdk ttX11_windsOf 9 rfl rfl) (by decide) ?_
  refine zj_callV (av := [.inl 1, .inl (h3.2 20 0), .inl 999]) (st := []) (zdk ttX11_windsOf 10 rfl rfl) mb_X11_lawTells mv_RX11_331 (ci := 11) rfl rfl (k_M s5) rfl rfl (Nat.le_of_ble_eq_true rfl) (s2_X11_lawTells l h3 1 (h3.2 20 0) 999 s5 (by omega) (by omega) (by omega)) (rm_ok (by decide) (by decide)) (zq_i fun v10 h11 q9 => ?_)
  obtain ⟨b12, s13, f15, u14⟩ := q9
  have f17 : zfr [] [20, 21] h h3 := zfr_t (zfr_r _ _ _) f7 rfl rfl
  have f16 : zfr [] [20, 21] h h11 := zfr_t f17 f15 rfl rfl
  exact zj_iret rfl (zdk ttX11_windsOf 11 rfl rfl) (Nat.le_refl _) (Nat.le_refl _) ⟨v10, rfl, by omega, s13, f16, (by intro E th x t0 i0; have as := u6 E th x t0 i0; have ty := (zY_fr t0 f7 rfl); have f9 := fAsk_f E x.1 p1; have q0 := (as 0 (by decide) (by decide)).trans ((f9 0).1 rfl); have q1 := (as 1 (by decide) (by decide)).trans ((f9 1).2.1 rfl); have g9 := zY_g t0; have wi := zY_wi t0 i0.1 (by omega); have z8 : zwp (80 * (h3.2 20 1)) = 80 * (h3.2 20 1) := zwp_s (by omega); have z9 : zwp (50 * (h3.2 20 1)) = 50 * (h3.2 20 1) := zwp_s (by omega); have z7 : zwp (500 - zwp (50 * (h3.2 20 1))) = 500 - 50 * (h3.2 20 1) := (by rw [z9]; exact zwp_s (by omega)); have df : (h3.2 20 0) = fDf E 1 p1 := (by show _ = E.wt p1; omega); exact u14 E th x p1 ty as df rfl)⟩

abbrev q2_X11_returnsOf (h : zM) (p1 : Int) : Option zV → zM → Prop := zqi fun v h' => ((-2147483648) ≤ v ∧ v ≤ 2147483647) ∧ okM h' ∧ zfr [] [20, 21] h h' ∧ (∀ E th x, zY h E th x → (0 ≤ p1 ∧ p1 < E.n) → v = fTl E x.1 2 p1)
set_option maxRecDepth 100000 in
set_option maxHeartbeats 4000000 in
theorem s2_X11_returnsOf (l : Launch) (h : zM) (p1 : Int) (s0 : okM h) (b_p1 : 0 ≤ p1 ∧ p1 ≤ 17) : zT shM l yX11_returnsOf cX11_returnsOf 2 (some .int) (rmL 5) 0 0 [.inr 0, .inl p1] h (q2_X11_returnsOf h p1) := by
  refine zT_of (by decide +kernel) (L0 := [some (.inr 0), some (.inl p1)]) rfl (Nat.le_of_ble_eq_true rfl) ?_
  refine zj_aload_n (zdk ttX11_returnsOf 0 rfl rfl) rfl (by decide) ?_
  refine zj_iload_n (zdk ttX11_returnsOf 1 rfl rfl) rfl ?_
  refine zj_callV (av := [.inl p1]) (st := []) (zdk ttX11_returnsOf 2 rfl rfl) mb_X11_asks mv_RX11_328 (ci := 11) rfl rfl (k_M s0) rfl rfl (Nat.le_of_ble_eq_true rfl) (s2_X11_asks l h p1 s0 (by omega)) (rm_ok (by decide) (by decide)) (zq_v fun h3 q1 => ?_)
  obtain ⟨s5, f7, u6⟩ := q1
  refine zj_aload_n (zdk ttX11_returnsOf 3 rfl rfl) rfl (by decide) ?_
  refine zj_iconst (zdk ttX11_returnsOf 4 rfl rfl) ?_
  refine zj_sipush (zdk ttX11_returnsOf 5 rfl rfl) (by decide) ?_
  refine zj_bipush (zdk ttX11_returnsOf 6 rfl rfl) (by decide) ?_
  refine zj_aload_n (zdk ttX11_returnsOf 7 rfl rfl) rfl (by decide) ?_
  refine zj_getr (r := 20) (zdk ttX11_returnsOf 8 rfl rfl) zf_RX11_71 rfl (k_M s5) (rfM_39 s5) ?_
  refine zj_iconst (zdk ttX11_returnsOf 9 rfl rfl) ?_
  have b8 : -2147483648 ≤ (h3.2 20 1) ∧ (h3.2 20 1) ≤ 2147483647 := abM_20 s5 1
  refine zj_iald (v := (h3.2 20 1)) (zdk ttX11_returnsOf 10 rfl rfl) (kaM_20 s5) (by decide) (by omega) rfl ?_
  refine zj_imul (zdk ttX11_returnsOf 11 rfl rfl) ?_
  refine zj_wrap ?_
  have b9 := zwp_in (50 * (h3.2 20 1))
  refine zj_isub (zdk ttX11_returnsOf 12 rfl rfl) ?_
  refine zj_wrap ?_
  have b10 := zwp_in (500 - (zwp (50 * (h3.2 20 1))))
  refine zj_sipush (zdk ttX11_returnsOf 13 rfl rfl) (by decide) ?_
  refine zj_callV (av := [.inl 2, .inl (zwp (500 - (zwp (50 * (h3.2 20 1))))), .inl 1000]) (st := []) (zdk ttX11_returnsOf 14 rfl rfl) mb_X11_lawTells mv_RX11_331 (ci := 11) rfl rfl (k_M s5) rfl rfl (Nat.le_of_ble_eq_true rfl) (s2_X11_lawTells l h3 2 (zwp (500 - (zwp (50 * (h3.2 20 1))))) 1000 s5 (by omega) (by omega) (by omega)) (rm_ok (by decide) (by decide)) (zq_i fun v12 h13 q11 => ?_)
  obtain ⟨b14, s15, f17, u16⟩ := q11
  have f19 : zfr [] [20, 21] h h3 := zfr_t (zfr_r _ _ _) f7 rfl rfl
  have f18 : zfr [] [20, 21] h h13 := zfr_t f19 f17 rfl rfl
  exact zj_iret rfl (zdk ttX11_returnsOf 15 rfl rfl) (Nat.le_refl _) (Nat.le_refl _) ⟨v12, rfl, by omega, s15, f18, (by intro E th x t0 i0; have as := u6 E th x t0 i0; have ty := (zY_fr t0 f7 rfl); have f9 := fAsk_f E x.1 p1; have q0 := (as 0 (by decide) (by decide)).trans ((f9 0).1 rfl); have q1 := (as 1 (by decide) (by decide)).trans ((f9 1).2.1 rfl); have g9 := zY_g t0; have wi := zY_wi t0 i0.1 (by omega); have z8 : zwp (80 * (h3.2 20 1)) = 80 * (h3.2 20 1) := zwp_s (by omega); have z9 : zwp (50 * (h3.2 20 1)) = 50 * (h3.2 20 1) := zwp_s (by omega); have z7 : zwp (500 - zwp (50 * (h3.2 20 1))) = 500 - 50 * (h3.2 20 1) := (by rw [z9]; exact zwp_s (by omega)); have df : (zwp (500 - (zwp (50 * (h3.2 20 1))))) = fDf E 2 p1 := (by show _ = 500 - 50 * E.lg p1; omega); exact u16 E th x p1 ty as df rfl)⟩

