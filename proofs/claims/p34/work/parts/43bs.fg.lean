abbrev q2_X11_notes (h : zM) (p1 : Int) (p2 : Int) (p3 : Int) : Option zV → zM → Prop := zqv fun h' => okM h' ∧ zfr [] [1, 6] h h' ∧ (∀ E th x, zY h E th x → zY h' E th (fNt th x p1 p2 p3))
set_option maxRecDepth 100000 in
set_option maxHeartbeats 4000000 in
theorem s2_X11_notes (l : Launch) (h : zM) (p1 : Int) (p2 : Int) (p3 : Int) (s0 : okM h) (b_p1 : (-2147483648) ≤ p1 ∧ p1 ≤ 2147483647) (b_p2 : (-2147483648) ≤ p2 ∧ p2 ≤ 2147483647) (b_p3 : (-2147483648) ≤ p3 ∧ p3 ≤ 2147483647) : zT shM l yX11_notes cX11_notes 5 none (rmL 1) 0 0 [.inr 0, .inl p1, .inl p2, .inl p3] h (q2_X11_notes h p1 p2 p3) := by
  refine zT_of (by decide +kernel) (L0 := [some (.inr 0), some (.inl p1), some (.inl p2), some (.inl p3), none]) rfl (Nat.le_of_ble_eq_true rfl) ?_
  refine zj_aload_n (zdk ttX11_notes 0 rfl rfl) rfl (by decide) ?_
  have b1 : 0 ≤ (h.2 0 5) ∧ (h.2 0 5) ≤ 1 := fM_5 s0
  refine zj_geti (v := (h.2 0 5)) (zdk ttX11_notes 1 rfl rfl) zf_RX11_126 rfl (k_M s0) rfl ?_
  refine zj_if_ne (t := 19) (zdk ttX11_notes 2 rfl rfl) (by decide) (by omega) (fun c2 => ?_) (fun c2 => ?_)
  · exact zj_vret rfl (zdk ttX11_notes 9 rfl rfl) (Nat.le_refl _) (Nat.le_refl _) ⟨rfl, s0, (zfr_r _ _ _), (by intro E th x t0; have tt := zY_t t0; have r2 := zY_r t0 (k := 2) (by decide) (by decide); exact zY_n1 t0 (by first | exact Or.inl (tt.1 (by omega)) | exact Or.inr (by omega)))⟩
  · refine zj_aload_n (zdk ttX11_notes 3 rfl rfl) rfl (by decide) ?_
    refine zj_getr (r := 1) (zdk ttX11_notes 4 rfl rfl) zf_RX11_7 rfl (k_M s0) (rfM_1 s0) ?_
    refine zj_iconst (zdk ttX11_notes 5 rfl rfl) ?_
    have b3 : 0 ≤ (h.2 1 2) ∧ (h.2 1 2) ≤ 150 := (rM_b s0 1 2 (by decide)).2 (by decide)
    refine zj_iald (v := (h.2 1 2)) (zdk ttX11_notes 6 rfl rfl) (kaM_1 s0) (by decide) (by omega) rfl ?_
    refine zj_sipush (zdk ttX11_notes 7 rfl rfl) (by decide) ?_
    refine zj_icmp_ne (t := 20) (zdk ttX11_notes 8 rfl rfl) (by decide) (by omega) (by decide) (fun c4 => ?_) (fun c4 => ?_)
    · refine zj_iconst (zdk ttX11_notes 10 rfl rfl) ?_
      refine zj_aload_n (zdk ttX11_notes 11 rfl rfl) rfl (by decide) ?_
      refine zj_getr (r := 1) (zdk ttX11_notes 12 rfl rfl) zf_RX11_7 rfl (k_M s0) (rfM_1 s0) ?_
      refine zj_iconst (zdk ttX11_notes 13 rfl rfl) ?_
      refine zj_iald (v := (h.2 1 2)) (zdk ttX11_notes 14 rfl rfl) (kaM_1 s0) (by decide) (by omega) rfl ?_
      refine zj_imul (zdk ttX11_notes 15 rfl rfl) ?_
      refine zj_istore (L' := [some (.inr 0), some (.inl p1), some (.inl p2), some (.inl p3), some (.inl (4 * (h.2 1 2)))]) (zdk ttX11_notes 16 rfl rfl) (by decide) rfl ?_
      refine zj_aload_n (zdk ttX11_notes 17 rfl rfl) rfl (by decide) ?_
      refine zj_getr (r := 6) (zdk ttX11_notes 18 rfl rfl) zf_RX11_25 rfl (k_M s0) (rfM_9 s0) ?_
      refine zj_iload (zdk ttX11_notes 19 rfl rfl) rfl ?_
      refine zj_aload_n (zdk ttX11_notes 20 rfl rfl) rfl (by decide) ?_
      refine zj_getr (r := 1) (zdk ttX11_notes 21 rfl rfl) zf_RX11_7 rfl (k_M s0) (rfM_1 s0) ?_
      refine zj_iconst (zdk ttX11_notes 22 rfl rfl) ?_
      have b6 : -2147483648 ≤ (h.2 1 0) ∧ (h.2 1 0) ≤ 2147483647 := (rM_b s0 1 0 (by omega)).1
      refine zj_iald (v := (h.2 1 0)) (zdk ttX11_notes 23 rfl rfl) (kaM_1 s0) (by decide) (by omega) rfl ?_
      refine zj_iast (zdk ttX11_notes 24 rfl rfl) (kaM_6 s0) (by decide) (by omega) (fun h7 e8 => ?_)
      refine zj_aload_n (zdk ttX11_notes 25 rfl rfl) rfl (by decide) ?_
      have s9 : okM h7 := awM_6 s0 e8 (by omega) (by unfold nsp; omega)
      refine zj_getr (r := 6) (zdk ttX11_notes 26 rfl rfl) zf_RX11_25 rfl (k_M s9) (rfM_9 s9) ?_
      refine zj_iload (zdk ttX11_notes 27 rfl rfl) rfl ?_
      refine zj_iconst (zdk ttX11_notes 28 rfl rfl) ?_
      refine zj_iadd (zdk ttX11_notes 29 rfl rfl) ?_
      refine zj_iload_n (zdk ttX11_notes 30 rfl rfl) rfl ?_
      refine zj_iast (zdk ttX11_notes 31 rfl rfl) (kaM_6 s9) (by decide) (by omega) (fun h10 e11 => ?_)
      refine zj_aload_n (zdk ttX11_notes 32 rfl rfl) rfl (by decide) ?_
      have s12 : okM h10 := awM_6 s9 e11 (by omega) (by unfold nsp; omega)
      refine zj_getr (r := 6) (zdk ttX11_notes 33 rfl rfl) zf_RX11_25 rfl (k_M s12) (rfM_9 s12) ?_
      refine zj_iload (zdk ttX11_notes 34 rfl rfl) rfl ?_
      refine zj_iconst (zdk ttX11_notes 35 rfl rfl) ?_
      refine zj_iadd (zdk ttX11_notes 36 rfl rfl) ?_
      refine zj_iload_n (zdk ttX11_notes 37 rfl rfl) rfl ?_
      refine zj_iast (zdk ttX11_notes 38 rfl rfl) (kaM_6 s12) (by decide) (by omega) (fun h13 e14 => ?_)
      refine zj_aload_n (zdk ttX11_notes 39 rfl rfl) rfl (by decide) ?_
      have s15 : okM h13 := awM_6 s12 e14 (by omega) (by unfold nsp; omega)
      refine zj_getr (r := 6) (zdk ttX11_notes 40 rfl rfl) zf_RX11_25 rfl (k_M s15) (rfM_9 s15) ?_
      refine zj_iload (zdk ttX11_notes 41 rfl rfl) rfl ?_
      refine zj_iconst (zdk ttX11_notes 42 rfl rfl) ?_
      refine zj_iadd (zdk ttX11_notes 43 rfl rfl) ?_
      refine zj_iload_n (zdk ttX11_notes 44 rfl rfl) rfl ?_
      refine zj_iast (zdk ttX11_notes 45 rfl rfl) (kaM_6 s15) (by decide) (by omega) (fun h16 e17 => ?_)
      refine zj_aload_n (zdk ttX11_notes 46 rfl rfl) rfl (by decide) ?_
      have s18 : okM h16 := awM_6 s15 e17 (by omega) (by unfold nsp; omega)
      refine zj_getr (r := 1) (zdk ttX11_notes 47 rfl rfl) zf_RX11_7 rfl (k_M s18) (rfM_1 s18) ?_
      refine zj_iconst (zdk ttX11_notes 48 rfl rfl) ?_
      refine zj_aload_n (zdk ttX11_notes 49 rfl rfl) rfl (by decide) ?_
      refine zj_getr (r := 1) (zdk ttX11_notes 50 rfl rfl) zf_RX11_7 rfl (k_M s18) (rfM_1 s18) ?_
      refine zj_iconst (zdk ttX11_notes 51 rfl rfl) ?_
      refine zj_iald (v := (h.2 1 2)) (zdk ttX11_notes 52 rfl rfl) (kaM_1 s18) (by decide) (by omega) ((((zwr_r e17 (by first | decide | exact (absurd ·.1 (by decide)) | exact (absurd ·.2 (by decide)) | omega)).trans (zwr_r e14 (by first | decide | exact (absurd ·.1 (by decide)) | exact (absurd ·.2 (by decide)) | omega))).trans (zwr_r e11 (by first | decide | exact (absurd ·.1 (by decide)) | exact (absurd ·.2 (by decide)) | omega))).trans (zwr_r e8 (by first | decide | exact (absurd ·.1 (by decide)) | exact (absurd ·.2 (by decide)) | omega))) ?_
      refine zj_iconst (zdk ttX11_notes 53 rfl rfl) ?_
      refine zj_iadd (zdk ttX11_notes 54 rfl rfl) ?_
      refine zj_iast (zdk ttX11_notes 55 rfl rfl) (kaM_1 s18) (by decide) (by omega) (fun h19 e20 => ?_)
      have s21 : okM h19 := okM_wr s18 e20 (by decide) (by omega) (by omega)
      have f26 : zfr [] [1, 6] h h7 := zfr_wa (zfr_r _ _ _) e8 rfl
      have f25 : zfr [] [1, 6] h h10 := zfr_wa f26 e11 rfl
      have f24 : zfr [] [1, 6] h h13 := zfr_wa f25 e14 rfl
      have f23 : zfr [] [1, 6] h h16 := zfr_wa f24 e17 rfl
      have f22 : zfr [] [1, 6] h h19 := zfr_wa f23 e20 rfl
      exact zj_vret rfl (zdk ttX11_notes 56 rfl rfl) (Nat.le_refl _) (Nat.le_refl _) ⟨rfl, s21, f22, (by intro E th x t0; have tt := zY_t t0; have r2 := zY_r t0 (k := 2) (by decide) (by decide); have r6 : ∀ j9, h19.2 6 j9 = if j9 = 4 * (x.1 2) + 3 then p3 else if j9 = 4 * (x.1 2) + 2 then p2 else if j9 = 4 * (x.1 2) + 1 then p1 else if j9 = 4 * (x.1 2) then h.2 1 0 else h.2 6 j9 := (fun j9 => by rw [zwr_r (a := 6) (b := j9) e20 (by omega), zwr_if e17 j9, zwr_if e14 j9, zwr_if e11 j9, zwr_if e8 j9, r2]); have r1 : ∀ j9, h19.2 1 j9 = if j9 = 2 then (x.1 2) + 1 else h.2 1 j9 := (fun j9 => by rw [zwr_if e20 j9, zwr_r (a := 1) (b := j9) e17 (by omega), zwr_r (a := 1) (b := j9) e14 (by omega), zwr_r (a := 1) (b := j9) e11 (by omega), zwr_r (a := 1) (b := j9) e8 (by omega), r2]); exact zY_nt t0 (tt.2 (by omega)) (by omega) (fun a9 b9 y9 z9 => (((((zwr_r e20 (by first | decide | exact (absurd ·.1 (by decide)) | exact (absurd ·.2 (by decide)) | omega)).trans (zwr_r e17 (by first | decide | exact (absurd ·.1 (by decide)) | exact (absurd ·.2 (by decide)) | omega))).trans (zwr_r e14 (by first | decide | exact (absurd ·.1 (by decide)) | exact (absurd ·.2 (by decide)) | omega))).trans (zwr_r e11 (by first | decide | exact (absurd ·.1 (by decide)) | exact (absurd ·.2 (by decide)) | omega))).trans (zwr_r e8 (by first | decide | exact (absurd ·.1 (by decide)) | exact (absurd ·.2 (by decide)) | omega)))) ⟨r1, fun j9 => (r6 j9).trans fif4⟩)⟩
    · exact zj_vret rfl (zdk ttX11_notes 9 rfl rfl) (Nat.le_refl _) (Nat.le_refl _) ⟨rfl, s0, (zfr_r _ _ _), (by intro E th x t0; have tt := zY_t t0; have r2 := zY_r t0 (k := 2) (by decide) (by decide); exact zY_n1 t0 (by first | exact Or.inl (tt.1 (by omega)) | exact Or.inr (by omega)))⟩

abbrev q2_X11_goesAboard (h : zM) (p1 : Int) : Option zV → zM → Prop := zqv fun h' => okM h' ∧ zfr [] [1, 6, 20, 21] h h' ∧ (∀ E th x, zY h E th x → (0 ≤ p1 ∧ p1 < E.n) → zY h' E th (fGo E th p1 x))
set_option maxRecDepth 100000 in
set_option maxHeartbeats 4000000 in
theorem s2_X11_goesAboard (l : Launch) (h : zM) (p1 : Int) (s0 : okM h) (b_p1 : 0 ≤ p1 ∧ p1 ≤ 17) : zT shM l yX11_goesAboard cX11_goesAboard 3 none (rmL 6) 0 0 [.inr 0, .inl p1] h (q2_X11_goesAboard h p1) := by
  refine zT_of (by decide +kernel) (L0 := [some (.inr 0), some (.inl p1), none]) rfl (Nat.le_of_ble_eq_true rfl) ?_
  refine zj_aload_n (zdk ttX11_goesAboard 0 rfl rfl) rfl (by decide) ?_
  refine zj_getr (r := 1) (zdk ttX11_goesAboard 1 rfl rfl) zf_RX11_7 rfl (k_M s0) (rfM_1 s0) ?_
  refine zj_bipush (zdk ttX11_goesAboard 2 rfl rfl) (by decide) ?_
  refine zj_iload_n (zdk ttX11_goesAboard 3 rfl rfl) rfl ?_
  refine zj_iadd (zdk ttX11_goesAboard 4 rfl rfl) ?_
  refine zj_iconst (zdk ttX11_goesAboard 5 rfl rfl) ?_
  refine zj_iast (zdk ttX11_goesAboard 6 rfl rfl) (kaM_1 s0) (by decide) (by omega) (fun h1 e2 => ?_)
  refine zj_aload_n (zdk ttX11_goesAboard 7 rfl rfl) rfl (by decide) ?_
  have s3 : okM h1 := okM_wr s0 e2 (by decide) (by omega) (by omega)
  refine zj_getr (r := 1) (zdk ttX11_goesAboard 8 rfl rfl) zf_RX11_7 rfl (k_M s3) (rfM_1 s3) ?_
  refine zj_bipush (zdk ttX11_goesAboard 9 rfl rfl) (by decide) ?_
  refine zj_iload_n (zdk ttX11_goesAboard 10 rfl rfl) rfl ?_
  refine zj_iadd (zdk ttX11_goesAboard 11 rfl rfl) ?_
  refine zj_aload_n (zdk ttX11_goesAboard 12 rfl rfl) rfl (by decide) ?_
  refine zj_getr (r := 1) (zdk ttX11_goesAboard 13 rfl rfl) zf_RX11_7 rfl (k_M s3) (rfM_1 s3) ?_
  refine zj_bipush (zdk ttX11_goesAboard 14 rfl rfl) (by decide) ?_
  refine zj_iload_n (zdk ttX11_goesAboard 15 rfl rfl) rfl ?_
  refine zj_iadd (zdk ttX11_goesAboard 16 rfl rfl) ?_
  have b4 := (rM_b s0 1 (45 + p1) (by omega)).2
  have b5 : -2147483648 ≤ (h.2 1 (45 + p1)) ∧ (h.2 1 (45 + p1)) ≤ 2147483647 := (rM_b s0 1 (45 + p1) (by omega)).1
  refine zj_iald (v := (h.2 1 (45 + p1))) (zdk ttX11_goesAboard 17 rfl rfl) (kaM_1 s3) (by decide) (by omega) (zwr_r e2 (by first | decide | exact (absurd ·.1 (by decide)) | exact (absurd ·.2 (by decide)) | omega)) ?_
  refine zj_iconst (zdk ttX11_goesAboard 18 rfl rfl) ?_
  refine zj_iadd (zdk ttX11_goesAboard 19 rfl rfl) ?_
  refine zj_wrap ?_
  have b6 := zwp_in ((h.2 1 (45 + p1)) + 1)
  refine zj_iast (zdk ttX11_goesAboard 20 rfl rfl) (kaM_1 s3) (by decide) (by omega) (fun h7 e8 => ?_)
  refine zj_aload_n (zdk ttX11_goesAboard 21 rfl rfl) rfl (by decide) ?_
  refine zj_iload_n (zdk ttX11_goesAboard 22 rfl rfl) rfl ?_
  have s9 : okM h7 := okM_wr s3 e8 (by decide) (by omega) (by omega)
  refine zj_callV (av := [.inl p1]) (st := []) (zdk ttX11_goesAboard 23 rfl rfl) mb_X11_windsOf mv_RX11_334 (ci := 11) rfl rfl (k_M s9) rfl rfl (Nat.le_of_ble_eq_true rfl) (s2_X11_windsOf l h7 p1 s9 (by omega)) (rm_ok (by decide) (by decide)) (zq_i fun v11 h12 q10 => ?_)
  obtain ⟨b13, s14, f16, u15⟩ := q10
  refine zj_istore_n (L' := [some (.inr 0), some (.inl p1), some (.inl v11)]) (zdk ttX11_goesAboard 24 rfl rfl) (by decide) rfl ?_
  refine zj_aload_n (zdk ttX11_goesAboard 25 rfl rfl) rfl (by decide) ?_
  refine zj_getr (r := 1) (zdk ttX11_goesAboard 26 rfl rfl) zf_RX11_7 rfl (k_M s14) (rfM_1 s14) ?_
  refine zj_iconst (zdk ttX11_goesAboard 27 rfl rfl) ?_
  refine zj_aload_n (zdk ttX11_goesAboard 28 rfl rfl) rfl (by decide) ?_
  refine zj_getr (r := 1) (zdk ttX11_goesAboard 29 rfl rfl) zf_RX11_7 rfl (k_M s14) (rfM_1 s14) ?_
  refine zj_iconst (zdk ttX11_goesAboard 30 rfl rfl) ?_
  have b18 : -2147483648 ≤ (h7.2 1 4) ∧ (h7.2 1 4) ≤ 2147483647 := (rM_b s9 1 4 (by omega)).1
  refine zj_iald (v := (h7.2 1 4)) (zdk ttX11_goesAboard 31 rfl rfl) (kaM_1 s14) (by decide) (by omega) (zfr_a f16 rfl (by decide)) ?_
  refine zj_iload_n (zdk ttX11_goesAboard 32 rfl rfl) rfl ?_
  refine zj_iadd (zdk ttX11_goesAboard 33 rfl rfl) ?_
  refine zj_wrap ?_
  have b19 := zwp_in ((h7.2 1 4) + v11)
  refine zj_iast (zdk ttX11_goesAboard 34 rfl rfl) (kaM_1 s14) (by decide) (by omega) (fun h20 e21 => ?_)
  refine zj_aload_n (zdk ttX11_goesAboard 35 rfl rfl) rfl (by decide) ?_
  refine zj_iconst (zdk ttX11_goesAboard 36 rfl rfl) ?_
  refine zj_iload_n (zdk ttX11_goesAboard 37 rfl rfl) rfl ?_
  refine zj_iload_n (zdk ttX11_goesAboard 38 rfl rfl) rfl ?_
  have s22 : okM h20 := okM_wr s14 e21 (by decide) (by omega) (by omega)
  refine zj_callV (av := [.inl 0, .inl p1, .inl v11]) (st := []) (zdk ttX11_goesAboard 39 rfl rfl) mb_X11_notes mv_RX11_337 (ci := 11) rfl rfl (k_M s22) rfl rfl (Nat.le_of_ble_eq_true rfl) (s2_X11_notes l h20 0 p1 v11 s22 (by omega) (by omega) (by omega)) (rm_ok (by decide) (by decide)) (zq_v fun h25 q23 => ?_)
  obtain ⟨s27, f29, u28⟩ := q23
  have f34 : zfr [] [1, 6, 20, 21] h h1 := zfr_wa (zfr_r _ _ _) e2 rfl
  have f33 : zfr [] [1, 6, 20, 21] h h7 := zfr_wa f34 e8 rfl
  have f32 : zfr [] [1, 6, 20, 21] h h12 := zfr_t f33 f16 rfl rfl
  have f31 : zfr [] [1, 6, 20, 21] h h20 := zfr_wa f32 e21 rfl
  have f30 : zfr [] [1, 6, 20, 21] h h25 := zfr_t f31 f29 rfl rfl
  exact zj_vret rfl (zdk ttX11_goesAboard 40 rfl rfl) (Nat.le_refl _) (Nat.le_refl _) ⟨rfl, s27, f30, (by intro E th x t0 i0; have g9 := zY_g t0; have r45 := zY_r t0 (k := 45 + p1) (by omega) (by omega); have r4 := zY_r t0 (k := 4) (by decide) (by decide); have t1 := zY_w (k := 9 + p1) (u := 1) t0 e2 (by omega) rfl (by omega) (by omega) (by omega) (by omega); have t2 : zY h7 E th (fG1 x.1 p1, x.2) := zY_w (k := 45 + p1) t1 e8 (by omega) (by rw [← r45]) (by omega) (by omega) (by omega) (by omega); have e3 : v11 = fTl E (fG1 x.1 p1) 1 p1 := u15 E th (fG1 x.1 p1, x.2) t2 i0; have t3 := (zY_fr t2 f16 rfl); have r4 : h7.2 1 4 = x.1 4 := (zY_r t2 (k := 4) (by decide) (by decide)).trans (by show fG1 x.1 p1 4 = _; unfold fG1; rw [fup_n (by omega), fup_n (by omega)]); have t4 : zY h20 E th (fup (fG1 x.1 p1) 4 (zwp (x.1 4 + fTl E (fG1 x.1 p1) 1 p1)), x.2) := zY_w (k := 4) t3 e21 (by decide) (by rw [e3, ← r4]) (by omega) (by omega) (by omega) (by omega); have t5 := u28 E th _ t4; rw [e3] at t5; exact t5)⟩

abbrev q2_X11_comesBack (h : zM) (p1 : Int) : Option zV → zM → Prop := zqv fun h' => okM h' ∧ zfr [] [1, 6, 20, 21] h h' ∧ (∀ E th x, zY h E th x → (0 ≤ p1 ∧ p1 < E.n) → zY h' E th (fBk E th p1 x))
set_option maxRecDepth 100000 in
set_option maxHeartbeats 4000000 in
theorem s2_X11_comesBack (l : Launch) (h : zM) (p1 : Int) (s0 : okM h) (b_p1 : 0 ≤ p1 ∧ p1 ≤ 17) : zT shM l yX11_comesBack cX11_comesBack 3 none (rmL 6) 0 0 [.inr 0, .inl p1] h (q2_X11_comesBack h p1) := by
  refine zT_of (by decide +kernel) (L0 := [some (.inr 0), some (.inl p1), none]) rfl (Nat.le_of_ble_eq_true rfl) ?_
  refine zj_aload_n (zdk ttX11_comesBack 0 rfl rfl) rfl (by decide) ?_
  refine zj_getr (r := 1) (zdk ttX11_comesBack 1 rfl rfl) zf_RX11_7 rfl (k_M s0) (rfM_1 s0) ?_
  refine zj_bipush (zdk ttX11_comesBack 2 rfl rfl) (by decide) ?_
  refine zj_iload_n (zdk ttX11_comesBack 3 rfl rfl) rfl ?_
  refine zj_iadd (zdk ttX11_comesBack 4 rfl rfl) ?_
  refine zj_iconst (zdk ttX11_comesBack 5 rfl rfl) ?_
  refine zj_iast (zdk ttX11_comesBack 6 rfl rfl) (kaM_1 s0) (by decide) (by omega) (fun h1 e2 => ?_)
  refine zj_aload_n (zdk ttX11_comesBack 7 rfl rfl) rfl (by decide) ?_
  refine zj_iload_n (zdk ttX11_comesBack 8 rfl rfl) rfl ?_
  have s3 : okM h1 := okM_wr s0 e2 (by decide) (by omega) (by omega)
  refine zj_callV (av := [.inl p1]) (st := []) (zdk ttX11_comesBack 9 rfl rfl) mb_X11_windsOf mv_RX11_334 (ci := 11) rfl rfl (k_M s3) rfl rfl (Nat.le_of_ble_eq_true rfl) (s2_X11_windsOf l h1 p1 s3 (by omega)) (rm_ok (by decide) (by decide)) (zq_i fun v5 h6 q4 => ?_)
  obtain ⟨b7, s8, f10, u9⟩ := q4
  refine zj_istore_n (L' := [some (.inr 0), some (.inl p1), some (.inl v5)]) (zdk ttX11_comesBack 10 rfl rfl) (by decide) rfl ?_
  refine zj_aload_n (zdk ttX11_comesBack 11 rfl rfl) rfl (by decide) ?_
  refine zj_getr (r := 1) (zdk ttX11_comesBack 12 rfl rfl) zf_RX11_7 rfl (k_M s8) (rfM_1 s8) ?_
  refine zj_iconst (zdk ttX11_comesBack 13 rfl rfl) ?_
  refine zj_aload_n (zdk ttX11_comesBack 14 rfl rfl) rfl (by decide) ?_
  refine zj_getr (r := 1) (zdk ttX11_comesBack 15 rfl rfl) zf_RX11_7 rfl (k_M s8) (rfM_1 s8) ?_
  refine zj_iconst (zdk ttX11_comesBack 16 rfl rfl) ?_
  have b12 : -2147483648 ≤ (h1.2 1 4) ∧ (h1.2 1 4) ≤ 2147483647 := (rM_b s3 1 4 (by omega)).1
  refine zj_iald (v := (h1.2 1 4)) (zdk ttX11_comesBack 17 rfl rfl) (kaM_1 s8) (by decide) (by omega) (zfr_a f10 rfl (by decide)) ?_
  refine zj_iload_n (zdk ttX11_comesBack 18 rfl rfl) rfl ?_
  refine zj_isub (zdk ttX11_comesBack 19 rfl rfl) ?_
  refine zj_wrap ?_
  have b13 := zwp_in ((h1.2 1 4) - v5)
  refine zj_iast (zdk ttX11_comesBack 20 rfl rfl) (kaM_1 s8) (by decide) (by omega) (fun h14 e15 => ?_)
  refine zj_aload_n (zdk ttX11_comesBack 21 rfl rfl) rfl (by decide) ?_
  refine zj_iconst (zdk ttX11_comesBack 22 rfl rfl) ?_
  refine zj_iload_n (zdk ttX11_comesBack 23 rfl rfl) rfl ?_
  refine zj_iload_n (zdk ttX11_comesBack 24 rfl rfl) rfl ?_
  have s16 : okM h14 := okM_wr s8 e15 (by decide) (by omega) (by omega)
  refine zj_callV (av := [.inl 1, .inl p1, .inl v5]) (st := []) (zdk ttX11_comesBack 25 rfl rfl) mb_X11_notes mv_RX11_337 (ci := 11) rfl rfl (k_M s16) rfl rfl (Nat.le_of_ble_eq_true rfl) (s2_X11_notes l h14 1 p1 v5 s16 (by omega) (by omega) (by omega)) (rm_ok (by decide) (by decide)) (zq_v fun h19 q17 => ?_)
  obtain ⟨s21, f23, u22⟩ := q17
  have f27 : zfr [] [1, 6, 20, 21] h h1 := zfr_wa (zfr_r _ _ _) e2 rfl
  have f26 : zfr [] [1, 6, 20, 21] h h6 := zfr_t f27 f10 rfl rfl
  have f25 : zfr [] [1, 6, 20, 21] h h14 := zfr_wa f26 e15 rfl
  have f24 : zfr [] [1, 6, 20, 21] h h19 := zfr_t f25 f23 rfl rfl
  exact zj_vret rfl (zdk ttX11_comesBack 26 rfl rfl) (Nat.le_refl _) (Nat.le_refl _) ⟨rfl, s21, f24, (by intro E th x t0 i0; have g9 := zY_g t0; have r4 := zY_r t0 (k := 4) (by decide) (by decide); have t2 : zY h1 E th ((fup x.1 (9 + p1) 0), x.2) := zY_w (k := 9 + p1) (u := 0) t0 e2 (by omega) rfl (by omega) (by omega) (by omega) (by omega); have e3 : v5 = fTl E (fup x.1 (9 + p1) 0) 1 p1 := u9 E th ((fup x.1 (9 + p1) 0), x.2) t2 i0; have t3 := (zY_fr t2 f10 rfl); have r4 : h1.2 1 4 = x.1 4 := (zY_r t2 (k := 4) (by decide) (by decide)).trans (fup_n (by omega)); have t4 : zY h14 E th (fup (fup x.1 (9 + p1) 0) 4 (zwp (x.1 4 - fTl E (fup x.1 (9 + p1) 0) 1 p1)), x.2) := zY_w (k := 4) t3 e15 (by decide) (by rw [e3, ← r4]) (by omega) (by omega) (by omega) (by omega); have t5 := u22 E th _ t4; rw [e3] at t5; exact t5)⟩

abbrev q2_X11_draw (h : zM) (p1 : Int) : Option zV → zM → Prop := zqi fun v h' => (0 ≤ v ∧ v ≤ 2147483647) ∧ okM h' ∧ zfr [] [1] h h' ∧ (∀ E th x, zY h E th x → zY h' E th (fup x.1 1 (fDr (x.1 1)), x.2) ∧ (p1 = 1000 → v = zushr (fDr (x.1 1)) 8 % 1000))
set_option maxRecDepth 100000 in
set_option maxHeartbeats 4000000 in
theorem s2_X11_draw (l : Launch) (h : zM) (p1 : Int) (s0 : okM h) (b_p1 : 1 ≤ p1 ∧ p1 ≤ 2147483647) : zT shM l yX11_draw cX11_draw 2 (some .int) (rmL 1) 0 0 [.inr 0, .inl p1] h (q2_X11_draw h p1) := by
  refine zT_of (by decide +kernel) (L0 := [some (.inr 0), some (.inl p1)]) rfl (Nat.le_of_ble_eq_true rfl) ?_
  refine zj_aload_n (zdk ttX11_draw 0 rfl rfl) rfl (by decide) ?_
  refine zj_getr (r := 1) (zdk ttX11_draw 1 rfl rfl) zf_RX11_7 rfl (k_M s0) (rfM_1 s0) ?_
  refine zj_iconst (zdk ttX11_draw 2 rfl rfl) ?_
  refine zj_ldc (z := 1664525) (zdk ttX11_draw 3 rfl rfl) wc_RX11_130 ?_
  refine zj_aload_n (zdk ttX11_draw 4 rfl rfl) rfl (by decide) ?_
  refine zj_getr (r := 1) (zdk ttX11_draw 5 rfl rfl) zf_RX11_7 rfl (k_M s0) (rfM_1 s0) ?_
  refine zj_iconst (zdk ttX11_draw 6 rfl rfl) ?_
  have b2 : -2147483648 ≤ (h.2 1 1) ∧ (h.2 1 1) ≤ 2147483647 := (rM_b s0 1 1 (by omega)).1
  refine zj_iald (v := (h.2 1 1)) (zdk ttX11_draw 7 rfl rfl) (kaM_1 s0) (by decide) (by omega) rfl ?_
  refine zj_imul (zdk ttX11_draw 8 rfl rfl) ?_
  refine zj_wrap ?_
  have b3 := zwp_in (1664525 * (h.2 1 1))
  refine zj_ldc (z := 1013904223) (zdk ttX11_draw 9 rfl rfl) wc_RX11_131 ?_
  refine zj_iadd (zdk ttX11_draw 10 rfl rfl) ?_
  refine zj_wrap ?_
  have b4 := zwp_in ((zwp (1664525 * (h.2 1 1))) + 1013904223)
  refine zj_iast (zdk ttX11_draw 11 rfl rfl) (kaM_1 s0) (by decide) (by omega) (fun h5 e6 => ?_)
  refine zj_aload_n (zdk ttX11_draw 12 rfl rfl) rfl (by decide) ?_
  have s7 : okM h5 := okM_wr s0 e6 (by decide) (by omega) (by omega)
  refine zj_getr (r := 1) (zdk ttX11_draw 13 rfl rfl) zf_RX11_7 rfl (k_M s7) (rfM_1 s7) ?_
  refine zj_iconst (zdk ttX11_draw 14 rfl rfl) ?_
  refine zj_iald (v := (zwp ((zwp (1664525 * (h.2 1 1))) + 1013904223))) (zdk ttX11_draw 15 rfl rfl) (kaM_1 s7) (by decide) (by omega) (zwr_v e6) ?_
  refine zj_bipush (zdk ttX11_draw 16 rfl rfl) (by decide) ?_
  refine zj_iushr (zdk ttX11_draw 17 rfl rfl) ?_
  have b8 := zushr_c (a := (zwp ((zwp (1664525 * (h.2 1 1))) + 1013904223))) (c := 8) (K := 16777216) 8 (by decide) (by decide) (by decide)
  refine zj_iload_n (zdk ttX11_draw 18 rfl rfl) rfl ?_
  refine zj_iremP (zdk ttX11_draw 19 rfl rfl) (by omega) (by omega) ?_
  have b9 := zmod_b (x := (zushr (zwp ((zwp (1664525 * (h.2 1 1))) + 1013904223)) 8)) (b := p1) (by omega) (by omega)
  have f10 : zfr [] [1] h h5 := zfr_wa (zfr_r _ _ _) e6 rfl
  exact zj_iret rfl (zdk ttX11_draw 20 rfl rfl) (Nat.le_refl _) (Nat.le_refl _) ⟨((zushr (zwp ((zwp (1664525 * (h.2 1 1))) + 1013904223)) 8) % p1), rfl, by omega, s7, f10, (by intro E th x t0; have r1 := zY_r t0 (k := 1) (by decide) (by decide); have dv : (zwp ((zwp (1664525 * (h.2 1 1))) + 1013904223)) = fDr (x.1 1) := (by unfold fDr; rw [r1]); refine ⟨zY_w (k := 1) t0 e6 (by decide) dv (by omega) (by omega) (by omega) (by omega), fun z9 => ?_⟩; rw [dv, z9])⟩

abbrev q2_X11_happens (h : zM) (p1 : Int) : Option zV → zM → Prop := zqi fun v h' => (0 ≤ v ∧ v ≤ 1) ∧ okM h' ∧ zfr [] [1] h h' ∧ (∀ E th x, zY h E th x → (0 ≤ p1 ∧ p1 ≤ 1000) → zY h' E th (fHx th p1 x) ∧ (v = 1 ↔ fHp th p1 x = true))
set_option maxRecDepth 100000 in
set_option maxHeartbeats 4000000 in
theorem s2_X11_happens (l : Launch) (h : zM) (p1 : Int) (s0 : okM h) (b_p1 : (-2147483648) ≤ p1 ∧ p1 ≤ 2147483647) : zT shM l yX11_happens cX11_happens 2 (some .boolean) (rmL 2) 0 0 [.inr 0, .inl p1] h (q2_X11_happens h p1) := by
  refine zT_of (by decide +kernel) (L0 := [some (.inr 0), some (.inl p1)]) rfl (Nat.le_of_ble_eq_true rfl) ?_
  refine zj_aload_n (zdk ttX11_happens 0 rfl rfl) rfl (by decide) ?_
  have b1 : 0 ≤ (h.2 0 5) ∧ (h.2 0 5) ≤ 1 := fM_5 s0
  refine zj_geti (v := (h.2 0 5)) (zdk ttX11_happens 1 rfl rfl) zf_RX11_126 rfl (k_M s0) rfl ?_
  refine zj_if_eq (t := 24) (zdk ttX11_happens 2 rfl rfl) (by decide) (by omega) (fun c2 => ?_) (fun c2 => ?_)
  · refine zj_iload_n (zdk ttX11_happens 12 rfl rfl) rfl ?_
    refine zj_if_le (t := 43) (zdk ttX11_happens 13 rfl rfl) (by decide) (by omega) (fun c3 => ?_) (fun c3 => ?_)
    · refine zj_iconst (zdk ttX11_happens 21 rfl rfl) ?_
      exact zj_zret rfl (zdk ttX11_happens 22 rfl rfl) (Nat.le_refl _) (Nat.le_refl _) (by omega) ⟨0, rfl, by omega, s0, (zfr_r _ _ _), (by intro E th x t0 o0; have tt := zY_t t0; have th1 := tt.2 (by omega); subst th1; refine ⟨by unfold fHx; rw [if_pos (Or.inr (by omega))]; exact t0, ?_⟩; unfold fHp; rw [if_neg (by decide), decide_eq_true_iff]; omega)⟩
    · refine zj_aload_n (zdk ttX11_happens 14 rfl rfl) rfl (by decide) ?_
      refine zj_sipush (zdk ttX11_happens 15 rfl rfl) (by decide) ?_
      refine zj_callV (av := [.inl 1000]) (st := []) (zdk ttX11_happens 16 rfl rfl) mb_X11_draw mv_RX11_353 (ci := 11) rfl rfl (k_M s0) rfl rfl (Nat.le_of_ble_eq_true rfl) (s2_X11_draw l h 1000 s0 (by omega)) (rm_ok (by decide) (by decide)) (zq_i fun v5 h6 q4 => ?_)
      obtain ⟨b7, s8, f10, u9⟩ := q4
      refine zj_iload_n (zdk ttX11_happens 17 rfl rfl) rfl ?_
      refine zj_icmp_ge (t := 43) (zdk ttX11_happens 18 rfl rfl) (by decide) (by omega) (by omega) (fun c11 => ?_) (fun c11 => ?_)
      · refine zj_iconst (zdk ttX11_happens 21 rfl rfl) ?_
        have f12 : zfr [] [1] h h6 := zfr_t (zfr_r _ _ _) f10 rfl rfl
        exact zj_zret rfl (zdk ttX11_happens 22 rfl rfl) (Nat.le_refl _) (Nat.le_refl _) (by omega) ⟨0, rfl, by omega, s8, f12, (by intro E th x t0 o0; have tt := zY_t t0; have th1 := tt.2 (by omega); subst th1; obtain ⟨t2, d2⟩ := u9 E false x t0; have d3 := d2 rfl; refine ⟨by unfold fHx; rw [if_neg (by rintro (z9 | z9); exact absurd z9 (by decide); exact z9 (by omega))]; exact t2, ?_⟩; unfold fHp; rw [if_neg (by decide), decide_eq_true_iff, ← d3]; omega)⟩
      · refine zj_iconst (zdk ttX11_happens 19 rfl rfl) ?_
        refine zj_goto (t := 44) (zdk ttX11_happens 20 rfl rfl) (by decide) ?_
        have f13 : zfr [] [1] h h6 := zfr_t (zfr_r _ _ _) f10 rfl rfl
        exact zj_zret rfl (zdk ttX11_happens 22 rfl rfl) (Nat.le_refl _) (Nat.le_refl _) (by omega) ⟨1, rfl, by omega, s8, f13, (by intro E th x t0 o0; have tt := zY_t t0; have th1 := tt.2 (by omega); subst th1; obtain ⟨t2, d2⟩ := u9 E false x t0; have d3 := d2 rfl; refine ⟨by unfold fHx; rw [if_neg (by rintro (z9 | z9); exact absurd z9 (by decide); exact z9 (by omega))]; exact t2, ?_⟩; unfold fHp; rw [if_neg (by decide), decide_eq_true_iff, ← d3]; omega)⟩
  · refine zj_iconst (zdk ttX11_happens 3 rfl rfl) ?_
    refine zj_iload_n (zdk ttX11_happens 4 rfl rfl) rfl ?_
    refine zj_imul (zdk ttX11_happens 5 rfl rfl) ?_
    refine zj_wrap ?_
    have b14 := zwp_in (2 * p1)
    refine zj_sipush (zdk ttX11_happens 6 rfl rfl) (by decide) ?_
    refine zj_icmp_lt (t := 20) (zdk ttX11_happens 7 rfl rfl) (by decide) (by omega) (by decide) (fun c15 => ?_) (fun c15 => ?_)
    · refine zj_iconst (zdk ttX11_happens 10 rfl rfl) ?_
      refine zj_goto (t := 44) (zdk ttX11_happens 11 rfl rfl) (by decide) ?_
      exact zj_zret rfl (zdk ttX11_happens 22 rfl rfl) (Nat.le_refl _) (Nat.le_refl _) (by omega) ⟨0, rfl, by omega, s0, (zfr_r _ _ _), (by intro E th x t0 o0; have tt := zY_t t0; have th1 := tt.1 (by omega); subst th1; refine ⟨by unfold fHx; rw [if_pos (Or.inl rfl)]; exact t0, ?_⟩; unfold fHp; rw [if_pos rfl, decide_eq_true_iff]; have z8 : zwp (2 * p1) = 2 * p1 := zwp_s (by omega); omega)⟩
    · refine zj_iconst (zdk ttX11_happens 8 rfl rfl) ?_
      refine zj_goto (t := 44) (zdk ttX11_happens 9 rfl rfl) (by decide) ?_
      exact zj_zret rfl (zdk ttX11_happens 22 rfl rfl) (Nat.le_refl _) (Nat.le_refl _) (by omega) ⟨1, rfl, by omega, s0, (zfr_r _ _ _), (by intro E th x t0 o0; have tt := zY_t t0; have th1 := tt.1 (by omega); subst th1; refine ⟨by unfold fHx; rw [if_pos (Or.inl rfl)]; exact t0, ?_⟩; unfold fHp; rw [if_pos rfl, decide_eq_true_iff]; have z8 : zwp (2 * p1) = 2 * p1 := zwp_s (by omega); omega)⟩

