abbrev q2_X11_isPushed (h : zM) (p1 : Int) : Option zV → zM → Prop := zqv fun h' => okM h' ∧ zfr [] [1] h h' ∧ (∀ E th x, zY h E th x → (0 ≤ p1 ∧ p1 ≤ 719) → (-2147483648 ≤ x.1 6 ∧ x.1 6 ≤ 2147483647) → zY h' E th (fPu x.1 p1, x.2))
set_option maxRecDepth 100000 in
set_option maxHeartbeats 4000000 in
theorem s2_X11_isPushed (l : Launch) (h : zM) (p1 : Int) (s0 : okM h) (b_p1 : (-2147483648) ≤ p1 ∧ p1 ≤ 2147483647) : zT shM l yX11_isPushed cX11_isPushed 2 none (rmL 1) 0 0 [.inr 0, .inl p1] h (q2_X11_isPushed h p1) := by
  refine zT_of (by decide +kernel) (L0 := [some (.inr 0), some (.inl p1)]) rfl (Nat.le_of_ble_eq_true rfl) ?_
  refine zj_aload_n (zdk ttX11_isPushed 0 rfl rfl) rfl (by decide) ?_
  refine zj_getr (r := 1) (zdk ttX11_isPushed 1 rfl rfl) zf_RX11_7 rfl (k_M s0) (rfM_1 s0) ?_
  refine zj_iconst (zdk ttX11_isPushed 2 rfl rfl) ?_
  have b2 : -2147483648 ≤ (h.2 1 3) ∧ (h.2 1 3) ≤ 2147483647 := (rM_b s0 1 3 (by omega)).1
  refine zj_iald (v := (h.2 1 3)) (zdk ttX11_isPushed 3 rfl rfl) (kaM_1 s0) (by decide) (by omega) rfl ?_
  refine zj_iload_n (zdk ttX11_isPushed 4 rfl rfl) rfl ?_
  refine zj_iadd (zdk ttX11_isPushed 5 rfl rfl) ?_
  refine zj_wrap ?_
  have b3 := zwp_in ((h.2 1 3) + p1)
  refine zj_sipush (zdk ttX11_isPushed 6 rfl rfl) (by decide) ?_
  refine zj_icmp_lt (t := 30) (zdk ttX11_isPushed 7 rfl rfl) (by decide) (by omega) (by decide) (fun c4 => ?_) (fun c4 => ?_)
  · refine zj_aload_n (zdk ttX11_isPushed 18 rfl rfl) rfl (by decide) ?_
    refine zj_getr (r := 1) (zdk ttX11_isPushed 19 rfl rfl) zf_RX11_7 rfl (k_M s0) (rfM_1 s0) ?_
    refine zj_iconst (zdk ttX11_isPushed 20 rfl rfl) ?_
    refine zj_aload_n (zdk ttX11_isPushed 21 rfl rfl) rfl (by decide) ?_
    refine zj_getr (r := 1) (zdk ttX11_isPushed 22 rfl rfl) zf_RX11_7 rfl (k_M s0) (rfM_1 s0) ?_
    refine zj_iconst (zdk ttX11_isPushed 23 rfl rfl) ?_
    refine zj_iald (v := (h.2 1 3)) (zdk ttX11_isPushed 24 rfl rfl) (kaM_1 s0) (by decide) (by omega) rfl ?_
    refine zj_iload_n (zdk ttX11_isPushed 25 rfl rfl) rfl ?_
    refine zj_iadd (zdk ttX11_isPushed 26 rfl rfl) ?_
    refine zj_wrap ?_
    refine zj_sipush (zdk ttX11_isPushed 27 rfl rfl) (by decide) ?_
    refine zj_irem (zdk ttX11_isPushed 28 rfl rfl) (by omega) (by decide) (by omega) ?_
    have b5 := ztm_c (zwp ((h.2 1 3) + p1)) 720 (by decide)
    refine zj_iast (zdk ttX11_isPushed 29 rfl rfl) (kaM_1 s0) (by decide) (by omega) (fun h6 e7 => ?_)
    have s8 : okM h6 := okM_wr s0 e7 (by decide) (by omega) (by omega)
    have f9 : zfr [] [1] h h6 := zfr_wa (zfr_r _ _ _) e7 rfl
    exact zj_vret rfl (zdk ttX11_isPushed 30 rfl rfl) (Nat.le_refl _) (Nat.le_refl _) ⟨rfl, s8, f9, (by intro E th x t0 p0 s6; have r3 := zY_r t0 (k := 3) (by decide) (by decide); have r6 := zY_r t0 (k := 6) (by decide) (by decide); have k3 := t0.2.1.1; have z3 : zwp ((h.2 1 3) + p1) = (h.2 1 3) + p1 := zwp_s (by omega); have e6 : fup x.1 6 (zwp (x.1 6 + (x.1 3 + p1) / 720)) = x.1 := (by rw [show (x.1 3 + p1) / 720 = 0 by omega, show x.1 6 + 0 = x.1 6 by omega, zwp_s (by omega), fup_e]); have t1 : zY h E th (fup x.1 6 (zwp (x.1 6 + (x.1 3 + p1) / 720)), x.2) := (by rw [e6]; exact t0); exact zY_w (k := 3) t1 e7 (by decide) (by omega) (by omega) (by omega) (by omega) (by omega))⟩
  · refine zj_aload_n (zdk ttX11_isPushed 8 rfl rfl) rfl (by decide) ?_
    refine zj_getr (r := 1) (zdk ttX11_isPushed 9 rfl rfl) zf_RX11_7 rfl (k_M s0) (rfM_1 s0) ?_
    refine zj_bipush (zdk ttX11_isPushed 10 rfl rfl) (by decide) ?_
    refine zj_aload_n (zdk ttX11_isPushed 11 rfl rfl) rfl (by decide) ?_
    refine zj_getr (r := 1) (zdk ttX11_isPushed 12 rfl rfl) zf_RX11_7 rfl (k_M s0) (rfM_1 s0) ?_
    refine zj_bipush (zdk ttX11_isPushed 13 rfl rfl) (by decide) ?_
    have b11 : -2147483648 ≤ (h.2 1 6) ∧ (h.2 1 6) ≤ 2147483647 := (rM_b s0 1 6 (by omega)).1
    refine zj_iald (v := (h.2 1 6)) (zdk ttX11_isPushed 14 rfl rfl) (kaM_1 s0) (by decide) (by omega) rfl ?_
    refine zj_iconst (zdk ttX11_isPushed 15 rfl rfl) ?_
    refine zj_iadd (zdk ttX11_isPushed 16 rfl rfl) ?_
    refine zj_wrap ?_
    have b12 := zwp_in ((h.2 1 6) + 1)
    refine zj_iast (zdk ttX11_isPushed 17 rfl rfl) (kaM_1 s0) (by decide) (by omega) (fun h13 e14 => ?_)
    refine zj_aload_n (zdk ttX11_isPushed 18 rfl rfl) rfl (by decide) ?_
    have s15 : okM h13 := okM_wr s0 e14 (by decide) (by omega) (by omega)
    refine zj_getr (r := 1) (zdk ttX11_isPushed 19 rfl rfl) zf_RX11_7 rfl (k_M s15) (rfM_1 s15) ?_
    refine zj_iconst (zdk ttX11_isPushed 20 rfl rfl) ?_
    refine zj_aload_n (zdk ttX11_isPushed 21 rfl rfl) rfl (by decide) ?_
    refine zj_getr (r := 1) (zdk ttX11_isPushed 22 rfl rfl) zf_RX11_7 rfl (k_M s15) (rfM_1 s15) ?_
    refine zj_iconst (zdk ttX11_isPushed 23 rfl rfl) ?_
    refine zj_iald (v := (h.2 1 3)) (zdk ttX11_isPushed 24 rfl rfl) (kaM_1 s15) (by decide) (by omega) (zwr_r e14 (by first | decide | exact (absurd ·.1 (by decide)) | exact (absurd ·.2 (by decide)) | omega)) ?_
    refine zj_iload_n (zdk ttX11_isPushed 25 rfl rfl) rfl ?_
    refine zj_iadd (zdk ttX11_isPushed 26 rfl rfl) ?_
    refine zj_wrap ?_
    refine zj_sipush (zdk ttX11_isPushed 27 rfl rfl) (by decide) ?_
    refine zj_iremP (zdk ttX11_isPushed 28 rfl rfl) (by omega) (by omega) ?_
    refine zj_iast (zdk ttX11_isPushed 29 rfl rfl) (kaM_1 s15) (by decide) (by omega) (fun h16 e17 => ?_)
    have s18 : okM h16 := okM_wr s15 e17 (by decide) (by omega) (by omega)
    have f20 : zfr [] [1] h h13 := zfr_wa (zfr_r _ _ _) e14 rfl
    have f19 : zfr [] [1] h h16 := zfr_wa f20 e17 rfl
    exact zj_vret rfl (zdk ttX11_isPushed 30 rfl rfl) (Nat.le_refl _) (Nat.le_refl _) ⟨rfl, s18, f19, (by intro E th x t0 p0 s6; have r3 := zY_r t0 (k := 3) (by decide) (by decide); have r6 := zY_r t0 (k := 6) (by decide) (by decide); have k3 := t0.2.1.1; have z3 : zwp ((h.2 1 3) + p1) = (h.2 1 3) + p1 := zwp_s (by omega); have t1 := zY_w (k := 6) (u := zwp (x.1 6 + (x.1 3 + p1) / 720)) t0 e14 (by decide) (by rw [r6, show (x.1 3 + p1) / 720 = 1 by omega]) (by omega) (by omega) (by omega) (by omega); exact zY_w (k := 3) t1 e17 (by decide) (by omega) (by omega) (by omega) (by omega) (by omega))⟩

