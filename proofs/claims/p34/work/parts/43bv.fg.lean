abbrev q2_X11_does (h : zM) (p1 : Int) : Option zV → zM → Prop := zqv fun h' => okM h' ∧ zfr [] [1] h h' ∧ (∀ E th x, zY h E th x → p1 < 3 * E.dm → (-2147483648 ≤ x.1 6 ∧ x.1 6 ≤ 2147483647) → zY h' E th (fDd E (p1 / 3) x.1, x.2))
set_option maxRecDepth 100000 in
set_option maxHeartbeats 4000000 in
theorem s2_X11_does (l : Launch) (h : zM) (p1 : Int) (s0 : okM h) (b_p1 : 0 ≤ p1 ∧ p1 ≤ 45) (u_0 : p1 % 3 = 0) : zT shM l yX11_does cX11_does 4 none (rmL 2) 0 0 [.inr 0, .inl p1] h (q2_X11_does h p1) := by
  refine zT_of (by decide +kernel) (L0 := [some (.inr 0), some (.inl p1), none, none]) rfl (Nat.le_of_ble_eq_true rfl) ?_
  have d0 : wfD1 (h.2 18 (p1 + 1)) (h.2 18 (p1 + 2)) := by
    have q := s0.2.2.2.1.2.1 (p1 / 3) (by omega) (by omega)
    rw [show 3 * (p1 / 3) = p1 by omega] at q; exact q
  unfold wfD1 at d0
  refine zj_aload_n (zdk ttX11_does 0 rfl rfl) rfl (by decide) ?_
  refine zj_getr (r := 18) (zdk ttX11_does 1 rfl rfl) zf_RX11_65 rfl (k_M s0) (rfM_36 s0) ?_
  refine zj_iload_n (zdk ttX11_does 2 rfl rfl) rfl ?_
  refine zj_iconst (zdk ttX11_does 3 rfl rfl) ?_
  refine zj_iadd (zdk ttX11_does 4 rfl rfl) ?_
  have b1 : -2147483648 ≤ (h.2 18 (p1 + 1)) ∧ (h.2 18 (p1 + 1)) ≤ 2147483647 := abM_18 s0 (p1 + 1)
  refine zj_iald (v := (h.2 18 (p1 + 1))) (zdk ttX11_does 5 rfl rfl) (kaM_18 s0) (by decide) (by omega) rfl ?_
  refine zj_istore_n (L' := [some (.inr 0), some (.inl p1), some (.inl (h.2 18 (p1 + 1))), none]) (zdk ttX11_does 6 rfl rfl) (by decide) rfl ?_
  refine zj_aload_n (zdk ttX11_does 7 rfl rfl) rfl (by decide) ?_
  refine zj_getr (r := 18) (zdk ttX11_does 8 rfl rfl) zf_RX11_65 rfl (k_M s0) (rfM_36 s0) ?_
  refine zj_iload_n (zdk ttX11_does 9 rfl rfl) rfl ?_
  refine zj_iconst (zdk ttX11_does 10 rfl rfl) ?_
  refine zj_iadd (zdk ttX11_does 11 rfl rfl) ?_
  have b2 : -2147483648 ≤ (h.2 18 (p1 + 2)) ∧ (h.2 18 (p1 + 2)) ≤ 2147483647 := abM_18 s0 (p1 + 2)
  refine zj_iald (v := (h.2 18 (p1 + 2))) (zdk ttX11_does 12 rfl rfl) (kaM_18 s0) (by decide) (by omega) rfl ?_
  refine zj_istore_n (L' := [some (.inr 0), some (.inl p1), some (.inl (h.2 18 (p1 + 1))), some (.inl (h.2 18 (p1 + 2)))]) (zdk ttX11_does 13 rfl rfl) (by decide) rfl ?_
  refine zj_iload_n (zdk ttX11_does 14 rfl rfl) rfl ?_
  refine zj_if_eq (t := 27) (zdk ttX11_does 15 rfl rfl) (by decide) (by omega) (fun c3 => ?_) (fun c3 => ?_)
  · refine zj_aload_n (zdk ttX11_does 19 rfl rfl) rfl (by decide) ?_
    refine zj_getr (r := 1) (zdk ttX11_does 20 rfl rfl) zf_RX11_7 rfl (k_M s0) (rfM_1 s0) ?_
    have b4 : 0 ≤ (h.2 18 (p1 + 2)) ∧ (h.2 18 (p1 + 2)) ≤ 17 := by omega
    refine zj_bipush (zdk ttX11_does 21 rfl rfl) (by decide) ?_
    refine zj_iload_n (zdk ttX11_does 22 rfl rfl) rfl ?_
    refine zj_iadd (zdk ttX11_does 23 rfl rfl) ?_
    refine zj_iload_n (zdk ttX11_does 24 rfl rfl) rfl ?_
    refine zj_if_ne (t := 43) (zdk ttX11_does 25 rfl rfl) (by decide) (by omega) (fun c5 => ?_) (fun c5 => ?_)
    · exact absurd c5 (by omega)
    · refine zj_iconst (zdk ttX11_does 26 rfl rfl) ?_
      refine zj_goto (t := 44) (zdk ttX11_does 27 rfl rfl) (by decide) ?_
      refine zj_iast (zdk ttX11_does 29 rfl rfl) (kaM_1 s0) (by decide) (by omega) (fun h6 e7 => ?_)
      refine zj_iload_n (zdk ttX11_does 30 rfl rfl) rfl ?_
      refine zj_iconst (zdk ttX11_does 31 rfl rfl) ?_
      refine zj_icmp_eq (t := 55) (zdk ttX11_does 32 rfl rfl) (by decide) (by omega) (by decide) (fun c8 => ?_) (fun c8 => ?_)
      · exact absurd c8 (by omega)
      · refine zj_iload_n (zdk ttX11_does 33 rfl rfl) rfl ?_
        refine zj_iconst (zdk ttX11_does 34 rfl rfl) ?_
        refine zj_icmp_ne (t := 72) (zdk ttX11_does 35 rfl rfl) (by decide) (by omega) (by decide) (fun c9 => ?_) (fun c9 => ?_)
        · refine zj_iload_n (zdk ttX11_does 46 rfl rfl) rfl ?_
          refine zj_iconst (zdk ttX11_does 47 rfl rfl) ?_
          refine zj_icmp_ne (t := 103) (zdk ttX11_does 48 rfl rfl) (by decide) (by omega) (by decide) (fun c10 => ?_) (fun c10 => ?_)
          · refine zj_iload_n (zdk ttX11_does 66 rfl rfl) rfl ?_
            refine zj_iconst (zdk ttX11_does 67 rfl rfl) ?_
            refine zj_icmp_ne (t := 113) (zdk ttX11_does 68 rfl rfl) (by decide) (by omega) (by decide) (fun c11 => ?_) (fun c11 => ?_)
            · have s12 : okM h6 := okM_wr s0 e7 (by decide) (by omega) (by omega)
              have f13 : zfr [] [1] h h6 := zfr_wa (zfr_r _ _ _) e7 rfl
              exact zj_vret rfl (zdk ttX11_does 72 rfl rfl) (Nat.le_refl _) (Nat.le_refl _) ⟨rfl, s12, f13, (by intro E th x t0 d0 s6; have td := zY_d t0 (k := p1) (by omega) (by omega) u_0; obtain ⟨⟨e0, e1, e2⟩, ⟨d1, d2, d3, d4⟩⟩ := td; have g9 := zY_g t0; have r3 := zY_r t0 (k := 3) (by decide) (by decide); have r8 := zY_r t0 (k := 8) (by decide) (by decide); have k3 := t0.2.1.1; unfold fDd; have i2 : (27 + (h.2 18 (p1 + 2))) = 27 + E.dn (p1 / 3) := (by omega); have ee := e7; rw [i2] at ee; rw [if_pos (by omega)]; exact zY_w t0 ee (by omega) (by omega) (by omega) (by omega) (by omega) (by omega))⟩
            · exact absurd c11 (by omega)
          · exact absurd c10 (by omega)
        · exact absurd c9 (by omega)
  · refine zj_iload_n (zdk ttX11_does 16 rfl rfl) rfl ?_
    refine zj_iconst (zdk ttX11_does 17 rfl rfl) ?_
    refine zj_icmp_ne (t := 45) (zdk ttX11_does 18 rfl rfl) (by decide) (by omega) (by decide) (fun c14 => ?_) (fun c14 => ?_)
    · refine zj_iload_n (zdk ttX11_does 30 rfl rfl) rfl ?_
      refine zj_iconst (zdk ttX11_does 31 rfl rfl) ?_
      refine zj_icmp_eq (t := 55) (zdk ttX11_does 32 rfl rfl) (by decide) (by omega) (by decide) (fun c15 => ?_) (fun c15 => ?_)
      · refine zj_aload_n (zdk ttX11_does 36 rfl rfl) rfl (by decide) ?_
        refine zj_getr (r := 1) (zdk ttX11_does 37 rfl rfl) zf_RX11_7 rfl (k_M s0) (rfM_1 s0) ?_
        refine zj_bipush (zdk ttX11_does 38 rfl rfl) (by decide) ?_
        refine zj_iload_n (zdk ttX11_does 39 rfl rfl) rfl ?_
        refine zj_iconst (zdk ttX11_does 40 rfl rfl) ?_
        refine zj_icmp_ne (t := 70) (zdk ttX11_does 41 rfl rfl) (by decide) (by omega) (by decide) (fun c16 => ?_) (fun c16 => ?_)
        · refine zj_iconst (zdk ttX11_does 44 rfl rfl) ?_
          refine zj_iast (zdk ttX11_does 45 rfl rfl) (kaM_1 s0) (by decide) (by omega) (fun h17 e18 => ?_)
          refine zj_iload_n (zdk ttX11_does 46 rfl rfl) rfl ?_
          refine zj_iconst (zdk ttX11_does 47 rfl rfl) ?_
          refine zj_icmp_ne (t := 103) (zdk ttX11_does 48 rfl rfl) (by decide) (by omega) (by decide) (fun c19 => ?_) (fun c19 => ?_)
          · refine zj_iload_n (zdk ttX11_does 66 rfl rfl) rfl ?_
            refine zj_iconst (zdk ttX11_does 67 rfl rfl) ?_
            refine zj_icmp_ne (t := 113) (zdk ttX11_does 68 rfl rfl) (by decide) (by omega) (by decide) (fun c20 => ?_) (fun c20 => ?_)
            · have s21 : okM h17 := okM_wr s0 e18 (by decide) (by omega) (by omega)
              have f22 : zfr [] [1] h h17 := zfr_wa (zfr_r _ _ _) e18 rfl
              exact zj_vret rfl (zdk ttX11_does 72 rfl rfl) (Nat.le_refl _) (Nat.le_refl _) ⟨rfl, s21, f22, (by intro E th x t0 d0 s6; have td := zY_d t0 (k := p1) (by omega) (by omega) u_0; obtain ⟨⟨e0, e1, e2⟩, ⟨d1, d2, d3, d4⟩⟩ := td; have g9 := zY_g t0; have r3 := zY_r t0 (k := 3) (by decide) (by decide); have r8 := zY_r t0 (k := 8) (by decide) (by decide); have k3 := t0.2.1.1; unfold fDd; rw [if_neg (by omega), if_neg (by omega), if_pos (by omega)]; exact zY_w (k := 7) t0 e18 (by omega) (by omega) (by omega) (by omega) (by omega) (by omega))⟩
            · exact absurd c20 (by omega)
          · exact absurd c19 (by omega)
        · exact absurd c16 (by omega)
      · refine zj_iload_n (zdk ttX11_does 33 rfl rfl) rfl ?_
        refine zj_iconst (zdk ttX11_does 34 rfl rfl) ?_
        refine zj_icmp_ne (t := 72) (zdk ttX11_does 35 rfl rfl) (by decide) (by omega) (by decide) (fun c23 => ?_) (fun c23 => ?_)
        · refine zj_iload_n (zdk ttX11_does 46 rfl rfl) rfl ?_
          refine zj_iconst (zdk ttX11_does 47 rfl rfl) ?_
          refine zj_icmp_ne (t := 103) (zdk ttX11_does 48 rfl rfl) (by decide) (by omega) (by decide) (fun c24 => ?_) (fun c24 => ?_)
          · refine zj_iload_n (zdk ttX11_does 66 rfl rfl) rfl ?_
            refine zj_iconst (zdk ttX11_does 67 rfl rfl) ?_
            refine zj_icmp_ne (t := 113) (zdk ttX11_does 68 rfl rfl) (by decide) (by omega) (by decide) (fun c25 => ?_) (fun c25 => ?_)
            · exact zj_vret rfl (zdk ttX11_does 72 rfl rfl) (Nat.le_refl _) (Nat.le_refl _) ⟨rfl, s0, (zfr_r _ _ _), (by intro E th x t0 d0 s6; have td := zY_d t0 (k := p1) (by omega) (by omega) u_0; obtain ⟨⟨e0, e1, e2⟩, ⟨d1, d2, d3, d4⟩⟩ := td; have g9 := zY_g t0; have r3 := zY_r t0 (k := 3) (by decide) (by decide); have r8 := zY_r t0 (k := 8) (by decide) (by decide); have k3 := t0.2.1.1; unfold fDd; exfalso; omega)⟩
            · refine zj_aload_n (zdk ttX11_does 69 rfl rfl) rfl (by decide) ?_
              refine zj_iload_n (zdk ttX11_does 70 rfl rfl) rfl ?_
              refine zj_callV (av := [.inl (h.2 18 (p1 + 2))]) (st := []) (zdk ttX11_does 71 rfl rfl) mb_X11_isPushed mv_RX11_356 (ci := 11) rfl rfl (k_M s0) rfl rfl (Nat.le_of_ble_eq_true rfl) (s2_X11_isPushed l h (h.2 18 (p1 + 2)) s0 (by omega)) (rm_ok (by decide) (by decide)) (zq_v fun h28 q26 => ?_)
              obtain ⟨s30, f32, u31⟩ := q26
              have f33 : zfr [] [1] h h28 := zfr_t (zfr_r _ _ _) f32 rfl rfl
              exact zj_vret rfl (zdk ttX11_does 72 rfl rfl) (Nat.le_refl _) (Nat.le_refl _) ⟨rfl, s30, f33, (by intro E th x t0 d0 s6; have td := zY_d t0 (k := p1) (by omega) (by omega) u_0; obtain ⟨⟨e0, e1, e2⟩, ⟨d1, d2, d3, d4⟩⟩ := td; have g9 := zY_g t0; have r3 := zY_r t0 (k := 3) (by decide) (by decide); have r8 := zY_r t0 (k := 8) (by decide) (by decide); have k3 := t0.2.1.1; unfold fDd; rw [if_neg (by omega), if_neg (by omega), if_neg (by omega), if_neg (by omega), if_neg (by omega), ← e2]; exact u31 E th x t0 (by omega) s6)⟩
          · refine zj_aload_n (zdk ttX11_does 49 rfl rfl) rfl (by decide) ?_
            refine zj_getr (r := 1) (zdk ttX11_does 50 rfl rfl) zf_RX11_7 rfl (k_M s0) (rfM_1 s0) ?_
            refine zj_bipush (zdk ttX11_does 51 rfl rfl) (by decide) ?_
            refine zj_aload_n (zdk ttX11_does 52 rfl rfl) rfl (by decide) ?_
            refine zj_getr (r := 1) (zdk ttX11_does 53 rfl rfl) zf_RX11_7 rfl (k_M s0) (rfM_1 s0) ?_
            refine zj_bipush (zdk ttX11_does 54 rfl rfl) (by decide) ?_
            have b35 : -2147483648 ≤ (h.2 1 8) ∧ (h.2 1 8) ≤ 2147483647 := (rM_b s0 1 8 (by omega)).1
            refine zj_iald (v := (h.2 1 8)) (zdk ttX11_does 55 rfl rfl) (kaM_1 s0) (by decide) (by omega) rfl ?_
            refine zj_iload_n (zdk ttX11_does 56 rfl rfl) rfl ?_
            refine zj_aload_n (zdk ttX11_does 57 rfl rfl) rfl (by decide) ?_
            refine zj_getr (r := 1) (zdk ttX11_does 58 rfl rfl) zf_RX11_7 rfl (k_M s0) (rfM_1 s0) ?_
            refine zj_iconst (zdk ttX11_does 59 rfl rfl) ?_
            have b37 : -2147483648 ≤ (h.2 1 3) ∧ (h.2 1 3) ≤ 2147483647 := (rM_b s0 1 3 (by omega)).1
            refine zj_iald (v := (h.2 1 3)) (zdk ttX11_does 60 rfl rfl) (kaM_1 s0) (by decide) (by omega) rfl ?_
            refine zj_bipush (zdk ttX11_does 61 rfl rfl) (by decide) ?_
            refine zj_idiv (zdk ttX11_does 62 rfl rfl) (by omega) (by decide) (by omega) ?_
            have b38 := ztd_c (h.2 1 3) 60 (by decide)
            refine zj_imul (zdk ttX11_does 63 rfl rfl) ?_
            refine zj_wrap ?_
            have b39 := zwp_in ((h.2 18 (p1 + 2)) * ((h.2 1 3).tdiv 60))
            refine zj_iadd (zdk ttX11_does 64 rfl rfl) ?_
            refine zj_wrap ?_
            have b40 := zwp_in ((h.2 1 8) + (zwp ((h.2 18 (p1 + 2)) * ((h.2 1 3).tdiv 60))))
            refine zj_iast (zdk ttX11_does 65 rfl rfl) (kaM_1 s0) (by decide) (by omega) (fun h41 e42 => ?_)
            refine zj_iload_n (zdk ttX11_does 66 rfl rfl) rfl ?_
            refine zj_iconst (zdk ttX11_does 67 rfl rfl) ?_
            refine zj_icmp_ne (t := 113) (zdk ttX11_does 68 rfl rfl) (by decide) (by omega) (by decide) (fun c43 => ?_) (fun c43 => ?_)
            · have s44 : okM h41 := okM_wr s0 e42 (by decide) (by omega) (by omega)
              have f45 : zfr [] [1] h h41 := zfr_wa (zfr_r _ _ _) e42 rfl
              exact zj_vret rfl (zdk ttX11_does 72 rfl rfl) (Nat.le_refl _) (Nat.le_refl _) ⟨rfl, s44, f45, (by intro E th x t0 d0 s6; have td := zY_d t0 (k := p1) (by omega) (by omega) u_0; obtain ⟨⟨e0, e1, e2⟩, ⟨d1, d2, d3, d4⟩⟩ := td; have g9 := zY_g t0; have r3 := zY_r t0 (k := 3) (by decide) (by decide); have r8 := zY_r t0 (k := 8) (by decide) (by decide); have k3 := t0.2.1.1; unfold fDd; rw [if_neg (by omega), if_neg (by omega), if_neg (by omega), if_neg (by omega), if_pos (by omega)]; exact zY_w (k := 8) t0 e42 (by decide) (show (zwp ((h.2 1 8) + (zwp ((h.2 18 (p1 + 2)) * ((h.2 1 3).tdiv 60))))) = zwp (x.1 8 + E.dn (p1 / 3) * (x.1 3 / 60)) by rw [zwp_r, r8, e2, fTdv (by omega), r3]) (by omega) (by omega) (by omega) (by omega))⟩
            · exact absurd c43 (by omega)
        · refine zj_aload_n (zdk ttX11_does 36 rfl rfl) rfl (by decide) ?_
          refine zj_getr (r := 1) (zdk ttX11_does 37 rfl rfl) zf_RX11_7 rfl (k_M s0) (rfM_1 s0) ?_
          refine zj_bipush (zdk ttX11_does 38 rfl rfl) (by decide) ?_
          refine zj_iload_n (zdk ttX11_does 39 rfl rfl) rfl ?_
          refine zj_iconst (zdk ttX11_does 40 rfl rfl) ?_
          refine zj_icmp_ne (t := 70) (zdk ttX11_does 41 rfl rfl) (by decide) (by omega) (by decide) (fun c46 => ?_) (fun c46 => ?_)
          · exact absurd c46 (by omega)
          · refine zj_iconst (zdk ttX11_does 42 rfl rfl) ?_
            refine zj_goto (t := 71) (zdk ttX11_does 43 rfl rfl) (by decide) ?_
            refine zj_iast (zdk ttX11_does 45 rfl rfl) (kaM_1 s0) (by decide) (by omega) (fun h47 e48 => ?_)
            refine zj_iload_n (zdk ttX11_does 46 rfl rfl) rfl ?_
            refine zj_iconst (zdk ttX11_does 47 rfl rfl) ?_
            refine zj_icmp_ne (t := 103) (zdk ttX11_does 48 rfl rfl) (by decide) (by omega) (by decide) (fun c49 => ?_) (fun c49 => ?_)
            · refine zj_iload_n (zdk ttX11_does 66 rfl rfl) rfl ?_
              refine zj_iconst (zdk ttX11_does 67 rfl rfl) ?_
              refine zj_icmp_ne (t := 113) (zdk ttX11_does 68 rfl rfl) (by decide) (by omega) (by decide) (fun c50 => ?_) (fun c50 => ?_)
              · have s51 : okM h47 := okM_wr s0 e48 (by decide) (by omega) (by omega)
                have f52 : zfr [] [1] h h47 := zfr_wa (zfr_r _ _ _) e48 rfl
                exact zj_vret rfl (zdk ttX11_does 72 rfl rfl) (Nat.le_refl _) (Nat.le_refl _) ⟨rfl, s51, f52, (by intro E th x t0 d0 s6; have td := zY_d t0 (k := p1) (by omega) (by omega) u_0; obtain ⟨⟨e0, e1, e2⟩, ⟨d1, d2, d3, d4⟩⟩ := td; have g9 := zY_g t0; have r3 := zY_r t0 (k := 3) (by decide) (by decide); have r8 := zY_r t0 (k := 8) (by decide) (by decide); have k3 := t0.2.1.1; unfold fDd; rw [if_neg (by omega), if_neg (by omega), if_neg (by omega), if_pos (by omega)]; exact zY_w (k := 7) t0 e48 (by omega) (by omega) (by omega) (by omega) (by omega) (by omega))⟩
              · exact absurd c50 (by omega)
            · exact absurd c49 (by omega)
    · refine zj_aload_n (zdk ttX11_does 19 rfl rfl) rfl (by decide) ?_
      refine zj_getr (r := 1) (zdk ttX11_does 20 rfl rfl) zf_RX11_7 rfl (k_M s0) (rfM_1 s0) ?_
      have b53 : 0 ≤ (h.2 18 (p1 + 2)) ∧ (h.2 18 (p1 + 2)) ≤ 17 := by omega
      refine zj_bipush (zdk ttX11_does 21 rfl rfl) (by decide) ?_
      refine zj_iload_n (zdk ttX11_does 22 rfl rfl) rfl ?_
      refine zj_iadd (zdk ttX11_does 23 rfl rfl) ?_
      refine zj_iload_n (zdk ttX11_does 24 rfl rfl) rfl ?_
      refine zj_if_ne (t := 43) (zdk ttX11_does 25 rfl rfl) (by decide) (by omega) (fun c54 => ?_) (fun c54 => ?_)
      · refine zj_iconst (zdk ttX11_does 28 rfl rfl) ?_
        refine zj_iast (zdk ttX11_does 29 rfl rfl) (kaM_1 s0) (by decide) (by omega) (fun h55 e56 => ?_)
        refine zj_iload_n (zdk ttX11_does 30 rfl rfl) rfl ?_
        refine zj_iconst (zdk ttX11_does 31 rfl rfl) ?_
        refine zj_icmp_eq (t := 55) (zdk ttX11_does 32 rfl rfl) (by decide) (by omega) (by decide) (fun c57 => ?_) (fun c57 => ?_)
        · exact absurd c57 (by omega)
        · refine zj_iload_n (zdk ttX11_does 33 rfl rfl) rfl ?_
          refine zj_iconst (zdk ttX11_does 34 rfl rfl) ?_
          refine zj_icmp_ne (t := 72) (zdk ttX11_does 35 rfl rfl) (by decide) (by omega) (by decide) (fun c58 => ?_) (fun c58 => ?_)
          · refine zj_iload_n (zdk ttX11_does 46 rfl rfl) rfl ?_
            refine zj_iconst (zdk ttX11_does 47 rfl rfl) ?_
            refine zj_icmp_ne (t := 103) (zdk ttX11_does 48 rfl rfl) (by decide) (by omega) (by decide) (fun c59 => ?_) (fun c59 => ?_)
            · refine zj_iload_n (zdk ttX11_does 66 rfl rfl) rfl ?_
              refine zj_iconst (zdk ttX11_does 67 rfl rfl) ?_
              refine zj_icmp_ne (t := 113) (zdk ttX11_does 68 rfl rfl) (by decide) (by omega) (by decide) (fun c60 => ?_) (fun c60 => ?_)
              · have s61 : okM h55 := okM_wr s0 e56 (by decide) (by omega) (by omega)
                have f62 : zfr [] [1] h h55 := zfr_wa (zfr_r _ _ _) e56 rfl
                exact zj_vret rfl (zdk ttX11_does 72 rfl rfl) (Nat.le_refl _) (Nat.le_refl _) ⟨rfl, s61, f62, (by intro E th x t0 d0 s6; have td := zY_d t0 (k := p1) (by omega) (by omega) u_0; obtain ⟨⟨e0, e1, e2⟩, ⟨d1, d2, d3, d4⟩⟩ := td; have g9 := zY_g t0; have r3 := zY_r t0 (k := 3) (by decide) (by decide); have r8 := zY_r t0 (k := 8) (by decide) (by decide); have k3 := t0.2.1.1; unfold fDd; have i2 : (27 + (h.2 18 (p1 + 2))) = 27 + E.dn (p1 / 3) := (by omega); have ee := e56; rw [i2] at ee; rw [if_neg (by omega), if_pos (by omega)]; exact zY_w t0 ee (by omega) (by omega) (by omega) (by omega) (by omega) (by omega))⟩
              · exact absurd c60 (by omega)
            · exact absurd c59 (by omega)
          · exact absurd c58 (by omega)
      · exact absurd c54 (by omega)

