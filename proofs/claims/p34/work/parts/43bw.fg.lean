abbrev q2_X11_clockRuns (h : zM) : Option zV → zM → Prop := zqi fun v h' => ((-2147483648) ≤ v ∧ v ≤ 2147483647) ∧ okM h' ∧ zfr [] [1, 6] h h' ∧ (∀ E th x, zY h E th x → (-2147483647 ≤ x.1 4 ∧ x.1 4 ≤ 2147483647) → zY h' E th (fCl th x) ∧ v = zss (x.1 3) (fMi x.1).toNat)
set_option maxRecDepth 100000 in
set_option maxHeartbeats 4000000 in
theorem s2_X11_clockRuns (l : Launch) (h : zM) (s0 : okM h) : zT shM l yX11_clockRuns cX11_clockRuns 6 (some .int) (rmL 2) 0 0 [.inr 0] h (q2_X11_clockRuns h) := by
  refine zT_of (by decide +kernel) (L0 := [some (.inr 0), none, none, none, none, none]) rfl (Nat.le_of_ble_eq_true rfl) ?_
  refine zj_aload_n (zdk ttX11_clockRuns 0 rfl rfl) rfl (by decide) ?_
  refine zj_sipush (zdk ttX11_clockRuns 1 rfl rfl) (by decide) ?_
  refine zj_aload_n (zdk ttX11_clockRuns 2 rfl rfl) rfl (by decide) ?_
  refine zj_aload_n (zdk ttX11_clockRuns 3 rfl rfl) rfl (by decide) ?_
  refine zj_getr (r := 1) (zdk ttX11_clockRuns 4 rfl rfl) zf_RX11_7 rfl (k_M s0) (rfM_1 s0) ?_
  refine zj_iconst (zdk ttX11_clockRuns 5 rfl rfl) ?_
  have b2 : -2147483648 ≤ (h.2 1 4) ∧ (h.2 1 4) ≤ 2147483647 := (rM_b s0 1 4 (by omega)).1
  refine zj_iald (v := (h.2 1 4)) (zdk ttX11_clockRuns 6 rfl rfl) (kaM_1 s0) (by decide) (by omega) rfl ?_
  refine zj_callV (av := [.inl (h.2 1 4)]) (st := [.inl 1440, .inr 0]) (zdk ttX11_clockRuns 7 rfl rfl) mb_X11_plain mv_RX11_368 (ci := 11) rfl rfl (k_M s0) rfl rfl (Nat.le_of_ble_eq_true rfl) (s_X11_plain l h (h.2 1 4) s0 (by omega)) (rm_ok (by decide) (by decide)) (zq_i fun v4 h5 q3 => ?_)
  obtain ⟨rfl, b6⟩ := q3
  have b7 : -2147483648 ≤ v4 ∧ v4 ≤ 2147483647 := by omega
  refine zj_callV (av := [.inl 1440, .inl v4]) (st := []) (zdk ttX11_clockRuns 8 rfl rfl) mb_X11_lesser mv_RX11_371 (ci := 11) rfl rfl (k_M s0) rfl rfl (Nat.le_of_ble_eq_true rfl) (s_X11_lesser l h 1440 v4 s0 (by omega) (by omega)) (rm_ok (by decide) (by decide)) (zq_i fun v9 h10 q8 => ?_)
  obtain ⟨rfl, b11⟩ := q8
  have b12 : -2147483648 ≤ v9 ∧ v9 ≤ 1440 := by omega
  refine zj_istore_n (L' := [some (.inr 0), some (.inl v9), none, none, none, none]) (zdk ttX11_clockRuns 9 rfl rfl) (by decide) rfl ?_
  refine zj_aload_n (zdk ttX11_clockRuns 10 rfl rfl) rfl (by decide) ?_
  refine zj_getr (r := 1) (zdk ttX11_clockRuns 11 rfl rfl) zf_RX11_7 rfl (k_M s0) (rfM_1 s0) ?_
  refine zj_iconst (zdk ttX11_clockRuns 12 rfl rfl) ?_
  refine zj_iald (v := (h.2 1 4)) (zdk ttX11_clockRuns 13 rfl rfl) (kaM_1 s0) (by decide) (by omega) rfl ?_
  refine zj_if_le (t := 31) (zdk ttX11_clockRuns 14 rfl rfl) (by decide) (by omega) (fun c13 => ?_) (fun c13 => ?_)
  · refine zj_iconst (zdk ttX11_clockRuns 17 rfl rfl) ?_
    refine zj_istore_n (L' := [some (.inr 0), some (.inl v9), some (.inl 0), none, none, none]) (zdk ttX11_clockRuns 18 rfl rfl) (by decide) rfl ?_
    refine zj_iconst (zdk ttX11_clockRuns 19 rfl rfl) ?_
    refine zj_istore_n (L' := [some (.inr 0), some (.inl v9), some (.inl 0), some (.inl 0), none, none]) (zdk ttX11_clockRuns 20 rfl rfl) (by decide) rfl ?_
    refine zj_iconst (zdk ttX11_clockRuns 21 rfl rfl) ?_
    refine zj_istore (L' := [some (.inr 0), some (.inl v9), some (.inl 0), some (.inl 0), some (.inl 0), none]) (zdk ttX11_clockRuns 22 rfl rfl) (by decide) rfl ?_
    have lp51 : ∀ (n38 : Nat) (x14 x15 : Int) (h16 : zM), (-17280 ≤ x14 ∧ x14 ≤ 17280) → (0 ≤ x15 ∧ x15 ≤ 1440) → okM h16 → zfr [] [1, 6] h h16 → (∀ E th x, zY h E th x → (-2147483647 ≤ x.1 4 ∧ x.1 4 ≤ 2147483647) → zY h16 E th (fMv x.1 (-x15), x.2) ∧ x14 = 0 ∧ x15 ≤ v9) → (-(12 * x15) ≤ x14 ∧ x14 ≤ 12 * x15) → (1441 - x15).toNat < n38 → zJ shM l yX11_clockRuns cX11_clockRuns 6 (some .int) (rmL 2) 0 0 (q2_X11_clockRuns h) 0 0 38 [some (.inr 0), some (.inl v9), some (.inl 0), some (.inl x14), some (.inl x15), none] [] h16 := by
      intro n38
      induction n38 with
      | zero => intro x14 x15 h16 b52 b53 s17 f18 u54 u55 m56; exact absurd m56 (Nat.not_lt_zero _)
      | succ n38 ih57 =>
        intro x14 x15 h16 b52 b53 s17 f18 u54 u55 m56
        refine zj_iload (zdk ttX11_clockRuns 23 rfl rfl) rfl ?_
        refine zj_iload_n (zdk ttX11_clockRuns 24 rfl rfl) rfl ?_
        refine zj_icmp_ge (t := 146) (zdk ttX11_clockRuns 25 rfl rfl) (by decide) (by omega) (by omega) (fun c58 => ?_) (fun c58 => ?_)
        · refine zj_aload_n (zdk ttX11_clockRuns 84 rfl rfl) rfl (by decide) ?_
          refine zj_getr (r := 1) (zdk ttX11_clockRuns 85 rfl rfl) zf_RX11_7 rfl (k_M s17) (rfM_1 s17) ?_
          refine zj_iconst (zdk ttX11_clockRuns 86 rfl rfl) ?_
          refine zj_aload_n (zdk ttX11_clockRuns 87 rfl rfl) rfl (by decide) ?_
          refine zj_getr (r := 1) (zdk ttX11_clockRuns 88 rfl rfl) zf_RX11_7 rfl (k_M s17) (rfM_1 s17) ?_
          refine zj_iconst (zdk ttX11_clockRuns 89 rfl rfl) ?_
          have b60 : -2147483648 ≤ (h16.2 1 4) ∧ (h16.2 1 4) ≤ 2147483647 := (rM_b s17 1 4 (by omega)).1
          refine zj_iald (v := (h16.2 1 4)) (zdk ttX11_clockRuns 90 rfl rfl) (kaM_1 s17) (by decide) (by omega) rfl ?_
          refine zj_iload_n (zdk ttX11_clockRuns 91 rfl rfl) rfl ?_
          refine zj_if_eq (t := 166) (zdk ttX11_clockRuns 92 rfl rfl) (by decide) (by decide) (fun c61 => ?_) (fun c61 => ?_)
          · refine zj_iload_n (zdk ttX11_clockRuns 96 rfl rfl) rfl ?_
            refine zj_iadd (zdk ttX11_clockRuns 97 rfl rfl) ?_
            refine zj_wrap ?_
            have b62 := zwp_in ((h16.2 1 4) + v9)
            refine zj_iast (zdk ttX11_clockRuns 98 rfl rfl) (kaM_1 s17) (by decide) (by omega) (fun h63 e64 => ?_)
            refine zj_aload_n (zdk ttX11_clockRuns 99 rfl rfl) rfl (by decide) ?_
            have s65 : okM h63 := okM_wr s17 e64 (by decide) (by omega) (by omega)
            refine zj_getr (r := 1) (zdk ttX11_clockRuns 100 rfl rfl) zf_RX11_7 rfl (k_M s65) (rfM_1 s65) ?_
            refine zj_iconst (zdk ttX11_clockRuns 101 rfl rfl) ?_
            refine zj_aload_n (zdk ttX11_clockRuns 102 rfl rfl) rfl (by decide) ?_
            refine zj_getr (r := 1) (zdk ttX11_clockRuns 103 rfl rfl) zf_RX11_7 rfl (k_M s65) (rfM_1 s65) ?_
            refine zj_iconst (zdk ttX11_clockRuns 104 rfl rfl) ?_
            have b67 : -2147483648 ≤ (h16.2 1 5) ∧ (h16.2 1 5) ≤ 2147483647 := (rM_b s17 1 5 (by omega)).1
            refine zj_iald (v := (h16.2 1 5)) (zdk ttX11_clockRuns 105 rfl rfl) (kaM_1 s65) (by decide) (by omega) (zwr_r e64 (by first | decide | exact (absurd ·.1 (by decide)) | exact (absurd ·.2 (by decide)) | omega)) ?_
            refine zj_iload_n (zdk ttX11_clockRuns 106 rfl rfl) rfl ?_
            refine zj_iadd (zdk ttX11_clockRuns 107 rfl rfl) ?_
            refine zj_wrap ?_
            have b68 := zwp_in ((h16.2 1 5) + x14)
            refine zj_iast (zdk ttX11_clockRuns 108 rfl rfl) (kaM_1 s65) (by decide) (by omega) (fun h69 e70 => ?_)
            refine zj_iload_n (zdk ttX11_clockRuns 109 rfl rfl) rfl ?_
            refine zj_if_le (t := 194) (zdk ttX11_clockRuns 110 rfl rfl) (by decide) (by omega) (fun c71 => ?_) (fun c71 => ?_)
            · refine zj_iload_n (zdk ttX11_clockRuns 116 rfl rfl) rfl ?_
              refine zj_if_ne (t := 210) (zdk ttX11_clockRuns 117 rfl rfl) (by decide) (by omega) (fun c72 => ?_) (fun c72 => ?_)
              · refine zj_iload_n (zdk ttX11_clockRuns 126 rfl rfl) rfl ?_
                refine zj_if_le (t := 225) (zdk ttX11_clockRuns 127 rfl rfl) (by decide) (by omega) (fun c73 => ?_) (fun c73 => ?_)
                · refine zj_iload_n (zdk ttX11_clockRuns 135 rfl rfl) rfl ?_
                  have s74 : okM h69 := okM_wr s65 e70 (by decide) (by omega) (by omega)
                  have f76 : zfr [] [1, 6] h h63 := zfr_wa f18 e64 rfl
                  have f75 : zfr [] [1, 6] h h69 := zfr_wa f76 e70 rfl
                  exact zj_iret rfl (zdk ttX11_clockRuns 136 rfl rfl) (Nat.le_refl _) (Nat.le_refl _) ⟨x14, rfl, by omega, s74, f75, (by intro E th x t0 w0; obtain ⟨t1, s1, kl⟩ := u54 E th x t0 w0; have q4 := zY_r t0 (k := 4) (by decide) (by decide); have zn : zwp (-(h.2 1 4)) = -(h.2 1 4) := zwp_s (by omega); have kn : x15 = v9 := (by omega); rw [kn] at t1; have mi : fMi x.1 = (-v9) := ((fMi_n (w := h.2 1 4) (n := v9) q4.symm (by omega) (by omega)).2 (by omega)); have zs : zss (x.1 3) (fMi x.1).toNat = x14 := (by rw [mi]; rw [show ((-v9)).toNat = 0 by omega]; exact s1.symm); have r4 : h16.2 1 4 = x.1 4 := (zY_r t1 (k := 4) (by decide) (by decide)).trans (fMv_o x.1 (-v9) (k := 4) (by decide) (by decide)); have r5 : h16.2 1 5 = x.1 5 := (zY_r t1 (k := 5) (by decide) (by decide)).trans (fMv_o x.1 (-v9) (k := 5) (by decide) (by decide)); have t2 := zY_w (k := 4) (u := zwp (x.1 4 - (-v9))) t1 e64 (by decide) (by rw [r4, Int.sub_neg]) (by omega) (by omega) (by omega) (by omega); have t3 := zY_w (k := 5) (u := zwp (x.1 5 + zss (x.1 3) ((-v9)).toNat)) t2 e70 (by decide) (by rw [r5, ← mi, zs]) (by omega) (by omega) (by omega) (by omega); have t4 : zY h69 E th (fC1 x.1, x.2) := (by rw [fC1_e mi]; exact t3); have c3 : h69.2 1 3 = fC1 x.1 3 := zY_r t4 (k := 3) (by decide) (by decide); rw [mi] at zs; refine ⟨?_, by rw [mi]; exact zs.symm⟩; rw [fCl_e mi zs]; rw [if_neg (show ¬ (-v9) < 0 by omega), if_neg (show ¬ (-v9) = 0 by omega)]; rw [if_neg (show ¬ 0 < x14 by omega)]; exact t4)⟩
                · refine zj_iload_n (zdk ttX11_clockRuns 128 rfl rfl) rfl ?_
                  refine zj_if_ne (t := 225) (zdk ttX11_clockRuns 129 rfl rfl) (by decide) (by decide) (fun c77 => ?_) (fun c77 => ?_)
                  · exact absurd c77 (by omega)
                  · refine zj_aload_n (zdk ttX11_clockRuns 130 rfl rfl) rfl (by decide) ?_
                    refine zj_iconst (zdk ttX11_clockRuns 131 rfl rfl) ?_
                    refine zj_iconst (zdk ttX11_clockRuns 132 rfl rfl) ?_
                    refine zj_iload_n (zdk ttX11_clockRuns 133 rfl rfl) rfl ?_
                    have s78 : okM h69 := okM_wr s65 e70 (by decide) (by omega) (by omega)
                    refine zj_callV (av := [.inl 4, .inl (-1), .inl v9]) (st := []) (zdk ttX11_clockRuns 134 rfl rfl) mb_X11_notes mv_RX11_337 (ci := 11) rfl rfl (k_M s78) rfl rfl (Nat.le_of_ble_eq_true rfl) (s2_X11_notes l h69 4 (-1) v9 s78 (by omega) (by omega) (by omega)) (rm_ok (by decide) (by decide)) (zq_v fun h81 q79 => ?_)
                    obtain ⟨s83, f85, u84⟩ := q79
                    refine zj_iload_n (zdk ttX11_clockRuns 135 rfl rfl) rfl ?_
                    have f88 : zfr [] [1, 6] h h63 := zfr_wa f18 e64 rfl
                    have f87 : zfr [] [1, 6] h h69 := zfr_wa f88 e70 rfl
                    have f86 : zfr [] [1, 6] h h81 := zfr_t f87 f85 rfl rfl
                    exact zj_iret rfl (zdk ttX11_clockRuns 136 rfl rfl) (Nat.le_refl _) (Nat.le_refl _) ⟨x14, rfl, by omega, s83, f86, (by intro E th x t0 w0; obtain ⟨t1, s1, kl⟩ := u54 E th x t0 w0; have q4 := zY_r t0 (k := 4) (by decide) (by decide); have zn : zwp (-(h.2 1 4)) = -(h.2 1 4) := zwp_s (by omega); have kn : x15 = v9 := (by omega); rw [kn] at t1; have mi : fMi x.1 = (-v9) := ((fMi_n (w := h.2 1 4) (n := v9) q4.symm (by omega) (by omega)).2 (by omega)); have zs : zss (x.1 3) (fMi x.1).toNat = x14 := (by rw [mi]; rw [show ((-v9)).toNat = 0 by omega]; exact s1.symm); have r4 : h16.2 1 4 = x.1 4 := (zY_r t1 (k := 4) (by decide) (by decide)).trans (fMv_o x.1 (-v9) (k := 4) (by decide) (by decide)); have r5 : h16.2 1 5 = x.1 5 := (zY_r t1 (k := 5) (by decide) (by decide)).trans (fMv_o x.1 (-v9) (k := 5) (by decide) (by decide)); have t2 := zY_w (k := 4) (u := zwp (x.1 4 - (-v9))) t1 e64 (by decide) (by rw [r4, Int.sub_neg]) (by omega) (by omega) (by omega) (by omega); have t3 := zY_w (k := 5) (u := zwp (x.1 5 + zss (x.1 3) ((-v9)).toNat)) t2 e70 (by decide) (by rw [r5, ← mi, zs]) (by omega) (by omega) (by omega) (by omega); have t4 : zY h69 E th (fC1 x.1, x.2) := (by rw [fC1_e mi]; exact t3); have c3 : h69.2 1 3 = fC1 x.1 3 := zY_r t4 (k := 3) (by decide) (by decide); rw [mi] at zs; have w1 := u84 E th _ t4; refine ⟨?_, by rw [mi]; exact zs.symm⟩; rw [fCl_e mi zs]; rw [if_pos (show (-v9) < 0 by omega), if_neg (show ¬ (-v9) = 0 by omega)]; rw [if_neg (show ¬ 0 < x14 by omega)]; rw [show -((-v9)) = v9 by omega]; exact w1)⟩
              · refine zj_aload_n (zdk ttX11_clockRuns 118 rfl rfl) rfl (by decide) ?_
                refine zj_iconst (zdk ttX11_clockRuns 119 rfl rfl) ?_
                refine zj_iconst (zdk ttX11_clockRuns 120 rfl rfl) ?_
                refine zj_aload_n (zdk ttX11_clockRuns 121 rfl rfl) rfl (by decide) ?_
                have s89 : okM h69 := okM_wr s65 e70 (by decide) (by omega) (by omega)
                refine zj_getr (r := 1) (zdk ttX11_clockRuns 122 rfl rfl) zf_RX11_7 rfl (k_M s89) (rfM_1 s89) ?_
                refine zj_iconst (zdk ttX11_clockRuns 123 rfl rfl) ?_
                have b91 : -2147483648 ≤ (h16.2 1 3) ∧ (h16.2 1 3) ≤ 2147483647 := (rM_b s17 1 3 (by omega)).1
                refine zj_iald (v := (h16.2 1 3)) (zdk ttX11_clockRuns 124 rfl rfl) (kaM_1 s89) (by decide) (by omega) ((zwr_r e70 (by first | decide | exact (absurd ·.1 (by decide)) | exact (absurd ·.2 (by decide)) | omega)).trans (zwr_r e64 (by first | decide | exact (absurd ·.1 (by decide)) | exact (absurd ·.2 (by decide)) | omega))) ?_
                refine zj_callV (av := [.inl 3, .inl (-1), .inl (h16.2 1 3)]) (st := []) (zdk ttX11_clockRuns 125 rfl rfl) mb_X11_notes mv_RX11_337 (ci := 11) rfl rfl (k_M s89) rfl rfl (Nat.le_of_ble_eq_true rfl) (s2_X11_notes l h69 3 (-1) (h16.2 1 3) s89 (by omega) (by omega) (by omega)) (rm_ok (by decide) (by decide)) (zq_v fun h94 q92 => ?_)
                obtain ⟨s96, f98, u97⟩ := q92
                refine zj_iload_n (zdk ttX11_clockRuns 126 rfl rfl) rfl ?_
                refine zj_if_le (t := 225) (zdk ttX11_clockRuns 127 rfl rfl) (by decide) (by omega) (fun c99 => ?_) (fun c99 => ?_)
                · refine zj_iload_n (zdk ttX11_clockRuns 135 rfl rfl) rfl ?_
                  have f102 : zfr [] [1, 6] h h63 := zfr_wa f18 e64 rfl
                  have f101 : zfr [] [1, 6] h h69 := zfr_wa f102 e70 rfl
                  have f100 : zfr [] [1, 6] h h94 := zfr_t f101 f98 rfl rfl
                  have b103 : h69.2 1 3 = (h16.2 1 3) := ((zwr_r e70 (by first | decide | exact (absurd ·.1 (by decide)) | exact (absurd ·.2 (by decide)) | omega)).trans (zwr_r e64 (by first | decide | exact (absurd ·.1 (by decide)) | exact (absurd ·.2 (by decide)) | omega)))
                  exact zj_iret rfl (zdk ttX11_clockRuns 136 rfl rfl) (Nat.le_refl _) (Nat.le_refl _) ⟨x14, rfl, by omega, s96, f100, (by intro E th x t0 w0; obtain ⟨t1, s1, kl⟩ := u54 E th x t0 w0; have q4 := zY_r t0 (k := 4) (by decide) (by decide); have zn : zwp (-(h.2 1 4)) = -(h.2 1 4) := zwp_s (by omega); have kn : x15 = v9 := (by omega); rw [kn] at t1; have mi : fMi x.1 = (-v9) := ((fMi_n (w := h.2 1 4) (n := v9) q4.symm (by omega) (by omega)).2 (by omega)); have zs : zss (x.1 3) (fMi x.1).toNat = x14 := (by rw [mi]; rw [show ((-v9)).toNat = 0 by omega]; exact s1.symm); have r4 : h16.2 1 4 = x.1 4 := (zY_r t1 (k := 4) (by decide) (by decide)).trans (fMv_o x.1 (-v9) (k := 4) (by decide) (by decide)); have r5 : h16.2 1 5 = x.1 5 := (zY_r t1 (k := 5) (by decide) (by decide)).trans (fMv_o x.1 (-v9) (k := 5) (by decide) (by decide)); have t2 := zY_w (k := 4) (u := zwp (x.1 4 - (-v9))) t1 e64 (by decide) (by rw [r4, Int.sub_neg]) (by omega) (by omega) (by omega) (by omega); have t3 := zY_w (k := 5) (u := zwp (x.1 5 + zss (x.1 3) ((-v9)).toNat)) t2 e70 (by decide) (by rw [r5, ← mi, zs]) (by omega) (by omega) (by omega) (by omega); have t4 : zY h69 E th (fC1 x.1, x.2) := (by rw [fC1_e mi]; exact t3); have c3 : h69.2 1 3 = fC1 x.1 3 := zY_r t4 (k := 3) (by decide) (by decide); rw [mi] at zs; have w1 := u97 E th _ t4; have c9 : (h16.2 1 3) = ((if 0 < x14 then fNt th (fC1 x.1, x.2) 2 (-1) x14 else (fC1 x.1, x.2))).1 3 := (by rw [fNt_i th _ _ _ _ (by decide)]; show (h16.2 1 3) = fC1 x.1 3; omega); rw [c9] at w1; refine ⟨?_, by rw [mi]; exact zs.symm⟩; rw [fCl_e mi zs]; rw [if_neg (show ¬ (-v9) < 0 by omega), if_pos (show (-v9) = 0 by omega)]; rw [if_neg (show ¬ 0 < x14 by omega)] at w1; rw [if_neg (show ¬ 0 < x14 by omega)]; exact w1)⟩
                · exact absurd c99 (by omega)
            · refine zj_aload_n (zdk ttX11_clockRuns 111 rfl rfl) rfl (by decide) ?_
              refine zj_iconst (zdk ttX11_clockRuns 112 rfl rfl) ?_
              refine zj_iconst (zdk ttX11_clockRuns 113 rfl rfl) ?_
              refine zj_iload_n (zdk ttX11_clockRuns 114 rfl rfl) rfl ?_
              have s104 : okM h69 := okM_wr s65 e70 (by decide) (by omega) (by omega)
              refine zj_callV (av := [.inl 2, .inl (-1), .inl x14]) (st := []) (zdk ttX11_clockRuns 115 rfl rfl) mb_X11_notes mv_RX11_337 (ci := 11) rfl rfl (k_M s104) rfl rfl (Nat.le_of_ble_eq_true rfl) (s2_X11_notes l h69 2 (-1) x14 s104 (by omega) (by omega) (by omega)) (rm_ok (by decide) (by decide)) (zq_v fun h107 q105 => ?_)
              obtain ⟨s109, f111, u110⟩ := q105
              refine zj_iload_n (zdk ttX11_clockRuns 116 rfl rfl) rfl ?_
              refine zj_if_ne (t := 210) (zdk ttX11_clockRuns 117 rfl rfl) (by decide) (by omega) (fun c112 => ?_) (fun c112 => ?_)
              · refine zj_iload_n (zdk ttX11_clockRuns 126 rfl rfl) rfl ?_
                refine zj_if_le (t := 225) (zdk ttX11_clockRuns 127 rfl rfl) (by decide) (by omega) (fun c113 => ?_) (fun c113 => ?_)
                · refine zj_iload_n (zdk ttX11_clockRuns 135 rfl rfl) rfl ?_
                  have f116 : zfr [] [1, 6] h h63 := zfr_wa f18 e64 rfl
                  have f115 : zfr [] [1, 6] h h69 := zfr_wa f116 e70 rfl
                  have f114 : zfr [] [1, 6] h h107 := zfr_t f115 f111 rfl rfl
                  exact zj_iret rfl (zdk ttX11_clockRuns 136 rfl rfl) (Nat.le_refl _) (Nat.le_refl _) ⟨x14, rfl, by omega, s109, f114, (by intro E th x t0 w0; obtain ⟨t1, s1, kl⟩ := u54 E th x t0 w0; have q4 := zY_r t0 (k := 4) (by decide) (by decide); have zn : zwp (-(h.2 1 4)) = -(h.2 1 4) := zwp_s (by omega); have kn : x15 = v9 := (by omega); rw [kn] at t1; have mi : fMi x.1 = (-v9) := ((fMi_n (w := h.2 1 4) (n := v9) q4.symm (by omega) (by omega)).2 (by omega)); have zs : zss (x.1 3) (fMi x.1).toNat = x14 := (by rw [mi]; rw [show ((-v9)).toNat = 0 by omega]; exact s1.symm); have r4 : h16.2 1 4 = x.1 4 := (zY_r t1 (k := 4) (by decide) (by decide)).trans (fMv_o x.1 (-v9) (k := 4) (by decide) (by decide)); have r5 : h16.2 1 5 = x.1 5 := (zY_r t1 (k := 5) (by decide) (by decide)).trans (fMv_o x.1 (-v9) (k := 5) (by decide) (by decide)); have t2 := zY_w (k := 4) (u := zwp (x.1 4 - (-v9))) t1 e64 (by decide) (by rw [r4, Int.sub_neg]) (by omega) (by omega) (by omega) (by omega); have t3 := zY_w (k := 5) (u := zwp (x.1 5 + zss (x.1 3) ((-v9)).toNat)) t2 e70 (by decide) (by rw [r5, ← mi, zs]) (by omega) (by omega) (by omega) (by omega); have t4 : zY h69 E th (fC1 x.1, x.2) := (by rw [fC1_e mi]; exact t3); have c3 : h69.2 1 3 = fC1 x.1 3 := zY_r t4 (k := 3) (by decide) (by decide); rw [mi] at zs; have w1 := u110 E th _ t4; refine ⟨?_, by rw [mi]; exact zs.symm⟩; rw [fCl_e mi zs]; rw [if_neg (show ¬ (-v9) < 0 by omega), if_neg (show ¬ (-v9) = 0 by omega)]; rw [if_pos (show 0 < x14 by omega)]; exact w1)⟩
                · refine zj_iload_n (zdk ttX11_clockRuns 128 rfl rfl) rfl ?_
                  refine zj_if_ne (t := 225) (zdk ttX11_clockRuns 129 rfl rfl) (by decide) (by decide) (fun c117 => ?_) (fun c117 => ?_)
                  · exact absurd c117 (by omega)
                  · refine zj_aload_n (zdk ttX11_clockRuns 130 rfl rfl) rfl (by decide) ?_
                    refine zj_iconst (zdk ttX11_clockRuns 131 rfl rfl) ?_
                    refine zj_iconst (zdk ttX11_clockRuns 132 rfl rfl) ?_
                    refine zj_iload_n (zdk ttX11_clockRuns 133 rfl rfl) rfl ?_
                    refine zj_callV (av := [.inl 4, .inl (-1), .inl v9]) (st := []) (zdk ttX11_clockRuns 134 rfl rfl) mb_X11_notes mv_RX11_337 (ci := 11) rfl rfl (k_M s109) rfl rfl (Nat.le_of_ble_eq_true rfl) (s2_X11_notes l h107 4 (-1) v9 s109 (by omega) (by omega) (by omega)) (rm_ok (by decide) (by decide)) (zq_v fun h120 q118 => ?_)
                    obtain ⟨s122, f124, u123⟩ := q118
                    refine zj_iload_n (zdk ttX11_clockRuns 135 rfl rfl) rfl ?_
                    have f128 : zfr [] [1, 6] h h63 := zfr_wa f18 e64 rfl
                    have f127 : zfr [] [1, 6] h h69 := zfr_wa f128 e70 rfl
                    have f126 : zfr [] [1, 6] h h107 := zfr_t f127 f111 rfl rfl
                    have f125 : zfr [] [1, 6] h h120 := zfr_t f126 f124 rfl rfl
                    exact zj_iret rfl (zdk ttX11_clockRuns 136 rfl rfl) (Nat.le_refl _) (Nat.le_refl _) ⟨x14, rfl, by omega, s122, f125, (by intro E th x t0 w0; obtain ⟨t1, s1, kl⟩ := u54 E th x t0 w0; have q4 := zY_r t0 (k := 4) (by decide) (by decide); have zn : zwp (-(h.2 1 4)) = -(h.2 1 4) := zwp_s (by omega); have kn : x15 = v9 := (by omega); rw [kn] at t1; have mi : fMi x.1 = (-v9) := ((fMi_n (w := h.2 1 4) (n := v9) q4.symm (by omega) (by omega)).2 (by omega)); have zs : zss (x.1 3) (fMi x.1).toNat = x14 := (by rw [mi]; rw [show ((-v9)).toNat = 0 by omega]; exact s1.symm); have r4 : h16.2 1 4 = x.1 4 := (zY_r t1 (k := 4) (by decide) (by decide)).trans (fMv_o x.1 (-v9) (k := 4) (by decide) (by decide)); have r5 : h16.2 1 5 = x.1 5 := (zY_r t1 (k := 5) (by decide) (by decide)).trans (fMv_o x.1 (-v9) (k := 5) (by decide) (by decide)); have t2 := zY_w (k := 4) (u := zwp (x.1 4 - (-v9))) t1 e64 (by decide) (by rw [r4, Int.sub_neg]) (by omega) (by omega) (by omega) (by omega); have t3 := zY_w (k := 5) (u := zwp (x.1 5 + zss (x.1 3) ((-v9)).toNat)) t2 e70 (by decide) (by rw [r5, ← mi, zs]) (by omega) (by omega) (by omega) (by omega); have t4 : zY h69 E th (fC1 x.1, x.2) := (by rw [fC1_e mi]; exact t3); have c3 : h69.2 1 3 = fC1 x.1 3 := zY_r t4 (k := 3) (by decide) (by decide); rw [mi] at zs; have w1 := u110 E th _ t4; have w2 := u123 E th _ w1; refine ⟨?_, by rw [mi]; exact zs.symm⟩; rw [fCl_e mi zs]; rw [if_pos (show (-v9) < 0 by omega), if_neg (show ¬ (-v9) = 0 by omega)]; rw [if_pos (show 0 < x14 by omega)]; rw [show -((-v9)) = v9 by omega]; exact w2)⟩
              · refine zj_aload_n (zdk ttX11_clockRuns 118 rfl rfl) rfl (by decide) ?_
                refine zj_iconst (zdk ttX11_clockRuns 119 rfl rfl) ?_
                refine zj_iconst (zdk ttX11_clockRuns 120 rfl rfl) ?_
                refine zj_aload_n (zdk ttX11_clockRuns 121 rfl rfl) rfl (by decide) ?_
                refine zj_getr (r := 1) (zdk ttX11_clockRuns 122 rfl rfl) zf_RX11_7 rfl (k_M s109) (rfM_1 s109) ?_
                refine zj_iconst (zdk ttX11_clockRuns 123 rfl rfl) ?_
                have b130 : -2147483648 ≤ (h107.2 1 3) ∧ (h107.2 1 3) ≤ 2147483647 := (rM_b s109 1 3 (by omega)).1
                refine zj_iald (v := (h107.2 1 3)) (zdk ttX11_clockRuns 124 rfl rfl) (kaM_1 s109) (by decide) (by omega) rfl ?_
                refine zj_callV (av := [.inl 3, .inl (-1), .inl (h107.2 1 3)]) (st := []) (zdk ttX11_clockRuns 125 rfl rfl) mb_X11_notes mv_RX11_337 (ci := 11) rfl rfl (k_M s109) rfl rfl (Nat.le_of_ble_eq_true rfl) (s2_X11_notes l h107 3 (-1) (h107.2 1 3) s109 (by omega) (by omega) (by omega)) (rm_ok (by decide) (by decide)) (zq_v fun h133 q131 => ?_)
                obtain ⟨s135, f137, u136⟩ := q131
                refine zj_iload_n (zdk ttX11_clockRuns 126 rfl rfl) rfl ?_
                refine zj_if_le (t := 225) (zdk ttX11_clockRuns 127 rfl rfl) (by decide) (by omega) (fun c138 => ?_) (fun c138 => ?_)
                · refine zj_iload_n (zdk ttX11_clockRuns 135 rfl rfl) rfl ?_
                  have f142 : zfr [] [1, 6] h h63 := zfr_wa f18 e64 rfl
                  have f141 : zfr [] [1, 6] h h69 := zfr_wa f142 e70 rfl
                  have f140 : zfr [] [1, 6] h h107 := zfr_t f141 f111 rfl rfl
                  have f139 : zfr [] [1, 6] h h133 := zfr_t f140 f137 rfl rfl
                  exact zj_iret rfl (zdk ttX11_clockRuns 136 rfl rfl) (Nat.le_refl _) (Nat.le_refl _) ⟨x14, rfl, by omega, s135, f139, (by intro E th x t0 w0; obtain ⟨t1, s1, kl⟩ := u54 E th x t0 w0; have q4 := zY_r t0 (k := 4) (by decide) (by decide); have zn : zwp (-(h.2 1 4)) = -(h.2 1 4) := zwp_s (by omega); have kn : x15 = v9 := (by omega); rw [kn] at t1; have mi : fMi x.1 = (-v9) := ((fMi_n (w := h.2 1 4) (n := v9) q4.symm (by omega) (by omega)).2 (by omega)); have zs : zss (x.1 3) (fMi x.1).toNat = x14 := (by rw [mi]; rw [show ((-v9)).toNat = 0 by omega]; exact s1.symm); have r4 : h16.2 1 4 = x.1 4 := (zY_r t1 (k := 4) (by decide) (by decide)).trans (fMv_o x.1 (-v9) (k := 4) (by decide) (by decide)); have r5 : h16.2 1 5 = x.1 5 := (zY_r t1 (k := 5) (by decide) (by decide)).trans (fMv_o x.1 (-v9) (k := 5) (by decide) (by decide)); have t2 := zY_w (k := 4) (u := zwp (x.1 4 - (-v9))) t1 e64 (by decide) (by rw [r4, Int.sub_neg]) (by omega) (by omega) (by omega) (by omega); have t3 := zY_w (k := 5) (u := zwp (x.1 5 + zss (x.1 3) ((-v9)).toNat)) t2 e70 (by decide) (by rw [r5, ← mi, zs]) (by omega) (by omega) (by omega) (by omega); have t4 : zY h69 E th (fC1 x.1, x.2) := (by rw [fC1_e mi]; exact t3); have c3 : h69.2 1 3 = fC1 x.1 3 := zY_r t4 (k := 3) (by decide) (by decide); rw [mi] at zs; have w1 := u110 E th _ t4; have w2 := u136 E th _ w1; have c9 : (h107.2 1 3) = ((if 0 < x14 then fNt th (fC1 x.1, x.2) 2 (-1) x14 else (fC1 x.1, x.2))).1 3 := (by rw [fNt_i th _ _ _ _ (by decide)]; show (h107.2 1 3) = fC1 x.1 3; omega); rw [c9] at w2; refine ⟨?_, by rw [mi]; exact zs.symm⟩; rw [fCl_e mi zs]; rw [if_neg (show ¬ (-v9) < 0 by omega), if_pos (show (-v9) = 0 by omega)]; rw [if_pos (show 0 < x14 by omega)] at w2; rw [if_pos (show 0 < x14 by omega)]; exact w2)⟩
                · exact absurd c138 (by omega)
          · exact absurd c61 (by omega)
        · refine zj_aload_n (zdk ttX11_clockRuns 26 rfl rfl) rfl (by decide) ?_
          refine zj_getr (r := 1) (zdk ttX11_clockRuns 27 rfl rfl) zf_RX11_7 rfl (k_M s17) (rfM_1 s17) ?_
          refine zj_iconst (zdk ttX11_clockRuns 28 rfl rfl) ?_
          have b144 : -2147483648 ≤ (h16.2 1 3) ∧ (h16.2 1 3) ≤ 2147483647 := (rM_b s17 1 3 (by omega)).1
          refine zj_iald (v := (h16.2 1 3)) (zdk ttX11_clockRuns 29 rfl rfl) (kaM_1 s17) (by decide) (by omega) rfl ?_
          refine zj_iload_n (zdk ttX11_clockRuns 30 rfl rfl) rfl ?_
          refine zj_if_eq (t := 58) (zdk ttX11_clockRuns 31 rfl rfl) (by decide) (by decide) (fun c145 => ?_) (fun c145 => ?_)
          · refine zj_iconst (zdk ttX11_clockRuns 34 rfl rfl) ?_
            refine zj_iadd (zdk ttX11_clockRuns 35 rfl rfl) ?_
            refine zj_wrap ?_
            have b146 := zwp_in ((h16.2 1 3) + (-1))
            refine zj_istore (L' := [some (.inr 0), some (.inl v9), some (.inl 0), some (.inl x14), some (.inl x15), some (.inl (zwp ((h16.2 1 3) + (-1))))]) (zdk ttX11_clockRuns 36 rfl rfl) (by decide) rfl ?_
            refine zj_iload (zdk ttX11_clockRuns 37 rfl rfl) rfl ?_
            refine zj_sipush (zdk ttX11_clockRuns 38 rfl rfl) (by decide) ?_
            refine zj_icmp_ne (t := 86) (zdk ttX11_clockRuns 39 rfl rfl) (by decide) (by omega) (by decide) (fun c147 => ?_) (fun c147 => ?_)
            · refine zj_iload (zdk ttX11_clockRuns 50 rfl rfl) rfl ?_
              refine zj_if_ge (t := 107) (zdk ttX11_clockRuns 51 rfl rfl) (by decide) (by omega) (fun c148 => ?_) (fun c148 => ?_)
              · refine zj_aload_n (zdk ttX11_clockRuns 62 rfl rfl) rfl (by decide) ?_
                refine zj_getr (r := 1) (zdk ttX11_clockRuns 63 rfl rfl) zf_RX11_7 rfl (k_M s17) (rfM_1 s17) ?_
                refine zj_iconst (zdk ttX11_clockRuns 64 rfl rfl) ?_
                refine zj_iload (zdk ttX11_clockRuns 65 rfl rfl) rfl ?_
                refine zj_sipush (zdk ttX11_clockRuns 66 rfl rfl) (by decide) ?_
                refine zj_iadd (zdk ttX11_clockRuns 67 rfl rfl) ?_
                refine zj_wrap ?_
                have b149 := zwp_in ((zwp ((h16.2 1 3) + (-1))) + 720)
                refine zj_sipush (zdk ttX11_clockRuns 68 rfl rfl) (by decide) ?_
                refine zj_irem (zdk ttX11_clockRuns 69 rfl rfl) (by omega) (by decide) (by omega) ?_
                have b150 := ztm_c (zwp ((zwp ((h16.2 1 3) + (-1))) + 720)) 720 (by decide)
                refine zj_iast (zdk ttX11_clockRuns 70 rfl rfl) (kaM_1 s17) (by decide) (by omega) (fun h151 e152 => ?_)
                refine zj_iload_n (zdk ttX11_clockRuns 71 rfl rfl) rfl ?_
                refine zj_if_eq (t := 140) (zdk ttX11_clockRuns 72 rfl rfl) (by decide) (by decide) (fun c153 => ?_) (fun c153 => ?_)
                · refine zj_iinc (L' := [some (.inr 0), some (.inl v9), some (.inl 0), some (.inl x14), some (.inl (x15 + 1)), some (.inl (zwp ((h16.2 1 3) + (-1))))]) (zdk ttX11_clockRuns 82 rfl rfl) rfl (by decide) rfl ?_
                  refine zj_goto (t := 38) (zdk ttX11_clockRuns 83 rfl rfl) (by decide) ?_
                  refine zj_kill (k := 5) (L' := [some (.inr 0), some (.inl v9), some (.inl 0), some (.inl x14), some (.inl (x15 + 1)), none]) rfl ?_
                  have s154 : okM h151 := okM_wr s17 e152 (by decide) (by omega) (by omega)
                  have f155 : zfr [] [1, 6] h h151 := zfr_wa f18 e152 rfl
                  exact ih57  x14 (x15 + 1) h151 (by omega) (by omega) s154 f155 (by intro E th x t0 w0; obtain ⟨t1, s1, kl⟩ := u54 E th x t0 w0; have k3 := t0.2.1.1; have r3 : h16.2 1 3 = (x.1 3 + (-x15)) % 720 := (zY_r t1 (k := 3) (by decide) (by decide)).trans (fMv_3 _ _); have r6 : h16.2 1 6 = zwp (x.1 6 + (x.1 3 + (-x15)) / 720) := (zY_r t1 (k := 6) (by decide) (by decide)).trans (fMv_6 _ _); have z1 : zwp ((h16.2 1 3) + 1) = (h16.2 1 3) + 1 := zwp_s (by omega); have z2 : zwp ((h16.2 1 3) + (-1)) = (h16.2 1 3) + (-1) := zwp_s (by omega); have z3 : zwp (zwp ((h16.2 1 3) + 1) + 720) = (h16.2 1 3) + 1 + 720 := (by rw [z1]; exact zwp_s (by omega)); have z4 : zwp (zwp ((h16.2 1 3) + (-1)) + 720) = (h16.2 1 3) + (-1) + 720 := (by rw [z2]; exact zwp_s (by omega)); have t3 := zY_w (k := 3) (u := (x.1 3 + (-(x15 + 1))) % 720) t1 e152 (by decide) (by omega) (by omega) (by omega) (by omega) (by omega); rw [fMv_t (by omega) rfl] at t3; exact ⟨t3, s1, by omega⟩) (by omega) (by omega)
                · exact absurd c153 (by omega)
              · refine zj_aload_n (zdk ttX11_clockRuns 52 rfl rfl) rfl (by decide) ?_
                refine zj_getr (r := 1) (zdk ttX11_clockRuns 53 rfl rfl) zf_RX11_7 rfl (k_M s17) (rfM_1 s17) ?_
                refine zj_bipush (zdk ttX11_clockRuns 54 rfl rfl) (by decide) ?_
                refine zj_aload_n (zdk ttX11_clockRuns 55 rfl rfl) rfl (by decide) ?_
                refine zj_getr (r := 1) (zdk ttX11_clockRuns 56 rfl rfl) zf_RX11_7 rfl (k_M s17) (rfM_1 s17) ?_
                refine zj_bipush (zdk ttX11_clockRuns 57 rfl rfl) (by decide) ?_
                have b157 : -2147483648 ≤ (h16.2 1 6) ∧ (h16.2 1 6) ≤ 2147483647 := (rM_b s17 1 6 (by omega)).1
                refine zj_iald (v := (h16.2 1 6)) (zdk ttX11_clockRuns 58 rfl rfl) (kaM_1 s17) (by decide) (by omega) rfl ?_
                refine zj_iconst (zdk ttX11_clockRuns 59 rfl rfl) ?_
                refine zj_isub (zdk ttX11_clockRuns 60 rfl rfl) ?_
                refine zj_wrap ?_
                have b158 := zwp_in ((h16.2 1 6) - 1)
                refine zj_iast (zdk ttX11_clockRuns 61 rfl rfl) (kaM_1 s17) (by decide) (by omega) (fun h159 e160 => ?_)
                refine zj_aload_n (zdk ttX11_clockRuns 62 rfl rfl) rfl (by decide) ?_
                have s161 : okM h159 := okM_wr s17 e160 (by decide) (by omega) (by omega)
                refine zj_getr (r := 1) (zdk ttX11_clockRuns 63 rfl rfl) zf_RX11_7 rfl (k_M s161) (rfM_1 s161) ?_
                refine zj_iconst (zdk ttX11_clockRuns 64 rfl rfl) ?_
                refine zj_iload (zdk ttX11_clockRuns 65 rfl rfl) rfl ?_
                refine zj_sipush (zdk ttX11_clockRuns 66 rfl rfl) (by decide) ?_
                refine zj_iadd (zdk ttX11_clockRuns 67 rfl rfl) ?_
                refine zj_sipush (zdk ttX11_clockRuns 68 rfl rfl) (by decide) ?_
                refine zj_irem (zdk ttX11_clockRuns 69 rfl rfl) (by omega) (by decide) (by omega) ?_
                have b162 := ztm_c ((zwp ((h16.2 1 3) + (-1))) + 720) 720 (by decide)
                refine zj_iast (zdk ttX11_clockRuns 70 rfl rfl) (kaM_1 s161) (by decide) (by omega) (fun h163 e164 => ?_)
                refine zj_iload_n (zdk ttX11_clockRuns 71 rfl rfl) rfl ?_
                refine zj_if_eq (t := 140) (zdk ttX11_clockRuns 72 rfl rfl) (by decide) (by decide) (fun c165 => ?_) (fun c165 => ?_)
                · refine zj_iinc (L' := [some (.inr 0), some (.inl v9), some (.inl 0), some (.inl x14), some (.inl (x15 + 1)), some (.inl (zwp ((h16.2 1 3) + (-1))))]) (zdk ttX11_clockRuns 82 rfl rfl) rfl (by decide) rfl ?_
                  refine zj_goto (t := 38) (zdk ttX11_clockRuns 83 rfl rfl) (by decide) ?_
                  refine zj_kill (k := 5) (L' := [some (.inr 0), some (.inl v9), some (.inl 0), some (.inl x14), some (.inl (x15 + 1)), none]) rfl ?_
                  have s166 : okM h163 := okM_wr s161 e164 (by decide) (by omega) (by omega)
                  have f168 : zfr [] [1, 6] h h159 := zfr_wa f18 e160 rfl
                  have f167 : zfr [] [1, 6] h h163 := zfr_wa f168 e164 rfl
                  exact ih57  x14 (x15 + 1) h163 (by omega) (by omega) s166 f167 (by intro E th x t0 w0; obtain ⟨t1, s1, kl⟩ := u54 E th x t0 w0; have k3 := t0.2.1.1; have r3 : h16.2 1 3 = (x.1 3 + (-x15)) % 720 := (zY_r t1 (k := 3) (by decide) (by decide)).trans (fMv_3 _ _); have r6 : h16.2 1 6 = zwp (x.1 6 + (x.1 3 + (-x15)) / 720) := (zY_r t1 (k := 6) (by decide) (by decide)).trans (fMv_6 _ _); have z1 : zwp ((h16.2 1 3) + 1) = (h16.2 1 3) + 1 := zwp_s (by omega); have z2 : zwp ((h16.2 1 3) + (-1)) = (h16.2 1 3) + (-1) := zwp_s (by omega); have z3 : zwp (zwp ((h16.2 1 3) + 1) + 720) = (h16.2 1 3) + 1 + 720 := (by rw [z1]; exact zwp_s (by omega)); have z4 : zwp (zwp ((h16.2 1 3) + (-1)) + 720) = (h16.2 1 3) + (-1) + 720 := (by rw [z2]; exact zwp_s (by omega)); have uu : (zwp ((h16.2 1 6) - 1)) = zwp (x.1 6 + (x.1 3 + (-(x15 + 1))) / 720) := (by rw [r6, zwp_m, show x.1 6 + (x.1 3 + (-x15)) / 720 - 1 = x.1 6 + (x.1 3 + (-(x15 + 1))) / 720 by omega]); have t2 := zY_w (k := 6) t1 e160 (by decide) uu (by omega) (by omega) (by omega) (by omega); have t3 := zY_w (k := 3) (u := (x.1 3 + (-(x15 + 1))) % 720) t2 e164 (by decide) (by omega) (by omega) (by omega) (by omega) (by omega); rw [fMv_u rfl rfl] at t3; exact ⟨t3, s1, by omega⟩) (by omega) (by omega)
                · exact absurd c165 (by omega)
            · refine zj_aload_n (zdk ttX11_clockRuns 40 rfl rfl) rfl (by decide) ?_
              refine zj_getr (r := 1) (zdk ttX11_clockRuns 41 rfl rfl) zf_RX11_7 rfl (k_M s17) (rfM_1 s17) ?_
              refine zj_bipush (zdk ttX11_clockRuns 42 rfl rfl) (by decide) ?_
              refine zj_aload_n (zdk ttX11_clockRuns 43 rfl rfl) rfl (by decide) ?_
              refine zj_getr (r := 1) (zdk ttX11_clockRuns 44 rfl rfl) zf_RX11_7 rfl (k_M s17) (rfM_1 s17) ?_
              refine zj_bipush (zdk ttX11_clockRuns 45 rfl rfl) (by decide) ?_
              have b170 : -2147483648 ≤ (h16.2 1 6) ∧ (h16.2 1 6) ≤ 2147483647 := (rM_b s17 1 6 (by omega)).1
              refine zj_iald (v := (h16.2 1 6)) (zdk ttX11_clockRuns 46 rfl rfl) (kaM_1 s17) (by decide) (by omega) rfl ?_
              refine zj_iconst (zdk ttX11_clockRuns 47 rfl rfl) ?_
              refine zj_iadd (zdk ttX11_clockRuns 48 rfl rfl) ?_
              refine zj_wrap ?_
              have b171 := zwp_in ((h16.2 1 6) + 1)
              refine zj_iast (zdk ttX11_clockRuns 49 rfl rfl) (kaM_1 s17) (by decide) (by omega) (fun h172 e173 => ?_)
              refine zj_iload (zdk ttX11_clockRuns 50 rfl rfl) rfl ?_
              refine zj_if_ge (t := 107) (zdk ttX11_clockRuns 51 rfl rfl) (by decide) (by omega) (fun c174 => ?_) (fun c174 => ?_)
              · refine zj_aload_n (zdk ttX11_clockRuns 62 rfl rfl) rfl (by decide) ?_
                have s175 : okM h172 := okM_wr s17 e173 (by decide) (by omega) (by omega)
                refine zj_getr (r := 1) (zdk ttX11_clockRuns 63 rfl rfl) zf_RX11_7 rfl (k_M s175) (rfM_1 s175) ?_
                refine zj_iconst (zdk ttX11_clockRuns 64 rfl rfl) ?_
                refine zj_iload (zdk ttX11_clockRuns 65 rfl rfl) rfl ?_
                refine zj_sipush (zdk ttX11_clockRuns 66 rfl rfl) (by decide) ?_
                refine zj_iadd (zdk ttX11_clockRuns 67 rfl rfl) ?_
                refine zj_sipush (zdk ttX11_clockRuns 68 rfl rfl) (by decide) ?_
                refine zj_iremP (zdk ttX11_clockRuns 69 rfl rfl) (by omega) (by omega) ?_
                refine zj_iast (zdk ttX11_clockRuns 70 rfl rfl) (kaM_1 s175) (by decide) (by omega) (fun h176 e177 => ?_)
                refine zj_iload_n (zdk ttX11_clockRuns 71 rfl rfl) rfl ?_
                refine zj_if_eq (t := 140) (zdk ttX11_clockRuns 72 rfl rfl) (by decide) (by decide) (fun c178 => ?_) (fun c178 => ?_)
                · refine zj_iinc (L' := [some (.inr 0), some (.inl v9), some (.inl 0), some (.inl x14), some (.inl (x15 + 1)), some (.inl (zwp ((h16.2 1 3) + (-1))))]) (zdk ttX11_clockRuns 82 rfl rfl) rfl (by decide) rfl ?_
                  refine zj_goto (t := 38) (zdk ttX11_clockRuns 83 rfl rfl) (by decide) ?_
                  refine zj_kill (k := 5) (L' := [some (.inr 0), some (.inl v9), some (.inl 0), some (.inl x14), some (.inl (x15 + 1)), none]) rfl ?_
                  have s179 : okM h176 := okM_wr s175 e177 (by decide) (by omega) (by omega)
                  have f181 : zfr [] [1, 6] h h172 := zfr_wa f18 e173 rfl
                  have f180 : zfr [] [1, 6] h h176 := zfr_wa f181 e177 rfl
                  exact ih57  x14 (x15 + 1) h176 (by omega) (by omega) s179 f180 (by intro E th x t0 w0; obtain ⟨t1, s1, kl⟩ := u54 E th x t0 w0; have k3 := t0.2.1.1; have r3 : h16.2 1 3 = (x.1 3 + (-x15)) % 720 := (zY_r t1 (k := 3) (by decide) (by decide)).trans (fMv_3 _ _); have r6 : h16.2 1 6 = zwp (x.1 6 + (x.1 3 + (-x15)) / 720) := (zY_r t1 (k := 6) (by decide) (by decide)).trans (fMv_6 _ _); have z1 : zwp ((h16.2 1 3) + 1) = (h16.2 1 3) + 1 := zwp_s (by omega); have z2 : zwp ((h16.2 1 3) + (-1)) = (h16.2 1 3) + (-1) := zwp_s (by omega); have z3 : zwp (zwp ((h16.2 1 3) + 1) + 720) = (h16.2 1 3) + 1 + 720 := (by rw [z1]; exact zwp_s (by omega)); have z4 : zwp (zwp ((h16.2 1 3) + (-1)) + 720) = (h16.2 1 3) + (-1) + 720 := (by rw [z2]; exact zwp_s (by omega)); exfalso; omega) (by omega) (by omega)
                · exact absurd c178 (by omega)
              · exact absurd c174 (by omega)
          · exact absurd c145 (by omega)
    have b183 : -2147483648 ≤ (h.2 1 6) ∧ (h.2 1 6) ≤ 2147483647 := (rM_b s0 1 6 (by omega)).1
    exact lp51 _ 0 0 h (by omega) (by omega) s0 (zfr_r _ _ _) (by intro E th x t0 w0; have r6 := zY_r t0 (k := 6) (by decide) (by decide); have r4 := zY_r t0 (k := 4) (by decide) (by decide); have k3 := t0.2.1.1; have zn : zwp (-(h.2 1 4)) = -(h.2 1 4) := zwp_s (by omega); refine ⟨?_, rfl, by omega⟩; rw [show -(0 : Int) = 0 by decide, fMv_0 (by omega) (by omega)]; exact t0) (by omega) (Nat.lt_succ_self _)
  · refine zj_iconst (zdk ttX11_clockRuns 15 rfl rfl) ?_
    refine zj_goto (t := 32) (zdk ttX11_clockRuns 16 rfl rfl) (by decide) ?_
    refine zj_istore_n (L' := [some (.inr 0), some (.inl v9), some (.inl 1), none, none, none]) (zdk ttX11_clockRuns 18 rfl rfl) (by decide) rfl ?_
    refine zj_iconst (zdk ttX11_clockRuns 19 rfl rfl) ?_
    refine zj_istore_n (L' := [some (.inr 0), some (.inl v9), some (.inl 1), some (.inl 0), none, none]) (zdk ttX11_clockRuns 20 rfl rfl) (by decide) rfl ?_
    refine zj_iconst (zdk ttX11_clockRuns 21 rfl rfl) ?_
    refine zj_istore (L' := [some (.inr 0), some (.inl v9), some (.inl 1), some (.inl 0), some (.inl 0), none]) (zdk ttX11_clockRuns 22 rfl rfl) (by decide) rfl ?_
    have lp239 : ∀ (n38 : Nat) (x184 x185 : Int) (h186 : zM), (-17280 ≤ x184 ∧ x184 ≤ 17280) → (0 ≤ x185 ∧ x185 ≤ 1440) → okM h186 → zfr [] [1, 6] h h186 → (∀ E th x, zY h E th x → (-2147483647 ≤ x.1 4 ∧ x.1 4 ≤ 2147483647) → zY h186 E th (fMv x.1 x185, x.2) ∧ x184 = zss (x.1 3) x185.toNat ∧ x185 ≤ v9) → (-(12 * x185) ≤ x184 ∧ x184 ≤ 12 * x185) → (1441 - x185).toNat < n38 → zJ shM l yX11_clockRuns cX11_clockRuns 6 (some .int) (rmL 2) 0 0 (q2_X11_clockRuns h) 0 0 38 [some (.inr 0), some (.inl v9), some (.inl 1), some (.inl x184), some (.inl x185), none] [] h186 := by
      intro n38
      induction n38 with
      | zero => intro x184 x185 h186 b240 b241 s187 f188 u242 u243 m244; exact absurd m244 (Nat.not_lt_zero _)
      | succ n38 ih245 =>
        intro x184 x185 h186 b240 b241 s187 f188 u242 u243 m244
        refine zj_iload (zdk ttX11_clockRuns 23 rfl rfl) rfl ?_
        refine zj_iload_n (zdk ttX11_clockRuns 24 rfl rfl) rfl ?_
        refine zj_icmp_ge (t := 146) (zdk ttX11_clockRuns 25 rfl rfl) (by decide) (by omega) (by omega) (fun c246 => ?_) (fun c246 => ?_)
        · refine zj_aload_n (zdk ttX11_clockRuns 84 rfl rfl) rfl (by decide) ?_
          refine zj_getr (r := 1) (zdk ttX11_clockRuns 85 rfl rfl) zf_RX11_7 rfl (k_M s187) (rfM_1 s187) ?_
          refine zj_iconst (zdk ttX11_clockRuns 86 rfl rfl) ?_
          refine zj_aload_n (zdk ttX11_clockRuns 87 rfl rfl) rfl (by decide) ?_
          refine zj_getr (r := 1) (zdk ttX11_clockRuns 88 rfl rfl) zf_RX11_7 rfl (k_M s187) (rfM_1 s187) ?_
          refine zj_iconst (zdk ttX11_clockRuns 89 rfl rfl) ?_
          have b248 : -2147483648 ≤ (h186.2 1 4) ∧ (h186.2 1 4) ≤ 2147483647 := (rM_b s187 1 4 (by omega)).1
          refine zj_iald (v := (h186.2 1 4)) (zdk ttX11_clockRuns 90 rfl rfl) (kaM_1 s187) (by decide) (by omega) rfl ?_
          refine zj_iload_n (zdk ttX11_clockRuns 91 rfl rfl) rfl ?_
          refine zj_if_eq (t := 166) (zdk ttX11_clockRuns 92 rfl rfl) (by decide) (by decide) (fun c249 => ?_) (fun c249 => ?_)
          · exact absurd c249 (by omega)
          · refine zj_iload_n (zdk ttX11_clockRuns 93 rfl rfl) rfl ?_
            refine zj_ineg (zdk ttX11_clockRuns 94 rfl rfl) ?_
            refine zj_wrap ?_
            have b250 := zwp_in (-v9)
            refine zj_goto (t := 167) (zdk ttX11_clockRuns 95 rfl rfl) (by decide) ?_
            refine zj_iadd (zdk ttX11_clockRuns 97 rfl rfl) ?_
            refine zj_wrap ?_
            have b251 := zwp_in ((h186.2 1 4) + (zwp (-v9)))
            refine zj_iast (zdk ttX11_clockRuns 98 rfl rfl) (kaM_1 s187) (by decide) (by omega) (fun h252 e253 => ?_)
            refine zj_aload_n (zdk ttX11_clockRuns 99 rfl rfl) rfl (by decide) ?_
            have s254 : okM h252 := okM_wr s187 e253 (by decide) (by omega) (by omega)
            refine zj_getr (r := 1) (zdk ttX11_clockRuns 100 rfl rfl) zf_RX11_7 rfl (k_M s254) (rfM_1 s254) ?_
            refine zj_iconst (zdk ttX11_clockRuns 101 rfl rfl) ?_
            refine zj_aload_n (zdk ttX11_clockRuns 102 rfl rfl) rfl (by decide) ?_
            refine zj_getr (r := 1) (zdk ttX11_clockRuns 103 rfl rfl) zf_RX11_7 rfl (k_M s254) (rfM_1 s254) ?_
            refine zj_iconst (zdk ttX11_clockRuns 104 rfl rfl) ?_
            have b256 : -2147483648 ≤ (h186.2 1 5) ∧ (h186.2 1 5) ≤ 2147483647 := (rM_b s187 1 5 (by omega)).1
            refine zj_iald (v := (h186.2 1 5)) (zdk ttX11_clockRuns 105 rfl rfl) (kaM_1 s254) (by decide) (by omega) (zwr_r e253 (by first | decide | exact (absurd ·.1 (by decide)) | exact (absurd ·.2 (by decide)) | omega)) ?_
            refine zj_iload_n (zdk ttX11_clockRuns 106 rfl rfl) rfl ?_
            refine zj_iadd (zdk ttX11_clockRuns 107 rfl rfl) ?_
            refine zj_wrap ?_
            have b257 := zwp_in ((h186.2 1 5) + x184)
            refine zj_iast (zdk ttX11_clockRuns 108 rfl rfl) (kaM_1 s254) (by decide) (by omega) (fun h258 e259 => ?_)
            refine zj_iload_n (zdk ttX11_clockRuns 109 rfl rfl) rfl ?_
            refine zj_if_le (t := 194) (zdk ttX11_clockRuns 110 rfl rfl) (by decide) (by omega) (fun c260 => ?_) (fun c260 => ?_)
            · refine zj_iload_n (zdk ttX11_clockRuns 116 rfl rfl) rfl ?_
              refine zj_if_ne (t := 210) (zdk ttX11_clockRuns 117 rfl rfl) (by decide) (by omega) (fun c261 => ?_) (fun c261 => ?_)
              · refine zj_iload_n (zdk ttX11_clockRuns 126 rfl rfl) rfl ?_
                refine zj_if_le (t := 225) (zdk ttX11_clockRuns 127 rfl rfl) (by decide) (by omega) (fun c262 => ?_) (fun c262 => ?_)
                · refine zj_iload_n (zdk ttX11_clockRuns 135 rfl rfl) rfl ?_
                  have s263 : okM h258 := okM_wr s254 e259 (by decide) (by omega) (by omega)
                  have f265 : zfr [] [1, 6] h h252 := zfr_wa f188 e253 rfl
                  have f264 : zfr [] [1, 6] h h258 := zfr_wa f265 e259 rfl
                  exact zj_iret rfl (zdk ttX11_clockRuns 136 rfl rfl) (Nat.le_refl _) (Nat.le_refl _) ⟨x184, rfl, by omega, s263, f264, (by intro E th x t0 w0; obtain ⟨t1, s1, kl⟩ := u242 E th x t0 w0; have q4 := zY_r t0 (k := 4) (by decide) (by decide); have zn : zwp (-(h.2 1 4)) = -(h.2 1 4) := zwp_s (by omega); have kn : x185 = v9 := (by omega); rw [kn] at t1 s1; have mi : fMi x.1 = v9 := ((fMi_n (w := h.2 1 4) (n := v9) q4.symm (by omega) (by omega)).1 (by omega)); have zs : zss (x.1 3) (fMi x.1).toNat = x184 := (by rw [mi]; exact s1.symm); have r4 : h186.2 1 4 = x.1 4 := (zY_r t1 (k := 4) (by decide) (by decide)).trans (fMv_o x.1 v9 (k := 4) (by decide) (by decide)); have r5 : h186.2 1 5 = x.1 5 := (zY_r t1 (k := 5) (by decide) (by decide)).trans (fMv_o x.1 v9 (k := 5) (by decide) (by decide)); have t2 := zY_w (k := 4) (u := zwp (x.1 4 - v9)) t1 e253 (by decide) (by rw [r4, zwp_r, Int.sub_eq_add_neg]) (by omega) (by omega) (by omega) (by omega); have t3 := zY_w (k := 5) (u := zwp (x.1 5 + zss (x.1 3) (v9).toNat)) t2 e259 (by decide) (by rw [r5, ← mi, zs]) (by omega) (by omega) (by omega) (by omega); have t4 : zY h258 E th (fC1 x.1, x.2) := (by rw [fC1_e mi]; exact t3); have c3 : h258.2 1 3 = fC1 x.1 3 := zY_r t4 (k := 3) (by decide) (by decide); rw [mi] at zs; refine ⟨?_, by rw [mi]; exact zs.symm⟩; rw [fCl_e mi zs]; rw [if_neg (show ¬ v9 < 0 by omega), if_neg (show ¬ v9 = 0 by omega)]; rw [if_neg (show ¬ 0 < x184 by omega)]; exact t4)⟩
                · refine zj_iload_n (zdk ttX11_clockRuns 128 rfl rfl) rfl ?_
                  refine zj_if_ne (t := 225) (zdk ttX11_clockRuns 129 rfl rfl) (by decide) (by decide) (fun c266 => ?_) (fun c266 => ?_)
                  · refine zj_iload_n (zdk ttX11_clockRuns 135 rfl rfl) rfl ?_
                    have s267 : okM h258 := okM_wr s254 e259 (by decide) (by omega) (by omega)
                    have f269 : zfr [] [1, 6] h h252 := zfr_wa f188 e253 rfl
                    have f268 : zfr [] [1, 6] h h258 := zfr_wa f269 e259 rfl
                    exact zj_iret rfl (zdk ttX11_clockRuns 136 rfl rfl) (Nat.le_refl _) (Nat.le_refl _) ⟨x184, rfl, by omega, s267, f268, (by intro E th x t0 w0; obtain ⟨t1, s1, kl⟩ := u242 E th x t0 w0; have q4 := zY_r t0 (k := 4) (by decide) (by decide); have zn : zwp (-(h.2 1 4)) = -(h.2 1 4) := zwp_s (by omega); have kn : x185 = v9 := (by omega); rw [kn] at t1 s1; have mi : fMi x.1 = v9 := ((fMi_n (w := h.2 1 4) (n := v9) q4.symm (by omega) (by omega)).1 (by omega)); have zs : zss (x.1 3) (fMi x.1).toNat = x184 := (by rw [mi]; exact s1.symm); have r4 : h186.2 1 4 = x.1 4 := (zY_r t1 (k := 4) (by decide) (by decide)).trans (fMv_o x.1 v9 (k := 4) (by decide) (by decide)); have r5 : h186.2 1 5 = x.1 5 := (zY_r t1 (k := 5) (by decide) (by decide)).trans (fMv_o x.1 v9 (k := 5) (by decide) (by decide)); have t2 := zY_w (k := 4) (u := zwp (x.1 4 - v9)) t1 e253 (by decide) (by rw [r4, zwp_r, Int.sub_eq_add_neg]) (by omega) (by omega) (by omega) (by omega); have t3 := zY_w (k := 5) (u := zwp (x.1 5 + zss (x.1 3) (v9).toNat)) t2 e259 (by decide) (by rw [r5, ← mi, zs]) (by omega) (by omega) (by omega) (by omega); have t4 : zY h258 E th (fC1 x.1, x.2) := (by rw [fC1_e mi]; exact t3); have c3 : h258.2 1 3 = fC1 x.1 3 := zY_r t4 (k := 3) (by decide) (by decide); rw [mi] at zs; refine ⟨?_, by rw [mi]; exact zs.symm⟩; rw [fCl_e mi zs]; rw [if_neg (show ¬ v9 < 0 by omega), if_neg (show ¬ v9 = 0 by omega)]; rw [if_neg (show ¬ 0 < x184 by omega)]; exact t4)⟩
                  · exact absurd c266 (by omega)
              · refine zj_aload_n (zdk ttX11_clockRuns 118 rfl rfl) rfl (by decide) ?_
                refine zj_iconst (zdk ttX11_clockRuns 119 rfl rfl) ?_
                refine zj_iconst (zdk ttX11_clockRuns 120 rfl rfl) ?_
                refine zj_aload_n (zdk ttX11_clockRuns 121 rfl rfl) rfl (by decide) ?_
                have s270 : okM h258 := okM_wr s254 e259 (by decide) (by omega) (by omega)
                refine zj_getr (r := 1) (zdk ttX11_clockRuns 122 rfl rfl) zf_RX11_7 rfl (k_M s270) (rfM_1 s270) ?_
                refine zj_iconst (zdk ttX11_clockRuns 123 rfl rfl) ?_
                have b272 : -2147483648 ≤ (h186.2 1 3) ∧ (h186.2 1 3) ≤ 2147483647 := (rM_b s187 1 3 (by omega)).1
                refine zj_iald (v := (h186.2 1 3)) (zdk ttX11_clockRuns 124 rfl rfl) (kaM_1 s270) (by decide) (by omega) ((zwr_r e259 (by first | decide | exact (absurd ·.1 (by decide)) | exact (absurd ·.2 (by decide)) | omega)).trans (zwr_r e253 (by first | decide | exact (absurd ·.1 (by decide)) | exact (absurd ·.2 (by decide)) | omega))) ?_
                refine zj_callV (av := [.inl 3, .inl (-1), .inl (h186.2 1 3)]) (st := []) (zdk ttX11_clockRuns 125 rfl rfl) mb_X11_notes mv_RX11_337 (ci := 11) rfl rfl (k_M s270) rfl rfl (Nat.le_of_ble_eq_true rfl) (s2_X11_notes l h258 3 (-1) (h186.2 1 3) s270 (by omega) (by omega) (by omega)) (rm_ok (by decide) (by decide)) (zq_v fun h275 q273 => ?_)
                obtain ⟨s277, f279, u278⟩ := q273
                refine zj_iload_n (zdk ttX11_clockRuns 126 rfl rfl) rfl ?_
                refine zj_if_le (t := 225) (zdk ttX11_clockRuns 127 rfl rfl) (by decide) (by omega) (fun c280 => ?_) (fun c280 => ?_)
                · refine zj_iload_n (zdk ttX11_clockRuns 135 rfl rfl) rfl ?_
                  have f283 : zfr [] [1, 6] h h252 := zfr_wa f188 e253 rfl
                  have f282 : zfr [] [1, 6] h h258 := zfr_wa f283 e259 rfl
                  have f281 : zfr [] [1, 6] h h275 := zfr_t f282 f279 rfl rfl
                  have b284 : h258.2 1 3 = (h186.2 1 3) := ((zwr_r e259 (by first | decide | exact (absurd ·.1 (by decide)) | exact (absurd ·.2 (by decide)) | omega)).trans (zwr_r e253 (by first | decide | exact (absurd ·.1 (by decide)) | exact (absurd ·.2 (by decide)) | omega)))
                  exact zj_iret rfl (zdk ttX11_clockRuns 136 rfl rfl) (Nat.le_refl _) (Nat.le_refl _) ⟨x184, rfl, by omega, s277, f281, (by intro E th x t0 w0; obtain ⟨t1, s1, kl⟩ := u242 E th x t0 w0; have q4 := zY_r t0 (k := 4) (by decide) (by decide); have zn : zwp (-(h.2 1 4)) = -(h.2 1 4) := zwp_s (by omega); have kn : x185 = v9 := (by omega); rw [kn] at t1 s1; have mi : fMi x.1 = v9 := ((fMi_n (w := h.2 1 4) (n := v9) q4.symm (by omega) (by omega)).1 (by omega)); have zs : zss (x.1 3) (fMi x.1).toNat = x184 := (by rw [mi]; exact s1.symm); have r4 : h186.2 1 4 = x.1 4 := (zY_r t1 (k := 4) (by decide) (by decide)).trans (fMv_o x.1 v9 (k := 4) (by decide) (by decide)); have r5 : h186.2 1 5 = x.1 5 := (zY_r t1 (k := 5) (by decide) (by decide)).trans (fMv_o x.1 v9 (k := 5) (by decide) (by decide)); have t2 := zY_w (k := 4) (u := zwp (x.1 4 - v9)) t1 e253 (by decide) (by rw [r4, zwp_r, Int.sub_eq_add_neg]) (by omega) (by omega) (by omega) (by omega); have t3 := zY_w (k := 5) (u := zwp (x.1 5 + zss (x.1 3) (v9).toNat)) t2 e259 (by decide) (by rw [r5, ← mi, zs]) (by omega) (by omega) (by omega) (by omega); have t4 : zY h258 E th (fC1 x.1, x.2) := (by rw [fC1_e mi]; exact t3); have c3 : h258.2 1 3 = fC1 x.1 3 := zY_r t4 (k := 3) (by decide) (by decide); rw [mi] at zs; have w1 := u278 E th _ t4; have c9 : (h186.2 1 3) = ((if 0 < x184 then fNt th (fC1 x.1, x.2) 2 (-1) x184 else (fC1 x.1, x.2))).1 3 := (by rw [fNt_i th _ _ _ _ (by decide)]; show (h186.2 1 3) = fC1 x.1 3; omega); rw [c9] at w1; refine ⟨?_, by rw [mi]; exact zs.symm⟩; rw [fCl_e mi zs]; rw [if_neg (show ¬ v9 < 0 by omega), if_pos (show v9 = 0 by omega)]; rw [if_neg (show ¬ 0 < x184 by omega)] at w1; rw [if_neg (show ¬ 0 < x184 by omega)]; exact w1)⟩
                · exact absurd c280 (by omega)
            · refine zj_aload_n (zdk ttX11_clockRuns 111 rfl rfl) rfl (by decide) ?_
              refine zj_iconst (zdk ttX11_clockRuns 112 rfl rfl) ?_
              refine zj_iconst (zdk ttX11_clockRuns 113 rfl rfl) ?_
              refine zj_iload_n (zdk ttX11_clockRuns 114 rfl rfl) rfl ?_
              have s285 : okM h258 := okM_wr s254 e259 (by decide) (by omega) (by omega)
              refine zj_callV (av := [.inl 2, .inl (-1), .inl x184]) (st := []) (zdk ttX11_clockRuns 115 rfl rfl) mb_X11_notes mv_RX11_337 (ci := 11) rfl rfl (k_M s285) rfl rfl (Nat.le_of_ble_eq_true rfl) (s2_X11_notes l h258 2 (-1) x184 s285 (by omega) (by omega) (by omega)) (rm_ok (by decide) (by decide)) (zq_v fun h288 q286 => ?_)
              obtain ⟨s290, f292, u291⟩ := q286
              refine zj_iload_n (zdk ttX11_clockRuns 116 rfl rfl) rfl ?_
              refine zj_if_ne (t := 210) (zdk ttX11_clockRuns 117 rfl rfl) (by decide) (by omega) (fun c293 => ?_) (fun c293 => ?_)
              · refine zj_iload_n (zdk ttX11_clockRuns 126 rfl rfl) rfl ?_
                refine zj_if_le (t := 225) (zdk ttX11_clockRuns 127 rfl rfl) (by decide) (by omega) (fun c294 => ?_) (fun c294 => ?_)
                · refine zj_iload_n (zdk ttX11_clockRuns 135 rfl rfl) rfl ?_
                  have f297 : zfr [] [1, 6] h h252 := zfr_wa f188 e253 rfl
                  have f296 : zfr [] [1, 6] h h258 := zfr_wa f297 e259 rfl
                  have f295 : zfr [] [1, 6] h h288 := zfr_t f296 f292 rfl rfl
                  exact zj_iret rfl (zdk ttX11_clockRuns 136 rfl rfl) (Nat.le_refl _) (Nat.le_refl _) ⟨x184, rfl, by omega, s290, f295, (by intro E th x t0 w0; obtain ⟨t1, s1, kl⟩ := u242 E th x t0 w0; have q4 := zY_r t0 (k := 4) (by decide) (by decide); have zn : zwp (-(h.2 1 4)) = -(h.2 1 4) := zwp_s (by omega); have kn : x185 = v9 := (by omega); rw [kn] at t1 s1; have mi : fMi x.1 = v9 := ((fMi_n (w := h.2 1 4) (n := v9) q4.symm (by omega) (by omega)).1 (by omega)); have zs : zss (x.1 3) (fMi x.1).toNat = x184 := (by rw [mi]; exact s1.symm); have r4 : h186.2 1 4 = x.1 4 := (zY_r t1 (k := 4) (by decide) (by decide)).trans (fMv_o x.1 v9 (k := 4) (by decide) (by decide)); have r5 : h186.2 1 5 = x.1 5 := (zY_r t1 (k := 5) (by decide) (by decide)).trans (fMv_o x.1 v9 (k := 5) (by decide) (by decide)); have t2 := zY_w (k := 4) (u := zwp (x.1 4 - v9)) t1 e253 (by decide) (by rw [r4, zwp_r, Int.sub_eq_add_neg]) (by omega) (by omega) (by omega) (by omega); have t3 := zY_w (k := 5) (u := zwp (x.1 5 + zss (x.1 3) (v9).toNat)) t2 e259 (by decide) (by rw [r5, ← mi, zs]) (by omega) (by omega) (by omega) (by omega); have t4 : zY h258 E th (fC1 x.1, x.2) := (by rw [fC1_e mi]; exact t3); have c3 : h258.2 1 3 = fC1 x.1 3 := zY_r t4 (k := 3) (by decide) (by decide); rw [mi] at zs; have w1 := u291 E th _ t4; refine ⟨?_, by rw [mi]; exact zs.symm⟩; rw [fCl_e mi zs]; rw [if_neg (show ¬ v9 < 0 by omega), if_neg (show ¬ v9 = 0 by omega)]; rw [if_pos (show 0 < x184 by omega)]; exact w1)⟩
                · refine zj_iload_n (zdk ttX11_clockRuns 128 rfl rfl) rfl ?_
                  refine zj_if_ne (t := 225) (zdk ttX11_clockRuns 129 rfl rfl) (by decide) (by decide) (fun c298 => ?_) (fun c298 => ?_)
                  · refine zj_iload_n (zdk ttX11_clockRuns 135 rfl rfl) rfl ?_
                    have f301 : zfr [] [1, 6] h h252 := zfr_wa f188 e253 rfl
                    have f300 : zfr [] [1, 6] h h258 := zfr_wa f301 e259 rfl
                    have f299 : zfr [] [1, 6] h h288 := zfr_t f300 f292 rfl rfl
                    exact zj_iret rfl (zdk ttX11_clockRuns 136 rfl rfl) (Nat.le_refl _) (Nat.le_refl _) ⟨x184, rfl, by omega, s290, f299, (by intro E th x t0 w0; obtain ⟨t1, s1, kl⟩ := u242 E th x t0 w0; have q4 := zY_r t0 (k := 4) (by decide) (by decide); have zn : zwp (-(h.2 1 4)) = -(h.2 1 4) := zwp_s (by omega); have kn : x185 = v9 := (by omega); rw [kn] at t1 s1; have mi : fMi x.1 = v9 := ((fMi_n (w := h.2 1 4) (n := v9) q4.symm (by omega) (by omega)).1 (by omega)); have zs : zss (x.1 3) (fMi x.1).toNat = x184 := (by rw [mi]; exact s1.symm); have r4 : h186.2 1 4 = x.1 4 := (zY_r t1 (k := 4) (by decide) (by decide)).trans (fMv_o x.1 v9 (k := 4) (by decide) (by decide)); have r5 : h186.2 1 5 = x.1 5 := (zY_r t1 (k := 5) (by decide) (by decide)).trans (fMv_o x.1 v9 (k := 5) (by decide) (by decide)); have t2 := zY_w (k := 4) (u := zwp (x.1 4 - v9)) t1 e253 (by decide) (by rw [r4, zwp_r, Int.sub_eq_add_neg]) (by omega) (by omega) (by omega) (by omega); have t3 := zY_w (k := 5) (u := zwp (x.1 5 + zss (x.1 3) (v9).toNat)) t2 e259 (by decide) (by rw [r5, ← mi, zs]) (by omega) (by omega) (by omega) (by omega); have t4 : zY h258 E th (fC1 x.1, x.2) := (by rw [fC1_e mi]; exact t3); have c3 : h258.2 1 3 = fC1 x.1 3 := zY_r t4 (k := 3) (by decide) (by decide); rw [mi] at zs; have w1 := u291 E th _ t4; refine ⟨?_, by rw [mi]; exact zs.symm⟩; rw [fCl_e mi zs]; rw [if_neg (show ¬ v9 < 0 by omega), if_neg (show ¬ v9 = 0 by omega)]; rw [if_pos (show 0 < x184 by omega)]; exact w1)⟩
                  · exact absurd c298 (by omega)
              · refine zj_aload_n (zdk ttX11_clockRuns 118 rfl rfl) rfl (by decide) ?_
                refine zj_iconst (zdk ttX11_clockRuns 119 rfl rfl) ?_
                refine zj_iconst (zdk ttX11_clockRuns 120 rfl rfl) ?_
                refine zj_aload_n (zdk ttX11_clockRuns 121 rfl rfl) rfl (by decide) ?_
                refine zj_getr (r := 1) (zdk ttX11_clockRuns 122 rfl rfl) zf_RX11_7 rfl (k_M s290) (rfM_1 s290) ?_
                refine zj_iconst (zdk ttX11_clockRuns 123 rfl rfl) ?_
                have b303 : -2147483648 ≤ (h288.2 1 3) ∧ (h288.2 1 3) ≤ 2147483647 := (rM_b s290 1 3 (by omega)).1
                refine zj_iald (v := (h288.2 1 3)) (zdk ttX11_clockRuns 124 rfl rfl) (kaM_1 s290) (by decide) (by omega) rfl ?_
                refine zj_callV (av := [.inl 3, .inl (-1), .inl (h288.2 1 3)]) (st := []) (zdk ttX11_clockRuns 125 rfl rfl) mb_X11_notes mv_RX11_337 (ci := 11) rfl rfl (k_M s290) rfl rfl (Nat.le_of_ble_eq_true rfl) (s2_X11_notes l h288 3 (-1) (h288.2 1 3) s290 (by omega) (by omega) (by omega)) (rm_ok (by decide) (by decide)) (zq_v fun h306 q304 => ?_)
                obtain ⟨s308, f310, u309⟩ := q304
                refine zj_iload_n (zdk ttX11_clockRuns 126 rfl rfl) rfl ?_
                refine zj_if_le (t := 225) (zdk ttX11_clockRuns 127 rfl rfl) (by decide) (by omega) (fun c311 => ?_) (fun c311 => ?_)
                · refine zj_iload_n (zdk ttX11_clockRuns 135 rfl rfl) rfl ?_
                  have f315 : zfr [] [1, 6] h h252 := zfr_wa f188 e253 rfl
                  have f314 : zfr [] [1, 6] h h258 := zfr_wa f315 e259 rfl
                  have f313 : zfr [] [1, 6] h h288 := zfr_t f314 f292 rfl rfl
                  have f312 : zfr [] [1, 6] h h306 := zfr_t f313 f310 rfl rfl
                  exact zj_iret rfl (zdk ttX11_clockRuns 136 rfl rfl) (Nat.le_refl _) (Nat.le_refl _) ⟨x184, rfl, by omega, s308, f312, (by intro E th x t0 w0; obtain ⟨t1, s1, kl⟩ := u242 E th x t0 w0; have q4 := zY_r t0 (k := 4) (by decide) (by decide); have zn : zwp (-(h.2 1 4)) = -(h.2 1 4) := zwp_s (by omega); have kn : x185 = v9 := (by omega); rw [kn] at t1 s1; have mi : fMi x.1 = v9 := ((fMi_n (w := h.2 1 4) (n := v9) q4.symm (by omega) (by omega)).1 (by omega)); have zs : zss (x.1 3) (fMi x.1).toNat = x184 := (by rw [mi]; exact s1.symm); have r4 : h186.2 1 4 = x.1 4 := (zY_r t1 (k := 4) (by decide) (by decide)).trans (fMv_o x.1 v9 (k := 4) (by decide) (by decide)); have r5 : h186.2 1 5 = x.1 5 := (zY_r t1 (k := 5) (by decide) (by decide)).trans (fMv_o x.1 v9 (k := 5) (by decide) (by decide)); have t2 := zY_w (k := 4) (u := zwp (x.1 4 - v9)) t1 e253 (by decide) (by rw [r4, zwp_r, Int.sub_eq_add_neg]) (by omega) (by omega) (by omega) (by omega); have t3 := zY_w (k := 5) (u := zwp (x.1 5 + zss (x.1 3) (v9).toNat)) t2 e259 (by decide) (by rw [r5, ← mi, zs]) (by omega) (by omega) (by omega) (by omega); have t4 : zY h258 E th (fC1 x.1, x.2) := (by rw [fC1_e mi]; exact t3); have c3 : h258.2 1 3 = fC1 x.1 3 := zY_r t4 (k := 3) (by decide) (by decide); rw [mi] at zs; have w1 := u291 E th _ t4; have w2 := u309 E th _ w1; have c9 : (h288.2 1 3) = ((if 0 < x184 then fNt th (fC1 x.1, x.2) 2 (-1) x184 else (fC1 x.1, x.2))).1 3 := (by rw [fNt_i th _ _ _ _ (by decide)]; show (h288.2 1 3) = fC1 x.1 3; omega); rw [c9] at w2; refine ⟨?_, by rw [mi]; exact zs.symm⟩; rw [fCl_e mi zs]; rw [if_neg (show ¬ v9 < 0 by omega), if_pos (show v9 = 0 by omega)]; rw [if_pos (show 0 < x184 by omega)] at w2; rw [if_pos (show 0 < x184 by omega)]; exact w2)⟩
                · exact absurd c311 (by omega)
        · refine zj_aload_n (zdk ttX11_clockRuns 26 rfl rfl) rfl (by decide) ?_
          refine zj_getr (r := 1) (zdk ttX11_clockRuns 27 rfl rfl) zf_RX11_7 rfl (k_M s187) (rfM_1 s187) ?_
          refine zj_iconst (zdk ttX11_clockRuns 28 rfl rfl) ?_
          have b317 : -2147483648 ≤ (h186.2 1 3) ∧ (h186.2 1 3) ≤ 2147483647 := (rM_b s187 1 3 (by omega)).1
          refine zj_iald (v := (h186.2 1 3)) (zdk ttX11_clockRuns 29 rfl rfl) (kaM_1 s187) (by decide) (by omega) rfl ?_
          refine zj_iload_n (zdk ttX11_clockRuns 30 rfl rfl) rfl ?_
          refine zj_if_eq (t := 58) (zdk ttX11_clockRuns 31 rfl rfl) (by decide) (by decide) (fun c318 => ?_) (fun c318 => ?_)
          · exact absurd c318 (by omega)
          · refine zj_iconst (zdk ttX11_clockRuns 32 rfl rfl) ?_
            refine zj_goto (t := 59) (zdk ttX11_clockRuns 33 rfl rfl) (by decide) ?_
            refine zj_iadd (zdk ttX11_clockRuns 35 rfl rfl) ?_
            refine zj_wrap ?_
            have b319 := zwp_in ((h186.2 1 3) + 1)
            refine zj_istore (L' := [some (.inr 0), some (.inl v9), some (.inl 1), some (.inl x184), some (.inl x185), some (.inl (zwp ((h186.2 1 3) + 1)))]) (zdk ttX11_clockRuns 36 rfl rfl) (by decide) rfl ?_
            refine zj_iload (zdk ttX11_clockRuns 37 rfl rfl) rfl ?_
            refine zj_sipush (zdk ttX11_clockRuns 38 rfl rfl) (by decide) ?_
            refine zj_icmp_ne (t := 86) (zdk ttX11_clockRuns 39 rfl rfl) (by decide) (by omega) (by decide) (fun c320 => ?_) (fun c320 => ?_)
            · refine zj_iload (zdk ttX11_clockRuns 50 rfl rfl) rfl ?_
              refine zj_if_ge (t := 107) (zdk ttX11_clockRuns 51 rfl rfl) (by decide) (by omega) (fun c321 => ?_) (fun c321 => ?_)
              · refine zj_aload_n (zdk ttX11_clockRuns 62 rfl rfl) rfl (by decide) ?_
                refine zj_getr (r := 1) (zdk ttX11_clockRuns 63 rfl rfl) zf_RX11_7 rfl (k_M s187) (rfM_1 s187) ?_
                refine zj_iconst (zdk ttX11_clockRuns 64 rfl rfl) ?_
                refine zj_iload (zdk ttX11_clockRuns 65 rfl rfl) rfl ?_
                refine zj_sipush (zdk ttX11_clockRuns 66 rfl rfl) (by decide) ?_
                refine zj_iadd (zdk ttX11_clockRuns 67 rfl rfl) ?_
                refine zj_wrap ?_
                have b322 := zwp_in ((zwp ((h186.2 1 3) + 1)) + 720)
                refine zj_sipush (zdk ttX11_clockRuns 68 rfl rfl) (by decide) ?_
                refine zj_irem (zdk ttX11_clockRuns 69 rfl rfl) (by omega) (by decide) (by omega) ?_
                have b323 := ztm_c (zwp ((zwp ((h186.2 1 3) + 1)) + 720)) 720 (by decide)
                refine zj_iast (zdk ttX11_clockRuns 70 rfl rfl) (kaM_1 s187) (by decide) (by omega) (fun h324 e325 => ?_)
                refine zj_iload_n (zdk ttX11_clockRuns 71 rfl rfl) rfl ?_
                refine zj_if_eq (t := 140) (zdk ttX11_clockRuns 72 rfl rfl) (by decide) (by decide) (fun c326 => ?_) (fun c326 => ?_)
                · exact absurd c326 (by omega)
                · refine zj_iload_n (zdk ttX11_clockRuns 73 rfl rfl) rfl ?_
                  refine zj_aload_n (zdk ttX11_clockRuns 74 rfl rfl) rfl (by decide) ?_
                  refine zj_aload_n (zdk ttX11_clockRuns 75 rfl rfl) rfl (by decide) ?_
                  have s327 : okM h324 := okM_wr s187 e325 (by decide) (by omega) (by omega)
                  refine zj_getr (r := 1) (zdk ttX11_clockRuns 76 rfl rfl) zf_RX11_7 rfl (k_M s327) (rfM_1 s327) ?_
                  refine zj_iconst (zdk ttX11_clockRuns 77 rfl rfl) ?_
                  refine zj_iald (v := ((zwp ((zwp ((h186.2 1 3) + 1)) + 720)).tmod 720)) (zdk ttX11_clockRuns 78 rfl rfl) (kaM_1 s327) (by decide) (by omega) (zwr_v e325) ?_
                  refine zj_callV (av := [.inl ((zwp ((zwp ((h186.2 1 3) + 1)) + 720)).tmod 720)]) (st := [.inl x184]) (zdk ttX11_clockRuns 79 rfl rfl) mb_X11_strokesAt mv_RX11_374 (ci := 11) rfl rfl (k_M s327) rfl rfl (Nat.le_of_ble_eq_true rfl) (s_X11_strokesAt l h324 ((zwp ((zwp ((h186.2 1 3) + 1)) + 720)).tmod 720) s327 (by omega)) (rm_ok (by decide) (by decide)) (zq_i fun v329 h330 q328 => ?_)
                  obtain ⟨rfl, b331⟩ := q328
                  have b332 : -35791394 ≤ v329 ∧ v329 ≤ 35791394 := by omega
                  refine zj_iadd (zdk ttX11_clockRuns 80 rfl rfl) ?_
                  refine zj_istore_n (L' := [some (.inr 0), some (.inl v9), some (.inl 1), some (.inl (x184 + v329)), some (.inl x185), some (.inl (zwp ((h186.2 1 3) + 1)))]) (zdk ttX11_clockRuns 81 rfl rfl) (by decide) rfl ?_
                  refine zj_iinc (L' := [some (.inr 0), some (.inl v9), some (.inl 1), some (.inl (x184 + v329)), some (.inl (x185 + 1)), some (.inl (zwp ((h186.2 1 3) + 1)))]) (zdk ttX11_clockRuns 82 rfl rfl) rfl (by decide) rfl ?_
                  refine zj_goto (t := 38) (zdk ttX11_clockRuns 83 rfl rfl) (by decide) ?_
                  refine zj_kill (k := 5) (L' := [some (.inr 0), some (.inl v9), some (.inl 1), some (.inl (x184 + v329)), some (.inl (x185 + 1)), none]) rfl ?_
                  have f333 : zfr [] [1, 6] h h324 := zfr_wa f188 e325 rfl
                  have b334a := ztd_c (((zwp ((zwp ((h186.2 1 3) + 1)) + 720)).tmod 720)) 60 (by decide)
                  have b334b := ztm_c (((zwp ((zwp ((h186.2 1 3) + 1)) + 720)).tmod 720)) 60 (by decide)
                  exact ih245  (x184 + v329) (x185 + 1) h324 (by omega) (by omega) s327 f333 (by intro E th x t0 w0; obtain ⟨t1, s1, kl⟩ := u242 E th x t0 w0; have k3 := t0.2.1.1; have r3 : h186.2 1 3 = (x.1 3 + x185) % 720 := (zY_r t1 (k := 3) (by decide) (by decide)).trans (fMv_3 _ _); have r6 : h186.2 1 6 = zwp (x.1 6 + (x.1 3 + x185) / 720) := (zY_r t1 (k := 6) (by decide) (by decide)).trans (fMv_6 _ _); have z1 : zwp ((h186.2 1 3) + 1) = (h186.2 1 3) + 1 := zwp_s (by omega); have z2 : zwp ((h186.2 1 3) + (-1)) = (h186.2 1 3) + (-1) := zwp_s (by omega); have z3 : zwp (zwp ((h186.2 1 3) + 1) + 720) = (h186.2 1 3) + 1 + 720 := (by rw [z1]; exact zwp_s (by omega)); have z4 : zwp (zwp ((h186.2 1 3) + (-1)) + 720) = (h186.2 1 3) + (-1) + 720 := (by rw [z2]; exact zwp_s (by omega)); have t3 := zY_w (k := 3) (u := (x.1 3 + (x185 + 1)) % 720) t1 e325 (by decide) (by omega) (by omega) (by omega) (by omega) (by omega); rw [fMv_t (by omega) rfl] at t3; have zs := zss_s (x.1 3) (k := x185) (by omega); have zk := zsk_p (t := x.1 3 + x185 + 1) (u := (x.1 3 + (x185 + 1)) % 720) (by omega); have zf := zsk_f ((x.1 3 + (x185 + 1)) % 720); have wv : ((zwp ((zwp ((h186.2 1 3) + 1)) + 720)).tmod 720) = (x.1 3 + (x185 + 1)) % 720 := (by omega); have q1 := ztm_c (((zwp ((zwp ((h186.2 1 3) + 1)) + 720)).tmod 720)) 60 (by decide); have q2 := ztd_c (((zwp ((zwp ((h186.2 1 3) + 1)) + 720)).tmod 720)) 60 (by decide); refine ⟨t3, ?_, by omega⟩; rw [zs]; omega) (by omega) (by omega)
              · refine zj_aload_n (zdk ttX11_clockRuns 52 rfl rfl) rfl (by decide) ?_
                refine zj_getr (r := 1) (zdk ttX11_clockRuns 53 rfl rfl) zf_RX11_7 rfl (k_M s187) (rfM_1 s187) ?_
                refine zj_bipush (zdk ttX11_clockRuns 54 rfl rfl) (by decide) ?_
                refine zj_aload_n (zdk ttX11_clockRuns 55 rfl rfl) rfl (by decide) ?_
                refine zj_getr (r := 1) (zdk ttX11_clockRuns 56 rfl rfl) zf_RX11_7 rfl (k_M s187) (rfM_1 s187) ?_
                refine zj_bipush (zdk ttX11_clockRuns 57 rfl rfl) (by decide) ?_
                have b336 : -2147483648 ≤ (h186.2 1 6) ∧ (h186.2 1 6) ≤ 2147483647 := (rM_b s187 1 6 (by omega)).1
                refine zj_iald (v := (h186.2 1 6)) (zdk ttX11_clockRuns 58 rfl rfl) (kaM_1 s187) (by decide) (by omega) rfl ?_
                refine zj_iconst (zdk ttX11_clockRuns 59 rfl rfl) ?_
                refine zj_isub (zdk ttX11_clockRuns 60 rfl rfl) ?_
                refine zj_wrap ?_
                have b337 := zwp_in ((h186.2 1 6) - 1)
                refine zj_iast (zdk ttX11_clockRuns 61 rfl rfl) (kaM_1 s187) (by decide) (by omega) (fun h338 e339 => ?_)
                refine zj_aload_n (zdk ttX11_clockRuns 62 rfl rfl) rfl (by decide) ?_
                have s340 : okM h338 := okM_wr s187 e339 (by decide) (by omega) (by omega)
                refine zj_getr (r := 1) (zdk ttX11_clockRuns 63 rfl rfl) zf_RX11_7 rfl (k_M s340) (rfM_1 s340) ?_
                refine zj_iconst (zdk ttX11_clockRuns 64 rfl rfl) ?_
                refine zj_iload (zdk ttX11_clockRuns 65 rfl rfl) rfl ?_
                refine zj_sipush (zdk ttX11_clockRuns 66 rfl rfl) (by decide) ?_
                refine zj_iadd (zdk ttX11_clockRuns 67 rfl rfl) ?_
                refine zj_sipush (zdk ttX11_clockRuns 68 rfl rfl) (by decide) ?_
                refine zj_irem (zdk ttX11_clockRuns 69 rfl rfl) (by omega) (by decide) (by omega) ?_
                have b341 := ztm_c ((zwp ((h186.2 1 3) + 1)) + 720) 720 (by decide)
                refine zj_iast (zdk ttX11_clockRuns 70 rfl rfl) (kaM_1 s340) (by decide) (by omega) (fun h342 e343 => ?_)
                refine zj_iload_n (zdk ttX11_clockRuns 71 rfl rfl) rfl ?_
                refine zj_if_eq (t := 140) (zdk ttX11_clockRuns 72 rfl rfl) (by decide) (by decide) (fun c344 => ?_) (fun c344 => ?_)
                · exact absurd c344 (by omega)
                · refine zj_iload_n (zdk ttX11_clockRuns 73 rfl rfl) rfl ?_
                  refine zj_aload_n (zdk ttX11_clockRuns 74 rfl rfl) rfl (by decide) ?_
                  refine zj_aload_n (zdk ttX11_clockRuns 75 rfl rfl) rfl (by decide) ?_
                  have s345 : okM h342 := okM_wr s340 e343 (by decide) (by omega) (by omega)
                  refine zj_getr (r := 1) (zdk ttX11_clockRuns 76 rfl rfl) zf_RX11_7 rfl (k_M s345) (rfM_1 s345) ?_
                  refine zj_iconst (zdk ttX11_clockRuns 77 rfl rfl) ?_
                  refine zj_iald (v := (((zwp ((h186.2 1 3) + 1)) + 720).tmod 720)) (zdk ttX11_clockRuns 78 rfl rfl) (kaM_1 s345) (by decide) (by omega) (zwr_v e343) ?_
                  refine zj_callV (av := [.inl (((zwp ((h186.2 1 3) + 1)) + 720).tmod 720)]) (st := [.inl x184]) (zdk ttX11_clockRuns 79 rfl rfl) mb_X11_strokesAt mv_RX11_374 (ci := 11) rfl rfl (k_M s345) rfl rfl (Nat.le_of_ble_eq_true rfl) (s_X11_strokesAt l h342 (((zwp ((h186.2 1 3) + 1)) + 720).tmod 720) s345 (by omega)) (rm_ok (by decide) (by decide)) (zq_i fun v347 h348 q346 => ?_)
                  obtain ⟨rfl, b349⟩ := q346
                  have b350 : -35791394 ≤ v347 ∧ v347 ≤ 35791394 := by omega
                  refine zj_iadd (zdk ttX11_clockRuns 80 rfl rfl) ?_
                  refine zj_istore_n (L' := [some (.inr 0), some (.inl v9), some (.inl 1), some (.inl (x184 + v347)), some (.inl x185), some (.inl (zwp ((h186.2 1 3) + 1)))]) (zdk ttX11_clockRuns 81 rfl rfl) (by decide) rfl ?_
                  refine zj_iinc (L' := [some (.inr 0), some (.inl v9), some (.inl 1), some (.inl (x184 + v347)), some (.inl (x185 + 1)), some (.inl (zwp ((h186.2 1 3) + 1)))]) (zdk ttX11_clockRuns 82 rfl rfl) rfl (by decide) rfl ?_
                  refine zj_goto (t := 38) (zdk ttX11_clockRuns 83 rfl rfl) (by decide) ?_
                  refine zj_kill (k := 5) (L' := [some (.inr 0), some (.inl v9), some (.inl 1), some (.inl (x184 + v347)), some (.inl (x185 + 1)), none]) rfl ?_
                  have f352 : zfr [] [1, 6] h h338 := zfr_wa f188 e339 rfl
                  have f351 : zfr [] [1, 6] h h342 := zfr_wa f352 e343 rfl
                  have b353a := ztd_c ((((zwp ((h186.2 1 3) + 1)) + 720).tmod 720)) 60 (by decide)
                  have b353b := ztm_c ((((zwp ((h186.2 1 3) + 1)) + 720).tmod 720)) 60 (by decide)
                  exact ih245  (x184 + v347) (x185 + 1) h342 (by omega) (by omega) s345 f351 (by intro E th x t0 w0; obtain ⟨t1, s1, kl⟩ := u242 E th x t0 w0; have k3 := t0.2.1.1; have r3 : h186.2 1 3 = (x.1 3 + x185) % 720 := (zY_r t1 (k := 3) (by decide) (by decide)).trans (fMv_3 _ _); have r6 : h186.2 1 6 = zwp (x.1 6 + (x.1 3 + x185) / 720) := (zY_r t1 (k := 6) (by decide) (by decide)).trans (fMv_6 _ _); have z1 : zwp ((h186.2 1 3) + 1) = (h186.2 1 3) + 1 := zwp_s (by omega); have z2 : zwp ((h186.2 1 3) + (-1)) = (h186.2 1 3) + (-1) := zwp_s (by omega); have z3 : zwp (zwp ((h186.2 1 3) + 1) + 720) = (h186.2 1 3) + 1 + 720 := (by rw [z1]; exact zwp_s (by omega)); have z4 : zwp (zwp ((h186.2 1 3) + (-1)) + 720) = (h186.2 1 3) + (-1) + 720 := (by rw [z2]; exact zwp_s (by omega)); exfalso; omega) (by omega) (by omega)
            · refine zj_aload_n (zdk ttX11_clockRuns 40 rfl rfl) rfl (by decide) ?_
              refine zj_getr (r := 1) (zdk ttX11_clockRuns 41 rfl rfl) zf_RX11_7 rfl (k_M s187) (rfM_1 s187) ?_
              refine zj_bipush (zdk ttX11_clockRuns 42 rfl rfl) (by decide) ?_
              refine zj_aload_n (zdk ttX11_clockRuns 43 rfl rfl) rfl (by decide) ?_
              refine zj_getr (r := 1) (zdk ttX11_clockRuns 44 rfl rfl) zf_RX11_7 rfl (k_M s187) (rfM_1 s187) ?_
              refine zj_bipush (zdk ttX11_clockRuns 45 rfl rfl) (by decide) ?_
              have b355 : -2147483648 ≤ (h186.2 1 6) ∧ (h186.2 1 6) ≤ 2147483647 := (rM_b s187 1 6 (by omega)).1
              refine zj_iald (v := (h186.2 1 6)) (zdk ttX11_clockRuns 46 rfl rfl) (kaM_1 s187) (by decide) (by omega) rfl ?_
              refine zj_iconst (zdk ttX11_clockRuns 47 rfl rfl) ?_
              refine zj_iadd (zdk ttX11_clockRuns 48 rfl rfl) ?_
              refine zj_wrap ?_
              have b356 := zwp_in ((h186.2 1 6) + 1)
              refine zj_iast (zdk ttX11_clockRuns 49 rfl rfl) (kaM_1 s187) (by decide) (by omega) (fun h357 e358 => ?_)
              refine zj_iload (zdk ttX11_clockRuns 50 rfl rfl) rfl ?_
              refine zj_if_ge (t := 107) (zdk ttX11_clockRuns 51 rfl rfl) (by decide) (by omega) (fun c359 => ?_) (fun c359 => ?_)
              · refine zj_aload_n (zdk ttX11_clockRuns 62 rfl rfl) rfl (by decide) ?_
                have s360 : okM h357 := okM_wr s187 e358 (by decide) (by omega) (by omega)
                refine zj_getr (r := 1) (zdk ttX11_clockRuns 63 rfl rfl) zf_RX11_7 rfl (k_M s360) (rfM_1 s360) ?_
                refine zj_iconst (zdk ttX11_clockRuns 64 rfl rfl) ?_
                refine zj_iload (zdk ttX11_clockRuns 65 rfl rfl) rfl ?_
                refine zj_sipush (zdk ttX11_clockRuns 66 rfl rfl) (by decide) ?_
                refine zj_iadd (zdk ttX11_clockRuns 67 rfl rfl) ?_
                refine zj_sipush (zdk ttX11_clockRuns 68 rfl rfl) (by decide) ?_
                refine zj_iremP (zdk ttX11_clockRuns 69 rfl rfl) (by omega) (by omega) ?_
                refine zj_iast (zdk ttX11_clockRuns 70 rfl rfl) (kaM_1 s360) (by decide) (by omega) (fun h361 e362 => ?_)
                refine zj_iload_n (zdk ttX11_clockRuns 71 rfl rfl) rfl ?_
                refine zj_if_eq (t := 140) (zdk ttX11_clockRuns 72 rfl rfl) (by decide) (by decide) (fun c363 => ?_) (fun c363 => ?_)
                · exact absurd c363 (by omega)
                · refine zj_iload_n (zdk ttX11_clockRuns 73 rfl rfl) rfl ?_
                  refine zj_aload_n (zdk ttX11_clockRuns 74 rfl rfl) rfl (by decide) ?_
                  refine zj_aload_n (zdk ttX11_clockRuns 75 rfl rfl) rfl (by decide) ?_
                  have s364 : okM h361 := okM_wr s360 e362 (by decide) (by omega) (by omega)
                  refine zj_getr (r := 1) (zdk ttX11_clockRuns 76 rfl rfl) zf_RX11_7 rfl (k_M s364) (rfM_1 s364) ?_
                  refine zj_iconst (zdk ttX11_clockRuns 77 rfl rfl) ?_
                  refine zj_iald (v := (((zwp ((h186.2 1 3) + 1)) + 720) % 720)) (zdk ttX11_clockRuns 78 rfl rfl) (kaM_1 s364) (by decide) (by omega) (zwr_v e362) ?_
                  refine zj_callV (av := [.inl (((zwp ((h186.2 1 3) + 1)) + 720) % 720)]) (st := [.inl x184]) (zdk ttX11_clockRuns 79 rfl rfl) mb_X11_strokesAt mv_RX11_374 (ci := 11) rfl rfl (k_M s364) rfl rfl (Nat.le_of_ble_eq_true rfl) (s_X11_strokesAt l h361 (((zwp ((h186.2 1 3) + 1)) + 720) % 720) s364 (by omega)) (rm_ok (by decide) (by decide)) (zq_i fun v366 h367 q365 => ?_)
                  obtain ⟨rfl, b368⟩ := q365
                  have b369 : -35791394 ≤ v366 ∧ v366 ≤ 35791394 := by omega
                  refine zj_iadd (zdk ttX11_clockRuns 80 rfl rfl) ?_
                  refine zj_istore_n (L' := [some (.inr 0), some (.inl v9), some (.inl 1), some (.inl (x184 + v366)), some (.inl x185), some (.inl (zwp ((h186.2 1 3) + 1)))]) (zdk ttX11_clockRuns 81 rfl rfl) (by decide) rfl ?_
                  refine zj_iinc (L' := [some (.inr 0), some (.inl v9), some (.inl 1), some (.inl (x184 + v366)), some (.inl (x185 + 1)), some (.inl (zwp ((h186.2 1 3) + 1)))]) (zdk ttX11_clockRuns 82 rfl rfl) rfl (by decide) rfl ?_
                  refine zj_goto (t := 38) (zdk ttX11_clockRuns 83 rfl rfl) (by decide) ?_
                  refine zj_kill (k := 5) (L' := [some (.inr 0), some (.inl v9), some (.inl 1), some (.inl (x184 + v366)), some (.inl (x185 + 1)), none]) rfl ?_
                  have f371 : zfr [] [1, 6] h h357 := zfr_wa f188 e358 rfl
                  have f370 : zfr [] [1, 6] h h361 := zfr_wa f371 e362 rfl
                  have b372a := ztd_c ((((zwp ((h186.2 1 3) + 1)) + 720) % 720)) 60 (by decide)
                  have b372b := ztm_c ((((zwp ((h186.2 1 3) + 1)) + 720) % 720)) 60 (by decide)
                  exact ih245  (x184 + v366) (x185 + 1) h361 (by omega) (by omega) s364 f370 (by intro E th x t0 w0; obtain ⟨t1, s1, kl⟩ := u242 E th x t0 w0; have k3 := t0.2.1.1; have r3 : h186.2 1 3 = (x.1 3 + x185) % 720 := (zY_r t1 (k := 3) (by decide) (by decide)).trans (fMv_3 _ _); have r6 : h186.2 1 6 = zwp (x.1 6 + (x.1 3 + x185) / 720) := (zY_r t1 (k := 6) (by decide) (by decide)).trans (fMv_6 _ _); have z1 : zwp ((h186.2 1 3) + 1) = (h186.2 1 3) + 1 := zwp_s (by omega); have z2 : zwp ((h186.2 1 3) + (-1)) = (h186.2 1 3) + (-1) := zwp_s (by omega); have z3 : zwp (zwp ((h186.2 1 3) + 1) + 720) = (h186.2 1 3) + 1 + 720 := (by rw [z1]; exact zwp_s (by omega)); have z4 : zwp (zwp ((h186.2 1 3) + (-1)) + 720) = (h186.2 1 3) + (-1) + 720 := (by rw [z2]; exact zwp_s (by omega)); have uu : (zwp ((h186.2 1 6) + 1)) = zwp (x.1 6 + (x.1 3 + (x185 + 1)) / 720) := (by rw [r6, zwp_a, show x.1 6 + (x.1 3 + x185) / 720 + 1 = x.1 6 + (x.1 3 + (x185 + 1)) / 720 by omega]); have t2 := zY_w (k := 6) t1 e358 (by decide) uu (by omega) (by omega) (by omega) (by omega); have t3 := zY_w (k := 3) (u := (x.1 3 + (x185 + 1)) % 720) t2 e362 (by decide) (by omega) (by omega) (by omega) (by omega) (by omega); rw [fMv_u rfl rfl] at t3; have zs := zss_s (x.1 3) (k := x185) (by omega); have zk := zsk_p (t := x.1 3 + x185 + 1) (u := (x.1 3 + (x185 + 1)) % 720) (by omega); have zf := zsk_f ((x.1 3 + (x185 + 1)) % 720); have wv : (((zwp ((h186.2 1 3) + 1)) + 720) % 720) = (x.1 3 + (x185 + 1)) % 720 := (by omega); have q1 := ztm_c ((((zwp ((h186.2 1 3) + 1)) + 720) % 720)) 60 (by decide); have q2 := ztd_c ((((zwp ((h186.2 1 3) + 1)) + 720) % 720)) 60 (by decide); refine ⟨t3, ?_, by omega⟩; rw [zs]; omega) (by omega) (by omega)
              · exact absurd c359 (by omega)
    have b374 : -2147483648 ≤ (h.2 1 6) ∧ (h.2 1 6) ≤ 2147483647 := (rM_b s0 1 6 (by omega)).1
    exact lp239 _ 0 0 h (by omega) (by omega) s0 (zfr_r _ _ _) (by intro E th x t0 w0; have r6 := zY_r t0 (k := 6) (by decide) (by decide); have r4 := zY_r t0 (k := 4) (by decide) (by decide); have k3 := t0.2.1.1; have zn : zwp (-(h.2 1 4)) = -(h.2 1 4) := zwp_s (by omega); refine ⟨?_, rfl, by omega⟩; rw [fMv_0 (by omega) (by omega)]; exact t0) (by omega) (Nat.lt_succ_self _)

