abbrev q2_X11_runs (h : zM) (p1 : Int) (p2 : Int) (p3 : Int) : Option zV → zM → Prop := zqi fun v h' => ((-2147483648) ≤ v ∧ v ≤ 2147483647) ∧ okM h' ∧ zfr [] [21] h h' ∧ (∀ E th x i, xRm h p2 p3 E th x i → v = fRun E x.1 i p2 p3)
set_option maxRecDepth 100000 in
set_option maxHeartbeats 4000000 in
theorem s2_X11_runs (l : Launch) (h : zM) (p1 : Int) (p2 : Int) (p3 : Int) (s0 : okM h) (b_p1 : 0 ≤ p1 ∧ p1 ≤ 0) (b_p2 : 0 ≤ p2 ∧ p2 ≤ 400) (b_p3 : 0 ≤ p3 ∧ p3 ≤ 400) (u_0 : wfS (h.2 14) (h.2 15) p2 p3) : zT shM l yX11_runs cX11_runs 6 (some .int) (rmL 2) 0 0 [.inr 0, .inl p1, .inl p2, .inl p3] h (q2_X11_runs h p1 p2 p3) := by
  refine zT_of (by decide +kernel) (L0 := [some (.inr 0), some (.inl p1), some (.inl p2), some (.inl p3), none, none]) rfl (Nat.le_of_ble_eq_true rfl) ?_
  refine zj_iconst (zdk ttX11_runs 0 rfl rfl) ?_
  refine zj_istore (L' := [some (.inr 0), some (.inl p1), some (.inl p2), some (.inl p3), some (.inl 0), none]) (zdk ttX11_runs 1 rfl rfl) (by decide) rfl ?_
  refine zj_sipush (zdk ttX11_runs 2 rfl rfl) (by decide) ?_
  refine zj_iload_n (zdk ttX11_runs 3 rfl rfl) rfl ?_
  refine zj_imul (zdk ttX11_runs 4 rfl rfl) ?_
  refine zj_iload_n (zdk ttX11_runs 5 rfl rfl) rfl ?_
  refine zj_iadd (zdk ttX11_runs 6 rfl rfl) ?_
  refine zj_istore (L' := [some (.inr 0), some (.inl p1), some (.inl p2), some (.inl p3), some (.inl 0), some (.inl ((400 * p1) + p2))]) (zdk ttX11_runs 7 rfl rfl) (by decide) rfl ?_
  have lp34 : ∀ (n12 : Nat) (x1 x2 : Int) (h3 : zM), (0 ≤ x1 ∧ x1 ≤ 400) → (0 ≤ x2 ∧ x2 ≤ 400) → okM h3 → zfr [] [21] h h3 → (zru h p2 p3 x2 x1 h3) → (p2 ≤ x2 ∧ x1 ≤ x2 - p2) → (∀ E th x i, xRm h p2 p3 E th x i → x2 ≤ p3 ∧ tSk (h3.2 21) x1.toNat = fEv (fAsk E x.1 i) (tSk E.cd x2.toNat) (x2 - p2).toNat) → (401 - x2).toNat < n12 → zJ shM l yX11_runs cX11_runs 6 (some .int) (rmL 2) 0 0 (q2_X11_runs h p1 p2 p3) 0 0 12 [some (.inr 0), some (.inl p1), some (.inl p2), some (.inl p3), some (.inl x1), some (.inl x2)] [] h3 := by
    intro n12
    induction n12 with
    | zero => intro x1 x2 h3 b35 b36 s4 f5 u37 u38 u39 m40; exact absurd m40 (Nat.not_lt_zero _)
    | succ n12 ih41 =>
      intro x1 x2 h3 b35 b36 s4 f5 u37 u38 u39 m40
      refine zj_iload (zdk ttX11_runs 8 rfl rfl) rfl ?_
      refine zj_sipush (zdk ttX11_runs 9 rfl rfl) (by decide) ?_
      refine zj_iload_n (zdk ttX11_runs 10 rfl rfl) rfl ?_
      refine zj_imul (zdk ttX11_runs 11 rfl rfl) ?_
      refine zj_iload_n (zdk ttX11_runs 12 rfl rfl) rfl ?_
      refine zj_iadd (zdk ttX11_runs 13 rfl rfl) ?_
      refine zj_icmp_ge (t := 176) (zdk ttX11_runs 14 rfl rfl) (by decide) (by omega) (by omega) (fun c42 => ?_) (fun c42 => ?_)
      · refine zj_aload_n (zdk ttX11_runs 101 rfl rfl) rfl (by decide) ?_
        refine zj_getr (r := 21) (zdk ttX11_runs 102 rfl rfl) zf_RX11_74 rfl (k_M s4) (rfM_40 s4) ?_
        refine zj_iconst (zdk ttX11_runs 103 rfl rfl) ?_
        have b43 : -2147483648 ≤ (h3.2 21 0) ∧ (h3.2 21 0) ≤ 2147483647 := abM_21 s4 0
        refine zj_iald (v := (h3.2 21 0)) (zdk ttX11_runs 104 rfl rfl) (kaM_21 s4) (by decide) (by omega) rfl ?_
        exact zj_iret rfl (zdk ttX11_runs 105 rfl rfl) (Nat.le_refl _) (Nat.le_refl _) ⟨(h3.2 21 0), rfl, by omega, s4, f5, (by intro E th x i r0; have u0 := u39 E th x i r0; obtain ⟨t0, a0, l0, y0, ty⟩ := r0; have ln := t0.1.2.2.2.1.2.1; have e6 : x2 = p3 := (by omega); rw [e6] at u0; have o1 := fEv_1 (f := h3.2 21) (by omega) ty u0.2; unfold fRun; rw [fEv_h (f := h3.2 21) (top := x1) (by omega) u0.2, show x1 - 1 = 0 by omega])⟩
      · obtain ⟨dp, z1, z2, z3⟩ := u37
        have z4 := z2 x2 (by omega) (by omega)
        unfold wfC at z4
        refine zj_aload_n (zdk ttX11_runs 15 rfl rfl) rfl (by decide) ?_
        refine zj_getr (r := 14) (zdk ttX11_runs 16 rfl rfl) zf_RX11_49 rfl (k_M s4) (rfM_22 s4) ?_
        refine zj_iload (zdk ttX11_runs 17 rfl rfl) rfl ?_
        have b45 : -2147483648 ≤ (h.2 14 x2) ∧ (h.2 14 x2) ≤ 2147483647 := abM_14 s0 x2
        refine zj_iald (v := (h.2 14 x2)) (zdk ttX11_runs 18 rfl rfl) (kaM_14 s4) (by decide) (by omega) (zfr_a f5 rfl (by decide)) ?_
        refine zj_if_eq (t := 45) (zdk ttX11_runs 19 rfl rfl) (by decide) (by omega) (fun c46 => ?_) (fun c46 => ?_)
        · refine zj_aload_n (zdk ttX11_runs 26 rfl rfl) rfl (by decide) ?_
          refine zj_getr (r := 21) (zdk ttX11_runs 27 rfl rfl) zf_RX11_74 rfl (k_M s4) (rfM_40 s4) ?_
          refine zj_iload (zdk ttX11_runs 28 rfl rfl) rfl ?_
          refine zj_aload_n (zdk ttX11_runs 29 rfl rfl) rfl (by decide) ?_
          refine zj_getr (r := 14) (zdk ttX11_runs 30 rfl rfl) zf_RX11_49 rfl (k_M s4) (rfM_22 s4) ?_
          refine zj_iload (zdk ttX11_runs 31 rfl rfl) rfl ?_
          refine zj_iald (v := (h.2 14 x2)) (zdk ttX11_runs 32 rfl rfl) (kaM_14 s4) (by decide) (by omega) (zfr_a f5 rfl (by decide)) ?_
          refine zj_if_ne (t := 71) (zdk ttX11_runs 33 rfl rfl) (by decide) (by omega) (fun c47 => ?_) (fun c47 => ?_)
          · exact absurd c47 (by omega)
          · refine zj_aload_n (zdk ttX11_runs 34 rfl rfl) rfl (by decide) ?_
            refine zj_getr (r := 15) (zdk ttX11_runs 35 rfl rfl) zf_RX11_52 rfl (k_M s4) (rfM_23 s4) ?_
            refine zj_iload (zdk ttX11_runs 36 rfl rfl) rfl ?_
            have b48 : -2147483648 ≤ (h.2 15 x2) ∧ (h.2 15 x2) ≤ 2147483647 := abM_15 s0 x2
            refine zj_iald (v := (h.2 15 x2)) (zdk ttX11_runs 37 rfl rfl) (kaM_15 s4) (by decide) (by omega) (zfr_a f5 rfl (by decide)) ?_
            refine zj_goto (t := 83) (zdk ttX11_runs 38 rfl rfl) (by decide) ?_
            refine zj_iast (zdk ttX11_runs 46 rfl rfl) (kaM_21 s4) (by decide) (by omega) (fun h49 e50 => ?_)
            refine zj_iload (zdk ttX11_runs 47 rfl rfl) rfl ?_
            refine zj_iconst (zdk ttX11_runs 48 rfl rfl) ?_
            refine zj_iadd (zdk ttX11_runs 49 rfl rfl) ?_
            refine zj_istore (L' := [some (.inr 0), some (.inl p1), some (.inl p2), some (.inl p3), some (.inl (x1 + 1)), some (.inl x2)]) (zdk ttX11_runs 50 rfl rfl) (by decide) rfl ?_
            refine zj_goto (t := 170) (zdk ttX11_runs 51 rfl rfl) (by decide) ?_
            refine zj_iinc (L' := [some (.inr 0), some (.inl p1), some (.inl p2), some (.inl p3), some (.inl (x1 + 1)), some (.inl (x2 + 1))]) (zdk ttX11_runs 99 rfl rfl) rfl (by decide) rfl ?_
            refine zj_goto (t := 12) (zdk ttX11_runs 100 rfl rfl) (by decide) ?_
            have s51 : okM h49 := awM_21 s4 e50 (by omega) (by unfold nsp; omega)
            have f52 : zfr [] [21] h h49 := zfr_wa f5 e50 rfl
            have b53 : h49.2 21 x1 = (h.2 15 x2) := zwr_v e50
            exact ih41  (x1 + 1) (x2 + 1) h49 (by omega) (by omega) s51 f52 (zru_s dp z2 (by omega) (fun q => by first | omega | (rw [show (x1 + 1) - 1 = x1 by omega]; omega))) (by omega) (by intro E th x i r0; have u0 := u39 E th x i r0; obtain ⟨t0, a0, l0, y0, ty⟩ := r0; have ln := t0.1.2.2.2.1.2.1; have ze := zY_c t0 (i := x2) (by omega) (by omega); have tc := fTy_c (f := h3.2 21) (top := x1) l0.1 (show p2 ≤ x2 by omega) (show x2 < p3 by omega) ty (by omega) u0.2; have z1 := zEn_0 ze (by omega); have z2 := fTc_p tc (by omega); clear ze tc; exact ⟨by omega, fEv_p l0.1 (show p2 ≤ x2 by omega) (by omega) u0.2 (zwr_v e50) (fun j9 z9 => zwr_r e50 (by first | decide | exact (absurd ·.1 (by decide)) | exact (absurd ·.2 (by decide)) | omega)) (by omega) (by rw [if_pos (by omega)]; omega)⟩) (by omega)
        · refine zj_aload_n (zdk ttX11_runs 20 rfl rfl) rfl (by decide) ?_
          refine zj_getr (r := 14) (zdk ttX11_runs 21 rfl rfl) zf_RX11_49 rfl (k_M s4) (rfM_22 s4) ?_
          refine zj_iload (zdk ttX11_runs 22 rfl rfl) rfl ?_
          refine zj_iald (v := (h.2 14 x2)) (zdk ttX11_runs 23 rfl rfl) (kaM_14 s4) (by decide) (by omega) (zfr_a f5 rfl (by decide)) ?_
          refine zj_iconst (zdk ttX11_runs 24 rfl rfl) ?_
          refine zj_icmp_ne (t := 93) (zdk ttX11_runs 25 rfl rfl) (by decide) (by omega) (by decide) (fun c54 => ?_) (fun c54 => ?_)
          · refine zj_aload_n (zdk ttX11_runs 52 rfl rfl) rfl (by decide) ?_
            refine zj_getr (r := 14) (zdk ttX11_runs 53 rfl rfl) zf_RX11_49 rfl (k_M s4) (rfM_22 s4) ?_
            refine zj_iload (zdk ttX11_runs 54 rfl rfl) rfl ?_
            refine zj_iald (v := (h.2 14 x2)) (zdk ttX11_runs 55 rfl rfl) (kaM_14 s4) (by decide) (by omega) (zfr_a f5 rfl (by decide)) ?_
            refine zj_bipush (zdk ttX11_runs 56 rfl rfl) (by decide) ?_
            refine zj_icmp_ne (t := 128) (zdk ttX11_runs 57 rfl rfl) (by decide) (by omega) (by decide) (fun c55 => ?_) (fun c55 => ?_)
            · refine zj_iload (zdk ttX11_runs 73 rfl rfl) rfl ?_
              refine zj_iconst (zdk ttX11_runs 74 rfl rfl) ?_
              refine zj_isub (zdk ttX11_runs 75 rfl rfl) ?_
              refine zj_istore (L' := [some (.inr 0), some (.inl p1), some (.inl p2), some (.inl p3), some (.inl (x1 - 1)), some (.inl x2)]) (zdk ttX11_runs 76 rfl rfl) (by decide) rfl ?_
              refine zj_aload_n (zdk ttX11_runs 77 rfl rfl) rfl (by decide) ?_
              refine zj_getr (r := 21) (zdk ttX11_runs 78 rfl rfl) zf_RX11_74 rfl (k_M s4) (rfM_40 s4) ?_
              refine zj_iload (zdk ttX11_runs 79 rfl rfl) rfl ?_
              refine zj_iconst (zdk ttX11_runs 80 rfl rfl) ?_
              refine zj_isub (zdk ttX11_runs 81 rfl rfl) ?_
              refine zj_aload_n (zdk ttX11_runs 82 rfl rfl) rfl (by decide) ?_
              refine zj_aload_n (zdk ttX11_runs 83 rfl rfl) rfl (by decide) ?_
              refine zj_getr (r := 14) (zdk ttX11_runs 84 rfl rfl) zf_RX11_49 rfl (k_M s4) (rfM_22 s4) ?_
              refine zj_iload (zdk ttX11_runs 85 rfl rfl) rfl ?_
              refine zj_iald (v := (h.2 14 x2)) (zdk ttX11_runs 86 rfl rfl) (kaM_14 s4) (by decide) (by omega) (zfr_a f5 rfl (by decide)) ?_
              refine zj_aload_n (zdk ttX11_runs 87 rfl rfl) rfl (by decide) ?_
              refine zj_getr (r := 21) (zdk ttX11_runs 88 rfl rfl) zf_RX11_74 rfl (k_M s4) (rfM_40 s4) ?_
              refine zj_iload (zdk ttX11_runs 89 rfl rfl) rfl ?_
              refine zj_iconst (zdk ttX11_runs 90 rfl rfl) ?_
              refine zj_isub (zdk ttX11_runs 91 rfl rfl) ?_
              have b56 : -2147483648 ≤ (h3.2 21 ((x1 - 1) - 1)) ∧ (h3.2 21 ((x1 - 1) - 1)) ≤ 2147483647 := abM_21 s4 ((x1 - 1) - 1)
              refine zj_iald (v := (h3.2 21 ((x1 - 1) - 1))) (zdk ttX11_runs 92 rfl rfl) (kaM_21 s4) (by decide) (by omega) rfl ?_
              refine zj_aload_n (zdk ttX11_runs 93 rfl rfl) rfl (by decide) ?_
              refine zj_getr (r := 21) (zdk ttX11_runs 94 rfl rfl) zf_RX11_74 rfl (k_M s4) (rfM_40 s4) ?_
              refine zj_iload (zdk ttX11_runs 95 rfl rfl) rfl ?_
              have b57 : -2147483648 ≤ (h3.2 21 (x1 - 1)) ∧ (h3.2 21 (x1 - 1)) ≤ 2147483647 := abM_21 s4 (x1 - 1)
              refine zj_iald (v := (h3.2 21 (x1 - 1))) (zdk ttX11_runs 96 rfl rfl) (kaM_21 s4) (by decide) (by omega) rfl ?_
              refine zj_callV (av := [.inl (h.2 14 x2), .inl (h3.2 21 ((x1 - 1) - 1)), .inl (h3.2 21 (x1 - 1))]) (st := [.inl ((x1 - 1) - 1), .inr 21]) (zdk ttX11_runs 97 rfl rfl) mb_X11_twoOf mv_RX11_303 (ci := 11) rfl rfl (k_M s4) rfl rfl (Nat.le_of_ble_eq_true rfl) (s2_X11_twoOf l h3 (h.2 14 x2) (h3.2 21 ((x1 - 1) - 1)) (h3.2 21 (x1 - 1)) s4 (by omega) (by omega) (by omega) (by omega)) (rm_ok (by decide) (by decide)) (zq_i fun v59 h60 q58 => ?_)
              obtain ⟨rfl, b61, u62⟩ := q58
              refine zj_iast (zdk ttX11_runs 98 rfl rfl) (kaM_21 s4) (by decide) (by omega) (fun h63 e64 => ?_)
              refine zj_iinc (L' := [some (.inr 0), some (.inl p1), some (.inl p2), some (.inl p3), some (.inl (x1 - 1)), some (.inl (x2 + 1))]) (zdk ttX11_runs 99 rfl rfl) rfl (by decide) rfl ?_
              refine zj_goto (t := 12) (zdk ttX11_runs 100 rfl rfl) (by decide) ?_
              have s65 : okM h63 := awM_21 s4 e64 (by omega) (by unfold nsp; omega)
              have f66 : zfr [] [21] h h63 := zfr_wa f5 e64 rfl
              have b67 : h63.2 21 ((x1 - 1) - 1) = v59 := zwr_v e64
              exact ih41  (x1 - 1) (x2 + 1) h63 (by omega) (by omega) s65 f66 (zru_s dp z2 (by omega) (fun q => by first | omega | (rw [show (x1 - 1) - 1 = ((x1 - 1) - 1) by omega]; omega))) (by omega) (by intro E th x i r0; have u0 := u39 E th x i r0; obtain ⟨t0, a0, l0, y0, ty⟩ := r0; have ln := t0.1.2.2.2.1.2.1; have ze := zY_c t0 (i := x2) (by omega) (by omega); have tc := fTy_c (f := h3.2 21) (top := x1) l0.1 (show p2 ≤ x2 by omega) (show x2 < p3 by omega) ty (by omega) u0.2; have z1 := zEn_j ze (by omega) (by omega) (by omega); have zt := fTc_j tc z1.2.1 z1.2.2; clear ze tc; have zt1 := zt.1; have i2 : ((x1 - 1) - 1) = x1 - 2 := (by omega); have i3 : (x1 - 1) = x1 - 1 := (by omega); have w0 := u62 (E.cd x2 - 20000) z1.1 (by rw [i2, i3]; exact zt.2); rw [i2, i3] at w0; have z2 : h63.2 21 (x1 - 2) = v59 := (by rw [← i2]; exact zwr_v e64); have z3 := fEv_j l0.1 (show p2 ≤ x2 by omega) zt.1 u0.2 (z2.trans w0) (fun j9 z9 => zwr_r e64 (by first | decide | exact (absurd ·.1 (by decide)) | exact (absurd ·.2 (by decide)) | omega)) z1.2.1 z1.2.2; rw [← i3] at z3; exact ⟨by omega, z3⟩) (by omega)
            · refine zj_aload_n (zdk ttX11_runs 58 rfl rfl) rfl (by decide) ?_
              refine zj_getr (r := 21) (zdk ttX11_runs 59 rfl rfl) zf_RX11_74 rfl (k_M s4) (rfM_40 s4) ?_
              refine zj_iload (zdk ttX11_runs 60 rfl rfl) rfl ?_
              refine zj_iconst (zdk ttX11_runs 61 rfl rfl) ?_
              refine zj_isub (zdk ttX11_runs 62 rfl rfl) ?_
              refine zj_iconst (zdk ttX11_runs 63 rfl rfl) ?_
              refine zj_aload_n (zdk ttX11_runs 64 rfl rfl) rfl (by decide) ?_
              refine zj_getr (r := 21) (zdk ttX11_runs 65 rfl rfl) zf_RX11_74 rfl (k_M s4) (rfM_40 s4) ?_
              refine zj_iload (zdk ttX11_runs 66 rfl rfl) rfl ?_
              refine zj_iconst (zdk ttX11_runs 67 rfl rfl) ?_
              refine zj_isub (zdk ttX11_runs 68 rfl rfl) ?_
              have b68 : -2147483648 ≤ (h3.2 21 (x1 - 1)) ∧ (h3.2 21 (x1 - 1)) ≤ 2147483647 := abM_21 s4 (x1 - 1)
              refine zj_iald (v := (h3.2 21 (x1 - 1))) (zdk ttX11_runs 69 rfl rfl) (kaM_21 s4) (by decide) (by omega) rfl ?_
              refine zj_isub (zdk ttX11_runs 70 rfl rfl) ?_
              refine zj_wrap ?_
              have b69 := zwp_in (1 - (h3.2 21 (x1 - 1)))
              refine zj_iast (zdk ttX11_runs 71 rfl rfl) (kaM_21 s4) (by decide) (by omega) (fun h70 e71 => ?_)
              refine zj_goto (t := 170) (zdk ttX11_runs 72 rfl rfl) (by decide) ?_
              refine zj_iinc (L' := [some (.inr 0), some (.inl p1), some (.inl p2), some (.inl p3), some (.inl x1), some (.inl (x2 + 1))]) (zdk ttX11_runs 99 rfl rfl) rfl (by decide) rfl ?_
              refine zj_goto (t := 12) (zdk ttX11_runs 100 rfl rfl) (by decide) ?_
              have s72 : okM h70 := awM_21 s4 e71 (by omega) (by unfold nsp; omega)
              have f73 : zfr [] [21] h h70 := zfr_wa f5 e71 rfl
              have b74 : h70.2 21 (x1 - 1) = (zwp (1 - (h3.2 21 (x1 - 1)))) := zwr_v e71
              exact ih41  x1 (x2 + 1) h70 (by omega) (by omega) s72 f73 (zru_s dp z2 (by omega) (fun q => by first | omega | (rw [show x1 - 1 = (x1 - 1) by omega]; omega))) (by omega) (by intro E th x i r0; have u0 := u39 E th x i r0; obtain ⟨t0, a0, l0, y0, ty⟩ := r0; have ln := t0.1.2.2.2.1.2.1; have ze := zY_c t0 (i := x2) (by omega) (by omega); have tc := fTy_c (f := h3.2 21) (top := x1) l0.1 (show p2 ≤ x2 by omega) (show x2 < p3 by omega) ty (by omega) u0.2; have z1 := zEn_9 ze (by omega); have zt := fTc_n tc z1; clear ze tc; have i2 : (x1 - 1) = x1 - 1 := (by omega); have z2 : h70.2 21 (x1 - 1) = (zwp (1 - (h3.2 21 (x1 - 1)))) := (by rw [← i2]; exact zwr_v e71); exact ⟨by omega, fEv_n l0.1 (show p2 ≤ x2 by omega) zt.1 u0.2 (z2.trans (by rw [i2]; exact zwp_s (by omega))) (fun j9 z9 => zwr_r e71 (by first | decide | exact (absurd ·.1 (by decide)) | exact (absurd ·.2 (by decide)) | omega)) z1⟩) (by omega)
          · refine zj_aload_n (zdk ttX11_runs 26 rfl rfl) rfl (by decide) ?_
            refine zj_getr (r := 21) (zdk ttX11_runs 27 rfl rfl) zf_RX11_74 rfl (k_M s4) (rfM_40 s4) ?_
            refine zj_iload (zdk ttX11_runs 28 rfl rfl) rfl ?_
            refine zj_aload_n (zdk ttX11_runs 29 rfl rfl) rfl (by decide) ?_
            refine zj_getr (r := 14) (zdk ttX11_runs 30 rfl rfl) zf_RX11_49 rfl (k_M s4) (rfM_22 s4) ?_
            refine zj_iload (zdk ttX11_runs 31 rfl rfl) rfl ?_
            refine zj_iald (v := (h.2 14 x2)) (zdk ttX11_runs 32 rfl rfl) (kaM_14 s4) (by decide) (by omega) (zfr_a f5 rfl (by decide)) ?_
            refine zj_if_ne (t := 71) (zdk ttX11_runs 33 rfl rfl) (by decide) (by omega) (fun c75 => ?_) (fun c75 => ?_)
            · refine zj_aload_n (zdk ttX11_runs 39 rfl rfl) rfl (by decide) ?_
              refine zj_getr (r := 20) (zdk ttX11_runs 40 rfl rfl) zf_RX11_71 rfl (k_M s4) (rfM_39 s4) ?_
              refine zj_aload_n (zdk ttX11_runs 41 rfl rfl) rfl (by decide) ?_
              refine zj_getr (r := 15) (zdk ttX11_runs 42 rfl rfl) zf_RX11_52 rfl (k_M s4) (rfM_23 s4) ?_
              refine zj_iload (zdk ttX11_runs 43 rfl rfl) rfl ?_
              have b76 : -2147483648 ≤ (h.2 15 x2) ∧ (h.2 15 x2) ≤ 2147483647 := abM_15 s0 x2
              refine zj_iald (v := (h.2 15 x2)) (zdk ttX11_runs 44 rfl rfl) (kaM_15 s4) (by decide) (by omega) (zfr_a f5 rfl (by decide)) ?_
              have b77 : -2147483648 ≤ (h.2 20 (h.2 15 x2)) ∧ (h.2 20 (h.2 15 x2)) ≤ 2147483647 := abM_20 s0 (h.2 15 x2)
              refine zj_iald (v := (h.2 20 (h.2 15 x2))) (zdk ttX11_runs 45 rfl rfl) (kaM_20 s4) (by decide) (by omega) (zfr_a f5 rfl (by decide)) ?_
              refine zj_iast (zdk ttX11_runs 46 rfl rfl) (kaM_21 s4) (by decide) (by omega) (fun h78 e79 => ?_)
              refine zj_iload (zdk ttX11_runs 47 rfl rfl) rfl ?_
              refine zj_iconst (zdk ttX11_runs 48 rfl rfl) ?_
              refine zj_iadd (zdk ttX11_runs 49 rfl rfl) ?_
              refine zj_istore (L' := [some (.inr 0), some (.inl p1), some (.inl p2), some (.inl p3), some (.inl (x1 + 1)), some (.inl x2)]) (zdk ttX11_runs 50 rfl rfl) (by decide) rfl ?_
              refine zj_goto (t := 170) (zdk ttX11_runs 51 rfl rfl) (by decide) ?_
              refine zj_iinc (L' := [some (.inr 0), some (.inl p1), some (.inl p2), some (.inl p3), some (.inl (x1 + 1)), some (.inl (x2 + 1))]) (zdk ttX11_runs 99 rfl rfl) rfl (by decide) rfl ?_
              refine zj_goto (t := 12) (zdk ttX11_runs 100 rfl rfl) (by decide) ?_
              have s80 : okM h78 := awM_21 s4 e79 (by omega) (by unfold nsp; omega)
              have f81 : zfr [] [21] h h78 := zfr_wa f5 e79 rfl
              have b82 : h78.2 21 x1 = (h.2 20 (h.2 15 x2)) := zwr_v e79
              exact ih41  (x1 + 1) (x2 + 1) h78 (by omega) (by omega) s80 f81 (zru_s dp z2 (by omega) (fun q => by first | omega | (rw [show (x1 + 1) - 1 = x1 by omega]; omega))) (by omega) (by intro E th x i r0; have u0 := u39 E th x i r0; obtain ⟨t0, a0, l0, y0, ty⟩ := r0; have ln := t0.1.2.2.2.1.2.1; have ze := zY_c t0 (i := x2) (by omega) (by omega); have tc := fTy_c (f := h3.2 21) (top := x1) l0.1 (show p2 ≤ x2 by omega) (show x2 < p3 by omega) ty (by omega) u0.2; have z1 := zEn_1 ze (by omega); have z2 := fTc_p tc (by omega); clear ze tc; have as := a0 (h.2 15 x2) (by omega) (by omega); exact ⟨by omega, fEv_p l0.1 (show p2 ≤ x2 by omega) (by omega) u0.2 (zwr_v e79) (fun j9 z9 => zwr_r e79 (by first | decide | exact (absurd ·.1 (by decide)) | exact (absurd ·.2 (by decide)) | omega)) (by omega) (by rw [if_neg (by omega), show E.cd x2 - 10007 = h.2 15 x2 by omega]; exact as)⟩) (by omega)
            · exact absurd c75 (by omega)
  exact lp34 _ 0 ((400 * p1) + p2) h (by omega) (by omega) s0 (zfr_r _ _ _) (by rw [show 400 * p1 + p2 = p2 by omega]; exact zru_0 u_0 h) (by omega) (fun E th x i r0 => ⟨by have z9 := r0.2.2.1; omega, by rw [show (((400 * p1) + p2) - p2).toNat = 0 by omega, fEv_0]; rfl⟩) (Nat.lt_succ_self _)

