abbrev q2_X11_readNumber (h : zM) (p1 : Int) (p2 : Int) : Option zV → zM → Prop := zqi fun v h' => ((-2147483648) ≤ v ∧ v ≤ 2147483647) ∧ okM h' ∧ zfr [12, 13, 14, 15, 29, 30] [] h h' ∧ (v = -1 ∨ (p1 ≤ v ∧ v ≤ p2)) ∧ (∀ i9 T j, tPm i9 T j h → (0 ≤ v → v = tNm p1 p2 (T j) ∧ tPm i9 T (j + 1) h') ∧ (v = -1 → tNm p1 p2 (T j) < 0 ∧ tEp h h' j (-(tNm p1 p2 (T j)))))
set_option maxRecDepth 100000 in
set_option maxHeartbeats 4000000 in
theorem s2_X11_readNumber (l : Launch) (h : zM) (p1 : Int) (p2 : Int) (s0 : okM h) (b_p1 : 0 ≤ p1 ∧ p1 ≤ 1) (b_p2 : (-1) ≤ p2 ∧ p2 ≤ 999) : zT shM l yX11_readNumber cX11_readNumber 4 (some .int) (rmL 4) 0 0 [.inr 0, .inl p1, .inl p2] h (q2_X11_readNumber h p1 p2) := by
  refine zT_of (by decide +kernel) (L0 := [some (.inr 0), some (.inl p1), some (.inl p2), none]) rfl (Nat.le_of_ble_eq_true rfl) ?_
  refine zj_aload_n (zdk ttX11_readNumber 0 rfl rfl) rfl (by decide) ?_
  have b1 : 0 ≤ (h.2 0 14) ∧ (h.2 0 14) ≤ 4 := fM_14 s0
  refine zj_geti (v := (h.2 0 14)) (zdk ttX11_readNumber 1 rfl rfl) zf_RX11_166 rfl (k_M s0) rfl ?_
  refine zj_iconst (zdk ttX11_readNumber 2 rfl rfl) ?_
  refine zj_icmp_eq (t := 14) (zdk ttX11_readNumber 3 rfl rfl) (by decide) (by omega) (by decide) (fun c2 => ?_) (fun c2 => ?_)
  · refine zj_aload_n (zdk ttX11_readNumber 8 rfl rfl) rfl (by decide) ?_
    refine zj_aload_n (zdk ttX11_readNumber 9 rfl rfl) rfl (by decide) ?_
    have b3 : -2147483648 ≤ (h.2 0 15) ∧ (h.2 0 15) ≤ 2147483647 := fM_15 s0
    refine zj_geti (v := (h.2 0 15)) (zdk ttX11_readNumber 10 rfl rfl) zf_RX11_169 rfl (k_M s0) rfl ?_
    refine zj_iload_n (zdk ttX11_readNumber 11 rfl rfl) rfl ?_
    refine zj_iload_n (zdk ttX11_readNumber 12 rfl rfl) rfl ?_
    refine zj_callV (av := [.inl (h.2 0 15), .inl p1, .inl p2]) (st := []) (zdk ttX11_readNumber 13 rfl rfl) mb_X11_isIn mv_RX11_139 (ci := 11) rfl rfl (k_M s0) rfl rfl (Nat.le_of_ble_eq_true rfl) (s_X11_isIn l h (h.2 0 15) p1 p2 s0 (by omega) (by omega) (by omega)) (rm_ok (by decide) (by decide)) (zq_i fun v5 h6 q4 => ?_)
    obtain ⟨rfl, ⟨rfl, b7⟩ | ⟨rfl, b7⟩⟩ := q4
    · refine zj_if_ne (t := 33) (zdk ttX11_readNumber 14 rfl rfl) (by decide) (by decide) (fun c8 => ?_) (fun c8 => ?_)
      · exact absurd c8 (by omega)
      · refine zj_aload_n (zdk ttX11_readNumber 15 rfl rfl) rfl (by decide) ?_
        refine zj_iconst (zdk ttX11_readNumber 16 rfl rfl) ?_
        refine zj_callV (av := [.inl 2]) (st := []) (zdk ttX11_readNumber 17 rfl rfl) mb_X11_errs mv_RX11_197 (ci := 11) rfl rfl (k_M s0) rfl rfl (Nat.le_of_ble_eq_true rfl) (s2_X11_errs l h 2 s0 (by omega)) (rm_ok (by decide) (by decide)) (zq_i fun v10 h11 q9 => ?_)
        obtain ⟨b12, s13, f15, u14⟩ := q9
        have f16 : zfr [12, 13, 14, 15, 29, 30] [] h h11 := zfr_t (zfr_r _ _ _) f15 rfl rfl
        have b17 : h11.2 0 14 = (h.2 0 14) := (zfr_f f15 rfl rfl)
        have b18 : h11.2 0 15 = (h.2 0 15) := (zfr_f f15 rfl rfl)
        exact zj_iret rfl (zdk ttX11_readNumber 18 rfl rfl) (Nat.le_refl _) (Nat.le_refl _) ⟨v10, rfl, by omega, s13, f16, by omega, (by intro i9 T j t0; have k_1 := tTg t0.1.2 t0.2.2.1; have k_1j := t0.1.1; have o9 := tNm_f p1 p2 (T j); have e_2 : tEp h h11 j 2 := ⟨u14.1, t0.1.1, by have q9 := t0.2.1; rw [show h.2 7 = h.2 7 from funext fun i9 => rfl, show h.2 0 11 = h.2 0 11 from rfl] at q9; rw [u14.2]; exact q9⟩; exact ⟨fun z => absurd z (by omega), fun _ => ⟨by omega, by rw [show -(tNm p1 p2 (T j)) = 2 by omega]; exact e_2⟩⟩)⟩
    · refine zj_if_ne (t := 33) (zdk ttX11_readNumber 14 rfl rfl) (by decide) (by decide) (fun c19 => ?_) (fun c19 => ?_)
      · refine zj_aload_n (zdk ttX11_readNumber 19 rfl rfl) rfl (by decide) ?_
        refine zj_geti (v := (h.2 0 15)) (zdk ttX11_readNumber 20 rfl rfl) zf_RX11_169 rfl (k_M s0) rfl ?_
        refine zj_istore_n (L' := [some (.inr 0), some (.inl p1), some (.inl p2), some (.inl (h.2 0 15))]) (zdk ttX11_readNumber 21 rfl rfl) (by decide) rfl ?_
        refine zj_aload_n (zdk ttX11_readNumber 22 rfl rfl) rfl (by decide) ?_
        refine zj_callV (av := []) (st := []) (zdk ttX11_readNumber 23 rfl rfl) mb_X11_reads mv_RX11_204 (ci := 11) rfl rfl (k_M s0) rfl rfl (Nat.le_of_ble_eq_true rfl) (s2_X11_reads l h s0) (rm_ok (by decide) (by decide)) (zq_v fun h22 q20 => ?_)
        obtain ⟨s24, f28, u25, u26, u27⟩ := q20
        refine zj_iload_n (zdk ttX11_readNumber 24 rfl rfl) rfl ?_
        have f29 : zfr [12, 13, 14, 15, 29, 30] [] h h22 := zfr_t (zfr_r _ _ _) f28 rfl rfl
        have b30 : 0 ≤ (h22.2 0 14) ∧ (h22.2 0 14) ≤ 4 := fM_14 s24
        have b31 : -2147483648 ≤ (h22.2 0 15) ∧ (h22.2 0 15) ≤ 2147483647 := fM_15 s24
        exact zj_iret rfl (zdk ttX11_readNumber 25 rfl rfl) (Nat.le_refl _) (Nat.le_refl _) ⟨(h.2 0 15), rfl, by omega, s24, f29, by omega, (by intro i9 T j t0; have k_1 := tTg t0.1.2 t0.2.2.1; have k_1j := t0.1.1; have o9 := tNm_f p1 p2 (T j); have k_2 := tTg t0.1.2 t0.2.2.1; have k_2j := t0.1.1; have a_3 : tPm i9 T (j + 1) h22 := tPm_r t0 (by omega) (u27 t0.2.2.2.2.2.1 (tPm_l t0 (by omega))) (fun k => (zfr_a f28 rfl (by decide))) (fun k => (zfr_a f28 rfl (by decide))) (zfr_f f28 rfl rfl); exact ⟨fun _ => ⟨by omega, a_3⟩, fun z => absurd z (by omega)⟩)⟩
      · exact absurd c19 (by omega)
  · refine zj_aload_n (zdk ttX11_readNumber 4 rfl rfl) rfl (by decide) ?_
    refine zj_iconst (zdk ttX11_readNumber 5 rfl rfl) ?_
    refine zj_callV (av := [.inl 1]) (st := []) (zdk ttX11_readNumber 6 rfl rfl) mb_X11_errs mv_RX11_197 (ci := 11) rfl rfl (k_M s0) rfl rfl (Nat.le_of_ble_eq_true rfl) (s2_X11_errs l h 1 s0 (by omega)) (rm_ok (by decide) (by decide)) (zq_i fun v33 h34 q32 => ?_)
    obtain ⟨b35, s36, f38, u37⟩ := q32
    have f39 : zfr [12, 13, 14, 15, 29, 30] [] h h34 := zfr_t (zfr_r _ _ _) f38 rfl rfl
    have b40 : -2147483648 ≤ (h.2 0 15) ∧ (h.2 0 15) ≤ 2147483647 := fM_15 s0
    have b41 : h34.2 0 14 = (h.2 0 14) := (zfr_f f38 rfl rfl)
    have b42 : h34.2 0 15 = (h.2 0 15) := (zfr_f f38 rfl rfl)
    exact zj_iret rfl (zdk ttX11_readNumber 7 rfl rfl) (Nat.le_refl _) (Nat.le_refl _) ⟨v33, rfl, by omega, s36, f39, by omega, (by intro i9 T j t0; have k_1 := tTg t0.1.2 t0.2.2.1; have k_1j := t0.1.1; have o9 := tNm_f p1 p2 (T j); have e_2 : tEp h h34 j 1 := ⟨u37.1, t0.1.1, by have q9 := t0.2.1; rw [show h.2 7 = h.2 7 from funext fun i9 => rfl, show h.2 0 11 = h.2 0 11 from rfl] at q9; rw [u37.2]; exact q9⟩; exact ⟨fun z => absurd z (by omega), fun _ => ⟨by omega, by rw [show -(tNm p1 p2 (T j)) = 1 by omega]; exact e_2⟩⟩)⟩

abbrev q2_X11_readMark (h : zM) (p1 : Int) : Option zV → zM → Prop := zqi fun v h' => ((-1) ≤ v ∧ v ≤ 0) ∧ okM h' ∧ zfr [12, 13, 14, 15, 29, 30] [] h h' ∧ (∀ i9 T j, tPm i9 T j h → (v = 0 → T j = p1 ∧ tPm i9 T (j + 1) h') ∧ (v = -1 → ¬ T j = p1 ∧ tEp h h' j 1))
set_option maxRecDepth 100000 in
set_option maxHeartbeats 4000000 in
theorem s2_X11_readMark (l : Launch) (h : zM) (p1 : Int) (s0 : okM h) (b_p1 : 40 ≤ p1 ∧ p1 ≤ 62) : zT shM l yX11_readMark cX11_readMark 2 (some .int) (rmL 4) 0 0 [.inr 0, .inl p1] h (q2_X11_readMark h p1) := by
  refine zT_of (by decide +kernel) (L0 := [some (.inr 0), some (.inl p1)]) rfl (Nat.le_of_ble_eq_true rfl) ?_
  refine zj_aload_n (zdk ttX11_readMark 0 rfl rfl) rfl (by decide) ?_
  refine zj_iload_n (zdk ttX11_readMark 1 rfl rfl) rfl ?_
  refine zj_callV (av := [.inl p1]) (st := []) (zdk ttX11_readMark 2 rfl rfl) mb_X11_isSign mv_RX11_211 (ci := 11) rfl rfl (k_M s0) rfl rfl (Nat.le_of_ble_eq_true rfl) (s_X11_isSign l h p1 s0 (by omega)) (rm_ok (by decide) (by decide)) (zq_i fun v2 h3 q1 => ?_)
  obtain ⟨rfl, b5, b6, ⟨rfl, b4⟩ | ⟨rfl, b4⟩⟩ := q1
  · refine zj_if_ne (t := 14) (zdk ttX11_readMark 3 rfl rfl) (by decide) (by decide) (fun c7 => ?_) (fun c7 => ?_)
    · exact absurd c7 (by omega)
    · refine zj_aload_n (zdk ttX11_readMark 4 rfl rfl) rfl (by decide) ?_
      refine zj_iconst (zdk ttX11_readMark 5 rfl rfl) ?_
      refine zj_callV (av := [.inl 1]) (st := []) (zdk ttX11_readMark 6 rfl rfl) mb_X11_errs mv_RX11_197 (ci := 11) rfl rfl (k_M s0) rfl rfl (Nat.le_of_ble_eq_true rfl) (s2_X11_errs l h 1 s0 (by omega)) (rm_ok (by decide) (by decide)) (zq_i fun v9 h10 q8 => ?_)
      obtain ⟨b11, s12, f14, u13⟩ := q8
      have f15 : zfr [12, 13, 14, 15, 29, 30] [] h h10 := zfr_t (zfr_r _ _ _) f14 rfl rfl
      have b16 : h10.2 0 14 = (h.2 0 14) := (zfr_f f14 rfl rfl)
      have b17 : h10.2 0 15 = (h.2 0 15) := (zfr_f f14 rfl rfl)
      exact zj_iret rfl (zdk ttX11_readMark 7 rfl rfl) (Nat.le_refl _) (Nat.le_refl _) ⟨v9, rfl, by omega, s12, f15, (by intro i9 T j t0; have k_1 := tTg t0.1.2 t0.2.2.1; have k_1j := t0.1.1; have e_2 : tEp h h10 j 1 := ⟨u13.1, t0.1.1, by have q9 := t0.2.1; rw [show h.2 7 = h.2 7 from funext fun i9 => rfl, show h.2 0 11 = h.2 0 11 from rfl] at q9; rw [u13.2]; exact q9⟩; exact ⟨fun z => absurd z (by omega), fun _ => ⟨by omega, e_2⟩⟩)⟩
  · refine zj_if_ne (t := 14) (zdk ttX11_readMark 3 rfl rfl) (by decide) (by decide) (fun c18 => ?_) (fun c18 => ?_)
    · refine zj_aload_n (zdk ttX11_readMark 8 rfl rfl) rfl (by decide) ?_
      refine zj_callV (av := []) (st := []) (zdk ttX11_readMark 9 rfl rfl) mb_X11_reads mv_RX11_204 (ci := 11) rfl rfl (k_M s0) rfl rfl (Nat.le_of_ble_eq_true rfl) (s2_X11_reads l h s0) (rm_ok (by decide) (by decide)) (zq_v fun h21 q19 => ?_)
      obtain ⟨s23, f27, u24, u25, u26⟩ := q19
      refine zj_iconst (zdk ttX11_readMark 10 rfl rfl) ?_
      have f28 : zfr [12, 13, 14, 15, 29, 30] [] h h21 := zfr_t (zfr_r _ _ _) f27 rfl rfl
      have b29 : 0 ≤ (h21.2 0 14) ∧ (h21.2 0 14) ≤ 4 := fM_14 s23
      have b30 : -2147483648 ≤ (h21.2 0 15) ∧ (h21.2 0 15) ≤ 2147483647 := fM_15 s23
      exact zj_iret rfl (zdk ttX11_readMark 11 rfl rfl) (Nat.le_refl _) (Nat.le_refl _) ⟨0, rfl, by omega, s23, f28, (by intro i9 T j t0; have k_1 := tTg t0.1.2 t0.2.2.1; have k_1j := t0.1.1; have k_2 := tTg t0.1.2 t0.2.2.1; have k_2j := t0.1.1; have a_3 : tPm i9 T (j + 1) h21 := tPm_r t0 (by omega) (u26 t0.2.2.2.2.2.1 (tPm_l t0 (by omega))) (fun k => (zfr_a f27 rfl (by decide))) (fun k => (zfr_a f27 rfl (by decide))) (zfr_f f27 rfl rfl); exact ⟨fun _ => ⟨by omega, a_3⟩, fun z => absurd z (by omega)⟩)⟩
    · exact absurd c18 (by omega)

abbrev q2_X11_readTold (h : zM) (p1 : Int) (p2 : Int) (p3 : Int) : Option zV → zM → Prop := zqi fun v h' => ((-2147483648) ≤ v ∧ v ≤ 2147483647) ∧ okM h' ∧ zfr [12, 13, 14, 15, 29, 30] [] h h' ∧ (v = -1 ∨ (p2 ≤ v ∧ v ≤ p3)) ∧ (∀ i9 T j c9, tPm i9 T j h → (∀ t v, tTk i9 (T j) t v → ((t = 2 ∧ v = p1) ↔ T j = c9)) → ¬ c9 = 0 → (0 ≤ v → T j = c9 ∧ v = tNm p2 p3 (T (j + 1)) ∧ tPm i9 T (j + 1 + 1) h') ∧ (v = -1 → (¬ T j = c9 ∧ tEp h h' j 1) ∨ (T j = c9 ∧ tNm p2 p3 (T (j + 1)) < 0 ∧ tEp h h' (j + 1) (-(tNm p2 p3 (T (j + 1)))))))
set_option maxRecDepth 100000 in
set_option maxHeartbeats 4000000 in
theorem s2_X11_readTold (l : Launch) (h : zM) (p1 : Int) (p2 : Int) (p3 : Int) (s0 : okM h) (b_p1 : (-2147483648) ≤ p1 ∧ p1 ≤ 2147483647) (b_p2 : 0 ≤ p2 ∧ p2 ≤ 1) (b_p3 : (-1) ≤ p3 ∧ p3 ≤ 999) : zT shM l yX11_readTold cX11_readTold 4 (some .int) (rmL 5) 0 0 [.inr 0, .inl p1, .inl p2, .inl p3] h (q2_X11_readTold h p1 p2 p3) := by
  refine zT_of (by decide +kernel) (L0 := [some (.inr 0), some (.inl p1), some (.inl p2), some (.inl p3)]) rfl (Nat.le_of_ble_eq_true rfl) ?_
  refine zj_aload_n (zdk ttX11_readTold 0 rfl rfl) rfl (by decide) ?_
  refine zj_iload_n (zdk ttX11_readTold 1 rfl rfl) rfl ?_
  refine zj_callV (av := [.inl p1]) (st := []) (zdk ttX11_readTold 2 rfl rfl) mb_X11_isWord mv_RX11_226 (ci := 11) rfl rfl (k_M s0) rfl rfl (Nat.le_of_ble_eq_true rfl) (s_X11_isWord l h p1 s0 (by omega)) (rm_ok (by decide) (by decide)) (zq_i fun v2 h3 q1 => ?_)
  obtain ⟨rfl, b5, b6, ⟨rfl, b4⟩ | ⟨rfl, b4⟩⟩ := q1
  · refine zj_if_ne (t := 14) (zdk ttX11_readTold 3 rfl rfl) (by decide) (by decide) (fun c7 => ?_) (fun c7 => ?_)
    · exact absurd c7 (by omega)
    · refine zj_aload_n (zdk ttX11_readTold 4 rfl rfl) rfl (by decide) ?_
      refine zj_iconst (zdk ttX11_readTold 5 rfl rfl) ?_
      refine zj_callV (av := [.inl 1]) (st := []) (zdk ttX11_readTold 6 rfl rfl) mb_X11_errs mv_RX11_197 (ci := 11) rfl rfl (k_M s0) rfl rfl (Nat.le_of_ble_eq_true rfl) (s2_X11_errs l h 1 s0 (by omega)) (rm_ok (by decide) (by decide)) (zq_i fun v9 h10 q8 => ?_)
      obtain ⟨b11, s12, f14, u13⟩ := q8
      have f15 : zfr [12, 13, 14, 15, 29, 30] [] h h10 := zfr_t (zfr_r _ _ _) f14 rfl rfl
      have b16 : h10.2 0 14 = (h.2 0 14) := (zfr_f f14 rfl rfl)
      have b17 : h10.2 0 15 = (h.2 0 15) := (zfr_f f14 rfl rfl)
      exact zj_iret rfl (zdk ttX11_readTold 7 rfl rfl) (Nat.le_refl _) (Nat.le_refl _) ⟨v9, rfl, by omega, s12, f15, by omega, (by intro i9 T j c9 t0 yl yc; have z9 := yl _ _ t0.2.2.1; have e_1 : tEp h h10 j 1 := ⟨u13.1, t0.1.1, by have q9 := t0.2.1; rw [show h.2 7 = h.2 7 from funext fun i9 => rfl, show h.2 0 11 = h.2 0 11 from rfl] at q9; rw [u13.2]; exact q9⟩; exact ⟨fun z => absurd z (by omega), fun _ => Or.inl ⟨fun q => absurd (z9.mpr q) (by omega), e_1⟩⟩)⟩
  · refine zj_if_ne (t := 14) (zdk ttX11_readTold 3 rfl rfl) (by decide) (by decide) (fun c18 => ?_) (fun c18 => ?_)
    · refine zj_aload_n (zdk ttX11_readTold 8 rfl rfl) rfl (by decide) ?_
      refine zj_callV (av := []) (st := []) (zdk ttX11_readTold 9 rfl rfl) mb_X11_reads mv_RX11_204 (ci := 11) rfl rfl (k_M s0) rfl rfl (Nat.le_of_ble_eq_true rfl) (s2_X11_reads l h s0) (rm_ok (by decide) (by decide)) (zq_v fun h21 q19 => ?_)
      obtain ⟨s23, f27, u24, u25, u26⟩ := q19
      refine zj_aload_n (zdk ttX11_readTold 10 rfl rfl) rfl (by decide) ?_
      refine zj_iload_n (zdk ttX11_readTold 11 rfl rfl) rfl ?_
      refine zj_iload_n (zdk ttX11_readTold 12 rfl rfl) rfl ?_
      refine zj_callV (av := [.inl p2, .inl p3]) (st := []) (zdk ttX11_readTold 13 rfl rfl) mb_X11_readNumber mv_RX11_248 (ci := 11) rfl rfl (k_M s23) rfl rfl (Nat.le_of_ble_eq_true rfl) (s2_X11_readNumber l h21 p2 p3 s23 (by omega) (by omega)) (rm_ok (by decide) (by decide)) (zq_i fun v29 h30 q28 => ?_)
      obtain ⟨b31, s32, f35, u33, u34⟩ := q28
      have b36 : -1 ≤ v29 ∧ v29 ≤ 999 := by omega
      have f38 : zfr [12, 13, 14, 15, 29, 30] [] h h21 := zfr_t (zfr_r _ _ _) f27 rfl rfl
      have f37 : zfr [12, 13, 14, 15, 29, 30] [] h h30 := zfr_t f38 f35 rfl rfl
      have b39 : 0 ≤ (h21.2 0 14) ∧ (h21.2 0 14) ≤ 4 := fM_14 s23
      have b40 : -2147483648 ≤ (h21.2 0 15) ∧ (h21.2 0 15) ≤ 2147483647 := fM_15 s23
      have b41 : 0 ≤ (h30.2 0 14) ∧ (h30.2 0 14) ≤ 4 := fM_14 s32
      have b42 : -2147483648 ≤ (h30.2 0 15) ∧ (h30.2 0 15) ≤ 2147483647 := fM_15 s32
      exact zj_iret rfl (zdk ttX11_readTold 14 rfl rfl) (Nat.le_refl _) (Nat.le_refl _) ⟨v29, rfl, by omega, s32, f37, by omega, (by intro i9 T j c9 t0 yl yc; have z9 := yl _ _ t0.2.2.1; have y9 : T j = c9 := z9.mp (by omega); have k_1 := tTg t0.1.2 t0.2.2.1; have k_1j := t0.1.1; have k_2 := tTg t0.1.2 t0.2.2.1; have k_2j := t0.1.1; have a_3 : tPm i9 T (j + 1) h21 := tPm_r t0 (by omega) (u26 t0.2.2.2.2.2.1 (tPm_l t0 (by omega))) (fun k => (zfr_a f27 rfl (by decide))) (fun k => (zfr_a f27 rfl (by decide))) (zfr_f f27 rfl rfl); have e_4 := u34 i9 T (j + 1) a_3; exact ⟨fun z => ⟨y9, (e_4.1 z).1, (e_4.1 z).2⟩, fun z => Or.inr ⟨y9, (e_4.2 z).1, by have q9 := (e_4.2 z).2; unfold tEp at q9 ⊢; rw [show h21.2 7 = h.2 7 from funext fun i8 => (zfr_a f27 rfl (by decide)), show h21.2 0 11 = h.2 0 11 from (zfr_f f27 rfl rfl)] at q9; exact q9⟩⟩)⟩
    · exact absurd c18 (by omega)

abbrev q2_X11_readBoat (h : zM) (p1 : Int) : Option zV → zM → Prop := zqi fun v h' => ((-1) ≤ v ∧ v ≤ 0) ∧ okM h' ∧ zfr [12, 13, 14, 15, 29, 30] [17] h h' ∧ (∀ i, ¬ (p1 ≤ i ∧ i ≤ p1 + 2) → h'.2 17 i = h.2 17 i) ∧ (∀ T j, tPm 2 T j h → T j = 200 → (v = 0 → ∃ j9, tPm 2 T j9 h' ∧ j < j9 ∧ ∀ (p9 : Int) w9 s9 c9 d9, w9 < 16 → tRe T p9 (20, j, w9, s9, c9, d9) (20, j9, w9 + 1, [], c9, (3 - h'.2 17 (p1 + 2)) :: h'.2 17 (p1 + 1) :: h'.2 17 p1 :: d9)) ∧ (v = -1 → ∃ i9 f9, tEp h h' i9 f9 ∧ ∀ (p9 : Int) w9 s9 c9 d9, w9 < 16 → tRe T p9 (20, j, w9, s9, c9, d9) (tEr i9 f9)))
set_option maxRecDepth 100000 in
set_option maxHeartbeats 4000000 in
theorem s2_X11_readBoat (l : Launch) (h : zM) (p1 : Int) (s0 : okM h) (b_p1 : 48 ≤ p1 ∧ p1 ≤ 93) : zT shM l yX11_readBoat cX11_readBoat 2 (some .int) (rmL 6) 0 0 [.inr 0, .inl p1] h (q2_X11_readBoat h p1) := by
  refine zT_of (by decide +kernel) (L0 := [some (.inr 0), some (.inl p1)]) rfl (Nat.le_of_ble_eq_true rfl) ?_
  refine zj_aload_n (zdk ttX11_readBoat 0 rfl rfl) rfl (by decide) ?_
  refine zj_getr (r := 17) (zdk ttX11_readBoat 1 rfl rfl) zf_RX11_62 rfl (k_M s0) (rfM_34 s0) ?_
  refine zj_iload_n (zdk ttX11_readBoat 2 rfl rfl) rfl ?_
  refine zj_aload_n (zdk ttX11_readBoat 3 rfl rfl) rfl (by decide) ?_
  refine zj_bipush (zdk ttX11_readBoat 4 rfl rfl) (by decide) ?_
  refine zj_iconst (zdk ttX11_readBoat 5 rfl rfl) ?_
  refine zj_sipush (zdk ttX11_readBoat 6 rfl rfl) (by decide) ?_
  refine zj_callV (av := [.inl 17, .inl 0, .inl 999]) (st := [.inl p1, .inr 17]) (zdk ttX11_readBoat 7 rfl rfl) mb_X11_readTold mv_RX11_251 (ci := 11) rfl rfl (k_M s0) rfl rfl (Nat.le_of_ble_eq_true rfl) (s2_X11_readTold l h 17 0 999 s0 (by omega) (by omega) (by omega)) (rm_ok (by decide) (by decide)) (zq_i fun v2 h3 q1 => ?_)
  obtain ⟨b4, s5, f8, u6, u7⟩ := q1
  have b9 : -1 ≤ v2 ∧ v2 ≤ 999 := by omega
  refine zj_iast (zdk ttX11_readBoat 8 rfl rfl) (kaM_17 s5) (by decide) (by omega) (fun h10 e11 => ?_)
  refine zj_aload_n (zdk ttX11_readBoat 9 rfl rfl) rfl (by decide) ?_
  have s12 : okM h10 := awM_17 s5 e11 (by omega) (by unfold nsp; omega)
  refine zj_getr (r := 17) (zdk ttX11_readBoat 10 rfl rfl) zf_RX11_62 rfl (k_M s12) (rfM_34 s12) ?_
  refine zj_iload_n (zdk ttX11_readBoat 11 rfl rfl) rfl ?_
  refine zj_iald (v := v2) (zdk ttX11_readBoat 12 rfl rfl) (kaM_17 s12) (by decide) (by omega) (zwr_v e11) ?_
  refine zj_iconst (zdk ttX11_readBoat 13 rfl rfl) ?_
  refine zj_icmp_ne (t := 28) (zdk ttX11_readBoat 14 rfl rfl) (by decide) (by omega) (by decide) (fun c13 => ?_) (fun c13 => ?_)
  · refine zj_aload_n (zdk ttX11_readBoat 17 rfl rfl) rfl (by decide) ?_
    refine zj_getr (r := 17) (zdk ttX11_readBoat 18 rfl rfl) zf_RX11_62 rfl (k_M s12) (rfM_34 s12) ?_
    refine zj_iload_n (zdk ttX11_readBoat 19 rfl rfl) rfl ?_
    refine zj_iconst (zdk ttX11_readBoat 20 rfl rfl) ?_
    refine zj_iadd (zdk ttX11_readBoat 21 rfl rfl) ?_
    refine zj_aload_n (zdk ttX11_readBoat 22 rfl rfl) rfl (by decide) ?_
    refine zj_bipush (zdk ttX11_readBoat 23 rfl rfl) (by decide) ?_
    refine zj_iconst (zdk ttX11_readBoat 24 rfl rfl) ?_
    refine zj_bipush (zdk ttX11_readBoat 25 rfl rfl) (by decide) ?_
    refine zj_callV (av := [.inl 18, .inl 1, .inl 18]) (st := [.inl (p1 + 1), .inr 17]) (zdk ttX11_readBoat 26 rfl rfl) mb_X11_readTold mv_RX11_251 (ci := 11) rfl rfl (k_M s12) rfl rfl (Nat.le_of_ble_eq_true rfl) (s2_X11_readTold l h10 18 1 18 s12 (by omega) (by omega) (by omega)) (rm_ok (by decide) (by decide)) (zq_i fun v15 h16 q14 => ?_)
    obtain ⟨b17, s18, f21, u19, u20⟩ := q14
    have b22 : -1 ≤ v15 ∧ v15 ≤ 18 := by omega
    refine zj_iast (zdk ttX11_readBoat 27 rfl rfl) (kaM_17 s18) (by decide) (by omega) (fun h23 e24 => ?_)
    refine zj_aload_n (zdk ttX11_readBoat 28 rfl rfl) rfl (by decide) ?_
    have s25 : okM h23 := awM_17 s18 e24 (by omega) (by unfold nsp; omega)
    refine zj_getr (r := 17) (zdk ttX11_readBoat 29 rfl rfl) zf_RX11_62 rfl (k_M s25) (rfM_34 s25) ?_
    refine zj_iload_n (zdk ttX11_readBoat 30 rfl rfl) rfl ?_
    refine zj_iconst (zdk ttX11_readBoat 31 rfl rfl) ?_
    refine zj_iadd (zdk ttX11_readBoat 32 rfl rfl) ?_
    refine zj_iald (v := v15) (zdk ttX11_readBoat 33 rfl rfl) (kaM_17 s25) (by decide) (by omega) (zwr_v e24) ?_
    refine zj_iconst (zdk ttX11_readBoat 34 rfl rfl) ?_
    refine zj_icmp_ne (t := 59) (zdk ttX11_readBoat 35 rfl rfl) (by decide) (by omega) (by decide) (fun c26 => ?_) (fun c26 => ?_)
    · refine zj_aload_n (zdk ttX11_readBoat 38 rfl rfl) rfl (by decide) ?_
      refine zj_bipush (zdk ttX11_readBoat 39 rfl rfl) (by decide) ?_
      refine zj_callV (av := [.inl 19]) (st := []) (zdk ttX11_readBoat 40 rfl rfl) mb_X11_isWord mv_RX11_226 (ci := 11) rfl rfl (k_M s25) rfl rfl (Nat.le_of_ble_eq_true rfl) (s_X11_isWord l h23 19 s25 (by omega)) (rm_ok (by decide) (by decide)) (zq_i fun v28 h29 q27 => ?_)
      obtain ⟨rfl, b31, b32, ⟨rfl, b30⟩ | ⟨rfl, b30⟩⟩ := q27
      · refine zj_if_ne (t := 83) (zdk ttX11_readBoat 41 rfl rfl) (by decide) (by decide) (fun c33 => ?_) (fun c33 => ?_)
        · exact absurd c33 (by omega)
        · refine zj_aload_n (zdk ttX11_readBoat 42 rfl rfl) rfl (by decide) ?_
          refine zj_bipush (zdk ttX11_readBoat 43 rfl rfl) (by decide) ?_
          refine zj_callV (av := [.inl 20]) (st := []) (zdk ttX11_readBoat 44 rfl rfl) mb_X11_isWord mv_RX11_226 (ci := 11) rfl rfl (k_M s25) rfl rfl (Nat.le_of_ble_eq_true rfl) (s_X11_isWord l h23 20 s25 (by omega)) (rm_ok (by decide) (by decide)) (zq_i fun v35 h36 q34 => ?_)
          obtain ⟨rfl, b38, b39, ⟨rfl, b37⟩ | ⟨rfl, b37⟩⟩ := q34
          · refine zj_if_ne (t := 83) (zdk ttX11_readBoat 45 rfl rfl) (by decide) (by decide) (fun c40 => ?_) (fun c40 => ?_)
            · exact absurd c40 (by omega)
            · refine zj_aload_n (zdk ttX11_readBoat 46 rfl rfl) rfl (by decide) ?_
              refine zj_iconst (zdk ttX11_readBoat 47 rfl rfl) ?_
              refine zj_callV (av := [.inl 1]) (st := []) (zdk ttX11_readBoat 48 rfl rfl) mb_X11_errs mv_RX11_197 (ci := 11) rfl rfl (k_M s25) rfl rfl (Nat.le_of_ble_eq_true rfl) (s2_X11_errs l h23 1 s25 (by omega)) (rm_ok (by decide) (by decide)) (zq_i fun v42 h43 q41 => ?_)
              obtain ⟨b44, s45, f47, u46⟩ := q41
              have f52 : zfr [12, 13, 14, 15, 29, 30] [17] h h3 := zfr_t (zfr_r _ _ _) f8 rfl rfl
              have f51 : zfr [12, 13, 14, 15, 29, 30] [17] h h10 := zfr_wa f52 e11 rfl
              have f50 : zfr [12, 13, 14, 15, 29, 30] [17] h h16 := zfr_t f51 f21 rfl rfl
              have f49 : zfr [12, 13, 14, 15, 29, 30] [17] h h23 := zfr_wa f50 e24 rfl
              have f48 : zfr [12, 13, 14, 15, 29, 30] [17] h h43 := zfr_t f49 f47 rfl rfl
              have b53 : 0 ≤ (h.2 0 14) ∧ (h.2 0 14) ≤ 4 := fM_14 s0
              have b54 : -2147483648 ≤ (h.2 0 15) ∧ (h.2 0 15) ≤ 2147483647 := fM_15 s0
              have b55 : 0 ≤ (h3.2 0 14) ∧ (h3.2 0 14) ≤ 4 := fM_14 s5
              have b56 : -2147483648 ≤ (h3.2 0 15) ∧ (h3.2 0 15) ≤ 2147483647 := fM_15 s5
              have b57 : h10.2 0 14 = (h3.2 0 14) := (zwr_r e11 (by first | decide | exact (absurd ·.1 (by decide)) | exact (absurd ·.2 (by decide)) | omega))
              have b58 : h10.2 0 15 = (h3.2 0 15) := (zwr_r e11 (by first | decide | exact (absurd ·.1 (by decide)) | exact (absurd ·.2 (by decide)) | omega))
              have b59 : 0 ≤ (h16.2 0 14) ∧ (h16.2 0 14) ≤ 4 := fM_14 s18
              have b60 : -2147483648 ≤ (h16.2 0 15) ∧ (h16.2 0 15) ≤ 2147483647 := fM_15 s18
              have b61 : h23.2 0 14 = (h16.2 0 14) := (zwr_r e24 (by first | decide | exact (absurd ·.1 (by decide)) | exact (absurd ·.2 (by decide)) | omega))
              have b62 : h23.2 0 15 = (h16.2 0 15) := (zwr_r e24 (by first | decide | exact (absurd ·.1 (by decide)) | exact (absurd ·.2 (by decide)) | omega))
              have b63 : h43.2 0 14 = (h16.2 0 14) := ((zfr_f f47 rfl rfl).trans (zwr_r e24 (by first | decide | exact (absurd ·.1 (by decide)) | exact (absurd ·.2 (by decide)) | omega)))
              have b64 : h43.2 0 15 = (h16.2 0 15) := ((zfr_f f47 rfl rfl).trans (zwr_r e24 (by first | decide | exact (absurd ·.1 (by decide)) | exact (absurd ·.2 (by decide)) | omega)))
              exact zj_iret rfl (zdk ttX11_readBoat 49 rfl rfl) (Nat.le_refl _) (Nat.le_refl _) ⟨v42, rfl, by omega, s45, f48, (fun i9 n9 => (((((zfr_a f47 rfl (by decide)).trans (zwr_r e24 (by first | decide | exact (absurd ·.1 (by decide)) | exact (absurd ·.2 (by decide)) | omega))).trans (zfr_a f21 rfl (by decide))).trans (zwr_r e11 (by first | decide | exact (absurd ·.1 (by decide)) | exact (absurd ·.2 (by decide)) | omega))).trans (zfr_a f8 rfl (by decide)))), (by intro T j t0 yh9; have e_1 := u7 2 T j 200 t0 (fun t v q => by have k9 := tT2 q; omega) (by decide); have e_1y := e_1.1 (by omega); have e_1d := e_1y.2.1; have a_2 : tPm 2 T (j + 1 + 1) h10 := tPm_f e_1y.2.2 (fun k => (zwr_r e11 (by first | decide | exact (absurd ·.1 (by decide)) | exact (absurd ·.2 (by decide)) | omega))) (fun k => (zwr_r e11 (by first | decide | exact (absurd ·.1 (by decide)) | exact (absurd ·.2 (by decide)) | omega))) (zwr_r e11 (by first | decide | exact (absurd ·.1 (by decide)) | exact (absurd ·.2 (by decide)) | omega)) (zwr_r e11 (by first | decide | exact (absurd ·.1 (by decide)) | exact (absurd ·.2 (by decide)) | omega)) (zwr_r e11 (by first | decide | exact (absurd ·.1 (by decide)) | exact (absurd ·.2 (by decide)) | omega)) (zwr_r e11 (by first | decide | exact (absurd ·.1 (by decide)) | exact (absurd ·.2 (by decide)) | omega)) (zwr_r e11 (by first | decide | exact (absurd ·.1 (by decide)) | exact (absurd ·.2 (by decide)) | omega)); have e_3 := u20 2 T (j + 1 + 1) 201 a_2 (fun t v q => by have k9 := tT2 q; omega) (by decide); have e_3y := e_3.1 (by omega); have e_3d := e_3y.2.1; have k_4 := tT2 e_3y.2.2.2.2.1; have k_4j := e_3y.2.2.1.1; have a_5 : tPm 2 T ((j + 1 + 1) + 1 + 1) h23 := tPm_f e_3y.2.2 (fun k => (zwr_r e24 (by first | decide | exact (absurd ·.1 (by decide)) | exact (absurd ·.2 (by decide)) | omega))) (fun k => (zwr_r e24 (by first | decide | exact (absurd ·.1 (by decide)) | exact (absurd ·.2 (by decide)) | omega))) (zwr_r e24 (by first | decide | exact (absurd ·.1 (by decide)) | exact (absurd ·.2 (by decide)) | omega)) (zwr_r e24 (by first | decide | exact (absurd ·.1 (by decide)) | exact (absurd ·.2 (by decide)) | omega)) (zwr_r e24 (by first | decide | exact (absurd ·.1 (by decide)) | exact (absurd ·.2 (by decide)) | omega)) (zwr_r e24 (by first | decide | exact (absurd ·.1 (by decide)) | exact (absurd ·.2 (by decide)) | omega)) (zwr_r e24 (by first | decide | exact (absurd ·.1 (by decide)) | exact (absurd ·.2 (by decide)) | omega)); have e_6 : tEp h h43 ((j + 1 + 1) + 1 + 1) 1 := ⟨u46.1, a_5.1.1, by have q9 := a_5.2.1; rw [show h23.2 7 = h.2 7 from funext fun i9 => ((((zwr_r e24 (by first | decide | exact (absurd ·.1 (by decide)) | exact (absurd ·.2 (by decide)) | omega)).trans (zfr_a f21 rfl (by decide))).trans (zwr_r e11 (by first | decide | exact (absurd ·.1 (by decide)) | exact (absurd ·.2 (by decide)) | omega))).trans (zfr_a f8 rfl (by decide))), show h23.2 0 11 = h.2 0 11 from ((((zwr_r e24 (by first | decide | exact (absurd ·.1 (by decide)) | exact (absurd ·.2 (by decide)) | omega)).trans (zfr_f f21 rfl rfl)).trans (zwr_r e11 (by first | decide | exact (absurd ·.1 (by decide)) | exact (absurd ·.2 (by decide)) | omega))).trans (zfr_f f8 rfl rfl))] at q9; rw [u46.2]; exact q9⟩; exact ⟨fun z => absurd z (by omega), fun _ => ⟨((j + 1 + 1) + 1 + 1), _, e_6, fun p9 w9 s9 c9 d9 w8 => tRe_s (tRe_s (tRe_s (tRe_s (tRe_1 (tMl_l (Or.inl rfl) yh9 w8)) (tMd_y (Or.inl rfl) rfl (by omega))) (tM22_y e_3y.1)) (tM23_y rfl (by omega))) (tM24_n (by omega))⟩⟩)⟩
          · refine zj_if_ne (t := 83) (zdk ttX11_readBoat 45 rfl rfl) (by decide) (by decide) (fun c65 => ?_) (fun c65 => ?_)
            · refine zj_aload_n (zdk ttX11_readBoat 50 rfl rfl) rfl (by decide) ?_
              refine zj_getr (r := 17) (zdk ttX11_readBoat 51 rfl rfl) zf_RX11_62 rfl (k_M s25) (rfM_34 s25) ?_
              refine zj_iload_n (zdk ttX11_readBoat 52 rfl rfl) rfl ?_
              refine zj_iconst (zdk ttX11_readBoat 53 rfl rfl) ?_
              refine zj_iadd (zdk ttX11_readBoat 54 rfl rfl) ?_
              refine zj_aload_n (zdk ttX11_readBoat 55 rfl rfl) rfl (by decide) ?_
              refine zj_bipush (zdk ttX11_readBoat 56 rfl rfl) (by decide) ?_
              refine zj_callV (av := [.inl 19]) (st := [.inl (p1 + 2), .inr 17]) (zdk ttX11_readBoat 57 rfl rfl) mb_X11_isWord mv_RX11_226 (ci := 11) rfl rfl (k_M s25) rfl rfl (Nat.le_of_ble_eq_true rfl) (s_X11_isWord l h23 19 s25 (by omega)) (rm_ok (by decide) (by decide)) (zq_i fun v67 h68 q66 => ?_)
              obtain ⟨rfl, b70, b71, ⟨rfl, b69⟩ | ⟨rfl, b69⟩⟩ := q66
              · refine zj_if_eq (t := 103) (zdk ttX11_readBoat 58 rfl rfl) (by decide) (by decide) (fun c72 => ?_) (fun c72 => ?_)
                · refine zj_iconst (zdk ttX11_readBoat 61 rfl rfl) ?_
                  refine zj_iast (zdk ttX11_readBoat 62 rfl rfl) (kaM_17 s25) (by decide) (by omega) (fun h73 e74 => ?_)
                  refine zj_aload_n (zdk ttX11_readBoat 63 rfl rfl) rfl (by decide) ?_
                  have s75 : okM h73 := awM_17 s25 e74 (by omega) (by unfold nsp; omega)
                  refine zj_callV (av := []) (st := []) (zdk ttX11_readBoat 64 rfl rfl) mb_X11_reads mv_RX11_204 (ci := 11) rfl rfl (k_M s75) rfl rfl (Nat.le_of_ble_eq_true rfl) (s2_X11_reads l h73 s75) (rm_ok (by decide) (by decide)) (zq_v fun h78 q76 => ?_)
                  obtain ⟨s80, f84, u81, u82, u83⟩ := q76
                  refine zj_aload_n (zdk ttX11_readBoat 65 rfl rfl) rfl (by decide) ?_
                  refine zj_bipush (zdk ttX11_readBoat 66 rfl rfl) (by decide) ?_
                  refine zj_callV (av := [.inl 59]) (st := []) (zdk ttX11_readBoat 67 rfl rfl) mb_X11_readMark mv_RX11_255 (ci := 11) rfl rfl (k_M s80) rfl rfl (Nat.le_of_ble_eq_true rfl) (s2_X11_readMark l h78 59 s80 (by omega)) (rm_ok (by decide) (by decide)) (zq_i fun v86 h87 q85 => ?_)
                  obtain ⟨b88, s89, f91, u90⟩ := q85
                  have f98 : zfr [12, 13, 14, 15, 29, 30] [17] h h3 := zfr_t (zfr_r _ _ _) f8 rfl rfl
                  have f97 : zfr [12, 13, 14, 15, 29, 30] [17] h h10 := zfr_wa f98 e11 rfl
                  have f96 : zfr [12, 13, 14, 15, 29, 30] [17] h h16 := zfr_t f97 f21 rfl rfl
                  have f95 : zfr [12, 13, 14, 15, 29, 30] [17] h h23 := zfr_wa f96 e24 rfl
                  have f94 : zfr [12, 13, 14, 15, 29, 30] [17] h h73 := zfr_wa f95 e74 rfl
                  have f93 : zfr [12, 13, 14, 15, 29, 30] [17] h h78 := zfr_t f94 f84 rfl rfl
                  have f92 : zfr [12, 13, 14, 15, 29, 30] [17] h h87 := zfr_t f93 f91 rfl rfl
                  have b99 : 0 ≤ (h.2 0 14) ∧ (h.2 0 14) ≤ 4 := fM_14 s0
                  have b100 : -2147483648 ≤ (h.2 0 15) ∧ (h.2 0 15) ≤ 2147483647 := fM_15 s0
                  have b101 : 0 ≤ (h3.2 0 14) ∧ (h3.2 0 14) ≤ 4 := fM_14 s5
                  have b102 : -2147483648 ≤ (h3.2 0 15) ∧ (h3.2 0 15) ≤ 2147483647 := fM_15 s5
                  have b103 : h10.2 0 14 = (h3.2 0 14) := (zwr_r e11 (by first | decide | exact (absurd ·.1 (by decide)) | exact (absurd ·.2 (by decide)) | omega))
                  have b104 : h10.2 0 15 = (h3.2 0 15) := (zwr_r e11 (by first | decide | exact (absurd ·.1 (by decide)) | exact (absurd ·.2 (by decide)) | omega))
                  have b105 : 0 ≤ (h16.2 0 14) ∧ (h16.2 0 14) ≤ 4 := fM_14 s18
                  have b106 : -2147483648 ≤ (h16.2 0 15) ∧ (h16.2 0 15) ≤ 2147483647 := fM_15 s18
                  have b107 : h23.2 0 14 = (h16.2 0 14) := (zwr_r e24 (by first | decide | exact (absurd ·.1 (by decide)) | exact (absurd ·.2 (by decide)) | omega))
                  have b108 : h23.2 0 15 = (h16.2 0 15) := (zwr_r e24 (by first | decide | exact (absurd ·.1 (by decide)) | exact (absurd ·.2 (by decide)) | omega))
                  have b109 : h73.2 0 14 = (h16.2 0 14) := ((zwr_r e74 (by first | decide | exact (absurd ·.1 (by decide)) | exact (absurd ·.2 (by decide)) | omega)).trans (zwr_r e24 (by first | decide | exact (absurd ·.1 (by decide)) | exact (absurd ·.2 (by decide)) | omega)))
                  have b110 : h73.2 0 15 = (h16.2 0 15) := ((zwr_r e74 (by first | decide | exact (absurd ·.1 (by decide)) | exact (absurd ·.2 (by decide)) | omega)).trans (zwr_r e24 (by first | decide | exact (absurd ·.1 (by decide)) | exact (absurd ·.2 (by decide)) | omega)))
                  have b111 : 0 ≤ (h78.2 0 14) ∧ (h78.2 0 14) ≤ 4 := fM_14 s80
                  have b112 : -2147483648 ≤ (h78.2 0 15) ∧ (h78.2 0 15) ≤ 2147483647 := fM_15 s80
                  have b113 : 0 ≤ (h87.2 0 14) ∧ (h87.2 0 14) ≤ 4 := fM_14 s89
                  have b114 : -2147483648 ≤ (h87.2 0 15) ∧ (h87.2 0 15) ≤ 2147483647 := fM_15 s89
                  exact zj_iret rfl (zdk ttX11_readBoat 68 rfl rfl) (Nat.le_refl _) (Nat.le_refl _) ⟨v86, rfl, by omega, s89, f92, (fun i9 n9 => (((((((zfr_a f91 rfl (by decide)).trans (zfr_a f84 rfl (by decide))).trans (zwr_r e74 (by first | decide | exact (absurd ·.1 (by decide)) | exact (absurd ·.2 (by decide)) | omega))).trans (zwr_r e24 (by first | decide | exact (absurd ·.1 (by decide)) | exact (absurd ·.2 (by decide)) | omega))).trans (zfr_a f21 rfl (by decide))).trans (zwr_r e11 (by first | decide | exact (absurd ·.1 (by decide)) | exact (absurd ·.2 (by decide)) | omega))).trans (zfr_a f8 rfl (by decide)))), (by intro T j t0 yh9; have e_1 := u7 2 T j 200 t0 (fun t v q => by have k9 := tT2 q; omega) (by decide); have e_1y := e_1.1 (by omega); have e_1d := e_1y.2.1; have a_2 : tPm 2 T (j + 1 + 1) h10 := tPm_f e_1y.2.2 (fun k => (zwr_r e11 (by first | decide | exact (absurd ·.1 (by decide)) | exact (absurd ·.2 (by decide)) | omega))) (fun k => (zwr_r e11 (by first | decide | exact (absurd ·.1 (by decide)) | exact (absurd ·.2 (by decide)) | omega))) (zwr_r e11 (by first | decide | exact (absurd ·.1 (by decide)) | exact (absurd ·.2 (by decide)) | omega)) (zwr_r e11 (by first | decide | exact (absurd ·.1 (by decide)) | exact (absurd ·.2 (by decide)) | omega)) (zwr_r e11 (by first | decide | exact (absurd ·.1 (by decide)) | exact (absurd ·.2 (by decide)) | omega)) (zwr_r e11 (by first | decide | exact (absurd ·.1 (by decide)) | exact (absurd ·.2 (by decide)) | omega)) (zwr_r e11 (by first | decide | exact (absurd ·.1 (by decide)) | exact (absurd ·.2 (by decide)) | omega)); have e_3 := u20 2 T (j + 1 + 1) 201 a_2 (fun t v q => by have k9 := tT2 q; omega) (by decide); have e_3y := e_3.1 (by omega); have e_3d := e_3y.2.1; have k_4 := tT2 e_3y.2.2.2.2.1; have k_4j := e_3y.2.2.1.1; have a_5 : tPm 2 T ((j + 1 + 1) + 1 + 1) h23 := tPm_f e_3y.2.2 (fun k => (zwr_r e24 (by first | decide | exact (absurd ·.1 (by decide)) | exact (absurd ·.2 (by decide)) | omega))) (fun k => (zwr_r e24 (by first | decide | exact (absurd ·.1 (by decide)) | exact (absurd ·.2 (by decide)) | omega))) (zwr_r e24 (by first | decide | exact (absurd ·.1 (by decide)) | exact (absurd ·.2 (by decide)) | omega)) (zwr_r e24 (by first | decide | exact (absurd ·.1 (by decide)) | exact (absurd ·.2 (by decide)) | omega)) (zwr_r e24 (by first | decide | exact (absurd ·.1 (by decide)) | exact (absurd ·.2 (by decide)) | omega)) (zwr_r e24 (by first | decide | exact (absurd ·.1 (by decide)) | exact (absurd ·.2 (by decide)) | omega)) (zwr_r e24 (by first | decide | exact (absurd ·.1 (by decide)) | exact (absurd ·.2 (by decide)) | omega)); have a_6 : tPm 2 T ((j + 1 + 1) + 1 + 1) h73 := tPm_f a_5 (fun k => (zwr_r e74 (by first | decide | exact (absurd ·.1 (by decide)) | exact (absurd ·.2 (by decide)) | omega))) (fun k => (zwr_r e74 (by first | decide | exact (absurd ·.1 (by decide)) | exact (absurd ·.2 (by decide)) | omega))) (zwr_r e74 (by first | decide | exact (absurd ·.1 (by decide)) | exact (absurd ·.2 (by decide)) | omega)) (zwr_r e74 (by first | decide | exact (absurd ·.1 (by decide)) | exact (absurd ·.2 (by decide)) | omega)) (zwr_r e74 (by first | decide | exact (absurd ·.1 (by decide)) | exact (absurd ·.2 (by decide)) | omega)) (zwr_r e74 (by first | decide | exact (absurd ·.1 (by decide)) | exact (absurd ·.2 (by decide)) | omega)) (zwr_r e74 (by first | decide | exact (absurd ·.1 (by decide)) | exact (absurd ·.2 (by decide)) | omega)); clear k_4; have k_7 := tT2 a_6.2.2.1; have k_7j := a_6.1.1; have a_8 : tPm 2 T (((j + 1 + 1) + 1 + 1) + 1) h78 := tPm_r a_6 (by omega) (u83 a_6.2.2.2.2.2.1 (tPm_l a_6 (by omega))) (fun k => (zfr_a f84 rfl (by decide))) (fun k => (zfr_a f84 rfl (by decide))) (zfr_f f84 rfl rfl); have g0 : h87.2 17 p1 = tNm 0 999 (T (j + 1)) := (show h87.2 17 p1 = v2 from by rw [← show p1 = p1 by omega]; exact Eq.trans ((((((zfr_a f91 rfl (by decide)).trans (zfr_a f84 rfl (by decide))).trans (zwr_r e74 (by first | decide | exact (absurd ·.1 (by decide)) | exact (absurd ·.2 (by decide)) | omega))).trans (zwr_r e24 (by first | decide | exact (absurd ·.1 (by decide)) | exact (absurd ·.2 (by decide)) | omega))).trans (zfr_a f21 rfl (by decide)))) (zwr_v e11)).trans (by omega); have g1 : h87.2 17 (p1 + 1) = tNm 1 18 (T ((j + 1 + 1) + 1)) := (show h87.2 17 (p1 + 1) = v15 from by rw [← show (p1 + 1) = (p1 + 1) by omega]; exact Eq.trans ((((zfr_a f91 rfl (by decide)).trans (zfr_a f84 rfl (by decide))).trans (zwr_r e74 (by first | decide | exact (absurd ·.1 (by decide)) | exact (absurd ·.2 (by decide)) | omega)))) (zwr_v e24)).trans (by omega); have g2 : 3 - h87.2 17 (p1 + 2) = T ((j + 1 + 1) + 1 + 1) - 200 := (by have q9 := (show h87.2 17 (p1 + 2) = 0 from by rw [← show (p1 + 2) = (p1 + 2) by omega]; exact Eq.trans (((zfr_a f91 rfl (by decide)).trans (zfr_a f84 rfl (by decide)))) (zwr_v e74)); omega); have e_9 := u90 2 T (((j + 1 + 1) + 1 + 1) + 1) a_8; exact ⟨fun z => ⟨((((j + 1 + 1) + 1 + 1) + 1) + 1), (e_9.1 z).2, by omega, fun p9 w9 s9 c9 d9 w8 => tRe_q (tRe_s (tRe_s (tRe_s (tRe_s (tRe_s (tRe_1 (tMl_l (Or.inl rfl) yh9 w8)) (tMd_y (Or.inl rfl) rfl (by omega))) (tM22_y e_3y.1)) (tM23_y rfl (by omega))) (tM24_y (by omega))) (tMs_y (Or.inl ⟨rfl, rfl⟩) (e_9.1 z).1)) (by rw [g2, g1, g0])⟩, fun z => ⟨(((j + 1 + 1) + 1 + 1) + 1), _, (by have q9 := (e_9.2 z).2; unfold tEp at q9 ⊢; rw [show h78.2 7 = h.2 7 from funext fun i8 => ((((((zfr_a f84 rfl (by decide)).trans (zwr_r e74 (by first | decide | exact (absurd ·.1 (by decide)) | exact (absurd ·.2 (by decide)) | omega))).trans (zwr_r e24 (by first | decide | exact (absurd ·.1 (by decide)) | exact (absurd ·.2 (by decide)) | omega))).trans (zfr_a f21 rfl (by decide))).trans (zwr_r e11 (by first | decide | exact (absurd ·.1 (by decide)) | exact (absurd ·.2 (by decide)) | omega))).trans (zfr_a f8 rfl (by decide))), show h78.2 0 11 = h.2 0 11 from ((((((zfr_f f84 rfl rfl).trans (zwr_r e74 (by first | decide | exact (absurd ·.1 (by decide)) | exact (absurd ·.2 (by decide)) | omega))).trans (zwr_r e24 (by first | decide | exact (absurd ·.1 (by decide)) | exact (absurd ·.2 (by decide)) | omega))).trans (zfr_f f21 rfl rfl)).trans (zwr_r e11 (by first | decide | exact (absurd ·.1 (by decide)) | exact (absurd ·.2 (by decide)) | omega))).trans (zfr_f f8 rfl rfl))] at q9; exact q9), fun p9 w9 s9 c9 d9 w8 => tRe_s (tRe_s (tRe_s (tRe_s (tRe_s (tRe_1 (tMl_l (Or.inl rfl) yh9 w8)) (tMd_y (Or.inl rfl) rfl (by omega))) (tM22_y e_3y.1)) (tM23_y rfl (by omega))) (tM24_y (by omega))) (tMs_n (Or.inl rfl) (e_9.2 z).1)⟩⟩)⟩
                · exact absurd c72 (by omega)
              · exact absurd b69 (by omega)
            · exact absurd c65 (by omega)
      · refine zj_if_ne (t := 83) (zdk ttX11_readBoat 41 rfl rfl) (by decide) (by decide) (fun c115 => ?_) (fun c115 => ?_)
        · refine zj_aload_n (zdk ttX11_readBoat 50 rfl rfl) rfl (by decide) ?_
          refine zj_getr (r := 17) (zdk ttX11_readBoat 51 rfl rfl) zf_RX11_62 rfl (k_M s25) (rfM_34 s25) ?_
          refine zj_iload_n (zdk ttX11_readBoat 52 rfl rfl) rfl ?_
          refine zj_iconst (zdk ttX11_readBoat 53 rfl rfl) ?_
          refine zj_iadd (zdk ttX11_readBoat 54 rfl rfl) ?_
          refine zj_aload_n (zdk ttX11_readBoat 55 rfl rfl) rfl (by decide) ?_
          refine zj_bipush (zdk ttX11_readBoat 56 rfl rfl) (by decide) ?_
          refine zj_callV (av := [.inl 19]) (st := [.inl (p1 + 2), .inr 17]) (zdk ttX11_readBoat 57 rfl rfl) mb_X11_isWord mv_RX11_226 (ci := 11) rfl rfl (k_M s25) rfl rfl (Nat.le_of_ble_eq_true rfl) (s_X11_isWord l h23 19 s25 (by omega)) (rm_ok (by decide) (by decide)) (zq_i fun v117 h118 q116 => ?_)
          obtain ⟨rfl, b120, b121, ⟨rfl, b119⟩ | ⟨rfl, b119⟩⟩ := q116
          · exact absurd b119 (by omega)
          · refine zj_if_eq (t := 103) (zdk ttX11_readBoat 58 rfl rfl) (by decide) (by decide) (fun c122 => ?_) (fun c122 => ?_)
            · exact absurd c122 (by omega)
            · refine zj_iconst (zdk ttX11_readBoat 59 rfl rfl) ?_
              refine zj_goto (t := 104) (zdk ttX11_readBoat 60 rfl rfl) (by decide) ?_
              refine zj_iast (zdk ttX11_readBoat 62 rfl rfl) (kaM_17 s25) (by decide) (by omega) (fun h123 e124 => ?_)
              refine zj_aload_n (zdk ttX11_readBoat 63 rfl rfl) rfl (by decide) ?_
              have s125 : okM h123 := awM_17 s25 e124 (by omega) (by unfold nsp; omega)
              refine zj_callV (av := []) (st := []) (zdk ttX11_readBoat 64 rfl rfl) mb_X11_reads mv_RX11_204 (ci := 11) rfl rfl (k_M s125) rfl rfl (Nat.le_of_ble_eq_true rfl) (s2_X11_reads l h123 s125) (rm_ok (by decide) (by decide)) (zq_v fun h128 q126 => ?_)
              obtain ⟨s130, f134, u131, u132, u133⟩ := q126
              refine zj_aload_n (zdk ttX11_readBoat 65 rfl rfl) rfl (by decide) ?_
              refine zj_bipush (zdk ttX11_readBoat 66 rfl rfl) (by decide) ?_
              refine zj_callV (av := [.inl 59]) (st := []) (zdk ttX11_readBoat 67 rfl rfl) mb_X11_readMark mv_RX11_255 (ci := 11) rfl rfl (k_M s130) rfl rfl (Nat.le_of_ble_eq_true rfl) (s2_X11_readMark l h128 59 s130 (by omega)) (rm_ok (by decide) (by decide)) (zq_i fun v136 h137 q135 => ?_)
              obtain ⟨b138, s139, f141, u140⟩ := q135
              have f148 : zfr [12, 13, 14, 15, 29, 30] [17] h h3 := zfr_t (zfr_r _ _ _) f8 rfl rfl
              have f147 : zfr [12, 13, 14, 15, 29, 30] [17] h h10 := zfr_wa f148 e11 rfl
              have f146 : zfr [12, 13, 14, 15, 29, 30] [17] h h16 := zfr_t f147 f21 rfl rfl
              have f145 : zfr [12, 13, 14, 15, 29, 30] [17] h h23 := zfr_wa f146 e24 rfl
              have f144 : zfr [12, 13, 14, 15, 29, 30] [17] h h123 := zfr_wa f145 e124 rfl
              have f143 : zfr [12, 13, 14, 15, 29, 30] [17] h h128 := zfr_t f144 f134 rfl rfl
              have f142 : zfr [12, 13, 14, 15, 29, 30] [17] h h137 := zfr_t f143 f141 rfl rfl
              have b149 : 0 ≤ (h.2 0 14) ∧ (h.2 0 14) ≤ 4 := fM_14 s0
              have b150 : -2147483648 ≤ (h.2 0 15) ∧ (h.2 0 15) ≤ 2147483647 := fM_15 s0
              have b151 : 0 ≤ (h3.2 0 14) ∧ (h3.2 0 14) ≤ 4 := fM_14 s5
              have b152 : -2147483648 ≤ (h3.2 0 15) ∧ (h3.2 0 15) ≤ 2147483647 := fM_15 s5
              have b153 : h10.2 0 14 = (h3.2 0 14) := (zwr_r e11 (by first | decide | exact (absurd ·.1 (by decide)) | exact (absurd ·.2 (by decide)) | omega))
              have b154 : h10.2 0 15 = (h3.2 0 15) := (zwr_r e11 (by first | decide | exact (absurd ·.1 (by decide)) | exact (absurd ·.2 (by decide)) | omega))
              have b155 : 0 ≤ (h16.2 0 14) ∧ (h16.2 0 14) ≤ 4 := fM_14 s18
              have b156 : -2147483648 ≤ (h16.2 0 15) ∧ (h16.2 0 15) ≤ 2147483647 := fM_15 s18
              have b157 : h23.2 0 14 = (h16.2 0 14) := (zwr_r e24 (by first | decide | exact (absurd ·.1 (by decide)) | exact (absurd ·.2 (by decide)) | omega))
              have b158 : h23.2 0 15 = (h16.2 0 15) := (zwr_r e24 (by first | decide | exact (absurd ·.1 (by decide)) | exact (absurd ·.2 (by decide)) | omega))
              have b159 : h123.2 0 14 = (h16.2 0 14) := ((zwr_r e124 (by first | decide | exact (absurd ·.1 (by decide)) | exact (absurd ·.2 (by decide)) | omega)).trans (zwr_r e24 (by first | decide | exact (absurd ·.1 (by decide)) | exact (absurd ·.2 (by decide)) | omega)))
              have b160 : h123.2 0 15 = (h16.2 0 15) := ((zwr_r e124 (by first | decide | exact (absurd ·.1 (by decide)) | exact (absurd ·.2 (by decide)) | omega)).trans (zwr_r e24 (by first | decide | exact (absurd ·.1 (by decide)) | exact (absurd ·.2 (by decide)) | omega)))
              have b161 : 0 ≤ (h128.2 0 14) ∧ (h128.2 0 14) ≤ 4 := fM_14 s130
              have b162 : -2147483648 ≤ (h128.2 0 15) ∧ (h128.2 0 15) ≤ 2147483647 := fM_15 s130
              have b163 : 0 ≤ (h137.2 0 14) ∧ (h137.2 0 14) ≤ 4 := fM_14 s139
              have b164 : -2147483648 ≤ (h137.2 0 15) ∧ (h137.2 0 15) ≤ 2147483647 := fM_15 s139
              exact zj_iret rfl (zdk ttX11_readBoat 68 rfl rfl) (Nat.le_refl _) (Nat.le_refl _) ⟨v136, rfl, by omega, s139, f142, (fun i9 n9 => (((((((zfr_a f141 rfl (by decide)).trans (zfr_a f134 rfl (by decide))).trans (zwr_r e124 (by first | decide | exact (absurd ·.1 (by decide)) | exact (absurd ·.2 (by decide)) | omega))).trans (zwr_r e24 (by first | decide | exact (absurd ·.1 (by decide)) | exact (absurd ·.2 (by decide)) | omega))).trans (zfr_a f21 rfl (by decide))).trans (zwr_r e11 (by first | decide | exact (absurd ·.1 (by decide)) | exact (absurd ·.2 (by decide)) | omega))).trans (zfr_a f8 rfl (by decide)))), (by intro T j t0 yh9; have e_1 := u7 2 T j 200 t0 (fun t v q => by have k9 := tT2 q; omega) (by decide); have e_1y := e_1.1 (by omega); have e_1d := e_1y.2.1; have a_2 : tPm 2 T (j + 1 + 1) h10 := tPm_f e_1y.2.2 (fun k => (zwr_r e11 (by first | decide | exact (absurd ·.1 (by decide)) | exact (absurd ·.2 (by decide)) | omega))) (fun k => (zwr_r e11 (by first | decide | exact (absurd ·.1 (by decide)) | exact (absurd ·.2 (by decide)) | omega))) (zwr_r e11 (by first | decide | exact (absurd ·.1 (by decide)) | exact (absurd ·.2 (by decide)) | omega)) (zwr_r e11 (by first | decide | exact (absurd ·.1 (by decide)) | exact (absurd ·.2 (by decide)) | omega)) (zwr_r e11 (by first | decide | exact (absurd ·.1 (by decide)) | exact (absurd ·.2 (by decide)) | omega)) (zwr_r e11 (by first | decide | exact (absurd ·.1 (by decide)) | exact (absurd ·.2 (by decide)) | omega)) (zwr_r e11 (by first | decide | exact (absurd ·.1 (by decide)) | exact (absurd ·.2 (by decide)) | omega)); have e_3 := u20 2 T (j + 1 + 1) 201 a_2 (fun t v q => by have k9 := tT2 q; omega) (by decide); have e_3y := e_3.1 (by omega); have e_3d := e_3y.2.1; have k_4 := tT2 e_3y.2.2.2.2.1; have k_4j := e_3y.2.2.1.1; have a_5 : tPm 2 T ((j + 1 + 1) + 1 + 1) h23 := tPm_f e_3y.2.2 (fun k => (zwr_r e24 (by first | decide | exact (absurd ·.1 (by decide)) | exact (absurd ·.2 (by decide)) | omega))) (fun k => (zwr_r e24 (by first | decide | exact (absurd ·.1 (by decide)) | exact (absurd ·.2 (by decide)) | omega))) (zwr_r e24 (by first | decide | exact (absurd ·.1 (by decide)) | exact (absurd ·.2 (by decide)) | omega)) (zwr_r e24 (by first | decide | exact (absurd ·.1 (by decide)) | exact (absurd ·.2 (by decide)) | omega)) (zwr_r e24 (by first | decide | exact (absurd ·.1 (by decide)) | exact (absurd ·.2 (by decide)) | omega)) (zwr_r e24 (by first | decide | exact (absurd ·.1 (by decide)) | exact (absurd ·.2 (by decide)) | omega)) (zwr_r e24 (by first | decide | exact (absurd ·.1 (by decide)) | exact (absurd ·.2 (by decide)) | omega)); have a_6 : tPm 2 T ((j + 1 + 1) + 1 + 1) h123 := tPm_f a_5 (fun k => (zwr_r e124 (by first | decide | exact (absurd ·.1 (by decide)) | exact (absurd ·.2 (by decide)) | omega))) (fun k => (zwr_r e124 (by first | decide | exact (absurd ·.1 (by decide)) | exact (absurd ·.2 (by decide)) | omega))) (zwr_r e124 (by first | decide | exact (absurd ·.1 (by decide)) | exact (absurd ·.2 (by decide)) | omega)) (zwr_r e124 (by first | decide | exact (absurd ·.1 (by decide)) | exact (absurd ·.2 (by decide)) | omega)) (zwr_r e124 (by first | decide | exact (absurd ·.1 (by decide)) | exact (absurd ·.2 (by decide)) | omega)) (zwr_r e124 (by first | decide | exact (absurd ·.1 (by decide)) | exact (absurd ·.2 (by decide)) | omega)) (zwr_r e124 (by first | decide | exact (absurd ·.1 (by decide)) | exact (absurd ·.2 (by decide)) | omega)); clear k_4; have k_7 := tT2 a_6.2.2.1; have k_7j := a_6.1.1; have a_8 : tPm 2 T (((j + 1 + 1) + 1 + 1) + 1) h128 := tPm_r a_6 (by omega) (u133 a_6.2.2.2.2.2.1 (tPm_l a_6 (by omega))) (fun k => (zfr_a f134 rfl (by decide))) (fun k => (zfr_a f134 rfl (by decide))) (zfr_f f134 rfl rfl); have g0 : h137.2 17 p1 = tNm 0 999 (T (j + 1)) := (show h137.2 17 p1 = v2 from by rw [← show p1 = p1 by omega]; exact Eq.trans ((((((zfr_a f141 rfl (by decide)).trans (zfr_a f134 rfl (by decide))).trans (zwr_r e124 (by first | decide | exact (absurd ·.1 (by decide)) | exact (absurd ·.2 (by decide)) | omega))).trans (zwr_r e24 (by first | decide | exact (absurd ·.1 (by decide)) | exact (absurd ·.2 (by decide)) | omega))).trans (zfr_a f21 rfl (by decide)))) (zwr_v e11)).trans (by omega); have g1 : h137.2 17 (p1 + 1) = tNm 1 18 (T ((j + 1 + 1) + 1)) := (show h137.2 17 (p1 + 1) = v15 from by rw [← show (p1 + 1) = (p1 + 1) by omega]; exact Eq.trans ((((zfr_a f141 rfl (by decide)).trans (zfr_a f134 rfl (by decide))).trans (zwr_r e124 (by first | decide | exact (absurd ·.1 (by decide)) | exact (absurd ·.2 (by decide)) | omega)))) (zwr_v e24)).trans (by omega); have g2 : 3 - h137.2 17 (p1 + 2) = T ((j + 1 + 1) + 1 + 1) - 200 := (by have q9 := (show h137.2 17 (p1 + 2) = 1 from by rw [← show (p1 + 2) = (p1 + 2) by omega]; exact Eq.trans (((zfr_a f141 rfl (by decide)).trans (zfr_a f134 rfl (by decide)))) (zwr_v e124)); omega); have e_9 := u140 2 T (((j + 1 + 1) + 1 + 1) + 1) a_8; exact ⟨fun z => ⟨((((j + 1 + 1) + 1 + 1) + 1) + 1), (e_9.1 z).2, by omega, fun p9 w9 s9 c9 d9 w8 => tRe_q (tRe_s (tRe_s (tRe_s (tRe_s (tRe_s (tRe_1 (tMl_l (Or.inl rfl) yh9 w8)) (tMd_y (Or.inl rfl) rfl (by omega))) (tM22_y e_3y.1)) (tM23_y rfl (by omega))) (tM24_y (by omega))) (tMs_y (Or.inl ⟨rfl, rfl⟩) (e_9.1 z).1)) (by rw [g2, g1, g0])⟩, fun z => ⟨(((j + 1 + 1) + 1 + 1) + 1), _, (by have q9 := (e_9.2 z).2; unfold tEp at q9 ⊢; rw [show h128.2 7 = h.2 7 from funext fun i8 => ((((((zfr_a f134 rfl (by decide)).trans (zwr_r e124 (by first | decide | exact (absurd ·.1 (by decide)) | exact (absurd ·.2 (by decide)) | omega))).trans (zwr_r e24 (by first | decide | exact (absurd ·.1 (by decide)) | exact (absurd ·.2 (by decide)) | omega))).trans (zfr_a f21 rfl (by decide))).trans (zwr_r e11 (by first | decide | exact (absurd ·.1 (by decide)) | exact (absurd ·.2 (by decide)) | omega))).trans (zfr_a f8 rfl (by decide))), show h128.2 0 11 = h.2 0 11 from ((((((zfr_f f134 rfl rfl).trans (zwr_r e124 (by first | decide | exact (absurd ·.1 (by decide)) | exact (absurd ·.2 (by decide)) | omega))).trans (zwr_r e24 (by first | decide | exact (absurd ·.1 (by decide)) | exact (absurd ·.2 (by decide)) | omega))).trans (zfr_f f21 rfl rfl)).trans (zwr_r e11 (by first | decide | exact (absurd ·.1 (by decide)) | exact (absurd ·.2 (by decide)) | omega))).trans (zfr_f f8 rfl rfl))] at q9; exact q9), fun p9 w9 s9 c9 d9 w8 => tRe_s (tRe_s (tRe_s (tRe_s (tRe_s (tRe_1 (tMl_l (Or.inl rfl) yh9 w8)) (tMd_y (Or.inl rfl) rfl (by omega))) (tM22_y e_3y.1)) (tM23_y rfl (by omega))) (tM24_y (by omega))) (tMs_n (Or.inl rfl) (e_9.2 z).1)⟩⟩)⟩
        · exact absurd c115 (by omega)
    · refine zj_iconst (zdk ttX11_readBoat 36 rfl rfl) ?_
      have f168 : zfr [12, 13, 14, 15, 29, 30] [17] h h3 := zfr_t (zfr_r _ _ _) f8 rfl rfl
      have f167 : zfr [12, 13, 14, 15, 29, 30] [17] h h10 := zfr_wa f168 e11 rfl
      have f166 : zfr [12, 13, 14, 15, 29, 30] [17] h h16 := zfr_t f167 f21 rfl rfl
      have f165 : zfr [12, 13, 14, 15, 29, 30] [17] h h23 := zfr_wa f166 e24 rfl
      have b169 : 0 ≤ (h.2 0 14) ∧ (h.2 0 14) ≤ 4 := fM_14 s0
      have b170 : -2147483648 ≤ (h.2 0 15) ∧ (h.2 0 15) ≤ 2147483647 := fM_15 s0
      have b171 : 0 ≤ (h3.2 0 14) ∧ (h3.2 0 14) ≤ 4 := fM_14 s5
      have b172 : -2147483648 ≤ (h3.2 0 15) ∧ (h3.2 0 15) ≤ 2147483647 := fM_15 s5
      have b173 : h10.2 0 14 = (h3.2 0 14) := (zwr_r e11 (by first | decide | exact (absurd ·.1 (by decide)) | exact (absurd ·.2 (by decide)) | omega))
      have b174 : h10.2 0 15 = (h3.2 0 15) := (zwr_r e11 (by first | decide | exact (absurd ·.1 (by decide)) | exact (absurd ·.2 (by decide)) | omega))
      have b175 : 0 ≤ (h16.2 0 14) ∧ (h16.2 0 14) ≤ 4 := fM_14 s18
      have b176 : -2147483648 ≤ (h16.2 0 15) ∧ (h16.2 0 15) ≤ 2147483647 := fM_15 s18
      have b177 : h23.2 0 14 = (h16.2 0 14) := (zwr_r e24 (by first | decide | exact (absurd ·.1 (by decide)) | exact (absurd ·.2 (by decide)) | omega))
      have b178 : h23.2 0 15 = (h16.2 0 15) := (zwr_r e24 (by first | decide | exact (absurd ·.1 (by decide)) | exact (absurd ·.2 (by decide)) | omega))
      exact zj_iret rfl (zdk ttX11_readBoat 37 rfl rfl) (Nat.le_refl _) (Nat.le_refl _) ⟨(-1), rfl, by omega, s25, f165, (fun i9 n9 => ((((zwr_r e24 (by first | decide | exact (absurd ·.1 (by decide)) | exact (absurd ·.2 (by decide)) | omega)).trans (zfr_a f21 rfl (by decide))).trans (zwr_r e11 (by first | decide | exact (absurd ·.1 (by decide)) | exact (absurd ·.2 (by decide)) | omega))).trans (zfr_a f8 rfl (by decide)))), (by intro T j t0 yh9; have e_1 := u7 2 T j 200 t0 (fun t v q => by have k9 := tT2 q; omega) (by decide); have e_1y := e_1.1 (by omega); have e_1d := e_1y.2.1; have a_2 : tPm 2 T (j + 1 + 1) h10 := tPm_f e_1y.2.2 (fun k => (zwr_r e11 (by first | decide | exact (absurd ·.1 (by decide)) | exact (absurd ·.2 (by decide)) | omega))) (fun k => (zwr_r e11 (by first | decide | exact (absurd ·.1 (by decide)) | exact (absurd ·.2 (by decide)) | omega))) (zwr_r e11 (by first | decide | exact (absurd ·.1 (by decide)) | exact (absurd ·.2 (by decide)) | omega)) (zwr_r e11 (by first | decide | exact (absurd ·.1 (by decide)) | exact (absurd ·.2 (by decide)) | omega)) (zwr_r e11 (by first | decide | exact (absurd ·.1 (by decide)) | exact (absurd ·.2 (by decide)) | omega)) (zwr_r e11 (by first | decide | exact (absurd ·.1 (by decide)) | exact (absurd ·.2 (by decide)) | omega)) (zwr_r e11 (by first | decide | exact (absurd ·.1 (by decide)) | exact (absurd ·.2 (by decide)) | omega)); have e_3 := u20 2 T (j + 1 + 1) 201 a_2 (fun t v q => by have k9 := tT2 q; omega) (by decide); rcases e_3.2 (by omega) with q7 | q7; (exact ⟨fun z => absurd z (by omega), fun _ => ⟨(j + 1 + 1), _, (by have q9 := q7.2; unfold tEp at q9 ⊢; rw [show h10.2 7 = h.2 7 from funext fun i8 => ((zwr_r e11 (by first | decide | exact (absurd ·.1 (by decide)) | exact (absurd ·.2 (by decide)) | omega)).trans (zfr_a f8 rfl (by decide))), show h10.2 0 11 = h.2 0 11 from ((zwr_r e11 (by first | decide | exact (absurd ·.1 (by decide)) | exact (absurd ·.2 (by decide)) | omega)).trans (zfr_f f8 rfl rfl))] at q9; rw [show h23.2 0 29 = h16.2 0 29 from (zwr_r e24 (by first | decide | exact (absurd ·.1 (by decide)) | exact (absurd ·.2 (by decide)) | omega)), show h23.2 0 30 = h16.2 0 30 from (zwr_r e24 (by first | decide | exact (absurd ·.1 (by decide)) | exact (absurd ·.2 (by decide)) | omega))]; exact q9), fun p9 w9 s9 c9 d9 w8 => tRe_s (tRe_s (tRe_1 (tMl_l (Or.inl rfl) yh9 w8)) (tMd_y (Or.inl rfl) rfl (by omega))) (tM22_n q7.1)⟩⟩); (exact ⟨fun z => absurd z (by omega), fun _ => ⟨((j + 1 + 1) + 1), _, (by have q9 := q7.2.2; unfold tEp at q9 ⊢; rw [show h10.2 7 = h.2 7 from funext fun i8 => ((zwr_r e11 (by first | decide | exact (absurd ·.1 (by decide)) | exact (absurd ·.2 (by decide)) | omega)).trans (zfr_a f8 rfl (by decide))), show h10.2 0 11 = h.2 0 11 from ((zwr_r e11 (by first | decide | exact (absurd ·.1 (by decide)) | exact (absurd ·.2 (by decide)) | omega)).trans (zfr_f f8 rfl rfl))] at q9; rw [show h23.2 0 29 = h16.2 0 29 from (zwr_r e24 (by first | decide | exact (absurd ·.1 (by decide)) | exact (absurd ·.2 (by decide)) | omega)), show h23.2 0 30 = h16.2 0 30 from (zwr_r e24 (by first | decide | exact (absurd ·.1 (by decide)) | exact (absurd ·.2 (by decide)) | omega))]; exact q9), fun p9 w9 s9 c9 d9 w8 => tRe_s (tRe_s (tRe_s (tRe_1 (tMl_l (Or.inl rfl) yh9 w8)) (tMd_y (Or.inl rfl) rfl (by omega))) (tM22_y q7.1)) (tM23_n rfl (by omega) rfl)⟩⟩))⟩
  · refine zj_iconst (zdk ttX11_readBoat 15 rfl rfl) ?_
    have f180 : zfr [12, 13, 14, 15, 29, 30] [17] h h3 := zfr_t (zfr_r _ _ _) f8 rfl rfl
    have f179 : zfr [12, 13, 14, 15, 29, 30] [17] h h10 := zfr_wa f180 e11 rfl
    have b181 : 0 ≤ (h.2 0 14) ∧ (h.2 0 14) ≤ 4 := fM_14 s0
    have b182 : -2147483648 ≤ (h.2 0 15) ∧ (h.2 0 15) ≤ 2147483647 := fM_15 s0
    have b183 : 0 ≤ (h3.2 0 14) ∧ (h3.2 0 14) ≤ 4 := fM_14 s5
    have b184 : -2147483648 ≤ (h3.2 0 15) ∧ (h3.2 0 15) ≤ 2147483647 := fM_15 s5
    have b185 : h10.2 0 14 = (h3.2 0 14) := (zwr_r e11 (by first | decide | exact (absurd ·.1 (by decide)) | exact (absurd ·.2 (by decide)) | omega))
    have b186 : h10.2 0 15 = (h3.2 0 15) := (zwr_r e11 (by first | decide | exact (absurd ·.1 (by decide)) | exact (absurd ·.2 (by decide)) | omega))
    exact zj_iret rfl (zdk ttX11_readBoat 16 rfl rfl) (Nat.le_refl _) (Nat.le_refl _) ⟨(-1), rfl, by omega, s12, f179, (fun i9 n9 => ((zwr_r e11 (by first | decide | exact (absurd ·.1 (by decide)) | exact (absurd ·.2 (by decide)) | omega)).trans (zfr_a f8 rfl (by decide)))), (by intro T j t0 yh9; have e_1 := u7 2 T j 200 t0 (fun t v q => by have k9 := tT2 q; omega) (by decide); have e_1n := (e_1.2 (by omega)).resolve_left (fun q => q.1 yh9); exact ⟨fun z => absurd z (by omega), fun _ => ⟨(j + 1), _, (by have q9 := e_1n.2.2; unfold tEp at q9 ⊢; rw [show h10.2 0 29 = h3.2 0 29 from (zwr_r e11 (by first | decide | exact (absurd ·.1 (by decide)) | exact (absurd ·.2 (by decide)) | omega)), show h10.2 0 30 = h3.2 0 30 from (zwr_r e11 (by first | decide | exact (absurd ·.1 (by decide)) | exact (absurd ·.2 (by decide)) | omega))]; exact q9), fun p9 w9 s9 c9 d9 w8 => tRe_s (tRe_1 (tMl_l (Or.inl rfl) yh9 w8)) (tMd_n (Or.inl rfl) rfl (by omega) rfl)⟩⟩)⟩

abbrev q2_X11_readBoats (h : zM) : Option zV → zM → Prop := zqi fun v h' => ((-1) ≤ v ∧ v ≤ 16) ∧ okM h' ∧ zfr [12, 13, 14, 15, 29, 30] [17] h h' ∧ (∀ i, i < 48 → h'.2 17 i = h.2 17 i) ∧ (∀ T, tPm 2 T 0 h → (0 ≤ v → ∃ j9, ∀ p9 : Int, tRe T p9 (20, 0, 0, [], [], []) (1, j9, v, [], [], tB3 h' v.toNat)) ∧ (v = -1 → ∃ i9 f9, tEp h h' i9 f9 ∧ ∀ p9 : Int, tRe T p9 (20, 0, 0, [], [], []) (tEr i9 f9)))
set_option maxRecDepth 100000 in
set_option maxHeartbeats 4000000 in
theorem s2_X11_readBoats (l : Launch) (h : zM) (s0 : okM h) : zT shM l yX11_readBoats cX11_readBoats 2 (some .int) (rmL 7) 0 0 [.inr 0] h (q2_X11_readBoats h) := by
  refine zT_of (by decide +kernel) (L0 := [some (.inr 0), none]) rfl (Nat.le_of_ble_eq_true rfl) ?_
  refine zj_iconst (zdk ttX11_readBoats 0 rfl rfl) ?_
  refine zj_istore_n (L' := [some (.inr 0), some (.inl 0)]) (zdk ttX11_readBoats 1 rfl rfl) (by decide) rfl ?_
  have lp23 : ∀ (n2 : Nat) (x1 : Int) (h2 : zM), (0 ≤ x1 ∧ x1 ≤ 16) → okM h2 → zfr [12, 13, 14, 15, 29, 30] [17] h h2 → (∀ T, tPm 2 T 0 h → ∃ j9, tPm 2 T j9 h2 ∧ ∀ p9 : Int, tRe T p9 (20, 0, 0, [], [], []) (20, j9, x1, [], [], tB3 h2 (x1).toNat)) → (∀ i, i < 48 → h2.2 17 i = h.2 17 i) → (17 - x1).toNat < n2 → zJ shM l yX11_readBoats cX11_readBoats 2 (some .int) (rmL 7) 0 0 (q2_X11_readBoats h) 0 0 2 [some (.inr 0), some (.inl x1)] [] h2 := by
    intro n2
    induction n2 with
    | zero => intro x1 h2 b24 s3 f4 u25 u26 m27; exact absurd m27 (Nat.not_lt_zero _)
    | succ n2 ih28 =>
      intro x1 h2 b24 s3 f4 u25 u26 m27
      refine zj_aload_n (zdk ttX11_readBoats 2 rfl rfl) rfl (by decide) ?_
      refine zj_bipush (zdk ttX11_readBoats 3 rfl rfl) (by decide) ?_
      refine zj_callV (av := [.inl 17]) (st := []) (zdk ttX11_readBoats 4 rfl rfl) mb_X11_isWord mv_RX11_226 (ci := 11) rfl rfl (k_M s3) rfl rfl (Nat.le_of_ble_eq_true rfl) (s_X11_isWord l h2 17 s3 (by omega)) (rm_ok (by decide) (by decide)) (zq_i fun v30 h31 q29 => ?_)
      obtain ⟨rfl, b33, b34, ⟨rfl, b32⟩ | ⟨rfl, b32⟩⟩ := q29
      · refine zj_if_eq (t := 46) (zdk ttX11_readBoats 5 rfl rfl) (by decide) (by decide) (fun c35 => ?_) (fun c35 => ?_)
        · refine zj_aload_n (zdk ttX11_readBoats 29 rfl rfl) rfl (by decide) ?_
          refine zj_geti (v := (h2.2 0 14)) (zdk ttX11_readBoats 30 rfl rfl) zf_RX11_166 rfl (k_M s3) rfl ?_
          refine zj_if_ne (t := 57) (zdk ttX11_readBoats 31 rfl rfl) (by decide) (by omega) (fun c36 => ?_) (fun c36 => ?_)
          · refine zj_aload_n (zdk ttX11_readBoats 34 rfl rfl) rfl (by decide) ?_
            refine zj_iconst (zdk ttX11_readBoats 35 rfl rfl) ?_
            refine zj_callV (av := [.inl 1]) (st := []) (zdk ttX11_readBoats 36 rfl rfl) mb_X11_errs mv_RX11_197 (ci := 11) rfl rfl (k_M s3) rfl rfl (Nat.le_of_ble_eq_true rfl) (s2_X11_errs l h2 1 s3 (by omega)) (rm_ok (by decide) (by decide)) (zq_i fun v38 h39 q37 => ?_)
            obtain ⟨b40, s41, f43, u42⟩ := q37
            have f44 : zfr [12, 13, 14, 15, 29, 30] [17] h h39 := zfr_t f4 f43 rfl rfl
            have b45 : 0 ≤ (h.2 0 14) ∧ (h.2 0 14) ≤ 4 := fM_14 s0
            have b46 : -2147483648 ≤ (h.2 0 15) ∧ (h.2 0 15) ≤ 2147483647 := fM_15 s0
            have b47 : h39.2 0 14 = (h2.2 0 14) := (zfr_f f43 rfl rfl)
            have b48 : h39.2 0 15 = (h2.2 0 15) := (zfr_f f43 rfl rfl)
            exact zj_iret rfl (zdk ttX11_readBoats 37 rfl rfl) (Nat.le_refl _) (Nat.le_refl _) ⟨v38, rfl, by omega, s41, f44, (fun i i9 => ((zfr_a f43 rfl (by decide)).trans (u26 i i9))), (by intro T t0; obtain ⟨xj, xa, xr⟩ := u25 T t0; have k_1 := tT2 xa.2.2.1; have k_1j := xa.1.1; have e_2 : tEp h h39 xj 1 := ⟨u42.1, xa.1.1, by have q9 := xa.2.1; rw [show h2.2 7 = h.2 7 from funext fun i9 => (zfr_a f4 rfl (by decide)), show h2.2 0 11 = h.2 0 11 from (zfr_f f4 rfl rfl)] at q9; rw [u42.2]; exact q9⟩; exact ⟨fun z => absurd z (by omega), fun _ => ⟨xj, _, e_2, fun p9 => by first | exact tRe_s (xr p9) (tMl_3 (Or.inl rfl) (by omega) (by omega)) | exact tRe_s (xr p9) (tMl_1 (Or.inl rfl) (by omega) (by omega))⟩⟩)⟩
          · refine zj_iload_n (zdk ttX11_readBoats 32 rfl rfl) rfl ?_
            refine zj_goto (t := 62) (zdk ttX11_readBoats 33 rfl rfl) (by decide) ?_
            have b49 : 0 ≤ (h.2 0 14) ∧ (h.2 0 14) ≤ 4 := fM_14 s0
            have b50 : -2147483648 ≤ (h.2 0 15) ∧ (h.2 0 15) ≤ 2147483647 := fM_15 s0
            exact zj_iret rfl (zdk ttX11_readBoats 37 rfl rfl) (Nat.le_refl _) (Nat.le_refl _) ⟨x1, rfl, by omega, s3, f4, (fun i i9 => (u26 i i9)), (by intro T t0; obtain ⟨xj, xa, xr⟩ := u25 T t0; have k_1 := tT2 xa.2.2.1; have k_1j := xa.1.1; exact ⟨fun _ => ⟨xj, fun p9 => tRe_q (tRe_s (xr p9) (tMl_e (Or.inl rfl) (by omega))) (rfl)⟩, fun z => absurd z (by omega)⟩)⟩
        · exact absurd c35 (by omega)
      · refine zj_if_eq (t := 46) (zdk ttX11_readBoats 5 rfl rfl) (by decide) (by decide) (fun c51 => ?_) (fun c51 => ?_)
        · exact absurd c51 (by omega)
        · refine zj_iload_n (zdk ttX11_readBoats 6 rfl rfl) rfl ?_
          refine zj_bipush (zdk ttX11_readBoats 7 rfl rfl) (by decide) ?_
          refine zj_icmp_ne (t := 23) (zdk ttX11_readBoats 8 rfl rfl) (by decide) (by omega) (by decide) (fun c52 => ?_) (fun c52 => ?_)
          · refine zj_aload_n (zdk ttX11_readBoats 13 rfl rfl) rfl (by decide) ?_
            refine zj_bipush (zdk ttX11_readBoats 14 rfl rfl) (by decide) ?_
            refine zj_iconst (zdk ttX11_readBoats 15 rfl rfl) ?_
            refine zj_iload_n (zdk ttX11_readBoats 16 rfl rfl) rfl ?_
            refine zj_imul (zdk ttX11_readBoats 17 rfl rfl) ?_
            refine zj_iadd (zdk ttX11_readBoats 18 rfl rfl) ?_
            refine zj_callV (av := [.inl (48 + (3 * x1))]) (st := []) (zdk ttX11_readBoats 19 rfl rfl) mb_X11_readBoat mv_RX11_258 (ci := 11) rfl rfl (k_M s3) rfl rfl (Nat.le_of_ble_eq_true rfl) (s2_X11_readBoat l h2 (48 + (3 * x1)) s3 (by omega)) (rm_ok (by decide) (by decide)) (zq_i fun v54 h55 q53 => ?_)
            obtain ⟨b56, s57, f60, u58, u59⟩ := q53
            refine zj_iconst (zdk ttX11_readBoats 20 rfl rfl) ?_
            refine zj_icmp_ne (t := 39) (zdk ttX11_readBoats 21 rfl rfl) (by decide) (by omega) (by decide) (fun c61 => ?_) (fun c61 => ?_)
            · refine zj_iload_n (zdk ttX11_readBoats 24 rfl rfl) rfl ?_
              refine zj_iconst (zdk ttX11_readBoats 25 rfl rfl) ?_
              refine zj_iadd (zdk ttX11_readBoats 26 rfl rfl) ?_
              refine zj_istore_n (L' := [some (.inr 0), some (.inl (x1 + 1))]) (zdk ttX11_readBoats 27 rfl rfl) (by decide) rfl ?_
              refine zj_goto (t := 2) (zdk ttX11_readBoats 28 rfl rfl) (by decide) ?_
              have f62 : zfr [12, 13, 14, 15, 29, 30] [17] h h55 := zfr_t f4 f60 rfl rfl
              have b63 : 0 ≤ (h.2 0 14) ∧ (h.2 0 14) ≤ 4 := fM_14 s0
              have b64 : -2147483648 ≤ (h.2 0 15) ∧ (h.2 0 15) ≤ 2147483647 := fM_15 s0
              have b65 : 0 ≤ (h55.2 0 14) ∧ (h55.2 0 14) ≤ 4 := fM_14 s57
              have b66 : -2147483648 ≤ (h55.2 0 15) ∧ (h55.2 0 15) ≤ 2147483647 := fM_15 s57
              exact ih28  (x1 + 1) h55 (by omega) s57 f62 (by intro T t0; obtain ⟨xj, xa, xr⟩ := u25 T t0; have k_1 := tT2 xa.2.2.1; have k_1j := xa.1.1; obtain ⟨yj, ya, yl, yr⟩ := (u59 T xj xa (by omega)).1 (by omega); have yq := fun p9 => tRe_q (tRe_t (xr p9) (yr p9 x1 [] _ _ (by omega))) (((tB3_n (h := h2) (h' := h55) (x := x1) (p := (48 + (3 * x1))) (by omega) (by omega) u58) : _)); exact ⟨yj, ya, fun p9 => yq p9⟩) (fun i i9 => ((u58 i (by omega)).trans (u26 i i9))) (by omega)
            · refine zj_iconst (zdk ttX11_readBoats 22 rfl rfl) ?_
              have f67 : zfr [12, 13, 14, 15, 29, 30] [17] h h55 := zfr_t f4 f60 rfl rfl
              have b68 : 0 ≤ (h.2 0 14) ∧ (h.2 0 14) ≤ 4 := fM_14 s0
              have b69 : -2147483648 ≤ (h.2 0 15) ∧ (h.2 0 15) ≤ 2147483647 := fM_15 s0
              have b70 : 0 ≤ (h55.2 0 14) ∧ (h55.2 0 14) ≤ 4 := fM_14 s57
              have b71 : -2147483648 ≤ (h55.2 0 15) ∧ (h55.2 0 15) ≤ 2147483647 := fM_15 s57
              exact zj_iret rfl (zdk ttX11_readBoats 23 rfl rfl) (Nat.le_refl _) (Nat.le_refl _) ⟨(-1), rfl, by omega, s57, f67, (fun i i9 => ((u58 i (by omega)).trans (u26 i i9))), (by intro T t0; obtain ⟨xj, xa, xr⟩ := u25 T t0; have k_1 := tT2 xa.2.2.1; have k_1j := xa.1.1; obtain ⟨ei, ef, ep, er⟩ := (u59 T xj xa (by omega)).2 (by omega); exact ⟨fun z => absurd z (by omega), fun _ => ⟨ei, ef, (by have q9 := ep; unfold tEp at q9 ⊢; rw [show h2.2 7 = h.2 7 from funext fun i8 => (zfr_a f4 rfl (by decide)), show h2.2 0 11 = h.2 0 11 from (zfr_f f4 rfl rfl)] at q9; exact q9), fun p9 => tRe_t (xr p9) (er p9 x1 [] _ _ (by omega))⟩⟩)⟩
          · refine zj_aload_n (zdk ttX11_readBoats 9 rfl rfl) rfl (by decide) ?_
            refine zj_iconst (zdk ttX11_readBoats 10 rfl rfl) ?_
            refine zj_callV (av := [.inl 3]) (st := []) (zdk ttX11_readBoats 11 rfl rfl) mb_X11_errs mv_RX11_197 (ci := 11) rfl rfl (k_M s3) rfl rfl (Nat.le_of_ble_eq_true rfl) (s2_X11_errs l h2 3 s3 (by omega)) (rm_ok (by decide) (by decide)) (zq_i fun v73 h74 q72 => ?_)
            obtain ⟨b75, s76, f78, u77⟩ := q72
            have f79 : zfr [12, 13, 14, 15, 29, 30] [17] h h74 := zfr_t f4 f78 rfl rfl
            have b80 : 0 ≤ (h.2 0 14) ∧ (h.2 0 14) ≤ 4 := fM_14 s0
            have b81 : -2147483648 ≤ (h.2 0 15) ∧ (h.2 0 15) ≤ 2147483647 := fM_15 s0
            have b82 : h74.2 0 14 = (h2.2 0 14) := (zfr_f f78 rfl rfl)
            have b83 : h74.2 0 15 = (h2.2 0 15) := (zfr_f f78 rfl rfl)
            exact zj_iret rfl (zdk ttX11_readBoats 12 rfl rfl) (Nat.le_refl _) (Nat.le_refl _) ⟨v73, rfl, by omega, s76, f79, (fun i i9 => ((zfr_a f78 rfl (by decide)).trans (u26 i i9))), (by intro T t0; obtain ⟨xj, xa, xr⟩ := u25 T t0; have k_1 := tT2 xa.2.2.1; have k_1j := xa.1.1; have e_2 : tEp h h74 xj 3 := ⟨u77.1, xa.1.1, by have q9 := xa.2.1; rw [show h2.2 7 = h.2 7 from funext fun i9 => (zfr_a f4 rfl (by decide)), show h2.2 0 11 = h.2 0 11 from (zfr_f f4 rfl rfl)] at q9; rw [u77.2]; exact q9⟩; exact ⟨fun z => absurd z (by omega), fun _ => ⟨xj, _, e_2, fun p9 => by first | exact tRe_s (xr p9) (tMl_3 (Or.inl rfl) (by omega) (by omega)) | exact tRe_s (xr p9) (tMl_1 (Or.inl rfl) (by omega) (by omega))⟩⟩)⟩
  have b84 : 0 ≤ (h.2 0 14) ∧ (h.2 0 14) ≤ 4 := fM_14 s0
  have b85 : -2147483648 ≤ (h.2 0 15) ∧ (h.2 0 15) ≤ 2147483647 := fM_15 s0
  exact lp23 _ 0 h (by omega) s0 (zfr_r _ _ _) (by intro T t0; exact ⟨0, t0, fun p9 => tRe_r⟩) (fun i i9 => rfl) (Nat.lt_succ_self _)

