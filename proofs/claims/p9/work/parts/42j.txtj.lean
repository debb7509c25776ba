abbrev q2_X11_readDeed (h : zM) (p1 : Int) : Option zV → zM → Prop := zqi fun v h' => ((-1) ≤ v ∧ v ≤ 0) ∧ okM h' ∧ zfr [12, 13, 14, 15, 29, 30] [18] h h' ∧ (v = 0 → wfD1 (h'.2 18 (p1 + 1)) (h'.2 18 (p1 + 2))) ∧ (∀ j, ¬ (p1 ≤ j ∧ j ≤ p1 + 2) → h'.2 18 j = h.2 18 j) ∧ (∀ T j, tPm 3 T j h → T j = 200 → (v = 0 → ∃ j9, tPm 3 T j9 h' ∧ j < j9 ∧ ∀ (p9 : Int) w9 s9, w9 < 16 → tRe T (h.2 0 6) (30, j, w9, s9) (30, j9, w9 + 1, [])) ∧ (v = -1 → ∃ i9 f9, tEp h h' i9 f9 ∧ ∀ (p9 : Int) w9 s9, w9 < 16 → tRe T (h.2 0 6) (30, j, w9, s9) (tEr i9 f9)))
set_option maxRecDepth 100000 in
set_option maxHeartbeats 4000000 in
theorem s2_X11_readDeed (l : Launch) (h : zM) (p1 : Int) (s0 : okM h) (b_p1 : 48 ≤ p1 ∧ p1 ≤ 93) : zT shM l yX11_readDeed cX11_readDeed 3 (some .int) (rmL 6) 0 0 [.inr 0, .inl p1] h (q2_X11_readDeed h p1) := by
  refine zT_of (by decide +kernel) (L0 := [some (.inr 0), some (.inl p1), none]) rfl (Nat.le_of_ble_eq_true rfl) ?_
  refine zj_aload_n (zdk ttX11_readDeed 0 rfl rfl) rfl (by decide) ?_
  refine zj_getr (r := 18) (zdk ttX11_readDeed 1 rfl rfl) zf_RX11_65 rfl (k_M s0) (rfM_36 s0) ?_
  refine zj_iload_n (zdk ttX11_readDeed 2 rfl rfl) rfl ?_
  refine zj_aload_n (zdk ttX11_readDeed 3 rfl rfl) rfl (by decide) ?_
  refine zj_bipush (zdk ttX11_readDeed 4 rfl rfl) (by decide) ?_
  refine zj_iconst (zdk ttX11_readDeed 5 rfl rfl) ?_
  refine zj_sipush (zdk ttX11_readDeed 6 rfl rfl) (by decide) ?_
  refine zj_callV (av := [.inl 17, .inl 0, .inl 999]) (st := [.inl p1, .inr 18]) (zdk ttX11_readDeed 7 rfl rfl) mb_X11_readTold mv_RX11_251 (ci := 11) rfl rfl (k_M s0) rfl rfl (Nat.le_of_ble_eq_true rfl) (s2_X11_readTold l h 17 0 999 s0 (by omega) (by omega) (by omega)) (rm_ok (by decide) (by decide)) (zq_i fun v2 h3 q1 => ?_)
  obtain ⟨b4, s5, f8, u6, u7⟩ := q1
  have b9 : -1 ≤ v2 ∧ v2 ≤ 999 := by omega
  refine zj_iast (zdk ttX11_readDeed 8 rfl rfl) (kaM_18 s5) (by decide) (by omega) (fun h10 e11 => ?_)
  refine zj_aload_n (zdk ttX11_readDeed 9 rfl rfl) rfl (by decide) ?_
  have s12 : okM h10 := awM_18 s5 e11 (by omega) (by unfold nsp; omega)
  refine zj_getr (r := 18) (zdk ttX11_readDeed 10 rfl rfl) zf_RX11_65 rfl (k_M s12) (rfM_36 s12) ?_
  refine zj_iload_n (zdk ttX11_readDeed 11 rfl rfl) rfl ?_
  refine zj_iald (v := v2) (zdk ttX11_readDeed 12 rfl rfl) (kaM_18 s12) (by decide) (by omega) (zwr_v e11) ?_
  refine zj_iconst (zdk ttX11_readDeed 13 rfl rfl) ?_
  refine zj_icmp_ne (t := 28) (zdk ttX11_readDeed 14 rfl rfl) (by decide) (by omega) (by decide) (fun c13 => ?_) (fun c13 => ?_)
  · refine zj_aload_n (zdk ttX11_readDeed 17 rfl rfl) rfl (by decide) ?_
    refine zj_callV (av := []) (st := []) (zdk ttX11_readDeed 18 rfl rfl) mb_X11_kindOfDeed mv_RX11_261 (ci := 11) rfl rfl (k_M s12) rfl rfl (Nat.le_of_ble_eq_true rfl) (s_X11_kindOfDeed l h10 s12) (rm_ok (by decide) (by decide)) (zq_i fun v15 h16 q14 => ?_)
    obtain ⟨rfl, b18, b19, b17⟩ := q14
    have b20 : -1 ≤ v15 ∧ v15 ≤ 5 := by omega
    refine zj_istore_n (L' := [some (.inr 0), some (.inl p1), some (.inl v15)]) (zdk ttX11_readDeed 19 rfl rfl) (by decide) rfl ?_
    refine zj_iload_n (zdk ttX11_readDeed 20 rfl rfl) rfl ?_
    refine zj_iconst (zdk ttX11_readDeed 21 rfl rfl) ?_
    refine zj_icmp_ne (t := 44) (zdk ttX11_readDeed 22 rfl rfl) (by decide) (by omega) (by decide) (fun c21 => ?_) (fun c21 => ?_)
    · refine zj_aload_n (zdk ttX11_readDeed 27 rfl rfl) rfl (by decide) ?_
      refine zj_callV (av := []) (st := []) (zdk ttX11_readDeed 28 rfl rfl) mb_X11_reads mv_RX11_204 (ci := 11) rfl rfl (k_M s12) rfl rfl (Nat.le_of_ble_eq_true rfl) (s2_X11_reads l h10 s12) (rm_ok (by decide) (by decide)) (zq_v fun h24 q22 => ?_)
      obtain ⟨s26, f30, u27, u28, u29⟩ := q22
      refine zj_aload_n (zdk ttX11_readDeed 29 rfl rfl) rfl (by decide) ?_
      refine zj_getr (r := 18) (zdk ttX11_readDeed 30 rfl rfl) zf_RX11_65 rfl (k_M s26) (rfM_36 s26) ?_
      refine zj_iload_n (zdk ttX11_readDeed 31 rfl rfl) rfl ?_
      refine zj_iconst (zdk ttX11_readDeed 32 rfl rfl) ?_
      refine zj_iadd (zdk ttX11_readDeed 33 rfl rfl) ?_
      refine zj_iload_n (zdk ttX11_readDeed 34 rfl rfl) rfl ?_
      refine zj_iast (zdk ttX11_readDeed 35 rfl rfl) (kaM_18 s26) (by decide) (by omega) (fun h31 e32 => ?_)
      refine zj_aload_n (zdk ttX11_readDeed 36 rfl rfl) rfl (by decide) ?_
      have s33 : okM h31 := awM_18 s26 e32 (by omega) (by unfold nsp; omega)
      refine zj_getr (r := 18) (zdk ttX11_readDeed 37 rfl rfl) zf_RX11_65 rfl (k_M s33) (rfM_36 s33) ?_
      refine zj_iload_n (zdk ttX11_readDeed 38 rfl rfl) rfl ?_
      refine zj_iconst (zdk ttX11_readDeed 39 rfl rfl) ?_
      refine zj_iadd (zdk ttX11_readDeed 40 rfl rfl) ?_
      refine zj_iload_n (zdk ttX11_readDeed 41 rfl rfl) rfl ?_
      refine zj_iconst (zdk ttX11_readDeed 42 rfl rfl) ?_
      refine zj_icmp_eq (t := 74) (zdk ttX11_readDeed 43 rfl rfl) (by decide) (by omega) (by decide) (fun c34 => ?_) (fun c34 => ?_)
      · refine zj_iconst (zdk ttX11_readDeed 47 rfl rfl) ?_
        refine zj_goto (t := 119) (zdk ttX11_readDeed 48 rfl rfl) (by decide) ?_
        refine zj_iast (zdk ttX11_readDeed 71 rfl rfl) (kaM_18 s33) (by decide) (by omega) (fun h35 e36 => ?_)
        refine zj_aload_n (zdk ttX11_readDeed 72 rfl rfl) rfl (by decide) ?_
        have s37 : okM h35 := awM_18 s33 e36 (by omega) (by unfold nsp; omega)
        refine zj_getr (r := 18) (zdk ttX11_readDeed 73 rfl rfl) zf_RX11_65 rfl (k_M s37) (rfM_36 s37) ?_
        refine zj_iload_n (zdk ttX11_readDeed 74 rfl rfl) rfl ?_
        refine zj_iconst (zdk ttX11_readDeed 75 rfl rfl) ?_
        refine zj_iadd (zdk ttX11_readDeed 76 rfl rfl) ?_
        refine zj_iald (v := 0) (zdk ttX11_readDeed 77 rfl rfl) (kaM_18 s37) (by decide) (by omega) (zwr_v e36) ?_
        refine zj_iconst (zdk ttX11_readDeed 78 rfl rfl) ?_
        refine zj_icmp_ne (t := 136) (zdk ttX11_readDeed 79 rfl rfl) (by decide) (by decide) (by decide) (fun c38 => ?_) (fun c38 => ?_)
        · refine zj_aload_n (zdk ttX11_readDeed 82 rfl rfl) rfl (by decide) ?_
          refine zj_bipush (zdk ttX11_readDeed 83 rfl rfl) (by decide) ?_
          refine zj_callV (av := [.inl 59]) (st := []) (zdk ttX11_readDeed 84 rfl rfl) mb_X11_readMark mv_RX11_255 (ci := 11) rfl rfl (k_M s37) rfl rfl (Nat.le_of_ble_eq_true rfl) (s2_X11_readMark l h35 59 s37 (by omega)) (rm_ok (by decide) (by decide)) (zq_i fun v40 h41 q39 => ?_)
          obtain ⟨b42, s43, f45, u44⟩ := q39
          have f51 : zfr [12, 13, 14, 15, 29, 30] [18] h h3 := zfr_t (zfr_r _ _ _) f8 rfl rfl
          have f50 : zfr [12, 13, 14, 15, 29, 30] [18] h h10 := zfr_wa f51 e11 rfl
          have f49 : zfr [12, 13, 14, 15, 29, 30] [18] h h24 := zfr_t f50 f30 rfl rfl
          have f48 : zfr [12, 13, 14, 15, 29, 30] [18] h h31 := zfr_wa f49 e32 rfl
          have f47 : zfr [12, 13, 14, 15, 29, 30] [18] h h35 := zfr_wa f48 e36 rfl
          have f46 : zfr [12, 13, 14, 15, 29, 30] [18] h h41 := zfr_t f47 f45 rfl rfl
          have b52 : h41.2 18 (p1 + 1) = v15 := (((zfr_a f45 rfl (by decide)).trans (zwr_r e36 (by omega))).trans (zwr_v e32))
          have b53 : h41.2 18 (p1 + 2) = 0 := ((zfr_a f45 rfl (by decide)).trans (zwr_v e36))
          have b54 : 0 ≤ (h.2 0 14) ∧ (h.2 0 14) ≤ 4 := fM_14 s0
          have b55 : -2147483648 ≤ (h.2 0 15) ∧ (h.2 0 15) ≤ 2147483647 := fM_15 s0
          have b56 : 0 ≤ (h3.2 0 14) ∧ (h3.2 0 14) ≤ 4 := fM_14 s5
          have b57 : -2147483648 ≤ (h3.2 0 15) ∧ (h3.2 0 15) ≤ 2147483647 := fM_15 s5
          have b58 : h10.2 0 14 = (h3.2 0 14) := (zwr_r e11 (by omega))
          have b59 : h10.2 0 15 = (h3.2 0 15) := (zwr_r e11 (by omega))
          have b60 : 0 ≤ (h24.2 0 14) ∧ (h24.2 0 14) ≤ 4 := fM_14 s26
          have b61 : -2147483648 ≤ (h24.2 0 15) ∧ (h24.2 0 15) ≤ 2147483647 := fM_15 s26
          have b62 : h31.2 0 14 = (h24.2 0 14) := (zwr_r e32 (by omega))
          have b63 : h31.2 0 15 = (h24.2 0 15) := (zwr_r e32 (by omega))
          have b64 : h35.2 0 14 = (h24.2 0 14) := ((zwr_r e36 (by omega)).trans (zwr_r e32 (by omega)))
          have b65 : h35.2 0 15 = (h24.2 0 15) := ((zwr_r e36 (by omega)).trans (zwr_r e32 (by omega)))
          have b66 : 0 ≤ (h41.2 0 14) ∧ (h41.2 0 14) ≤ 4 := fM_14 s43
          have b67 : -2147483648 ≤ (h41.2 0 15) ∧ (h41.2 0 15) ≤ 2147483647 := fM_15 s43
          exact zj_iret rfl (zdk ttX11_readDeed 85 rfl rfl) (Nat.le_refl _) (Nat.le_refl _) ⟨v40, rfl, by omega, s43, f46, (fun q => by unfold wfD1; omega), (fun j q => ((((((zfr_a f45 rfl (by decide)).trans (zwr_r e36 (by omega))).trans (zwr_r e32 (by omega))).trans (zfr_a f30 rfl (by decide))).trans (zwr_r e11 (by omega))).trans (zfr_a f8 rfl (by decide)))), (by intro T j t0 yh9; have e_1 := u7 3 T j 200 t0 (fun t v q => by have k9 := tT3 q; omega) (by decide); have e_1y := e_1.1 (by omega); have e_1d := e_1y.2.1; have k_2 := tT3 e_1y.2.2.2.2.1; have k_2j := e_1y.2.2.1.1; have a_3 : tPm 3 T (j + 1 + 1) h10 := tPm_f e_1y.2.2 (fun k => (zwr_r e11 (by omega))) (fun k => (zwr_r e11 (by omega))) (zwr_r e11 (by omega)) (zwr_r e11 (by omega)) (zwr_r e11 (by omega)) (zwr_r e11 (by omega)) (zwr_r e11 (by omega)); clear k_2; have k_4 := tT3 a_3.2.2.1; have k_4j := a_3.1.1; have a_5 : tPm 3 T ((j + 1 + 1) + 1) h24 := tPm_r a_3 (by omega) (u29 a_3.2.2.2.2.2.1 (tPm_l a_3 (by omega))) (fun k => (zfr_a f30 rfl (by decide))) (fun k => (zfr_a f30 rfl (by decide))) (zfr_f f30 rfl rfl); have a_6 : tPm 3 T ((j + 1 + 1) + 1) h31 := tPm_f a_5 (fun k => (zwr_r e32 (by omega))) (fun k => (zwr_r e32 (by omega))) (zwr_r e32 (by omega)) (zwr_r e32 (by omega)) (zwr_r e32 (by omega)) (zwr_r e32 (by omega)) (zwr_r e32 (by omega)); have a_7 : tPm 3 T ((j + 1 + 1) + 1) h35 := tPm_f a_6 (fun k => (zwr_r e36 (by omega))) (fun k => (zwr_r e36 (by omega))) (zwr_r e36 (by omega)) (zwr_r e36 (by omega)) (zwr_r e36 (by omega)) (zwr_r e36 (by omega)) (zwr_r e36 (by omega)); have e_8 := u44 3 T ((j + 1 + 1) + 1) a_7; exact ⟨fun z => ⟨(((j + 1 + 1) + 1) + 1), (e_8.1 z).2, by omega, fun p9 w9 s9 w8 => tRe_s (tRe_s (tRe_s (tRe_1 (tMl_l (Or.inr (Or.inl rfl)) yh9 w8)) (tMd_y (Or.inr rfl) rfl (by omega))) (tM32_s (by omega))) (tMs_y (Or.inr (Or.inl ⟨rfl, rfl⟩)) (e_8.1 z).1)⟩, fun z => ⟨((j + 1 + 1) + 1), _, (by have q9 := (e_8.2 z).2; unfold tEp at q9 ⊢; rw [show h35.2 7 = h.2 7 from funext fun i8 => (((((zwr_r e36 (by omega)).trans (zwr_r e32 (by omega))).trans (zfr_a f30 rfl (by decide))).trans (zwr_r e11 (by omega))).trans (zfr_a f8 rfl (by decide))), show h35.2 0 11 = h.2 0 11 from (((((zwr_r e36 (by omega)).trans (zwr_r e32 (by omega))).trans (zfr_f f30 rfl rfl)).trans (zwr_r e11 (by omega))).trans (zfr_f f8 rfl rfl))] at q9; exact q9), fun p9 w9 s9 w8 => tRe_s (tRe_s (tRe_s (tRe_1 (tMl_l (Or.inr (Or.inl rfl)) yh9 w8)) (tMd_y (Or.inr rfl) rfl (by omega))) (tM32_s (by omega))) (tMs_n (Or.inr (Or.inl rfl)) (e_8.2 z).1)⟩⟩)⟩
        · exact absurd c38 (by omega)
      · refine zj_iload_n (zdk ttX11_readDeed 44 rfl rfl) rfl ?_
        refine zj_iconst (zdk ttX11_readDeed 45 rfl rfl) ?_
        refine zj_icmp_ne (t := 78) (zdk ttX11_readDeed 46 rfl rfl) (by decide) (by omega) (by decide) (fun c68 => ?_) (fun c68 => ?_)
        · refine zj_aload_n (zdk ttX11_readDeed 49 rfl rfl) rfl (by decide) ?_
          refine zj_iload_n (zdk ttX11_readDeed 50 rfl rfl) rfl ?_
          refine zj_iconst (zdk ttX11_readDeed 51 rfl rfl) ?_
          refine zj_icmp_ge (t := 88) (zdk ttX11_readDeed 52 rfl rfl) (by decide) (by omega) (by decide) (fun c69 => ?_) (fun c69 => ?_)
          · refine zj_iconst (zdk ttX11_readDeed 55 rfl rfl) ?_
            refine zj_iload_n (zdk ttX11_readDeed 56 rfl rfl) rfl ?_
            refine zj_iconst (zdk ttX11_readDeed 57 rfl rfl) ?_
            refine zj_icmp_ge (t := 103) (zdk ttX11_readDeed 58 rfl rfl) (by decide) (by omega) (by decide) (fun c70 => ?_) (fun c70 => ?_)
            · refine zj_iload_n (zdk ttX11_readDeed 64 rfl rfl) rfl ?_
              refine zj_iconst (zdk ttX11_readDeed 65 rfl rfl) ?_
              refine zj_icmp_ne (t := 113) (zdk ttX11_readDeed 66 rfl rfl) (by decide) (by omega) (by decide) (fun c71 => ?_) (fun c71 => ?_)
              · refine zj_sipush (zdk ttX11_readDeed 69 rfl rfl) (by decide) ?_
                refine zj_callV (av := [.inl 1, .inl 719]) (st := [.inl (p1 + 2), .inr 18]) (zdk ttX11_readDeed 70 rfl rfl) mb_X11_readNumber mv_RX11_248 (ci := 11) rfl rfl (k_M s33) rfl rfl (Nat.le_of_ble_eq_true rfl) (s2_X11_readNumber l h31 1 719 s33 (by omega) (by omega)) (rm_ok (by decide) (by decide)) (zq_i fun v73 h74 q72 => ?_)
                obtain ⟨b75, s76, f79, u77, u78⟩ := q72
                have b80 : -1 ≤ v73 ∧ v73 ≤ 719 := by omega
                refine zj_iast (zdk ttX11_readDeed 71 rfl rfl) (kaM_18 s76) (by decide) (by omega) (fun h81 e82 => ?_)
                refine zj_aload_n (zdk ttX11_readDeed 72 rfl rfl) rfl (by decide) ?_
                have s83 : okM h81 := awM_18 s76 e82 (by omega) (by unfold nsp; omega)
                refine zj_getr (r := 18) (zdk ttX11_readDeed 73 rfl rfl) zf_RX11_65 rfl (k_M s83) (rfM_36 s83) ?_
                refine zj_iload_n (zdk ttX11_readDeed 74 rfl rfl) rfl ?_
                refine zj_iconst (zdk ttX11_readDeed 75 rfl rfl) ?_
                refine zj_iadd (zdk ttX11_readDeed 76 rfl rfl) ?_
                refine zj_iald (v := v73) (zdk ttX11_readDeed 77 rfl rfl) (kaM_18 s83) (by decide) (by omega) (zwr_v e82) ?_
                refine zj_iconst (zdk ttX11_readDeed 78 rfl rfl) ?_
                refine zj_icmp_ne (t := 136) (zdk ttX11_readDeed 79 rfl rfl) (by decide) (by omega) (by decide) (fun c84 => ?_) (fun c84 => ?_)
                · refine zj_aload_n (zdk ttX11_readDeed 82 rfl rfl) rfl (by decide) ?_
                  refine zj_bipush (zdk ttX11_readDeed 83 rfl rfl) (by decide) ?_
                  refine zj_callV (av := [.inl 59]) (st := []) (zdk ttX11_readDeed 84 rfl rfl) mb_X11_readMark mv_RX11_255 (ci := 11) rfl rfl (k_M s83) rfl rfl (Nat.le_of_ble_eq_true rfl) (s2_X11_readMark l h81 59 s83 (by omega)) (rm_ok (by decide) (by decide)) (zq_i fun v86 h87 q85 => ?_)
                  obtain ⟨b88, s89, f91, u90⟩ := q85
                  have f98 : zfr [12, 13, 14, 15, 29, 30] [18] h h3 := zfr_t (zfr_r _ _ _) f8 rfl rfl
                  have f97 : zfr [12, 13, 14, 15, 29, 30] [18] h h10 := zfr_wa f98 e11 rfl
                  have f96 : zfr [12, 13, 14, 15, 29, 30] [18] h h24 := zfr_t f97 f30 rfl rfl
                  have f95 : zfr [12, 13, 14, 15, 29, 30] [18] h h31 := zfr_wa f96 e32 rfl
                  have f94 : zfr [12, 13, 14, 15, 29, 30] [18] h h74 := zfr_t f95 f79 rfl rfl
                  have f93 : zfr [12, 13, 14, 15, 29, 30] [18] h h81 := zfr_wa f94 e82 rfl
                  have f92 : zfr [12, 13, 14, 15, 29, 30] [18] h h87 := zfr_t f93 f91 rfl rfl
                  have b99 : h87.2 18 (p1 + 1) = v15 := ((((zfr_a f91 rfl (by decide)).trans (zwr_r e82 (by omega))).trans (zfr_a f79 rfl (by decide))).trans (zwr_v e32))
                  have b100 : h87.2 18 (p1 + 2) = v73 := ((zfr_a f91 rfl (by decide)).trans (zwr_v e82))
                  have b101 : 0 ≤ (h.2 0 14) ∧ (h.2 0 14) ≤ 4 := fM_14 s0
                  have b102 : -2147483648 ≤ (h.2 0 15) ∧ (h.2 0 15) ≤ 2147483647 := fM_15 s0
                  have b103 : 0 ≤ (h3.2 0 14) ∧ (h3.2 0 14) ≤ 4 := fM_14 s5
                  have b104 : -2147483648 ≤ (h3.2 0 15) ∧ (h3.2 0 15) ≤ 2147483647 := fM_15 s5
                  have b105 : h10.2 0 14 = (h3.2 0 14) := (zwr_r e11 (by omega))
                  have b106 : h10.2 0 15 = (h3.2 0 15) := (zwr_r e11 (by omega))
                  have b107 : 0 ≤ (h24.2 0 14) ∧ (h24.2 0 14) ≤ 4 := fM_14 s26
                  have b108 : -2147483648 ≤ (h24.2 0 15) ∧ (h24.2 0 15) ≤ 2147483647 := fM_15 s26
                  have b109 : h31.2 0 14 = (h24.2 0 14) := (zwr_r e32 (by omega))
                  have b110 : h31.2 0 15 = (h24.2 0 15) := (zwr_r e32 (by omega))
                  have b111 : 0 ≤ (h74.2 0 14) ∧ (h74.2 0 14) ≤ 4 := fM_14 s76
                  have b112 : -2147483648 ≤ (h74.2 0 15) ∧ (h74.2 0 15) ≤ 2147483647 := fM_15 s76
                  have b113 : h81.2 0 14 = (h74.2 0 14) := (zwr_r e82 (by omega))
                  have b114 : h81.2 0 15 = (h74.2 0 15) := (zwr_r e82 (by omega))
                  have b115 : 0 ≤ (h87.2 0 14) ∧ (h87.2 0 14) ≤ 4 := fM_14 s89
                  have b116 : -2147483648 ≤ (h87.2 0 15) ∧ (h87.2 0 15) ≤ 2147483647 := fM_15 s89
                  exact zj_iret rfl (zdk ttX11_readDeed 85 rfl rfl) (Nat.le_refl _) (Nat.le_refl _) ⟨v86, rfl, by omega, s89, f92, (fun q => by unfold wfD1; omega), (fun j q => (((((((zfr_a f91 rfl (by decide)).trans (zwr_r e82 (by omega))).trans (zfr_a f79 rfl (by decide))).trans (zwr_r e32 (by omega))).trans (zfr_a f30 rfl (by decide))).trans (zwr_r e11 (by omega))).trans (zfr_a f8 rfl (by decide)))), (by intro T j t0 yh9; have e_1 := u7 3 T j 200 t0 (fun t v q => by have k9 := tT3 q; omega) (by decide); have e_1y := e_1.1 (by omega); have e_1d := e_1y.2.1; have k_2 := tT3 e_1y.2.2.2.2.1; have k_2j := e_1y.2.2.1.1; have a_3 : tPm 3 T (j + 1 + 1) h10 := tPm_f e_1y.2.2 (fun k => (zwr_r e11 (by omega))) (fun k => (zwr_r e11 (by omega))) (zwr_r e11 (by omega)) (zwr_r e11 (by omega)) (zwr_r e11 (by omega)) (zwr_r e11 (by omega)) (zwr_r e11 (by omega)); clear k_2; have k_4 := tT3 a_3.2.2.1; have k_4j := a_3.1.1; have a_5 : tPm 3 T ((j + 1 + 1) + 1) h24 := tPm_r a_3 (by omega) (u29 a_3.2.2.2.2.2.1 (tPm_l a_3 (by omega))) (fun k => (zfr_a f30 rfl (by decide))) (fun k => (zfr_a f30 rfl (by decide))) (zfr_f f30 rfl rfl); have a_6 : tPm 3 T ((j + 1 + 1) + 1) h31 := tPm_f a_5 (fun k => (zwr_r e32 (by omega))) (fun k => (zwr_r e32 (by omega))) (zwr_r e32 (by omega)) (zwr_r e32 (by omega)) (zwr_r e32 (by omega)) (zwr_r e32 (by omega)) (zwr_r e32 (by omega)); have e_7 := u78 3 T ((j + 1 + 1) + 1) a_6; have e_7y := e_7.1 (by omega); have e_7d := e_7y.1; have a_8 : tPm 3 T (((j + 1 + 1) + 1) + 1) h81 := tPm_f e_7y.2 (fun k => (zwr_r e82 (by omega))) (fun k => (zwr_r e82 (by omega))) (zwr_r e82 (by omega)) (zwr_r e82 (by omega)) (zwr_r e82 (by omega)) (zwr_r e82 (by omega)) (zwr_r e82 (by omega)); have e_9 := u90 3 T (((j + 1 + 1) + 1) + 1) a_8; exact ⟨fun z => ⟨((((j + 1 + 1) + 1) + 1) + 1), (e_9.1 z).2, by omega, fun p9 w9 s9 w8 => tRe_s (tRe_s (tRe_s (tRe_s (tRe_1 (tMl_l (Or.inr (Or.inl rfl)) yh9 w8)) (tMd_y (Or.inr rfl) rfl (by omega))) (tM32_y (by omega) (by omega))) (tM33_y (lo := 1) (hi := 719) (by first | rw [if_pos (by omega)] | rw [if_neg (by omega)]) (by first | rw [if_pos (by omega)] | rw [if_neg (by omega), if_pos (by omega)] | rw [if_neg (by omega), if_neg (by omega)]) rfl (by omega))) (tMs_y (Or.inr (Or.inl ⟨rfl, rfl⟩)) (e_9.1 z).1)⟩, fun z => ⟨(((j + 1 + 1) + 1) + 1), _, (by have q9 := (e_9.2 z).2; unfold tEp at q9 ⊢; rw [show h81.2 7 = h.2 7 from funext fun i8 => ((((((zwr_r e82 (by omega)).trans (zfr_a f79 rfl (by decide))).trans (zwr_r e32 (by omega))).trans (zfr_a f30 rfl (by decide))).trans (zwr_r e11 (by omega))).trans (zfr_a f8 rfl (by decide))), show h81.2 0 11 = h.2 0 11 from ((((((zwr_r e82 (by omega)).trans (zfr_f f79 rfl rfl)).trans (zwr_r e32 (by omega))).trans (zfr_f f30 rfl rfl)).trans (zwr_r e11 (by omega))).trans (zfr_f f8 rfl rfl))] at q9; exact q9), fun p9 w9 s9 w8 => tRe_s (tRe_s (tRe_s (tRe_s (tRe_1 (tMl_l (Or.inr (Or.inl rfl)) yh9 w8)) (tMd_y (Or.inr rfl) rfl (by omega))) (tM32_y (by omega) (by omega))) (tM33_y (lo := 1) (hi := 719) (by first | rw [if_pos (by omega)] | rw [if_neg (by omega)]) (by first | rw [if_pos (by omega)] | rw [if_neg (by omega), if_pos (by omega)] | rw [if_neg (by omega), if_neg (by omega)]) rfl (by omega))) (tMs_n (Or.inr (Or.inl rfl)) (e_9.2 z).1)⟩⟩)⟩
                · refine zj_iconst (zdk ttX11_readDeed 80 rfl rfl) ?_
                  refine zj_goto (t := 142) (zdk ttX11_readDeed 81 rfl rfl) (by decide) ?_
                  have f122 : zfr [12, 13, 14, 15, 29, 30] [18] h h3 := zfr_t (zfr_r _ _ _) f8 rfl rfl
                  have f121 : zfr [12, 13, 14, 15, 29, 30] [18] h h10 := zfr_wa f122 e11 rfl
                  have f120 : zfr [12, 13, 14, 15, 29, 30] [18] h h24 := zfr_t f121 f30 rfl rfl
                  have f119 : zfr [12, 13, 14, 15, 29, 30] [18] h h31 := zfr_wa f120 e32 rfl
                  have f118 : zfr [12, 13, 14, 15, 29, 30] [18] h h74 := zfr_t f119 f79 rfl rfl
                  have f117 : zfr [12, 13, 14, 15, 29, 30] [18] h h81 := zfr_wa f118 e82 rfl
                  have b123 : 0 ≤ (h.2 0 14) ∧ (h.2 0 14) ≤ 4 := fM_14 s0
                  have b124 : -2147483648 ≤ (h.2 0 15) ∧ (h.2 0 15) ≤ 2147483647 := fM_15 s0
                  have b125 : 0 ≤ (h3.2 0 14) ∧ (h3.2 0 14) ≤ 4 := fM_14 s5
                  have b126 : -2147483648 ≤ (h3.2 0 15) ∧ (h3.2 0 15) ≤ 2147483647 := fM_15 s5
                  have b127 : h10.2 0 14 = (h3.2 0 14) := (zwr_r e11 (by omega))
                  have b128 : h10.2 0 15 = (h3.2 0 15) := (zwr_r e11 (by omega))
                  have b129 : 0 ≤ (h24.2 0 14) ∧ (h24.2 0 14) ≤ 4 := fM_14 s26
                  have b130 : -2147483648 ≤ (h24.2 0 15) ∧ (h24.2 0 15) ≤ 2147483647 := fM_15 s26
                  have b131 : h31.2 0 14 = (h24.2 0 14) := (zwr_r e32 (by omega))
                  have b132 : h31.2 0 15 = (h24.2 0 15) := (zwr_r e32 (by omega))
                  have b133 : 0 ≤ (h74.2 0 14) ∧ (h74.2 0 14) ≤ 4 := fM_14 s76
                  have b134 : -2147483648 ≤ (h74.2 0 15) ∧ (h74.2 0 15) ≤ 2147483647 := fM_15 s76
                  have b135 : h81.2 0 14 = (h74.2 0 14) := (zwr_r e82 (by omega))
                  have b136 : h81.2 0 15 = (h74.2 0 15) := (zwr_r e82 (by omega))
                  exact zj_iret rfl (zdk ttX11_readDeed 85 rfl rfl) (Nat.le_refl _) (Nat.le_refl _) ⟨(-1), rfl, by omega, s83, f117, (fun q => absurd q (by decide)), (fun j q => ((((((zwr_r e82 (by omega)).trans (zfr_a f79 rfl (by decide))).trans (zwr_r e32 (by omega))).trans (zfr_a f30 rfl (by decide))).trans (zwr_r e11 (by omega))).trans (zfr_a f8 rfl (by decide)))), (by intro T j t0 yh9; have e_1 := u7 3 T j 200 t0 (fun t v q => by have k9 := tT3 q; omega) (by decide); have e_1y := e_1.1 (by omega); have e_1d := e_1y.2.1; have k_2 := tT3 e_1y.2.2.2.2.1; have k_2j := e_1y.2.2.1.1; have a_3 : tPm 3 T (j + 1 + 1) h10 := tPm_f e_1y.2.2 (fun k => (zwr_r e11 (by omega))) (fun k => (zwr_r e11 (by omega))) (zwr_r e11 (by omega)) (zwr_r e11 (by omega)) (zwr_r e11 (by omega)) (zwr_r e11 (by omega)) (zwr_r e11 (by omega)); clear k_2; have k_4 := tT3 a_3.2.2.1; have k_4j := a_3.1.1; have a_5 : tPm 3 T ((j + 1 + 1) + 1) h24 := tPm_r a_3 (by omega) (u29 a_3.2.2.2.2.2.1 (tPm_l a_3 (by omega))) (fun k => (zfr_a f30 rfl (by decide))) (fun k => (zfr_a f30 rfl (by decide))) (zfr_f f30 rfl rfl); have a_6 : tPm 3 T ((j + 1 + 1) + 1) h31 := tPm_f a_5 (fun k => (zwr_r e32 (by omega))) (fun k => (zwr_r e32 (by omega))) (zwr_r e32 (by omega)) (zwr_r e32 (by omega)) (zwr_r e32 (by omega)) (zwr_r e32 (by omega)) (zwr_r e32 (by omega)); have e_7 := u78 3 T ((j + 1 + 1) + 1) a_6; have e_7n := e_7.2 (by omega); exact ⟨fun z => absurd z (by omega), fun _ => ⟨((j + 1 + 1) + 1), _, (by have q9 := e_7n.2; unfold tEp at q9 ⊢; rw [show h31.2 7 = h.2 7 from funext fun i8 => ((((zwr_r e32 (by omega)).trans (zfr_a f30 rfl (by decide))).trans (zwr_r e11 (by omega))).trans (zfr_a f8 rfl (by decide))), show h31.2 0 11 = h.2 0 11 from ((((zwr_r e32 (by omega)).trans (zfr_f f30 rfl rfl)).trans (zwr_r e11 (by omega))).trans (zfr_f f8 rfl rfl))] at q9; rw [show h81.2 0 29 = h74.2 0 29 from (zwr_r e82 (by omega)), show h81.2 0 30 = h74.2 0 30 from (zwr_r e82 (by omega))]; exact q9), fun p9 w9 s9 w8 => tRe_s (tRe_s (tRe_s (tRe_1 (tMl_l (Or.inr (Or.inl rfl)) yh9 w8)) (tMd_y (Or.inr rfl) rfl (by omega))) (tM32_y (by omega) (by omega))) (tM33_n (lo := 1) (hi := 719) (by first | rw [if_pos (by omega)] | rw [if_neg (by omega)]) (by first | rw [if_pos (by omega)] | rw [if_neg (by omega), if_pos (by omega)] | rw [if_neg (by omega), if_neg (by omega)]) rfl (by omega) rfl)⟩⟩)⟩
              · refine zj_bipush (zdk ttX11_readDeed 67 rfl rfl) (by decide) ?_
                refine zj_goto (t := 116) (zdk ttX11_readDeed 68 rfl rfl) (by decide) ?_
                refine zj_callV (av := [.inl 1, .inl 99]) (st := [.inl (p1 + 2), .inr 18]) (zdk ttX11_readDeed 70 rfl rfl) mb_X11_readNumber mv_RX11_248 (ci := 11) rfl rfl (k_M s33) rfl rfl (Nat.le_of_ble_eq_true rfl) (s2_X11_readNumber l h31 1 99 s33 (by omega) (by omega)) (rm_ok (by decide) (by decide)) (zq_i fun v138 h139 q137 => ?_)
                obtain ⟨b140, s141, f144, u142, u143⟩ := q137
                have b145 : -1 ≤ v138 ∧ v138 ≤ 99 := by omega
                refine zj_iast (zdk ttX11_readDeed 71 rfl rfl) (kaM_18 s141) (by decide) (by omega) (fun h146 e147 => ?_)
                refine zj_aload_n (zdk ttX11_readDeed 72 rfl rfl) rfl (by decide) ?_
                have s148 : okM h146 := awM_18 s141 e147 (by omega) (by unfold nsp; omega)
                refine zj_getr (r := 18) (zdk ttX11_readDeed 73 rfl rfl) zf_RX11_65 rfl (k_M s148) (rfM_36 s148) ?_
                refine zj_iload_n (zdk ttX11_readDeed 74 rfl rfl) rfl ?_
                refine zj_iconst (zdk ttX11_readDeed 75 rfl rfl) ?_
                refine zj_iadd (zdk ttX11_readDeed 76 rfl rfl) ?_
                refine zj_iald (v := v138) (zdk ttX11_readDeed 77 rfl rfl) (kaM_18 s148) (by decide) (by omega) (zwr_v e147) ?_
                refine zj_iconst (zdk ttX11_readDeed 78 rfl rfl) ?_
                refine zj_icmp_ne (t := 136) (zdk ttX11_readDeed 79 rfl rfl) (by decide) (by omega) (by decide) (fun c149 => ?_) (fun c149 => ?_)
                · refine zj_aload_n (zdk ttX11_readDeed 82 rfl rfl) rfl (by decide) ?_
                  refine zj_bipush (zdk ttX11_readDeed 83 rfl rfl) (by decide) ?_
                  refine zj_callV (av := [.inl 59]) (st := []) (zdk ttX11_readDeed 84 rfl rfl) mb_X11_readMark mv_RX11_255 (ci := 11) rfl rfl (k_M s148) rfl rfl (Nat.le_of_ble_eq_true rfl) (s2_X11_readMark l h146 59 s148 (by omega)) (rm_ok (by decide) (by decide)) (zq_i fun v151 h152 q150 => ?_)
                  obtain ⟨b153, s154, f156, u155⟩ := q150
                  have f163 : zfr [12, 13, 14, 15, 29, 30] [18] h h3 := zfr_t (zfr_r _ _ _) f8 rfl rfl
                  have f162 : zfr [12, 13, 14, 15, 29, 30] [18] h h10 := zfr_wa f163 e11 rfl
                  have f161 : zfr [12, 13, 14, 15, 29, 30] [18] h h24 := zfr_t f162 f30 rfl rfl
                  have f160 : zfr [12, 13, 14, 15, 29, 30] [18] h h31 := zfr_wa f161 e32 rfl
                  have f159 : zfr [12, 13, 14, 15, 29, 30] [18] h h139 := zfr_t f160 f144 rfl rfl
                  have f158 : zfr [12, 13, 14, 15, 29, 30] [18] h h146 := zfr_wa f159 e147 rfl
                  have f157 : zfr [12, 13, 14, 15, 29, 30] [18] h h152 := zfr_t f158 f156 rfl rfl
                  have b164 : h152.2 18 (p1 + 1) = v15 := ((((zfr_a f156 rfl (by decide)).trans (zwr_r e147 (by omega))).trans (zfr_a f144 rfl (by decide))).trans (zwr_v e32))
                  have b165 : h152.2 18 (p1 + 2) = v138 := ((zfr_a f156 rfl (by decide)).trans (zwr_v e147))
                  have b166 : 0 ≤ (h.2 0 14) ∧ (h.2 0 14) ≤ 4 := fM_14 s0
                  have b167 : -2147483648 ≤ (h.2 0 15) ∧ (h.2 0 15) ≤ 2147483647 := fM_15 s0
                  have b168 : 0 ≤ (h3.2 0 14) ∧ (h3.2 0 14) ≤ 4 := fM_14 s5
                  have b169 : -2147483648 ≤ (h3.2 0 15) ∧ (h3.2 0 15) ≤ 2147483647 := fM_15 s5
                  have b170 : h10.2 0 14 = (h3.2 0 14) := (zwr_r e11 (by omega))
                  have b171 : h10.2 0 15 = (h3.2 0 15) := (zwr_r e11 (by omega))
                  have b172 : 0 ≤ (h24.2 0 14) ∧ (h24.2 0 14) ≤ 4 := fM_14 s26
                  have b173 : -2147483648 ≤ (h24.2 0 15) ∧ (h24.2 0 15) ≤ 2147483647 := fM_15 s26
                  have b174 : h31.2 0 14 = (h24.2 0 14) := (zwr_r e32 (by omega))
                  have b175 : h31.2 0 15 = (h24.2 0 15) := (zwr_r e32 (by omega))
                  have b176 : 0 ≤ (h139.2 0 14) ∧ (h139.2 0 14) ≤ 4 := fM_14 s141
                  have b177 : -2147483648 ≤ (h139.2 0 15) ∧ (h139.2 0 15) ≤ 2147483647 := fM_15 s141
                  have b178 : h146.2 0 14 = (h139.2 0 14) := (zwr_r e147 (by omega))
                  have b179 : h146.2 0 15 = (h139.2 0 15) := (zwr_r e147 (by omega))
                  have b180 : 0 ≤ (h152.2 0 14) ∧ (h152.2 0 14) ≤ 4 := fM_14 s154
                  have b181 : -2147483648 ≤ (h152.2 0 15) ∧ (h152.2 0 15) ≤ 2147483647 := fM_15 s154
                  exact zj_iret rfl (zdk ttX11_readDeed 85 rfl rfl) (Nat.le_refl _) (Nat.le_refl _) ⟨v151, rfl, by omega, s154, f157, (fun q => by unfold wfD1; omega), (fun j q => (((((((zfr_a f156 rfl (by decide)).trans (zwr_r e147 (by omega))).trans (zfr_a f144 rfl (by decide))).trans (zwr_r e32 (by omega))).trans (zfr_a f30 rfl (by decide))).trans (zwr_r e11 (by omega))).trans (zfr_a f8 rfl (by decide)))), (by intro T j t0 yh9; have e_1 := u7 3 T j 200 t0 (fun t v q => by have k9 := tT3 q; omega) (by decide); have e_1y := e_1.1 (by omega); have e_1d := e_1y.2.1; have k_2 := tT3 e_1y.2.2.2.2.1; have k_2j := e_1y.2.2.1.1; have a_3 : tPm 3 T (j + 1 + 1) h10 := tPm_f e_1y.2.2 (fun k => (zwr_r e11 (by omega))) (fun k => (zwr_r e11 (by omega))) (zwr_r e11 (by omega)) (zwr_r e11 (by omega)) (zwr_r e11 (by omega)) (zwr_r e11 (by omega)) (zwr_r e11 (by omega)); clear k_2; have k_4 := tT3 a_3.2.2.1; have k_4j := a_3.1.1; have a_5 : tPm 3 T ((j + 1 + 1) + 1) h24 := tPm_r a_3 (by omega) (u29 a_3.2.2.2.2.2.1 (tPm_l a_3 (by omega))) (fun k => (zfr_a f30 rfl (by decide))) (fun k => (zfr_a f30 rfl (by decide))) (zfr_f f30 rfl rfl); have a_6 : tPm 3 T ((j + 1 + 1) + 1) h31 := tPm_f a_5 (fun k => (zwr_r e32 (by omega))) (fun k => (zwr_r e32 (by omega))) (zwr_r e32 (by omega)) (zwr_r e32 (by omega)) (zwr_r e32 (by omega)) (zwr_r e32 (by omega)) (zwr_r e32 (by omega)); have e_7 := u143 3 T ((j + 1 + 1) + 1) a_6; have e_7y := e_7.1 (by omega); have e_7d := e_7y.1; have a_8 : tPm 3 T (((j + 1 + 1) + 1) + 1) h146 := tPm_f e_7y.2 (fun k => (zwr_r e147 (by omega))) (fun k => (zwr_r e147 (by omega))) (zwr_r e147 (by omega)) (zwr_r e147 (by omega)) (zwr_r e147 (by omega)) (zwr_r e147 (by omega)) (zwr_r e147 (by omega)); have e_9 := u155 3 T (((j + 1 + 1) + 1) + 1) a_8; exact ⟨fun z => ⟨((((j + 1 + 1) + 1) + 1) + 1), (e_9.1 z).2, by omega, fun p9 w9 s9 w8 => tRe_s (tRe_s (tRe_s (tRe_s (tRe_1 (tMl_l (Or.inr (Or.inl rfl)) yh9 w8)) (tMd_y (Or.inr rfl) rfl (by omega))) (tM32_y (by omega) (by omega))) (tM33_y (lo := 1) (hi := 99) (by first | rw [if_pos (by omega)] | rw [if_neg (by omega)]) (by first | rw [if_pos (by omega)] | rw [if_neg (by omega), if_pos (by omega)] | rw [if_neg (by omega), if_neg (by omega)]) rfl (by omega))) (tMs_y (Or.inr (Or.inl ⟨rfl, rfl⟩)) (e_9.1 z).1)⟩, fun z => ⟨(((j + 1 + 1) + 1) + 1), _, (by have q9 := (e_9.2 z).2; unfold tEp at q9 ⊢; rw [show h146.2 7 = h.2 7 from funext fun i8 => ((((((zwr_r e147 (by omega)).trans (zfr_a f144 rfl (by decide))).trans (zwr_r e32 (by omega))).trans (zfr_a f30 rfl (by decide))).trans (zwr_r e11 (by omega))).trans (zfr_a f8 rfl (by decide))), show h146.2 0 11 = h.2 0 11 from ((((((zwr_r e147 (by omega)).trans (zfr_f f144 rfl rfl)).trans (zwr_r e32 (by omega))).trans (zfr_f f30 rfl rfl)).trans (zwr_r e11 (by omega))).trans (zfr_f f8 rfl rfl))] at q9; exact q9), fun p9 w9 s9 w8 => tRe_s (tRe_s (tRe_s (tRe_s (tRe_1 (tMl_l (Or.inr (Or.inl rfl)) yh9 w8)) (tMd_y (Or.inr rfl) rfl (by omega))) (tM32_y (by omega) (by omega))) (tM33_y (lo := 1) (hi := 99) (by first | rw [if_pos (by omega)] | rw [if_neg (by omega)]) (by first | rw [if_pos (by omega)] | rw [if_neg (by omega), if_pos (by omega)] | rw [if_neg (by omega), if_neg (by omega)]) rfl (by omega))) (tMs_n (Or.inr (Or.inl rfl)) (e_9.2 z).1)⟩⟩)⟩
                · refine zj_iconst (zdk ttX11_readDeed 80 rfl rfl) ?_
                  refine zj_goto (t := 142) (zdk ttX11_readDeed 81 rfl rfl) (by decide) ?_
                  have f187 : zfr [12, 13, 14, 15, 29, 30] [18] h h3 := zfr_t (zfr_r _ _ _) f8 rfl rfl
                  have f186 : zfr [12, 13, 14, 15, 29, 30] [18] h h10 := zfr_wa f187 e11 rfl
                  have f185 : zfr [12, 13, 14, 15, 29, 30] [18] h h24 := zfr_t f186 f30 rfl rfl
                  have f184 : zfr [12, 13, 14, 15, 29, 30] [18] h h31 := zfr_wa f185 e32 rfl
                  have f183 : zfr [12, 13, 14, 15, 29, 30] [18] h h139 := zfr_t f184 f144 rfl rfl
                  have f182 : zfr [12, 13, 14, 15, 29, 30] [18] h h146 := zfr_wa f183 e147 rfl
                  have b188 : 0 ≤ (h.2 0 14) ∧ (h.2 0 14) ≤ 4 := fM_14 s0
                  have b189 : -2147483648 ≤ (h.2 0 15) ∧ (h.2 0 15) ≤ 2147483647 := fM_15 s0
                  have b190 : 0 ≤ (h3.2 0 14) ∧ (h3.2 0 14) ≤ 4 := fM_14 s5
                  have b191 : -2147483648 ≤ (h3.2 0 15) ∧ (h3.2 0 15) ≤ 2147483647 := fM_15 s5
                  have b192 : h10.2 0 14 = (h3.2 0 14) := (zwr_r e11 (by omega))
                  have b193 : h10.2 0 15 = (h3.2 0 15) := (zwr_r e11 (by omega))
                  have b194 : 0 ≤ (h24.2 0 14) ∧ (h24.2 0 14) ≤ 4 := fM_14 s26
                  have b195 : -2147483648 ≤ (h24.2 0 15) ∧ (h24.2 0 15) ≤ 2147483647 := fM_15 s26
                  have b196 : h31.2 0 14 = (h24.2 0 14) := (zwr_r e32 (by omega))
                  have b197 : h31.2 0 15 = (h24.2 0 15) := (zwr_r e32 (by omega))
                  have b198 : 0 ≤ (h139.2 0 14) ∧ (h139.2 0 14) ≤ 4 := fM_14 s141
                  have b199 : -2147483648 ≤ (h139.2 0 15) ∧ (h139.2 0 15) ≤ 2147483647 := fM_15 s141
                  have b200 : h146.2 0 14 = (h139.2 0 14) := (zwr_r e147 (by omega))
                  have b201 : h146.2 0 15 = (h139.2 0 15) := (zwr_r e147 (by omega))
                  exact zj_iret rfl (zdk ttX11_readDeed 85 rfl rfl) (Nat.le_refl _) (Nat.le_refl _) ⟨(-1), rfl, by omega, s148, f182, (fun q => absurd q (by decide)), (fun j q => ((((((zwr_r e147 (by omega)).trans (zfr_a f144 rfl (by decide))).trans (zwr_r e32 (by omega))).trans (zfr_a f30 rfl (by decide))).trans (zwr_r e11 (by omega))).trans (zfr_a f8 rfl (by decide)))), (by intro T j t0 yh9; have e_1 := u7 3 T j 200 t0 (fun t v q => by have k9 := tT3 q; omega) (by decide); have e_1y := e_1.1 (by omega); have e_1d := e_1y.2.1; have k_2 := tT3 e_1y.2.2.2.2.1; have k_2j := e_1y.2.2.1.1; have a_3 : tPm 3 T (j + 1 + 1) h10 := tPm_f e_1y.2.2 (fun k => (zwr_r e11 (by omega))) (fun k => (zwr_r e11 (by omega))) (zwr_r e11 (by omega)) (zwr_r e11 (by omega)) (zwr_r e11 (by omega)) (zwr_r e11 (by omega)) (zwr_r e11 (by omega)); clear k_2; have k_4 := tT3 a_3.2.2.1; have k_4j := a_3.1.1; have a_5 : tPm 3 T ((j + 1 + 1) + 1) h24 := tPm_r a_3 (by omega) (u29 a_3.2.2.2.2.2.1 (tPm_l a_3 (by omega))) (fun k => (zfr_a f30 rfl (by decide))) (fun k => (zfr_a f30 rfl (by decide))) (zfr_f f30 rfl rfl); have a_6 : tPm 3 T ((j + 1 + 1) + 1) h31 := tPm_f a_5 (fun k => (zwr_r e32 (by omega))) (fun k => (zwr_r e32 (by omega))) (zwr_r e32 (by omega)) (zwr_r e32 (by omega)) (zwr_r e32 (by omega)) (zwr_r e32 (by omega)) (zwr_r e32 (by omega)); have e_7 := u143 3 T ((j + 1 + 1) + 1) a_6; have e_7n := e_7.2 (by omega); exact ⟨fun z => absurd z (by omega), fun _ => ⟨((j + 1 + 1) + 1), _, (by have q9 := e_7n.2; unfold tEp at q9 ⊢; rw [show h31.2 7 = h.2 7 from funext fun i8 => ((((zwr_r e32 (by omega)).trans (zfr_a f30 rfl (by decide))).trans (zwr_r e11 (by omega))).trans (zfr_a f8 rfl (by decide))), show h31.2 0 11 = h.2 0 11 from ((((zwr_r e32 (by omega)).trans (zfr_f f30 rfl rfl)).trans (zwr_r e11 (by omega))).trans (zfr_f f8 rfl rfl))] at q9; rw [show h146.2 0 29 = h139.2 0 29 from (zwr_r e147 (by omega)), show h146.2 0 30 = h139.2 0 30 from (zwr_r e147 (by omega))]; exact q9), fun p9 w9 s9 w8 => tRe_s (tRe_s (tRe_s (tRe_1 (tMl_l (Or.inr (Or.inl rfl)) yh9 w8)) (tMd_y (Or.inr rfl) rfl (by omega))) (tM32_y (by omega) (by omega))) (tM33_n (lo := 1) (hi := 99) (by first | rw [if_pos (by omega)] | rw [if_neg (by omega)]) (by first | rw [if_pos (by omega)] | rw [if_neg (by omega), if_pos (by omega)] | rw [if_neg (by omega), if_neg (by omega)]) rfl (by omega) rfl)⟩⟩)⟩
            · exact absurd c70 (by omega)
          · refine zj_iconst (zdk ttX11_readDeed 53 rfl rfl) ?_
            refine zj_goto (t := 89) (zdk ttX11_readDeed 54 rfl rfl) (by decide) ?_
            refine zj_iload_n (zdk ttX11_readDeed 56 rfl rfl) rfl ?_
            refine zj_iconst (zdk ttX11_readDeed 57 rfl rfl) ?_
            refine zj_icmp_ge (t := 103) (zdk ttX11_readDeed 58 rfl rfl) (by decide) (by omega) (by decide) (fun c202 => ?_) (fun c202 => ?_)
            · exact absurd c202 (by omega)
            · refine zj_aload_n (zdk ttX11_readDeed 59 rfl rfl) rfl (by decide) ?_
              have b203 : 0 ≤ (h.2 0 6) ∧ (h.2 0 6) ≤ 18 := fM_6 s0
              refine zj_geti (v := (h.2 0 6)) (zdk ttX11_readDeed 60 rfl rfl) zf_RX11_132 rfl (k_M s33) ((((zwr_r e32 (by omega)).trans (zfr_f f30 rfl rfl)).trans (zwr_r e11 (by omega))).trans (zfr_f f8 rfl rfl)) ?_
              refine zj_iconst (zdk ttX11_readDeed 61 rfl rfl) ?_
              refine zj_isub (zdk ttX11_readDeed 62 rfl rfl) ?_
              refine zj_goto (t := 116) (zdk ttX11_readDeed 63 rfl rfl) (by decide) ?_
              refine zj_callV (av := [.inl 0, .inl ((h.2 0 6) - 1)]) (st := [.inl (p1 + 2), .inr 18]) (zdk ttX11_readDeed 70 rfl rfl) mb_X11_readNumber mv_RX11_248 (ci := 11) rfl rfl (k_M s33) rfl rfl (Nat.le_of_ble_eq_true rfl) (s2_X11_readNumber l h31 0 ((h.2 0 6) - 1) s33 (by omega) (by omega)) (rm_ok (by decide) (by decide)) (zq_i fun v205 h206 q204 => ?_)
              obtain ⟨b207, s208, f211, u209, u210⟩ := q204
              have b212 : -1 ≤ v205 ∧ v205 ≤ 17 := by omega
              refine zj_iast (zdk ttX11_readDeed 71 rfl rfl) (kaM_18 s208) (by decide) (by omega) (fun h213 e214 => ?_)
              refine zj_aload_n (zdk ttX11_readDeed 72 rfl rfl) rfl (by decide) ?_
              have s215 : okM h213 := awM_18 s208 e214 (by omega) (by unfold nsp; omega)
              refine zj_getr (r := 18) (zdk ttX11_readDeed 73 rfl rfl) zf_RX11_65 rfl (k_M s215) (rfM_36 s215) ?_
              refine zj_iload_n (zdk ttX11_readDeed 74 rfl rfl) rfl ?_
              refine zj_iconst (zdk ttX11_readDeed 75 rfl rfl) ?_
              refine zj_iadd (zdk ttX11_readDeed 76 rfl rfl) ?_
              refine zj_iald (v := v205) (zdk ttX11_readDeed 77 rfl rfl) (kaM_18 s215) (by decide) (by omega) (zwr_v e214) ?_
              refine zj_iconst (zdk ttX11_readDeed 78 rfl rfl) ?_
              refine zj_icmp_ne (t := 136) (zdk ttX11_readDeed 79 rfl rfl) (by decide) (by omega) (by decide) (fun c216 => ?_) (fun c216 => ?_)
              · refine zj_aload_n (zdk ttX11_readDeed 82 rfl rfl) rfl (by decide) ?_
                refine zj_bipush (zdk ttX11_readDeed 83 rfl rfl) (by decide) ?_
                refine zj_callV (av := [.inl 59]) (st := []) (zdk ttX11_readDeed 84 rfl rfl) mb_X11_readMark mv_RX11_255 (ci := 11) rfl rfl (k_M s215) rfl rfl (Nat.le_of_ble_eq_true rfl) (s2_X11_readMark l h213 59 s215 (by omega)) (rm_ok (by decide) (by decide)) (zq_i fun v218 h219 q217 => ?_)
                obtain ⟨b220, s221, f223, u222⟩ := q217
                have f230 : zfr [12, 13, 14, 15, 29, 30] [18] h h3 := zfr_t (zfr_r _ _ _) f8 rfl rfl
                have f229 : zfr [12, 13, 14, 15, 29, 30] [18] h h10 := zfr_wa f230 e11 rfl
                have f228 : zfr [12, 13, 14, 15, 29, 30] [18] h h24 := zfr_t f229 f30 rfl rfl
                have f227 : zfr [12, 13, 14, 15, 29, 30] [18] h h31 := zfr_wa f228 e32 rfl
                have f226 : zfr [12, 13, 14, 15, 29, 30] [18] h h206 := zfr_t f227 f211 rfl rfl
                have f225 : zfr [12, 13, 14, 15, 29, 30] [18] h h213 := zfr_wa f226 e214 rfl
                have f224 : zfr [12, 13, 14, 15, 29, 30] [18] h h219 := zfr_t f225 f223 rfl rfl
                have b231 : h219.2 18 (p1 + 1) = v15 := ((((zfr_a f223 rfl (by decide)).trans (zwr_r e214 (by omega))).trans (zfr_a f211 rfl (by decide))).trans (zwr_v e32))
                have b232 : h219.2 18 (p1 + 2) = v205 := ((zfr_a f223 rfl (by decide)).trans (zwr_v e214))
                have b233 : 0 ≤ (h.2 0 14) ∧ (h.2 0 14) ≤ 4 := fM_14 s0
                have b234 : -2147483648 ≤ (h.2 0 15) ∧ (h.2 0 15) ≤ 2147483647 := fM_15 s0
                have b235 : 0 ≤ (h3.2 0 14) ∧ (h3.2 0 14) ≤ 4 := fM_14 s5
                have b236 : -2147483648 ≤ (h3.2 0 15) ∧ (h3.2 0 15) ≤ 2147483647 := fM_15 s5
                have b237 : h10.2 0 14 = (h3.2 0 14) := (zwr_r e11 (by omega))
                have b238 : h10.2 0 15 = (h3.2 0 15) := (zwr_r e11 (by omega))
                have b239 : 0 ≤ (h24.2 0 14) ∧ (h24.2 0 14) ≤ 4 := fM_14 s26
                have b240 : -2147483648 ≤ (h24.2 0 15) ∧ (h24.2 0 15) ≤ 2147483647 := fM_15 s26
                have b241 : h31.2 0 14 = (h24.2 0 14) := (zwr_r e32 (by omega))
                have b242 : h31.2 0 15 = (h24.2 0 15) := (zwr_r e32 (by omega))
                have b243 : 0 ≤ (h206.2 0 14) ∧ (h206.2 0 14) ≤ 4 := fM_14 s208
                have b244 : -2147483648 ≤ (h206.2 0 15) ∧ (h206.2 0 15) ≤ 2147483647 := fM_15 s208
                have b245 : h213.2 0 14 = (h206.2 0 14) := (zwr_r e214 (by omega))
                have b246 : h213.2 0 15 = (h206.2 0 15) := (zwr_r e214 (by omega))
                have b247 : 0 ≤ (h219.2 0 14) ∧ (h219.2 0 14) ≤ 4 := fM_14 s221
                have b248 : -2147483648 ≤ (h219.2 0 15) ∧ (h219.2 0 15) ≤ 2147483647 := fM_15 s221
                exact zj_iret rfl (zdk ttX11_readDeed 85 rfl rfl) (Nat.le_refl _) (Nat.le_refl _) ⟨v218, rfl, by omega, s221, f224, (fun q => by unfold wfD1; omega), (fun j q => (((((((zfr_a f223 rfl (by decide)).trans (zwr_r e214 (by omega))).trans (zfr_a f211 rfl (by decide))).trans (zwr_r e32 (by omega))).trans (zfr_a f30 rfl (by decide))).trans (zwr_r e11 (by omega))).trans (zfr_a f8 rfl (by decide)))), (by intro T j t0 yh9; have e_1 := u7 3 T j 200 t0 (fun t v q => by have k9 := tT3 q; omega) (by decide); have e_1y := e_1.1 (by omega); have e_1d := e_1y.2.1; have k_2 := tT3 e_1y.2.2.2.2.1; have k_2j := e_1y.2.2.1.1; have a_3 : tPm 3 T (j + 1 + 1) h10 := tPm_f e_1y.2.2 (fun k => (zwr_r e11 (by omega))) (fun k => (zwr_r e11 (by omega))) (zwr_r e11 (by omega)) (zwr_r e11 (by omega)) (zwr_r e11 (by omega)) (zwr_r e11 (by omega)) (zwr_r e11 (by omega)); clear k_2; have k_4 := tT3 a_3.2.2.1; have k_4j := a_3.1.1; have a_5 : tPm 3 T ((j + 1 + 1) + 1) h24 := tPm_r a_3 (by omega) (u29 a_3.2.2.2.2.2.1 (tPm_l a_3 (by omega))) (fun k => (zfr_a f30 rfl (by decide))) (fun k => (zfr_a f30 rfl (by decide))) (zfr_f f30 rfl rfl); have a_6 : tPm 3 T ((j + 1 + 1) + 1) h31 := tPm_f a_5 (fun k => (zwr_r e32 (by omega))) (fun k => (zwr_r e32 (by omega))) (zwr_r e32 (by omega)) (zwr_r e32 (by omega)) (zwr_r e32 (by omega)) (zwr_r e32 (by omega)) (zwr_r e32 (by omega)); have e_7 := u210 3 T ((j + 1 + 1) + 1) a_6; have e_7y := e_7.1 (by omega); have e_7d := e_7y.1; have a_8 : tPm 3 T (((j + 1 + 1) + 1) + 1) h213 := tPm_f e_7y.2 (fun k => (zwr_r e214 (by omega))) (fun k => (zwr_r e214 (by omega))) (zwr_r e214 (by omega)) (zwr_r e214 (by omega)) (zwr_r e214 (by omega)) (zwr_r e214 (by omega)) (zwr_r e214 (by omega)); have e_9 := u222 3 T (((j + 1 + 1) + 1) + 1) a_8; exact ⟨fun z => ⟨((((j + 1 + 1) + 1) + 1) + 1), (e_9.1 z).2, by omega, fun p9 w9 s9 w8 => tRe_s (tRe_s (tRe_s (tRe_s (tRe_1 (tMl_l (Or.inr (Or.inl rfl)) yh9 w8)) (tMd_y (Or.inr rfl) rfl (by omega))) (tM32_y (by omega) (by omega))) (tM33_y (lo := 0) (hi := ((h.2 0 6) - 1)) (by first | rw [if_pos (by omega)] | rw [if_neg (by omega)]) (by first | rw [if_pos (by omega)] | rw [if_neg (by omega), if_pos (by omega)] | rw [if_neg (by omega), if_neg (by omega)]) rfl (by omega))) (tMs_y (Or.inr (Or.inl ⟨rfl, rfl⟩)) (e_9.1 z).1)⟩, fun z => ⟨(((j + 1 + 1) + 1) + 1), _, (by have q9 := (e_9.2 z).2; unfold tEp at q9 ⊢; rw [show h213.2 7 = h.2 7 from funext fun i8 => ((((((zwr_r e214 (by omega)).trans (zfr_a f211 rfl (by decide))).trans (zwr_r e32 (by omega))).trans (zfr_a f30 rfl (by decide))).trans (zwr_r e11 (by omega))).trans (zfr_a f8 rfl (by decide))), show h213.2 0 11 = h.2 0 11 from ((((((zwr_r e214 (by omega)).trans (zfr_f f211 rfl rfl)).trans (zwr_r e32 (by omega))).trans (zfr_f f30 rfl rfl)).trans (zwr_r e11 (by omega))).trans (zfr_f f8 rfl rfl))] at q9; exact q9), fun p9 w9 s9 w8 => tRe_s (tRe_s (tRe_s (tRe_s (tRe_1 (tMl_l (Or.inr (Or.inl rfl)) yh9 w8)) (tMd_y (Or.inr rfl) rfl (by omega))) (tM32_y (by omega) (by omega))) (tM33_y (lo := 0) (hi := ((h.2 0 6) - 1)) (by first | rw [if_pos (by omega)] | rw [if_neg (by omega)]) (by first | rw [if_pos (by omega)] | rw [if_neg (by omega), if_pos (by omega)] | rw [if_neg (by omega), if_neg (by omega)]) rfl (by omega))) (tMs_n (Or.inr (Or.inl rfl)) (e_9.2 z).1)⟩⟩)⟩
              · refine zj_iconst (zdk ttX11_readDeed 80 rfl rfl) ?_
                refine zj_goto (t := 142) (zdk ttX11_readDeed 81 rfl rfl) (by decide) ?_
                have f254 : zfr [12, 13, 14, 15, 29, 30] [18] h h3 := zfr_t (zfr_r _ _ _) f8 rfl rfl
                have f253 : zfr [12, 13, 14, 15, 29, 30] [18] h h10 := zfr_wa f254 e11 rfl
                have f252 : zfr [12, 13, 14, 15, 29, 30] [18] h h24 := zfr_t f253 f30 rfl rfl
                have f251 : zfr [12, 13, 14, 15, 29, 30] [18] h h31 := zfr_wa f252 e32 rfl
                have f250 : zfr [12, 13, 14, 15, 29, 30] [18] h h206 := zfr_t f251 f211 rfl rfl
                have f249 : zfr [12, 13, 14, 15, 29, 30] [18] h h213 := zfr_wa f250 e214 rfl
                have b255 : 0 ≤ (h.2 0 14) ∧ (h.2 0 14) ≤ 4 := fM_14 s0
                have b256 : -2147483648 ≤ (h.2 0 15) ∧ (h.2 0 15) ≤ 2147483647 := fM_15 s0
                have b257 : 0 ≤ (h3.2 0 14) ∧ (h3.2 0 14) ≤ 4 := fM_14 s5
                have b258 : -2147483648 ≤ (h3.2 0 15) ∧ (h3.2 0 15) ≤ 2147483647 := fM_15 s5
                have b259 : h10.2 0 14 = (h3.2 0 14) := (zwr_r e11 (by omega))
                have b260 : h10.2 0 15 = (h3.2 0 15) := (zwr_r e11 (by omega))
                have b261 : 0 ≤ (h24.2 0 14) ∧ (h24.2 0 14) ≤ 4 := fM_14 s26
                have b262 : -2147483648 ≤ (h24.2 0 15) ∧ (h24.2 0 15) ≤ 2147483647 := fM_15 s26
                have b263 : h31.2 0 14 = (h24.2 0 14) := (zwr_r e32 (by omega))
                have b264 : h31.2 0 15 = (h24.2 0 15) := (zwr_r e32 (by omega))
                have b265 : 0 ≤ (h206.2 0 14) ∧ (h206.2 0 14) ≤ 4 := fM_14 s208
                have b266 : -2147483648 ≤ (h206.2 0 15) ∧ (h206.2 0 15) ≤ 2147483647 := fM_15 s208
                have b267 : h213.2 0 14 = (h206.2 0 14) := (zwr_r e214 (by omega))
                have b268 : h213.2 0 15 = (h206.2 0 15) := (zwr_r e214 (by omega))
                exact zj_iret rfl (zdk ttX11_readDeed 85 rfl rfl) (Nat.le_refl _) (Nat.le_refl _) ⟨(-1), rfl, by omega, s215, f249, (fun q => absurd q (by decide)), (fun j q => ((((((zwr_r e214 (by omega)).trans (zfr_a f211 rfl (by decide))).trans (zwr_r e32 (by omega))).trans (zfr_a f30 rfl (by decide))).trans (zwr_r e11 (by omega))).trans (zfr_a f8 rfl (by decide)))), (by intro T j t0 yh9; have e_1 := u7 3 T j 200 t0 (fun t v q => by have k9 := tT3 q; omega) (by decide); have e_1y := e_1.1 (by omega); have e_1d := e_1y.2.1; have k_2 := tT3 e_1y.2.2.2.2.1; have k_2j := e_1y.2.2.1.1; have a_3 : tPm 3 T (j + 1 + 1) h10 := tPm_f e_1y.2.2 (fun k => (zwr_r e11 (by omega))) (fun k => (zwr_r e11 (by omega))) (zwr_r e11 (by omega)) (zwr_r e11 (by omega)) (zwr_r e11 (by omega)) (zwr_r e11 (by omega)) (zwr_r e11 (by omega)); clear k_2; have k_4 := tT3 a_3.2.2.1; have k_4j := a_3.1.1; have a_5 : tPm 3 T ((j + 1 + 1) + 1) h24 := tPm_r a_3 (by omega) (u29 a_3.2.2.2.2.2.1 (tPm_l a_3 (by omega))) (fun k => (zfr_a f30 rfl (by decide))) (fun k => (zfr_a f30 rfl (by decide))) (zfr_f f30 rfl rfl); have a_6 : tPm 3 T ((j + 1 + 1) + 1) h31 := tPm_f a_5 (fun k => (zwr_r e32 (by omega))) (fun k => (zwr_r e32 (by omega))) (zwr_r e32 (by omega)) (zwr_r e32 (by omega)) (zwr_r e32 (by omega)) (zwr_r e32 (by omega)) (zwr_r e32 (by omega)); have e_7 := u210 3 T ((j + 1 + 1) + 1) a_6; have e_7n := e_7.2 (by omega); exact ⟨fun z => absurd z (by omega), fun _ => ⟨((j + 1 + 1) + 1), _, (by have q9 := e_7n.2; unfold tEp at q9 ⊢; rw [show h31.2 7 = h.2 7 from funext fun i8 => ((((zwr_r e32 (by omega)).trans (zfr_a f30 rfl (by decide))).trans (zwr_r e11 (by omega))).trans (zfr_a f8 rfl (by decide))), show h31.2 0 11 = h.2 0 11 from ((((zwr_r e32 (by omega)).trans (zfr_f f30 rfl rfl)).trans (zwr_r e11 (by omega))).trans (zfr_f f8 rfl rfl))] at q9; rw [show h213.2 0 29 = h206.2 0 29 from (zwr_r e214 (by omega)), show h213.2 0 30 = h206.2 0 30 from (zwr_r e214 (by omega))]; exact q9), fun p9 w9 s9 w8 => tRe_s (tRe_s (tRe_s (tRe_1 (tMl_l (Or.inr (Or.inl rfl)) yh9 w8)) (tMd_y (Or.inr rfl) rfl (by omega))) (tM32_y (by omega) (by omega))) (tM33_n (lo := 0) (hi := ((h.2 0 6) - 1)) (by first | rw [if_pos (by omega)] | rw [if_neg (by omega)]) (by first | rw [if_pos (by omega)] | rw [if_neg (by omega), if_pos (by omega)] | rw [if_neg (by omega), if_neg (by omega)]) rfl (by omega) rfl)⟩⟩)⟩
        · refine zj_iconst (zdk ttX11_readDeed 47 rfl rfl) ?_
          refine zj_goto (t := 119) (zdk ttX11_readDeed 48 rfl rfl) (by decide) ?_
          refine zj_iast (zdk ttX11_readDeed 71 rfl rfl) (kaM_18 s33) (by decide) (by omega) (fun h269 e270 => ?_)
          refine zj_aload_n (zdk ttX11_readDeed 72 rfl rfl) rfl (by decide) ?_
          have s271 : okM h269 := awM_18 s33 e270 (by omega) (by unfold nsp; omega)
          refine zj_getr (r := 18) (zdk ttX11_readDeed 73 rfl rfl) zf_RX11_65 rfl (k_M s271) (rfM_36 s271) ?_
          refine zj_iload_n (zdk ttX11_readDeed 74 rfl rfl) rfl ?_
          refine zj_iconst (zdk ttX11_readDeed 75 rfl rfl) ?_
          refine zj_iadd (zdk ttX11_readDeed 76 rfl rfl) ?_
          refine zj_iald (v := 0) (zdk ttX11_readDeed 77 rfl rfl) (kaM_18 s271) (by decide) (by omega) (zwr_v e270) ?_
          refine zj_iconst (zdk ttX11_readDeed 78 rfl rfl) ?_
          refine zj_icmp_ne (t := 136) (zdk ttX11_readDeed 79 rfl rfl) (by decide) (by decide) (by decide) (fun c272 => ?_) (fun c272 => ?_)
          · refine zj_aload_n (zdk ttX11_readDeed 82 rfl rfl) rfl (by decide) ?_
            refine zj_bipush (zdk ttX11_readDeed 83 rfl rfl) (by decide) ?_
            refine zj_callV (av := [.inl 59]) (st := []) (zdk ttX11_readDeed 84 rfl rfl) mb_X11_readMark mv_RX11_255 (ci := 11) rfl rfl (k_M s271) rfl rfl (Nat.le_of_ble_eq_true rfl) (s2_X11_readMark l h269 59 s271 (by omega)) (rm_ok (by decide) (by decide)) (zq_i fun v274 h275 q273 => ?_)
            obtain ⟨b276, s277, f279, u278⟩ := q273
            have f285 : zfr [12, 13, 14, 15, 29, 30] [18] h h3 := zfr_t (zfr_r _ _ _) f8 rfl rfl
            have f284 : zfr [12, 13, 14, 15, 29, 30] [18] h h10 := zfr_wa f285 e11 rfl
            have f283 : zfr [12, 13, 14, 15, 29, 30] [18] h h24 := zfr_t f284 f30 rfl rfl
            have f282 : zfr [12, 13, 14, 15, 29, 30] [18] h h31 := zfr_wa f283 e32 rfl
            have f281 : zfr [12, 13, 14, 15, 29, 30] [18] h h269 := zfr_wa f282 e270 rfl
            have f280 : zfr [12, 13, 14, 15, 29, 30] [18] h h275 := zfr_t f281 f279 rfl rfl
            have b286 : h275.2 18 (p1 + 1) = v15 := (((zfr_a f279 rfl (by decide)).trans (zwr_r e270 (by omega))).trans (zwr_v e32))
            have b287 : h275.2 18 (p1 + 2) = 0 := ((zfr_a f279 rfl (by decide)).trans (zwr_v e270))
            have b288 : 0 ≤ (h.2 0 14) ∧ (h.2 0 14) ≤ 4 := fM_14 s0
            have b289 : -2147483648 ≤ (h.2 0 15) ∧ (h.2 0 15) ≤ 2147483647 := fM_15 s0
            have b290 : 0 ≤ (h3.2 0 14) ∧ (h3.2 0 14) ≤ 4 := fM_14 s5
            have b291 : -2147483648 ≤ (h3.2 0 15) ∧ (h3.2 0 15) ≤ 2147483647 := fM_15 s5
            have b292 : h10.2 0 14 = (h3.2 0 14) := (zwr_r e11 (by omega))
            have b293 : h10.2 0 15 = (h3.2 0 15) := (zwr_r e11 (by omega))
            have b294 : 0 ≤ (h24.2 0 14) ∧ (h24.2 0 14) ≤ 4 := fM_14 s26
            have b295 : -2147483648 ≤ (h24.2 0 15) ∧ (h24.2 0 15) ≤ 2147483647 := fM_15 s26
            have b296 : h31.2 0 14 = (h24.2 0 14) := (zwr_r e32 (by omega))
            have b297 : h31.2 0 15 = (h24.2 0 15) := (zwr_r e32 (by omega))
            have b298 : h269.2 0 14 = (h24.2 0 14) := ((zwr_r e270 (by omega)).trans (zwr_r e32 (by omega)))
            have b299 : h269.2 0 15 = (h24.2 0 15) := ((zwr_r e270 (by omega)).trans (zwr_r e32 (by omega)))
            have b300 : 0 ≤ (h275.2 0 14) ∧ (h275.2 0 14) ≤ 4 := fM_14 s277
            have b301 : -2147483648 ≤ (h275.2 0 15) ∧ (h275.2 0 15) ≤ 2147483647 := fM_15 s277
            exact zj_iret rfl (zdk ttX11_readDeed 85 rfl rfl) (Nat.le_refl _) (Nat.le_refl _) ⟨v274, rfl, by omega, s277, f280, (fun q => by unfold wfD1; omega), (fun j q => ((((((zfr_a f279 rfl (by decide)).trans (zwr_r e270 (by omega))).trans (zwr_r e32 (by omega))).trans (zfr_a f30 rfl (by decide))).trans (zwr_r e11 (by omega))).trans (zfr_a f8 rfl (by decide)))), (by intro T j t0 yh9; have e_1 := u7 3 T j 200 t0 (fun t v q => by have k9 := tT3 q; omega) (by decide); have e_1y := e_1.1 (by omega); have e_1d := e_1y.2.1; have k_2 := tT3 e_1y.2.2.2.2.1; have k_2j := e_1y.2.2.1.1; have a_3 : tPm 3 T (j + 1 + 1) h10 := tPm_f e_1y.2.2 (fun k => (zwr_r e11 (by omega))) (fun k => (zwr_r e11 (by omega))) (zwr_r e11 (by omega)) (zwr_r e11 (by omega)) (zwr_r e11 (by omega)) (zwr_r e11 (by omega)) (zwr_r e11 (by omega)); clear k_2; have k_4 := tT3 a_3.2.2.1; have k_4j := a_3.1.1; have a_5 : tPm 3 T ((j + 1 + 1) + 1) h24 := tPm_r a_3 (by omega) (u29 a_3.2.2.2.2.2.1 (tPm_l a_3 (by omega))) (fun k => (zfr_a f30 rfl (by decide))) (fun k => (zfr_a f30 rfl (by decide))) (zfr_f f30 rfl rfl); have a_6 : tPm 3 T ((j + 1 + 1) + 1) h31 := tPm_f a_5 (fun k => (zwr_r e32 (by omega))) (fun k => (zwr_r e32 (by omega))) (zwr_r e32 (by omega)) (zwr_r e32 (by omega)) (zwr_r e32 (by omega)) (zwr_r e32 (by omega)) (zwr_r e32 (by omega)); have a_7 : tPm 3 T ((j + 1 + 1) + 1) h269 := tPm_f a_6 (fun k => (zwr_r e270 (by omega))) (fun k => (zwr_r e270 (by omega))) (zwr_r e270 (by omega)) (zwr_r e270 (by omega)) (zwr_r e270 (by omega)) (zwr_r e270 (by omega)) (zwr_r e270 (by omega)); have e_8 := u278 3 T ((j + 1 + 1) + 1) a_7; exact ⟨fun z => ⟨(((j + 1 + 1) + 1) + 1), (e_8.1 z).2, by omega, fun p9 w9 s9 w8 => tRe_s (tRe_s (tRe_s (tRe_1 (tMl_l (Or.inr (Or.inl rfl)) yh9 w8)) (tMd_y (Or.inr rfl) rfl (by omega))) (tM32_s (by omega))) (tMs_y (Or.inr (Or.inl ⟨rfl, rfl⟩)) (e_8.1 z).1)⟩, fun z => ⟨((j + 1 + 1) + 1), _, (by have q9 := (e_8.2 z).2; unfold tEp at q9 ⊢; rw [show h269.2 7 = h.2 7 from funext fun i8 => (((((zwr_r e270 (by omega)).trans (zwr_r e32 (by omega))).trans (zfr_a f30 rfl (by decide))).trans (zwr_r e11 (by omega))).trans (zfr_a f8 rfl (by decide))), show h269.2 0 11 = h.2 0 11 from (((((zwr_r e270 (by omega)).trans (zwr_r e32 (by omega))).trans (zfr_f f30 rfl rfl)).trans (zwr_r e11 (by omega))).trans (zfr_f f8 rfl rfl))] at q9; exact q9), fun p9 w9 s9 w8 => tRe_s (tRe_s (tRe_s (tRe_1 (tMl_l (Or.inr (Or.inl rfl)) yh9 w8)) (tMd_y (Or.inr rfl) rfl (by omega))) (tM32_s (by omega))) (tMs_n (Or.inr (Or.inl rfl)) (e_8.2 z).1)⟩⟩)⟩
          · exact absurd c272 (by omega)
    · refine zj_aload_n (zdk ttX11_readDeed 23 rfl rfl) rfl (by decide) ?_
      refine zj_iconst (zdk ttX11_readDeed 24 rfl rfl) ?_
      refine zj_callV (av := [.inl 1]) (st := []) (zdk ttX11_readDeed 25 rfl rfl) mb_X11_errs mv_RX11_197 (ci := 11) rfl rfl (k_M s12) rfl rfl (Nat.le_of_ble_eq_true rfl) (s2_X11_errs l h10 1 s12 (by omega)) (rm_ok (by decide) (by decide)) (zq_i fun v303 h304 q302 => ?_)
      obtain ⟨b305, s306, f308, u307⟩ := q302
      have f311 : zfr [12, 13, 14, 15, 29, 30] [18] h h3 := zfr_t (zfr_r _ _ _) f8 rfl rfl
      have f310 : zfr [12, 13, 14, 15, 29, 30] [18] h h10 := zfr_wa f311 e11 rfl
      have f309 : zfr [12, 13, 14, 15, 29, 30] [18] h h304 := zfr_t f310 f308 rfl rfl
      have b312 : h304.2 18 (p1 + 1) = (h.2 18 (p1 + 1)) := (((zfr_a f308 rfl (by decide)).trans (zwr_r e11 (by omega))).trans (zfr_a f8 rfl (by decide)))
      have b313 : -2147483648 ≤ (h.2 18 (p1 + 1)) ∧ (h.2 18 (p1 + 1)) ≤ 2147483647 := abM_18 s0 (p1 + 1)
      have b314 : h304.2 18 (p1 + 2) = (h.2 18 (p1 + 2)) := (((zfr_a f308 rfl (by decide)).trans (zwr_r e11 (by omega))).trans (zfr_a f8 rfl (by decide)))
      have b315 : -2147483648 ≤ (h.2 18 (p1 + 2)) ∧ (h.2 18 (p1 + 2)) ≤ 2147483647 := abM_18 s0 (p1 + 2)
      have b316 : 0 ≤ (h.2 0 14) ∧ (h.2 0 14) ≤ 4 := fM_14 s0
      have b317 : -2147483648 ≤ (h.2 0 15) ∧ (h.2 0 15) ≤ 2147483647 := fM_15 s0
      have b318 : 0 ≤ (h3.2 0 14) ∧ (h3.2 0 14) ≤ 4 := fM_14 s5
      have b319 : -2147483648 ≤ (h3.2 0 15) ∧ (h3.2 0 15) ≤ 2147483647 := fM_15 s5
      have b320 : h10.2 0 14 = (h3.2 0 14) := (zwr_r e11 (by omega))
      have b321 : h10.2 0 15 = (h3.2 0 15) := (zwr_r e11 (by omega))
      have b322 : h304.2 0 14 = (h3.2 0 14) := ((zfr_f f308 rfl rfl).trans (zwr_r e11 (by omega)))
      have b323 : h304.2 0 15 = (h3.2 0 15) := ((zfr_f f308 rfl rfl).trans (zwr_r e11 (by omega)))
      exact zj_iret rfl (zdk ttX11_readDeed 26 rfl rfl) (Nat.le_refl _) (Nat.le_refl _) ⟨v303, rfl, by omega, s306, f309, (fun q => by unfold wfD1; omega), (fun j q => (((zfr_a f308 rfl (by decide)).trans (zwr_r e11 (by omega))).trans (zfr_a f8 rfl (by decide)))), (by intro T j t0 yh9; have e_1 := u7 3 T j 200 t0 (fun t v q => by have k9 := tT3 q; omega) (by decide); have e_1y := e_1.1 (by omega); have e_1d := e_1y.2.1; have k_2 := tT3 e_1y.2.2.2.2.1; have k_2j := e_1y.2.2.1.1; have a_3 : tPm 3 T (j + 1 + 1) h10 := tPm_f e_1y.2.2 (fun k => (zwr_r e11 (by omega))) (fun k => (zwr_r e11 (by omega))) (zwr_r e11 (by omega)) (zwr_r e11 (by omega)) (zwr_r e11 (by omega)) (zwr_r e11 (by omega)) (zwr_r e11 (by omega)); have e_4 : tEp h h304 (j + 1 + 1) 1 := ⟨u307.1, a_3.1.1, by have q9 := a_3.2.1; rw [show h10.2 7 = h.2 7 from funext fun i9 => ((zwr_r e11 (by omega)).trans (zfr_a f8 rfl (by decide))), show h10.2 0 11 = h.2 0 11 from ((zwr_r e11 (by omega)).trans (zfr_f f8 rfl rfl))] at q9; rw [u307.2]; exact q9⟩; exact ⟨fun z => absurd z (by omega), fun _ => ⟨(j + 1 + 1), _, e_4, fun p9 w9 s9 w8 => tRe_s (tRe_s (tRe_1 (tMl_l (Or.inr (Or.inl rfl)) yh9 w8)) (tMd_y (Or.inr rfl) rfl (by omega))) (tM32_n (by omega))⟩⟩)⟩
  · refine zj_iconst (zdk ttX11_readDeed 15 rfl rfl) ?_
    have f325 : zfr [12, 13, 14, 15, 29, 30] [18] h h3 := zfr_t (zfr_r _ _ _) f8 rfl rfl
    have f324 : zfr [12, 13, 14, 15, 29, 30] [18] h h10 := zfr_wa f325 e11 rfl
    have b326 : 0 ≤ (h.2 0 14) ∧ (h.2 0 14) ≤ 4 := fM_14 s0
    have b327 : -2147483648 ≤ (h.2 0 15) ∧ (h.2 0 15) ≤ 2147483647 := fM_15 s0
    have b328 : 0 ≤ (h3.2 0 14) ∧ (h3.2 0 14) ≤ 4 := fM_14 s5
    have b329 : -2147483648 ≤ (h3.2 0 15) ∧ (h3.2 0 15) ≤ 2147483647 := fM_15 s5
    have b330 : h10.2 0 14 = (h3.2 0 14) := (zwr_r e11 (by omega))
    have b331 : h10.2 0 15 = (h3.2 0 15) := (zwr_r e11 (by omega))
    exact zj_iret rfl (zdk ttX11_readDeed 16 rfl rfl) (Nat.le_refl _) (Nat.le_refl _) ⟨(-1), rfl, by omega, s12, f324, (fun q => absurd q (by decide)), (fun j q => ((zwr_r e11 (by omega)).trans (zfr_a f8 rfl (by decide)))), (by intro T j t0 yh9; have e_1 := u7 3 T j 200 t0 (fun t v q => by have k9 := tT3 q; omega) (by decide); have e_1n := (e_1.2 (by omega)).resolve_left (fun q => q.1 yh9); exact ⟨fun z => absurd z (by omega), fun _ => ⟨(j + 1), _, (by have q9 := e_1n.2.2; unfold tEp at q9 ⊢; rw [show h10.2 0 29 = h3.2 0 29 from (zwr_r e11 (by omega)), show h10.2 0 30 = h3.2 0 30 from (zwr_r e11 (by omega))]; exact q9), fun p9 w9 s9 w8 => tRe_s (tRe_1 (tMl_l (Or.inr (Or.inl rfl)) yh9 w8)) (tMd_n (Or.inr rfl) rfl (by omega) rfl)⟩⟩)⟩

abbrev q2_X11_readTown (h : zM) : Option zV → zM → Prop := zqi fun v h' => ((-1) ≤ v ∧ v ≤ 16) ∧ okM h' ∧ zfr [12, 13, 14, 15, 29, 30] [18] h h' ∧ (∀ j, 0 ≤ j → j < v → wfD1 (h'.2 18 (48 + 3 * j + 1)) (h'.2 18 (48 + 3 * j + 2))) ∧ (∀ T, tPm 3 T 0 h → (0 ≤ v → ∃ j9, ∀ p9 : Int, tRe T (h.2 0 6) (30, 0, 0, []) (1, j9, v, [])) ∧ (v = -1 → ∃ i9 f9, tEp h h' i9 f9 ∧ ∀ p9 : Int, tRe T (h.2 0 6) (30, 0, 0, []) (tEr i9 f9)))
set_option maxRecDepth 100000 in
set_option maxHeartbeats 4000000 in
theorem s2_X11_readTown (l : Launch) (h : zM) (s0 : okM h) : zT shM l yX11_readTown cX11_readTown 2 (some .int) (rmL 7) 0 0 [.inr 0] h (q2_X11_readTown h) := by
  refine zT_of (by decide +kernel) (L0 := [some (.inr 0), none]) rfl (Nat.le_of_ble_eq_true rfl) ?_
  refine zj_iconst (zdk ttX11_readTown 0 rfl rfl) ?_
  refine zj_istore_n (L' := [some (.inr 0), some (.inl 0)]) (zdk ttX11_readTown 1 rfl rfl) (by decide) rfl ?_
  have lp24 : ∀ (n2 : Nat) (x1 : Int) (h2 : zM), (0 ≤ x1 ∧ x1 ≤ 16) → okM h2 → zfr [12, 13, 14, 15, 29, 30] [18] h h2 → (∀ j, 0 ≤ j → j < x1 → wfD1 (h2.2 18 (48 + 3 * j + 1)) (h2.2 18 (48 + 3 * j + 2))) → (∀ T, tPm 3 T 0 h → ∃ j9, tPm 3 T j9 h2 ∧ ∀ p9 : Int, tRe T (h.2 0 6) (30, 0, 0, []) (30, j9, x1, [])) → (17 - x1).toNat < n2 → zJ shM l yX11_readTown cX11_readTown 2 (some .int) (rmL 7) 0 0 (q2_X11_readTown h) 0 0 2 [some (.inr 0), some (.inl x1)] [] h2 := by
    intro n2
    induction n2 with
    | zero => intro x1 h2 b25 s3 f4 u26 u27 m28; exact absurd m28 (Nat.not_lt_zero _)
    | succ n2 ih29 =>
      intro x1 h2 b25 s3 f4 u26 u27 m28
      refine zj_aload_n (zdk ttX11_readTown 2 rfl rfl) rfl (by decide) ?_
      refine zj_bipush (zdk ttX11_readTown 3 rfl rfl) (by decide) ?_
      refine zj_callV (av := [.inl 17]) (st := []) (zdk ttX11_readTown 4 rfl rfl) mb_X11_isWord mv_RX11_226 (ci := 11) rfl rfl (k_M s3) rfl rfl (Nat.le_of_ble_eq_true rfl) (s_X11_isWord l h2 17 s3 (by omega)) (rm_ok (by decide) (by decide)) (zq_i fun v31 h32 q30 => ?_)
      obtain ⟨rfl, b34, b35, ⟨rfl, b33⟩ | ⟨rfl, b33⟩⟩ := q30
      · refine zj_if_eq (t := 46) (zdk ttX11_readTown 5 rfl rfl) (by decide) (by decide) (fun c36 => ?_) (fun c36 => ?_)
        · refine zj_aload_n (zdk ttX11_readTown 29 rfl rfl) rfl (by decide) ?_
          refine zj_geti (v := (h2.2 0 14)) (zdk ttX11_readTown 30 rfl rfl) zf_RX11_166 rfl (k_M s3) rfl ?_
          refine zj_if_ne (t := 57) (zdk ttX11_readTown 31 rfl rfl) (by decide) (by omega) (fun c37 => ?_) (fun c37 => ?_)
          · refine zj_aload_n (zdk ttX11_readTown 34 rfl rfl) rfl (by decide) ?_
            refine zj_iconst (zdk ttX11_readTown 35 rfl rfl) ?_
            refine zj_callV (av := [.inl 1]) (st := []) (zdk ttX11_readTown 36 rfl rfl) mb_X11_errs mv_RX11_197 (ci := 11) rfl rfl (k_M s3) rfl rfl (Nat.le_of_ble_eq_true rfl) (s2_X11_errs l h2 1 s3 (by omega)) (rm_ok (by decide) (by decide)) (zq_i fun v39 h40 q38 => ?_)
            obtain ⟨b41, s42, f44, u43⟩ := q38
            have f45 : zfr [12, 13, 14, 15, 29, 30] [18] h h40 := zfr_t f4 f44 rfl rfl
            have b46 : 0 ≤ (h.2 0 14) ∧ (h.2 0 14) ≤ 4 := fM_14 s0
            have b47 : -2147483648 ≤ (h.2 0 15) ∧ (h.2 0 15) ≤ 2147483647 := fM_15 s0
            have b48 : h40.2 0 14 = (h2.2 0 14) := (zfr_f f44 rfl rfl)
            have b49 : h40.2 0 15 = (h2.2 0 15) := (zfr_f f44 rfl rfl)
            exact zj_iret rfl (zdk ttX11_readTown 37 rfl rfl) (Nat.le_refl _) (Nat.le_refl _) ⟨v39, rfl, by omega, s42, f45, (fun j q1 q2 => absurd q1 (by omega)), (by intro T t0; obtain ⟨xj, xa, xr⟩ := u27 T t0; have k_1 := tT3 xa.2.2.1; have k_1j := xa.1.1; have e_2 : tEp h h40 xj 1 := ⟨u43.1, xa.1.1, by have q9 := xa.2.1; rw [show h2.2 7 = h.2 7 from funext fun i9 => (zfr_a f4 rfl (by decide)), show h2.2 0 11 = h.2 0 11 from (zfr_f f4 rfl rfl)] at q9; rw [u43.2]; exact q9⟩; exact ⟨fun z => absurd z (by omega), fun _ => ⟨xj, _, e_2, fun p9 => by first | exact tRe_s (xr p9) (tMl_3 (Or.inr (Or.inl rfl)) (by omega) (by omega)) | exact tRe_s (xr p9) (tMl_1 (Or.inr (Or.inl rfl)) (by omega) (by omega))⟩⟩)⟩
          · refine zj_iload_n (zdk ttX11_readTown 32 rfl rfl) rfl ?_
            refine zj_goto (t := 62) (zdk ttX11_readTown 33 rfl rfl) (by decide) ?_
            have b50 : 0 ≤ (h.2 0 14) ∧ (h.2 0 14) ≤ 4 := fM_14 s0
            have b51 : -2147483648 ≤ (h.2 0 15) ∧ (h.2 0 15) ≤ 2147483647 := fM_15 s0
            exact zj_iret rfl (zdk ttX11_readTown 37 rfl rfl) (Nat.le_refl _) (Nat.le_refl _) ⟨x1, rfl, by omega, s3, f4, u26, (by intro T t0; obtain ⟨xj, xa, xr⟩ := u27 T t0; have k_1 := tT3 xa.2.2.1; have k_1j := xa.1.1; exact ⟨fun _ => ⟨xj, fun p9 => tRe_s (xr p9) (tMl_e (Or.inr (Or.inl rfl)) (by omega))⟩, fun z => absurd z (by omega)⟩)⟩
        · exact absurd c36 (by omega)
      · refine zj_if_eq (t := 46) (zdk ttX11_readTown 5 rfl rfl) (by decide) (by decide) (fun c52 => ?_) (fun c52 => ?_)
        · exact absurd c52 (by omega)
        · refine zj_iload_n (zdk ttX11_readTown 6 rfl rfl) rfl ?_
          refine zj_bipush (zdk ttX11_readTown 7 rfl rfl) (by decide) ?_
          refine zj_icmp_ne (t := 23) (zdk ttX11_readTown 8 rfl rfl) (by decide) (by omega) (by decide) (fun c53 => ?_) (fun c53 => ?_)
          · refine zj_aload_n (zdk ttX11_readTown 13 rfl rfl) rfl (by decide) ?_
            refine zj_bipush (zdk ttX11_readTown 14 rfl rfl) (by decide) ?_
            refine zj_iconst (zdk ttX11_readTown 15 rfl rfl) ?_
            refine zj_iload_n (zdk ttX11_readTown 16 rfl rfl) rfl ?_
            refine zj_imul (zdk ttX11_readTown 17 rfl rfl) ?_
            refine zj_iadd (zdk ttX11_readTown 18 rfl rfl) ?_
            refine zj_callV (av := [.inl (48 + (3 * x1))]) (st := []) (zdk ttX11_readTown 19 rfl rfl) mb_X11_readDeed mv_RX11_264 (ci := 11) rfl rfl (k_M s3) rfl rfl (Nat.le_of_ble_eq_true rfl) (s2_X11_readDeed l h2 (48 + (3 * x1)) s3 (by omega)) (rm_ok (by decide) (by decide)) (zq_i fun v55 h56 q54 => ?_)
            obtain ⟨b57, s58, f62, u59, u60, u61⟩ := q54
            refine zj_iconst (zdk ttX11_readTown 20 rfl rfl) ?_
            refine zj_icmp_ne (t := 39) (zdk ttX11_readTown 21 rfl rfl) (by decide) (by omega) (by decide) (fun c63 => ?_) (fun c63 => ?_)
            · refine zj_iload_n (zdk ttX11_readTown 24 rfl rfl) rfl ?_
              refine zj_iconst (zdk ttX11_readTown 25 rfl rfl) ?_
              refine zj_iadd (zdk ttX11_readTown 26 rfl rfl) ?_
              refine zj_istore_n (L' := [some (.inr 0), some (.inl (x1 + 1))]) (zdk ttX11_readTown 27 rfl rfl) (by decide) rfl ?_
              refine zj_goto (t := 2) (zdk ttX11_readTown 28 rfl rfl) (by decide) ?_
              have f64 : zfr [12, 13, 14, 15, 29, 30] [18] h h56 := zfr_t f4 f62 rfl rfl
              have b65 : 0 ≤ (h.2 0 14) ∧ (h.2 0 14) ≤ 4 := fM_14 s0
              have b66 : -2147483648 ≤ (h.2 0 15) ∧ (h.2 0 15) ≤ 2147483647 := fM_15 s0
              have b67 : 0 ≤ (h56.2 0 14) ∧ (h56.2 0 14) ≤ 4 := fM_14 s58
              have b68 : -2147483648 ≤ (h56.2 0 15) ∧ (h56.2 0 15) ≤ 2147483647 := fM_15 s58
              exact ih29  (x1 + 1) h56 (by omega) s58 f64 (fun j q1 q2 => (Classical.em (j = x1)).elim (fun q => by rw [q]; exact u59 (by omega)) (fun q => by rw [u60 _ (by omega), u60 _ (by omega)]; exact u26 j q1 (by omega))) (by intro T t0; obtain ⟨xj, xa, xr⟩ := u27 T t0; have k_1 := tT3 xa.2.2.1; have k_1j := xa.1.1; obtain ⟨yj, ya, yl, yr⟩ := (u61 T xj xa (by omega)).1 (by omega); exact ⟨yj, ya, fun p9 => tRe_t (xr p9) (yr p9 x1 [] (by omega))⟩) (by omega)
            · refine zj_iconst (zdk ttX11_readTown 22 rfl rfl) ?_
              have f69 : zfr [12, 13, 14, 15, 29, 30] [18] h h56 := zfr_t f4 f62 rfl rfl
              have b70 : 0 ≤ (h.2 0 14) ∧ (h.2 0 14) ≤ 4 := fM_14 s0
              have b71 : -2147483648 ≤ (h.2 0 15) ∧ (h.2 0 15) ≤ 2147483647 := fM_15 s0
              have b72 : 0 ≤ (h56.2 0 14) ∧ (h56.2 0 14) ≤ 4 := fM_14 s58
              have b73 : -2147483648 ≤ (h56.2 0 15) ∧ (h56.2 0 15) ≤ 2147483647 := fM_15 s58
              exact zj_iret rfl (zdk ttX11_readTown 23 rfl rfl) (Nat.le_refl _) (Nat.le_refl _) ⟨(-1), rfl, by omega, s58, f69, (fun j q1 q2 => absurd q1 (by omega)), (by intro T t0; obtain ⟨xj, xa, xr⟩ := u27 T t0; have k_1 := tT3 xa.2.2.1; have k_1j := xa.1.1; obtain ⟨ei, ef, ep, er⟩ := (u61 T xj xa (by omega)).2 (by omega); exact ⟨fun z => absurd z (by omega), fun _ => ⟨ei, ef, (by have q9 := ep; unfold tEp at q9 ⊢; rw [show h2.2 7 = h.2 7 from funext fun i8 => (zfr_a f4 rfl (by decide)), show h2.2 0 11 = h.2 0 11 from (zfr_f f4 rfl rfl)] at q9; exact q9), fun p9 => tRe_t (xr p9) (er p9 x1 [] (by omega))⟩⟩)⟩
          · refine zj_aload_n (zdk ttX11_readTown 9 rfl rfl) rfl (by decide) ?_
            refine zj_iconst (zdk ttX11_readTown 10 rfl rfl) ?_
            refine zj_callV (av := [.inl 3]) (st := []) (zdk ttX11_readTown 11 rfl rfl) mb_X11_errs mv_RX11_197 (ci := 11) rfl rfl (k_M s3) rfl rfl (Nat.le_of_ble_eq_true rfl) (s2_X11_errs l h2 3 s3 (by omega)) (rm_ok (by decide) (by decide)) (zq_i fun v75 h76 q74 => ?_)
            obtain ⟨b77, s78, f80, u79⟩ := q74
            have f81 : zfr [12, 13, 14, 15, 29, 30] [18] h h76 := zfr_t f4 f80 rfl rfl
            have b82 : 0 ≤ (h.2 0 14) ∧ (h.2 0 14) ≤ 4 := fM_14 s0
            have b83 : -2147483648 ≤ (h.2 0 15) ∧ (h.2 0 15) ≤ 2147483647 := fM_15 s0
            have b84 : h76.2 0 14 = (h2.2 0 14) := (zfr_f f80 rfl rfl)
            have b85 : h76.2 0 15 = (h2.2 0 15) := (zfr_f f80 rfl rfl)
            exact zj_iret rfl (zdk ttX11_readTown 12 rfl rfl) (Nat.le_refl _) (Nat.le_refl _) ⟨v75, rfl, by omega, s78, f81, (fun j q1 q2 => absurd q1 (by omega)), (by intro T t0; obtain ⟨xj, xa, xr⟩ := u27 T t0; have k_1 := tT3 xa.2.2.1; have k_1j := xa.1.1; have e_2 : tEp h h76 xj 3 := ⟨u79.1, xa.1.1, by have q9 := xa.2.1; rw [show h2.2 7 = h.2 7 from funext fun i9 => (zfr_a f4 rfl (by decide)), show h2.2 0 11 = h.2 0 11 from (zfr_f f4 rfl rfl)] at q9; rw [u79.2]; exact q9⟩; exact ⟨fun z => absurd z (by omega), fun _ => ⟨xj, _, e_2, fun p9 => by first | exact tRe_s (xr p9) (tMl_3 (Or.inr (Or.inl rfl)) (by omega) (by omega)) | exact tRe_s (xr p9) (tMl_1 (Or.inr (Or.inl rfl)) (by omega) (by omega))⟩⟩)⟩
  have b86 : 0 ≤ (h.2 0 14) ∧ (h.2 0 14) ≤ 4 := fM_14 s0
  have b87 : -2147483648 ≤ (h.2 0 15) ∧ (h.2 0 15) ≤ 2147483647 := fM_15 s0
  exact lp24 _ 0 h (by omega) s0 (zfr_r _ _ _) (fun j q1 q2 => absurd q1 (by omega)) (by intro T t0; exact ⟨0, t0, fun p9 => tRe_r⟩) (Nat.lt_succ_self _)

