abbrev q2_X11_readCompared (h : zM) : Option zV → zM → Prop := zqi fun v h' => ((-1) ≤ v ∧ v ≤ 0) ∧ okM h' ∧ zfr [12, 13, 14, 15, 25, 29, 30] [14, 15] h h' ∧ (v = 0 → RD h h') ∧ (tLo h h') ∧ (∀ T j, tPm 0 T j h → (v = 0 → ∃ j9, tPm 0 T j9 h' ∧ j < j9 ∧ ∀ p9 s9 d9, tRe T p9 (3, j, 0, 101 :: s9, tCm h, d9) (9, j9, 0, s9, tCm h', d9)) ∧ (v = -1 → ∃ i9 f9, tEp h h' i9 f9 ∧ ∀ p9 s9 d9, tRe T p9 (3, j, 0, 101 :: s9, tCm h, d9) (tEr i9 f9)))
set_option maxRecDepth 100000 in
set_option maxHeartbeats 4000000 in
theorem s2_X11_readCompared (l : Launch) (h : zM) (s0 : okM h) (u_0 : tok h) (u_1 : h.2 0 25 ≤ h.2 0 13) : zT shM l yX11_readCompared cX11_readCompared 2 (some .int) (rmL 7) 0 0 [.inr 0] h (q2_X11_readCompared h) := by
  refine zT_of (by decide +kernel) (L0 := [some (.inr 0), none]) rfl (Nat.le_of_ble_eq_true rfl) ?_
  refine zj_aload_n (zdk ttX11_readCompared 0 rfl rfl) rfl (by decide) ?_
  refine zj_callV (av := []) (st := []) (zdk ttX11_readCompared 1 rfl rfl) mb_X11_readSum mv_RX11_217 (ci := 11) rfl rfl (k_M s0) rfl rfl (Nat.le_of_ble_eq_true rfl) (s2_X11_readSum l h s0 u_0 u_1) (rm_ok (by decide) (by decide)) (zq_i fun v2 h3 q1 => ?_)
  obtain ⟨b4, s5, f9, u6, u7, u8⟩ := q1
  refine zj_iconst (zdk ttX11_readCompared 2 rfl rfl) ?_
  refine zj_icmp_ne (t := 10) (zdk ttX11_readCompared 3 rfl rfl) (by decide) (by omega) (by decide) (fun c10 => ?_) (fun c10 => ?_)
  · refine zj_aload_n (zdk ttX11_readCompared 6 rfl rfl) rfl (by decide) ?_
    refine zj_bipush (zdk ttX11_readCompared 7 rfl rfl) (by decide) ?_
    refine zj_callV (av := [.inl 60]) (st := []) (zdk ttX11_readCompared 8 rfl rfl) mb_X11_isSign mv_RX11_211 (ci := 11) rfl rfl (k_M s5) rfl rfl (Nat.le_of_ble_eq_true rfl) (s_X11_isSign l h3 60 s5 (by omega)) (rm_ok (by decide) (by decide)) (zq_i fun v12 h13 q11 => ?_)
    obtain ⟨rfl, b15, b16, ⟨rfl, b14⟩ | ⟨rfl, b14⟩⟩ := q11
    · refine zj_if_ne (t := 43) (zdk ttX11_readCompared 9 rfl rfl) (by decide) (by decide) (fun c17 => ?_) (fun c17 => ?_)
      · exact absurd c17 (by omega)
      · refine zj_aload_n (zdk ttX11_readCompared 10 rfl rfl) rfl (by decide) ?_
        refine zj_bipush (zdk ttX11_readCompared 11 rfl rfl) (by decide) ?_
        refine zj_callV (av := [.inl 61]) (st := []) (zdk ttX11_readCompared 12 rfl rfl) mb_X11_isSign mv_RX11_211 (ci := 11) rfl rfl (k_M s5) rfl rfl (Nat.le_of_ble_eq_true rfl) (s_X11_isSign l h3 61 s5 (by omega)) (rm_ok (by decide) (by decide)) (zq_i fun v19 h20 q18 => ?_)
        obtain ⟨rfl, b22, b23, ⟨rfl, b21⟩ | ⟨rfl, b21⟩⟩ := q18
        · refine zj_if_ne (t := 43) (zdk ttX11_readCompared 13 rfl rfl) (by decide) (by decide) (fun c24 => ?_) (fun c24 => ?_)
          · exact absurd c24 (by omega)
          · refine zj_aload_n (zdk ttX11_readCompared 14 rfl rfl) rfl (by decide) ?_
            refine zj_bipush (zdk ttX11_readCompared 15 rfl rfl) (by decide) ?_
            refine zj_callV (av := [.inl 62]) (st := []) (zdk ttX11_readCompared 16 rfl rfl) mb_X11_isSign mv_RX11_211 (ci := 11) rfl rfl (k_M s5) rfl rfl (Nat.le_of_ble_eq_true rfl) (s_X11_isSign l h3 62 s5 (by omega)) (rm_ok (by decide) (by decide)) (zq_i fun v26 h27 q25 => ?_)
            obtain ⟨rfl, b29, b30, ⟨rfl, b28⟩ | ⟨rfl, b28⟩⟩ := q25
            · refine zj_if_ne (t := 43) (zdk ttX11_readCompared 17 rfl rfl) (by decide) (by decide) (fun c31 => ?_) (fun c31 => ?_)
              · exact absurd c31 (by omega)
              · refine zj_aload_n (zdk ttX11_readCompared 18 rfl rfl) rfl (by decide) ?_
                refine zj_iconst (zdk ttX11_readCompared 19 rfl rfl) ?_
                refine zj_callV (av := [.inl 1]) (st := []) (zdk ttX11_readCompared 20 rfl rfl) mb_X11_errs mv_RX11_197 (ci := 11) rfl rfl (k_M s5) rfl rfl (Nat.le_of_ble_eq_true rfl) (s2_X11_errs l h3 1 s5 (by omega)) (rm_ok (by decide) (by decide)) (zq_i fun v33 h34 q32 => ?_)
                obtain ⟨b35, s36, f38, u37⟩ := q32
                have f40 : zfr [12, 13, 14, 15, 25, 29, 30] [14, 15] h h3 := zfr_t (zfr_r _ _ _) f9 rfl rfl
                have f39 : zfr [12, 13, 14, 15, 25, 29, 30] [14, 15] h h34 := zfr_t f40 f38 rfl rfl
                have b41 : 0 ≤ (h.2 0 14) ∧ (h.2 0 14) ≤ 4 := fM_14 s0
                have b42 : -2147483648 ≤ (h.2 0 15) ∧ (h.2 0 15) ≤ 2147483647 := fM_15 s0
                have b43 : h34.2 0 14 = (h3.2 0 14) := (zfr_f f38 rfl rfl)
                have b44 : h34.2 0 15 = (h3.2 0 15) := (zfr_f f38 rfl rfl)
                exact zj_iret rfl (zdk ttX11_readCompared 21 rfl rfl) (Nat.le_refl _) (Nat.le_refl _) ⟨v33, rfl, by omega, s36, f39, (fun q => absurd q (by omega)), (tLo_f (tLo_t tLo_r u7) (fun i => zfr_a f38 rfl (by decide)) (fun i => zfr_a f38 rfl (by decide))), (by intro T j t0; obtain ⟨r_1j, r_1a, r_1l, r_1r⟩ := (u8 T j t0).1 (by omega); have k_2 := tT0 r_1a.2.2.1; have k_2j := r_1a.1.1; have e_3 : tEp h h34 r_1j 1 := ⟨u37.1, r_1a.1.1, by have q9 := r_1a.2.1; rw [show h3.2 7 = h.2 7 from funext fun i9 => (zfr_a f9 rfl (by decide)), show h3.2 0 11 = h.2 0 11 from (zfr_f f9 rfl rfl)] at q9; rw [u37.2]; exact q9⟩; exact ⟨fun z => absurd z (by omega), fun _ => ⟨r_1j, _, e_3, fun p9 s9 d9 => tRe_s (r_1r p9 (101 :: s9) d9) (tM5_n (by omega))⟩⟩)⟩
            · refine zj_if_ne (t := 43) (zdk ttX11_readCompared 17 rfl rfl) (by decide) (by decide) (fun c45 => ?_) (fun c45 => ?_)
              · refine zj_aload_n (zdk ttX11_readCompared 22 rfl rfl) rfl (by decide) ?_
                refine zj_geti (v := (h3.2 0 15)) (zdk ttX11_readCompared 23 rfl rfl) zf_RX11_169 rfl (k_M s5) rfl ?_
                refine zj_bipush (zdk ttX11_readCompared 24 rfl rfl) (by decide) ?_
                refine zj_icmp_ne (t := 57) (zdk ttX11_readCompared 25 rfl rfl) (by decide) (by omega) (by decide) (fun c46 => ?_) (fun c46 => ?_)
                · refine zj_aload_n (zdk ttX11_readCompared 28 rfl rfl) rfl (by decide) ?_
                  refine zj_geti (v := (h3.2 0 15)) (zdk ttX11_readCompared 29 rfl rfl) zf_RX11_169 rfl (k_M s5) rfl ?_
                  refine zj_bipush (zdk ttX11_readCompared 30 rfl rfl) (by decide) ?_
                  refine zj_icmp_ne (t := 71) (zdk ttX11_readCompared 31 rfl rfl) (by decide) (by omega) (by decide) (fun c47 => ?_) (fun c47 => ?_)
                  · refine zj_bipush (zdk ttX11_readCompared 34 rfl rfl) (by decide) ?_
                    refine zj_istore_n (L' := [some (.inr 0), some (.inl 8)]) (zdk ttX11_readCompared 35 rfl rfl) (by decide) rfl ?_
                    refine zj_aload_n (zdk ttX11_readCompared 36 rfl rfl) rfl (by decide) ?_
                    refine zj_callV (av := []) (st := []) (zdk ttX11_readCompared 37 rfl rfl) mb_X11_reads mv_RX11_204 (ci := 11) rfl rfl (k_M s5) rfl rfl (Nat.le_of_ble_eq_true rfl) (s2_X11_reads l h3 s5) (rm_ok (by decide) (by decide)) (zq_v fun h50 q48 => ?_)
                    obtain ⟨s52, f56, u53, u54, u55⟩ := q48
                    refine zj_aload_n (zdk ttX11_readCompared 38 rfl rfl) rfl (by decide) ?_
                    have r58 := u6 (by omega)
                    have r58b := r58.2.1.2
                    have r58t := r58.1
                    unfold tok at r58t
                    have r57B : rdB 0 h h3 := rdB_t (rdB_r h) r58.2.1 (by omega)
                    have r57P : rdP 1 h h3 := rdP_t (rdP_r h) r58.2.2 (by omega) (by omega)
                    have b60 : 0 ≤ (h3.2 0 12) ∧ (h3.2 0 12) ≤ 400 := fM_12 s5
                    have b61 : 0 ≤ (h3.2 0 13) ∧ (h3.2 0 13) ≤ 400 := fM_13 s5
                    have b62 : 0 ≤ (h3.2 0 25) ∧ (h3.2 0 25) ≤ 400 := fM_25 s5
                    have b63 : 0 ≤ (h50.2 0 12) ∧ (h50.2 0 12) ≤ 400 := fM_12 s52
                    have b64 : 0 ≤ (h50.2 0 13) ∧ (h50.2 0 13) ≤ 400 := fM_13 s52
                    have b65 : 0 ≤ (h50.2 0 14) ∧ (h50.2 0 14) ≤ 4 := fM_14 s52
                    have b66 : h50.2 0 25 = (h3.2 0 25) := (zfr_f f56 rfl rfl)
                    have t67 : tok h3 := r58.1
                    unfold tok at t67
                    have r59B : rdB 1 h h50 := rdB_t r57B (rdB_same (s := 1) f56 rfl (by omega)) (by omega)
                    have r59P : rdP 1 h h50 := rdP_t r57P (rdP_same f56 rfl) (by omega) (by omega)
                    have b68 := r59B.2
                    refine zj_callV (av := []) (st := []) (zdk ttX11_readCompared 39 rfl rfl) mb_X11_readSum mv_RX11_217 (ci := 11) rfl rfl (k_M s52) rfl rfl (Nat.le_of_ble_eq_true rfl) (s2_X11_readSum l h50 s52 u53 (by omega)) (rm_ok (by decide) (by decide)) (zq_i fun v70 h71 q69 => ?_)
                    obtain ⟨b72, s73, f77, u74, u75, u76⟩ := q69
                    refine zj_iconst (zdk ttX11_readCompared 40 rfl rfl) ?_
                    refine zj_icmp_ne (t := 88) (zdk ttX11_readCompared 41 rfl rfl) (by decide) (by omega) (by decide) (fun c78 => ?_) (fun c78 => ?_)
                    · refine zj_aload_n (zdk ttX11_readCompared 44 rfl rfl) rfl (by decide) ?_
                      refine zj_iload_n (zdk ttX11_readCompared 45 rfl rfl) rfl ?_
                      refine zj_iconst (zdk ttX11_readCompared 46 rfl rfl) ?_
                      have r80 := u74 (by omega)
                      have r80b := r80.2.1.2
                      have r80t := r80.1
                      unfold tok at r80t
                      have r79B : rdB 1 h h71 := rdB_t r59B r80.2.1 (by omega)
                      have r79P : rdP 2 h h71 := rdP_t r59P r80.2.2 (by omega) (by omega)
                      have b81 : 0 ≤ (h71.2 0 12) ∧ (h71.2 0 12) ≤ 400 := fM_12 s73
                      have b82 : 0 ≤ (h71.2 0 13) ∧ (h71.2 0 13) ≤ 400 := fM_13 s73
                      have b83 : 0 ≤ (h71.2 0 14) ∧ (h71.2 0 14) ≤ 4 := fM_14 s73
                      have b84 : 0 ≤ (h71.2 0 25) ∧ (h71.2 0 25) ≤ 400 := fM_25 s73
                      have t85 : tok h71 := r80.1
                      unfold tok at t85
                      have b86 := r79B.2
                      refine zj_callV (av := [.inl 8, .inl 0]) (st := []) (zdk ttX11_readCompared 47 rfl rfl) mb_X11_emits mv_RX11_200 (ci := 11) rfl rfl (k_M s73) rfl rfl (Nat.le_of_ble_eq_true rfl) (s_X11_emits l h71 8 0 s73 (by omega) (by omega) (by omega)) (rm_ok (by decide) (by decide)) (zq_v fun h89 q87 => ?_)
                      obtain ⟨s91, f93, u92⟩ := q87
                      refine zj_iconst (zdk ttX11_readCompared 48 rfl rfl) ?_
                      have f97 : zfr [12, 13, 14, 15, 25, 29, 30] [14, 15] h h3 := zfr_t (zfr_r _ _ _) f9 rfl rfl
                      have f96 : zfr [12, 13, 14, 15, 25, 29, 30] [14, 15] h h50 := zfr_t f97 f56 rfl rfl
                      have f95 : zfr [12, 13, 14, 15, 25, 29, 30] [14, 15] h h71 := zfr_t f96 f77 rfl rfl
                      have f94 : zfr [12, 13, 14, 15, 25, 29, 30] [14, 15] h h89 := zfr_t f95 f93 rfl rfl
                      have r98B : rdB 0 h h89 := rdB_t r79B (rdB_em u92 f93) (by omega)
                      have r98P : rdP 1 h h89 := rdP_bin r79P u92 (by decide)
                      have b99 : 0 ≤ (h.2 0 14) ∧ (h.2 0 14) ≤ 4 := fM_14 s0
                      have b100 : -2147483648 ≤ (h.2 0 15) ∧ (h.2 0 15) ≤ 2147483647 := fM_15 s0
                      have b101 : -2147483648 ≤ (h50.2 0 15) ∧ (h50.2 0 15) ≤ 2147483647 := fM_15 s52
                      have b102 : -2147483648 ≤ (h71.2 0 15) ∧ (h71.2 0 15) ≤ 2147483647 := fM_15 s73
                      have b103 : h89.2 0 14 = (h71.2 0 14) := (zfr_f f93 rfl rfl)
                      have b104 : h89.2 0 15 = (h71.2 0 15) := (zfr_f f93 rfl rfl)
                      exact zj_iret rfl (zdk ttX11_readCompared 49 rfl rfl) (Nat.le_refl _) (Nat.le_refl _) ⟨0, rfl, by omega, s91, f94, (fun _ => ⟨(tok_same r80.1 f93 rfl rfl rfl rfl), rdB_t r98B (rdB_r _) (by omega), r98P⟩), (tLo_e (tLo_t (tLo_f (tLo_t tLo_r u7) (fun i => zfr_a f56 rfl (by decide)) (fun i => zfr_a f56 rfl (by decide))) u75) (fM_25 s73).1 u92), (by intro T j t0; obtain ⟨r_1j, r_1a, r_1l, r_1r⟩ := (u8 T j t0).1 (by omega); have k_2 := tT0 r_1a.2.2.1; have k_2j := r_1a.1.1; have k_3 := tT0 r_1a.2.2.1; have k_3j := r_1a.1.1; have a_4 : tPm 0 T (r_1j + 1) h50 := tPm_r r_1a (by omega) (u55 r_1a.2.2.2.2.2.1 (tPm_l r_1a (by omega))) (fun k => (zfr_a f56 rfl (by decide))) (fun k => (zfr_a f56 rfl (by decide))) (zfr_f f56 rfl rfl); have c_5 : tCm h50 = tCm h3 := (tCm_f (zfr_f f56 rfl rfl) (fun i => zfr_a f56 rfl (by decide)) (fun i => zfr_a f56 rfl (by decide))).trans rfl; obtain ⟨r_6j, r_6a, r_6l, r_6r⟩ := (u76 T (r_1j + 1) a_4).1 (by omega); have a_7 : tPm 0 T r_6j h89 := tPm_f r_6a (fun k => (zfr_a f93 rfl (by decide))) (fun k => (zfr_a f93 rfl (by decide))) (zfr_f f93 rfl rfl) (zfr_f f93 rfl rfl) (zfr_f f93 rfl rfl) (zfr_f f93 rfl rfl) (zfr_f f93 rfl rfl); have c_8 : tCm h89 = tEo 8 0 :: tCm h71 := (tCm_e (fM_25 s73).1 u92).trans (congrArg _ (rfl : tCm h71 = tCm h71)); exact ⟨fun _ => ⟨r_6j, a_7, by omega, fun p9 s9 d9 => tRe_k (tRe_s (tRe_t (tRe_k (tRe_s (r_1r p9 (101 :: s9) d9) (tM5_c (by omega))) (c_5 : tCm h50 = tCm h3).symm) (r_6r p9 (T r_1j :: s9) d9)) (tM5_r (by omega))) (by rw [c_8, (show tEo 8 0 = 20000 + T r_1j by first | (rw [show (8 : Int) = 6 by omega, tEo_6]; omega) | (rw [show (8 : Int) = 7 by omega, tEo_7]; omega) | (rw [show (8 : Int) = 8 by omega, tEo_8]; omega))])⟩, fun z => absurd z (by omega)⟩)⟩
                    · refine zj_iconst (zdk ttX11_readCompared 42 rfl rfl) ?_
                      have f107 : zfr [12, 13, 14, 15, 25, 29, 30] [14, 15] h h3 := zfr_t (zfr_r _ _ _) f9 rfl rfl
                      have f106 : zfr [12, 13, 14, 15, 25, 29, 30] [14, 15] h h50 := zfr_t f107 f56 rfl rfl
                      have f105 : zfr [12, 13, 14, 15, 25, 29, 30] [14, 15] h h71 := zfr_t f106 f77 rfl rfl
                      have b108 : 0 ≤ (h.2 0 14) ∧ (h.2 0 14) ≤ 4 := fM_14 s0
                      have b109 : -2147483648 ≤ (h.2 0 15) ∧ (h.2 0 15) ≤ 2147483647 := fM_15 s0
                      have b110 : -2147483648 ≤ (h50.2 0 15) ∧ (h50.2 0 15) ≤ 2147483647 := fM_15 s52
                      have b111 : 0 ≤ (h71.2 0 14) ∧ (h71.2 0 14) ≤ 4 := fM_14 s73
                      have b112 : -2147483648 ≤ (h71.2 0 15) ∧ (h71.2 0 15) ≤ 2147483647 := fM_15 s73
                      exact zj_iret rfl (zdk ttX11_readCompared 43 rfl rfl) (Nat.le_refl _) (Nat.le_refl _) ⟨(-1), rfl, by omega, s73, f105, (fun q => absurd q (by omega)), (tLo_t (tLo_f (tLo_t tLo_r u7) (fun i => zfr_a f56 rfl (by decide)) (fun i => zfr_a f56 rfl (by decide))) u75), (by intro T j t0; obtain ⟨r_1j, r_1a, r_1l, r_1r⟩ := (u8 T j t0).1 (by omega); have k_2 := tT0 r_1a.2.2.1; have k_2j := r_1a.1.1; have k_3 := tT0 r_1a.2.2.1; have k_3j := r_1a.1.1; have a_4 : tPm 0 T (r_1j + 1) h50 := tPm_r r_1a (by omega) (u55 r_1a.2.2.2.2.2.1 (tPm_l r_1a (by omega))) (fun k => (zfr_a f56 rfl (by decide))) (fun k => (zfr_a f56 rfl (by decide))) (zfr_f f56 rfl rfl); have c_5 : tCm h50 = tCm h3 := (tCm_f (zfr_f f56 rfl rfl) (fun i => zfr_a f56 rfl (by decide)) (fun i => zfr_a f56 rfl (by decide))).trans rfl; obtain ⟨e_6i, e_6f, e_6p, e_6r⟩ := (u76 T (r_1j + 1) a_4).2 (by omega); have e_6q : tEp h h71 e_6i e_6f := (by have q9 := e_6p; unfold tEp at q9 ⊢; rw [show h50.2 7 = h.2 7 from funext fun i9 => ((zfr_a f56 rfl (by decide)).trans (zfr_a f9 rfl (by decide))), show h50.2 0 11 = h.2 0 11 from ((zfr_f f56 rfl rfl).trans (zfr_f f9 rfl rfl))] at q9; exact q9); exact ⟨fun z => absurd z (by omega), fun _ => ⟨e_6i, e_6f, e_6q, fun p9 s9 d9 => tRe_t (tRe_k (tRe_s (r_1r p9 (101 :: s9) d9) (tM5_c (by omega))) (c_5 : tCm h50 = tCm h3).symm) (e_6r p9 (T r_1j :: s9) d9)⟩⟩)⟩
                  · exact absurd c47 (by omega)
                · exact absurd c46 (by omega)
              · exact absurd c45 (by omega)
        · refine zj_if_ne (t := 43) (zdk ttX11_readCompared 13 rfl rfl) (by decide) (by decide) (fun c113 => ?_) (fun c113 => ?_)
          · refine zj_aload_n (zdk ttX11_readCompared 22 rfl rfl) rfl (by decide) ?_
            refine zj_geti (v := (h3.2 0 15)) (zdk ttX11_readCompared 23 rfl rfl) zf_RX11_169 rfl (k_M s5) rfl ?_
            refine zj_bipush (zdk ttX11_readCompared 24 rfl rfl) (by decide) ?_
            refine zj_icmp_ne (t := 57) (zdk ttX11_readCompared 25 rfl rfl) (by decide) (by omega) (by decide) (fun c114 => ?_) (fun c114 => ?_)
            · refine zj_aload_n (zdk ttX11_readCompared 28 rfl rfl) rfl (by decide) ?_
              refine zj_geti (v := (h3.2 0 15)) (zdk ttX11_readCompared 29 rfl rfl) zf_RX11_169 rfl (k_M s5) rfl ?_
              refine zj_bipush (zdk ttX11_readCompared 30 rfl rfl) (by decide) ?_
              refine zj_icmp_ne (t := 71) (zdk ttX11_readCompared 31 rfl rfl) (by decide) (by omega) (by decide) (fun c115 => ?_) (fun c115 => ?_)
              · exact absurd c115 (by omega)
              · refine zj_bipush (zdk ttX11_readCompared 32 rfl rfl) (by decide) ?_
                refine zj_goto (t := 73) (zdk ttX11_readCompared 33 rfl rfl) (by decide) ?_
                refine zj_istore_n (L' := [some (.inr 0), some (.inl 7)]) (zdk ttX11_readCompared 35 rfl rfl) (by decide) rfl ?_
                refine zj_aload_n (zdk ttX11_readCompared 36 rfl rfl) rfl (by decide) ?_
                refine zj_callV (av := []) (st := []) (zdk ttX11_readCompared 37 rfl rfl) mb_X11_reads mv_RX11_204 (ci := 11) rfl rfl (k_M s5) rfl rfl (Nat.le_of_ble_eq_true rfl) (s2_X11_reads l h3 s5) (rm_ok (by decide) (by decide)) (zq_v fun h118 q116 => ?_)
                obtain ⟨s120, f124, u121, u122, u123⟩ := q116
                refine zj_aload_n (zdk ttX11_readCompared 38 rfl rfl) rfl (by decide) ?_
                have r126 := u6 (by omega)
                have r126b := r126.2.1.2
                have r126t := r126.1
                unfold tok at r126t
                have r125B : rdB 0 h h3 := rdB_t (rdB_r h) r126.2.1 (by omega)
                have r125P : rdP 1 h h3 := rdP_t (rdP_r h) r126.2.2 (by omega) (by omega)
                have b128 : 0 ≤ (h3.2 0 12) ∧ (h3.2 0 12) ≤ 400 := fM_12 s5
                have b129 : 0 ≤ (h3.2 0 13) ∧ (h3.2 0 13) ≤ 400 := fM_13 s5
                have b130 : 0 ≤ (h3.2 0 25) ∧ (h3.2 0 25) ≤ 400 := fM_25 s5
                have b131 : 0 ≤ (h118.2 0 12) ∧ (h118.2 0 12) ≤ 400 := fM_12 s120
                have b132 : 0 ≤ (h118.2 0 13) ∧ (h118.2 0 13) ≤ 400 := fM_13 s120
                have b133 : 0 ≤ (h118.2 0 14) ∧ (h118.2 0 14) ≤ 4 := fM_14 s120
                have b134 : h118.2 0 25 = (h3.2 0 25) := (zfr_f f124 rfl rfl)
                have t135 : tok h3 := r126.1
                unfold tok at t135
                have r127B : rdB 1 h h118 := rdB_t r125B (rdB_same (s := 1) f124 rfl (by omega)) (by omega)
                have r127P : rdP 1 h h118 := rdP_t r125P (rdP_same f124 rfl) (by omega) (by omega)
                have b136 := r127B.2
                refine zj_callV (av := []) (st := []) (zdk ttX11_readCompared 39 rfl rfl) mb_X11_readSum mv_RX11_217 (ci := 11) rfl rfl (k_M s120) rfl rfl (Nat.le_of_ble_eq_true rfl) (s2_X11_readSum l h118 s120 u121 (by omega)) (rm_ok (by decide) (by decide)) (zq_i fun v138 h139 q137 => ?_)
                obtain ⟨b140, s141, f145, u142, u143, u144⟩ := q137
                refine zj_iconst (zdk ttX11_readCompared 40 rfl rfl) ?_
                refine zj_icmp_ne (t := 88) (zdk ttX11_readCompared 41 rfl rfl) (by decide) (by omega) (by decide) (fun c146 => ?_) (fun c146 => ?_)
                · refine zj_aload_n (zdk ttX11_readCompared 44 rfl rfl) rfl (by decide) ?_
                  refine zj_iload_n (zdk ttX11_readCompared 45 rfl rfl) rfl ?_
                  refine zj_iconst (zdk ttX11_readCompared 46 rfl rfl) ?_
                  have r148 := u142 (by omega)
                  have r148b := r148.2.1.2
                  have r148t := r148.1
                  unfold tok at r148t
                  have r147B : rdB 1 h h139 := rdB_t r127B r148.2.1 (by omega)
                  have r147P : rdP 2 h h139 := rdP_t r127P r148.2.2 (by omega) (by omega)
                  have b149 : 0 ≤ (h139.2 0 12) ∧ (h139.2 0 12) ≤ 400 := fM_12 s141
                  have b150 : 0 ≤ (h139.2 0 13) ∧ (h139.2 0 13) ≤ 400 := fM_13 s141
                  have b151 : 0 ≤ (h139.2 0 14) ∧ (h139.2 0 14) ≤ 4 := fM_14 s141
                  have b152 : 0 ≤ (h139.2 0 25) ∧ (h139.2 0 25) ≤ 400 := fM_25 s141
                  have t153 : tok h139 := r148.1
                  unfold tok at t153
                  have b154 := r147B.2
                  refine zj_callV (av := [.inl 7, .inl 0]) (st := []) (zdk ttX11_readCompared 47 rfl rfl) mb_X11_emits mv_RX11_200 (ci := 11) rfl rfl (k_M s141) rfl rfl (Nat.le_of_ble_eq_true rfl) (s_X11_emits l h139 7 0 s141 (by omega) (by omega) (by omega)) (rm_ok (by decide) (by decide)) (zq_v fun h157 q155 => ?_)
                  obtain ⟨s159, f161, u160⟩ := q155
                  refine zj_iconst (zdk ttX11_readCompared 48 rfl rfl) ?_
                  have f165 : zfr [12, 13, 14, 15, 25, 29, 30] [14, 15] h h3 := zfr_t (zfr_r _ _ _) f9 rfl rfl
                  have f164 : zfr [12, 13, 14, 15, 25, 29, 30] [14, 15] h h118 := zfr_t f165 f124 rfl rfl
                  have f163 : zfr [12, 13, 14, 15, 25, 29, 30] [14, 15] h h139 := zfr_t f164 f145 rfl rfl
                  have f162 : zfr [12, 13, 14, 15, 25, 29, 30] [14, 15] h h157 := zfr_t f163 f161 rfl rfl
                  have r166B : rdB 0 h h157 := rdB_t r147B (rdB_em u160 f161) (by omega)
                  have r166P : rdP 1 h h157 := rdP_bin r147P u160 (by decide)
                  have b167 : 0 ≤ (h.2 0 14) ∧ (h.2 0 14) ≤ 4 := fM_14 s0
                  have b168 : -2147483648 ≤ (h.2 0 15) ∧ (h.2 0 15) ≤ 2147483647 := fM_15 s0
                  have b169 : -2147483648 ≤ (h118.2 0 15) ∧ (h118.2 0 15) ≤ 2147483647 := fM_15 s120
                  have b170 : -2147483648 ≤ (h139.2 0 15) ∧ (h139.2 0 15) ≤ 2147483647 := fM_15 s141
                  have b171 : h157.2 0 14 = (h139.2 0 14) := (zfr_f f161 rfl rfl)
                  have b172 : h157.2 0 15 = (h139.2 0 15) := (zfr_f f161 rfl rfl)
                  exact zj_iret rfl (zdk ttX11_readCompared 49 rfl rfl) (Nat.le_refl _) (Nat.le_refl _) ⟨0, rfl, by omega, s159, f162, (fun _ => ⟨(tok_same r148.1 f161 rfl rfl rfl rfl), rdB_t r166B (rdB_r _) (by omega), r166P⟩), (tLo_e (tLo_t (tLo_f (tLo_t tLo_r u7) (fun i => zfr_a f124 rfl (by decide)) (fun i => zfr_a f124 rfl (by decide))) u143) (fM_25 s141).1 u160), (by intro T j t0; obtain ⟨r_1j, r_1a, r_1l, r_1r⟩ := (u8 T j t0).1 (by omega); have k_2 := tT0 r_1a.2.2.1; have k_2j := r_1a.1.1; have k_3 := tT0 r_1a.2.2.1; have k_3j := r_1a.1.1; have a_4 : tPm 0 T (r_1j + 1) h118 := tPm_r r_1a (by omega) (u123 r_1a.2.2.2.2.2.1 (tPm_l r_1a (by omega))) (fun k => (zfr_a f124 rfl (by decide))) (fun k => (zfr_a f124 rfl (by decide))) (zfr_f f124 rfl rfl); have c_5 : tCm h118 = tCm h3 := (tCm_f (zfr_f f124 rfl rfl) (fun i => zfr_a f124 rfl (by decide)) (fun i => zfr_a f124 rfl (by decide))).trans rfl; obtain ⟨r_6j, r_6a, r_6l, r_6r⟩ := (u144 T (r_1j + 1) a_4).1 (by omega); have a_7 : tPm 0 T r_6j h157 := tPm_f r_6a (fun k => (zfr_a f161 rfl (by decide))) (fun k => (zfr_a f161 rfl (by decide))) (zfr_f f161 rfl rfl) (zfr_f f161 rfl rfl) (zfr_f f161 rfl rfl) (zfr_f f161 rfl rfl) (zfr_f f161 rfl rfl); have c_8 : tCm h157 = tEo 7 0 :: tCm h139 := (tCm_e (fM_25 s141).1 u160).trans (congrArg _ (rfl : tCm h139 = tCm h139)); exact ⟨fun _ => ⟨r_6j, a_7, by omega, fun p9 s9 d9 => tRe_k (tRe_s (tRe_t (tRe_k (tRe_s (r_1r p9 (101 :: s9) d9) (tM5_c (by omega))) (c_5 : tCm h118 = tCm h3).symm) (r_6r p9 (T r_1j :: s9) d9)) (tM5_r (by omega))) (by rw [c_8, (show tEo 7 0 = 20000 + T r_1j by first | (rw [show (7 : Int) = 6 by omega, tEo_6]; omega) | (rw [show (7 : Int) = 7 by omega, tEo_7]; omega) | (rw [show (7 : Int) = 8 by omega, tEo_8]; omega))])⟩, fun z => absurd z (by omega)⟩)⟩
                · refine zj_iconst (zdk ttX11_readCompared 42 rfl rfl) ?_
                  have f175 : zfr [12, 13, 14, 15, 25, 29, 30] [14, 15] h h3 := zfr_t (zfr_r _ _ _) f9 rfl rfl
                  have f174 : zfr [12, 13, 14, 15, 25, 29, 30] [14, 15] h h118 := zfr_t f175 f124 rfl rfl
                  have f173 : zfr [12, 13, 14, 15, 25, 29, 30] [14, 15] h h139 := zfr_t f174 f145 rfl rfl
                  have b176 : 0 ≤ (h.2 0 14) ∧ (h.2 0 14) ≤ 4 := fM_14 s0
                  have b177 : -2147483648 ≤ (h.2 0 15) ∧ (h.2 0 15) ≤ 2147483647 := fM_15 s0
                  have b178 : -2147483648 ≤ (h118.2 0 15) ∧ (h118.2 0 15) ≤ 2147483647 := fM_15 s120
                  have b179 : 0 ≤ (h139.2 0 14) ∧ (h139.2 0 14) ≤ 4 := fM_14 s141
                  have b180 : -2147483648 ≤ (h139.2 0 15) ∧ (h139.2 0 15) ≤ 2147483647 := fM_15 s141
                  exact zj_iret rfl (zdk ttX11_readCompared 43 rfl rfl) (Nat.le_refl _) (Nat.le_refl _) ⟨(-1), rfl, by omega, s141, f173, (fun q => absurd q (by omega)), (tLo_t (tLo_f (tLo_t tLo_r u7) (fun i => zfr_a f124 rfl (by decide)) (fun i => zfr_a f124 rfl (by decide))) u143), (by intro T j t0; obtain ⟨r_1j, r_1a, r_1l, r_1r⟩ := (u8 T j t0).1 (by omega); have k_2 := tT0 r_1a.2.2.1; have k_2j := r_1a.1.1; have k_3 := tT0 r_1a.2.2.1; have k_3j := r_1a.1.1; have a_4 : tPm 0 T (r_1j + 1) h118 := tPm_r r_1a (by omega) (u123 r_1a.2.2.2.2.2.1 (tPm_l r_1a (by omega))) (fun k => (zfr_a f124 rfl (by decide))) (fun k => (zfr_a f124 rfl (by decide))) (zfr_f f124 rfl rfl); have c_5 : tCm h118 = tCm h3 := (tCm_f (zfr_f f124 rfl rfl) (fun i => zfr_a f124 rfl (by decide)) (fun i => zfr_a f124 rfl (by decide))).trans rfl; obtain ⟨e_6i, e_6f, e_6p, e_6r⟩ := (u144 T (r_1j + 1) a_4).2 (by omega); have e_6q : tEp h h139 e_6i e_6f := (by have q9 := e_6p; unfold tEp at q9 ⊢; rw [show h118.2 7 = h.2 7 from funext fun i9 => ((zfr_a f124 rfl (by decide)).trans (zfr_a f9 rfl (by decide))), show h118.2 0 11 = h.2 0 11 from ((zfr_f f124 rfl rfl).trans (zfr_f f9 rfl rfl))] at q9; exact q9); exact ⟨fun z => absurd z (by omega), fun _ => ⟨e_6i, e_6f, e_6q, fun p9 s9 d9 => tRe_t (tRe_k (tRe_s (r_1r p9 (101 :: s9) d9) (tM5_c (by omega))) (c_5 : tCm h118 = tCm h3).symm) (e_6r p9 (T r_1j :: s9) d9)⟩⟩)⟩
            · exact absurd c114 (by omega)
          · exact absurd c113 (by omega)
    · refine zj_if_ne (t := 43) (zdk ttX11_readCompared 9 rfl rfl) (by decide) (by decide) (fun c181 => ?_) (fun c181 => ?_)
      · refine zj_aload_n (zdk ttX11_readCompared 22 rfl rfl) rfl (by decide) ?_
        refine zj_geti (v := (h3.2 0 15)) (zdk ttX11_readCompared 23 rfl rfl) zf_RX11_169 rfl (k_M s5) rfl ?_
        refine zj_bipush (zdk ttX11_readCompared 24 rfl rfl) (by decide) ?_
        refine zj_icmp_ne (t := 57) (zdk ttX11_readCompared 25 rfl rfl) (by decide) (by omega) (by decide) (fun c182 => ?_) (fun c182 => ?_)
        · exact absurd c182 (by omega)
        · refine zj_bipush (zdk ttX11_readCompared 26 rfl rfl) (by decide) ?_
          refine zj_goto (t := 73) (zdk ttX11_readCompared 27 rfl rfl) (by decide) ?_
          refine zj_istore_n (L' := [some (.inr 0), some (.inl 6)]) (zdk ttX11_readCompared 35 rfl rfl) (by decide) rfl ?_
          refine zj_aload_n (zdk ttX11_readCompared 36 rfl rfl) rfl (by decide) ?_
          refine zj_callV (av := []) (st := []) (zdk ttX11_readCompared 37 rfl rfl) mb_X11_reads mv_RX11_204 (ci := 11) rfl rfl (k_M s5) rfl rfl (Nat.le_of_ble_eq_true rfl) (s2_X11_reads l h3 s5) (rm_ok (by decide) (by decide)) (zq_v fun h185 q183 => ?_)
          obtain ⟨s187, f191, u188, u189, u190⟩ := q183
          refine zj_aload_n (zdk ttX11_readCompared 38 rfl rfl) rfl (by decide) ?_
          have r193 := u6 (by omega)
          have r193b := r193.2.1.2
          have r193t := r193.1
          unfold tok at r193t
          have r192B : rdB 0 h h3 := rdB_t (rdB_r h) r193.2.1 (by omega)
          have r192P : rdP 1 h h3 := rdP_t (rdP_r h) r193.2.2 (by omega) (by omega)
          have b195 : 0 ≤ (h3.2 0 12) ∧ (h3.2 0 12) ≤ 400 := fM_12 s5
          have b196 : 0 ≤ (h3.2 0 13) ∧ (h3.2 0 13) ≤ 400 := fM_13 s5
          have b197 : 0 ≤ (h3.2 0 25) ∧ (h3.2 0 25) ≤ 400 := fM_25 s5
          have b198 : 0 ≤ (h185.2 0 12) ∧ (h185.2 0 12) ≤ 400 := fM_12 s187
          have b199 : 0 ≤ (h185.2 0 13) ∧ (h185.2 0 13) ≤ 400 := fM_13 s187
          have b200 : 0 ≤ (h185.2 0 14) ∧ (h185.2 0 14) ≤ 4 := fM_14 s187
          have b201 : h185.2 0 25 = (h3.2 0 25) := (zfr_f f191 rfl rfl)
          have t202 : tok h3 := r193.1
          unfold tok at t202
          have r194B : rdB 1 h h185 := rdB_t r192B (rdB_same (s := 1) f191 rfl (by omega)) (by omega)
          have r194P : rdP 1 h h185 := rdP_t r192P (rdP_same f191 rfl) (by omega) (by omega)
          have b203 := r194B.2
          refine zj_callV (av := []) (st := []) (zdk ttX11_readCompared 39 rfl rfl) mb_X11_readSum mv_RX11_217 (ci := 11) rfl rfl (k_M s187) rfl rfl (Nat.le_of_ble_eq_true rfl) (s2_X11_readSum l h185 s187 u188 (by omega)) (rm_ok (by decide) (by decide)) (zq_i fun v205 h206 q204 => ?_)
          obtain ⟨b207, s208, f212, u209, u210, u211⟩ := q204
          refine zj_iconst (zdk ttX11_readCompared 40 rfl rfl) ?_
          refine zj_icmp_ne (t := 88) (zdk ttX11_readCompared 41 rfl rfl) (by decide) (by omega) (by decide) (fun c213 => ?_) (fun c213 => ?_)
          · refine zj_aload_n (zdk ttX11_readCompared 44 rfl rfl) rfl (by decide) ?_
            refine zj_iload_n (zdk ttX11_readCompared 45 rfl rfl) rfl ?_
            refine zj_iconst (zdk ttX11_readCompared 46 rfl rfl) ?_
            have r215 := u209 (by omega)
            have r215b := r215.2.1.2
            have r215t := r215.1
            unfold tok at r215t
            have r214B : rdB 1 h h206 := rdB_t r194B r215.2.1 (by omega)
            have r214P : rdP 2 h h206 := rdP_t r194P r215.2.2 (by omega) (by omega)
            have b216 : 0 ≤ (h206.2 0 12) ∧ (h206.2 0 12) ≤ 400 := fM_12 s208
            have b217 : 0 ≤ (h206.2 0 13) ∧ (h206.2 0 13) ≤ 400 := fM_13 s208
            have b218 : 0 ≤ (h206.2 0 14) ∧ (h206.2 0 14) ≤ 4 := fM_14 s208
            have b219 : 0 ≤ (h206.2 0 25) ∧ (h206.2 0 25) ≤ 400 := fM_25 s208
            have t220 : tok h206 := r215.1
            unfold tok at t220
            have b221 := r214B.2
            refine zj_callV (av := [.inl 6, .inl 0]) (st := []) (zdk ttX11_readCompared 47 rfl rfl) mb_X11_emits mv_RX11_200 (ci := 11) rfl rfl (k_M s208) rfl rfl (Nat.le_of_ble_eq_true rfl) (s_X11_emits l h206 6 0 s208 (by omega) (by omega) (by omega)) (rm_ok (by decide) (by decide)) (zq_v fun h224 q222 => ?_)
            obtain ⟨s226, f228, u227⟩ := q222
            refine zj_iconst (zdk ttX11_readCompared 48 rfl rfl) ?_
            have f232 : zfr [12, 13, 14, 15, 25, 29, 30] [14, 15] h h3 := zfr_t (zfr_r _ _ _) f9 rfl rfl
            have f231 : zfr [12, 13, 14, 15, 25, 29, 30] [14, 15] h h185 := zfr_t f232 f191 rfl rfl
            have f230 : zfr [12, 13, 14, 15, 25, 29, 30] [14, 15] h h206 := zfr_t f231 f212 rfl rfl
            have f229 : zfr [12, 13, 14, 15, 25, 29, 30] [14, 15] h h224 := zfr_t f230 f228 rfl rfl
            have r233B : rdB 0 h h224 := rdB_t r214B (rdB_em u227 f228) (by omega)
            have r233P : rdP 1 h h224 := rdP_bin r214P u227 (by decide)
            have b234 : 0 ≤ (h.2 0 14) ∧ (h.2 0 14) ≤ 4 := fM_14 s0
            have b235 : -2147483648 ≤ (h.2 0 15) ∧ (h.2 0 15) ≤ 2147483647 := fM_15 s0
            have b236 : -2147483648 ≤ (h185.2 0 15) ∧ (h185.2 0 15) ≤ 2147483647 := fM_15 s187
            have b237 : -2147483648 ≤ (h206.2 0 15) ∧ (h206.2 0 15) ≤ 2147483647 := fM_15 s208
            have b238 : h224.2 0 14 = (h206.2 0 14) := (zfr_f f228 rfl rfl)
            have b239 : h224.2 0 15 = (h206.2 0 15) := (zfr_f f228 rfl rfl)
            exact zj_iret rfl (zdk ttX11_readCompared 49 rfl rfl) (Nat.le_refl _) (Nat.le_refl _) ⟨0, rfl, by omega, s226, f229, (fun _ => ⟨(tok_same r215.1 f228 rfl rfl rfl rfl), rdB_t r233B (rdB_r _) (by omega), r233P⟩), (tLo_e (tLo_t (tLo_f (tLo_t tLo_r u7) (fun i => zfr_a f191 rfl (by decide)) (fun i => zfr_a f191 rfl (by decide))) u210) (fM_25 s208).1 u227), (by intro T j t0; obtain ⟨r_1j, r_1a, r_1l, r_1r⟩ := (u8 T j t0).1 (by omega); have k_2 := tT0 r_1a.2.2.1; have k_2j := r_1a.1.1; have k_3 := tT0 r_1a.2.2.1; have k_3j := r_1a.1.1; have a_4 : tPm 0 T (r_1j + 1) h185 := tPm_r r_1a (by omega) (u190 r_1a.2.2.2.2.2.1 (tPm_l r_1a (by omega))) (fun k => (zfr_a f191 rfl (by decide))) (fun k => (zfr_a f191 rfl (by decide))) (zfr_f f191 rfl rfl); have c_5 : tCm h185 = tCm h3 := (tCm_f (zfr_f f191 rfl rfl) (fun i => zfr_a f191 rfl (by decide)) (fun i => zfr_a f191 rfl (by decide))).trans rfl; obtain ⟨r_6j, r_6a, r_6l, r_6r⟩ := (u211 T (r_1j + 1) a_4).1 (by omega); have a_7 : tPm 0 T r_6j h224 := tPm_f r_6a (fun k => (zfr_a f228 rfl (by decide))) (fun k => (zfr_a f228 rfl (by decide))) (zfr_f f228 rfl rfl) (zfr_f f228 rfl rfl) (zfr_f f228 rfl rfl) (zfr_f f228 rfl rfl) (zfr_f f228 rfl rfl); have c_8 : tCm h224 = tEo 6 0 :: tCm h206 := (tCm_e (fM_25 s208).1 u227).trans (congrArg _ (rfl : tCm h206 = tCm h206)); exact ⟨fun _ => ⟨r_6j, a_7, by omega, fun p9 s9 d9 => tRe_k (tRe_s (tRe_t (tRe_k (tRe_s (r_1r p9 (101 :: s9) d9) (tM5_c (by omega))) (c_5 : tCm h185 = tCm h3).symm) (r_6r p9 (T r_1j :: s9) d9)) (tM5_r (by omega))) (by rw [c_8, (show tEo 6 0 = 20000 + T r_1j by first | (rw [show (6 : Int) = 6 by omega, tEo_6]; omega) | (rw [show (6 : Int) = 7 by omega, tEo_7]; omega) | (rw [show (6 : Int) = 8 by omega, tEo_8]; omega))])⟩, fun z => absurd z (by omega)⟩)⟩
          · refine zj_iconst (zdk ttX11_readCompared 42 rfl rfl) ?_
            have f242 : zfr [12, 13, 14, 15, 25, 29, 30] [14, 15] h h3 := zfr_t (zfr_r _ _ _) f9 rfl rfl
            have f241 : zfr [12, 13, 14, 15, 25, 29, 30] [14, 15] h h185 := zfr_t f242 f191 rfl rfl
            have f240 : zfr [12, 13, 14, 15, 25, 29, 30] [14, 15] h h206 := zfr_t f241 f212 rfl rfl
            have b243 : 0 ≤ (h.2 0 14) ∧ (h.2 0 14) ≤ 4 := fM_14 s0
            have b244 : -2147483648 ≤ (h.2 0 15) ∧ (h.2 0 15) ≤ 2147483647 := fM_15 s0
            have b245 : -2147483648 ≤ (h185.2 0 15) ∧ (h185.2 0 15) ≤ 2147483647 := fM_15 s187
            have b246 : 0 ≤ (h206.2 0 14) ∧ (h206.2 0 14) ≤ 4 := fM_14 s208
            have b247 : -2147483648 ≤ (h206.2 0 15) ∧ (h206.2 0 15) ≤ 2147483647 := fM_15 s208
            exact zj_iret rfl (zdk ttX11_readCompared 43 rfl rfl) (Nat.le_refl _) (Nat.le_refl _) ⟨(-1), rfl, by omega, s208, f240, (fun q => absurd q (by omega)), (tLo_t (tLo_f (tLo_t tLo_r u7) (fun i => zfr_a f191 rfl (by decide)) (fun i => zfr_a f191 rfl (by decide))) u210), (by intro T j t0; obtain ⟨r_1j, r_1a, r_1l, r_1r⟩ := (u8 T j t0).1 (by omega); have k_2 := tT0 r_1a.2.2.1; have k_2j := r_1a.1.1; have k_3 := tT0 r_1a.2.2.1; have k_3j := r_1a.1.1; have a_4 : tPm 0 T (r_1j + 1) h185 := tPm_r r_1a (by omega) (u190 r_1a.2.2.2.2.2.1 (tPm_l r_1a (by omega))) (fun k => (zfr_a f191 rfl (by decide))) (fun k => (zfr_a f191 rfl (by decide))) (zfr_f f191 rfl rfl); have c_5 : tCm h185 = tCm h3 := (tCm_f (zfr_f f191 rfl rfl) (fun i => zfr_a f191 rfl (by decide)) (fun i => zfr_a f191 rfl (by decide))).trans rfl; obtain ⟨e_6i, e_6f, e_6p, e_6r⟩ := (u211 T (r_1j + 1) a_4).2 (by omega); have e_6q : tEp h h206 e_6i e_6f := (by have q9 := e_6p; unfold tEp at q9 ⊢; rw [show h185.2 7 = h.2 7 from funext fun i9 => ((zfr_a f191 rfl (by decide)).trans (zfr_a f9 rfl (by decide))), show h185.2 0 11 = h.2 0 11 from ((zfr_f f191 rfl rfl).trans (zfr_f f9 rfl rfl))] at q9; exact q9); exact ⟨fun z => absurd z (by omega), fun _ => ⟨e_6i, e_6f, e_6q, fun p9 s9 d9 => tRe_t (tRe_k (tRe_s (r_1r p9 (101 :: s9) d9) (tM5_c (by omega))) (c_5 : tCm h185 = tCm h3).symm) (e_6r p9 (T r_1j :: s9) d9)⟩⟩)⟩
      · exact absurd c181 (by omega)
  · refine zj_iconst (zdk ttX11_readCompared 4 rfl rfl) ?_
    have f248 : zfr [12, 13, 14, 15, 25, 29, 30] [14, 15] h h3 := zfr_t (zfr_r _ _ _) f9 rfl rfl
    have b249 : 0 ≤ (h.2 0 14) ∧ (h.2 0 14) ≤ 4 := fM_14 s0
    have b250 : -2147483648 ≤ (h.2 0 15) ∧ (h.2 0 15) ≤ 2147483647 := fM_15 s0
    have b251 : 0 ≤ (h3.2 0 14) ∧ (h3.2 0 14) ≤ 4 := fM_14 s5
    have b252 : -2147483648 ≤ (h3.2 0 15) ∧ (h3.2 0 15) ≤ 2147483647 := fM_15 s5
    exact zj_iret rfl (zdk ttX11_readCompared 5 rfl rfl) (Nat.le_refl _) (Nat.le_refl _) ⟨(-1), rfl, by omega, s5, f248, (fun q => absurd q (by omega)), (tLo_t tLo_r u7), (by intro T j t0; obtain ⟨e_1i, e_1f, e_1p, e_1r⟩ := (u8 T j t0).2 (by omega); have e_1q : tEp h h3 e_1i e_1f := (by have q9 := e_1p; unfold tEp at q9 ⊢; rw [show h.2 7 = h.2 7 from funext fun i9 => rfl, show h.2 0 11 = h.2 0 11 from rfl] at q9; exact q9); exact ⟨fun z => absurd z (by omega), fun _ => ⟨e_1i, e_1f, e_1q, fun p9 s9 d9 => e_1r p9 (101 :: s9) d9⟩⟩)⟩

abbrev q2_X11_settles (h : zM) (p1 : Int) : Option zV → zM → Prop := zqv fun h' => okM h' ∧ zfr [25, 26, 28] [14, 15] h h' ∧ (zSe p1 h h') ∧ (h'.2 0 28 = 0 ∨ ¬ h.2 16 (h'.2 0 28 - 1) = p1) ∧ (tCm h' = tRpt (tEo p1 0) (h.2 0 28 - h'.2 0 28).toNat (tCm h)) ∧ (tLo h h')
set_option maxRecDepth 100000 in
set_option maxHeartbeats 4000000 in
theorem s2_X11_settles (l : Launch) (h : zM) (p1 : Int) (s0 : okM h) (b_p1 : (-2147483648) ≤ p1 ∧ p1 ≤ 2147483647) (u_0 : h.2 0 25 + h.2 0 28 ≤ h.2 0 13) (u_1 : p1 = 9 → zck (h.2 16) 9 (h.2 0 28) ≤ h.2 0 26) (u_2 : p1 = 9 ∨ p1 = 10 ∨ p1 = 11) : zT shM l yX11_settles cX11_settles 2 none (rmL 2) 0 0 [.inr 0, .inl p1] h (q2_X11_settles h p1) := by
  refine zT_of (by decide +kernel) (L0 := [some (.inr 0), some (.inl p1)]) rfl (Nat.le_of_ble_eq_true rfl) ?_
  have lp27 : ∀ (n0 : Nat) (h1 : zM), okM h1 → zfr [25, 26, 28] [14, 15] h h1 → (zSe p1 h h1) → (p1 = 9 → zck (h.2 16) 9 (h1.2 0 28) ≤ h1.2 0 26) → (tLo h h1) → (tCm h1 = tRpt (tEo p1 0) (h.2 0 28 - h1.2 0 28).toNat (tCm h)) → (h1.2 0 28).toNat < n0 → zJ shM l yX11_settles cX11_settles 2 none (rmL 2) 0 0 (q2_X11_settles h p1) 0 0 0 [some (.inr 0), some (.inl p1)] [] h1 := by
    intro n0
    induction n0 with
    | zero => intro h1 s2 f3 u28 u29 u30 u31 m32; exact absurd m32 (Nat.not_lt_zero _)
    | succ n0 ih33 =>
      intro h1 s2 f3 u28 u29 u30 u31 m32
      refine zj_aload_n (zdk ttX11_settles 0 rfl rfl) rfl (by decide) ?_
      have b34 : 0 ≤ (h1.2 0 28) ∧ (h1.2 0 28) ≤ 40 := fM_28 s2
      refine zj_geti (v := (h1.2 0 28)) (zdk ttX11_settles 1 rfl rfl) zf_RX11_220 rfl (k_M s2) rfl ?_
      refine zj_if_le (t := 57) (zdk ttX11_settles 2 rfl rfl) (by decide) (by omega) (fun c35 => ?_) (fun c35 => ?_)
      · exact zj_vret rfl (zdk ttX11_settles 32 rfl rfl) (Nat.le_refl _) (Nat.le_refl _) ⟨rfl, s2, f3, u28, ((Classical.em (h1.2 0 28 = 0)).elim Or.inl (fun z0 => Or.inr (by rw [← zfr_a (a := 16) (b := h1.2 0 28 - 1) f3 rfl (by decide)]; omega))), u31, u30⟩
      · refine zj_aload_n (zdk ttX11_settles 3 rfl rfl) rfl (by decide) ?_
        refine zj_getr (r := 16) (zdk ttX11_settles 4 rfl rfl) zf_RX11_55 rfl (k_M s2) (rfM_27 s2) ?_
        refine zj_aload_n (zdk ttX11_settles 5 rfl rfl) rfl (by decide) ?_
        refine zj_geti (v := (h1.2 0 28)) (zdk ttX11_settles 6 rfl rfl) zf_RX11_220 rfl (k_M s2) rfl ?_
        refine zj_iconst (zdk ttX11_settles 7 rfl rfl) ?_
        refine zj_isub (zdk ttX11_settles 8 rfl rfl) ?_
        have b36 : -2147483648 ≤ (h1.2 16 ((h1.2 0 28) - 1)) ∧ (h1.2 16 ((h1.2 0 28) - 1)) ≤ 2147483647 := abM_16 s2 ((h1.2 0 28) - 1)
        refine zj_iald (v := (h1.2 16 ((h1.2 0 28) - 1))) (zdk ttX11_settles 9 rfl rfl) (kaM_16 s2) (by decide) (by omega) rfl ?_
        refine zj_iload_n (zdk ttX11_settles 10 rfl rfl) rfl ?_
        refine zj_icmp_ne (t := 57) (zdk ttX11_settles 11 rfl rfl) (by decide) (by omega) (by omega) (fun c37 => ?_) (fun c37 => ?_)
        · exact zj_vret rfl (zdk ttX11_settles 32 rfl rfl) (Nat.le_refl _) (Nat.le_refl _) ⟨rfl, s2, f3, u28, ((Classical.em (h1.2 0 28 = 0)).elim Or.inl (fun z0 => Or.inr (by rw [← zfr_a (a := 16) (b := h1.2 0 28 - 1) f3 rfl (by decide)]; omega))), u31, u30⟩
        · refine zj_aload_n (zdk ttX11_settles 12 rfl rfl) rfl (by decide) ?_
          refine zj_aload_n (zdk ttX11_settles 13 rfl rfl) rfl (by decide) ?_
          refine zj_geti (v := (h1.2 0 28)) (zdk ttX11_settles 14 rfl rfl) zf_RX11_220 rfl (k_M s2) rfl ?_
          refine zj_iconst (zdk ttX11_settles 15 rfl rfl) ?_
          refine zj_isub (zdk ttX11_settles 16 rfl rfl) ?_
          refine zj_puti (zdk ttX11_settles 17 rfl rfl) zf_RX11_220 rfl (k_M s2) (Or.inl zw_RX11_220) (k2 := 28) rfl (fun h38 e39 => ?_)
          refine zj_aload_n (zdk ttX11_settles 18 rfl rfl) rfl (by decide) ?_
          refine zj_iload_n (zdk ttX11_settles 19 rfl rfl) rfl ?_
          refine zj_iconst (zdk ttX11_settles 20 rfl rfl) ?_
          have s40 : okM h38 := fwM_28 s2 e39 (by omega)
          have b41 : h38.2 0 25 = (h1.2 0 25) := (zwr_r e39 (by first | decide | exact (absurd ·.1 (by decide)) | exact (absurd ·.2 (by decide)) | omega))
          have b42 : 0 ≤ (h1.2 0 25) ∧ (h1.2 0 25) ≤ 400 := fM_25 s2
          have b43 : h38.2 0 28 = ((h1.2 0 28) - 1) := (zwr_v e39)
          have b44 := u28.2.2.1
          have b44f := fM_13 s0
          refine zj_callV (av := [.inl p1, .inl 0]) (st := []) (zdk ttX11_settles 21 rfl rfl) mb_X11_emits mv_RX11_200 (ci := 11) rfl rfl (k_M s40) rfl rfl (Nat.le_of_ble_eq_true rfl) (s_X11_emits l h38 p1 0 s40 (by omega) (by omega) (by omega)) (rm_ok (by decide) (by decide)) (zq_v fun h47 q45 => ?_)
          obtain ⟨s49, f51, u50⟩ := q45
          refine zj_iload_n (zdk ttX11_settles 22 rfl rfl) rfl ?_
          refine zj_bipush (zdk ttX11_settles 23 rfl rfl) (by decide) ?_
          refine zj_icmp_ne (t := 0) (zdk ttX11_settles 24 rfl rfl) (by decide) (by omega) (by decide) (fun c52 => ?_) (fun c52 => ?_)
          · have b53 : h47.2 0 28 = ((h1.2 0 28) - 1) := ((zfr_f f51 rfl rfl).trans (zwr_v e39))
            have f55 : zfr [25, 26, 28] [14, 15] h h38 := zfr_wf f3 e39 rfl
            have f54 : zfr [25, 26, 28] [14, 15] h h47 := zfr_t f55 f51 rfl rfl
            exact ih33  h47 s49 f54 (zSe_s u28 u_2 (fun j => zfr_a f3 rfl (by decide)) (by omega) (by omega) e39 u50 f51 (zfr_r [26] [] h47) (fun q => absurd q (by omega)) (fun _ => rfl)) (fun q => absurd q (by omega)) (tLo_e (tLo_f u30 (fun i => zwr_r e39 (by first | decide | exact (absurd ·.1 (by decide)) | exact (absurd ·.2 (by decide)) | omega)) (fun i => zwr_r e39 (by first | decide | exact (absurd ·.1 (by decide)) | exact (absurd ·.2 (by decide)) | omega))) (fM_25 s40).1 u50) (tCs_s u31 u28 (by omega) (fM_25 s2).1 e39 u50 f51 (zfr_r [26] [] h47)) (by omega)
          · have b56 := zck_s (h.2 16) 9 (n := (h1.2 0 28) - 1) (by omega)
            rw [show (h1.2 0 28) - 1 + 1 = (h1.2 0 28) by omega, ← zfr_a (a := 16) (b := (h1.2 0 28) - 1) f3 rfl (by decide), if_pos (by omega)] at b56
            have b56u := u29 (by omega)
            have b56n := zck_nn (h.2 16) 9 ((h1.2 0 28) - 1)
            refine zj_aload_n (zdk ttX11_settles 25 rfl rfl) rfl (by decide) ?_
            refine zj_aload_n (zdk ttX11_settles 26 rfl rfl) rfl (by decide) ?_
            have b57 : 0 ≤ (h1.2 0 26) ∧ (h1.2 0 26) ≤ 8 := fM_26 s2
            refine zj_geti (v := (h1.2 0 26)) (zdk ttX11_settles 27 rfl rfl) zf_RX11_223 rfl (k_M s49) ((zfr_f f51 rfl rfl).trans (zwr_r e39 (by first | decide | exact (absurd ·.1 (by decide)) | exact (absurd ·.2 (by decide)) | omega))) ?_
            refine zj_iconst (zdk ttX11_settles 28 rfl rfl) ?_
            refine zj_isub (zdk ttX11_settles 29 rfl rfl) ?_
            refine zj_puti (zdk ttX11_settles 30 rfl rfl) zf_RX11_223 rfl (k_M s49) (Or.inl zw_RX11_223) (k2 := 26) rfl (fun h58 e59 => ?_)
            refine zj_goto (t := 0) (zdk ttX11_settles 31 rfl rfl) (by decide) ?_
            have b60 : h58.2 0 28 = ((h1.2 0 28) - 1) := (((zwr_r e59 (by first | decide | exact (absurd ·.1 (by decide)) | exact (absurd ·.2 (by decide)) | omega)).trans (zfr_f f51 rfl rfl)).trans (zwr_v e39))
            have s61 : okM h58 := fwM_26 s49 e59 (by omega)
            have f64 : zfr [25, 26, 28] [14, 15] h h38 := zfr_wf f3 e39 rfl
            have f63 : zfr [25, 26, 28] [14, 15] h h47 := zfr_t f64 f51 rfl rfl
            have f62 : zfr [25, 26, 28] [14, 15] h h58 := zfr_wf f63 e59 rfl
            have h58o : h47.2 0 26 = ((h1.2 0 26) - 1) + 1 := by have := (show h47.2 0 26 = (h1.2 0 26) from ((zfr_f f51 rfl rfl).trans (zwr_r e39 (by first | decide | exact (absurd ·.1 (by decide)) | exact (absurd ·.2 (by decide)) | omega)))); omega
            have b65 := zck_s (h.2 16) 9 (n := (h1.2 0 28) - 1) (by omega)
            rw [show (h1.2 0 28) - 1 + 1 = (h1.2 0 28) by omega, ← zfr_a (a := 16) (b := (h1.2 0 28) - 1) f3 rfl (by decide), if_pos (by omega)] at b65
            have b65u := u29 (by omega)
            have b65k : h58.2 0 28 = (h1.2 0 28) - 1 := (((zwr_r e59 (by first | decide | exact (absurd ·.1 (by decide)) | exact (absurd ·.2 (by decide)) | omega)).trans (zfr_f f51 rfl rfl)).trans (zwr_v e39))
            have b65o : h58.2 0 26 = ((h1.2 0 26) - 1) := zwr_v e59
            exact ih33  h58 s61 f62 (zSe_s u28 u_2 (fun j => zfr_a f3 rfl (by decide)) (by omega) (by omega) e39 u50 f51 (zfr_wf (zfr_r [26] [] h47) e59 rfl) (fun _ => by rw [zwr_v e59]; omega) (fun q => absurd (by omega) q)) (fun _ => by rw [b65k]; omega) (tLo_f (tLo_e (tLo_f u30 (fun i => zwr_r e39 (by first | decide | exact (absurd ·.1 (by decide)) | exact (absurd ·.2 (by decide)) | omega)) (fun i => zwr_r e39 (by first | decide | exact (absurd ·.1 (by decide)) | exact (absurd ·.2 (by decide)) | omega))) (fM_25 s40).1 u50) (fun i => zwr_r e59 (by first | decide | exact (absurd ·.1 (by decide)) | exact (absurd ·.2 (by decide)) | omega)) (fun i => zwr_r e59 (by first | decide | exact (absurd ·.1 (by decide)) | exact (absurd ·.2 (by decide)) | omega))) (tCs_s u31 u28 (by omega) (fM_25 s2).1 e39 u50 f51 (zfr_wf (zfr_r [26] [] h47) e59 rfl)) (by omega)
  have b66 : 0 ≤ (h.2 0 28) ∧ (h.2 0 28) ≤ 40 := fM_28 s0
  exact lp27 _ h s0 (zfr_r _ _ _) (zSe_0 (by omega)) u_1 tLo_r (tCs_0 rfl) (Nat.lt_succ_self _)

theorem tRp_k {h H : zM} {k c : Int} {n : Nat} (e : tCm H = tRpt (tEo k 0) n (tCm h)) (z : tEo k 0 = c) : tRpt c n (tCm h) = tCm H := by rw [e, z]
