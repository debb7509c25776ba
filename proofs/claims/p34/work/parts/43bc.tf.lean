abbrev q2_X11_readSum (h : zM) : Option zV → zM → Prop := zqi fun v h' => ((-1) ≤ v ∧ v ≤ 0) ∧ okM h' ∧ zfr [12, 13, 14, 15, 25, 29, 30] [14, 15] h h' ∧ (v = 0 → RD h h') ∧ (tLo h h') ∧ (∀ T j, tPm 0 T j h → (v = 0 → ∃ j9, tPm 0 T j9 h' ∧ j < j9 ∧ ∀ p9 s9 d9, tRe T p9 (3, j, 0, s9, tCm h, d9) (5, j9, 0, s9, tCm h', d9)) ∧ (v = -1 → ∃ i9 f9, tEp h h' i9 f9 ∧ ∀ p9 s9 d9, tRe T p9 (3, j, 0, s9, tCm h, d9) (tEr i9 f9)))
set_option maxRecDepth 100000 in
set_option maxHeartbeats 4000000 in
theorem s2_X11_readSum (l : Launch) (h : zM) (s0 : okM h) (u_0 : tok h) (u_1 : h.2 0 25 ≤ h.2 0 13) : zT shM l yX11_readSum cX11_readSum 2 (some .int) (rmL 6) 0 0 [.inr 0] h (q2_X11_readSum h) := by
  refine zT_of (by decide +kernel) (L0 := [some (.inr 0), none]) rfl (Nat.le_of_ble_eq_true rfl) ?_
  refine zj_aload_n (zdk ttX11_readSum 0 rfl rfl) rfl (by decide) ?_
  refine zj_callV (av := []) (st := []) (zdk ttX11_readSum 1 rfl rfl) mb_X11_readProduct mv_RX11_214 (ci := 11) rfl rfl (k_M s0) rfl rfl (Nat.le_of_ble_eq_true rfl) (s2_X11_readProduct l h s0 u_0 u_1) (rm_ok (by decide) (by decide)) (zq_i fun v2 h3 q1 => ?_)
  obtain ⟨b4, s5, f9, u6, u7, u8⟩ := q1
  refine zj_iconst (zdk ttX11_readSum 2 rfl rfl) ?_
  refine zj_icmp_ne (t := 10) (zdk ttX11_readSum 3 rfl rfl) (by decide) (by omega) (by decide) (fun c10 => ?_) (fun c10 => ?_)
  · have lp120 : ∀ (n10 : Nat) (h11 : zM), okM h11 → zfr [12, 13, 14, 15, 25, 29, 30] [14, 15] h h11 → (tok h11) → (rdB 0 h h11) → (rdP 1 h h11) → (tLo h h11) → (∀ T j, tPm 0 T j h → ∃ j9, tPm 0 T j9 h11 ∧ (j < j9 ∧ ¬ (T j9 = 42 ∨ T j9 = 47)) ∧ ∃ w9 c9, tCm h11 = tWt w9 c9 ∧ ∀ p9 s9 d9, tRe T p9 (3, j, 0, s9, tCm h, d9) (4, j9, w9, s9, c9, d9)) → (401 - (h11.2 0 13)).toNat < n10 → zJ shM l yX11_readSum cX11_readSum 2 (some .int) (rmL 6) 0 0 (q2_X11_readSum h) 0 0 10 [some (.inr 0), none] [] h11 := by
      intro n10
      induction n10 with
      | zero => intro h11 s12 f13 u121 u122 u123 u124 u125 m126; exact absurd m126 (Nat.not_lt_zero _)
      | succ n10 ih127 =>
        intro h11 s12 f13 u121 u122 u123 u124 u125 m126
        refine zj_aload_n (zdk ttX11_readSum 6 rfl rfl) rfl (by decide) ?_
        refine zj_bipush (zdk ttX11_readSum 7 rfl rfl) (by decide) ?_
        refine zj_callV (av := [.inl 43]) (st := []) (zdk ttX11_readSum 8 rfl rfl) mb_X11_isSign mv_RX11_211 (ci := 11) rfl rfl (k_M s12) rfl rfl (Nat.le_of_ble_eq_true rfl) (s_X11_isSign l h11 43 s12 (by omega)) (rm_ok (by decide) (by decide)) (zq_i fun v129 h130 q128 => ?_)
        obtain ⟨rfl, b132, b133, ⟨rfl, b131⟩ | ⟨rfl, b131⟩⟩ := q128
        · refine zj_if_ne (t := 28) (zdk ttX11_readSum 9 rfl rfl) (by decide) (by decide) (fun c134 => ?_) (fun c134 => ?_)
          · exact absurd c134 (by omega)
          · refine zj_aload_n (zdk ttX11_readSum 10 rfl rfl) rfl (by decide) ?_
            refine zj_bipush (zdk ttX11_readSum 11 rfl rfl) (by decide) ?_
            refine zj_callV (av := [.inl 45]) (st := []) (zdk ttX11_readSum 12 rfl rfl) mb_X11_isSign mv_RX11_211 (ci := 11) rfl rfl (k_M s12) rfl rfl (Nat.le_of_ble_eq_true rfl) (s_X11_isSign l h11 45 s12 (by omega)) (rm_ok (by decide) (by decide)) (zq_i fun v136 h137 q135 => ?_)
            obtain ⟨rfl, b139, b140, ⟨rfl, b138⟩ | ⟨rfl, b138⟩⟩ := q135
            · refine zj_if_eq (t := 66) (zdk ttX11_readSum 13 rfl rfl) (by decide) (by decide) (fun c141 => ?_) (fun c141 => ?_)
              · refine zj_iconst (zdk ttX11_readSum 35 rfl rfl) ?_
                have b142 : 0 ≤ (h.2 0 14) ∧ (h.2 0 14) ≤ 4 := fM_14 s0
                have b143 : -2147483648 ≤ (h.2 0 15) ∧ (h.2 0 15) ≤ 2147483647 := fM_15 s0
                exact zj_iret rfl (zdk ttX11_readSum 36 rfl rfl) (Nat.le_refl _) (Nat.le_refl _) ⟨0, rfl, by omega, s12, f13, (fun _ => ⟨u121, rdB_t u122 (rdB_r _) (by omega), u123⟩), u124, (by intro T j t0; obtain ⟨x_1j, x_1a, x_1l, x_1r⟩ := u125 T j t0; have k_2 := tT0 x_1a.2.2.1; have k_2j := x_1a.1.1; obtain ⟨x_1w, x_1c, x_1e, x_1r⟩ := x_1r; exact ⟨fun _ => ⟨x_1j, x_1a, by omega, fun p9 s9 d9 => tRe_k (tRe_s (x_1r p9 s9 d9) (tM4_e x_1l.2 (by omega))) x_1e.symm⟩, fun z => absurd z (by omega)⟩)⟩
              · exact absurd c141 (by omega)
            · refine zj_if_eq (t := 66) (zdk ttX11_readSum 13 rfl rfl) (by decide) (by decide) (fun c144 => ?_) (fun c144 => ?_)
              · exact absurd c144 (by omega)
              · refine zj_aload_n (zdk ttX11_readSum 14 rfl rfl) rfl (by decide) ?_
                refine zj_geti (v := (h11.2 0 15)) (zdk ttX11_readSum 15 rfl rfl) zf_RX11_169 rfl (k_M s12) rfl ?_
                refine zj_bipush (zdk ttX11_readSum 16 rfl rfl) (by decide) ?_
                refine zj_icmp_ne (t := 41) (zdk ttX11_readSum 17 rfl rfl) (by decide) (by omega) (by decide) (fun c145 => ?_) (fun c145 => ?_)
                · refine zj_iconst (zdk ttX11_readSum 20 rfl rfl) ?_
                  refine zj_istore_n (L' := [some (.inr 0), some (.inl 3)]) (zdk ttX11_readSum 21 rfl rfl) (by decide) rfl ?_
                  refine zj_aload_n (zdk ttX11_readSum 22 rfl rfl) rfl (by decide) ?_
                  refine zj_callV (av := []) (st := []) (zdk ttX11_readSum 23 rfl rfl) mb_X11_reads mv_RX11_204 (ci := 11) rfl rfl (k_M s12) rfl rfl (Nat.le_of_ble_eq_true rfl) (s2_X11_reads l h11 s12) (rm_ok (by decide) (by decide)) (zq_v fun h148 q146 => ?_)
                  obtain ⟨s150, f154, u151, u152, u153⟩ := q146
                  refine zj_aload_n (zdk ttX11_readSum 24 rfl rfl) rfl (by decide) ?_
                  have b156 : 0 ≤ (h11.2 0 12) ∧ (h11.2 0 12) ≤ 400 := fM_12 s12
                  have b157 : 0 ≤ (h11.2 0 13) ∧ (h11.2 0 13) ≤ 400 := fM_13 s12
                  have b158 : 0 ≤ (h11.2 0 25) ∧ (h11.2 0 25) ≤ 400 := fM_25 s12
                  have b159 : 0 ≤ (h148.2 0 12) ∧ (h148.2 0 12) ≤ 400 := fM_12 s150
                  have b160 : 0 ≤ (h148.2 0 13) ∧ (h148.2 0 13) ≤ 400 := fM_13 s150
                  have b161 : 0 ≤ (h148.2 0 14) ∧ (h148.2 0 14) ≤ 4 := fM_14 s150
                  have b162 : h148.2 0 25 = (h11.2 0 25) := (zfr_f f154 rfl rfl)
                  have t163 : tok h11 := u121
                  unfold tok at t163
                  have r155B : rdB 1 h h148 := rdB_t u122 (rdB_same (s := 1) f154 rfl (by omega)) (by omega)
                  have r155P : rdP 1 h h148 := rdP_t u123 (rdP_same f154 rfl) (by omega) (by omega)
                  have b164 := r155B.2
                  refine zj_callV (av := []) (st := []) (zdk ttX11_readSum 25 rfl rfl) mb_X11_readProduct mv_RX11_214 (ci := 11) rfl rfl (k_M s150) rfl rfl (Nat.le_of_ble_eq_true rfl) (s2_X11_readProduct l h148 s150 u151 (by omega)) (rm_ok (by decide) (by decide)) (zq_i fun v166 h167 q165 => ?_)
                  obtain ⟨b168, s169, f173, u170, u171, u172⟩ := q165
                  refine zj_iconst (zdk ttX11_readSum 26 rfl rfl) ?_
                  refine zj_icmp_ne (t := 57) (zdk ttX11_readSum 27 rfl rfl) (by decide) (by omega) (by decide) (fun c174 => ?_) (fun c174 => ?_)
                  · refine zj_aload_n (zdk ttX11_readSum 30 rfl rfl) rfl (by decide) ?_
                    refine zj_iload_n (zdk ttX11_readSum 31 rfl rfl) rfl ?_
                    refine zj_iconst (zdk ttX11_readSum 32 rfl rfl) ?_
                    have r176 := u170 (by omega)
                    have r176b := r176.2.1.2
                    have r176t := r176.1
                    unfold tok at r176t
                    have r175B : rdB 1 h h167 := rdB_t r155B r176.2.1 (by omega)
                    have r175P : rdP 2 h h167 := rdP_t r155P r176.2.2 (by omega) (by omega)
                    have b177 : 0 ≤ (h167.2 0 12) ∧ (h167.2 0 12) ≤ 400 := fM_12 s169
                    have b178 : 0 ≤ (h167.2 0 13) ∧ (h167.2 0 13) ≤ 400 := fM_13 s169
                    have b179 : 0 ≤ (h167.2 0 14) ∧ (h167.2 0 14) ≤ 4 := fM_14 s169
                    have b180 : 0 ≤ (h167.2 0 25) ∧ (h167.2 0 25) ≤ 400 := fM_25 s169
                    have t181 : tok h167 := r176.1
                    unfold tok at t181
                    have b182 := r175B.2
                    refine zj_callV (av := [.inl 3, .inl 0]) (st := []) (zdk ttX11_readSum 33 rfl rfl) mb_X11_emits mv_RX11_200 (ci := 11) rfl rfl (k_M s169) rfl rfl (Nat.le_of_ble_eq_true rfl) (s_X11_emits l h167 3 0 s169 (by omega) (by omega) (by omega)) (rm_ok (by decide) (by decide)) (zq_v fun h185 q183 => ?_)
                    obtain ⟨s187, f189, u188⟩ := q183
                    refine zj_goto (t := 10) (zdk ttX11_readSum 34 rfl rfl) (by decide) ?_
                    refine zj_kill (k := 1) (L' := [some (.inr 0), none]) rfl ?_
                    have b190 : h185.2 0 12 = (h167.2 0 12) := (zfr_f f189 rfl rfl)
                    have b191 : h185.2 0 13 = (h167.2 0 13) := (zfr_f f189 rfl rfl)
                    have b192 : h185.2 0 14 = (h167.2 0 14) := (zfr_f f189 rfl rfl)
                    have b193 : 0 ≤ (h185.2 0 25) ∧ (h185.2 0 25) ≤ 400 := fM_25 s187
                    have f196 : zfr [12, 13, 14, 15, 25, 29, 30] [14, 15] h h148 := zfr_t f13 f154 rfl rfl
                    have f195 : zfr [12, 13, 14, 15, 25, 29, 30] [14, 15] h h167 := zfr_t f196 f173 rfl rfl
                    have f194 : zfr [12, 13, 14, 15, 25, 29, 30] [14, 15] h h185 := zfr_t f195 f189 rfl rfl
                    have r197B : rdB 0 h h185 := rdB_t r175B (rdB_em u188 f189) (by omega)
                    have r197P : rdP 1 h h185 := rdP_bin r175P u188 (by decide)
                    have b198 := r197B.2
                    have b199 : 0 ≤ (h.2 0 14) ∧ (h.2 0 14) ≤ 4 := fM_14 s0
                    have b200 : -2147483648 ≤ (h.2 0 15) ∧ (h.2 0 15) ≤ 2147483647 := fM_15 s0
                    have b201 : -2147483648 ≤ (h148.2 0 15) ∧ (h148.2 0 15) ≤ 2147483647 := fM_15 s150
                    have b202 : -2147483648 ≤ (h167.2 0 15) ∧ (h167.2 0 15) ≤ 2147483647 := fM_15 s169
                    have b203 : h185.2 0 14 = (h167.2 0 14) := (zfr_f f189 rfl rfl)
                    have b204 : h185.2 0 15 = (h167.2 0 15) := (zfr_f f189 rfl rfl)
                    exact ih127  h185 s187 f194 (tok_same r176.1 f189 rfl rfl rfl rfl) (rdB_t r197B (rdB_r _) (by omega)) r197P (tLo_e (tLo_t (tLo_f u124 (fun i => zfr_a f154 rfl (by decide)) (fun i => zfr_a f154 rfl (by decide))) u171) (fM_25 s169).1 u188) (by intro T j t0; obtain ⟨x_1j, x_1a, x_1l, x_1r⟩ := u125 T j t0; have k_2 := tT0 x_1a.2.2.1; have k_2j := x_1a.1.1; obtain ⟨x_1w, x_1c, x_1e, x_1r⟩ := x_1r; have k_3 := tT0 x_1a.2.2.1; have k_3j := x_1a.1.1; have a_4 : tPm 0 T (x_1j + 1) h148 := tPm_r x_1a (by omega) (u153 x_1a.2.2.2.2.2.1 (tPm_l x_1a (by omega))) (fun k => (zfr_a f154 rfl (by decide))) (fun k => (zfr_a f154 rfl (by decide))) (zfr_f f154 rfl rfl); obtain ⟨r_5j, r_5a, r_5l, r_5r⟩ := (u172 T (x_1j + 1) a_4).1 (by omega); have a_6 : tPm 0 T r_5j h185 := tPm_f r_5a (fun k => (zfr_a f189 rfl (by decide))) (fun k => (zfr_a f189 rfl (by decide))) (zfr_f f189 rfl rfl) (zfr_f f189 rfl rfl) (zfr_f f189 rfl rfl) (zfr_f f189 rfl rfl) (zfr_f f189 rfl rfl); have c_7 : tCm h148 = tCm h11 := (tCm_f (zfr_f f154 rfl rfl) (fun i => zfr_a f154 rfl (by decide)) (fun i => zfr_a f154 rfl (by decide))).trans rfl; have c_8 : tCm h185 = tEo 3 0 :: tCm h167 := (tCm_e (fM_25 s169).1 u188).trans (congrArg _ (rfl : tCm h167 = tCm h167)); exact ⟨r_5j, a_6, ⟨by omega, r_5l.2⟩, T x_1j, _, (by rw [c_8, (show tEo 3 0 = 20000 + T x_1j by first | (rw [show (3 : Int) = 2 by omega, tEo_2]; omega) | (rw [show (3 : Int) = 3 by omega, tEo_3]; omega))]; exact (tWt_n (by omega) _).symm), fun p9 s9 d9 => tRe_t (tRe_k (tRe_s (x_1r p9 s9 d9) (tM4_s (by omega))) (x_1e.symm.trans (c_7 : tCm h148 = tCm h11).symm)) (r_5r p9 (T x_1j) s9 d9)⟩) (by omega)
                  · refine zj_iconst (zdk ttX11_readSum 28 rfl rfl) ?_
                    have f206 : zfr [12, 13, 14, 15, 25, 29, 30] [14, 15] h h148 := zfr_t f13 f154 rfl rfl
                    have f205 : zfr [12, 13, 14, 15, 25, 29, 30] [14, 15] h h167 := zfr_t f206 f173 rfl rfl
                    have b207 : 0 ≤ (h.2 0 14) ∧ (h.2 0 14) ≤ 4 := fM_14 s0
                    have b208 : -2147483648 ≤ (h.2 0 15) ∧ (h.2 0 15) ≤ 2147483647 := fM_15 s0
                    have b209 : -2147483648 ≤ (h148.2 0 15) ∧ (h148.2 0 15) ≤ 2147483647 := fM_15 s150
                    have b210 : 0 ≤ (h167.2 0 14) ∧ (h167.2 0 14) ≤ 4 := fM_14 s169
                    have b211 : -2147483648 ≤ (h167.2 0 15) ∧ (h167.2 0 15) ≤ 2147483647 := fM_15 s169
                    exact zj_iret rfl (zdk ttX11_readSum 29 rfl rfl) (Nat.le_refl _) (Nat.le_refl _) ⟨(-1), rfl, by omega, s169, f205, (fun q => absurd q (by omega)), (tLo_t (tLo_f u124 (fun i => zfr_a f154 rfl (by decide)) (fun i => zfr_a f154 rfl (by decide))) u171), (by intro T j t0; obtain ⟨x_1j, x_1a, x_1l, x_1r⟩ := u125 T j t0; have k_2 := tT0 x_1a.2.2.1; have k_2j := x_1a.1.1; obtain ⟨x_1w, x_1c, x_1e, x_1r⟩ := x_1r; have k_3 := tT0 x_1a.2.2.1; have k_3j := x_1a.1.1; have a_4 : tPm 0 T (x_1j + 1) h148 := tPm_r x_1a (by omega) (u153 x_1a.2.2.2.2.2.1 (tPm_l x_1a (by omega))) (fun k => (zfr_a f154 rfl (by decide))) (fun k => (zfr_a f154 rfl (by decide))) (zfr_f f154 rfl rfl); obtain ⟨e_5i, e_5f, e_5p, e_5r⟩ := (u172 T (x_1j + 1) a_4).2 (by omega); have e_5q : tEp h h167 e_5i e_5f := (by have q9 := e_5p; unfold tEp at q9 ⊢; rw [show h148.2 7 = h.2 7 from funext fun i9 => ((zfr_a f154 rfl (by decide)).trans (zfr_a f13 rfl (by decide))), show h148.2 0 11 = h.2 0 11 from ((zfr_f f154 rfl rfl).trans (zfr_f f13 rfl rfl))] at q9; exact q9); have c_6 : tCm h148 = tCm h11 := (tCm_f (zfr_f f154 rfl rfl) (fun i => zfr_a f154 rfl (by decide)) (fun i => zfr_a f154 rfl (by decide))).trans rfl; exact ⟨fun z => absurd z (by omega), fun _ => ⟨e_5i, e_5f, e_5q, fun p9 s9 d9 => tRe_t (tRe_k (tRe_s (x_1r p9 s9 d9) (tM4_s (by omega))) (x_1e.symm.trans (c_6 : tCm h148 = tCm h11).symm)) (e_5r p9 (T x_1j) s9 d9)⟩⟩)⟩
                · exact absurd c145 (by omega)
        · refine zj_if_ne (t := 28) (zdk ttX11_readSum 9 rfl rfl) (by decide) (by decide) (fun c212 => ?_) (fun c212 => ?_)
          · refine zj_aload_n (zdk ttX11_readSum 14 rfl rfl) rfl (by decide) ?_
            refine zj_geti (v := (h11.2 0 15)) (zdk ttX11_readSum 15 rfl rfl) zf_RX11_169 rfl (k_M s12) rfl ?_
            refine zj_bipush (zdk ttX11_readSum 16 rfl rfl) (by decide) ?_
            refine zj_icmp_ne (t := 41) (zdk ttX11_readSum 17 rfl rfl) (by decide) (by omega) (by decide) (fun c213 => ?_) (fun c213 => ?_)
            · exact absurd c213 (by omega)
            · refine zj_iconst (zdk ttX11_readSum 18 rfl rfl) ?_
              refine zj_goto (t := 42) (zdk ttX11_readSum 19 rfl rfl) (by decide) ?_
              refine zj_istore_n (L' := [some (.inr 0), some (.inl 2)]) (zdk ttX11_readSum 21 rfl rfl) (by decide) rfl ?_
              refine zj_aload_n (zdk ttX11_readSum 22 rfl rfl) rfl (by decide) ?_
              refine zj_callV (av := []) (st := []) (zdk ttX11_readSum 23 rfl rfl) mb_X11_reads mv_RX11_204 (ci := 11) rfl rfl (k_M s12) rfl rfl (Nat.le_of_ble_eq_true rfl) (s2_X11_reads l h11 s12) (rm_ok (by decide) (by decide)) (zq_v fun h216 q214 => ?_)
              obtain ⟨s218, f222, u219, u220, u221⟩ := q214
              refine zj_aload_n (zdk ttX11_readSum 24 rfl rfl) rfl (by decide) ?_
              have b224 : 0 ≤ (h11.2 0 12) ∧ (h11.2 0 12) ≤ 400 := fM_12 s12
              have b225 : 0 ≤ (h11.2 0 13) ∧ (h11.2 0 13) ≤ 400 := fM_13 s12
              have b226 : 0 ≤ (h11.2 0 25) ∧ (h11.2 0 25) ≤ 400 := fM_25 s12
              have b227 : 0 ≤ (h216.2 0 12) ∧ (h216.2 0 12) ≤ 400 := fM_12 s218
              have b228 : 0 ≤ (h216.2 0 13) ∧ (h216.2 0 13) ≤ 400 := fM_13 s218
              have b229 : 0 ≤ (h216.2 0 14) ∧ (h216.2 0 14) ≤ 4 := fM_14 s218
              have b230 : h216.2 0 25 = (h11.2 0 25) := (zfr_f f222 rfl rfl)
              have t231 : tok h11 := u121
              unfold tok at t231
              have r223B : rdB 1 h h216 := rdB_t u122 (rdB_same (s := 1) f222 rfl (by omega)) (by omega)
              have r223P : rdP 1 h h216 := rdP_t u123 (rdP_same f222 rfl) (by omega) (by omega)
              have b232 := r223B.2
              refine zj_callV (av := []) (st := []) (zdk ttX11_readSum 25 rfl rfl) mb_X11_readProduct mv_RX11_214 (ci := 11) rfl rfl (k_M s218) rfl rfl (Nat.le_of_ble_eq_true rfl) (s2_X11_readProduct l h216 s218 u219 (by omega)) (rm_ok (by decide) (by decide)) (zq_i fun v234 h235 q233 => ?_)
              obtain ⟨b236, s237, f241, u238, u239, u240⟩ := q233
              refine zj_iconst (zdk ttX11_readSum 26 rfl rfl) ?_
              refine zj_icmp_ne (t := 57) (zdk ttX11_readSum 27 rfl rfl) (by decide) (by omega) (by decide) (fun c242 => ?_) (fun c242 => ?_)
              · refine zj_aload_n (zdk ttX11_readSum 30 rfl rfl) rfl (by decide) ?_
                refine zj_iload_n (zdk ttX11_readSum 31 rfl rfl) rfl ?_
                refine zj_iconst (zdk ttX11_readSum 32 rfl rfl) ?_
                have r244 := u238 (by omega)
                have r244b := r244.2.1.2
                have r244t := r244.1
                unfold tok at r244t
                have r243B : rdB 1 h h235 := rdB_t r223B r244.2.1 (by omega)
                have r243P : rdP 2 h h235 := rdP_t r223P r244.2.2 (by omega) (by omega)
                have b245 : 0 ≤ (h235.2 0 12) ∧ (h235.2 0 12) ≤ 400 := fM_12 s237
                have b246 : 0 ≤ (h235.2 0 13) ∧ (h235.2 0 13) ≤ 400 := fM_13 s237
                have b247 : 0 ≤ (h235.2 0 14) ∧ (h235.2 0 14) ≤ 4 := fM_14 s237
                have b248 : 0 ≤ (h235.2 0 25) ∧ (h235.2 0 25) ≤ 400 := fM_25 s237
                have t249 : tok h235 := r244.1
                unfold tok at t249
                have b250 := r243B.2
                refine zj_callV (av := [.inl 2, .inl 0]) (st := []) (zdk ttX11_readSum 33 rfl rfl) mb_X11_emits mv_RX11_200 (ci := 11) rfl rfl (k_M s237) rfl rfl (Nat.le_of_ble_eq_true rfl) (s_X11_emits l h235 2 0 s237 (by omega) (by omega) (by omega)) (rm_ok (by decide) (by decide)) (zq_v fun h253 q251 => ?_)
                obtain ⟨s255, f257, u256⟩ := q251
                refine zj_goto (t := 10) (zdk ttX11_readSum 34 rfl rfl) (by decide) ?_
                refine zj_kill (k := 1) (L' := [some (.inr 0), none]) rfl ?_
                have b258 : h253.2 0 12 = (h235.2 0 12) := (zfr_f f257 rfl rfl)
                have b259 : h253.2 0 13 = (h235.2 0 13) := (zfr_f f257 rfl rfl)
                have b260 : h253.2 0 14 = (h235.2 0 14) := (zfr_f f257 rfl rfl)
                have b261 : 0 ≤ (h253.2 0 25) ∧ (h253.2 0 25) ≤ 400 := fM_25 s255
                have f264 : zfr [12, 13, 14, 15, 25, 29, 30] [14, 15] h h216 := zfr_t f13 f222 rfl rfl
                have f263 : zfr [12, 13, 14, 15, 25, 29, 30] [14, 15] h h235 := zfr_t f264 f241 rfl rfl
                have f262 : zfr [12, 13, 14, 15, 25, 29, 30] [14, 15] h h253 := zfr_t f263 f257 rfl rfl
                have r265B : rdB 0 h h253 := rdB_t r243B (rdB_em u256 f257) (by omega)
                have r265P : rdP 1 h h253 := rdP_bin r243P u256 (by decide)
                have b266 := r265B.2
                have b267 : 0 ≤ (h.2 0 14) ∧ (h.2 0 14) ≤ 4 := fM_14 s0
                have b268 : -2147483648 ≤ (h.2 0 15) ∧ (h.2 0 15) ≤ 2147483647 := fM_15 s0
                have b269 : -2147483648 ≤ (h216.2 0 15) ∧ (h216.2 0 15) ≤ 2147483647 := fM_15 s218
                have b270 : -2147483648 ≤ (h235.2 0 15) ∧ (h235.2 0 15) ≤ 2147483647 := fM_15 s237
                have b271 : h253.2 0 14 = (h235.2 0 14) := (zfr_f f257 rfl rfl)
                have b272 : h253.2 0 15 = (h235.2 0 15) := (zfr_f f257 rfl rfl)
                exact ih127  h253 s255 f262 (tok_same r244.1 f257 rfl rfl rfl rfl) (rdB_t r265B (rdB_r _) (by omega)) r265P (tLo_e (tLo_t (tLo_f u124 (fun i => zfr_a f222 rfl (by decide)) (fun i => zfr_a f222 rfl (by decide))) u239) (fM_25 s237).1 u256) (by intro T j t0; obtain ⟨x_1j, x_1a, x_1l, x_1r⟩ := u125 T j t0; have k_2 := tT0 x_1a.2.2.1; have k_2j := x_1a.1.1; obtain ⟨x_1w, x_1c, x_1e, x_1r⟩ := x_1r; have k_3 := tT0 x_1a.2.2.1; have k_3j := x_1a.1.1; have a_4 : tPm 0 T (x_1j + 1) h216 := tPm_r x_1a (by omega) (u221 x_1a.2.2.2.2.2.1 (tPm_l x_1a (by omega))) (fun k => (zfr_a f222 rfl (by decide))) (fun k => (zfr_a f222 rfl (by decide))) (zfr_f f222 rfl rfl); obtain ⟨r_5j, r_5a, r_5l, r_5r⟩ := (u240 T (x_1j + 1) a_4).1 (by omega); have a_6 : tPm 0 T r_5j h253 := tPm_f r_5a (fun k => (zfr_a f257 rfl (by decide))) (fun k => (zfr_a f257 rfl (by decide))) (zfr_f f257 rfl rfl) (zfr_f f257 rfl rfl) (zfr_f f257 rfl rfl) (zfr_f f257 rfl rfl) (zfr_f f257 rfl rfl); have c_7 : tCm h216 = tCm h11 := (tCm_f (zfr_f f222 rfl rfl) (fun i => zfr_a f222 rfl (by decide)) (fun i => zfr_a f222 rfl (by decide))).trans rfl; have c_8 : tCm h253 = tEo 2 0 :: tCm h235 := (tCm_e (fM_25 s237).1 u256).trans (congrArg _ (rfl : tCm h235 = tCm h235)); exact ⟨r_5j, a_6, ⟨by omega, r_5l.2⟩, T x_1j, _, (by rw [c_8, (show tEo 2 0 = 20000 + T x_1j by first | (rw [show (2 : Int) = 2 by omega, tEo_2]; omega) | (rw [show (2 : Int) = 3 by omega, tEo_3]; omega))]; exact (tWt_n (by omega) _).symm), fun p9 s9 d9 => tRe_t (tRe_k (tRe_s (x_1r p9 s9 d9) (tM4_s (by omega))) (x_1e.symm.trans (c_7 : tCm h216 = tCm h11).symm)) (r_5r p9 (T x_1j) s9 d9)⟩) (by omega)
              · refine zj_iconst (zdk ttX11_readSum 28 rfl rfl) ?_
                have f274 : zfr [12, 13, 14, 15, 25, 29, 30] [14, 15] h h216 := zfr_t f13 f222 rfl rfl
                have f273 : zfr [12, 13, 14, 15, 25, 29, 30] [14, 15] h h235 := zfr_t f274 f241 rfl rfl
                have b275 : 0 ≤ (h.2 0 14) ∧ (h.2 0 14) ≤ 4 := fM_14 s0
                have b276 : -2147483648 ≤ (h.2 0 15) ∧ (h.2 0 15) ≤ 2147483647 := fM_15 s0
                have b277 : -2147483648 ≤ (h216.2 0 15) ∧ (h216.2 0 15) ≤ 2147483647 := fM_15 s218
                have b278 : 0 ≤ (h235.2 0 14) ∧ (h235.2 0 14) ≤ 4 := fM_14 s237
                have b279 : -2147483648 ≤ (h235.2 0 15) ∧ (h235.2 0 15) ≤ 2147483647 := fM_15 s237
                exact zj_iret rfl (zdk ttX11_readSum 29 rfl rfl) (Nat.le_refl _) (Nat.le_refl _) ⟨(-1), rfl, by omega, s237, f273, (fun q => absurd q (by omega)), (tLo_t (tLo_f u124 (fun i => zfr_a f222 rfl (by decide)) (fun i => zfr_a f222 rfl (by decide))) u239), (by intro T j t0; obtain ⟨x_1j, x_1a, x_1l, x_1r⟩ := u125 T j t0; have k_2 := tT0 x_1a.2.2.1; have k_2j := x_1a.1.1; obtain ⟨x_1w, x_1c, x_1e, x_1r⟩ := x_1r; have k_3 := tT0 x_1a.2.2.1; have k_3j := x_1a.1.1; have a_4 : tPm 0 T (x_1j + 1) h216 := tPm_r x_1a (by omega) (u221 x_1a.2.2.2.2.2.1 (tPm_l x_1a (by omega))) (fun k => (zfr_a f222 rfl (by decide))) (fun k => (zfr_a f222 rfl (by decide))) (zfr_f f222 rfl rfl); obtain ⟨e_5i, e_5f, e_5p, e_5r⟩ := (u240 T (x_1j + 1) a_4).2 (by omega); have e_5q : tEp h h235 e_5i e_5f := (by have q9 := e_5p; unfold tEp at q9 ⊢; rw [show h216.2 7 = h.2 7 from funext fun i9 => ((zfr_a f222 rfl (by decide)).trans (zfr_a f13 rfl (by decide))), show h216.2 0 11 = h.2 0 11 from ((zfr_f f222 rfl rfl).trans (zfr_f f13 rfl rfl))] at q9; exact q9); have c_6 : tCm h216 = tCm h11 := (tCm_f (zfr_f f222 rfl rfl) (fun i => zfr_a f222 rfl (by decide)) (fun i => zfr_a f222 rfl (by decide))).trans rfl; exact ⟨fun z => absurd z (by omega), fun _ => ⟨e_5i, e_5f, e_5q, fun p9 s9 d9 => tRe_t (tRe_k (tRe_s (x_1r p9 s9 d9) (tM4_s (by omega))) (x_1e.symm.trans (c_6 : tCm h216 = tCm h11).symm)) (e_5r p9 (T x_1j) s9 d9)⟩⟩)⟩
          · exact absurd c212 (by omega)
    have b280 : 0 ≤ (h3.2 0 12) ∧ (h3.2 0 12) ≤ 400 := fM_12 s5
    have b281 : 0 ≤ (h3.2 0 13) ∧ (h3.2 0 13) ≤ 400 := fM_13 s5
    have b282 : 0 ≤ (h3.2 0 14) ∧ (h3.2 0 14) ≤ 4 := fM_14 s5
    have b283 : 0 ≤ (h3.2 0 25) ∧ (h3.2 0 25) ≤ 400 := fM_25 s5
    have f284 : zfr [12, 13, 14, 15, 25, 29, 30] [14, 15] h h3 := zfr_t (zfr_r _ _ _) f9 rfl rfl
    have r285 := u6 (by omega)
    have r285b := r285.2.1.2
    have r285t := r285.1
    unfold tok at r285t
    have r286B : rdB 0 h h3 := rdB_t (rdB_r h) r285.2.1 (by omega)
    have r286P : rdP 1 h h3 := rdP_t (rdP_r h) r285.2.2 (by omega) (by omega)
    have b287 := r286B.2
    have b288 : 0 ≤ (h.2 0 14) ∧ (h.2 0 14) ≤ 4 := fM_14 s0
    have b289 : -2147483648 ≤ (h.2 0 15) ∧ (h.2 0 15) ≤ 2147483647 := fM_15 s0
    have b290 : -2147483648 ≤ (h3.2 0 15) ∧ (h3.2 0 15) ≤ 2147483647 := fM_15 s5
    exact lp120 _ h3 s5 f284 r285.1 (rdB_t r286B (rdB_r _) (by omega)) r286P (tLo_t tLo_r u7) (by intro T j t0; obtain ⟨r_1j, r_1a, r_1l, r_1r⟩ := (u8 T j t0).1 (by omega); exact ⟨r_1j, r_1a, r_1l, 0, _, (tWt_0 _).symm, fun p9 s9 d9 => r_1r p9 0 s9 d9⟩) (Nat.lt_succ_self _)
  · refine zj_iconst (zdk ttX11_readSum 4 rfl rfl) ?_
    have f291 : zfr [12, 13, 14, 15, 25, 29, 30] [14, 15] h h3 := zfr_t (zfr_r _ _ _) f9 rfl rfl
    have b292 : 0 ≤ (h.2 0 14) ∧ (h.2 0 14) ≤ 4 := fM_14 s0
    have b293 : -2147483648 ≤ (h.2 0 15) ∧ (h.2 0 15) ≤ 2147483647 := fM_15 s0
    have b294 : 0 ≤ (h3.2 0 14) ∧ (h3.2 0 14) ≤ 4 := fM_14 s5
    have b295 : -2147483648 ≤ (h3.2 0 15) ∧ (h3.2 0 15) ≤ 2147483647 := fM_15 s5
    exact zj_iret rfl (zdk ttX11_readSum 5 rfl rfl) (Nat.le_refl _) (Nat.le_refl _) ⟨(-1), rfl, by omega, s5, f291, (fun q => absurd q (by omega)), (tLo_t tLo_r u7), (by intro T j t0; obtain ⟨e_1i, e_1f, e_1p, e_1r⟩ := (u8 T j t0).2 (by omega); have e_1q : tEp h h3 e_1i e_1f := (by have q9 := e_1p; unfold tEp at q9 ⊢; rw [show h.2 7 = h.2 7 from funext fun i9 => rfl, show h.2 0 11 = h.2 0 11 from rfl] at q9; exact q9); exact ⟨fun z => absurd z (by omega), fun _ => ⟨e_1i, e_1f, e_1q, fun p9 s9 d9 => e_1r p9 0 s9 d9⟩⟩)⟩

