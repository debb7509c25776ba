abbrev q2_X11_readProduct (h : zM) : Option zV → zM → Prop := zqi fun v h' => ((-1) ≤ v ∧ v ≤ 0) ∧ okM h' ∧ zfr [12, 13, 14, 15, 25, 29, 30] [14, 15] h h' ∧ (v = 0 → RD h h') ∧ (tLo h h') ∧ (∀ T j, tPm 0 T j h → (v = 0 → ∃ j9, tPm 0 T j9 h' ∧ (j < j9 ∧ ¬ (T j9 = 42 ∨ T j9 = 47)) ∧ ∀ p9 w9 s9 d9, tRe T p9 (3, j, w9, s9, tCm h, d9) (4, j9, w9, s9, tCm h', d9)) ∧ (v = -1 → ∃ i9 f9, tEp h h' i9 f9 ∧ ∀ p9 w9 s9 d9, tRe T p9 (3, j, w9, s9, tCm h, d9) (tEr i9 f9)))
set_option maxRecDepth 100000 in
set_option maxHeartbeats 4000000 in
theorem s2_X11_readProduct (l : Launch) (h : zM) (s0 : okM h) (u_0 : tok h) (u_1 : h.2 0 25 ≤ h.2 0 13) : zT shM l yX11_readProduct cX11_readProduct 2 (some .int) (rmL 5) 0 0 [.inr 0] h (q2_X11_readProduct h) := by
  refine zT_of (by decide +kernel) (L0 := [some (.inr 0), none]) rfl (Nat.le_of_ble_eq_true rfl) ?_
  refine zj_aload_n (zdk ttX11_readProduct 0 rfl rfl) rfl (by decide) ?_
  refine zj_callV (av := []) (st := []) (zdk ttX11_readProduct 1 rfl rfl) mb_X11_readUnit mv_RX11_207 (ci := 11) rfl rfl (k_M s0) rfl rfl (Nat.le_of_ble_eq_true rfl) (s2_X11_readUnit l h s0 u_0 u_1) (rm_ok (by decide) (by decide)) (zq_i fun v2 h3 q1 => ?_)
  obtain ⟨b4, s5, f10, u6, u7, u8, u9⟩ := q1
  refine zj_iconst (zdk ttX11_readProduct 2 rfl rfl) ?_
  refine zj_icmp_ne (t := 10) (zdk ttX11_readProduct 3 rfl rfl) (by decide) (by omega) (by decide) (fun c11 => ?_) (fun c11 => ?_)
  · have lp142 : ∀ (n10 : Nat) (h12 : zM), okM h12 → zfr [12, 13, 14, 15, 25, 29, 30] [14, 15] h h12 → (tok h12) → (rdB 0 h h12) → (rdP 1 h h12) → (tLo h h12) → (∀ T j, tPm 0 T j h → ∃ j9, tPm 0 T j9 h12 ∧ j < j9 ∧ ∀ p9 w9 s9 d9, tRe T p9 (3, j, w9, s9, tCm h, d9) (4, j9, w9, s9, tCm h12, d9)) → (401 - (h12.2 0 13)).toNat < n10 → zJ shM l yX11_readProduct cX11_readProduct 2 (some .int) (rmL 5) 0 0 (q2_X11_readProduct h) 0 0 10 [some (.inr 0), none] [] h12 := by
      intro n10
      induction n10 with
      | zero => intro h12 s13 f14 u143 u144 u145 u146 u147 m148; exact absurd m148 (Nat.not_lt_zero _)
      | succ n10 ih149 =>
        intro h12 s13 f14 u143 u144 u145 u146 u147 m148
        refine zj_aload_n (zdk ttX11_readProduct 6 rfl rfl) rfl (by decide) ?_
        refine zj_bipush (zdk ttX11_readProduct 7 rfl rfl) (by decide) ?_
        refine zj_callV (av := [.inl 42]) (st := []) (zdk ttX11_readProduct 8 rfl rfl) mb_X11_isSign mv_RX11_211 (ci := 11) rfl rfl (k_M s13) rfl rfl (Nat.le_of_ble_eq_true rfl) (s_X11_isSign l h12 42 s13 (by omega)) (rm_ok (by decide) (by decide)) (zq_i fun v151 h152 q150 => ?_)
        obtain ⟨rfl, b154, b155, ⟨rfl, b153⟩ | ⟨rfl, b153⟩⟩ := q150
        · refine zj_if_ne (t := 28) (zdk ttX11_readProduct 9 rfl rfl) (by decide) (by decide) (fun c156 => ?_) (fun c156 => ?_)
          · exact absurd c156 (by omega)
          · refine zj_aload_n (zdk ttX11_readProduct 10 rfl rfl) rfl (by decide) ?_
            refine zj_bipush (zdk ttX11_readProduct 11 rfl rfl) (by decide) ?_
            refine zj_callV (av := [.inl 47]) (st := []) (zdk ttX11_readProduct 12 rfl rfl) mb_X11_isSign mv_RX11_211 (ci := 11) rfl rfl (k_M s13) rfl rfl (Nat.le_of_ble_eq_true rfl) (s_X11_isSign l h12 47 s13 (by omega)) (rm_ok (by decide) (by decide)) (zq_i fun v158 h159 q157 => ?_)
            obtain ⟨rfl, b161, b162, ⟨rfl, b160⟩ | ⟨rfl, b160⟩⟩ := q157
            · refine zj_if_eq (t := 101) (zdk ttX11_readProduct 13 rfl rfl) (by decide) (by decide) (fun c163 => ?_) (fun c163 => ?_)
              · refine zj_iconst (zdk ttX11_readProduct 54 rfl rfl) ?_
                have b164 : 0 ≤ (h.2 0 14) ∧ (h.2 0 14) ≤ 4 := fM_14 s0
                have b165 : -2147483648 ≤ (h.2 0 15) ∧ (h.2 0 15) ≤ 2147483647 := fM_15 s0
                exact zj_iret rfl (zdk ttX11_readProduct 55 rfl rfl) (Nat.le_refl _) (Nat.le_refl _) ⟨0, rfl, by omega, s13, f14, (fun _ => ⟨u143, rdB_t u144 (rdB_r _) (by omega), u145⟩), u146, (by intro T j t0; obtain ⟨x_1j, x_1a, x_1l, x_1r⟩ := u147 T j t0; have k_2 := tT0 x_1a.2.2.1; have k_2j := x_1a.1.1; exact ⟨fun _ => ⟨x_1j, x_1a, by omega, fun p9 w9 s9 d9 => tRe_k (x_1r p9 w9 s9 d9) (rfl : tCm h12 = tCm h12).symm⟩, fun z => absurd z (by omega)⟩)⟩
              · exact absurd c163 (by omega)
            · refine zj_if_eq (t := 101) (zdk ttX11_readProduct 13 rfl rfl) (by decide) (by decide) (fun c166 => ?_) (fun c166 => ?_)
              · exact absurd c166 (by omega)
              · refine zj_aload_n (zdk ttX11_readProduct 14 rfl rfl) rfl (by decide) ?_
                refine zj_bipush (zdk ttX11_readProduct 15 rfl rfl) (by decide) ?_
                refine zj_callV (av := [.inl 42]) (st := []) (zdk ttX11_readProduct 16 rfl rfl) mb_X11_isSign mv_RX11_211 (ci := 11) rfl rfl (k_M s13) rfl rfl (Nat.le_of_ble_eq_true rfl) (s_X11_isSign l h12 42 s13 (by omega)) (rm_ok (by decide) (by decide)) (zq_i fun v168 h169 q167 => ?_)
                obtain ⟨rfl, b171, b172, ⟨rfl, b170⟩ | ⟨rfl, b170⟩⟩ := q167
                · refine zj_istore_n (L' := [some (.inr 0), some (.inl 0)]) (zdk ttX11_readProduct 17 rfl rfl) (by decide) rfl ?_
                  refine zj_aload_n (zdk ttX11_readProduct 18 rfl rfl) rfl (by decide) ?_
                  refine zj_callV (av := []) (st := []) (zdk ttX11_readProduct 19 rfl rfl) mb_X11_reads mv_RX11_204 (ci := 11) rfl rfl (k_M s13) rfl rfl (Nat.le_of_ble_eq_true rfl) (s2_X11_reads l h12 s13) (rm_ok (by decide) (by decide)) (zq_v fun h175 q173 => ?_)
                  obtain ⟨s177, f181, u178, u179, u180⟩ := q173
                  refine zj_iload_n (zdk ttX11_readProduct 20 rfl rfl) rfl ?_
                  refine zj_if_ne (t := 57) (zdk ttX11_readProduct 21 rfl rfl) (by decide) (by decide) (fun c182 => ?_) (fun c182 => ?_)
                  · exact absurd c182 (by omega)
                  · refine zj_aload_n (zdk ttX11_readProduct 22 rfl rfl) rfl (by decide) ?_
                    have b183 : 0 ≤ (h175.2 0 14) ∧ (h175.2 0 14) ≤ 4 := fM_14 s177
                    refine zj_geti (v := (h175.2 0 14)) (zdk ttX11_readProduct 23 rfl rfl) zf_RX11_166 rfl (k_M s177) rfl ?_
                    refine zj_iconst (zdk ttX11_readProduct 24 rfl rfl) ?_
                    refine zj_icmp_eq (t := 57) (zdk ttX11_readProduct 25 rfl rfl) (by decide) (by omega) (by decide) (fun c184 => ?_) (fun c184 => ?_)
                    · refine zj_iload_n (zdk ttX11_readProduct 30 rfl rfl) rfl ?_
                      refine zj_if_ne (t := 74) (zdk ttX11_readProduct 31 rfl rfl) (by decide) (by decide) (fun c185 => ?_) (fun c185 => ?_)
                      · exact absurd c185 (by omega)
                      · refine zj_aload_n (zdk ttX11_readProduct 32 rfl rfl) rfl (by decide) ?_
                        have b186 : -2147483648 ≤ (h175.2 0 15) ∧ (h175.2 0 15) ≤ 2147483647 := fM_15 s177
                        refine zj_geti (v := (h175.2 0 15)) (zdk ttX11_readProduct 33 rfl rfl) zf_RX11_169 rfl (k_M s177) rfl ?_
                        refine zj_if_ne (t := 74) (zdk ttX11_readProduct 34 rfl rfl) (by decide) (by omega) (fun c187 => ?_) (fun c187 => ?_)
                        · refine zj_aload_n (zdk ttX11_readProduct 39 rfl rfl) rfl (by decide) ?_
                          have b189 : 0 ≤ (h12.2 0 12) ∧ (h12.2 0 12) ≤ 400 := fM_12 s13
                          have b190 : 0 ≤ (h12.2 0 13) ∧ (h12.2 0 13) ≤ 400 := fM_13 s13
                          have b191 : 0 ≤ (h12.2 0 25) ∧ (h12.2 0 25) ≤ 400 := fM_25 s13
                          have b192 : 0 ≤ (h175.2 0 12) ∧ (h175.2 0 12) ≤ 400 := fM_12 s177
                          have b193 : 0 ≤ (h175.2 0 13) ∧ (h175.2 0 13) ≤ 400 := fM_13 s177
                          have b194 : h175.2 0 25 = (h12.2 0 25) := (zfr_f f181 rfl rfl)
                          have t195 : tok h12 := u143
                          unfold tok at t195
                          have r188B : rdB 1 h h175 := rdB_t u144 (rdB_same (s := 1) f181 rfl (by omega)) (by omega)
                          have r188P : rdP 1 h h175 := rdP_t u145 (rdP_same f181 rfl) (by omega) (by omega)
                          have b196 := r188B.2
                          refine zj_callV (av := []) (st := []) (zdk ttX11_readProduct 40 rfl rfl) mb_X11_readUnit mv_RX11_207 (ci := 11) rfl rfl (k_M s177) rfl rfl (Nat.le_of_ble_eq_true rfl) (s2_X11_readUnit l h175 s177 u178 (by omega)) (rm_ok (by decide) (by decide)) (zq_i fun v198 h199 q197 => ?_)
                          obtain ⟨b200, s201, f206, u202, u203, u204, u205⟩ := q197
                          refine zj_iconst (zdk ttX11_readProduct 41 rfl rfl) ?_
                          refine zj_icmp_ne (t := 84) (zdk ttX11_readProduct 42 rfl rfl) (by decide) (by omega) (by decide) (fun c207 => ?_) (fun c207 => ?_)
                          · refine zj_aload_n (zdk ttX11_readProduct 45 rfl rfl) rfl (by decide) ?_
                            refine zj_iload_n (zdk ttX11_readProduct 46 rfl rfl) rfl ?_
                            refine zj_if_eq (t := 93) (zdk ttX11_readProduct 47 rfl rfl) (by decide) (by decide) (fun c208 => ?_) (fun c208 => ?_)
                            · refine zj_iconst (zdk ttX11_readProduct 50 rfl rfl) ?_
                              refine zj_iconst (zdk ttX11_readProduct 51 rfl rfl) ?_
                              have r210 := u202 (by omega)
                              have r210b := r210.2.1.2
                              have r210t := r210.1
                              unfold tok at r210t
                              have r209B : rdB 1 h h199 := rdB_t r188B r210.2.1 (by omega)
                              have r209P : rdP 2 h h199 := rdP_t r188P r210.2.2 (by omega) (by omega)
                              have b211 : 0 ≤ (h199.2 0 12) ∧ (h199.2 0 12) ≤ 400 := fM_12 s201
                              have b212 : 0 ≤ (h199.2 0 13) ∧ (h199.2 0 13) ≤ 400 := fM_13 s201
                              have b213 : 0 ≤ (h199.2 0 14) ∧ (h199.2 0 14) ≤ 4 := fM_14 s201
                              have b214 : 0 ≤ (h199.2 0 25) ∧ (h199.2 0 25) ≤ 400 := fM_25 s201
                              have t215 : tok h199 := r210.1
                              unfold tok at t215
                              have b216 := r209B.2
                              refine zj_callV (av := [.inl 5, .inl 0]) (st := []) (zdk ttX11_readProduct 52 rfl rfl) mb_X11_emits mv_RX11_200 (ci := 11) rfl rfl (k_M s201) rfl rfl (Nat.le_of_ble_eq_true rfl) (s_X11_emits l h199 5 0 s201 (by omega) (by omega) (by omega)) (rm_ok (by decide) (by decide)) (zq_v fun h219 q217 => ?_)
                              obtain ⟨s221, f223, u222⟩ := q217
                              refine zj_goto (t := 10) (zdk ttX11_readProduct 53 rfl rfl) (by decide) ?_
                              refine zj_kill (k := 1) (L' := [some (.inr 0), none]) rfl ?_
                              have b224 : h219.2 0 12 = (h199.2 0 12) := (zfr_f f223 rfl rfl)
                              have b225 : h219.2 0 13 = (h199.2 0 13) := (zfr_f f223 rfl rfl)
                              have b226 : h219.2 0 14 = (h199.2 0 14) := (zfr_f f223 rfl rfl)
                              have b227 : 0 ≤ (h219.2 0 25) ∧ (h219.2 0 25) ≤ 400 := fM_25 s221
                              have f230 : zfr [12, 13, 14, 15, 25, 29, 30] [14, 15] h h175 := zfr_t f14 f181 rfl rfl
                              have f229 : zfr [12, 13, 14, 15, 25, 29, 30] [14, 15] h h199 := zfr_t f230 f206 rfl rfl
                              have f228 : zfr [12, 13, 14, 15, 25, 29, 30] [14, 15] h h219 := zfr_t f229 f223 rfl rfl
                              have r231B : rdB 0 h h219 := rdB_t r209B (rdB_em u222 f223) (by omega)
                              have r231u := u203 (by omega)
                              have r231v := r231u.2 (by omega)
                              have r231n : dop h199 (h199.2 0 25 - 1) = 0 ∧ ¬ dar h199 (h199.2 0 25 - 1) = 0 := by rw [show h199.2 0 25 - 1 = h175.2 0 25 by omega]; exact ⟨r231v.1, by rw [r231v.2]; omega⟩
                              have r231m := r209B.2
                              have r231P : rdP 1 h h219 := rdP_div r209P u222 (by omega) r231n
                              have b232 := r231B.2
                              have b233 : 0 ≤ (h.2 0 14) ∧ (h.2 0 14) ≤ 4 := fM_14 s0
                              have b234 : -2147483648 ≤ (h.2 0 15) ∧ (h.2 0 15) ≤ 2147483647 := fM_15 s0
                              have b235 : -2147483648 ≤ (h199.2 0 15) ∧ (h199.2 0 15) ≤ 2147483647 := fM_15 s201
                              have b236 : h219.2 0 14 = (h199.2 0 14) := (zfr_f f223 rfl rfl)
                              have b237 : h219.2 0 15 = (h199.2 0 15) := (zfr_f f223 rfl rfl)
                              exact ih149  h219 s221 f228 (tok_same r210.1 f223 rfl rfl rfl rfl) (rdB_t r231B (rdB_r _) (by omega)) r231P (tLo_e (tLo_t (tLo_f u146 (fun i => zfr_a f181 rfl (by decide)) (fun i => zfr_a f181 rfl (by decide))) u204) (fM_25 s201).1 u222) (by intro T j t0; obtain ⟨x_1j, x_1a, x_1l, x_1r⟩ := u147 T j t0; have k_2 := tT0 x_1a.2.2.1; have k_2j := x_1a.1.1; have k_3 := tT0 x_1a.2.2.1; have k_3j := x_1a.1.1; have a_4 : tPm 0 T (x_1j + 1) h175 := tPm_r x_1a (by omega) (u180 x_1a.2.2.2.2.2.1 (tPm_l x_1a (by omega))) (fun k => (zfr_a f181 rfl (by decide))) (fun k => (zfr_a f181 rfl (by decide))) (zfr_f f181 rfl rfl); have k_5 := tT0 a_4.2.2.1; have k_5j := a_4.1.1; have r_6 := (u205 T (x_1j + 1) a_4).1 (by omega); have a_7 : tPm 0 T ((x_1j + 1) + 1) h219 := tPm_f r_6.2.1 (fun k => (zfr_a f223 rfl (by decide))) (fun k => (zfr_a f223 rfl (by decide))) (zfr_f f223 rfl rfl) (zfr_f f223 rfl rfl) (zfr_f f223 rfl rfl) (zfr_f f223 rfl rfl) (zfr_f f223 rfl rfl); have c_8 : tCm h175 = tCm h12 := (tCm_f (zfr_f f181 rfl rfl) (fun i => zfr_a f181 rfl (by decide)) (fun i => zfr_a f181 rfl (by decide))).trans rfl; have c_9 : tCm h199 = tOp 0 (T (x_1j + 1)) :: tCm h12 := r_6.2.2.trans (congrArg _ (c_8 : tCm h175 = tCm h12)); have c_10 : tCm h219 = tEo 5 0 :: (tOp 0 (T (x_1j + 1)) :: tCm h12) := (tCm_e (fM_25 s201).1 u222).trans (congrArg _ (c_9 : tCm h199 = (tOp 0 (T (x_1j + 1)) :: tCm h12))); have o9 := tOp_f (T x_1j - 42) (T (x_1j + 1)); have o8 := tOp_f 0 (T (x_1j + 1)); exact ⟨((x_1j + 1) + 1), a_7, by omega, fun p9 w9 s9 d9 => tRe_k (tRe_s (x_1r p9 w9 s9 d9) (by rw [show x_1j + 1 + 1 = x_1j + 2 by omega]; exact tM4_y (by omega) rfl (by have r9 := r_6.1; omega))) (by rw [c_10, (show tEo 5 0 = 20000 + T x_1j by first | (rw [show (5 : Int) = 4 by omega, tEo_4]; omega) | (rw [show (5 : Int) = 5 by omega, tEo_5]; omega)), show tOp (T x_1j - 42) (T (x_1j + 1)) = tOp 0 (T (x_1j + 1)) by have r9 := r_6.1; omega])⟩) (by omega)
                            · exact absurd c208 (by omega)
                          · refine zj_iconst (zdk ttX11_readProduct 43 rfl rfl) ?_
                            have f239 : zfr [12, 13, 14, 15, 25, 29, 30] [14, 15] h h175 := zfr_t f14 f181 rfl rfl
                            have f238 : zfr [12, 13, 14, 15, 25, 29, 30] [14, 15] h h199 := zfr_t f239 f206 rfl rfl
                            have b240 : 0 ≤ (h.2 0 14) ∧ (h.2 0 14) ≤ 4 := fM_14 s0
                            have b241 : -2147483648 ≤ (h.2 0 15) ∧ (h.2 0 15) ≤ 2147483647 := fM_15 s0
                            have b242 : 0 ≤ (h199.2 0 14) ∧ (h199.2 0 14) ≤ 4 := fM_14 s201
                            have b243 : -2147483648 ≤ (h199.2 0 15) ∧ (h199.2 0 15) ≤ 2147483647 := fM_15 s201
                            exact zj_iret rfl (zdk ttX11_readProduct 44 rfl rfl) (Nat.le_refl _) (Nat.le_refl _) ⟨(-1), rfl, by omega, s201, f238, (fun q => absurd q (by omega)), (tLo_t (tLo_f u146 (fun i => zfr_a f181 rfl (by decide)) (fun i => zfr_a f181 rfl (by decide))) u204), (by intro T j t0; obtain ⟨x_1j, x_1a, x_1l, x_1r⟩ := u147 T j t0; have k_2 := tT0 x_1a.2.2.1; have k_2j := x_1a.1.1; have k_3 := tT0 x_1a.2.2.1; have k_3j := x_1a.1.1; have a_4 : tPm 0 T (x_1j + 1) h175 := tPm_r x_1a (by omega) (u180 x_1a.2.2.2.2.2.1 (tPm_l x_1a (by omega))) (fun k => (zfr_a f181 rfl (by decide))) (fun k => (zfr_a f181 rfl (by decide))) (zfr_f f181 rfl rfl); obtain ⟨e_5l, e_5p⟩ := (u205 T (x_1j + 1) a_4).2 (by omega); have e_5q := e_5p; unfold tEp at e_5q; rw [show h175.2 7 = h.2 7 from funext fun i9 => ((zfr_a f181 rfl (by decide)).trans (zfr_a f14 rfl (by decide))), show h175.2 0 11 = h.2 0 11 from ((zfr_f f181 rfl rfl).trans (zfr_f f14 rfl rfl))] at e_5q; have k_6 := tT0 a_4.2.2.1; have k_6j := a_4.1.1; have o9 := tOp_f (T x_1j - 42) (T (x_1j + 1)); have o8 := tOp_f 0 (T (x_1j + 1)); exact ⟨fun z => absurd z (by omega), fun _ => ⟨(x_1j + 1), _, e_5q, fun p9 w9 s9 d9 => tRe_s (x_1r p9 w9 s9 d9) (tM4_n (by omega) rfl (by omega) (by omega))⟩⟩)⟩
                        · refine zj_aload_n (zdk ttX11_readProduct 35 rfl rfl) rfl (by decide) ?_
                          refine zj_iconst (zdk ttX11_readProduct 36 rfl rfl) ?_
                          refine zj_callV (av := [.inl 2]) (st := []) (zdk ttX11_readProduct 37 rfl rfl) mb_X11_errs mv_RX11_197 (ci := 11) rfl rfl (k_M s177) rfl rfl (Nat.le_of_ble_eq_true rfl) (s2_X11_errs l h175 2 s177 (by omega)) (rm_ok (by decide) (by decide)) (zq_i fun v245 h246 q244 => ?_)
                          obtain ⟨b247, s248, f250, u249⟩ := q244
                          have f252 : zfr [12, 13, 14, 15, 25, 29, 30] [14, 15] h h175 := zfr_t f14 f181 rfl rfl
                          have f251 : zfr [12, 13, 14, 15, 25, 29, 30] [14, 15] h h246 := zfr_t f252 f250 rfl rfl
                          have b253 : 0 ≤ (h.2 0 14) ∧ (h.2 0 14) ≤ 4 := fM_14 s0
                          have b254 : -2147483648 ≤ (h.2 0 15) ∧ (h.2 0 15) ≤ 2147483647 := fM_15 s0
                          have b255 : h246.2 0 14 = (h175.2 0 14) := (zfr_f f250 rfl rfl)
                          have b256 : h246.2 0 15 = (h175.2 0 15) := (zfr_f f250 rfl rfl)
                          exact zj_iret rfl (zdk ttX11_readProduct 38 rfl rfl) (Nat.le_refl _) (Nat.le_refl _) ⟨v245, rfl, by omega, s248, f251, (fun q => absurd q (by omega)), (tLo_f (tLo_f u146 (fun i => zfr_a f181 rfl (by decide)) (fun i => zfr_a f181 rfl (by decide))) (fun i => zfr_a f250 rfl (by decide)) (fun i => zfr_a f250 rfl (by decide))), (by intro T j t0; obtain ⟨x_1j, x_1a, x_1l, x_1r⟩ := u147 T j t0; have k_2 := tT0 x_1a.2.2.1; have k_2j := x_1a.1.1; have k_3 := tT0 x_1a.2.2.1; have k_3j := x_1a.1.1; have a_4 : tPm 0 T (x_1j + 1) h175 := tPm_r x_1a (by omega) (u180 x_1a.2.2.2.2.2.1 (tPm_l x_1a (by omega))) (fun k => (zfr_a f181 rfl (by decide))) (fun k => (zfr_a f181 rfl (by decide))) (zfr_f f181 rfl rfl); have e_5 : tEp h h246 (x_1j + 1) 2 := ⟨u249.1, a_4.1.1, by have q9 := a_4.2.1; rw [show h175.2 7 = h.2 7 from funext fun i9 => ((zfr_a f181 rfl (by decide)).trans (zfr_a f14 rfl (by decide))), show h175.2 0 11 = h.2 0 11 from ((zfr_f f181 rfl rfl).trans (zfr_f f14 rfl rfl))] at q9; rw [u249.2]; exact q9⟩; have k_6 := tT0 a_4.2.2.1; have k_6j := a_4.1.1; have o9 := tOp_f (T x_1j - 42) (T (x_1j + 1)); exact ⟨fun z => absurd z (by omega), fun _ => ⟨(x_1j + 1), _, e_5, fun p9 w9 s9 d9 => tRe_s (x_1r p9 w9 s9 d9) (tM4_n (by omega) rfl (by omega) (by omega))⟩⟩)⟩
                    · refine zj_aload_n (zdk ttX11_readProduct 26 rfl rfl) rfl (by decide) ?_
                      refine zj_iconst (zdk ttX11_readProduct 27 rfl rfl) ?_
                      refine zj_callV (av := [.inl 1]) (st := []) (zdk ttX11_readProduct 28 rfl rfl) mb_X11_errs mv_RX11_197 (ci := 11) rfl rfl (k_M s177) rfl rfl (Nat.le_of_ble_eq_true rfl) (s2_X11_errs l h175 1 s177 (by omega)) (rm_ok (by decide) (by decide)) (zq_i fun v258 h259 q257 => ?_)
                      obtain ⟨b260, s261, f263, u262⟩ := q257
                      have f265 : zfr [12, 13, 14, 15, 25, 29, 30] [14, 15] h h175 := zfr_t f14 f181 rfl rfl
                      have f264 : zfr [12, 13, 14, 15, 25, 29, 30] [14, 15] h h259 := zfr_t f265 f263 rfl rfl
                      have b266 : 0 ≤ (h.2 0 14) ∧ (h.2 0 14) ≤ 4 := fM_14 s0
                      have b267 : -2147483648 ≤ (h.2 0 15) ∧ (h.2 0 15) ≤ 2147483647 := fM_15 s0
                      have b268 : -2147483648 ≤ (h175.2 0 15) ∧ (h175.2 0 15) ≤ 2147483647 := fM_15 s177
                      have b269 : h259.2 0 14 = (h175.2 0 14) := (zfr_f f263 rfl rfl)
                      have b270 : h259.2 0 15 = (h175.2 0 15) := (zfr_f f263 rfl rfl)
                      exact zj_iret rfl (zdk ttX11_readProduct 29 rfl rfl) (Nat.le_refl _) (Nat.le_refl _) ⟨v258, rfl, by omega, s261, f264, (fun q => absurd q (by omega)), (tLo_f (tLo_f u146 (fun i => zfr_a f181 rfl (by decide)) (fun i => zfr_a f181 rfl (by decide))) (fun i => zfr_a f263 rfl (by decide)) (fun i => zfr_a f263 rfl (by decide))), (by intro T j t0; obtain ⟨x_1j, x_1a, x_1l, x_1r⟩ := u147 T j t0; have k_2 := tT0 x_1a.2.2.1; have k_2j := x_1a.1.1; have k_3 := tT0 x_1a.2.2.1; have k_3j := x_1a.1.1; have a_4 : tPm 0 T (x_1j + 1) h175 := tPm_r x_1a (by omega) (u180 x_1a.2.2.2.2.2.1 (tPm_l x_1a (by omega))) (fun k => (zfr_a f181 rfl (by decide))) (fun k => (zfr_a f181 rfl (by decide))) (zfr_f f181 rfl rfl); have e_5 : tEp h h259 (x_1j + 1) 1 := ⟨u262.1, a_4.1.1, by have q9 := a_4.2.1; rw [show h175.2 7 = h.2 7 from funext fun i9 => ((zfr_a f181 rfl (by decide)).trans (zfr_a f14 rfl (by decide))), show h175.2 0 11 = h.2 0 11 from ((zfr_f f181 rfl rfl).trans (zfr_f f14 rfl rfl))] at q9; rw [u262.2]; exact q9⟩; have k_6 := tT0 a_4.2.2.1; have k_6j := a_4.1.1; have o9 := tOp_f (T x_1j - 42) (T (x_1j + 1)); exact ⟨fun z => absurd z (by omega), fun _ => ⟨(x_1j + 1), _, e_5, fun p9 w9 s9 d9 => tRe_s (x_1r p9 w9 s9 d9) (tM4_n (by omega) rfl (by omega) (by omega))⟩⟩)⟩
                · exact absurd b170 (by omega)
        · refine zj_if_ne (t := 28) (zdk ttX11_readProduct 9 rfl rfl) (by decide) (by decide) (fun c271 => ?_) (fun c271 => ?_)
          · refine zj_aload_n (zdk ttX11_readProduct 14 rfl rfl) rfl (by decide) ?_
            refine zj_bipush (zdk ttX11_readProduct 15 rfl rfl) (by decide) ?_
            refine zj_callV (av := [.inl 42]) (st := []) (zdk ttX11_readProduct 16 rfl rfl) mb_X11_isSign mv_RX11_211 (ci := 11) rfl rfl (k_M s13) rfl rfl (Nat.le_of_ble_eq_true rfl) (s_X11_isSign l h12 42 s13 (by omega)) (rm_ok (by decide) (by decide)) (zq_i fun v273 h274 q272 => ?_)
            obtain ⟨rfl, b276, b277, ⟨rfl, b275⟩ | ⟨rfl, b275⟩⟩ := q272
            · exact absurd b275 (by omega)
            · refine zj_istore_n (L' := [some (.inr 0), some (.inl 1)]) (zdk ttX11_readProduct 17 rfl rfl) (by decide) rfl ?_
              refine zj_aload_n (zdk ttX11_readProduct 18 rfl rfl) rfl (by decide) ?_
              refine zj_callV (av := []) (st := []) (zdk ttX11_readProduct 19 rfl rfl) mb_X11_reads mv_RX11_204 (ci := 11) rfl rfl (k_M s13) rfl rfl (Nat.le_of_ble_eq_true rfl) (s2_X11_reads l h12 s13) (rm_ok (by decide) (by decide)) (zq_v fun h280 q278 => ?_)
              obtain ⟨s282, f286, u283, u284, u285⟩ := q278
              refine zj_iload_n (zdk ttX11_readProduct 20 rfl rfl) rfl ?_
              refine zj_if_ne (t := 57) (zdk ttX11_readProduct 21 rfl rfl) (by decide) (by decide) (fun c287 => ?_) (fun c287 => ?_)
              · refine zj_iload_n (zdk ttX11_readProduct 30 rfl rfl) rfl ?_
                refine zj_if_ne (t := 74) (zdk ttX11_readProduct 31 rfl rfl) (by decide) (by decide) (fun c288 => ?_) (fun c288 => ?_)
                · refine zj_aload_n (zdk ttX11_readProduct 39 rfl rfl) rfl (by decide) ?_
                  have b290 : 0 ≤ (h12.2 0 12) ∧ (h12.2 0 12) ≤ 400 := fM_12 s13
                  have b291 : 0 ≤ (h12.2 0 13) ∧ (h12.2 0 13) ≤ 400 := fM_13 s13
                  have b292 : 0 ≤ (h12.2 0 25) ∧ (h12.2 0 25) ≤ 400 := fM_25 s13
                  have b293 : 0 ≤ (h280.2 0 12) ∧ (h280.2 0 12) ≤ 400 := fM_12 s282
                  have b294 : 0 ≤ (h280.2 0 13) ∧ (h280.2 0 13) ≤ 400 := fM_13 s282
                  have b295 : 0 ≤ (h280.2 0 14) ∧ (h280.2 0 14) ≤ 4 := fM_14 s282
                  have b296 : h280.2 0 25 = (h12.2 0 25) := (zfr_f f286 rfl rfl)
                  have t297 : tok h12 := u143
                  unfold tok at t297
                  have r289B : rdB 1 h h280 := rdB_t u144 (rdB_same (s := 1) f286 rfl (by omega)) (by omega)
                  have r289P : rdP 1 h h280 := rdP_t u145 (rdP_same f286 rfl) (by omega) (by omega)
                  have b298 := r289B.2
                  refine zj_callV (av := []) (st := []) (zdk ttX11_readProduct 40 rfl rfl) mb_X11_readUnit mv_RX11_207 (ci := 11) rfl rfl (k_M s282) rfl rfl (Nat.le_of_ble_eq_true rfl) (s2_X11_readUnit l h280 s282 u283 (by omega)) (rm_ok (by decide) (by decide)) (zq_i fun v300 h301 q299 => ?_)
                  obtain ⟨b302, s303, f308, u304, u305, u306, u307⟩ := q299
                  refine zj_iconst (zdk ttX11_readProduct 41 rfl rfl) ?_
                  refine zj_icmp_ne (t := 84) (zdk ttX11_readProduct 42 rfl rfl) (by decide) (by omega) (by decide) (fun c309 => ?_) (fun c309 => ?_)
                  · refine zj_aload_n (zdk ttX11_readProduct 45 rfl rfl) rfl (by decide) ?_
                    refine zj_iload_n (zdk ttX11_readProduct 46 rfl rfl) rfl ?_
                    refine zj_if_eq (t := 93) (zdk ttX11_readProduct 47 rfl rfl) (by decide) (by decide) (fun c310 => ?_) (fun c310 => ?_)
                    · exact absurd c310 (by omega)
                    · refine zj_iconst (zdk ttX11_readProduct 48 rfl rfl) ?_
                      refine zj_goto (t := 94) (zdk ttX11_readProduct 49 rfl rfl) (by decide) ?_
                      refine zj_iconst (zdk ttX11_readProduct 51 rfl rfl) ?_
                      have r312 := u304 (by omega)
                      have r312b := r312.2.1.2
                      have r312t := r312.1
                      unfold tok at r312t
                      have r311B : rdB 1 h h301 := rdB_t r289B r312.2.1 (by omega)
                      have r311P : rdP 2 h h301 := rdP_t r289P r312.2.2 (by omega) (by omega)
                      have b313 : 0 ≤ (h301.2 0 12) ∧ (h301.2 0 12) ≤ 400 := fM_12 s303
                      have b314 : 0 ≤ (h301.2 0 13) ∧ (h301.2 0 13) ≤ 400 := fM_13 s303
                      have b315 : 0 ≤ (h301.2 0 14) ∧ (h301.2 0 14) ≤ 4 := fM_14 s303
                      have b316 : 0 ≤ (h301.2 0 25) ∧ (h301.2 0 25) ≤ 400 := fM_25 s303
                      have t317 : tok h301 := r312.1
                      unfold tok at t317
                      have b318 := r311B.2
                      refine zj_callV (av := [.inl 4, .inl 0]) (st := []) (zdk ttX11_readProduct 52 rfl rfl) mb_X11_emits mv_RX11_200 (ci := 11) rfl rfl (k_M s303) rfl rfl (Nat.le_of_ble_eq_true rfl) (s_X11_emits l h301 4 0 s303 (by omega) (by omega) (by omega)) (rm_ok (by decide) (by decide)) (zq_v fun h321 q319 => ?_)
                      obtain ⟨s323, f325, u324⟩ := q319
                      refine zj_goto (t := 10) (zdk ttX11_readProduct 53 rfl rfl) (by decide) ?_
                      refine zj_kill (k := 1) (L' := [some (.inr 0), none]) rfl ?_
                      have b326 : h321.2 0 12 = (h301.2 0 12) := (zfr_f f325 rfl rfl)
                      have b327 : h321.2 0 13 = (h301.2 0 13) := (zfr_f f325 rfl rfl)
                      have b328 : h321.2 0 14 = (h301.2 0 14) := (zfr_f f325 rfl rfl)
                      have b329 : 0 ≤ (h321.2 0 25) ∧ (h321.2 0 25) ≤ 400 := fM_25 s323
                      have f332 : zfr [12, 13, 14, 15, 25, 29, 30] [14, 15] h h280 := zfr_t f14 f286 rfl rfl
                      have f331 : zfr [12, 13, 14, 15, 25, 29, 30] [14, 15] h h301 := zfr_t f332 f308 rfl rfl
                      have f330 : zfr [12, 13, 14, 15, 25, 29, 30] [14, 15] h h321 := zfr_t f331 f325 rfl rfl
                      have r333B : rdB 0 h h321 := rdB_t r311B (rdB_em u324 f325) (by omega)
                      have r333P : rdP 1 h h321 := rdP_bin r311P u324 (by decide)
                      have b334 := r333B.2
                      have b335 : 0 ≤ (h.2 0 14) ∧ (h.2 0 14) ≤ 4 := fM_14 s0
                      have b336 : -2147483648 ≤ (h.2 0 15) ∧ (h.2 0 15) ≤ 2147483647 := fM_15 s0
                      have b337 : -2147483648 ≤ (h280.2 0 15) ∧ (h280.2 0 15) ≤ 2147483647 := fM_15 s282
                      have b338 : -2147483648 ≤ (h301.2 0 15) ∧ (h301.2 0 15) ≤ 2147483647 := fM_15 s303
                      have b339 : h321.2 0 14 = (h301.2 0 14) := (zfr_f f325 rfl rfl)
                      have b340 : h321.2 0 15 = (h301.2 0 15) := (zfr_f f325 rfl rfl)
                      exact ih149  h321 s323 f330 (tok_same r312.1 f325 rfl rfl rfl rfl) (rdB_t r333B (rdB_r _) (by omega)) r333P (tLo_e (tLo_t (tLo_f u146 (fun i => zfr_a f286 rfl (by decide)) (fun i => zfr_a f286 rfl (by decide))) u306) (fM_25 s303).1 u324) (by intro T j t0; obtain ⟨x_1j, x_1a, x_1l, x_1r⟩ := u147 T j t0; have k_2 := tT0 x_1a.2.2.1; have k_2j := x_1a.1.1; have k_3 := tT0 x_1a.2.2.1; have k_3j := x_1a.1.1; have a_4 : tPm 0 T (x_1j + 1) h280 := tPm_r x_1a (by omega) (u285 x_1a.2.2.2.2.2.1 (tPm_l x_1a (by omega))) (fun k => (zfr_a f286 rfl (by decide))) (fun k => (zfr_a f286 rfl (by decide))) (zfr_f f286 rfl rfl); have k_5 := tT0 a_4.2.2.1; have k_5j := a_4.1.1; have r_6 := (u307 T (x_1j + 1) a_4).1 (by omega); have a_7 : tPm 0 T ((x_1j + 1) + 1) h321 := tPm_f r_6.2.1 (fun k => (zfr_a f325 rfl (by decide))) (fun k => (zfr_a f325 rfl (by decide))) (zfr_f f325 rfl rfl) (zfr_f f325 rfl rfl) (zfr_f f325 rfl rfl) (zfr_f f325 rfl rfl) (zfr_f f325 rfl rfl); have c_8 : tCm h280 = tCm h12 := (tCm_f (zfr_f f286 rfl rfl) (fun i => zfr_a f286 rfl (by decide)) (fun i => zfr_a f286 rfl (by decide))).trans rfl; have c_9 : tCm h301 = tOp 0 (T (x_1j + 1)) :: tCm h12 := r_6.2.2.trans (congrArg _ (c_8 : tCm h280 = tCm h12)); have c_10 : tCm h321 = tEo 4 0 :: (tOp 0 (T (x_1j + 1)) :: tCm h12) := (tCm_e (fM_25 s303).1 u324).trans (congrArg _ (c_9 : tCm h301 = (tOp 0 (T (x_1j + 1)) :: tCm h12))); have o9 := tOp_f (T x_1j - 42) (T (x_1j + 1)); have o8 := tOp_f 0 (T (x_1j + 1)); exact ⟨((x_1j + 1) + 1), a_7, by omega, fun p9 w9 s9 d9 => tRe_k (tRe_s (x_1r p9 w9 s9 d9) (by rw [show x_1j + 1 + 1 = x_1j + 2 by omega]; exact tM4_y (by omega) rfl (by have r9 := r_6.1; omega))) (by rw [c_10, (show tEo 4 0 = 20000 + T x_1j by first | (rw [show (4 : Int) = 4 by omega, tEo_4]; omega) | (rw [show (4 : Int) = 5 by omega, tEo_5]; omega)), show tOp (T x_1j - 42) (T (x_1j + 1)) = tOp 0 (T (x_1j + 1)) by have r9 := r_6.1; omega])⟩) (by omega)
                  · refine zj_iconst (zdk ttX11_readProduct 43 rfl rfl) ?_
                    have f342 : zfr [12, 13, 14, 15, 25, 29, 30] [14, 15] h h280 := zfr_t f14 f286 rfl rfl
                    have f341 : zfr [12, 13, 14, 15, 25, 29, 30] [14, 15] h h301 := zfr_t f342 f308 rfl rfl
                    have b343 : 0 ≤ (h.2 0 14) ∧ (h.2 0 14) ≤ 4 := fM_14 s0
                    have b344 : -2147483648 ≤ (h.2 0 15) ∧ (h.2 0 15) ≤ 2147483647 := fM_15 s0
                    have b345 : -2147483648 ≤ (h280.2 0 15) ∧ (h280.2 0 15) ≤ 2147483647 := fM_15 s282
                    have b346 : 0 ≤ (h301.2 0 14) ∧ (h301.2 0 14) ≤ 4 := fM_14 s303
                    have b347 : -2147483648 ≤ (h301.2 0 15) ∧ (h301.2 0 15) ≤ 2147483647 := fM_15 s303
                    exact zj_iret rfl (zdk ttX11_readProduct 44 rfl rfl) (Nat.le_refl _) (Nat.le_refl _) ⟨(-1), rfl, by omega, s303, f341, (fun q => absurd q (by omega)), (tLo_t (tLo_f u146 (fun i => zfr_a f286 rfl (by decide)) (fun i => zfr_a f286 rfl (by decide))) u306), (by intro T j t0; obtain ⟨x_1j, x_1a, x_1l, x_1r⟩ := u147 T j t0; have k_2 := tT0 x_1a.2.2.1; have k_2j := x_1a.1.1; have k_3 := tT0 x_1a.2.2.1; have k_3j := x_1a.1.1; have a_4 : tPm 0 T (x_1j + 1) h280 := tPm_r x_1a (by omega) (u285 x_1a.2.2.2.2.2.1 (tPm_l x_1a (by omega))) (fun k => (zfr_a f286 rfl (by decide))) (fun k => (zfr_a f286 rfl (by decide))) (zfr_f f286 rfl rfl); obtain ⟨e_5l, e_5p⟩ := (u307 T (x_1j + 1) a_4).2 (by omega); have e_5q := e_5p; unfold tEp at e_5q; rw [show h280.2 7 = h.2 7 from funext fun i9 => ((zfr_a f286 rfl (by decide)).trans (zfr_a f14 rfl (by decide))), show h280.2 0 11 = h.2 0 11 from ((zfr_f f286 rfl rfl).trans (zfr_f f14 rfl rfl))] at e_5q; have k_6 := tT0 a_4.2.2.1; have k_6j := a_4.1.1; have o9 := tOp_f (T x_1j - 42) (T (x_1j + 1)); have o8 := tOp_f 0 (T (x_1j + 1)); exact ⟨fun z => absurd z (by omega), fun _ => ⟨(x_1j + 1), _, e_5q, fun p9 w9 s9 d9 => tRe_s (x_1r p9 w9 s9 d9) (tM4_n (by omega) rfl (by omega) (by omega))⟩⟩)⟩
                · exact absurd c288 (by omega)
              · exact absurd c287 (by omega)
          · exact absurd c271 (by omega)
    have b348 : 0 ≤ (h3.2 0 12) ∧ (h3.2 0 12) ≤ 400 := fM_12 s5
    have b349 : 0 ≤ (h3.2 0 13) ∧ (h3.2 0 13) ≤ 400 := fM_13 s5
    have b350 : 0 ≤ (h3.2 0 14) ∧ (h3.2 0 14) ≤ 4 := fM_14 s5
    have b351 : 0 ≤ (h3.2 0 25) ∧ (h3.2 0 25) ≤ 400 := fM_25 s5
    have f352 : zfr [12, 13, 14, 15, 25, 29, 30] [14, 15] h h3 := zfr_t (zfr_r _ _ _) f10 rfl rfl
    have r353 := u6 (by omega)
    have r353b := r353.2.1.2
    have r353t := r353.1
    unfold tok at r353t
    have r354B : rdB 0 h h3 := rdB_t (rdB_r h) r353.2.1 (by omega)
    have r354P : rdP 1 h h3 := rdP_t (rdP_r h) r353.2.2 (by omega) (by omega)
    have b355 := r354B.2
    have b356 : 0 ≤ (h.2 0 14) ∧ (h.2 0 14) ≤ 4 := fM_14 s0
    have b357 : -2147483648 ≤ (h.2 0 15) ∧ (h.2 0 15) ≤ 2147483647 := fM_15 s0
    have b358 : -2147483648 ≤ (h3.2 0 15) ∧ (h3.2 0 15) ≤ 2147483647 := fM_15 s5
    exact lp142 _ h3 s5 f352 r353.1 (rdB_t r354B (rdB_r _) (by omega)) r354P (tLo_t tLo_r u8) (by intro T j t0; have r_1 := (u9 T j t0).1 (by omega); have c_2 : tCm h3 = tOp 0 (T j) :: tCm h := r_1.2.2.trans (congrArg _ (rfl : tCm h = tCm h)); exact ⟨(j + 1), r_1.2.1, by omega, fun p9 w9 s9 d9 => tRe_k (tRe_1 (tM3_y rfl r_1.1)) c_2.symm⟩) (Nat.lt_succ_self _)
  · refine zj_iconst (zdk ttX11_readProduct 4 rfl rfl) ?_
    have f359 : zfr [12, 13, 14, 15, 25, 29, 30] [14, 15] h h3 := zfr_t (zfr_r _ _ _) f10 rfl rfl
    have b360 : 0 ≤ (h.2 0 14) ∧ (h.2 0 14) ≤ 4 := fM_14 s0
    have b361 : -2147483648 ≤ (h.2 0 15) ∧ (h.2 0 15) ≤ 2147483647 := fM_15 s0
    have b362 : 0 ≤ (h3.2 0 14) ∧ (h3.2 0 14) ≤ 4 := fM_14 s5
    have b363 : -2147483648 ≤ (h3.2 0 15) ∧ (h3.2 0 15) ≤ 2147483647 := fM_15 s5
    exact zj_iret rfl (zdk ttX11_readProduct 5 rfl rfl) (Nat.le_refl _) (Nat.le_refl _) ⟨(-1), rfl, by omega, s5, f359, (fun q => absurd q (by omega)), (tLo_t tLo_r u8), (by intro T j t0; obtain ⟨e_1l, e_1p⟩ := (u9 T j t0).2 (by omega); have e_1q := e_1p; unfold tEp at e_1q; rw [show h.2 7 = h.2 7 from funext fun i9 => rfl, show h.2 0 11 = h.2 0 11 from rfl] at e_1q; exact ⟨fun z => absurd z (by omega), fun _ => ⟨j, _, e_1q, fun p9 w9 s9 d9 => tRe_1 (tM3_n rfl (by omega) rfl)⟩⟩)⟩

