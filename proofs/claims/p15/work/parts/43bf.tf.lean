abbrev q2_X11_readLaw (h : zM) : Option zV → zM → Prop := zqi fun v h' => ((-1) ≤ v ∧ v ≤ 16) ∧ okM h' ∧ zfr [12, 13, 14, 15, 25, 26, 28, 29, 30] [10, 11, 12, 13, 14, 15, 16] h h' ∧ (0 ≤ v → zLn h' v) ∧ (tLo h h') ∧ (∀ i, i < 32 → h'.2 10 i = h.2 10 i ∧ h'.2 11 i = h.2 11 i ∧ h'.2 12 i = h.2 12 i ∧ h'.2 13 i = h.2 13 i) ∧ (∀ T, tPm 0 T 0 h → h.2 0 26 = 0 → (0 ≤ v → ∃ j9, ∀ p9 : Int, tRe T p9 (2, 0, 0, [], tCm h, []) (1, j9, v, [], tCm h', tL4 h' v.toNat)) ∧ (v = -1 → ∃ i9 f9, tEp h h' i9 f9 ∧ ∀ p9 : Int, tRe T p9 (2, 0, 0, [], tCm h, []) (tEr i9 f9)))
set_option maxRecDepth 100000 in
set_option maxHeartbeats 4000000 in
theorem s2_X11_readLaw (l : Launch) (h : zM) (s0 : okM h) (u_0 : tok h) (u_1 : h.2 0 25 ≤ h.2 0 13) : zT shM l yX11_readLaw cX11_readLaw 3 (some .int) (rmL 9) 0 0 [.inr 0] h (q2_X11_readLaw h) := by
  refine zT_of (by decide +kernel) (L0 := [some (.inr 0), none, none]) rfl (Nat.le_of_ble_eq_true rfl) ?_
  refine zj_iconst (zdk ttX11_readLaw 0 rfl rfl) ?_
  refine zj_istore_n (L' := [some (.inr 0), some (.inl 0), none]) (zdk ttX11_readLaw 1 rfl rfl) (by decide) rfl ?_
  have lp145 : ∀ (n2 : Nat) (x1 : Int) (h2 : zM), (0 ≤ x1 ∧ x1 ≤ 16) → okM h2 → zfr [12, 13, 14, 15, 25, 26, 28, 29, 30] [10, 11, 12, 13, 14, 15, 16] h h2 → (tok h2) → (h2.2 0 25 ≤ h2.2 0 13) → (zLn h2 x1) → (tLo h h2) → (∀ i, i < 32 → h2.2 10 i = h.2 10 i ∧ h2.2 11 i = h.2 11 i ∧ h2.2 12 i = h.2 12 i ∧ h2.2 13 i = h.2 13 i) → (∀ T, tPm 0 T 0 h → h.2 0 26 = 0 → ∃ j9, tPm 0 T j9 h2 ∧ h2.2 0 26 = 0 ∧ ∀ p9, tRe T p9 (2, 0, 0, [], tCm h, []) (2, j9, x1, [], tCm h2, tL4 h2 (x1).toNat)) → (17 - x1).toNat < n2 → zJ shM l yX11_readLaw cX11_readLaw 3 (some .int) (rmL 9) 0 0 (q2_X11_readLaw h) 0 0 2 [some (.inr 0), some (.inl x1), none] [] h2 := by
    intro n2
    induction n2 with
    | zero => intro x1 h2 b146 s3 f4 u147 u148 u149 u150 u151 u152 m153; exact absurd m153 (Nat.not_lt_zero _)
    | succ n2 ih154 =>
      intro x1 h2 b146 s3 f4 u147 u148 u149 u150 u151 u152 m153
      refine zj_aload_n (zdk ttX11_readLaw 2 rfl rfl) rfl (by decide) ?_
      refine zj_callV (av := []) (st := []) (zdk ttX11_readLaw 3 rfl rfl) mb_X11_isLineWord mv_RX11_238 (ci := 11) rfl rfl (k_M s3) rfl rfl (Nat.le_of_ble_eq_true rfl) (s_X11_isLineWord l h2 s3) (rm_ok (by decide) (by decide)) (zq_i fun v156 h157 q155 => ?_)
      obtain ⟨rfl, b159, b160, ⟨rfl, b158⟩ | ⟨rfl, b158⟩⟩ := q155
      · refine zj_if_eq (t := 128) (zdk ttX11_readLaw 4 rfl rfl) (by decide) (by decide) (fun c161 => ?_) (fun c161 => ?_)
        · refine zj_aload_n (zdk ttX11_readLaw 75 rfl rfl) rfl (by decide) ?_
          refine zj_geti (v := (h2.2 0 14)) (zdk ttX11_readLaw 76 rfl rfl) zf_RX11_166 rfl (k_M s3) rfl ?_
          refine zj_if_ne (t := 139) (zdk ttX11_readLaw 77 rfl rfl) (by decide) (by omega) (fun c162 => ?_) (fun c162 => ?_)
          · refine zj_aload_n (zdk ttX11_readLaw 80 rfl rfl) rfl (by decide) ?_
            refine zj_iconst (zdk ttX11_readLaw 81 rfl rfl) ?_
            refine zj_callV (av := [.inl 1]) (st := []) (zdk ttX11_readLaw 82 rfl rfl) mb_X11_errs mv_RX11_197 (ci := 11) rfl rfl (k_M s3) rfl rfl (Nat.le_of_ble_eq_true rfl) (s2_X11_errs l h2 1 s3 (by omega)) (rm_ok (by decide) (by decide)) (zq_i fun v164 h165 q163 => ?_)
            obtain ⟨b166, s167, f169, u168⟩ := q163
            have f170 : zfr [12, 13, 14, 15, 25, 26, 28, 29, 30] [10, 11, 12, 13, 14, 15, 16] h h165 := zfr_t f4 f169 rfl rfl
            have b171 : 0 ≤ (h.2 0 14) ∧ (h.2 0 14) ≤ 4 := fM_14 s0
            have b172 : -2147483648 ≤ (h.2 0 15) ∧ (h.2 0 15) ≤ 2147483647 := fM_15 s0
            have b173 : h165.2 0 14 = (h2.2 0 14) := (zfr_f f169 rfl rfl)
            have b174 : h165.2 0 15 = (h2.2 0 15) := (zfr_f f169 rfl rfl)
            exact zj_iret rfl (zdk ttX11_readLaw 83 rfl rfl) (Nat.le_refl _) (Nat.le_refl _) ⟨v164, rfl, by omega, s167, f170, (fun q => absurd q (by omega)), (tLo_f u150 (fun i => zfr_a f169 rfl (by decide)) (fun i => zfr_a f169 rfl (by decide))), (fun i i9 => ⟨((zfr_a f169 rfl (by decide))).trans (u151 i i9).1, ((zfr_a f169 rfl (by decide))).trans (u151 i i9).2.1, ((zfr_a f169 rfl (by decide))).trans (u151 i i9).2.2.1, ((zfr_a f169 rfl (by decide))).trans (u151 i i9).2.2.2⟩), (by intro T t0 o0; obtain ⟨xj, xa, xo, xr⟩ := u152 T t0 o0; have k_1 := tT0 xa.2.2.1; have k_1j := xa.1.1; have e_2 : tEp h h165 xj 1 := ⟨u168.1, xa.1.1, by have q9 := xa.2.1; rw [show h2.2 7 = h.2 7 from funext fun i9 => (zfr_a f4 rfl (by decide)), show h2.2 0 11 = h.2 0 11 from (zfr_f f4 rfl rfl)] at q9; rw [u168.2]; exact q9⟩; exact ⟨fun z => absurd z (by omega), fun _ => ⟨xj, _, e_2, fun p9 => by first | exact tRe_s (xr p9) (tM2_3 (by omega) (by omega)) | exact tRe_s (xr p9) (tM2_1 (by omega) (by omega))⟩⟩)⟩
          · refine zj_iload_n (zdk ttX11_readLaw 78 rfl rfl) rfl ?_
            refine zj_goto (t := 144) (zdk ttX11_readLaw 79 rfl rfl) (by decide) ?_
            have b175 : 0 ≤ (h.2 0 14) ∧ (h.2 0 14) ≤ 4 := fM_14 s0
            have b176 : -2147483648 ≤ (h.2 0 15) ∧ (h.2 0 15) ≤ 2147483647 := fM_15 s0
            exact zj_iret rfl (zdk ttX11_readLaw 83 rfl rfl) (Nat.le_refl _) (Nat.le_refl _) ⟨x1, rfl, by omega, s3, f4, (fun _ => u149), u150, (fun i i9 => ⟨(rfl).trans (u151 i i9).1, (rfl).trans (u151 i i9).2.1, (rfl).trans (u151 i i9).2.2.1, (rfl).trans (u151 i i9).2.2.2⟩), (by intro T t0 o0; obtain ⟨xj, xa, xo, xr⟩ := u152 T t0 o0; have k_1 := tT0 xa.2.2.1; have k_1j := xa.1.1; exact ⟨fun _ => ⟨xj, fun p9 => tRe_k (tRe_q (tRe_s (xr p9) (tM2_e (by omega))) (rfl : tL4 h2 _ = tL4 h2 _)) (rfl : tCm h2 = tCm h2).symm⟩, fun z => absurd z (by omega)⟩)⟩
        · exact absurd c161 (by omega)
      · refine zj_if_eq (t := 128) (zdk ttX11_readLaw 4 rfl rfl) (by decide) (by decide) (fun c177 => ?_) (fun c177 => ?_)
        · exact absurd c177 (by omega)
        · refine zj_iload_n (zdk ttX11_readLaw 5 rfl rfl) rfl ?_
          refine zj_bipush (zdk ttX11_readLaw 6 rfl rfl) (by decide) ?_
          refine zj_icmp_ne (t := 21) (zdk ttX11_readLaw 7 rfl rfl) (by decide) (by omega) (by decide) (fun c178 => ?_) (fun c178 => ?_)
          · refine zj_bipush (zdk ttX11_readLaw 12 rfl rfl) (by decide) ?_
            refine zj_iload_n (zdk ttX11_readLaw 13 rfl rfl) rfl ?_
            refine zj_iadd (zdk ttX11_readLaw 14 rfl rfl) ?_
            refine zj_istore_n (L' := [some (.inr 0), some (.inl x1), some (.inl (32 + x1))]) (zdk ttX11_readLaw 15 rfl rfl) (by decide) rfl ?_
            refine zj_aload_n (zdk ttX11_readLaw 16 rfl rfl) rfl (by decide) ?_
            refine zj_getr (r := 10) (zdk ttX11_readLaw 17 rfl rfl) zf_RX11_37 rfl (k_M s3) (rfM_18 s3) ?_
            refine zj_iload_n (zdk ttX11_readLaw 18 rfl rfl) rfl ?_
            refine zj_aload_n (zdk ttX11_readLaw 19 rfl rfl) rfl (by decide) ?_
            refine zj_geti (v := (h2.2 0 15)) (zdk ttX11_readLaw 20 rfl rfl) zf_RX11_169 rfl (k_M s3) rfl ?_
            refine zj_iast (zdk ttX11_readLaw 21 rfl rfl) (kaM_10 s3) (by decide) (by omega) (fun h179 e180 => ?_)
            refine zj_aload_n (zdk ttX11_readLaw 22 rfl rfl) rfl (by decide) ?_
            have s181 : okM h179 := awM_10 s3 e180 (by omega) (by unfold nsp; omega)
            refine zj_callV (av := []) (st := []) (zdk ttX11_readLaw 23 rfl rfl) mb_X11_reads mv_RX11_204 (ci := 11) rfl rfl (k_M s181) rfl rfl (Nat.le_of_ble_eq_true rfl) (s2_X11_reads l h179 s181) (rm_ok (by decide) (by decide)) (zq_v fun h184 q182 => ?_)
            obtain ⟨s186, f190, u187, u188, u189⟩ := q182
            refine zj_aload_n (zdk ttX11_readLaw 24 rfl rfl) rfl (by decide) ?_
            refine zj_getr (r := 11) (zdk ttX11_readLaw 25 rfl rfl) zf_RX11_40 rfl (k_M s186) (rfM_19 s186) ?_
            refine zj_iload_n (zdk ttX11_readLaw 26 rfl rfl) rfl ?_
            refine zj_aload_n (zdk ttX11_readLaw 27 rfl rfl) rfl (by decide) ?_
            have b191 : 0 ≤ (h2.2 0 25) ∧ (h2.2 0 25) ≤ 400 := fM_25 s3
            refine zj_geti (v := (h2.2 0 25)) (zdk ttX11_readLaw 28 rfl rfl) zf_RX11_191 rfl (k_M s186) ((zfr_f f190 rfl rfl).trans (zwr_r e180 (by omega))) ?_
            refine zj_iast (zdk ttX11_readLaw 29 rfl rfl) (kaM_11 s186) (by decide) (by omega) (fun h192 e193 => ?_)
            refine zj_aload_n (zdk ttX11_readLaw 30 rfl rfl) rfl (by decide) ?_
            have s194 : okM h192 := awM_11 s186 e193 (by omega) (by unfold nsp; omega)
            have r195B : rdB 0 h2 h179 := rdB_t (rdB_r h2) (rdB_st e180 (by decide)) (by omega)
            have b197 : h179.2 0 12 = (h2.2 0 12) := (zwr_r e180 (by omega))
            have b198 : 0 ≤ (h2.2 0 12) ∧ (h2.2 0 12) ≤ 400 := fM_12 s3
            have b199 : h179.2 0 13 = (h2.2 0 13) := (zwr_r e180 (by omega))
            have b200 : 0 ≤ (h2.2 0 13) ∧ (h2.2 0 13) ≤ 400 := fM_13 s3
            have b201 : h179.2 0 14 = (h2.2 0 14) := (zwr_r e180 (by omega))
            have b202 : h179.2 0 25 = (h2.2 0 25) := (zwr_r e180 (by omega))
            have b203 : 0 ≤ (h184.2 0 12) ∧ (h184.2 0 12) ≤ 400 := fM_12 s186
            have b204 : 0 ≤ (h184.2 0 13) ∧ (h184.2 0 13) ≤ 400 := fM_13 s186
            have b205 : 0 ≤ (h184.2 0 14) ∧ (h184.2 0 14) ≤ 4 := fM_14 s186
            have b206 : h184.2 0 25 = (h2.2 0 25) := ((zfr_f f190 rfl rfl).trans (zwr_r e180 (by omega)))
            have t207 : tok h179 := (tok_st u147 e180 (by decide))
            unfold tok at t207
            have r196B : rdB 1 h2 h184 := rdB_t r195B (rdB_same (s := 1) f190 rfl (by omega)) (by omega)
            have r208B : rdB 1 h2 h192 := rdB_t r196B (rdB_st e193 (by decide)) (by omega)
            have b209 := r208B.2
            refine zj_callV (av := []) (st := []) (zdk ttX11_readLaw 31 rfl rfl) mb_X11_readSum mv_RX11_217 (ci := 11) rfl rfl (k_M s194) rfl rfl (Nat.le_of_ble_eq_true rfl) (s2_X11_readSum l h192 s194 (tok_st u187 e193 (by decide)) (by omega)) (rm_ok (by decide) (by decide)) (zq_i fun v211 h212 q210 => ?_)
            obtain ⟨b213, s214, f218, u215, u216, u217⟩ := q210
            refine zj_iconst (zdk ttX11_readLaw 32 rfl rfl) ?_
            refine zj_icmp_ne (t := 60) (zdk ttX11_readLaw 33 rfl rfl) (by decide) (by omega) (by decide) (fun c219 => ?_) (fun c219 => ?_)
            · refine zj_aload_n (zdk ttX11_readLaw 36 rfl rfl) rfl (by decide) ?_
              refine zj_getr (r := 12) (zdk ttX11_readLaw 37 rfl rfl) zf_RX11_43 rfl (k_M s214) (rfM_20 s214) ?_
              refine zj_iload_n (zdk ttX11_readLaw 38 rfl rfl) rfl ?_
              refine zj_aload_n (zdk ttX11_readLaw 39 rfl rfl) rfl (by decide) ?_
              have b220 : 0 ≤ (h212.2 0 25) ∧ (h212.2 0 25) ≤ 400 := fM_25 s214
              refine zj_geti (v := (h212.2 0 25)) (zdk ttX11_readLaw 40 rfl rfl) zf_RX11_191 rfl (k_M s214) rfl ?_
              refine zj_iast (zdk ttX11_readLaw 41 rfl rfl) (kaM_12 s214) (by decide) (by omega) (fun h221 e222 => ?_)
              refine zj_aload_n (zdk ttX11_readLaw 42 rfl rfl) rfl (by decide) ?_
              refine zj_iconst (zdk ttX11_readLaw 43 rfl rfl) ?_
              have s223 : okM h221 := awM_12 s214 e222 (by omega) (by unfold nsp; omega)
              refine zj_callV (av := [.inl 3]) (st := []) (zdk ttX11_readLaw 44 rfl rfl) mb_X11_isWord mv_RX11_226 (ci := 11) rfl rfl (k_M s223) rfl rfl (Nat.le_of_ble_eq_true rfl) (s_X11_isWord l h221 3 s223 (by omega)) (rm_ok (by decide) (by decide)) (zq_i fun v225 h226 q224 => ?_)
              obtain ⟨rfl, b228, b229, ⟨rfl, b227⟩ | ⟨rfl, b227⟩⟩ := q224
              · refine zj_if_eq (t := 92) (zdk ttX11_readLaw 45 rfl rfl) (by decide) (by decide) (fun c230 => ?_) (fun c230 => ?_)
                · refine zj_aload_n (zdk ttX11_readLaw 54 rfl rfl) rfl (by decide) ?_
                  refine zj_getr (r := 13) (zdk ttX11_readLaw 55 rfl rfl) zf_RX11_46 rfl (k_M s223) (rfM_21 s223) ?_
                  refine zj_iload_n (zdk ttX11_readLaw 56 rfl rfl) rfl ?_
                  refine zj_aload_n (zdk ttX11_readLaw 57 rfl rfl) rfl (by decide) ?_
                  refine zj_geti (v := (h212.2 0 25)) (zdk ttX11_readLaw 58 rfl rfl) zf_RX11_191 rfl (k_M s223) (zwr_r e222 (by omega)) ?_
                  refine zj_iast (zdk ttX11_readLaw 59 rfl rfl) (kaM_13 s223) (by decide) (by omega) (fun h231 e232 => ?_)
                  refine zj_aload_n (zdk ttX11_readLaw 60 rfl rfl) rfl (by decide) ?_
                  refine zj_bipush (zdk ttX11_readLaw 61 rfl rfl) (by decide) ?_
                  have s233 : okM h231 := awM_13 s223 e232 (by omega) (by unfold nsp; omega)
                  refine zj_callV (av := [.inl 59]) (st := []) (zdk ttX11_readLaw 62 rfl rfl) mb_X11_isSign mv_RX11_211 (ci := 11) rfl rfl (k_M s233) rfl rfl (Nat.le_of_ble_eq_true rfl) (s_X11_isSign l h231 59 s233 (by omega)) (rm_ok (by decide) (by decide)) (zq_i fun v235 h236 q234 => ?_)
                  obtain ⟨rfl, b238, b239, ⟨rfl, b237⟩ | ⟨rfl, b237⟩⟩ := q234
                  · refine zj_if_ne (t := 117) (zdk ttX11_readLaw 63 rfl rfl) (by decide) (by decide) (fun c240 => ?_) (fun c240 => ?_)
                    · exact absurd c240 (by omega)
                    · refine zj_aload_n (zdk ttX11_readLaw 64 rfl rfl) rfl (by decide) ?_
                      refine zj_iconst (zdk ttX11_readLaw 65 rfl rfl) ?_
                      refine zj_callV (av := [.inl 1]) (st := []) (zdk ttX11_readLaw 66 rfl rfl) mb_X11_errs mv_RX11_197 (ci := 11) rfl rfl (k_M s233) rfl rfl (Nat.le_of_ble_eq_true rfl) (s2_X11_errs l h231 1 s233 (by omega)) (rm_ok (by decide) (by decide)) (zq_i fun v242 h243 q241 => ?_)
                      obtain ⟨b244, s245, f247, u246⟩ := q241
                      have f254 : zfr [12, 13, 14, 15, 25, 26, 28, 29, 30] [10, 11, 12, 13, 14, 15, 16] h h179 := zfr_wa f4 e180 rfl
                      have f253 : zfr [12, 13, 14, 15, 25, 26, 28, 29, 30] [10, 11, 12, 13, 14, 15, 16] h h184 := zfr_t f254 f190 rfl rfl
                      have f252 : zfr [12, 13, 14, 15, 25, 26, 28, 29, 30] [10, 11, 12, 13, 14, 15, 16] h h192 := zfr_wa f253 e193 rfl
                      have f251 : zfr [12, 13, 14, 15, 25, 26, 28, 29, 30] [10, 11, 12, 13, 14, 15, 16] h h212 := zfr_t f252 f218 rfl rfl
                      have f250 : zfr [12, 13, 14, 15, 25, 26, 28, 29, 30] [10, 11, 12, 13, 14, 15, 16] h h221 := zfr_wa f251 e222 rfl
                      have f249 : zfr [12, 13, 14, 15, 25, 26, 28, 29, 30] [10, 11, 12, 13, 14, 15, 16] h h231 := zfr_wa f250 e232 rfl
                      have f248 : zfr [12, 13, 14, 15, 25, 26, 28, 29, 30] [10, 11, 12, 13, 14, 15, 16] h h243 := zfr_t f249 f247 rfl rfl
                      have b255 : 0 ≤ (h.2 0 14) ∧ (h.2 0 14) ≤ 4 := fM_14 s0
                      have b256 : -2147483648 ≤ (h.2 0 15) ∧ (h.2 0 15) ≤ 2147483647 := fM_15 s0
                      have b257 : h179.2 0 14 = (h2.2 0 14) := (zwr_r e180 (by omega))
                      have b258 : h179.2 0 15 = (h2.2 0 15) := (zwr_r e180 (by omega))
                      have b259 : -2147483648 ≤ (h184.2 0 15) ∧ (h184.2 0 15) ≤ 2147483647 := fM_15 s186
                      have b260 : h192.2 0 14 = (h184.2 0 14) := (zwr_r e193 (by omega))
                      have b261 : h192.2 0 15 = (h184.2 0 15) := (zwr_r e193 (by omega))
                      have b262 : 0 ≤ (h212.2 0 14) ∧ (h212.2 0 14) ≤ 4 := fM_14 s214
                      have b263 : -2147483648 ≤ (h212.2 0 15) ∧ (h212.2 0 15) ≤ 2147483647 := fM_15 s214
                      have b264 : h221.2 0 14 = (h212.2 0 14) := (zwr_r e222 (by omega))
                      have b265 : h221.2 0 15 = (h212.2 0 15) := (zwr_r e222 (by omega))
                      have b266 : h231.2 0 14 = (h212.2 0 14) := ((zwr_r e232 (by omega)).trans (zwr_r e222 (by omega)))
                      have b267 : h231.2 0 15 = (h212.2 0 15) := ((zwr_r e232 (by omega)).trans (zwr_r e222 (by omega)))
                      have b268 : h243.2 0 14 = (h212.2 0 14) := (((zfr_f f247 rfl rfl).trans (zwr_r e232 (by omega))).trans (zwr_r e222 (by omega)))
                      have b269 : h243.2 0 15 = (h212.2 0 15) := (((zfr_f f247 rfl rfl).trans (zwr_r e232 (by omega))).trans (zwr_r e222 (by omega)))
                      exact zj_iret rfl (zdk ttX11_readLaw 67 rfl rfl) (Nat.le_refl _) (Nat.le_refl _) ⟨v242, rfl, by omega, s245, f248, (fun q => absurd q (by omega)), (tLo_f (tLo_f (tLo_f (tLo_t (tLo_f (tLo_f (tLo_f u150 (fun i => zwr_r e180 (by omega)) (fun i => zwr_r e180 (by omega))) (fun i => zfr_a f190 rfl (by decide)) (fun i => zfr_a f190 rfl (by decide))) (fun i => zwr_r e193 (by omega)) (fun i => zwr_r e193 (by omega))) u216) (fun i => zwr_r e222 (by omega)) (fun i => zwr_r e222 (by omega))) (fun i => zwr_r e232 (by omega)) (fun i => zwr_r e232 (by omega))) (fun i => zfr_a f247 rfl (by decide)) (fun i => zfr_a f247 rfl (by decide))), (fun i i9 => ⟨((((((((zfr_a f247 rfl (by decide)).trans (zwr_r e232 (by omega))).trans (zwr_r e222 (by omega))).trans (zfr_a f218 rfl (by decide))).trans (zwr_r e193 (by omega))).trans (zfr_a f190 rfl (by decide))).trans (zwr_r e180 (by omega)))).trans (u151 i i9).1, ((((((((zfr_a f247 rfl (by decide)).trans (zwr_r e232 (by omega))).trans (zwr_r e222 (by omega))).trans (zfr_a f218 rfl (by decide))).trans (zwr_r e193 (by omega))).trans (zfr_a f190 rfl (by decide))).trans (zwr_r e180 (by omega)))).trans (u151 i i9).2.1, ((((((((zfr_a f247 rfl (by decide)).trans (zwr_r e232 (by omega))).trans (zwr_r e222 (by omega))).trans (zfr_a f218 rfl (by decide))).trans (zwr_r e193 (by omega))).trans (zfr_a f190 rfl (by decide))).trans (zwr_r e180 (by omega)))).trans (u151 i i9).2.2.1, ((((((((zfr_a f247 rfl (by decide)).trans (zwr_r e232 (by omega))).trans (zwr_r e222 (by omega))).trans (zfr_a f218 rfl (by decide))).trans (zwr_r e193 (by omega))).trans (zfr_a f190 rfl (by decide))).trans (zwr_r e180 (by omega)))).trans (u151 i i9).2.2.2⟩), (by intro T t0 o0; obtain ⟨xj, xa, xo, xr⟩ := u152 T t0 o0; have k_1 := tT0 xa.2.2.1; have k_1j := xa.1.1; have a_2 : tPm 0 T xj h179 := tPm_f xa (fun k => (zwr_r e180 (by omega))) (fun k => (zwr_r e180 (by omega))) (zwr_r e180 (by omega)) (zwr_r e180 (by omega)) (zwr_r e180 (by omega)) (zwr_r e180 (by omega)) (zwr_r e180 (by omega)); have k_3 := tT0 a_2.2.2.1; have k_3j := a_2.1.1; have a_4 : tPm 0 T (xj + 1) h184 := tPm_r a_2 (by omega) (u189 a_2.2.2.2.2.2.1 (tPm_l a_2 (by omega))) (fun k => (zfr_a f190 rfl (by decide))) (fun k => (zfr_a f190 rfl (by decide))) (zfr_f f190 rfl rfl); have k_5 := tT0 a_4.2.2.1; have k_5j := a_4.1.1; have a_6 : tPm 0 T (xj + 1) h192 := tPm_f a_4 (fun k => (zwr_r e193 (by omega))) (fun k => (zwr_r e193 (by omega))) (zwr_r e193 (by omega)) (zwr_r e193 (by omega)) (zwr_r e193 (by omega)) (zwr_r e193 (by omega)) (zwr_r e193 (by omega)); obtain ⟨r_7j, r_7a, r_7l, r_7r⟩ := (u217 T (xj + 1) a_6).1 (by omega); have k_8 := tT0 r_7a.2.2.1; have k_8j := r_7a.1.1; have c_9 : tCm h179 = tCm h2 := (tCm_f (zwr_r e180 (by omega)) (fun i => zwr_r e180 (by omega)) (fun i => zwr_r e180 (by omega))).trans rfl; have c_10 : tCm h184 = tCm h2 := (tCm_f (zfr_f f190 rfl rfl) (fun i => zfr_a f190 rfl (by decide)) (fun i => zfr_a f190 rfl (by decide))).trans c_9; have c_11 : tCm h192 = tCm h2 := (tCm_f (zwr_r e193 (by omega)) (fun i => zwr_r e193 (by omega)) (fun i => zwr_r e193 (by omega))).trans c_10; have a_12 : tPm 0 T r_7j h221 := tPm_f r_7a (fun k => (zwr_r e222 (by omega))) (fun k => (zwr_r e222 (by omega))) (zwr_r e222 (by omega)) (zwr_r e222 (by omega)) (zwr_r e222 (by omega)) (zwr_r e222 (by omega)) (zwr_r e222 (by omega)); have a_13 : tPm 0 T r_7j h231 := tPm_f a_12 (fun k => (zwr_r e232 (by omega))) (fun k => (zwr_r e232 (by omega))) (zwr_r e232 (by omega)) (zwr_r e232 (by omega)) (zwr_r e232 (by omega)) (zwr_r e232 (by omega)) (zwr_r e232 (by omega)); have e_14 : tEp h h243 r_7j 1 := ⟨u246.1, a_13.1.1, by have q9 := a_13.2.1; rw [show h231.2 7 = h.2 7 from funext fun i9 => (((((((zwr_r e232 (by omega)).trans (zwr_r e222 (by omega))).trans (zfr_a f218 rfl (by decide))).trans (zwr_r e193 (by omega))).trans (zfr_a f190 rfl (by decide))).trans (zwr_r e180 (by omega))).trans (zfr_a f4 rfl (by decide))), show h231.2 0 11 = h.2 0 11 from (((((((zwr_r e232 (by omega)).trans (zwr_r e222 (by omega))).trans (zfr_f f218 rfl rfl)).trans (zwr_r e193 (by omega))).trans (zfr_f f190 rfl rfl)).trans (zwr_r e180 (by omega))).trans (zfr_f f4 rfl rfl))] at q9; rw [u246.2]; exact q9⟩; exact ⟨fun z => absurd z (by omega), fun _ => ⟨r_7j, _, e_14, fun p9 => tRe_s (tRe_s (tRe_t (tRe_k (tRe_s (xr p9) (tM2_l (by omega) (by omega))) (c_11 : tCm h192 = tCm h2).symm) (r_7r p9 [100, x1 + 1000] _)) (tM5_v (by omega))) (tM10_n (by omega))⟩⟩)⟩
                  · refine zj_if_ne (t := 117) (zdk ttX11_readLaw 63 rfl rfl) (by decide) (by decide) (fun c270 => ?_) (fun c270 => ?_)
                    · refine zj_aload_n (zdk ttX11_readLaw 68 rfl rfl) rfl (by decide) ?_
                      refine zj_callV (av := []) (st := []) (zdk ttX11_readLaw 69 rfl rfl) mb_X11_reads mv_RX11_204 (ci := 11) rfl rfl (k_M s233) rfl rfl (Nat.le_of_ble_eq_true rfl) (s2_X11_reads l h231 s233) (rm_ok (by decide) (by decide)) (zq_v fun h273 q271 => ?_)
                      obtain ⟨s275, f279, u276, u277, u278⟩ := q271
                      refine zj_iload_n (zdk ttX11_readLaw 70 rfl rfl) rfl ?_
                      refine zj_iconst (zdk ttX11_readLaw 71 rfl rfl) ?_
                      refine zj_iadd (zdk ttX11_readLaw 72 rfl rfl) ?_
                      refine zj_istore_n (L' := [some (.inr 0), some (.inl (x1 + 1)), some (.inl (32 + x1))]) (zdk ttX11_readLaw 73 rfl rfl) (by decide) rfl ?_
                      refine zj_goto (t := 2) (zdk ttX11_readLaw 74 rfl rfl) (by decide) ?_
                      refine zj_kill (k := 2) (L' := [some (.inr 0), some (.inl (x1 + 1)), none]) rfl ?_
                      have b280 : 0 ≤ (h273.2 0 12) ∧ (h273.2 0 12) ≤ 400 := fM_12 s275
                      have b281 : 0 ≤ (h273.2 0 13) ∧ (h273.2 0 13) ≤ 400 := fM_13 s275
                      have b282 : 0 ≤ (h273.2 0 14) ∧ (h273.2 0 14) ≤ 4 := fM_14 s275
                      have b283 : h273.2 0 25 = (h212.2 0 25) := (((zfr_f f279 rfl rfl).trans (zwr_r e232 (by omega))).trans (zwr_r e222 (by omega)))
                      have f290 : zfr [12, 13, 14, 15, 25, 26, 28, 29, 30] [10, 11, 12, 13, 14, 15, 16] h h179 := zfr_wa f4 e180 rfl
                      have f289 : zfr [12, 13, 14, 15, 25, 26, 28, 29, 30] [10, 11, 12, 13, 14, 15, 16] h h184 := zfr_t f290 f190 rfl rfl
                      have f288 : zfr [12, 13, 14, 15, 25, 26, 28, 29, 30] [10, 11, 12, 13, 14, 15, 16] h h192 := zfr_wa f289 e193 rfl
                      have f287 : zfr [12, 13, 14, 15, 25, 26, 28, 29, 30] [10, 11, 12, 13, 14, 15, 16] h h212 := zfr_t f288 f218 rfl rfl
                      have f286 : zfr [12, 13, 14, 15, 25, 26, 28, 29, 30] [10, 11, 12, 13, 14, 15, 16] h h221 := zfr_wa f287 e222 rfl
                      have f285 : zfr [12, 13, 14, 15, 25, 26, 28, 29, 30] [10, 11, 12, 13, 14, 15, 16] h h231 := zfr_wa f286 e232 rfl
                      have f284 : zfr [12, 13, 14, 15, 25, 26, 28, 29, 30] [10, 11, 12, 13, 14, 15, 16] h h273 := zfr_t f285 f279 rfl rfl
                      have r292 := u215 (by omega)
                      have r292b := r292.2.1.2
                      have r292t := r292.1
                      unfold tok at r292t
                      have r291B : rdB 1 h2 h212 := rdB_t r208B r292.2.1 (by omega)
                      have r293B : rdB 1 h2 h221 := rdB_t r291B (rdB_st e222 (by decide)) (by omega)
                      have r294B : rdB 1 h2 h231 := rdB_t r293B (rdB_st e232 (by decide)) (by omega)
                      have b296 : h231.2 0 12 = (h212.2 0 12) := ((zwr_r e232 (by omega)).trans (zwr_r e222 (by omega)))
                      have b297 : 0 ≤ (h212.2 0 12) ∧ (h212.2 0 12) ≤ 400 := fM_12 s214
                      have b298 : h231.2 0 13 = (h212.2 0 13) := ((zwr_r e232 (by omega)).trans (zwr_r e222 (by omega)))
                      have b299 : 0 ≤ (h212.2 0 13) ∧ (h212.2 0 13) ≤ 400 := fM_13 s214
                      have b300 : h231.2 0 14 = (h212.2 0 14) := ((zwr_r e232 (by omega)).trans (zwr_r e222 (by omega)))
                      have b301 : 0 ≤ (h212.2 0 14) ∧ (h212.2 0 14) ≤ 4 := fM_14 s214
                      have b302 : h231.2 0 25 = (h212.2 0 25) := ((zwr_r e232 (by omega)).trans (zwr_r e222 (by omega)))
                      have b303 : h273.2 0 25 = (h212.2 0 25) := (((zfr_f f279 rfl rfl).trans (zwr_r e232 (by omega))).trans (zwr_r e222 (by omega)))
                      have t304 : tok h231 := (tok_st (tok_st r292.1 e222 (by decide)) e232 (by decide))
                      unfold tok at t304
                      have r295B : rdB 2 h2 h273 := rdB_t r294B (rdB_same (s := 1) f279 rfl (by omega)) (by omega)
                      have b305 := r295B.2
                      have z306o : ∀ l, 0 ≤ l → l < x1 → h273.2 11 (32 + l) = h2.2 11 (32 + l) ∧ h273.2 12 (32 + l) = h2.2 12 (32 + l) ∧ h273.2 13 (32 + l) = h2.2 13 (32 + l) := fun l l1 l2 => ⟨(((((((zfr_a f279 rfl (by decide)).trans (zwr_r e232 (by omega))).trans (zwr_r e222 (by omega))).trans (zfr_a f218 rfl (by decide))).trans (zwr_r e193 (by omega))).trans (zfr_a f190 rfl (by decide))).trans (zwr_r e180 (by omega))), (((((((zfr_a f279 rfl (by decide)).trans (zwr_r e232 (by omega))).trans (zwr_r e222 (by omega))).trans (zfr_a f218 rfl (by decide))).trans (zwr_r e193 (by omega))).trans (zfr_a f190 rfl (by decide))).trans (zwr_r e180 (by omega))), (((((((zfr_a f279 rfl (by decide)).trans (zwr_r e232 (by omega))).trans (zwr_r e222 (by omega))).trans (zfr_a f218 rfl (by decide))).trans (zwr_r e193 (by omega))).trans (zfr_a f190 rfl (by decide))).trans (zwr_r e180 (by omega)))⟩
                      have r307B : rdB 0 h212 h221 := rdB_t (rdB_r h212) (rdB_st e222 (by decide)) (by omega)
                      have r308B : rdB 0 h212 h231 := rdB_t r307B (rdB_st e232 (by decide)) (by omega)
                      have r309B : rdB 1 h212 h273 := rdB_t r308B (rdB_same (s := 1) f279 rfl (by omega)) (by omega)
                      have b310 : h192.2 0 25 = (h2.2 0 25) := (((zwr_r e193 (by omega)).trans (zfr_f f190 rfl rfl)).trans (zwr_r e180 (by omega)))
                      have z3061 : wfS (dop h273) (dar h273) (h2.2 0 25) (h212.2 0 25) := Or.inr (by rw [show (h2.2 0 25) = h192.2 0 25 by omega, show (h212.2 0 25) = h212.2 0 25 by omega]; exact wfP_up r309B (by omega) (rdP_seg r292.2.2))
                      have z3062 : wfS (dop h273) (dar h273) (h212.2 0 25) (h212.2 0 25) := Or.inl (by omega)
                      have b311 := r309B.2
                      have b312 : h273.2 0 25 = (h212.2 0 25) := (((zfr_f f279 rfl rfl).trans (zwr_r e232 (by omega))).trans (zwr_r e222 (by omega)))
                      have b313 : 0 ≤ (h.2 0 14) ∧ (h.2 0 14) ≤ 4 := fM_14 s0
                      have b314 : -2147483648 ≤ (h.2 0 15) ∧ (h.2 0 15) ≤ 2147483647 := fM_15 s0
                      have b315 : h179.2 0 14 = (h2.2 0 14) := (zwr_r e180 (by omega))
                      have b316 : h179.2 0 15 = (h2.2 0 15) := (zwr_r e180 (by omega))
                      have b317 : -2147483648 ≤ (h184.2 0 15) ∧ (h184.2 0 15) ≤ 2147483647 := fM_15 s186
                      have b318 : h192.2 0 14 = (h184.2 0 14) := (zwr_r e193 (by omega))
                      have b319 : h192.2 0 15 = (h184.2 0 15) := (zwr_r e193 (by omega))
                      have b320 : -2147483648 ≤ (h212.2 0 15) ∧ (h212.2 0 15) ≤ 2147483647 := fM_15 s214
                      have b321 : h221.2 0 14 = (h212.2 0 14) := (zwr_r e222 (by omega))
                      have b322 : h221.2 0 15 = (h212.2 0 15) := (zwr_r e222 (by omega))
                      have b323 : h231.2 0 14 = (h212.2 0 14) := ((zwr_r e232 (by omega)).trans (zwr_r e222 (by omega)))
                      have b324 : h231.2 0 15 = (h212.2 0 15) := ((zwr_r e232 (by omega)).trans (zwr_r e222 (by omega)))
                      have b325 : -2147483648 ≤ (h273.2 0 15) ∧ (h273.2 0 15) ≤ 2147483647 := fM_15 s275
                      exact ih154  (x1 + 1) h273 (by omega) s275 f284 u276 (by omega) (zLn_s u149 r295B z306o (((((zfr_a f279 rfl (by decide)).trans (zwr_r e232 (by omega))).trans (zwr_r e222 (by omega))).trans (zfr_a f218 rfl (by decide))).trans (zwr_v e193)) (((zfr_a f279 rfl (by decide)).trans (zwr_r e232 (by omega))).trans (zwr_v e222)) ((zfr_a f279 rfl (by decide)).trans (zwr_v e232)) z3061 z3062 (by omega)) (tLo_f (tLo_f (tLo_f (tLo_t (tLo_f (tLo_f (tLo_f u150 (fun i => zwr_r e180 (by omega)) (fun i => zwr_r e180 (by omega))) (fun i => zfr_a f190 rfl (by decide)) (fun i => zfr_a f190 rfl (by decide))) (fun i => zwr_r e193 (by omega)) (fun i => zwr_r e193 (by omega))) u216) (fun i => zwr_r e222 (by omega)) (fun i => zwr_r e222 (by omega))) (fun i => zwr_r e232 (by omega)) (fun i => zwr_r e232 (by omega))) (fun i => zfr_a f279 rfl (by decide)) (fun i => zfr_a f279 rfl (by decide))) (fun i i9 => ⟨((((((((zfr_a f279 rfl (by decide)).trans (zwr_r e232 (by omega))).trans (zwr_r e222 (by omega))).trans (zfr_a f218 rfl (by decide))).trans (zwr_r e193 (by omega))).trans (zfr_a f190 rfl (by decide))).trans (zwr_r e180 (by omega)))).trans (u151 i i9).1, ((((((((zfr_a f279 rfl (by decide)).trans (zwr_r e232 (by omega))).trans (zwr_r e222 (by omega))).trans (zfr_a f218 rfl (by decide))).trans (zwr_r e193 (by omega))).trans (zfr_a f190 rfl (by decide))).trans (zwr_r e180 (by omega)))).trans (u151 i i9).2.1, ((((((((zfr_a f279 rfl (by decide)).trans (zwr_r e232 (by omega))).trans (zwr_r e222 (by omega))).trans (zfr_a f218 rfl (by decide))).trans (zwr_r e193 (by omega))).trans (zfr_a f190 rfl (by decide))).trans (zwr_r e180 (by omega)))).trans (u151 i i9).2.2.1, ((((((((zfr_a f279 rfl (by decide)).trans (zwr_r e232 (by omega))).trans (zwr_r e222 (by omega))).trans (zfr_a f218 rfl (by decide))).trans (zwr_r e193 (by omega))).trans (zfr_a f190 rfl (by decide))).trans (zwr_r e180 (by omega)))).trans (u151 i i9).2.2.2⟩) (by intro T t0 o0; obtain ⟨xj, xa, xo, xr⟩ := u152 T t0 o0; have k_1 := tT0 xa.2.2.1; have k_1j := xa.1.1; have a_2 : tPm 0 T xj h179 := tPm_f xa (fun k => (zwr_r e180 (by omega))) (fun k => (zwr_r e180 (by omega))) (zwr_r e180 (by omega)) (zwr_r e180 (by omega)) (zwr_r e180 (by omega)) (zwr_r e180 (by omega)) (zwr_r e180 (by omega)); have k_3 := tT0 a_2.2.2.1; have k_3j := a_2.1.1; have a_4 : tPm 0 T (xj + 1) h184 := tPm_r a_2 (by omega) (u189 a_2.2.2.2.2.2.1 (tPm_l a_2 (by omega))) (fun k => (zfr_a f190 rfl (by decide))) (fun k => (zfr_a f190 rfl (by decide))) (zfr_f f190 rfl rfl); have k_5 := tT0 a_4.2.2.1; have k_5j := a_4.1.1; have a_6 : tPm 0 T (xj + 1) h192 := tPm_f a_4 (fun k => (zwr_r e193 (by omega))) (fun k => (zwr_r e193 (by omega))) (zwr_r e193 (by omega)) (zwr_r e193 (by omega)) (zwr_r e193 (by omega)) (zwr_r e193 (by omega)) (zwr_r e193 (by omega)); obtain ⟨r_7j, r_7a, r_7l, r_7r⟩ := (u217 T (xj + 1) a_6).1 (by omega); have k_8 := tT0 r_7a.2.2.1; have k_8j := r_7a.1.1; have c_9 : tCm h179 = tCm h2 := (tCm_f (zwr_r e180 (by omega)) (fun i => zwr_r e180 (by omega)) (fun i => zwr_r e180 (by omega))).trans rfl; have c_10 : tCm h184 = tCm h2 := (tCm_f (zfr_f f190 rfl rfl) (fun i => zfr_a f190 rfl (by decide)) (fun i => zfr_a f190 rfl (by decide))).trans c_9; have c_11 : tCm h192 = tCm h2 := (tCm_f (zwr_r e193 (by omega)) (fun i => zwr_r e193 (by omega)) (fun i => zwr_r e193 (by omega))).trans c_10; have a_12 : tPm 0 T r_7j h221 := tPm_f r_7a (fun k => (zwr_r e222 (by omega))) (fun k => (zwr_r e222 (by omega))) (zwr_r e222 (by omega)) (zwr_r e222 (by omega)) (zwr_r e222 (by omega)) (zwr_r e222 (by omega)) (zwr_r e222 (by omega)); have a_13 : tPm 0 T r_7j h231 := tPm_f a_12 (fun k => (zwr_r e232 (by omega))) (fun k => (zwr_r e232 (by omega))) (zwr_r e232 (by omega)) (zwr_r e232 (by omega)) (zwr_r e232 (by omega)) (zwr_r e232 (by omega)) (zwr_r e232 (by omega)); have k_14 := tT0 a_13.2.2.1; have k_14j := a_13.1.1; have a_15 : tPm 0 T (r_7j + 1) h273 := tPm_r a_13 (by omega) (u278 a_13.2.2.2.2.2.1 (tPm_l a_13 (by omega))) (fun k => (zfr_a f279 rfl (by decide))) (fun k => (zfr_a f279 rfl (by decide))) (zfr_f f279 rfl rfl); have c_16 : tCm h221 = tCm h212 := (tCm_f (zwr_r e222 (by omega)) (fun i => zwr_r e222 (by omega)) (fun i => zwr_r e222 (by omega))).trans rfl; have c_17 : tCm h231 = tCm h212 := (tCm_f (zwr_r e232 (by omega)) (fun i => zwr_r e232 (by omega)) (fun i => zwr_r e232 (by omega))).trans c_16; have c_18 : tCm h273 = tCm h212 := (tCm_f (zfr_f f279 rfl rfl) (fun i => zfr_a f279 rfl (by decide)) (fun i => zfr_a f279 rfl (by decide))).trans c_17; exact ⟨(r_7j + 1), a_15, ((((((((zfr_f f279 rfl rfl).trans (zwr_r e232 (by omega))).trans (zwr_r e222 (by omega))).trans (zfr_f f218 rfl rfl)).trans (zwr_r e193 (by omega))).trans (zfr_f f190 rfl rfl)).trans (zwr_r e180 (by omega)))).trans xo, fun p9 => by have q9 := tRe_s (tRe_s (tRe_t (tRe_k (tRe_s (xr p9) (tM2_l (by omega) (by omega))) (c_11 : tCm h192 = tCm h2).symm) (r_7r p9 [100, x1 + 1000] _)) (tM5_v (by omega))) (tM10_y (by omega)); rw [show x1 + 1000 - 1000 + 1 = x1 + 1 by omega] at q9; exact tRe_k (tRe_q q9 (tL4_n (h := h2) (h' := h273) (x := x1) (by omega) ((congrArg (h273.2 13) (show 32 + x1 = (32 + x1) by omega)).trans (Eq.trans ((zfr_a f279 rfl (by decide))) (Eq.trans (zwr_v e232) ((show (h212.2 0 25) = h212.2 0 25 by omega).trans (tCm_l (fM_25 s214).1).symm)))) ((congrArg (h273.2 12) (show 32 + x1 = (32 + x1) by omega)).trans (Eq.trans (((zfr_a f279 rfl (by decide)).trans (zwr_r e232 (by omega)))) (Eq.trans (zwr_v e222) ((show (h212.2 0 25) = h212.2 0 25 by omega).trans (tCm_l (fM_25 s214).1).symm)))) ((congrArg (h273.2 11) (show 32 + x1 = (32 + x1) by omega)).trans (Eq.trans (((((zfr_a f279 rfl (by decide)).trans (zwr_r e232 (by omega))).trans (zwr_r e222 (by omega))).trans (zfr_a f218 rfl (by decide)))) (Eq.trans (zwr_v e193) ((show (h2.2 0 25) = h2.2 0 25 by omega).trans (tCm_l (fM_25 s3).1).symm)))) ((congrArg (h273.2 10) (show 32 + x1 = (32 + x1) by omega)).trans (Eq.trans (((((((zfr_a f279 rfl (by decide)).trans (zwr_r e232 (by omega))).trans (zwr_r e222 (by omega))).trans (zfr_a f218 rfl (by decide))).trans (zwr_r e193 (by omega))).trans (zfr_a f190 rfl (by decide)))) (Eq.trans (zwr_v e180) (show (h2.2 0 15) = T xj - 200 by omega)))) (fun i _ i9 => (((((((zfr_a f279 rfl (by decide)).trans (zwr_r e232 (by omega))).trans (zwr_r e222 (by omega))).trans (zfr_a f218 rfl (by decide))).trans (zwr_r e193 (by omega))).trans (zfr_a f190 rfl (by decide))).trans (zwr_r e180 (by omega)))) (fun i _ i9 => (((((((zfr_a f279 rfl (by decide)).trans (zwr_r e232 (by omega))).trans (zwr_r e222 (by omega))).trans (zfr_a f218 rfl (by decide))).trans (zwr_r e193 (by omega))).trans (zfr_a f190 rfl (by decide))).trans (zwr_r e180 (by omega)))) (fun i _ i9 => (((((((zfr_a f279 rfl (by decide)).trans (zwr_r e232 (by omega))).trans (zwr_r e222 (by omega))).trans (zfr_a f218 rfl (by decide))).trans (zwr_r e193 (by omega))).trans (zfr_a f190 rfl (by decide))).trans (zwr_r e180 (by omega)))) (fun i _ i9 => (((((((zfr_a f279 rfl (by decide)).trans (zwr_r e232 (by omega))).trans (zwr_r e222 (by omega))).trans (zfr_a f218 rfl (by decide))).trans (zwr_r e193 (by omega))).trans (zfr_a f190 rfl (by decide))).trans (zwr_r e180 (by omega)))))) (c_18 : tCm h273 = tCm h212).symm⟩) (by omega)
                    · exact absurd c270 (by omega)
                · exact absurd c230 (by omega)
              · refine zj_if_eq (t := 92) (zdk ttX11_readLaw 45 rfl rfl) (by decide) (by decide) (fun c326 => ?_) (fun c326 => ?_)
                · exact absurd c326 (by omega)
                · refine zj_aload_n (zdk ttX11_readLaw 46 rfl rfl) rfl (by decide) ?_
                  refine zj_callV (av := []) (st := []) (zdk ttX11_readLaw 47 rfl rfl) mb_X11_reads mv_RX11_204 (ci := 11) rfl rfl (k_M s223) rfl rfl (Nat.le_of_ble_eq_true rfl) (s2_X11_reads l h221 s223) (rm_ok (by decide) (by decide)) (zq_v fun h329 q327 => ?_)
                  obtain ⟨s331, f335, u332, u333, u334⟩ := q327
                  refine zj_aload_n (zdk ttX11_readLaw 48 rfl rfl) rfl (by decide) ?_
                  have r337 := u215 (by omega)
                  have r337b := r337.2.1.2
                  have r337t := r337.1
                  unfold tok at r337t
                  have r336B : rdB 1 h2 h212 := rdB_t r208B r337.2.1 (by omega)
                  have r338B : rdB 1 h2 h221 := rdB_t r336B (rdB_st e222 (by decide)) (by omega)
                  have b340 : h221.2 0 12 = (h212.2 0 12) := (zwr_r e222 (by omega))
                  have b341 : 0 ≤ (h212.2 0 12) ∧ (h212.2 0 12) ≤ 400 := fM_12 s214
                  have b342 : h221.2 0 13 = (h212.2 0 13) := (zwr_r e222 (by omega))
                  have b343 : 0 ≤ (h212.2 0 13) ∧ (h212.2 0 13) ≤ 400 := fM_13 s214
                  have b344 : h221.2 0 14 = (h212.2 0 14) := (zwr_r e222 (by omega))
                  have b345 : 0 ≤ (h212.2 0 14) ∧ (h212.2 0 14) ≤ 4 := fM_14 s214
                  have b346 : h221.2 0 25 = (h212.2 0 25) := (zwr_r e222 (by omega))
                  have b347 : 0 ≤ (h329.2 0 12) ∧ (h329.2 0 12) ≤ 400 := fM_12 s331
                  have b348 : 0 ≤ (h329.2 0 13) ∧ (h329.2 0 13) ≤ 400 := fM_13 s331
                  have b349 : 0 ≤ (h329.2 0 14) ∧ (h329.2 0 14) ≤ 4 := fM_14 s331
                  have b350 : h329.2 0 25 = (h212.2 0 25) := ((zfr_f f335 rfl rfl).trans (zwr_r e222 (by omega)))
                  have t351 : tok h221 := (tok_st r337.1 e222 (by decide))
                  unfold tok at t351
                  have r339B : rdB 2 h2 h329 := rdB_t r338B (rdB_same (s := 1) f335 rfl (by omega)) (by omega)
                  have b352 := r339B.2
                  refine zj_callV (av := []) (st := []) (zdk ttX11_readLaw 49 rfl rfl) mb_X11_readAny mv_RX11_242 (ci := 11) rfl rfl (k_M s331) rfl rfl (Nat.le_of_ble_eq_true rfl) (s2_X11_readAny l h329 s331 u332 (by omega)) (rm_ok (by decide) (by decide)) (zq_i fun v354 h355 q353 => ?_)
                  obtain ⟨b356, s357, f362, u358, u359, u360, u361⟩ := q353
                  refine zj_iconst (zdk ttX11_readLaw 50 rfl rfl) ?_
                  refine zj_icmp_ne (t := 92) (zdk ttX11_readLaw 51 rfl rfl) (by decide) (by omega) (by decide) (fun c363 => ?_) (fun c363 => ?_)
                  · refine zj_aload_n (zdk ttX11_readLaw 54 rfl rfl) rfl (by decide) ?_
                    refine zj_getr (r := 13) (zdk ttX11_readLaw 55 rfl rfl) zf_RX11_46 rfl (k_M s357) (rfM_21 s357) ?_
                    refine zj_iload_n (zdk ttX11_readLaw 56 rfl rfl) rfl ?_
                    refine zj_aload_n (zdk ttX11_readLaw 57 rfl rfl) rfl (by decide) ?_
                    have b364 : 0 ≤ (h355.2 0 25) ∧ (h355.2 0 25) ≤ 400 := fM_25 s357
                    refine zj_geti (v := (h355.2 0 25)) (zdk ttX11_readLaw 58 rfl rfl) zf_RX11_191 rfl (k_M s357) rfl ?_
                    refine zj_iast (zdk ttX11_readLaw 59 rfl rfl) (kaM_13 s357) (by decide) (by omega) (fun h365 e366 => ?_)
                    refine zj_aload_n (zdk ttX11_readLaw 60 rfl rfl) rfl (by decide) ?_
                    refine zj_bipush (zdk ttX11_readLaw 61 rfl rfl) (by decide) ?_
                    have s367 : okM h365 := awM_13 s357 e366 (by omega) (by unfold nsp; omega)
                    refine zj_callV (av := [.inl 59]) (st := []) (zdk ttX11_readLaw 62 rfl rfl) mb_X11_isSign mv_RX11_211 (ci := 11) rfl rfl (k_M s367) rfl rfl (Nat.le_of_ble_eq_true rfl) (s_X11_isSign l h365 59 s367 (by omega)) (rm_ok (by decide) (by decide)) (zq_i fun v369 h370 q368 => ?_)
                    obtain ⟨rfl, b372, b373, ⟨rfl, b371⟩ | ⟨rfl, b371⟩⟩ := q368
                    · refine zj_if_ne (t := 117) (zdk ttX11_readLaw 63 rfl rfl) (by decide) (by decide) (fun c374 => ?_) (fun c374 => ?_)
                      · exact absurd c374 (by omega)
                      · refine zj_aload_n (zdk ttX11_readLaw 64 rfl rfl) rfl (by decide) ?_
                        refine zj_iconst (zdk ttX11_readLaw 65 rfl rfl) ?_
                        refine zj_callV (av := [.inl 1]) (st := []) (zdk ttX11_readLaw 66 rfl rfl) mb_X11_errs mv_RX11_197 (ci := 11) rfl rfl (k_M s367) rfl rfl (Nat.le_of_ble_eq_true rfl) (s2_X11_errs l h365 1 s367 (by omega)) (rm_ok (by decide) (by decide)) (zq_i fun v376 h377 q375 => ?_)
                        obtain ⟨b378, s379, f381, u380⟩ := q375
                        have f390 : zfr [12, 13, 14, 15, 25, 26, 28, 29, 30] [10, 11, 12, 13, 14, 15, 16] h h179 := zfr_wa f4 e180 rfl
                        have f389 : zfr [12, 13, 14, 15, 25, 26, 28, 29, 30] [10, 11, 12, 13, 14, 15, 16] h h184 := zfr_t f390 f190 rfl rfl
                        have f388 : zfr [12, 13, 14, 15, 25, 26, 28, 29, 30] [10, 11, 12, 13, 14, 15, 16] h h192 := zfr_wa f389 e193 rfl
                        have f387 : zfr [12, 13, 14, 15, 25, 26, 28, 29, 30] [10, 11, 12, 13, 14, 15, 16] h h212 := zfr_t f388 f218 rfl rfl
                        have f386 : zfr [12, 13, 14, 15, 25, 26, 28, 29, 30] [10, 11, 12, 13, 14, 15, 16] h h221 := zfr_wa f387 e222 rfl
                        have f385 : zfr [12, 13, 14, 15, 25, 26, 28, 29, 30] [10, 11, 12, 13, 14, 15, 16] h h329 := zfr_t f386 f335 rfl rfl
                        have f384 : zfr [12, 13, 14, 15, 25, 26, 28, 29, 30] [10, 11, 12, 13, 14, 15, 16] h h355 := zfr_t f385 f362 rfl rfl
                        have f383 : zfr [12, 13, 14, 15, 25, 26, 28, 29, 30] [10, 11, 12, 13, 14, 15, 16] h h365 := zfr_wa f384 e366 rfl
                        have f382 : zfr [12, 13, 14, 15, 25, 26, 28, 29, 30] [10, 11, 12, 13, 14, 15, 16] h h377 := zfr_t f383 f381 rfl rfl
                        have b391 : 0 ≤ (h.2 0 14) ∧ (h.2 0 14) ≤ 4 := fM_14 s0
                        have b392 : -2147483648 ≤ (h.2 0 15) ∧ (h.2 0 15) ≤ 2147483647 := fM_15 s0
                        have b393 : h179.2 0 14 = (h2.2 0 14) := (zwr_r e180 (by omega))
                        have b394 : h179.2 0 15 = (h2.2 0 15) := (zwr_r e180 (by omega))
                        have b395 : -2147483648 ≤ (h184.2 0 15) ∧ (h184.2 0 15) ≤ 2147483647 := fM_15 s186
                        have b396 : h192.2 0 14 = (h184.2 0 14) := (zwr_r e193 (by omega))
                        have b397 : h192.2 0 15 = (h184.2 0 15) := (zwr_r e193 (by omega))
                        have b398 : -2147483648 ≤ (h212.2 0 15) ∧ (h212.2 0 15) ≤ 2147483647 := fM_15 s214
                        have b399 : h221.2 0 14 = (h212.2 0 14) := (zwr_r e222 (by omega))
                        have b400 : h221.2 0 15 = (h212.2 0 15) := (zwr_r e222 (by omega))
                        have b401 : -2147483648 ≤ (h329.2 0 15) ∧ (h329.2 0 15) ≤ 2147483647 := fM_15 s331
                        have b402 : 0 ≤ (h355.2 0 14) ∧ (h355.2 0 14) ≤ 4 := fM_14 s357
                        have b403 : -2147483648 ≤ (h355.2 0 15) ∧ (h355.2 0 15) ≤ 2147483647 := fM_15 s357
                        have b404 : h365.2 0 14 = (h355.2 0 14) := (zwr_r e366 (by omega))
                        have b405 : h365.2 0 15 = (h355.2 0 15) := (zwr_r e366 (by omega))
                        have b406 : h377.2 0 14 = (h355.2 0 14) := ((zfr_f f381 rfl rfl).trans (zwr_r e366 (by omega)))
                        have b407 : h377.2 0 15 = (h355.2 0 15) := ((zfr_f f381 rfl rfl).trans (zwr_r e366 (by omega)))
                        exact zj_iret rfl (zdk ttX11_readLaw 67 rfl rfl) (Nat.le_refl _) (Nat.le_refl _) ⟨v376, rfl, by omega, s379, f382, (fun q => absurd q (by omega)), (tLo_f (tLo_f (tLo_t (tLo_f (tLo_f (tLo_t (tLo_f (tLo_f (tLo_f u150 (fun i => zwr_r e180 (by omega)) (fun i => zwr_r e180 (by omega))) (fun i => zfr_a f190 rfl (by decide)) (fun i => zfr_a f190 rfl (by decide))) (fun i => zwr_r e193 (by omega)) (fun i => zwr_r e193 (by omega))) u216) (fun i => zwr_r e222 (by omega)) (fun i => zwr_r e222 (by omega))) (fun i => zfr_a f335 rfl (by decide)) (fun i => zfr_a f335 rfl (by decide))) u359) (fun i => zwr_r e366 (by omega)) (fun i => zwr_r e366 (by omega))) (fun i => zfr_a f381 rfl (by decide)) (fun i => zfr_a f381 rfl (by decide))), (fun i i9 => ⟨((((((((((zfr_a f381 rfl (by decide)).trans (zwr_r e366 (by omega))).trans (zfr_a f362 rfl (by decide))).trans (zfr_a f335 rfl (by decide))).trans (zwr_r e222 (by omega))).trans (zfr_a f218 rfl (by decide))).trans (zwr_r e193 (by omega))).trans (zfr_a f190 rfl (by decide))).trans (zwr_r e180 (by omega)))).trans (u151 i i9).1, ((((((((((zfr_a f381 rfl (by decide)).trans (zwr_r e366 (by omega))).trans (zfr_a f362 rfl (by decide))).trans (zfr_a f335 rfl (by decide))).trans (zwr_r e222 (by omega))).trans (zfr_a f218 rfl (by decide))).trans (zwr_r e193 (by omega))).trans (zfr_a f190 rfl (by decide))).trans (zwr_r e180 (by omega)))).trans (u151 i i9).2.1, ((((((((((zfr_a f381 rfl (by decide)).trans (zwr_r e366 (by omega))).trans (zfr_a f362 rfl (by decide))).trans (zfr_a f335 rfl (by decide))).trans (zwr_r e222 (by omega))).trans (zfr_a f218 rfl (by decide))).trans (zwr_r e193 (by omega))).trans (zfr_a f190 rfl (by decide))).trans (zwr_r e180 (by omega)))).trans (u151 i i9).2.2.1, ((((((((((zfr_a f381 rfl (by decide)).trans (zwr_r e366 (by omega))).trans (zfr_a f362 rfl (by decide))).trans (zfr_a f335 rfl (by decide))).trans (zwr_r e222 (by omega))).trans (zfr_a f218 rfl (by decide))).trans (zwr_r e193 (by omega))).trans (zfr_a f190 rfl (by decide))).trans (zwr_r e180 (by omega)))).trans (u151 i i9).2.2.2⟩), (by intro T t0 o0; obtain ⟨xj, xa, xo, xr⟩ := u152 T t0 o0; have k_1 := tT0 xa.2.2.1; have k_1j := xa.1.1; have a_2 : tPm 0 T xj h179 := tPm_f xa (fun k => (zwr_r e180 (by omega))) (fun k => (zwr_r e180 (by omega))) (zwr_r e180 (by omega)) (zwr_r e180 (by omega)) (zwr_r e180 (by omega)) (zwr_r e180 (by omega)) (zwr_r e180 (by omega)); have k_3 := tT0 a_2.2.2.1; have k_3j := a_2.1.1; have a_4 : tPm 0 T (xj + 1) h184 := tPm_r a_2 (by omega) (u189 a_2.2.2.2.2.2.1 (tPm_l a_2 (by omega))) (fun k => (zfr_a f190 rfl (by decide))) (fun k => (zfr_a f190 rfl (by decide))) (zfr_f f190 rfl rfl); have k_5 := tT0 a_4.2.2.1; have k_5j := a_4.1.1; have a_6 : tPm 0 T (xj + 1) h192 := tPm_f a_4 (fun k => (zwr_r e193 (by omega))) (fun k => (zwr_r e193 (by omega))) (zwr_r e193 (by omega)) (zwr_r e193 (by omega)) (zwr_r e193 (by omega)) (zwr_r e193 (by omega)) (zwr_r e193 (by omega)); obtain ⟨r_7j, r_7a, r_7l, r_7r⟩ := (u217 T (xj + 1) a_6).1 (by omega); have k_8 := tT0 r_7a.2.2.1; have k_8j := r_7a.1.1; have c_9 : tCm h179 = tCm h2 := (tCm_f (zwr_r e180 (by omega)) (fun i => zwr_r e180 (by omega)) (fun i => zwr_r e180 (by omega))).trans rfl; have c_10 : tCm h184 = tCm h2 := (tCm_f (zfr_f f190 rfl rfl) (fun i => zfr_a f190 rfl (by decide)) (fun i => zfr_a f190 rfl (by decide))).trans c_9; have c_11 : tCm h192 = tCm h2 := (tCm_f (zwr_r e193 (by omega)) (fun i => zwr_r e193 (by omega)) (fun i => zwr_r e193 (by omega))).trans c_10; have a_12 : tPm 0 T r_7j h221 := tPm_f r_7a (fun k => (zwr_r e222 (by omega))) (fun k => (zwr_r e222 (by omega))) (zwr_r e222 (by omega)) (zwr_r e222 (by omega)) (zwr_r e222 (by omega)) (zwr_r e222 (by omega)) (zwr_r e222 (by omega)); have k_13 := tT0 a_12.2.2.1; have k_13j := a_12.1.1; have a_14 : tPm 0 T (r_7j + 1) h329 := tPm_r a_12 (by omega) (u334 a_12.2.2.2.2.2.1 (tPm_l a_12 (by omega))) (fun k => (zfr_a f335 rfl (by decide))) (fun k => (zfr_a f335 rfl (by decide))) (zfr_f f335 rfl rfl); obtain ⟨r_15j, r_15a, r_15l, r_15r⟩ := (u361 T (r_7j + 1) a_14).1 (by omega); have c_16 : tCm h221 = tCm h212 := (tCm_f (zwr_r e222 (by omega)) (fun i => zwr_r e222 (by omega)) (fun i => zwr_r e222 (by omega))).trans rfl; have c_17 : tCm h329 = tCm h212 := (tCm_f (zfr_f f335 rfl rfl) (fun i => zfr_a f335 rfl (by decide)) (fun i => zfr_a f335 rfl (by decide))).trans c_16; have k_18 := tT0 r_15a.2.2.1; have k_18j := r_15a.1.1; have a_19 : tPm 0 T r_15j h365 := tPm_f r_15a (fun k => (zwr_r e366 (by omega))) (fun k => (zwr_r e366 (by omega))) (zwr_r e366 (by omega)) (zwr_r e366 (by omega)) (zwr_r e366 (by omega)) (zwr_r e366 (by omega)) (zwr_r e366 (by omega)); have e_20 : tEp h h377 r_15j 1 := ⟨u380.1, a_19.1.1, by have q9 := a_19.2.1; rw [show h365.2 7 = h.2 7 from funext fun i9 => (((((((((zwr_r e366 (by omega)).trans (zfr_a f362 rfl (by decide))).trans (zfr_a f335 rfl (by decide))).trans (zwr_r e222 (by omega))).trans (zfr_a f218 rfl (by decide))).trans (zwr_r e193 (by omega))).trans (zfr_a f190 rfl (by decide))).trans (zwr_r e180 (by omega))).trans (zfr_a f4 rfl (by decide))), show h365.2 0 11 = h.2 0 11 from (((((((((zwr_r e366 (by omega)).trans (zfr_f f362 rfl rfl)).trans (zfr_f f335 rfl rfl)).trans (zwr_r e222 (by omega))).trans (zfr_f f218 rfl rfl)).trans (zwr_r e193 (by omega))).trans (zfr_f f190 rfl rfl)).trans (zwr_r e180 (by omega))).trans (zfr_f f4 rfl rfl))] at q9; rw [u380.2]; exact q9⟩; exact ⟨fun z => absurd z (by omega), fun _ => ⟨r_15j, _, e_20, fun p9 => tRe_s (tRe_s (tRe_t (tRe_k (tRe_s (tRe_t (tRe_k (tRe_s (xr p9) (tM2_l (by omega) (by omega))) (c_11 : tCm h192 = tCm h2).symm) (r_7r p9 [100, x1 + 1000] _)) (tM5_w (by omega))) (c_17 : tCm h329 = tCm h212).symm) (r_15r p9 [90, x1 + 1000] _ ((tOpn_90 (by omega)).trans ((((((((zfr_f f335 rfl rfl).trans (zwr_r e222 (by omega))).trans (zfr_f f218 rfl rfl)).trans (zwr_r e193 (by omega))).trans (zfr_f f190 rfl rfl)).trans (zwr_r e180 (by omega)))).trans xo).symm) rfl)) tM12_z) (tM10_n (by omega))⟩⟩)⟩
                    · refine zj_if_ne (t := 117) (zdk ttX11_readLaw 63 rfl rfl) (by decide) (by decide) (fun c408 => ?_) (fun c408 => ?_)
                      · refine zj_aload_n (zdk ttX11_readLaw 68 rfl rfl) rfl (by decide) ?_
                        refine zj_callV (av := []) (st := []) (zdk ttX11_readLaw 69 rfl rfl) mb_X11_reads mv_RX11_204 (ci := 11) rfl rfl (k_M s367) rfl rfl (Nat.le_of_ble_eq_true rfl) (s2_X11_reads l h365 s367) (rm_ok (by decide) (by decide)) (zq_v fun h411 q409 => ?_)
                        obtain ⟨s413, f417, u414, u415, u416⟩ := q409
                        refine zj_iload_n (zdk ttX11_readLaw 70 rfl rfl) rfl ?_
                        refine zj_iconst (zdk ttX11_readLaw 71 rfl rfl) ?_
                        refine zj_iadd (zdk ttX11_readLaw 72 rfl rfl) ?_
                        refine zj_istore_n (L' := [some (.inr 0), some (.inl (x1 + 1)), some (.inl (32 + x1))]) (zdk ttX11_readLaw 73 rfl rfl) (by decide) rfl ?_
                        refine zj_goto (t := 2) (zdk ttX11_readLaw 74 rfl rfl) (by decide) ?_
                        refine zj_kill (k := 2) (L' := [some (.inr 0), some (.inl (x1 + 1)), none]) rfl ?_
                        have b418 : 0 ≤ (h411.2 0 12) ∧ (h411.2 0 12) ≤ 400 := fM_12 s413
                        have b419 : 0 ≤ (h411.2 0 13) ∧ (h411.2 0 13) ≤ 400 := fM_13 s413
                        have b420 : 0 ≤ (h411.2 0 14) ∧ (h411.2 0 14) ≤ 4 := fM_14 s413
                        have b421 : h411.2 0 25 = (h355.2 0 25) := ((zfr_f f417 rfl rfl).trans (zwr_r e366 (by omega)))
                        have f430 : zfr [12, 13, 14, 15, 25, 26, 28, 29, 30] [10, 11, 12, 13, 14, 15, 16] h h179 := zfr_wa f4 e180 rfl
                        have f429 : zfr [12, 13, 14, 15, 25, 26, 28, 29, 30] [10, 11, 12, 13, 14, 15, 16] h h184 := zfr_t f430 f190 rfl rfl
                        have f428 : zfr [12, 13, 14, 15, 25, 26, 28, 29, 30] [10, 11, 12, 13, 14, 15, 16] h h192 := zfr_wa f429 e193 rfl
                        have f427 : zfr [12, 13, 14, 15, 25, 26, 28, 29, 30] [10, 11, 12, 13, 14, 15, 16] h h212 := zfr_t f428 f218 rfl rfl
                        have f426 : zfr [12, 13, 14, 15, 25, 26, 28, 29, 30] [10, 11, 12, 13, 14, 15, 16] h h221 := zfr_wa f427 e222 rfl
                        have f425 : zfr [12, 13, 14, 15, 25, 26, 28, 29, 30] [10, 11, 12, 13, 14, 15, 16] h h329 := zfr_t f426 f335 rfl rfl
                        have f424 : zfr [12, 13, 14, 15, 25, 26, 28, 29, 30] [10, 11, 12, 13, 14, 15, 16] h h355 := zfr_t f425 f362 rfl rfl
                        have f423 : zfr [12, 13, 14, 15, 25, 26, 28, 29, 30] [10, 11, 12, 13, 14, 15, 16] h h365 := zfr_wa f424 e366 rfl
                        have f422 : zfr [12, 13, 14, 15, 25, 26, 28, 29, 30] [10, 11, 12, 13, 14, 15, 16] h h411 := zfr_t f423 f417 rfl rfl
                        have r432 := u358 (by omega)
                        have r432b := r432.2.1.2
                        have r432t := r432.1
                        unfold tok at r432t
                        have r431B : rdB 2 h2 h355 := rdB_t r339B r432.2.1 (by omega)
                        have r433B : rdB 2 h2 h365 := rdB_t r431B (rdB_st e366 (by decide)) (by omega)
                        have b435 : h365.2 0 12 = (h355.2 0 12) := (zwr_r e366 (by omega))
                        have b436 : 0 ≤ (h355.2 0 12) ∧ (h355.2 0 12) ≤ 400 := fM_12 s357
                        have b437 : h365.2 0 13 = (h355.2 0 13) := (zwr_r e366 (by omega))
                        have b438 : 0 ≤ (h355.2 0 13) ∧ (h355.2 0 13) ≤ 400 := fM_13 s357
                        have b439 : h365.2 0 14 = (h355.2 0 14) := (zwr_r e366 (by omega))
                        have b440 : 0 ≤ (h355.2 0 14) ∧ (h355.2 0 14) ≤ 4 := fM_14 s357
                        have b441 : h365.2 0 25 = (h355.2 0 25) := (zwr_r e366 (by omega))
                        have b442 : h411.2 0 25 = (h355.2 0 25) := ((zfr_f f417 rfl rfl).trans (zwr_r e366 (by omega)))
                        have t443 : tok h365 := (tok_st r432.1 e366 (by decide))
                        unfold tok at t443
                        have r434B : rdB 3 h2 h411 := rdB_t r433B (rdB_same (s := 1) f417 rfl (by omega)) (by omega)
                        have b444 := r434B.2
                        have z445o : ∀ l, 0 ≤ l → l < x1 → h411.2 11 (32 + l) = h2.2 11 (32 + l) ∧ h411.2 12 (32 + l) = h2.2 12 (32 + l) ∧ h411.2 13 (32 + l) = h2.2 13 (32 + l) := fun l l1 l2 => ⟨(((((((((zfr_a f417 rfl (by decide)).trans (zwr_r e366 (by omega))).trans (zfr_a f362 rfl (by decide))).trans (zfr_a f335 rfl (by decide))).trans (zwr_r e222 (by omega))).trans (zfr_a f218 rfl (by decide))).trans (zwr_r e193 (by omega))).trans (zfr_a f190 rfl (by decide))).trans (zwr_r e180 (by omega))), (((((((((zfr_a f417 rfl (by decide)).trans (zwr_r e366 (by omega))).trans (zfr_a f362 rfl (by decide))).trans (zfr_a f335 rfl (by decide))).trans (zwr_r e222 (by omega))).trans (zfr_a f218 rfl (by decide))).trans (zwr_r e193 (by omega))).trans (zfr_a f190 rfl (by decide))).trans (zwr_r e180 (by omega))), (((((((((zfr_a f417 rfl (by decide)).trans (zwr_r e366 (by omega))).trans (zfr_a f362 rfl (by decide))).trans (zfr_a f335 rfl (by decide))).trans (zwr_r e222 (by omega))).trans (zfr_a f218 rfl (by decide))).trans (zwr_r e193 (by omega))).trans (zfr_a f190 rfl (by decide))).trans (zwr_r e180 (by omega)))⟩
                        have r446B : rdB 0 h212 h221 := rdB_t (rdB_r h212) (rdB_st e222 (by decide)) (by omega)
                        have r447B : rdB 1 h212 h329 := rdB_t r446B (rdB_same (s := 1) f335 rfl (by omega)) (by omega)
                        have r448B : rdB 1 h212 h355 := rdB_t r447B r432.2.1 (by omega)
                        have r449B : rdB 1 h212 h365 := rdB_t r448B (rdB_st e366 (by decide)) (by omega)
                        have r450B : rdB 2 h212 h411 := rdB_t r449B (rdB_same (s := 1) f417 rfl (by omega)) (by omega)
                        have b451 : h192.2 0 25 = (h2.2 0 25) := (((zwr_r e193 (by omega)).trans (zfr_f f190 rfl rfl)).trans (zwr_r e180 (by omega)))
                        have z4451 : wfS (dop h411) (dar h411) (h2.2 0 25) (h212.2 0 25) := Or.inr (by rw [show (h2.2 0 25) = h192.2 0 25 by omega, show (h212.2 0 25) = h212.2 0 25 by omega]; exact wfP_up r450B (by omega) (rdP_seg r337.2.2))
                        have r452B : rdB 0 h355 h365 := rdB_t (rdB_r h355) (rdB_st e366 (by decide)) (by omega)
                        have r453B : rdB 1 h355 h411 := rdB_t r452B (rdB_same (s := 1) f417 rfl (by omega)) (by omega)
                        have b454 : h329.2 0 25 = (h212.2 0 25) := ((zfr_f f335 rfl rfl).trans (zwr_r e222 (by omega)))
                        have z4452 : wfS (dop h411) (dar h411) (h212.2 0 25) (h355.2 0 25) := Or.inr (by rw [show (h212.2 0 25) = h329.2 0 25 by omega, show (h355.2 0 25) = h355.2 0 25 by omega]; exact wfP_up r453B (by omega) (rdP_seg r432.2.2))
                        have b455 := r453B.2
                        have b456 : h411.2 0 25 = (h355.2 0 25) := ((zfr_f f417 rfl rfl).trans (zwr_r e366 (by omega)))
                        have b457 : 0 ≤ (h.2 0 14) ∧ (h.2 0 14) ≤ 4 := fM_14 s0
                        have b458 : -2147483648 ≤ (h.2 0 15) ∧ (h.2 0 15) ≤ 2147483647 := fM_15 s0
                        have b459 : h179.2 0 14 = (h2.2 0 14) := (zwr_r e180 (by omega))
                        have b460 : h179.2 0 15 = (h2.2 0 15) := (zwr_r e180 (by omega))
                        have b461 : -2147483648 ≤ (h184.2 0 15) ∧ (h184.2 0 15) ≤ 2147483647 := fM_15 s186
                        have b462 : h192.2 0 14 = (h184.2 0 14) := (zwr_r e193 (by omega))
                        have b463 : h192.2 0 15 = (h184.2 0 15) := (zwr_r e193 (by omega))
                        have b464 : -2147483648 ≤ (h212.2 0 15) ∧ (h212.2 0 15) ≤ 2147483647 := fM_15 s214
                        have b465 : h221.2 0 14 = (h212.2 0 14) := (zwr_r e222 (by omega))
                        have b466 : h221.2 0 15 = (h212.2 0 15) := (zwr_r e222 (by omega))
                        have b467 : -2147483648 ≤ (h329.2 0 15) ∧ (h329.2 0 15) ≤ 2147483647 := fM_15 s331
                        have b468 : -2147483648 ≤ (h355.2 0 15) ∧ (h355.2 0 15) ≤ 2147483647 := fM_15 s357
                        have b469 : h365.2 0 14 = (h355.2 0 14) := (zwr_r e366 (by omega))
                        have b470 : h365.2 0 15 = (h355.2 0 15) := (zwr_r e366 (by omega))
                        have b471 : -2147483648 ≤ (h411.2 0 15) ∧ (h411.2 0 15) ≤ 2147483647 := fM_15 s413
                        exact ih154  (x1 + 1) h411 (by omega) s413 f422 u414 (by omega) (zLn_s u149 r434B z445o (((((((zfr_a f417 rfl (by decide)).trans (zwr_r e366 (by omega))).trans (zfr_a f362 rfl (by decide))).trans (zfr_a f335 rfl (by decide))).trans (zwr_r e222 (by omega))).trans (zfr_a f218 rfl (by decide))).trans (zwr_v e193)) (((((zfr_a f417 rfl (by decide)).trans (zwr_r e366 (by omega))).trans (zfr_a f362 rfl (by decide))).trans (zfr_a f335 rfl (by decide))).trans (zwr_v e222)) ((zfr_a f417 rfl (by decide)).trans (zwr_v e366)) z4451 z4452 (by omega)) (tLo_f (tLo_f (tLo_t (tLo_f (tLo_f (tLo_t (tLo_f (tLo_f (tLo_f u150 (fun i => zwr_r e180 (by omega)) (fun i => zwr_r e180 (by omega))) (fun i => zfr_a f190 rfl (by decide)) (fun i => zfr_a f190 rfl (by decide))) (fun i => zwr_r e193 (by omega)) (fun i => zwr_r e193 (by omega))) u216) (fun i => zwr_r e222 (by omega)) (fun i => zwr_r e222 (by omega))) (fun i => zfr_a f335 rfl (by decide)) (fun i => zfr_a f335 rfl (by decide))) u359) (fun i => zwr_r e366 (by omega)) (fun i => zwr_r e366 (by omega))) (fun i => zfr_a f417 rfl (by decide)) (fun i => zfr_a f417 rfl (by decide))) (fun i i9 => ⟨((((((((((zfr_a f417 rfl (by decide)).trans (zwr_r e366 (by omega))).trans (zfr_a f362 rfl (by decide))).trans (zfr_a f335 rfl (by decide))).trans (zwr_r e222 (by omega))).trans (zfr_a f218 rfl (by decide))).trans (zwr_r e193 (by omega))).trans (zfr_a f190 rfl (by decide))).trans (zwr_r e180 (by omega)))).trans (u151 i i9).1, ((((((((((zfr_a f417 rfl (by decide)).trans (zwr_r e366 (by omega))).trans (zfr_a f362 rfl (by decide))).trans (zfr_a f335 rfl (by decide))).trans (zwr_r e222 (by omega))).trans (zfr_a f218 rfl (by decide))).trans (zwr_r e193 (by omega))).trans (zfr_a f190 rfl (by decide))).trans (zwr_r e180 (by omega)))).trans (u151 i i9).2.1, ((((((((((zfr_a f417 rfl (by decide)).trans (zwr_r e366 (by omega))).trans (zfr_a f362 rfl (by decide))).trans (zfr_a f335 rfl (by decide))).trans (zwr_r e222 (by omega))).trans (zfr_a f218 rfl (by decide))).trans (zwr_r e193 (by omega))).trans (zfr_a f190 rfl (by decide))).trans (zwr_r e180 (by omega)))).trans (u151 i i9).2.2.1, ((((((((((zfr_a f417 rfl (by decide)).trans (zwr_r e366 (by omega))).trans (zfr_a f362 rfl (by decide))).trans (zfr_a f335 rfl (by decide))).trans (zwr_r e222 (by omega))).trans (zfr_a f218 rfl (by decide))).trans (zwr_r e193 (by omega))).trans (zfr_a f190 rfl (by decide))).trans (zwr_r e180 (by omega)))).trans (u151 i i9).2.2.2⟩) (by intro T t0 o0; obtain ⟨xj, xa, xo, xr⟩ := u152 T t0 o0; have k_1 := tT0 xa.2.2.1; have k_1j := xa.1.1; have a_2 : tPm 0 T xj h179 := tPm_f xa (fun k => (zwr_r e180 (by omega))) (fun k => (zwr_r e180 (by omega))) (zwr_r e180 (by omega)) (zwr_r e180 (by omega)) (zwr_r e180 (by omega)) (zwr_r e180 (by omega)) (zwr_r e180 (by omega)); have k_3 := tT0 a_2.2.2.1; have k_3j := a_2.1.1; have a_4 : tPm 0 T (xj + 1) h184 := tPm_r a_2 (by omega) (u189 a_2.2.2.2.2.2.1 (tPm_l a_2 (by omega))) (fun k => (zfr_a f190 rfl (by decide))) (fun k => (zfr_a f190 rfl (by decide))) (zfr_f f190 rfl rfl); have k_5 := tT0 a_4.2.2.1; have k_5j := a_4.1.1; have a_6 : tPm 0 T (xj + 1) h192 := tPm_f a_4 (fun k => (zwr_r e193 (by omega))) (fun k => (zwr_r e193 (by omega))) (zwr_r e193 (by omega)) (zwr_r e193 (by omega)) (zwr_r e193 (by omega)) (zwr_r e193 (by omega)) (zwr_r e193 (by omega)); obtain ⟨r_7j, r_7a, r_7l, r_7r⟩ := (u217 T (xj + 1) a_6).1 (by omega); have k_8 := tT0 r_7a.2.2.1; have k_8j := r_7a.1.1; have c_9 : tCm h179 = tCm h2 := (tCm_f (zwr_r e180 (by omega)) (fun i => zwr_r e180 (by omega)) (fun i => zwr_r e180 (by omega))).trans rfl; have c_10 : tCm h184 = tCm h2 := (tCm_f (zfr_f f190 rfl rfl) (fun i => zfr_a f190 rfl (by decide)) (fun i => zfr_a f190 rfl (by decide))).trans c_9; have c_11 : tCm h192 = tCm h2 := (tCm_f (zwr_r e193 (by omega)) (fun i => zwr_r e193 (by omega)) (fun i => zwr_r e193 (by omega))).trans c_10; have a_12 : tPm 0 T r_7j h221 := tPm_f r_7a (fun k => (zwr_r e222 (by omega))) (fun k => (zwr_r e222 (by omega))) (zwr_r e222 (by omega)) (zwr_r e222 (by omega)) (zwr_r e222 (by omega)) (zwr_r e222 (by omega)) (zwr_r e222 (by omega)); have k_13 := tT0 a_12.2.2.1; have k_13j := a_12.1.1; have a_14 : tPm 0 T (r_7j + 1) h329 := tPm_r a_12 (by omega) (u334 a_12.2.2.2.2.2.1 (tPm_l a_12 (by omega))) (fun k => (zfr_a f335 rfl (by decide))) (fun k => (zfr_a f335 rfl (by decide))) (zfr_f f335 rfl rfl); obtain ⟨r_15j, r_15a, r_15l, r_15r⟩ := (u361 T (r_7j + 1) a_14).1 (by omega); have c_16 : tCm h221 = tCm h212 := (tCm_f (zwr_r e222 (by omega)) (fun i => zwr_r e222 (by omega)) (fun i => zwr_r e222 (by omega))).trans rfl; have c_17 : tCm h329 = tCm h212 := (tCm_f (zfr_f f335 rfl rfl) (fun i => zfr_a f335 rfl (by decide)) (fun i => zfr_a f335 rfl (by decide))).trans c_16; have k_18 := tT0 r_15a.2.2.1; have k_18j := r_15a.1.1; have a_19 : tPm 0 T r_15j h365 := tPm_f r_15a (fun k => (zwr_r e366 (by omega))) (fun k => (zwr_r e366 (by omega))) (zwr_r e366 (by omega)) (zwr_r e366 (by omega)) (zwr_r e366 (by omega)) (zwr_r e366 (by omega)) (zwr_r e366 (by omega)); have k_20 := tT0 a_19.2.2.1; have k_20j := a_19.1.1; have a_21 : tPm 0 T (r_15j + 1) h411 := tPm_r a_19 (by omega) (u416 a_19.2.2.2.2.2.1 (tPm_l a_19 (by omega))) (fun k => (zfr_a f417 rfl (by decide))) (fun k => (zfr_a f417 rfl (by decide))) (zfr_f f417 rfl rfl); have c_22 : tCm h365 = tCm h355 := (tCm_f (zwr_r e366 (by omega)) (fun i => zwr_r e366 (by omega)) (fun i => zwr_r e366 (by omega))).trans rfl; have c_23 : tCm h411 = tCm h355 := (tCm_f (zfr_f f417 rfl rfl) (fun i => zfr_a f417 rfl (by decide)) (fun i => zfr_a f417 rfl (by decide))).trans c_22; exact ⟨(r_15j + 1), a_21, ((((((((((zfr_f f417 rfl rfl).trans (zwr_r e366 (by omega))).trans (u360 (by omega))).trans (zfr_f f335 rfl rfl)).trans (zwr_r e222 (by omega))).trans (zfr_f f218 rfl rfl)).trans (zwr_r e193 (by omega))).trans (zfr_f f190 rfl rfl)).trans (zwr_r e180 (by omega)))).trans xo, fun p9 => by have q9 := tRe_s (tRe_s (tRe_t (tRe_k (tRe_s (tRe_t (tRe_k (tRe_s (xr p9) (tM2_l (by omega) (by omega))) (c_11 : tCm h192 = tCm h2).symm) (r_7r p9 [100, x1 + 1000] _)) (tM5_w (by omega))) (c_17 : tCm h329 = tCm h212).symm) (r_15r p9 [90, x1 + 1000] _ ((tOpn_90 (by omega)).trans ((((((((zfr_f f335 rfl rfl).trans (zwr_r e222 (by omega))).trans (zfr_f f218 rfl rfl)).trans (zwr_r e193 (by omega))).trans (zfr_f f190 rfl rfl)).trans (zwr_r e180 (by omega)))).trans xo).symm) rfl)) tM12_z) (tM10_y (by omega)); rw [show x1 + 1000 - 1000 + 1 = x1 + 1 by omega] at q9; exact tRe_k (tRe_q q9 (tL4_n (h := h2) (h' := h411) (x := x1) (by omega) ((congrArg (h411.2 13) (show 32 + x1 = (32 + x1) by omega)).trans (Eq.trans ((zfr_a f417 rfl (by decide))) (Eq.trans (zwr_v e366) ((show (h355.2 0 25) = h355.2 0 25 by omega).trans (tCm_l (fM_25 s357).1).symm)))) ((congrArg (h411.2 12) (show 32 + x1 = (32 + x1) by omega)).trans (Eq.trans (((((zfr_a f417 rfl (by decide)).trans (zwr_r e366 (by omega))).trans (zfr_a f362 rfl (by decide))).trans (zfr_a f335 rfl (by decide)))) (Eq.trans (zwr_v e222) ((show (h212.2 0 25) = h212.2 0 25 by omega).trans (tCm_l (fM_25 s214).1).symm)))) ((congrArg (h411.2 11) (show 32 + x1 = (32 + x1) by omega)).trans (Eq.trans (((((((zfr_a f417 rfl (by decide)).trans (zwr_r e366 (by omega))).trans (zfr_a f362 rfl (by decide))).trans (zfr_a f335 rfl (by decide))).trans (zwr_r e222 (by omega))).trans (zfr_a f218 rfl (by decide)))) (Eq.trans (zwr_v e193) ((show (h2.2 0 25) = h2.2 0 25 by omega).trans (tCm_l (fM_25 s3).1).symm)))) ((congrArg (h411.2 10) (show 32 + x1 = (32 + x1) by omega)).trans (Eq.trans (((((((((zfr_a f417 rfl (by decide)).trans (zwr_r e366 (by omega))).trans (zfr_a f362 rfl (by decide))).trans (zfr_a f335 rfl (by decide))).trans (zwr_r e222 (by omega))).trans (zfr_a f218 rfl (by decide))).trans (zwr_r e193 (by omega))).trans (zfr_a f190 rfl (by decide)))) (Eq.trans (zwr_v e180) (show (h2.2 0 15) = T xj - 200 by omega)))) (fun i _ i9 => (((((((((zfr_a f417 rfl (by decide)).trans (zwr_r e366 (by omega))).trans (zfr_a f362 rfl (by decide))).trans (zfr_a f335 rfl (by decide))).trans (zwr_r e222 (by omega))).trans (zfr_a f218 rfl (by decide))).trans (zwr_r e193 (by omega))).trans (zfr_a f190 rfl (by decide))).trans (zwr_r e180 (by omega)))) (fun i _ i9 => (((((((((zfr_a f417 rfl (by decide)).trans (zwr_r e366 (by omega))).trans (zfr_a f362 rfl (by decide))).trans (zfr_a f335 rfl (by decide))).trans (zwr_r e222 (by omega))).trans (zfr_a f218 rfl (by decide))).trans (zwr_r e193 (by omega))).trans (zfr_a f190 rfl (by decide))).trans (zwr_r e180 (by omega)))) (fun i _ i9 => (((((((((zfr_a f417 rfl (by decide)).trans (zwr_r e366 (by omega))).trans (zfr_a f362 rfl (by decide))).trans (zfr_a f335 rfl (by decide))).trans (zwr_r e222 (by omega))).trans (zfr_a f218 rfl (by decide))).trans (zwr_r e193 (by omega))).trans (zfr_a f190 rfl (by decide))).trans (zwr_r e180 (by omega)))) (fun i _ i9 => (((((((((zfr_a f417 rfl (by decide)).trans (zwr_r e366 (by omega))).trans (zfr_a f362 rfl (by decide))).trans (zfr_a f335 rfl (by decide))).trans (zwr_r e222 (by omega))).trans (zfr_a f218 rfl (by decide))).trans (zwr_r e193 (by omega))).trans (zfr_a f190 rfl (by decide))).trans (zwr_r e180 (by omega)))))) (c_23 : tCm h411 = tCm h355).symm⟩) (by omega)
                      · exact absurd c408 (by omega)
                  · refine zj_iconst (zdk ttX11_readLaw 52 rfl rfl) ?_
                    have f478 : zfr [12, 13, 14, 15, 25, 26, 28, 29, 30] [10, 11, 12, 13, 14, 15, 16] h h179 := zfr_wa f4 e180 rfl
                    have f477 : zfr [12, 13, 14, 15, 25, 26, 28, 29, 30] [10, 11, 12, 13, 14, 15, 16] h h184 := zfr_t f478 f190 rfl rfl
                    have f476 : zfr [12, 13, 14, 15, 25, 26, 28, 29, 30] [10, 11, 12, 13, 14, 15, 16] h h192 := zfr_wa f477 e193 rfl
                    have f475 : zfr [12, 13, 14, 15, 25, 26, 28, 29, 30] [10, 11, 12, 13, 14, 15, 16] h h212 := zfr_t f476 f218 rfl rfl
                    have f474 : zfr [12, 13, 14, 15, 25, 26, 28, 29, 30] [10, 11, 12, 13, 14, 15, 16] h h221 := zfr_wa f475 e222 rfl
                    have f473 : zfr [12, 13, 14, 15, 25, 26, 28, 29, 30] [10, 11, 12, 13, 14, 15, 16] h h329 := zfr_t f474 f335 rfl rfl
                    have f472 : zfr [12, 13, 14, 15, 25, 26, 28, 29, 30] [10, 11, 12, 13, 14, 15, 16] h h355 := zfr_t f473 f362 rfl rfl
                    have b479 : 0 ≤ (h.2 0 14) ∧ (h.2 0 14) ≤ 4 := fM_14 s0
                    have b480 : -2147483648 ≤ (h.2 0 15) ∧ (h.2 0 15) ≤ 2147483647 := fM_15 s0
                    have b481 : h179.2 0 14 = (h2.2 0 14) := (zwr_r e180 (by omega))
                    have b482 : h179.2 0 15 = (h2.2 0 15) := (zwr_r e180 (by omega))
                    have b483 : -2147483648 ≤ (h184.2 0 15) ∧ (h184.2 0 15) ≤ 2147483647 := fM_15 s186
                    have b484 : h192.2 0 14 = (h184.2 0 14) := (zwr_r e193 (by omega))
                    have b485 : h192.2 0 15 = (h184.2 0 15) := (zwr_r e193 (by omega))
                    have b486 : -2147483648 ≤ (h212.2 0 15) ∧ (h212.2 0 15) ≤ 2147483647 := fM_15 s214
                    have b487 : h221.2 0 14 = (h212.2 0 14) := (zwr_r e222 (by omega))
                    have b488 : h221.2 0 15 = (h212.2 0 15) := (zwr_r e222 (by omega))
                    have b489 : -2147483648 ≤ (h329.2 0 15) ∧ (h329.2 0 15) ≤ 2147483647 := fM_15 s331
                    have b490 : 0 ≤ (h355.2 0 14) ∧ (h355.2 0 14) ≤ 4 := fM_14 s357
                    have b491 : -2147483648 ≤ (h355.2 0 15) ∧ (h355.2 0 15) ≤ 2147483647 := fM_15 s357
                    exact zj_iret rfl (zdk ttX11_readLaw 53 rfl rfl) (Nat.le_refl _) (Nat.le_refl _) ⟨(-1), rfl, by omega, s357, f472, (fun q => absurd q (by omega)), (tLo_t (tLo_f (tLo_f (tLo_t (tLo_f (tLo_f (tLo_f u150 (fun i => zwr_r e180 (by omega)) (fun i => zwr_r e180 (by omega))) (fun i => zfr_a f190 rfl (by decide)) (fun i => zfr_a f190 rfl (by decide))) (fun i => zwr_r e193 (by omega)) (fun i => zwr_r e193 (by omega))) u216) (fun i => zwr_r e222 (by omega)) (fun i => zwr_r e222 (by omega))) (fun i => zfr_a f335 rfl (by decide)) (fun i => zfr_a f335 rfl (by decide))) u359), (fun i i9 => ⟨((((((((zfr_a f362 rfl (by decide)).trans (zfr_a f335 rfl (by decide))).trans (zwr_r e222 (by omega))).trans (zfr_a f218 rfl (by decide))).trans (zwr_r e193 (by omega))).trans (zfr_a f190 rfl (by decide))).trans (zwr_r e180 (by omega)))).trans (u151 i i9).1, ((((((((zfr_a f362 rfl (by decide)).trans (zfr_a f335 rfl (by decide))).trans (zwr_r e222 (by omega))).trans (zfr_a f218 rfl (by decide))).trans (zwr_r e193 (by omega))).trans (zfr_a f190 rfl (by decide))).trans (zwr_r e180 (by omega)))).trans (u151 i i9).2.1, ((((((((zfr_a f362 rfl (by decide)).trans (zfr_a f335 rfl (by decide))).trans (zwr_r e222 (by omega))).trans (zfr_a f218 rfl (by decide))).trans (zwr_r e193 (by omega))).trans (zfr_a f190 rfl (by decide))).trans (zwr_r e180 (by omega)))).trans (u151 i i9).2.2.1, ((((((((zfr_a f362 rfl (by decide)).trans (zfr_a f335 rfl (by decide))).trans (zwr_r e222 (by omega))).trans (zfr_a f218 rfl (by decide))).trans (zwr_r e193 (by omega))).trans (zfr_a f190 rfl (by decide))).trans (zwr_r e180 (by omega)))).trans (u151 i i9).2.2.2⟩), (by intro T t0 o0; obtain ⟨xj, xa, xo, xr⟩ := u152 T t0 o0; have k_1 := tT0 xa.2.2.1; have k_1j := xa.1.1; have a_2 : tPm 0 T xj h179 := tPm_f xa (fun k => (zwr_r e180 (by omega))) (fun k => (zwr_r e180 (by omega))) (zwr_r e180 (by omega)) (zwr_r e180 (by omega)) (zwr_r e180 (by omega)) (zwr_r e180 (by omega)) (zwr_r e180 (by omega)); have k_3 := tT0 a_2.2.2.1; have k_3j := a_2.1.1; have a_4 : tPm 0 T (xj + 1) h184 := tPm_r a_2 (by omega) (u189 a_2.2.2.2.2.2.1 (tPm_l a_2 (by omega))) (fun k => (zfr_a f190 rfl (by decide))) (fun k => (zfr_a f190 rfl (by decide))) (zfr_f f190 rfl rfl); have k_5 := tT0 a_4.2.2.1; have k_5j := a_4.1.1; have a_6 : tPm 0 T (xj + 1) h192 := tPm_f a_4 (fun k => (zwr_r e193 (by omega))) (fun k => (zwr_r e193 (by omega))) (zwr_r e193 (by omega)) (zwr_r e193 (by omega)) (zwr_r e193 (by omega)) (zwr_r e193 (by omega)) (zwr_r e193 (by omega)); obtain ⟨r_7j, r_7a, r_7l, r_7r⟩ := (u217 T (xj + 1) a_6).1 (by omega); have k_8 := tT0 r_7a.2.2.1; have k_8j := r_7a.1.1; have c_9 : tCm h179 = tCm h2 := (tCm_f (zwr_r e180 (by omega)) (fun i => zwr_r e180 (by omega)) (fun i => zwr_r e180 (by omega))).trans rfl; have c_10 : tCm h184 = tCm h2 := (tCm_f (zfr_f f190 rfl rfl) (fun i => zfr_a f190 rfl (by decide)) (fun i => zfr_a f190 rfl (by decide))).trans c_9; have c_11 : tCm h192 = tCm h2 := (tCm_f (zwr_r e193 (by omega)) (fun i => zwr_r e193 (by omega)) (fun i => zwr_r e193 (by omega))).trans c_10; have a_12 : tPm 0 T r_7j h221 := tPm_f r_7a (fun k => (zwr_r e222 (by omega))) (fun k => (zwr_r e222 (by omega))) (zwr_r e222 (by omega)) (zwr_r e222 (by omega)) (zwr_r e222 (by omega)) (zwr_r e222 (by omega)) (zwr_r e222 (by omega)); have k_13 := tT0 a_12.2.2.1; have k_13j := a_12.1.1; have a_14 : tPm 0 T (r_7j + 1) h329 := tPm_r a_12 (by omega) (u334 a_12.2.2.2.2.2.1 (tPm_l a_12 (by omega))) (fun k => (zfr_a f335 rfl (by decide))) (fun k => (zfr_a f335 rfl (by decide))) (zfr_f f335 rfl rfl); obtain ⟨e_15i, e_15f, e_15p, e_15r⟩ := (u361 T (r_7j + 1) a_14).2 (by omega); have e_15q : tEp h h355 e_15i e_15f := (by have q9 := e_15p; unfold tEp at q9 ⊢; rw [show h329.2 7 = h.2 7 from funext fun i9 => (((((((zfr_a f335 rfl (by decide)).trans (zwr_r e222 (by omega))).trans (zfr_a f218 rfl (by decide))).trans (zwr_r e193 (by omega))).trans (zfr_a f190 rfl (by decide))).trans (zwr_r e180 (by omega))).trans (zfr_a f4 rfl (by decide))), show h329.2 0 11 = h.2 0 11 from (((((((zfr_f f335 rfl rfl).trans (zwr_r e222 (by omega))).trans (zfr_f f218 rfl rfl)).trans (zwr_r e193 (by omega))).trans (zfr_f f190 rfl rfl)).trans (zwr_r e180 (by omega))).trans (zfr_f f4 rfl rfl))] at q9; exact q9); have c_16 : tCm h221 = tCm h212 := (tCm_f (zwr_r e222 (by omega)) (fun i => zwr_r e222 (by omega)) (fun i => zwr_r e222 (by omega))).trans rfl; have c_17 : tCm h329 = tCm h212 := (tCm_f (zfr_f f335 rfl rfl) (fun i => zfr_a f335 rfl (by decide)) (fun i => zfr_a f335 rfl (by decide))).trans c_16; exact ⟨fun z => absurd z (by omega), fun _ => ⟨e_15i, e_15f, e_15q, fun p9 => tRe_t (tRe_k (tRe_s (tRe_t (tRe_k (tRe_s (xr p9) (tM2_l (by omega) (by omega))) (c_11 : tCm h192 = tCm h2).symm) (r_7r p9 [100, x1 + 1000] _)) (tM5_w (by omega))) (c_17 : tCm h329 = tCm h212).symm) (e_15r p9 [90, x1 + 1000] _ ((tOpn_90 (by omega)).trans ((((((((zfr_f f335 rfl rfl).trans (zwr_r e222 (by omega))).trans (zfr_f f218 rfl rfl)).trans (zwr_r e193 (by omega))).trans (zfr_f f190 rfl rfl)).trans (zwr_r e180 (by omega)))).trans xo).symm) rfl)⟩⟩)⟩
            · refine zj_iconst (zdk ttX11_readLaw 34 rfl rfl) ?_
              have f495 : zfr [12, 13, 14, 15, 25, 26, 28, 29, 30] [10, 11, 12, 13, 14, 15, 16] h h179 := zfr_wa f4 e180 rfl
              have f494 : zfr [12, 13, 14, 15, 25, 26, 28, 29, 30] [10, 11, 12, 13, 14, 15, 16] h h184 := zfr_t f495 f190 rfl rfl
              have f493 : zfr [12, 13, 14, 15, 25, 26, 28, 29, 30] [10, 11, 12, 13, 14, 15, 16] h h192 := zfr_wa f494 e193 rfl
              have f492 : zfr [12, 13, 14, 15, 25, 26, 28, 29, 30] [10, 11, 12, 13, 14, 15, 16] h h212 := zfr_t f493 f218 rfl rfl
              have b496 : 0 ≤ (h.2 0 14) ∧ (h.2 0 14) ≤ 4 := fM_14 s0
              have b497 : -2147483648 ≤ (h.2 0 15) ∧ (h.2 0 15) ≤ 2147483647 := fM_15 s0
              have b498 : h179.2 0 14 = (h2.2 0 14) := (zwr_r e180 (by omega))
              have b499 : h179.2 0 15 = (h2.2 0 15) := (zwr_r e180 (by omega))
              have b500 : -2147483648 ≤ (h184.2 0 15) ∧ (h184.2 0 15) ≤ 2147483647 := fM_15 s186
              have b501 : h192.2 0 14 = (h184.2 0 14) := (zwr_r e193 (by omega))
              have b502 : h192.2 0 15 = (h184.2 0 15) := (zwr_r e193 (by omega))
              have b503 : 0 ≤ (h212.2 0 14) ∧ (h212.2 0 14) ≤ 4 := fM_14 s214
              have b504 : -2147483648 ≤ (h212.2 0 15) ∧ (h212.2 0 15) ≤ 2147483647 := fM_15 s214
              exact zj_iret rfl (zdk ttX11_readLaw 35 rfl rfl) (Nat.le_refl _) (Nat.le_refl _) ⟨(-1), rfl, by omega, s214, f492, (fun q => absurd q (by omega)), (tLo_t (tLo_f (tLo_f (tLo_f u150 (fun i => zwr_r e180 (by omega)) (fun i => zwr_r e180 (by omega))) (fun i => zfr_a f190 rfl (by decide)) (fun i => zfr_a f190 rfl (by decide))) (fun i => zwr_r e193 (by omega)) (fun i => zwr_r e193 (by omega))) u216), (fun i i9 => ⟨(((((zfr_a f218 rfl (by decide)).trans (zwr_r e193 (by omega))).trans (zfr_a f190 rfl (by decide))).trans (zwr_r e180 (by omega)))).trans (u151 i i9).1, (((((zfr_a f218 rfl (by decide)).trans (zwr_r e193 (by omega))).trans (zfr_a f190 rfl (by decide))).trans (zwr_r e180 (by omega)))).trans (u151 i i9).2.1, (((((zfr_a f218 rfl (by decide)).trans (zwr_r e193 (by omega))).trans (zfr_a f190 rfl (by decide))).trans (zwr_r e180 (by omega)))).trans (u151 i i9).2.2.1, (((((zfr_a f218 rfl (by decide)).trans (zwr_r e193 (by omega))).trans (zfr_a f190 rfl (by decide))).trans (zwr_r e180 (by omega)))).trans (u151 i i9).2.2.2⟩), (by intro T t0 o0; obtain ⟨xj, xa, xo, xr⟩ := u152 T t0 o0; have k_1 := tT0 xa.2.2.1; have k_1j := xa.1.1; have a_2 : tPm 0 T xj h179 := tPm_f xa (fun k => (zwr_r e180 (by omega))) (fun k => (zwr_r e180 (by omega))) (zwr_r e180 (by omega)) (zwr_r e180 (by omega)) (zwr_r e180 (by omega)) (zwr_r e180 (by omega)) (zwr_r e180 (by omega)); have k_3 := tT0 a_2.2.2.1; have k_3j := a_2.1.1; have a_4 : tPm 0 T (xj + 1) h184 := tPm_r a_2 (by omega) (u189 a_2.2.2.2.2.2.1 (tPm_l a_2 (by omega))) (fun k => (zfr_a f190 rfl (by decide))) (fun k => (zfr_a f190 rfl (by decide))) (zfr_f f190 rfl rfl); have k_5 := tT0 a_4.2.2.1; have k_5j := a_4.1.1; have a_6 : tPm 0 T (xj + 1) h192 := tPm_f a_4 (fun k => (zwr_r e193 (by omega))) (fun k => (zwr_r e193 (by omega))) (zwr_r e193 (by omega)) (zwr_r e193 (by omega)) (zwr_r e193 (by omega)) (zwr_r e193 (by omega)) (zwr_r e193 (by omega)); obtain ⟨e_7i, e_7f, e_7p, e_7r⟩ := (u217 T (xj + 1) a_6).2 (by omega); have e_7q : tEp h h212 e_7i e_7f := (by have q9 := e_7p; unfold tEp at q9 ⊢; rw [show h192.2 7 = h.2 7 from funext fun i9 => ((((zwr_r e193 (by omega)).trans (zfr_a f190 rfl (by decide))).trans (zwr_r e180 (by omega))).trans (zfr_a f4 rfl (by decide))), show h192.2 0 11 = h.2 0 11 from ((((zwr_r e193 (by omega)).trans (zfr_f f190 rfl rfl)).trans (zwr_r e180 (by omega))).trans (zfr_f f4 rfl rfl))] at q9; exact q9); have c_8 : tCm h179 = tCm h2 := (tCm_f (zwr_r e180 (by omega)) (fun i => zwr_r e180 (by omega)) (fun i => zwr_r e180 (by omega))).trans rfl; have c_9 : tCm h184 = tCm h2 := (tCm_f (zfr_f f190 rfl rfl) (fun i => zfr_a f190 rfl (by decide)) (fun i => zfr_a f190 rfl (by decide))).trans c_8; have c_10 : tCm h192 = tCm h2 := (tCm_f (zwr_r e193 (by omega)) (fun i => zwr_r e193 (by omega)) (fun i => zwr_r e193 (by omega))).trans c_9; exact ⟨fun z => absurd z (by omega), fun _ => ⟨e_7i, e_7f, e_7q, fun p9 => tRe_t (tRe_k (tRe_s (xr p9) (tM2_l (by omega) (by omega))) (c_10 : tCm h192 = tCm h2).symm) (e_7r p9 [100, x1 + 1000] _)⟩⟩)⟩
          · refine zj_aload_n (zdk ttX11_readLaw 8 rfl rfl) rfl (by decide) ?_
            refine zj_iconst (zdk ttX11_readLaw 9 rfl rfl) ?_
            refine zj_callV (av := [.inl 3]) (st := []) (zdk ttX11_readLaw 10 rfl rfl) mb_X11_errs mv_RX11_197 (ci := 11) rfl rfl (k_M s3) rfl rfl (Nat.le_of_ble_eq_true rfl) (s2_X11_errs l h2 3 s3 (by omega)) (rm_ok (by decide) (by decide)) (zq_i fun v506 h507 q505 => ?_)
            obtain ⟨b508, s509, f511, u510⟩ := q505
            have f512 : zfr [12, 13, 14, 15, 25, 26, 28, 29, 30] [10, 11, 12, 13, 14, 15, 16] h h507 := zfr_t f4 f511 rfl rfl
            have b513 : 0 ≤ (h.2 0 14) ∧ (h.2 0 14) ≤ 4 := fM_14 s0
            have b514 : -2147483648 ≤ (h.2 0 15) ∧ (h.2 0 15) ≤ 2147483647 := fM_15 s0
            have b515 : h507.2 0 14 = (h2.2 0 14) := (zfr_f f511 rfl rfl)
            have b516 : h507.2 0 15 = (h2.2 0 15) := (zfr_f f511 rfl rfl)
            exact zj_iret rfl (zdk ttX11_readLaw 11 rfl rfl) (Nat.le_refl _) (Nat.le_refl _) ⟨v506, rfl, by omega, s509, f512, (fun q => absurd q (by omega)), (tLo_f u150 (fun i => zfr_a f511 rfl (by decide)) (fun i => zfr_a f511 rfl (by decide))), (fun i i9 => ⟨((zfr_a f511 rfl (by decide))).trans (u151 i i9).1, ((zfr_a f511 rfl (by decide))).trans (u151 i i9).2.1, ((zfr_a f511 rfl (by decide))).trans (u151 i i9).2.2.1, ((zfr_a f511 rfl (by decide))).trans (u151 i i9).2.2.2⟩), (by intro T t0 o0; obtain ⟨xj, xa, xo, xr⟩ := u152 T t0 o0; have k_1 := tT0 xa.2.2.1; have k_1j := xa.1.1; have e_2 : tEp h h507 xj 3 := ⟨u510.1, xa.1.1, by have q9 := xa.2.1; rw [show h2.2 7 = h.2 7 from funext fun i9 => (zfr_a f4 rfl (by decide)), show h2.2 0 11 = h.2 0 11 from (zfr_f f4 rfl rfl)] at q9; rw [u510.2]; exact q9⟩; exact ⟨fun z => absurd z (by omega), fun _ => ⟨xj, _, e_2, fun p9 => by first | exact tRe_s (xr p9) (tM2_3 (by omega) (by omega)) | exact tRe_s (xr p9) (tM2_1 (by omega) (by omega))⟩⟩)⟩
  have b517 : 0 ≤ (h.2 0 12) ∧ (h.2 0 12) ≤ 400 := fM_12 s0
  have b518 : 0 ≤ (h.2 0 13) ∧ (h.2 0 13) ≤ 400 := fM_13 s0
  have b519 : 0 ≤ (h.2 0 14) ∧ (h.2 0 14) ≤ 4 := fM_14 s0
  have b520 : 0 ≤ (h.2 0 25) ∧ (h.2 0 25) ≤ 400 := fM_25 s0
  have b521 : -2147483648 ≤ (h.2 0 15) ∧ (h.2 0 15) ≤ 2147483647 := fM_15 s0
  exact lp145 _ 0 h (by omega) s0 (zfr_r _ _ _) u_0 u_1 (fun l q1 q2 => absurd q1 (by omega)) tLo_r (fun i i9 => ⟨rfl, rfl, rfl, rfl⟩) (by intro T t0 o0; exact ⟨0, t0, o0, fun p9 => tRe_r⟩) (Nat.lt_succ_self _)

