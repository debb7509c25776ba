abbrev q2_X11_readLaw (h : zM) : Option zV → zM → Prop := zqi fun v h' => ((-1) ≤ v ∧ v ≤ 16) ∧ okM h' ∧ zfr [12, 13, 14, 15, 25, 26, 28, 29, 30] [10, 11, 12, 13, 14, 15, 16] h h' ∧ (0 ≤ v → zLn h' v) ∧ (∀ T, tPm 0 T 0 h → h.2 0 26 = 0 → (0 ≤ v → ∃ j9, ∀ p9 : Int, tRe T p9 (2, 0, 0, []) (1, j9, v, [])) ∧ (v = -1 → ∃ i9 f9, tEp h h' i9 f9 ∧ ∀ p9 : Int, tRe T p9 (2, 0, 0, []) (tEr i9 f9)))
set_option maxRecDepth 100000 in
set_option maxHeartbeats 4000000 in
theorem s2_X11_readLaw (l : Launch) (h : zM) (s0 : okM h) (u_0 : tok h) (u_1 : h.2 0 25 ≤ h.2 0 13) : zT shM l yX11_readLaw cX11_readLaw 3 (some .int) (rmL 9) 0 0 [.inr 0] h (q2_X11_readLaw h) := by
  refine zT_of (by decide +kernel) (L0 := [some (.inr 0), none, none]) rfl (Nat.le_of_ble_eq_true rfl) ?_
  refine zj_iconst (zdk ttX11_readLaw 0 rfl rfl) ?_
  refine zj_istore_n (L' := [some (.inr 0), some (.inl 0), none]) (zdk ttX11_readLaw 1 rfl rfl) (by decide) rfl ?_
  have lp143 : ∀ (n2 : Nat) (x1 : Int) (h2 : zM), (0 ≤ x1 ∧ x1 ≤ 16) → okM h2 → zfr [12, 13, 14, 15, 25, 26, 28, 29, 30] [10, 11, 12, 13, 14, 15, 16] h h2 → (tok h2) → (h2.2 0 25 ≤ h2.2 0 13) → (zLn h2 x1) → (∀ T, tPm 0 T 0 h → h.2 0 26 = 0 → ∃ j9, tPm 0 T j9 h2 ∧ h2.2 0 26 = 0 ∧ ∀ p9, tRe T p9 (2, 0, 0, []) (2, j9, x1, [])) → (17 - x1).toNat < n2 → zJ shM l yX11_readLaw cX11_readLaw 3 (some .int) (rmL 9) 0 0 (q2_X11_readLaw h) 0 0 2 [some (.inr 0), some (.inl x1), none] [] h2 := by
    intro n2
    induction n2 with
    | zero => intro x1 h2 b144 s3 f4 u145 u146 u147 u148 m149; exact absurd m149 (Nat.not_lt_zero _)
    | succ n2 ih150 =>
      intro x1 h2 b144 s3 f4 u145 u146 u147 u148 m149
      refine zj_aload_n (zdk ttX11_readLaw 2 rfl rfl) rfl (by decide) ?_
      refine zj_callV (av := []) (st := []) (zdk ttX11_readLaw 3 rfl rfl) mb_X11_isLineWord mv_RX11_238 (ci := 11) rfl rfl (k_M s3) rfl rfl (Nat.le_of_ble_eq_true rfl) (s_X11_isLineWord l h2 s3) (rm_ok (by decide) (by decide)) (zq_i fun v152 h153 q151 => ?_)
      obtain ⟨rfl, b155, b156, ⟨rfl, b154⟩ | ⟨rfl, b154⟩⟩ := q151
      · refine zj_if_eq (t := 128) (zdk ttX11_readLaw 4 rfl rfl) (by decide) (by decide) (fun c157 => ?_) (fun c157 => ?_)
        · refine zj_aload_n (zdk ttX11_readLaw 75 rfl rfl) rfl (by decide) ?_
          refine zj_geti (v := (h2.2 0 14)) (zdk ttX11_readLaw 76 rfl rfl) zf_RX11_166 rfl (k_M s3) rfl ?_
          refine zj_if_ne (t := 139) (zdk ttX11_readLaw 77 rfl rfl) (by decide) (by omega) (fun c158 => ?_) (fun c158 => ?_)
          · refine zj_aload_n (zdk ttX11_readLaw 80 rfl rfl) rfl (by decide) ?_
            refine zj_iconst (zdk ttX11_readLaw 81 rfl rfl) ?_
            refine zj_callV (av := [.inl 1]) (st := []) (zdk ttX11_readLaw 82 rfl rfl) mb_X11_errs mv_RX11_197 (ci := 11) rfl rfl (k_M s3) rfl rfl (Nat.le_of_ble_eq_true rfl) (s2_X11_errs l h2 1 s3 (by omega)) (rm_ok (by decide) (by decide)) (zq_i fun v160 h161 q159 => ?_)
            obtain ⟨b162, s163, f165, u164⟩ := q159
            have f166 : zfr [12, 13, 14, 15, 25, 26, 28, 29, 30] [10, 11, 12, 13, 14, 15, 16] h h161 := zfr_t f4 f165 rfl rfl
            have b167 : 0 ≤ (h.2 0 14) ∧ (h.2 0 14) ≤ 4 := fM_14 s0
            have b168 : -2147483648 ≤ (h.2 0 15) ∧ (h.2 0 15) ≤ 2147483647 := fM_15 s0
            have b169 : h161.2 0 14 = (h2.2 0 14) := (zfr_f f165 rfl rfl)
            have b170 : h161.2 0 15 = (h2.2 0 15) := (zfr_f f165 rfl rfl)
            exact zj_iret rfl (zdk ttX11_readLaw 83 rfl rfl) (Nat.le_refl _) (Nat.le_refl _) ⟨v160, rfl, by omega, s163, f166, (fun q => absurd q (by omega)), (by intro T t0 o0; obtain ⟨xj, xa, xo, xr⟩ := u148 T t0 o0; have k_1 := tT0 xa.2.2.1; have k_1j := xa.1.1; have e_2 : tEp h h161 xj 1 := ⟨u164.1, xa.1.1, by have q9 := xa.2.1; rw [show h2.2 7 = h.2 7 from funext fun i9 => (zfr_a f4 rfl (by decide)), show h2.2 0 11 = h.2 0 11 from (zfr_f f4 rfl rfl)] at q9; rw [u164.2]; exact q9⟩; exact ⟨fun z => absurd z (by omega), fun _ => ⟨xj, _, e_2, fun p9 => by first | exact tRe_s (xr p9) (tM2_3 (by omega) (by omega)) | exact tRe_s (xr p9) (tM2_1 (by omega) (by omega))⟩⟩)⟩
          · refine zj_iload_n (zdk ttX11_readLaw 78 rfl rfl) rfl ?_
            refine zj_goto (t := 144) (zdk ttX11_readLaw 79 rfl rfl) (by decide) ?_
            have b171 : 0 ≤ (h.2 0 14) ∧ (h.2 0 14) ≤ 4 := fM_14 s0
            have b172 : -2147483648 ≤ (h.2 0 15) ∧ (h.2 0 15) ≤ 2147483647 := fM_15 s0
            exact zj_iret rfl (zdk ttX11_readLaw 83 rfl rfl) (Nat.le_refl _) (Nat.le_refl _) ⟨x1, rfl, by omega, s3, f4, (fun _ => u147), (by intro T t0 o0; obtain ⟨xj, xa, xo, xr⟩ := u148 T t0 o0; have k_1 := tT0 xa.2.2.1; have k_1j := xa.1.1; exact ⟨fun _ => ⟨xj, fun p9 => tRe_s (xr p9) (tM2_e (by omega))⟩, fun z => absurd z (by omega)⟩)⟩
        · exact absurd c157 (by omega)
      · refine zj_if_eq (t := 128) (zdk ttX11_readLaw 4 rfl rfl) (by decide) (by decide) (fun c173 => ?_) (fun c173 => ?_)
        · exact absurd c173 (by omega)
        · refine zj_iload_n (zdk ttX11_readLaw 5 rfl rfl) rfl ?_
          refine zj_bipush (zdk ttX11_readLaw 6 rfl rfl) (by decide) ?_
          refine zj_icmp_ne (t := 21) (zdk ttX11_readLaw 7 rfl rfl) (by decide) (by omega) (by decide) (fun c174 => ?_) (fun c174 => ?_)
          · refine zj_bipush (zdk ttX11_readLaw 12 rfl rfl) (by decide) ?_
            refine zj_iload_n (zdk ttX11_readLaw 13 rfl rfl) rfl ?_
            refine zj_iadd (zdk ttX11_readLaw 14 rfl rfl) ?_
            refine zj_istore_n (L' := [some (.inr 0), some (.inl x1), some (.inl (32 + x1))]) (zdk ttX11_readLaw 15 rfl rfl) (by decide) rfl ?_
            refine zj_aload_n (zdk ttX11_readLaw 16 rfl rfl) rfl (by decide) ?_
            refine zj_getr (r := 10) (zdk ttX11_readLaw 17 rfl rfl) zf_RX11_37 rfl (k_M s3) (rfM_18 s3) ?_
            refine zj_iload_n (zdk ttX11_readLaw 18 rfl rfl) rfl ?_
            refine zj_aload_n (zdk ttX11_readLaw 19 rfl rfl) rfl (by decide) ?_
            refine zj_geti (v := (h2.2 0 15)) (zdk ttX11_readLaw 20 rfl rfl) zf_RX11_169 rfl (k_M s3) rfl ?_
            refine zj_iast (zdk ttX11_readLaw 21 rfl rfl) (kaM_10 s3) (by decide) (by omega) (fun h175 e176 => ?_)
            refine zj_aload_n (zdk ttX11_readLaw 22 rfl rfl) rfl (by decide) ?_
            have s177 : okM h175 := awM_10 s3 e176 (by omega) (by unfold nsp; omega)
            refine zj_callV (av := []) (st := []) (zdk ttX11_readLaw 23 rfl rfl) mb_X11_reads mv_RX11_204 (ci := 11) rfl rfl (k_M s177) rfl rfl (Nat.le_of_ble_eq_true rfl) (s2_X11_reads l h175 s177) (rm_ok (by decide) (by decide)) (zq_v fun h180 q178 => ?_)
            obtain ⟨s182, f186, u183, u184, u185⟩ := q178
            refine zj_aload_n (zdk ttX11_readLaw 24 rfl rfl) rfl (by decide) ?_
            refine zj_getr (r := 11) (zdk ttX11_readLaw 25 rfl rfl) zf_RX11_40 rfl (k_M s182) (rfM_19 s182) ?_
            refine zj_iload_n (zdk ttX11_readLaw 26 rfl rfl) rfl ?_
            refine zj_aload_n (zdk ttX11_readLaw 27 rfl rfl) rfl (by decide) ?_
            have b187 : 0 ≤ (h2.2 0 25) ∧ (h2.2 0 25) ≤ 400 := fM_25 s3
            refine zj_geti (v := (h2.2 0 25)) (zdk ttX11_readLaw 28 rfl rfl) zf_RX11_191 rfl (k_M s182) ((zfr_f f186 rfl rfl).trans (zwr_r e176 (by omega))) ?_
            refine zj_iast (zdk ttX11_readLaw 29 rfl rfl) (kaM_11 s182) (by decide) (by omega) (fun h188 e189 => ?_)
            refine zj_aload_n (zdk ttX11_readLaw 30 rfl rfl) rfl (by decide) ?_
            have s190 : okM h188 := awM_11 s182 e189 (by omega) (by unfold nsp; omega)
            have r191B : rdB 0 h2 h175 := rdB_t (rdB_r h2) (rdB_st e176 (by decide)) (by omega)
            have b193 : h175.2 0 12 = (h2.2 0 12) := (zwr_r e176 (by omega))
            have b194 : 0 ≤ (h2.2 0 12) ∧ (h2.2 0 12) ≤ 400 := fM_12 s3
            have b195 : h175.2 0 13 = (h2.2 0 13) := (zwr_r e176 (by omega))
            have b196 : 0 ≤ (h2.2 0 13) ∧ (h2.2 0 13) ≤ 400 := fM_13 s3
            have b197 : h175.2 0 14 = (h2.2 0 14) := (zwr_r e176 (by omega))
            have b198 : h175.2 0 25 = (h2.2 0 25) := (zwr_r e176 (by omega))
            have b199 : 0 ≤ (h180.2 0 12) ∧ (h180.2 0 12) ≤ 400 := fM_12 s182
            have b200 : 0 ≤ (h180.2 0 13) ∧ (h180.2 0 13) ≤ 400 := fM_13 s182
            have b201 : 0 ≤ (h180.2 0 14) ∧ (h180.2 0 14) ≤ 4 := fM_14 s182
            have b202 : h180.2 0 25 = (h2.2 0 25) := ((zfr_f f186 rfl rfl).trans (zwr_r e176 (by omega)))
            have t203 : tok h175 := (tok_st u145 e176 (by decide))
            unfold tok at t203
            have r192B : rdB 1 h2 h180 := rdB_t r191B (rdB_same (s := 1) f186 rfl (by omega)) (by omega)
            have r204B : rdB 1 h2 h188 := rdB_t r192B (rdB_st e189 (by decide)) (by omega)
            have b205 := r204B.2
            refine zj_callV (av := []) (st := []) (zdk ttX11_readLaw 31 rfl rfl) mb_X11_readSum mv_RX11_217 (ci := 11) rfl rfl (k_M s190) rfl rfl (Nat.le_of_ble_eq_true rfl) (s2_X11_readSum l h188 s190 (tok_st u183 e189 (by decide)) (by omega)) (rm_ok (by decide) (by decide)) (zq_i fun v207 h208 q206 => ?_)
            obtain ⟨b209, s210, f213, u211, u212⟩ := q206
            refine zj_iconst (zdk ttX11_readLaw 32 rfl rfl) ?_
            refine zj_icmp_ne (t := 60) (zdk ttX11_readLaw 33 rfl rfl) (by decide) (by omega) (by decide) (fun c214 => ?_) (fun c214 => ?_)
            · refine zj_aload_n (zdk ttX11_readLaw 36 rfl rfl) rfl (by decide) ?_
              refine zj_getr (r := 12) (zdk ttX11_readLaw 37 rfl rfl) zf_RX11_43 rfl (k_M s210) (rfM_20 s210) ?_
              refine zj_iload_n (zdk ttX11_readLaw 38 rfl rfl) rfl ?_
              refine zj_aload_n (zdk ttX11_readLaw 39 rfl rfl) rfl (by decide) ?_
              have b215 : 0 ≤ (h208.2 0 25) ∧ (h208.2 0 25) ≤ 400 := fM_25 s210
              refine zj_geti (v := (h208.2 0 25)) (zdk ttX11_readLaw 40 rfl rfl) zf_RX11_191 rfl (k_M s210) rfl ?_
              refine zj_iast (zdk ttX11_readLaw 41 rfl rfl) (kaM_12 s210) (by decide) (by omega) (fun h216 e217 => ?_)
              refine zj_aload_n (zdk ttX11_readLaw 42 rfl rfl) rfl (by decide) ?_
              refine zj_iconst (zdk ttX11_readLaw 43 rfl rfl) ?_
              have s218 : okM h216 := awM_12 s210 e217 (by omega) (by unfold nsp; omega)
              refine zj_callV (av := [.inl 3]) (st := []) (zdk ttX11_readLaw 44 rfl rfl) mb_X11_isWord mv_RX11_226 (ci := 11) rfl rfl (k_M s218) rfl rfl (Nat.le_of_ble_eq_true rfl) (s_X11_isWord l h216 3 s218 (by omega)) (rm_ok (by decide) (by decide)) (zq_i fun v220 h221 q219 => ?_)
              obtain ⟨rfl, b223, b224, ⟨rfl, b222⟩ | ⟨rfl, b222⟩⟩ := q219
              · refine zj_if_eq (t := 92) (zdk ttX11_readLaw 45 rfl rfl) (by decide) (by decide) (fun c225 => ?_) (fun c225 => ?_)
                · refine zj_aload_n (zdk ttX11_readLaw 54 rfl rfl) rfl (by decide) ?_
                  refine zj_getr (r := 13) (zdk ttX11_readLaw 55 rfl rfl) zf_RX11_46 rfl (k_M s218) (rfM_21 s218) ?_
                  refine zj_iload_n (zdk ttX11_readLaw 56 rfl rfl) rfl ?_
                  refine zj_aload_n (zdk ttX11_readLaw 57 rfl rfl) rfl (by decide) ?_
                  refine zj_geti (v := (h208.2 0 25)) (zdk ttX11_readLaw 58 rfl rfl) zf_RX11_191 rfl (k_M s218) (zwr_r e217 (by omega)) ?_
                  refine zj_iast (zdk ttX11_readLaw 59 rfl rfl) (kaM_13 s218) (by decide) (by omega) (fun h226 e227 => ?_)
                  refine zj_aload_n (zdk ttX11_readLaw 60 rfl rfl) rfl (by decide) ?_
                  refine zj_bipush (zdk ttX11_readLaw 61 rfl rfl) (by decide) ?_
                  have s228 : okM h226 := awM_13 s218 e227 (by omega) (by unfold nsp; omega)
                  refine zj_callV (av := [.inl 59]) (st := []) (zdk ttX11_readLaw 62 rfl rfl) mb_X11_isSign mv_RX11_211 (ci := 11) rfl rfl (k_M s228) rfl rfl (Nat.le_of_ble_eq_true rfl) (s_X11_isSign l h226 59 s228 (by omega)) (rm_ok (by decide) (by decide)) (zq_i fun v230 h231 q229 => ?_)
                  obtain ⟨rfl, b233, b234, ⟨rfl, b232⟩ | ⟨rfl, b232⟩⟩ := q229
                  · refine zj_if_ne (t := 117) (zdk ttX11_readLaw 63 rfl rfl) (by decide) (by decide) (fun c235 => ?_) (fun c235 => ?_)
                    · exact absurd c235 (by omega)
                    · refine zj_aload_n (zdk ttX11_readLaw 64 rfl rfl) rfl (by decide) ?_
                      refine zj_iconst (zdk ttX11_readLaw 65 rfl rfl) ?_
                      refine zj_callV (av := [.inl 1]) (st := []) (zdk ttX11_readLaw 66 rfl rfl) mb_X11_errs mv_RX11_197 (ci := 11) rfl rfl (k_M s228) rfl rfl (Nat.le_of_ble_eq_true rfl) (s2_X11_errs l h226 1 s228 (by omega)) (rm_ok (by decide) (by decide)) (zq_i fun v237 h238 q236 => ?_)
                      obtain ⟨b239, s240, f242, u241⟩ := q236
                      have f249 : zfr [12, 13, 14, 15, 25, 26, 28, 29, 30] [10, 11, 12, 13, 14, 15, 16] h h175 := zfr_wa f4 e176 rfl
                      have f248 : zfr [12, 13, 14, 15, 25, 26, 28, 29, 30] [10, 11, 12, 13, 14, 15, 16] h h180 := zfr_t f249 f186 rfl rfl
                      have f247 : zfr [12, 13, 14, 15, 25, 26, 28, 29, 30] [10, 11, 12, 13, 14, 15, 16] h h188 := zfr_wa f248 e189 rfl
                      have f246 : zfr [12, 13, 14, 15, 25, 26, 28, 29, 30] [10, 11, 12, 13, 14, 15, 16] h h208 := zfr_t f247 f213 rfl rfl
                      have f245 : zfr [12, 13, 14, 15, 25, 26, 28, 29, 30] [10, 11, 12, 13, 14, 15, 16] h h216 := zfr_wa f246 e217 rfl
                      have f244 : zfr [12, 13, 14, 15, 25, 26, 28, 29, 30] [10, 11, 12, 13, 14, 15, 16] h h226 := zfr_wa f245 e227 rfl
                      have f243 : zfr [12, 13, 14, 15, 25, 26, 28, 29, 30] [10, 11, 12, 13, 14, 15, 16] h h238 := zfr_t f244 f242 rfl rfl
                      have b250 : 0 ≤ (h.2 0 14) ∧ (h.2 0 14) ≤ 4 := fM_14 s0
                      have b251 : -2147483648 ≤ (h.2 0 15) ∧ (h.2 0 15) ≤ 2147483647 := fM_15 s0
                      have b252 : h175.2 0 14 = (h2.2 0 14) := (zwr_r e176 (by omega))
                      have b253 : h175.2 0 15 = (h2.2 0 15) := (zwr_r e176 (by omega))
                      have b254 : -2147483648 ≤ (h180.2 0 15) ∧ (h180.2 0 15) ≤ 2147483647 := fM_15 s182
                      have b255 : h188.2 0 14 = (h180.2 0 14) := (zwr_r e189 (by omega))
                      have b256 : h188.2 0 15 = (h180.2 0 15) := (zwr_r e189 (by omega))
                      have b257 : 0 ≤ (h208.2 0 14) ∧ (h208.2 0 14) ≤ 4 := fM_14 s210
                      have b258 : -2147483648 ≤ (h208.2 0 15) ∧ (h208.2 0 15) ≤ 2147483647 := fM_15 s210
                      have b259 : h216.2 0 14 = (h208.2 0 14) := (zwr_r e217 (by omega))
                      have b260 : h216.2 0 15 = (h208.2 0 15) := (zwr_r e217 (by omega))
                      have b261 : h226.2 0 14 = (h208.2 0 14) := ((zwr_r e227 (by omega)).trans (zwr_r e217 (by omega)))
                      have b262 : h226.2 0 15 = (h208.2 0 15) := ((zwr_r e227 (by omega)).trans (zwr_r e217 (by omega)))
                      have b263 : h238.2 0 14 = (h208.2 0 14) := (((zfr_f f242 rfl rfl).trans (zwr_r e227 (by omega))).trans (zwr_r e217 (by omega)))
                      have b264 : h238.2 0 15 = (h208.2 0 15) := (((zfr_f f242 rfl rfl).trans (zwr_r e227 (by omega))).trans (zwr_r e217 (by omega)))
                      exact zj_iret rfl (zdk ttX11_readLaw 67 rfl rfl) (Nat.le_refl _) (Nat.le_refl _) ⟨v237, rfl, by omega, s240, f243, (fun q => absurd q (by omega)), (by intro T t0 o0; obtain ⟨xj, xa, xo, xr⟩ := u148 T t0 o0; have k_1 := tT0 xa.2.2.1; have k_1j := xa.1.1; have a_2 : tPm 0 T xj h175 := tPm_f xa (fun k => (zwr_r e176 (by omega))) (fun k => (zwr_r e176 (by omega))) (zwr_r e176 (by omega)) (zwr_r e176 (by omega)) (zwr_r e176 (by omega)) (zwr_r e176 (by omega)) (zwr_r e176 (by omega)); have k_3 := tT0 a_2.2.2.1; have k_3j := a_2.1.1; have a_4 : tPm 0 T (xj + 1) h180 := tPm_r a_2 (by omega) (u185 a_2.2.2.2.2.2.1 (tPm_l a_2 (by omega))) (fun k => (zfr_a f186 rfl (by decide))) (fun k => (zfr_a f186 rfl (by decide))) (zfr_f f186 rfl rfl); have k_5 := tT0 a_4.2.2.1; have k_5j := a_4.1.1; have a_6 : tPm 0 T (xj + 1) h188 := tPm_f a_4 (fun k => (zwr_r e189 (by omega))) (fun k => (zwr_r e189 (by omega))) (zwr_r e189 (by omega)) (zwr_r e189 (by omega)) (zwr_r e189 (by omega)) (zwr_r e189 (by omega)) (zwr_r e189 (by omega)); obtain ⟨r_7j, r_7a, r_7l, r_7r⟩ := (u212 T (xj + 1) a_6).1 (by omega); have k_8 := tT0 r_7a.2.2.1; have k_8j := r_7a.1.1; have a_9 : tPm 0 T r_7j h216 := tPm_f r_7a (fun k => (zwr_r e217 (by omega))) (fun k => (zwr_r e217 (by omega))) (zwr_r e217 (by omega)) (zwr_r e217 (by omega)) (zwr_r e217 (by omega)) (zwr_r e217 (by omega)) (zwr_r e217 (by omega)); have a_10 : tPm 0 T r_7j h226 := tPm_f a_9 (fun k => (zwr_r e227 (by omega))) (fun k => (zwr_r e227 (by omega))) (zwr_r e227 (by omega)) (zwr_r e227 (by omega)) (zwr_r e227 (by omega)) (zwr_r e227 (by omega)) (zwr_r e227 (by omega)); have e_11 : tEp h h238 r_7j 1 := ⟨u241.1, a_10.1.1, by have q9 := a_10.2.1; rw [show h226.2 7 = h.2 7 from funext fun i9 => (((((((zwr_r e227 (by omega)).trans (zwr_r e217 (by omega))).trans (zfr_a f213 rfl (by decide))).trans (zwr_r e189 (by omega))).trans (zfr_a f186 rfl (by decide))).trans (zwr_r e176 (by omega))).trans (zfr_a f4 rfl (by decide))), show h226.2 0 11 = h.2 0 11 from (((((((zwr_r e227 (by omega)).trans (zwr_r e217 (by omega))).trans (zfr_f f213 rfl rfl)).trans (zwr_r e189 (by omega))).trans (zfr_f f186 rfl rfl)).trans (zwr_r e176 (by omega))).trans (zfr_f f4 rfl rfl))] at q9; rw [u241.2]; exact q9⟩; exact ⟨fun z => absurd z (by omega), fun _ => ⟨r_7j, _, e_11, fun p9 => tRe_s (tRe_s (tRe_t (tRe_s (xr p9) (tM2_l (by omega) (by omega))) (r_7r p9 [100, x1 + 1000])) (tM5_v (by omega))) (tM10_n (by omega))⟩⟩)⟩
                  · refine zj_if_ne (t := 117) (zdk ttX11_readLaw 63 rfl rfl) (by decide) (by decide) (fun c265 => ?_) (fun c265 => ?_)
                    · refine zj_aload_n (zdk ttX11_readLaw 68 rfl rfl) rfl (by decide) ?_
                      refine zj_callV (av := []) (st := []) (zdk ttX11_readLaw 69 rfl rfl) mb_X11_reads mv_RX11_204 (ci := 11) rfl rfl (k_M s228) rfl rfl (Nat.le_of_ble_eq_true rfl) (s2_X11_reads l h226 s228) (rm_ok (by decide) (by decide)) (zq_v fun h268 q266 => ?_)
                      obtain ⟨s270, f274, u271, u272, u273⟩ := q266
                      refine zj_iload_n (zdk ttX11_readLaw 70 rfl rfl) rfl ?_
                      refine zj_iconst (zdk ttX11_readLaw 71 rfl rfl) ?_
                      refine zj_iadd (zdk ttX11_readLaw 72 rfl rfl) ?_
                      refine zj_istore_n (L' := [some (.inr 0), some (.inl (x1 + 1)), some (.inl (32 + x1))]) (zdk ttX11_readLaw 73 rfl rfl) (by decide) rfl ?_
                      refine zj_goto (t := 2) (zdk ttX11_readLaw 74 rfl rfl) (by decide) ?_
                      refine zj_kill (k := 2) (L' := [some (.inr 0), some (.inl (x1 + 1)), none]) rfl ?_
                      have b275 : 0 ≤ (h268.2 0 12) ∧ (h268.2 0 12) ≤ 400 := fM_12 s270
                      have b276 : 0 ≤ (h268.2 0 13) ∧ (h268.2 0 13) ≤ 400 := fM_13 s270
                      have b277 : 0 ≤ (h268.2 0 14) ∧ (h268.2 0 14) ≤ 4 := fM_14 s270
                      have b278 : h268.2 0 25 = (h208.2 0 25) := (((zfr_f f274 rfl rfl).trans (zwr_r e227 (by omega))).trans (zwr_r e217 (by omega)))
                      have f285 : zfr [12, 13, 14, 15, 25, 26, 28, 29, 30] [10, 11, 12, 13, 14, 15, 16] h h175 := zfr_wa f4 e176 rfl
                      have f284 : zfr [12, 13, 14, 15, 25, 26, 28, 29, 30] [10, 11, 12, 13, 14, 15, 16] h h180 := zfr_t f285 f186 rfl rfl
                      have f283 : zfr [12, 13, 14, 15, 25, 26, 28, 29, 30] [10, 11, 12, 13, 14, 15, 16] h h188 := zfr_wa f284 e189 rfl
                      have f282 : zfr [12, 13, 14, 15, 25, 26, 28, 29, 30] [10, 11, 12, 13, 14, 15, 16] h h208 := zfr_t f283 f213 rfl rfl
                      have f281 : zfr [12, 13, 14, 15, 25, 26, 28, 29, 30] [10, 11, 12, 13, 14, 15, 16] h h216 := zfr_wa f282 e217 rfl
                      have f280 : zfr [12, 13, 14, 15, 25, 26, 28, 29, 30] [10, 11, 12, 13, 14, 15, 16] h h226 := zfr_wa f281 e227 rfl
                      have f279 : zfr [12, 13, 14, 15, 25, 26, 28, 29, 30] [10, 11, 12, 13, 14, 15, 16] h h268 := zfr_t f280 f274 rfl rfl
                      have r287 := u211 (by omega)
                      have r287b := r287.2.1.2
                      have r287t := r287.1
                      unfold tok at r287t
                      have r286B : rdB 1 h2 h208 := rdB_t r204B r287.2.1 (by omega)
                      have r288B : rdB 1 h2 h216 := rdB_t r286B (rdB_st e217 (by decide)) (by omega)
                      have r289B : rdB 1 h2 h226 := rdB_t r288B (rdB_st e227 (by decide)) (by omega)
                      have b291 : h226.2 0 12 = (h208.2 0 12) := ((zwr_r e227 (by omega)).trans (zwr_r e217 (by omega)))
                      have b292 : 0 ≤ (h208.2 0 12) ∧ (h208.2 0 12) ≤ 400 := fM_12 s210
                      have b293 : h226.2 0 13 = (h208.2 0 13) := ((zwr_r e227 (by omega)).trans (zwr_r e217 (by omega)))
                      have b294 : 0 ≤ (h208.2 0 13) ∧ (h208.2 0 13) ≤ 400 := fM_13 s210
                      have b295 : h226.2 0 14 = (h208.2 0 14) := ((zwr_r e227 (by omega)).trans (zwr_r e217 (by omega)))
                      have b296 : 0 ≤ (h208.2 0 14) ∧ (h208.2 0 14) ≤ 4 := fM_14 s210
                      have b297 : h226.2 0 25 = (h208.2 0 25) := ((zwr_r e227 (by omega)).trans (zwr_r e217 (by omega)))
                      have b298 : h268.2 0 25 = (h208.2 0 25) := (((zfr_f f274 rfl rfl).trans (zwr_r e227 (by omega))).trans (zwr_r e217 (by omega)))
                      have t299 : tok h226 := (tok_st (tok_st r287.1 e217 (by decide)) e227 (by decide))
                      unfold tok at t299
                      have r290B : rdB 2 h2 h268 := rdB_t r289B (rdB_same (s := 1) f274 rfl (by omega)) (by omega)
                      have b300 := r290B.2
                      have z301o : ∀ l, 0 ≤ l → l < x1 → h268.2 11 (32 + l) = h2.2 11 (32 + l) ∧ h268.2 12 (32 + l) = h2.2 12 (32 + l) ∧ h268.2 13 (32 + l) = h2.2 13 (32 + l) := fun l l1 l2 => ⟨(((((((zfr_a f274 rfl (by decide)).trans (zwr_r e227 (by omega))).trans (zwr_r e217 (by omega))).trans (zfr_a f213 rfl (by decide))).trans (zwr_r e189 (by omega))).trans (zfr_a f186 rfl (by decide))).trans (zwr_r e176 (by omega))), (((((((zfr_a f274 rfl (by decide)).trans (zwr_r e227 (by omega))).trans (zwr_r e217 (by omega))).trans (zfr_a f213 rfl (by decide))).trans (zwr_r e189 (by omega))).trans (zfr_a f186 rfl (by decide))).trans (zwr_r e176 (by omega))), (((((((zfr_a f274 rfl (by decide)).trans (zwr_r e227 (by omega))).trans (zwr_r e217 (by omega))).trans (zfr_a f213 rfl (by decide))).trans (zwr_r e189 (by omega))).trans (zfr_a f186 rfl (by decide))).trans (zwr_r e176 (by omega)))⟩
                      have r302B : rdB 0 h208 h216 := rdB_t (rdB_r h208) (rdB_st e217 (by decide)) (by omega)
                      have r303B : rdB 0 h208 h226 := rdB_t r302B (rdB_st e227 (by decide)) (by omega)
                      have r304B : rdB 1 h208 h268 := rdB_t r303B (rdB_same (s := 1) f274 rfl (by omega)) (by omega)
                      have b305 : h188.2 0 25 = (h2.2 0 25) := (((zwr_r e189 (by omega)).trans (zfr_f f186 rfl rfl)).trans (zwr_r e176 (by omega)))
                      have z3011 : wfS (dop h268) (dar h268) (h2.2 0 25) (h208.2 0 25) := Or.inr (by rw [show (h2.2 0 25) = h188.2 0 25 by omega, show (h208.2 0 25) = h208.2 0 25 by omega]; exact wfP_up r304B (by omega) (rdP_seg r287.2.2))
                      have z3012 : wfS (dop h268) (dar h268) (h208.2 0 25) (h208.2 0 25) := Or.inl (by omega)
                      have b306 := r304B.2
                      have b307 : h268.2 0 25 = (h208.2 0 25) := (((zfr_f f274 rfl rfl).trans (zwr_r e227 (by omega))).trans (zwr_r e217 (by omega)))
                      have b308 : 0 ≤ (h.2 0 14) ∧ (h.2 0 14) ≤ 4 := fM_14 s0
                      have b309 : -2147483648 ≤ (h.2 0 15) ∧ (h.2 0 15) ≤ 2147483647 := fM_15 s0
                      have b310 : h175.2 0 14 = (h2.2 0 14) := (zwr_r e176 (by omega))
                      have b311 : h175.2 0 15 = (h2.2 0 15) := (zwr_r e176 (by omega))
                      have b312 : -2147483648 ≤ (h180.2 0 15) ∧ (h180.2 0 15) ≤ 2147483647 := fM_15 s182
                      have b313 : h188.2 0 14 = (h180.2 0 14) := (zwr_r e189 (by omega))
                      have b314 : h188.2 0 15 = (h180.2 0 15) := (zwr_r e189 (by omega))
                      have b315 : -2147483648 ≤ (h208.2 0 15) ∧ (h208.2 0 15) ≤ 2147483647 := fM_15 s210
                      have b316 : h216.2 0 14 = (h208.2 0 14) := (zwr_r e217 (by omega))
                      have b317 : h216.2 0 15 = (h208.2 0 15) := (zwr_r e217 (by omega))
                      have b318 : h226.2 0 14 = (h208.2 0 14) := ((zwr_r e227 (by omega)).trans (zwr_r e217 (by omega)))
                      have b319 : h226.2 0 15 = (h208.2 0 15) := ((zwr_r e227 (by omega)).trans (zwr_r e217 (by omega)))
                      have b320 : -2147483648 ≤ (h268.2 0 15) ∧ (h268.2 0 15) ≤ 2147483647 := fM_15 s270
                      exact ih150  (x1 + 1) h268 (by omega) s270 f279 u271 (by omega) (zLn_s u147 r290B z301o (((((zfr_a f274 rfl (by decide)).trans (zwr_r e227 (by omega))).trans (zwr_r e217 (by omega))).trans (zfr_a f213 rfl (by decide))).trans (zwr_v e189)) (((zfr_a f274 rfl (by decide)).trans (zwr_r e227 (by omega))).trans (zwr_v e217)) ((zfr_a f274 rfl (by decide)).trans (zwr_v e227)) z3011 z3012 (by omega)) (by intro T t0 o0; obtain ⟨xj, xa, xo, xr⟩ := u148 T t0 o0; have k_1 := tT0 xa.2.2.1; have k_1j := xa.1.1; have a_2 : tPm 0 T xj h175 := tPm_f xa (fun k => (zwr_r e176 (by omega))) (fun k => (zwr_r e176 (by omega))) (zwr_r e176 (by omega)) (zwr_r e176 (by omega)) (zwr_r e176 (by omega)) (zwr_r e176 (by omega)) (zwr_r e176 (by omega)); have k_3 := tT0 a_2.2.2.1; have k_3j := a_2.1.1; have a_4 : tPm 0 T (xj + 1) h180 := tPm_r a_2 (by omega) (u185 a_2.2.2.2.2.2.1 (tPm_l a_2 (by omega))) (fun k => (zfr_a f186 rfl (by decide))) (fun k => (zfr_a f186 rfl (by decide))) (zfr_f f186 rfl rfl); have k_5 := tT0 a_4.2.2.1; have k_5j := a_4.1.1; have a_6 : tPm 0 T (xj + 1) h188 := tPm_f a_4 (fun k => (zwr_r e189 (by omega))) (fun k => (zwr_r e189 (by omega))) (zwr_r e189 (by omega)) (zwr_r e189 (by omega)) (zwr_r e189 (by omega)) (zwr_r e189 (by omega)) (zwr_r e189 (by omega)); obtain ⟨r_7j, r_7a, r_7l, r_7r⟩ := (u212 T (xj + 1) a_6).1 (by omega); have k_8 := tT0 r_7a.2.2.1; have k_8j := r_7a.1.1; have a_9 : tPm 0 T r_7j h216 := tPm_f r_7a (fun k => (zwr_r e217 (by omega))) (fun k => (zwr_r e217 (by omega))) (zwr_r e217 (by omega)) (zwr_r e217 (by omega)) (zwr_r e217 (by omega)) (zwr_r e217 (by omega)) (zwr_r e217 (by omega)); have a_10 : tPm 0 T r_7j h226 := tPm_f a_9 (fun k => (zwr_r e227 (by omega))) (fun k => (zwr_r e227 (by omega))) (zwr_r e227 (by omega)) (zwr_r e227 (by omega)) (zwr_r e227 (by omega)) (zwr_r e227 (by omega)) (zwr_r e227 (by omega)); have k_11 := tT0 a_10.2.2.1; have k_11j := a_10.1.1; have a_12 : tPm 0 T (r_7j + 1) h268 := tPm_r a_10 (by omega) (u273 a_10.2.2.2.2.2.1 (tPm_l a_10 (by omega))) (fun k => (zfr_a f274 rfl (by decide))) (fun k => (zfr_a f274 rfl (by decide))) (zfr_f f274 rfl rfl); exact ⟨(r_7j + 1), a_12, ((((((((zfr_f f274 rfl rfl).trans (zwr_r e227 (by omega))).trans (zwr_r e217 (by omega))).trans (zfr_f f213 rfl rfl)).trans (zwr_r e189 (by omega))).trans (zfr_f f186 rfl rfl)).trans (zwr_r e176 (by omega)))).trans xo, fun p9 => by have q9 := tRe_s (tRe_s (tRe_t (tRe_s (xr p9) (tM2_l (by omega) (by omega))) (r_7r p9 [100, x1 + 1000])) (tM5_v (by omega))) (tM10_y (by omega)); rw [show x1 + 1000 - 1000 + 1 = x1 + 1 by omega] at q9; exact q9⟩) (by omega)
                    · exact absurd c265 (by omega)
                · exact absurd c225 (by omega)
              · refine zj_if_eq (t := 92) (zdk ttX11_readLaw 45 rfl rfl) (by decide) (by decide) (fun c321 => ?_) (fun c321 => ?_)
                · exact absurd c321 (by omega)
                · refine zj_aload_n (zdk ttX11_readLaw 46 rfl rfl) rfl (by decide) ?_
                  refine zj_callV (av := []) (st := []) (zdk ttX11_readLaw 47 rfl rfl) mb_X11_reads mv_RX11_204 (ci := 11) rfl rfl (k_M s218) rfl rfl (Nat.le_of_ble_eq_true rfl) (s2_X11_reads l h216 s218) (rm_ok (by decide) (by decide)) (zq_v fun h324 q322 => ?_)
                  obtain ⟨s326, f330, u327, u328, u329⟩ := q322
                  refine zj_aload_n (zdk ttX11_readLaw 48 rfl rfl) rfl (by decide) ?_
                  have r332 := u211 (by omega)
                  have r332b := r332.2.1.2
                  have r332t := r332.1
                  unfold tok at r332t
                  have r331B : rdB 1 h2 h208 := rdB_t r204B r332.2.1 (by omega)
                  have r333B : rdB 1 h2 h216 := rdB_t r331B (rdB_st e217 (by decide)) (by omega)
                  have b335 : h216.2 0 12 = (h208.2 0 12) := (zwr_r e217 (by omega))
                  have b336 : 0 ≤ (h208.2 0 12) ∧ (h208.2 0 12) ≤ 400 := fM_12 s210
                  have b337 : h216.2 0 13 = (h208.2 0 13) := (zwr_r e217 (by omega))
                  have b338 : 0 ≤ (h208.2 0 13) ∧ (h208.2 0 13) ≤ 400 := fM_13 s210
                  have b339 : h216.2 0 14 = (h208.2 0 14) := (zwr_r e217 (by omega))
                  have b340 : 0 ≤ (h208.2 0 14) ∧ (h208.2 0 14) ≤ 4 := fM_14 s210
                  have b341 : h216.2 0 25 = (h208.2 0 25) := (zwr_r e217 (by omega))
                  have b342 : 0 ≤ (h324.2 0 12) ∧ (h324.2 0 12) ≤ 400 := fM_12 s326
                  have b343 : 0 ≤ (h324.2 0 13) ∧ (h324.2 0 13) ≤ 400 := fM_13 s326
                  have b344 : 0 ≤ (h324.2 0 14) ∧ (h324.2 0 14) ≤ 4 := fM_14 s326
                  have b345 : h324.2 0 25 = (h208.2 0 25) := ((zfr_f f330 rfl rfl).trans (zwr_r e217 (by omega)))
                  have t346 : tok h216 := (tok_st r332.1 e217 (by decide))
                  unfold tok at t346
                  have r334B : rdB 2 h2 h324 := rdB_t r333B (rdB_same (s := 1) f330 rfl (by omega)) (by omega)
                  have b347 := r334B.2
                  refine zj_callV (av := []) (st := []) (zdk ttX11_readLaw 49 rfl rfl) mb_X11_readAny mv_RX11_242 (ci := 11) rfl rfl (k_M s326) rfl rfl (Nat.le_of_ble_eq_true rfl) (s2_X11_readAny l h324 s326 u327 (by omega)) (rm_ok (by decide) (by decide)) (zq_i fun v349 h350 q348 => ?_)
                  obtain ⟨b351, s352, f356, u353, u354, u355⟩ := q348
                  refine zj_iconst (zdk ttX11_readLaw 50 rfl rfl) ?_
                  refine zj_icmp_ne (t := 92) (zdk ttX11_readLaw 51 rfl rfl) (by decide) (by omega) (by decide) (fun c357 => ?_) (fun c357 => ?_)
                  · refine zj_aload_n (zdk ttX11_readLaw 54 rfl rfl) rfl (by decide) ?_
                    refine zj_getr (r := 13) (zdk ttX11_readLaw 55 rfl rfl) zf_RX11_46 rfl (k_M s352) (rfM_21 s352) ?_
                    refine zj_iload_n (zdk ttX11_readLaw 56 rfl rfl) rfl ?_
                    refine zj_aload_n (zdk ttX11_readLaw 57 rfl rfl) rfl (by decide) ?_
                    have b358 : 0 ≤ (h350.2 0 25) ∧ (h350.2 0 25) ≤ 400 := fM_25 s352
                    refine zj_geti (v := (h350.2 0 25)) (zdk ttX11_readLaw 58 rfl rfl) zf_RX11_191 rfl (k_M s352) rfl ?_
                    refine zj_iast (zdk ttX11_readLaw 59 rfl rfl) (kaM_13 s352) (by decide) (by omega) (fun h359 e360 => ?_)
                    refine zj_aload_n (zdk ttX11_readLaw 60 rfl rfl) rfl (by decide) ?_
                    refine zj_bipush (zdk ttX11_readLaw 61 rfl rfl) (by decide) ?_
                    have s361 : okM h359 := awM_13 s352 e360 (by omega) (by unfold nsp; omega)
                    refine zj_callV (av := [.inl 59]) (st := []) (zdk ttX11_readLaw 62 rfl rfl) mb_X11_isSign mv_RX11_211 (ci := 11) rfl rfl (k_M s361) rfl rfl (Nat.le_of_ble_eq_true rfl) (s_X11_isSign l h359 59 s361 (by omega)) (rm_ok (by decide) (by decide)) (zq_i fun v363 h364 q362 => ?_)
                    obtain ⟨rfl, b366, b367, ⟨rfl, b365⟩ | ⟨rfl, b365⟩⟩ := q362
                    · refine zj_if_ne (t := 117) (zdk ttX11_readLaw 63 rfl rfl) (by decide) (by decide) (fun c368 => ?_) (fun c368 => ?_)
                      · exact absurd c368 (by omega)
                      · refine zj_aload_n (zdk ttX11_readLaw 64 rfl rfl) rfl (by decide) ?_
                        refine zj_iconst (zdk ttX11_readLaw 65 rfl rfl) ?_
                        refine zj_callV (av := [.inl 1]) (st := []) (zdk ttX11_readLaw 66 rfl rfl) mb_X11_errs mv_RX11_197 (ci := 11) rfl rfl (k_M s361) rfl rfl (Nat.le_of_ble_eq_true rfl) (s2_X11_errs l h359 1 s361 (by omega)) (rm_ok (by decide) (by decide)) (zq_i fun v370 h371 q369 => ?_)
                        obtain ⟨b372, s373, f375, u374⟩ := q369
                        have f384 : zfr [12, 13, 14, 15, 25, 26, 28, 29, 30] [10, 11, 12, 13, 14, 15, 16] h h175 := zfr_wa f4 e176 rfl
                        have f383 : zfr [12, 13, 14, 15, 25, 26, 28, 29, 30] [10, 11, 12, 13, 14, 15, 16] h h180 := zfr_t f384 f186 rfl rfl
                        have f382 : zfr [12, 13, 14, 15, 25, 26, 28, 29, 30] [10, 11, 12, 13, 14, 15, 16] h h188 := zfr_wa f383 e189 rfl
                        have f381 : zfr [12, 13, 14, 15, 25, 26, 28, 29, 30] [10, 11, 12, 13, 14, 15, 16] h h208 := zfr_t f382 f213 rfl rfl
                        have f380 : zfr [12, 13, 14, 15, 25, 26, 28, 29, 30] [10, 11, 12, 13, 14, 15, 16] h h216 := zfr_wa f381 e217 rfl
                        have f379 : zfr [12, 13, 14, 15, 25, 26, 28, 29, 30] [10, 11, 12, 13, 14, 15, 16] h h324 := zfr_t f380 f330 rfl rfl
                        have f378 : zfr [12, 13, 14, 15, 25, 26, 28, 29, 30] [10, 11, 12, 13, 14, 15, 16] h h350 := zfr_t f379 f356 rfl rfl
                        have f377 : zfr [12, 13, 14, 15, 25, 26, 28, 29, 30] [10, 11, 12, 13, 14, 15, 16] h h359 := zfr_wa f378 e360 rfl
                        have f376 : zfr [12, 13, 14, 15, 25, 26, 28, 29, 30] [10, 11, 12, 13, 14, 15, 16] h h371 := zfr_t f377 f375 rfl rfl
                        have b385 : 0 ≤ (h.2 0 14) ∧ (h.2 0 14) ≤ 4 := fM_14 s0
                        have b386 : -2147483648 ≤ (h.2 0 15) ∧ (h.2 0 15) ≤ 2147483647 := fM_15 s0
                        have b387 : h175.2 0 14 = (h2.2 0 14) := (zwr_r e176 (by omega))
                        have b388 : h175.2 0 15 = (h2.2 0 15) := (zwr_r e176 (by omega))
                        have b389 : -2147483648 ≤ (h180.2 0 15) ∧ (h180.2 0 15) ≤ 2147483647 := fM_15 s182
                        have b390 : h188.2 0 14 = (h180.2 0 14) := (zwr_r e189 (by omega))
                        have b391 : h188.2 0 15 = (h180.2 0 15) := (zwr_r e189 (by omega))
                        have b392 : -2147483648 ≤ (h208.2 0 15) ∧ (h208.2 0 15) ≤ 2147483647 := fM_15 s210
                        have b393 : h216.2 0 14 = (h208.2 0 14) := (zwr_r e217 (by omega))
                        have b394 : h216.2 0 15 = (h208.2 0 15) := (zwr_r e217 (by omega))
                        have b395 : -2147483648 ≤ (h324.2 0 15) ∧ (h324.2 0 15) ≤ 2147483647 := fM_15 s326
                        have b396 : 0 ≤ (h350.2 0 14) ∧ (h350.2 0 14) ≤ 4 := fM_14 s352
                        have b397 : -2147483648 ≤ (h350.2 0 15) ∧ (h350.2 0 15) ≤ 2147483647 := fM_15 s352
                        have b398 : h359.2 0 14 = (h350.2 0 14) := (zwr_r e360 (by omega))
                        have b399 : h359.2 0 15 = (h350.2 0 15) := (zwr_r e360 (by omega))
                        have b400 : h371.2 0 14 = (h350.2 0 14) := ((zfr_f f375 rfl rfl).trans (zwr_r e360 (by omega)))
                        have b401 : h371.2 0 15 = (h350.2 0 15) := ((zfr_f f375 rfl rfl).trans (zwr_r e360 (by omega)))
                        exact zj_iret rfl (zdk ttX11_readLaw 67 rfl rfl) (Nat.le_refl _) (Nat.le_refl _) ⟨v370, rfl, by omega, s373, f376, (fun q => absurd q (by omega)), (by intro T t0 o0; obtain ⟨xj, xa, xo, xr⟩ := u148 T t0 o0; have k_1 := tT0 xa.2.2.1; have k_1j := xa.1.1; have a_2 : tPm 0 T xj h175 := tPm_f xa (fun k => (zwr_r e176 (by omega))) (fun k => (zwr_r e176 (by omega))) (zwr_r e176 (by omega)) (zwr_r e176 (by omega)) (zwr_r e176 (by omega)) (zwr_r e176 (by omega)) (zwr_r e176 (by omega)); have k_3 := tT0 a_2.2.2.1; have k_3j := a_2.1.1; have a_4 : tPm 0 T (xj + 1) h180 := tPm_r a_2 (by omega) (u185 a_2.2.2.2.2.2.1 (tPm_l a_2 (by omega))) (fun k => (zfr_a f186 rfl (by decide))) (fun k => (zfr_a f186 rfl (by decide))) (zfr_f f186 rfl rfl); have k_5 := tT0 a_4.2.2.1; have k_5j := a_4.1.1; have a_6 : tPm 0 T (xj + 1) h188 := tPm_f a_4 (fun k => (zwr_r e189 (by omega))) (fun k => (zwr_r e189 (by omega))) (zwr_r e189 (by omega)) (zwr_r e189 (by omega)) (zwr_r e189 (by omega)) (zwr_r e189 (by omega)) (zwr_r e189 (by omega)); obtain ⟨r_7j, r_7a, r_7l, r_7r⟩ := (u212 T (xj + 1) a_6).1 (by omega); have k_8 := tT0 r_7a.2.2.1; have k_8j := r_7a.1.1; have a_9 : tPm 0 T r_7j h216 := tPm_f r_7a (fun k => (zwr_r e217 (by omega))) (fun k => (zwr_r e217 (by omega))) (zwr_r e217 (by omega)) (zwr_r e217 (by omega)) (zwr_r e217 (by omega)) (zwr_r e217 (by omega)) (zwr_r e217 (by omega)); have k_10 := tT0 a_9.2.2.1; have k_10j := a_9.1.1; have a_11 : tPm 0 T (r_7j + 1) h324 := tPm_r a_9 (by omega) (u329 a_9.2.2.2.2.2.1 (tPm_l a_9 (by omega))) (fun k => (zfr_a f330 rfl (by decide))) (fun k => (zfr_a f330 rfl (by decide))) (zfr_f f330 rfl rfl); obtain ⟨r_12j, r_12a, r_12l, r_12r⟩ := (u355 T (r_7j + 1) a_11).1 (by omega); have k_13 := tT0 r_12a.2.2.1; have k_13j := r_12a.1.1; have a_14 : tPm 0 T r_12j h359 := tPm_f r_12a (fun k => (zwr_r e360 (by omega))) (fun k => (zwr_r e360 (by omega))) (zwr_r e360 (by omega)) (zwr_r e360 (by omega)) (zwr_r e360 (by omega)) (zwr_r e360 (by omega)) (zwr_r e360 (by omega)); have e_15 : tEp h h371 r_12j 1 := ⟨u374.1, a_14.1.1, by have q9 := a_14.2.1; rw [show h359.2 7 = h.2 7 from funext fun i9 => (((((((((zwr_r e360 (by omega)).trans (zfr_a f356 rfl (by decide))).trans (zfr_a f330 rfl (by decide))).trans (zwr_r e217 (by omega))).trans (zfr_a f213 rfl (by decide))).trans (zwr_r e189 (by omega))).trans (zfr_a f186 rfl (by decide))).trans (zwr_r e176 (by omega))).trans (zfr_a f4 rfl (by decide))), show h359.2 0 11 = h.2 0 11 from (((((((((zwr_r e360 (by omega)).trans (zfr_f f356 rfl rfl)).trans (zfr_f f330 rfl rfl)).trans (zwr_r e217 (by omega))).trans (zfr_f f213 rfl rfl)).trans (zwr_r e189 (by omega))).trans (zfr_f f186 rfl rfl)).trans (zwr_r e176 (by omega))).trans (zfr_f f4 rfl rfl))] at q9; rw [u374.2]; exact q9⟩; exact ⟨fun z => absurd z (by omega), fun _ => ⟨r_12j, _, e_15, fun p9 => tRe_s (tRe_s (tRe_t (tRe_s (tRe_t (tRe_s (xr p9) (tM2_l (by omega) (by omega))) (r_7r p9 [100, x1 + 1000])) (tM5_w (by omega))) (r_12r p9 [90, x1 + 1000] ((tOpn_90 (by omega)).trans ((((((((zfr_f f330 rfl rfl).trans (zwr_r e217 (by omega))).trans (zfr_f f213 rfl rfl)).trans (zwr_r e189 (by omega))).trans (zfr_f f186 rfl rfl)).trans (zwr_r e176 (by omega)))).trans xo).symm) rfl)) tM12_z) (tM10_n (by omega))⟩⟩)⟩
                    · refine zj_if_ne (t := 117) (zdk ttX11_readLaw 63 rfl rfl) (by decide) (by decide) (fun c402 => ?_) (fun c402 => ?_)
                      · refine zj_aload_n (zdk ttX11_readLaw 68 rfl rfl) rfl (by decide) ?_
                        refine zj_callV (av := []) (st := []) (zdk ttX11_readLaw 69 rfl rfl) mb_X11_reads mv_RX11_204 (ci := 11) rfl rfl (k_M s361) rfl rfl (Nat.le_of_ble_eq_true rfl) (s2_X11_reads l h359 s361) (rm_ok (by decide) (by decide)) (zq_v fun h405 q403 => ?_)
                        obtain ⟨s407, f411, u408, u409, u410⟩ := q403
                        refine zj_iload_n (zdk ttX11_readLaw 70 rfl rfl) rfl ?_
                        refine zj_iconst (zdk ttX11_readLaw 71 rfl rfl) ?_
                        refine zj_iadd (zdk ttX11_readLaw 72 rfl rfl) ?_
                        refine zj_istore_n (L' := [some (.inr 0), some (.inl (x1 + 1)), some (.inl (32 + x1))]) (zdk ttX11_readLaw 73 rfl rfl) (by decide) rfl ?_
                        refine zj_goto (t := 2) (zdk ttX11_readLaw 74 rfl rfl) (by decide) ?_
                        refine zj_kill (k := 2) (L' := [some (.inr 0), some (.inl (x1 + 1)), none]) rfl ?_
                        have b412 : 0 ≤ (h405.2 0 12) ∧ (h405.2 0 12) ≤ 400 := fM_12 s407
                        have b413 : 0 ≤ (h405.2 0 13) ∧ (h405.2 0 13) ≤ 400 := fM_13 s407
                        have b414 : 0 ≤ (h405.2 0 14) ∧ (h405.2 0 14) ≤ 4 := fM_14 s407
                        have b415 : h405.2 0 25 = (h350.2 0 25) := ((zfr_f f411 rfl rfl).trans (zwr_r e360 (by omega)))
                        have f424 : zfr [12, 13, 14, 15, 25, 26, 28, 29, 30] [10, 11, 12, 13, 14, 15, 16] h h175 := zfr_wa f4 e176 rfl
                        have f423 : zfr [12, 13, 14, 15, 25, 26, 28, 29, 30] [10, 11, 12, 13, 14, 15, 16] h h180 := zfr_t f424 f186 rfl rfl
                        have f422 : zfr [12, 13, 14, 15, 25, 26, 28, 29, 30] [10, 11, 12, 13, 14, 15, 16] h h188 := zfr_wa f423 e189 rfl
                        have f421 : zfr [12, 13, 14, 15, 25, 26, 28, 29, 30] [10, 11, 12, 13, 14, 15, 16] h h208 := zfr_t f422 f213 rfl rfl
                        have f420 : zfr [12, 13, 14, 15, 25, 26, 28, 29, 30] [10, 11, 12, 13, 14, 15, 16] h h216 := zfr_wa f421 e217 rfl
                        have f419 : zfr [12, 13, 14, 15, 25, 26, 28, 29, 30] [10, 11, 12, 13, 14, 15, 16] h h324 := zfr_t f420 f330 rfl rfl
                        have f418 : zfr [12, 13, 14, 15, 25, 26, 28, 29, 30] [10, 11, 12, 13, 14, 15, 16] h h350 := zfr_t f419 f356 rfl rfl
                        have f417 : zfr [12, 13, 14, 15, 25, 26, 28, 29, 30] [10, 11, 12, 13, 14, 15, 16] h h359 := zfr_wa f418 e360 rfl
                        have f416 : zfr [12, 13, 14, 15, 25, 26, 28, 29, 30] [10, 11, 12, 13, 14, 15, 16] h h405 := zfr_t f417 f411 rfl rfl
                        have r426 := u353 (by omega)
                        have r426b := r426.2.1.2
                        have r426t := r426.1
                        unfold tok at r426t
                        have r425B : rdB 2 h2 h350 := rdB_t r334B r426.2.1 (by omega)
                        have r427B : rdB 2 h2 h359 := rdB_t r425B (rdB_st e360 (by decide)) (by omega)
                        have b429 : h359.2 0 12 = (h350.2 0 12) := (zwr_r e360 (by omega))
                        have b430 : 0 ≤ (h350.2 0 12) ∧ (h350.2 0 12) ≤ 400 := fM_12 s352
                        have b431 : h359.2 0 13 = (h350.2 0 13) := (zwr_r e360 (by omega))
                        have b432 : 0 ≤ (h350.2 0 13) ∧ (h350.2 0 13) ≤ 400 := fM_13 s352
                        have b433 : h359.2 0 14 = (h350.2 0 14) := (zwr_r e360 (by omega))
                        have b434 : 0 ≤ (h350.2 0 14) ∧ (h350.2 0 14) ≤ 4 := fM_14 s352
                        have b435 : h359.2 0 25 = (h350.2 0 25) := (zwr_r e360 (by omega))
                        have b436 : h405.2 0 25 = (h350.2 0 25) := ((zfr_f f411 rfl rfl).trans (zwr_r e360 (by omega)))
                        have t437 : tok h359 := (tok_st r426.1 e360 (by decide))
                        unfold tok at t437
                        have r428B : rdB 3 h2 h405 := rdB_t r427B (rdB_same (s := 1) f411 rfl (by omega)) (by omega)
                        have b438 := r428B.2
                        have z439o : ∀ l, 0 ≤ l → l < x1 → h405.2 11 (32 + l) = h2.2 11 (32 + l) ∧ h405.2 12 (32 + l) = h2.2 12 (32 + l) ∧ h405.2 13 (32 + l) = h2.2 13 (32 + l) := fun l l1 l2 => ⟨(((((((((zfr_a f411 rfl (by decide)).trans (zwr_r e360 (by omega))).trans (zfr_a f356 rfl (by decide))).trans (zfr_a f330 rfl (by decide))).trans (zwr_r e217 (by omega))).trans (zfr_a f213 rfl (by decide))).trans (zwr_r e189 (by omega))).trans (zfr_a f186 rfl (by decide))).trans (zwr_r e176 (by omega))), (((((((((zfr_a f411 rfl (by decide)).trans (zwr_r e360 (by omega))).trans (zfr_a f356 rfl (by decide))).trans (zfr_a f330 rfl (by decide))).trans (zwr_r e217 (by omega))).trans (zfr_a f213 rfl (by decide))).trans (zwr_r e189 (by omega))).trans (zfr_a f186 rfl (by decide))).trans (zwr_r e176 (by omega))), (((((((((zfr_a f411 rfl (by decide)).trans (zwr_r e360 (by omega))).trans (zfr_a f356 rfl (by decide))).trans (zfr_a f330 rfl (by decide))).trans (zwr_r e217 (by omega))).trans (zfr_a f213 rfl (by decide))).trans (zwr_r e189 (by omega))).trans (zfr_a f186 rfl (by decide))).trans (zwr_r e176 (by omega)))⟩
                        have r440B : rdB 0 h208 h216 := rdB_t (rdB_r h208) (rdB_st e217 (by decide)) (by omega)
                        have r441B : rdB 1 h208 h324 := rdB_t r440B (rdB_same (s := 1) f330 rfl (by omega)) (by omega)
                        have r442B : rdB 1 h208 h350 := rdB_t r441B r426.2.1 (by omega)
                        have r443B : rdB 1 h208 h359 := rdB_t r442B (rdB_st e360 (by decide)) (by omega)
                        have r444B : rdB 2 h208 h405 := rdB_t r443B (rdB_same (s := 1) f411 rfl (by omega)) (by omega)
                        have b445 : h188.2 0 25 = (h2.2 0 25) := (((zwr_r e189 (by omega)).trans (zfr_f f186 rfl rfl)).trans (zwr_r e176 (by omega)))
                        have z4391 : wfS (dop h405) (dar h405) (h2.2 0 25) (h208.2 0 25) := Or.inr (by rw [show (h2.2 0 25) = h188.2 0 25 by omega, show (h208.2 0 25) = h208.2 0 25 by omega]; exact wfP_up r444B (by omega) (rdP_seg r332.2.2))
                        have r446B : rdB 0 h350 h359 := rdB_t (rdB_r h350) (rdB_st e360 (by decide)) (by omega)
                        have r447B : rdB 1 h350 h405 := rdB_t r446B (rdB_same (s := 1) f411 rfl (by omega)) (by omega)
                        have b448 : h324.2 0 25 = (h208.2 0 25) := ((zfr_f f330 rfl rfl).trans (zwr_r e217 (by omega)))
                        have z4392 : wfS (dop h405) (dar h405) (h208.2 0 25) (h350.2 0 25) := Or.inr (by rw [show (h208.2 0 25) = h324.2 0 25 by omega, show (h350.2 0 25) = h350.2 0 25 by omega]; exact wfP_up r447B (by omega) (rdP_seg r426.2.2))
                        have b449 := r447B.2
                        have b450 : h405.2 0 25 = (h350.2 0 25) := ((zfr_f f411 rfl rfl).trans (zwr_r e360 (by omega)))
                        have b451 : 0 ≤ (h.2 0 14) ∧ (h.2 0 14) ≤ 4 := fM_14 s0
                        have b452 : -2147483648 ≤ (h.2 0 15) ∧ (h.2 0 15) ≤ 2147483647 := fM_15 s0
                        have b453 : h175.2 0 14 = (h2.2 0 14) := (zwr_r e176 (by omega))
                        have b454 : h175.2 0 15 = (h2.2 0 15) := (zwr_r e176 (by omega))
                        have b455 : -2147483648 ≤ (h180.2 0 15) ∧ (h180.2 0 15) ≤ 2147483647 := fM_15 s182
                        have b456 : h188.2 0 14 = (h180.2 0 14) := (zwr_r e189 (by omega))
                        have b457 : h188.2 0 15 = (h180.2 0 15) := (zwr_r e189 (by omega))
                        have b458 : -2147483648 ≤ (h208.2 0 15) ∧ (h208.2 0 15) ≤ 2147483647 := fM_15 s210
                        have b459 : h216.2 0 14 = (h208.2 0 14) := (zwr_r e217 (by omega))
                        have b460 : h216.2 0 15 = (h208.2 0 15) := (zwr_r e217 (by omega))
                        have b461 : -2147483648 ≤ (h324.2 0 15) ∧ (h324.2 0 15) ≤ 2147483647 := fM_15 s326
                        have b462 : -2147483648 ≤ (h350.2 0 15) ∧ (h350.2 0 15) ≤ 2147483647 := fM_15 s352
                        have b463 : h359.2 0 14 = (h350.2 0 14) := (zwr_r e360 (by omega))
                        have b464 : h359.2 0 15 = (h350.2 0 15) := (zwr_r e360 (by omega))
                        have b465 : -2147483648 ≤ (h405.2 0 15) ∧ (h405.2 0 15) ≤ 2147483647 := fM_15 s407
                        exact ih150  (x1 + 1) h405 (by omega) s407 f416 u408 (by omega) (zLn_s u147 r428B z439o (((((((zfr_a f411 rfl (by decide)).trans (zwr_r e360 (by omega))).trans (zfr_a f356 rfl (by decide))).trans (zfr_a f330 rfl (by decide))).trans (zwr_r e217 (by omega))).trans (zfr_a f213 rfl (by decide))).trans (zwr_v e189)) (((((zfr_a f411 rfl (by decide)).trans (zwr_r e360 (by omega))).trans (zfr_a f356 rfl (by decide))).trans (zfr_a f330 rfl (by decide))).trans (zwr_v e217)) ((zfr_a f411 rfl (by decide)).trans (zwr_v e360)) z4391 z4392 (by omega)) (by intro T t0 o0; obtain ⟨xj, xa, xo, xr⟩ := u148 T t0 o0; have k_1 := tT0 xa.2.2.1; have k_1j := xa.1.1; have a_2 : tPm 0 T xj h175 := tPm_f xa (fun k => (zwr_r e176 (by omega))) (fun k => (zwr_r e176 (by omega))) (zwr_r e176 (by omega)) (zwr_r e176 (by omega)) (zwr_r e176 (by omega)) (zwr_r e176 (by omega)) (zwr_r e176 (by omega)); have k_3 := tT0 a_2.2.2.1; have k_3j := a_2.1.1; have a_4 : tPm 0 T (xj + 1) h180 := tPm_r a_2 (by omega) (u185 a_2.2.2.2.2.2.1 (tPm_l a_2 (by omega))) (fun k => (zfr_a f186 rfl (by decide))) (fun k => (zfr_a f186 rfl (by decide))) (zfr_f f186 rfl rfl); have k_5 := tT0 a_4.2.2.1; have k_5j := a_4.1.1; have a_6 : tPm 0 T (xj + 1) h188 := tPm_f a_4 (fun k => (zwr_r e189 (by omega))) (fun k => (zwr_r e189 (by omega))) (zwr_r e189 (by omega)) (zwr_r e189 (by omega)) (zwr_r e189 (by omega)) (zwr_r e189 (by omega)) (zwr_r e189 (by omega)); obtain ⟨r_7j, r_7a, r_7l, r_7r⟩ := (u212 T (xj + 1) a_6).1 (by omega); have k_8 := tT0 r_7a.2.2.1; have k_8j := r_7a.1.1; have a_9 : tPm 0 T r_7j h216 := tPm_f r_7a (fun k => (zwr_r e217 (by omega))) (fun k => (zwr_r e217 (by omega))) (zwr_r e217 (by omega)) (zwr_r e217 (by omega)) (zwr_r e217 (by omega)) (zwr_r e217 (by omega)) (zwr_r e217 (by omega)); have k_10 := tT0 a_9.2.2.1; have k_10j := a_9.1.1; have a_11 : tPm 0 T (r_7j + 1) h324 := tPm_r a_9 (by omega) (u329 a_9.2.2.2.2.2.1 (tPm_l a_9 (by omega))) (fun k => (zfr_a f330 rfl (by decide))) (fun k => (zfr_a f330 rfl (by decide))) (zfr_f f330 rfl rfl); obtain ⟨r_12j, r_12a, r_12l, r_12r⟩ := (u355 T (r_7j + 1) a_11).1 (by omega); have k_13 := tT0 r_12a.2.2.1; have k_13j := r_12a.1.1; have a_14 : tPm 0 T r_12j h359 := tPm_f r_12a (fun k => (zwr_r e360 (by omega))) (fun k => (zwr_r e360 (by omega))) (zwr_r e360 (by omega)) (zwr_r e360 (by omega)) (zwr_r e360 (by omega)) (zwr_r e360 (by omega)) (zwr_r e360 (by omega)); have k_15 := tT0 a_14.2.2.1; have k_15j := a_14.1.1; have a_16 : tPm 0 T (r_12j + 1) h405 := tPm_r a_14 (by omega) (u410 a_14.2.2.2.2.2.1 (tPm_l a_14 (by omega))) (fun k => (zfr_a f411 rfl (by decide))) (fun k => (zfr_a f411 rfl (by decide))) (zfr_f f411 rfl rfl); exact ⟨(r_12j + 1), a_16, ((((((((((zfr_f f411 rfl rfl).trans (zwr_r e360 (by omega))).trans (u354 (by omega))).trans (zfr_f f330 rfl rfl)).trans (zwr_r e217 (by omega))).trans (zfr_f f213 rfl rfl)).trans (zwr_r e189 (by omega))).trans (zfr_f f186 rfl rfl)).trans (zwr_r e176 (by omega)))).trans xo, fun p9 => by have q9 := tRe_s (tRe_s (tRe_t (tRe_s (tRe_t (tRe_s (xr p9) (tM2_l (by omega) (by omega))) (r_7r p9 [100, x1 + 1000])) (tM5_w (by omega))) (r_12r p9 [90, x1 + 1000] ((tOpn_90 (by omega)).trans ((((((((zfr_f f330 rfl rfl).trans (zwr_r e217 (by omega))).trans (zfr_f f213 rfl rfl)).trans (zwr_r e189 (by omega))).trans (zfr_f f186 rfl rfl)).trans (zwr_r e176 (by omega)))).trans xo).symm) rfl)) tM12_z) (tM10_y (by omega)); rw [show x1 + 1000 - 1000 + 1 = x1 + 1 by omega] at q9; exact q9⟩) (by omega)
                      · exact absurd c402 (by omega)
                  · refine zj_iconst (zdk ttX11_readLaw 52 rfl rfl) ?_
                    have f472 : zfr [12, 13, 14, 15, 25, 26, 28, 29, 30] [10, 11, 12, 13, 14, 15, 16] h h175 := zfr_wa f4 e176 rfl
                    have f471 : zfr [12, 13, 14, 15, 25, 26, 28, 29, 30] [10, 11, 12, 13, 14, 15, 16] h h180 := zfr_t f472 f186 rfl rfl
                    have f470 : zfr [12, 13, 14, 15, 25, 26, 28, 29, 30] [10, 11, 12, 13, 14, 15, 16] h h188 := zfr_wa f471 e189 rfl
                    have f469 : zfr [12, 13, 14, 15, 25, 26, 28, 29, 30] [10, 11, 12, 13, 14, 15, 16] h h208 := zfr_t f470 f213 rfl rfl
                    have f468 : zfr [12, 13, 14, 15, 25, 26, 28, 29, 30] [10, 11, 12, 13, 14, 15, 16] h h216 := zfr_wa f469 e217 rfl
                    have f467 : zfr [12, 13, 14, 15, 25, 26, 28, 29, 30] [10, 11, 12, 13, 14, 15, 16] h h324 := zfr_t f468 f330 rfl rfl
                    have f466 : zfr [12, 13, 14, 15, 25, 26, 28, 29, 30] [10, 11, 12, 13, 14, 15, 16] h h350 := zfr_t f467 f356 rfl rfl
                    have b473 : 0 ≤ (h.2 0 14) ∧ (h.2 0 14) ≤ 4 := fM_14 s0
                    have b474 : -2147483648 ≤ (h.2 0 15) ∧ (h.2 0 15) ≤ 2147483647 := fM_15 s0
                    have b475 : h175.2 0 14 = (h2.2 0 14) := (zwr_r e176 (by omega))
                    have b476 : h175.2 0 15 = (h2.2 0 15) := (zwr_r e176 (by omega))
                    have b477 : -2147483648 ≤ (h180.2 0 15) ∧ (h180.2 0 15) ≤ 2147483647 := fM_15 s182
                    have b478 : h188.2 0 14 = (h180.2 0 14) := (zwr_r e189 (by omega))
                    have b479 : h188.2 0 15 = (h180.2 0 15) := (zwr_r e189 (by omega))
                    have b480 : -2147483648 ≤ (h208.2 0 15) ∧ (h208.2 0 15) ≤ 2147483647 := fM_15 s210
                    have b481 : h216.2 0 14 = (h208.2 0 14) := (zwr_r e217 (by omega))
                    have b482 : h216.2 0 15 = (h208.2 0 15) := (zwr_r e217 (by omega))
                    have b483 : -2147483648 ≤ (h324.2 0 15) ∧ (h324.2 0 15) ≤ 2147483647 := fM_15 s326
                    have b484 : 0 ≤ (h350.2 0 14) ∧ (h350.2 0 14) ≤ 4 := fM_14 s352
                    have b485 : -2147483648 ≤ (h350.2 0 15) ∧ (h350.2 0 15) ≤ 2147483647 := fM_15 s352
                    exact zj_iret rfl (zdk ttX11_readLaw 53 rfl rfl) (Nat.le_refl _) (Nat.le_refl _) ⟨(-1), rfl, by omega, s352, f466, (fun q => absurd q (by omega)), (by intro T t0 o0; obtain ⟨xj, xa, xo, xr⟩ := u148 T t0 o0; have k_1 := tT0 xa.2.2.1; have k_1j := xa.1.1; have a_2 : tPm 0 T xj h175 := tPm_f xa (fun k => (zwr_r e176 (by omega))) (fun k => (zwr_r e176 (by omega))) (zwr_r e176 (by omega)) (zwr_r e176 (by omega)) (zwr_r e176 (by omega)) (zwr_r e176 (by omega)) (zwr_r e176 (by omega)); have k_3 := tT0 a_2.2.2.1; have k_3j := a_2.1.1; have a_4 : tPm 0 T (xj + 1) h180 := tPm_r a_2 (by omega) (u185 a_2.2.2.2.2.2.1 (tPm_l a_2 (by omega))) (fun k => (zfr_a f186 rfl (by decide))) (fun k => (zfr_a f186 rfl (by decide))) (zfr_f f186 rfl rfl); have k_5 := tT0 a_4.2.2.1; have k_5j := a_4.1.1; have a_6 : tPm 0 T (xj + 1) h188 := tPm_f a_4 (fun k => (zwr_r e189 (by omega))) (fun k => (zwr_r e189 (by omega))) (zwr_r e189 (by omega)) (zwr_r e189 (by omega)) (zwr_r e189 (by omega)) (zwr_r e189 (by omega)) (zwr_r e189 (by omega)); obtain ⟨r_7j, r_7a, r_7l, r_7r⟩ := (u212 T (xj + 1) a_6).1 (by omega); have k_8 := tT0 r_7a.2.2.1; have k_8j := r_7a.1.1; have a_9 : tPm 0 T r_7j h216 := tPm_f r_7a (fun k => (zwr_r e217 (by omega))) (fun k => (zwr_r e217 (by omega))) (zwr_r e217 (by omega)) (zwr_r e217 (by omega)) (zwr_r e217 (by omega)) (zwr_r e217 (by omega)) (zwr_r e217 (by omega)); have k_10 := tT0 a_9.2.2.1; have k_10j := a_9.1.1; have a_11 : tPm 0 T (r_7j + 1) h324 := tPm_r a_9 (by omega) (u329 a_9.2.2.2.2.2.1 (tPm_l a_9 (by omega))) (fun k => (zfr_a f330 rfl (by decide))) (fun k => (zfr_a f330 rfl (by decide))) (zfr_f f330 rfl rfl); obtain ⟨e_12i, e_12f, e_12p, e_12r⟩ := (u355 T (r_7j + 1) a_11).2 (by omega); have e_12q : tEp h h350 e_12i e_12f := (by have q9 := e_12p; unfold tEp at q9 ⊢; rw [show h324.2 7 = h.2 7 from funext fun i9 => (((((((zfr_a f330 rfl (by decide)).trans (zwr_r e217 (by omega))).trans (zfr_a f213 rfl (by decide))).trans (zwr_r e189 (by omega))).trans (zfr_a f186 rfl (by decide))).trans (zwr_r e176 (by omega))).trans (zfr_a f4 rfl (by decide))), show h324.2 0 11 = h.2 0 11 from (((((((zfr_f f330 rfl rfl).trans (zwr_r e217 (by omega))).trans (zfr_f f213 rfl rfl)).trans (zwr_r e189 (by omega))).trans (zfr_f f186 rfl rfl)).trans (zwr_r e176 (by omega))).trans (zfr_f f4 rfl rfl))] at q9; exact q9); exact ⟨fun z => absurd z (by omega), fun _ => ⟨e_12i, e_12f, e_12q, fun p9 => tRe_t (tRe_s (tRe_t (tRe_s (xr p9) (tM2_l (by omega) (by omega))) (r_7r p9 [100, x1 + 1000])) (tM5_w (by omega))) (e_12r p9 [90, x1 + 1000] ((tOpn_90 (by omega)).trans ((((((((zfr_f f330 rfl rfl).trans (zwr_r e217 (by omega))).trans (zfr_f f213 rfl rfl)).trans (zwr_r e189 (by omega))).trans (zfr_f f186 rfl rfl)).trans (zwr_r e176 (by omega)))).trans xo).symm) rfl)⟩⟩)⟩
            · refine zj_iconst (zdk ttX11_readLaw 34 rfl rfl) ?_
              have f489 : zfr [12, 13, 14, 15, 25, 26, 28, 29, 30] [10, 11, 12, 13, 14, 15, 16] h h175 := zfr_wa f4 e176 rfl
              have f488 : zfr [12, 13, 14, 15, 25, 26, 28, 29, 30] [10, 11, 12, 13, 14, 15, 16] h h180 := zfr_t f489 f186 rfl rfl
              have f487 : zfr [12, 13, 14, 15, 25, 26, 28, 29, 30] [10, 11, 12, 13, 14, 15, 16] h h188 := zfr_wa f488 e189 rfl
              have f486 : zfr [12, 13, 14, 15, 25, 26, 28, 29, 30] [10, 11, 12, 13, 14, 15, 16] h h208 := zfr_t f487 f213 rfl rfl
              have b490 : 0 ≤ (h.2 0 14) ∧ (h.2 0 14) ≤ 4 := fM_14 s0
              have b491 : -2147483648 ≤ (h.2 0 15) ∧ (h.2 0 15) ≤ 2147483647 := fM_15 s0
              have b492 : h175.2 0 14 = (h2.2 0 14) := (zwr_r e176 (by omega))
              have b493 : h175.2 0 15 = (h2.2 0 15) := (zwr_r e176 (by omega))
              have b494 : -2147483648 ≤ (h180.2 0 15) ∧ (h180.2 0 15) ≤ 2147483647 := fM_15 s182
              have b495 : h188.2 0 14 = (h180.2 0 14) := (zwr_r e189 (by omega))
              have b496 : h188.2 0 15 = (h180.2 0 15) := (zwr_r e189 (by omega))
              have b497 : 0 ≤ (h208.2 0 14) ∧ (h208.2 0 14) ≤ 4 := fM_14 s210
              have b498 : -2147483648 ≤ (h208.2 0 15) ∧ (h208.2 0 15) ≤ 2147483647 := fM_15 s210
              exact zj_iret rfl (zdk ttX11_readLaw 35 rfl rfl) (Nat.le_refl _) (Nat.le_refl _) ⟨(-1), rfl, by omega, s210, f486, (fun q => absurd q (by omega)), (by intro T t0 o0; obtain ⟨xj, xa, xo, xr⟩ := u148 T t0 o0; have k_1 := tT0 xa.2.2.1; have k_1j := xa.1.1; have a_2 : tPm 0 T xj h175 := tPm_f xa (fun k => (zwr_r e176 (by omega))) (fun k => (zwr_r e176 (by omega))) (zwr_r e176 (by omega)) (zwr_r e176 (by omega)) (zwr_r e176 (by omega)) (zwr_r e176 (by omega)) (zwr_r e176 (by omega)); have k_3 := tT0 a_2.2.2.1; have k_3j := a_2.1.1; have a_4 : tPm 0 T (xj + 1) h180 := tPm_r a_2 (by omega) (u185 a_2.2.2.2.2.2.1 (tPm_l a_2 (by omega))) (fun k => (zfr_a f186 rfl (by decide))) (fun k => (zfr_a f186 rfl (by decide))) (zfr_f f186 rfl rfl); have k_5 := tT0 a_4.2.2.1; have k_5j := a_4.1.1; have a_6 : tPm 0 T (xj + 1) h188 := tPm_f a_4 (fun k => (zwr_r e189 (by omega))) (fun k => (zwr_r e189 (by omega))) (zwr_r e189 (by omega)) (zwr_r e189 (by omega)) (zwr_r e189 (by omega)) (zwr_r e189 (by omega)) (zwr_r e189 (by omega)); obtain ⟨e_7i, e_7f, e_7p, e_7r⟩ := (u212 T (xj + 1) a_6).2 (by omega); have e_7q : tEp h h208 e_7i e_7f := (by have q9 := e_7p; unfold tEp at q9 ⊢; rw [show h188.2 7 = h.2 7 from funext fun i9 => ((((zwr_r e189 (by omega)).trans (zfr_a f186 rfl (by decide))).trans (zwr_r e176 (by omega))).trans (zfr_a f4 rfl (by decide))), show h188.2 0 11 = h.2 0 11 from ((((zwr_r e189 (by omega)).trans (zfr_f f186 rfl rfl)).trans (zwr_r e176 (by omega))).trans (zfr_f f4 rfl rfl))] at q9; exact q9); exact ⟨fun z => absurd z (by omega), fun _ => ⟨e_7i, e_7f, e_7q, fun p9 => tRe_t (tRe_s (xr p9) (tM2_l (by omega) (by omega))) (e_7r p9 [100, x1 + 1000])⟩⟩)⟩
          · refine zj_aload_n (zdk ttX11_readLaw 8 rfl rfl) rfl (by decide) ?_
            refine zj_iconst (zdk ttX11_readLaw 9 rfl rfl) ?_
            refine zj_callV (av := [.inl 3]) (st := []) (zdk ttX11_readLaw 10 rfl rfl) mb_X11_errs mv_RX11_197 (ci := 11) rfl rfl (k_M s3) rfl rfl (Nat.le_of_ble_eq_true rfl) (s2_X11_errs l h2 3 s3 (by omega)) (rm_ok (by decide) (by decide)) (zq_i fun v500 h501 q499 => ?_)
            obtain ⟨b502, s503, f505, u504⟩ := q499
            have f506 : zfr [12, 13, 14, 15, 25, 26, 28, 29, 30] [10, 11, 12, 13, 14, 15, 16] h h501 := zfr_t f4 f505 rfl rfl
            have b507 : 0 ≤ (h.2 0 14) ∧ (h.2 0 14) ≤ 4 := fM_14 s0
            have b508 : -2147483648 ≤ (h.2 0 15) ∧ (h.2 0 15) ≤ 2147483647 := fM_15 s0
            have b509 : h501.2 0 14 = (h2.2 0 14) := (zfr_f f505 rfl rfl)
            have b510 : h501.2 0 15 = (h2.2 0 15) := (zfr_f f505 rfl rfl)
            exact zj_iret rfl (zdk ttX11_readLaw 11 rfl rfl) (Nat.le_refl _) (Nat.le_refl _) ⟨v500, rfl, by omega, s503, f506, (fun q => absurd q (by omega)), (by intro T t0 o0; obtain ⟨xj, xa, xo, xr⟩ := u148 T t0 o0; have k_1 := tT0 xa.2.2.1; have k_1j := xa.1.1; have e_2 : tEp h h501 xj 3 := ⟨u504.1, xa.1.1, by have q9 := xa.2.1; rw [show h2.2 7 = h.2 7 from funext fun i9 => (zfr_a f4 rfl (by decide)), show h2.2 0 11 = h.2 0 11 from (zfr_f f4 rfl rfl)] at q9; rw [u504.2]; exact q9⟩; exact ⟨fun z => absurd z (by omega), fun _ => ⟨xj, _, e_2, fun p9 => by first | exact tRe_s (xr p9) (tM2_3 (by omega) (by omega)) | exact tRe_s (xr p9) (tM2_1 (by omega) (by omega))⟩⟩)⟩
  have b511 : 0 ≤ (h.2 0 12) ∧ (h.2 0 12) ≤ 400 := fM_12 s0
  have b512 : 0 ≤ (h.2 0 13) ∧ (h.2 0 13) ≤ 400 := fM_13 s0
  have b513 : 0 ≤ (h.2 0 14) ∧ (h.2 0 14) ≤ 4 := fM_14 s0
  have b514 : 0 ≤ (h.2 0 25) ∧ (h.2 0 25) ≤ 400 := fM_25 s0
  have b515 : -2147483648 ≤ (h.2 0 15) ∧ (h.2 0 15) ≤ 2147483647 := fM_15 s0
  exact lp143 _ 0 h (by omega) s0 (zfr_r _ _ _) u_0 u_1 (fun l q1 q2 => absurd q1 (by omega)) (by intro T t0 o0; exact ⟨0, t0, o0, fun p9 => tRe_r⟩) (Nat.lt_succ_self _)

