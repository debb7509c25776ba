abbrev q2_X11_readAny (h : zM) : Option zV → zM → Prop := zqi fun v h' => ((-1) ≤ v ∧ v ≤ 0) ∧ okM h' ∧ zfr [12, 13, 14, 15, 25, 26, 28, 29, 30] [14, 15, 16] h h' ∧ (v = 0 → RD h h') ∧ (tLo h h') ∧ (v = 0 → h'.2 0 26 = h.2 0 26) ∧ (∀ T j, tPm 0 T j h → (v = 0 → ∃ j9, tPm 0 T j9 h' ∧ j ≤ j9 ∧ ∀ p9 s9 d9, tOpn s9 = h.2 0 26 → tHd s9 = 90 → tRe T p9 (8, j, 0, s9, tCm h, d9) (12, j9, 0, s9, tCm h', d9)) ∧ (v = -1 → ∃ i9 f9, tEp h h' i9 f9 ∧ ∀ p9 s9 d9, tOpn s9 = h.2 0 26 → tHd s9 = 90 → tRe T p9 (8, j, 0, s9, tCm h, d9) (tEr i9 f9)))
set_option maxRecDepth 100000 in
set_option maxHeartbeats 4000000 in
theorem s2_X11_readAny (l : Launch) (h : zM) (s0 : okM h) (u_0 : tok h) (u_1 : h.2 0 25 ≤ h.2 0 13) : zT shM l yX11_readAny cX11_readAny 4 (some .int) (rmL 8) 0 0 [.inr 0] h (q2_X11_readAny h) := by
  refine zT_of (by decide +kernel) (L0 := [some (.inr 0), none, none, none]) rfl (Nat.le_of_ble_eq_true rfl) ?_
  have b26 := fM_26 s0
  have b13 := fM_13 s0
  refine zj_iconst (zdk ttX11_readAny 0 rfl rfl) ?_
  refine zj_istore_n (L' := [some (.inr 0), some (.inl 0), none, none]) (zdk ttX11_readAny 1 rfl rfl) (by decide) rfl ?_
  refine zj_aload_n (zdk ttX11_readAny 2 rfl rfl) rfl (by decide) ?_
  refine zj_iconst (zdk ttX11_readAny 3 rfl rfl) ?_
  refine zj_puti (zdk ttX11_readAny 4 rfl rfl) zf_RX11_220 rfl (k_M s0) (Or.inl zw_RX11_220) (k2 := 28) rfl (fun h1 e2 => ?_)
  refine zj_iconst (zdk ttX11_readAny 5 rfl rfl) ?_
  refine zj_istore_n (L' := [some (.inr 0), some (.inl 0), some (.inl 1), none]) (zdk ttX11_readAny 6 rfl rfl) (by decide) rfl ?_
  have lp302 : ∀ (n9 : Nat) (x3 x4 : Int) (h5 : zM), (0 ≤ x3 ∧ x3 ≤ 8) → (0 ≤ x4 ∧ x4 ≤ 1) → okM h5 → zfr [12, 13, 14, 15, 25, 26, 28, 29, 30] [14, 15, 16] h h5 → (tok h5) → (zAny h h5 x3 x4) → (tLo h h5) → (∀ T j, tPm 0 T j h → ∃ j9, tPm 0 T j9 h5 ∧ j ≤ j9 ∧ ∀ p9 s9 d9, tOpn s9 = h.2 0 26 → tHd s9 = 90 → tRe T p9 (8, j, 0, s9, tCm h, d9) ((if x4 = 0 then 9 else 8), j9, 0, tSk (h5.2 16) (h5.2 0 28).toNat ++ s9, tCm h5, d9)) → (2 * (401 - (h5.2 0 13)) + x4).toNat < n9 → zJ shM l yX11_readAny cX11_readAny 4 (some .int) (rmL 8) 0 0 (q2_X11_readAny h) 0 0 9 [some (.inr 0), some (.inl x3), some (.inl x4), none] [] h5 := by
    intro n9
    induction n9 with
    | zero => intro x3 x4 h5 b303 b304 s6 f7 u305 u306 u307 u308 m309; exact absurd m309 (Nat.not_lt_zero _)
    | succ n9 ih310 =>
      intro x3 x4 h5 b303 b304 s6 f7 u305 u306 u307 u308 m309
      have b311 := zAny_f u306
      have b311r := zAny_br u306
      have b312 : 0 ≤ (h5.2 0 12) ∧ (h5.2 0 12) ≤ 400 := fM_12 s6
      have b313 : 0 ≤ (h5.2 0 13) ∧ (h5.2 0 13) ≤ 400 := fM_13 s6
      have b314 : 0 ≤ (h5.2 0 14) ∧ (h5.2 0 14) ≤ 4 := fM_14 s6
      have b315 : 0 ≤ (h5.2 0 25) ∧ (h5.2 0 25) ≤ 400 := fM_25 s6
      have b316 : 0 ≤ (h5.2 0 26) ∧ (h5.2 0 26) ≤ 8 := fM_26 s6
      have b317 : 0 ≤ (h5.2 0 28) ∧ (h5.2 0 28) ≤ 40 := fM_28 s6
      refine zj_iload_n (zdk ttX11_readAny 7 rfl rfl) rfl ?_
      refine zj_if_eq (t := 109) (zdk ttX11_readAny 8 rfl rfl) (by decide) (by omega) (fun c318 => ?_) (fun c318 => ?_)
      · refine zj_aload_n (zdk ttX11_readAny 61 rfl rfl) rfl (by decide) ?_
        refine zj_iconst (zdk ttX11_readAny 62 rfl rfl) ?_
        refine zj_callV (av := [.inl 5]) (st := []) (zdk ttX11_readAny 63 rfl rfl) mb_X11_isWord mv_RX11_226 (ci := 11) rfl rfl (k_M s6) rfl rfl (Nat.le_of_ble_eq_true rfl) (s_X11_isWord l h5 5 s6 (by omega)) (rm_ok (by decide) (by decide)) (zq_i fun v320 h321 q319 => ?_)
        obtain ⟨rfl, b323, b324, ⟨rfl, b322⟩ | ⟨rfl, b322⟩⟩ := q319
        · refine zj_if_eq (t := 138) (zdk ttX11_readAny 64 rfl rfl) (by decide) (by decide) (fun c325 => ?_) (fun c325 => ?_)
          · refine zj_aload_n (zdk ttX11_readAny 76 rfl rfl) rfl (by decide) ?_
            refine zj_iconst (zdk ttX11_readAny 77 rfl rfl) ?_
            refine zj_callV (av := [.inl 4]) (st := []) (zdk ttX11_readAny 78 rfl rfl) mb_X11_isWord mv_RX11_226 (ci := 11) rfl rfl (k_M s6) rfl rfl (Nat.le_of_ble_eq_true rfl) (s_X11_isWord l h5 4 s6 (by omega)) (rm_ok (by decide) (by decide)) (zq_i fun v327 h328 q326 => ?_)
            obtain ⟨rfl, b330, b331, ⟨rfl, b329⟩ | ⟨rfl, b329⟩⟩ := q326
            · refine zj_if_eq (t := 173) (zdk ttX11_readAny 79 rfl rfl) (by decide) (by decide) (fun c332 => ?_) (fun c332 => ?_)
              · refine zj_aload_n (zdk ttX11_readAny 94 rfl rfl) rfl (by decide) ?_
                refine zj_bipush (zdk ttX11_readAny 95 rfl rfl) (by decide) ?_
                refine zj_callV (av := [.inl 10]) (st := []) (zdk ttX11_readAny 96 rfl rfl) mb_X11_settles mv_RX11_235 (ci := 11) rfl rfl (k_M s6) rfl rfl (Nat.le_of_ble_eq_true rfl) (s2_X11_settles l h5 10 s6 (by omega) (by omega) (fun q => absurd q (by decide)) (by decide)) (rm_ok (by decide) (by decide)) (zq_v fun h335 q333 => ?_)
                obtain ⟨s337, f342, u338, u339, u340, u341⟩ := q333
                have a343 := zAny_set (zAny_d u306 rfl (show x4 = 0 by omega)) (Or.inl rfl) u338 u339 f342 (fun q => absurd q (by decide))
                have b344 := zAny_f a343.1
                have b344r := zAny_br a343.1
                have b345 : h335.2 0 12 = (h5.2 0 12) := (zfr_f f342 rfl rfl)
                have b346 : h335.2 0 13 = (h5.2 0 13) := (zfr_f f342 rfl rfl)
                have b347 : h335.2 0 14 = (h5.2 0 14) := (zfr_f f342 rfl rfl)
                have b348 : 0 ≤ (h335.2 0 25) ∧ (h335.2 0 25) ≤ 400 := fM_25 s337
                have b349 : 0 ≤ (h335.2 0 26) ∧ (h335.2 0 26) ≤ 8 := fM_26 s337
                have b350 : 0 ≤ (h335.2 0 28) ∧ (h335.2 0 28) ≤ 40 := fM_28 s337
                refine zj_aload_n (zdk ttX11_readAny 97 rfl rfl) rfl (by decide) ?_
                refine zj_bipush (zdk ttX11_readAny 98 rfl rfl) (by decide) ?_
                refine zj_callV (av := [.inl 11]) (st := []) (zdk ttX11_readAny 99 rfl rfl) mb_X11_settles mv_RX11_235 (ci := 11) rfl rfl (k_M s337) rfl rfl (Nat.le_of_ble_eq_true rfl) (s2_X11_settles l h335 11 s337 (by omega) (by omega) (fun q => absurd q (by decide)) (by decide)) (rm_ok (by decide) (by decide)) (zq_v fun h353 q351 => ?_)
                obtain ⟨s355, f360, u356, u357, u358, u359⟩ := q351
                have a361 := zAny_set a343.1 (Or.inr rfl) u356 u357 f360 (fun _ => (a343.2.1 rfl))
                have b362 := zAny_f a361.1
                have b362r := zAny_br a361.1
                have b363 : h353.2 0 12 = (h5.2 0 12) := ((zfr_f f360 rfl rfl).trans (zfr_f f342 rfl rfl))
                have b364 : h353.2 0 13 = (h5.2 0 13) := ((zfr_f f360 rfl rfl).trans (zfr_f f342 rfl rfl))
                have b365 : h353.2 0 14 = (h5.2 0 14) := ((zfr_f f360 rfl rfl).trans (zfr_f f342 rfl rfl))
                have b366 : 0 ≤ (h353.2 0 25) ∧ (h353.2 0 25) ≤ 400 := fM_25 s355
                have b367 : 0 ≤ (h353.2 0 26) ∧ (h353.2 0 26) ≤ 8 := fM_26 s355
                have b368 : 0 ≤ (h353.2 0 28) ∧ (h353.2 0 28) ≤ 40 := fM_28 s355
                refine zj_iload_n (zdk ttX11_readAny 100 rfl rfl) rfl ?_
                refine zj_if_ne (t := 191) (zdk ttX11_readAny 101 rfl rfl) (by decide) (by omega) (fun c369 => ?_) (fun c369 => ?_)
                · refine zj_aload_n (zdk ttX11_readAny 104 rfl rfl) rfl (by decide) ?_
                  refine zj_bipush (zdk ttX11_readAny 105 rfl rfl) (by decide) ?_
                  refine zj_callV (av := [.inl 41]) (st := []) (zdk ttX11_readAny 106 rfl rfl) mb_X11_isSign mv_RX11_211 (ci := 11) rfl rfl (k_M s355) rfl rfl (Nat.le_of_ble_eq_true rfl) (s_X11_isSign l h353 41 s355 (by omega)) (rm_ok (by decide) (by decide)) (zq_i fun v371 h372 q370 => ?_)
                  obtain ⟨rfl, b374, b375, ⟨rfl, b373⟩ | ⟨rfl, b373⟩⟩ := q370
                  · refine zj_if_ne (t := 206) (zdk ttX11_readAny 107 rfl rfl) (by decide) (by decide) (fun c376 => ?_) (fun c376 => ?_)
                    · exact absurd c376 (by omega)
                    · refine zj_aload_n (zdk ttX11_readAny 108 rfl rfl) rfl (by decide) ?_
                      refine zj_iconst (zdk ttX11_readAny 109 rfl rfl) ?_
                      refine zj_callV (av := [.inl 1]) (st := []) (zdk ttX11_readAny 110 rfl rfl) mb_X11_errs mv_RX11_197 (ci := 11) rfl rfl (k_M s355) rfl rfl (Nat.le_of_ble_eq_true rfl) (s2_X11_errs l h353 1 s355 (by omega)) (rm_ok (by decide) (by decide)) (zq_i fun v378 h379 q377 => ?_)
                      obtain ⟨b380, s381, f383, u382⟩ := q377
                      have f386 : zfr [12, 13, 14, 15, 25, 26, 28, 29, 30] [14, 15, 16] h h335 := zfr_t f7 f342 rfl rfl
                      have f385 : zfr [12, 13, 14, 15, 25, 26, 28, 29, 30] [14, 15, 16] h h353 := zfr_t f386 f360 rfl rfl
                      have f384 : zfr [12, 13, 14, 15, 25, 26, 28, 29, 30] [14, 15, 16] h h379 := zfr_t f385 f383 rfl rfl
                      have b387 : 0 ≤ (h.2 0 14) ∧ (h.2 0 14) ≤ 4 := fM_14 s0
                      have b388 : -2147483648 ≤ (h.2 0 15) ∧ (h.2 0 15) ≤ 2147483647 := fM_15 s0
                      have b389 : h335.2 0 14 = (h5.2 0 14) := (zfr_f f342 rfl rfl)
                      have b390 : h335.2 0 15 = (h5.2 0 15) := (zfr_f f342 rfl rfl)
                      have b391 : h353.2 0 14 = (h5.2 0 14) := ((zfr_f f360 rfl rfl).trans (zfr_f f342 rfl rfl))
                      have b392 : h353.2 0 15 = (h5.2 0 15) := ((zfr_f f360 rfl rfl).trans (zfr_f f342 rfl rfl))
                      have b393 : h379.2 0 14 = (h5.2 0 14) := (((zfr_f f383 rfl rfl).trans (zfr_f f360 rfl rfl)).trans (zfr_f f342 rfl rfl))
                      have b394 : h379.2 0 15 = (h5.2 0 15) := (((zfr_f f383 rfl rfl).trans (zfr_f f360 rfl rfl)).trans (zfr_f f342 rfl rfl))
                      exact zj_iret rfl (zdk ttX11_readAny 111 rfl rfl) (Nat.le_refl _) (Nat.le_refl _) ⟨v378, rfl, by omega, s381, f384, (fun q => absurd q (by omega)), (tLo_f (tLo_t (tLo_t u307 u341) u359) (fun i => zfr_a f383 rfl (by decide)) (fun i => zfr_a f383 rfl (by decide))), (fun z => absurd z (by omega)), (by intro T j t0; obtain ⟨x_1j, x_1a, x_1l, x_1r⟩ := u308 T j t0; have k_2 := tT0 x_1a.2.2.1; have k_2j := x_1a.1.1; have z9 := u306; have a_3 : tPm 0 T x_1j h335 := tPm_f x_1a (fun k => (zfr_a f342 rfl (by decide))) (fun k => (zfr_a f342 rfl (by decide))) (zfr_f f342 rfl rfl) (zfr_f f342 rfl rfl) (zfr_f f342 rfl rfl) (zfr_f f342 rfl rfl) (zfr_f f342 rfl rfl); have a_4 : tPm 0 T x_1j h353 := tPm_f a_3 (fun k => (zfr_a f360 rfl (by decide))) (fun k => (zfr_a f360 rfl (by decide))) (zfr_f f360 rfl rfl) (zfr_f f360 rfl rfl) (zfr_f f360 rfl rfl) (zfr_f f360 rfl rfl) (zfr_f f360 rfl rfl); have e_5 : tEp h h379 x_1j 1 := ⟨u382.1, a_4.1.1, by have q9 := a_4.2.1; rw [show h353.2 7 = h.2 7 from funext fun i9 => (((zfr_a f360 rfl (by decide)).trans (zfr_a f342 rfl (by decide))).trans (zfr_a f7 rfl (by decide))), show h353.2 0 11 = h.2 0 11 from (((zfr_f f360 rfl rfl).trans (zfr_f f342 rfl rfl)).trans (zfr_f f7 rfl rfl))] at q9; rw [u382.2]; exact q9⟩; have g_6 := u338; have g_7 := u356; have p9t := zAny_top a361.1 (a361.2.2 rfl) (by omega); exact ⟨fun z => absurd z (by omega), fun _ => ⟨x_1j, _, e_5, fun p9 s9 d9 o9 y9 => by have q8 := tRe_k (tRe_s (tRe_k (tRe_t (by have q9 := x_1r p9 s9 d9 o9 y9; rw [if_pos (by omega)] at q9; exact q9) (tSk_ac z9.1 g_6.2.1 g_6.1 g_6.2.2.2.1 (z9.2.2.2.2.2.2.2.2 (by omega)).1 u339 y9)) (tRp_k u340 (tEo_10 0))) (tSk_cc (f := h5.2 16) (n := h335.2 0 28) (m := h353.2 0 28) (fun i a9 b9 => z9.1 i a9 (by have w9 := g_6.1; omega)) g_7.2.1 g_7.1 (by have e9 := g_7.2.2.2.1; rw [show h335.2 16 = h5.2 16 from (funext fun _ => (zfr_a f342 rfl (by decide)))] at e9; exact e9) (by have e9 := u357; rw [show h335.2 16 = h5.2 16 from (funext fun _ => (zfr_a f342 rfl (by decide)))] at e9; exact e9) y9 (by omega) (by omega))) (tRp_k u358 (tEo_11 0)); rw [tSk_t _ p9t.1, show h5.2 16 (h353.2 0 28 - 1) = 12 from by have e9 := p9t.2; rw [show h353.2 16 = h5.2 16 from (funext fun _ => ((zfr_a f360 rfl (by decide)).trans (zfr_a f342 rfl (by decide))))] at e9; exact e9] at q8; exact tRe_s q8 (tM12_n (by omega))⟩⟩)⟩
                  · refine zj_if_ne (t := 206) (zdk ttX11_readAny 107 rfl rfl) (by decide) (by decide) (fun c395 => ?_) (fun c395 => ?_)
                    · have a396 := zAny_top a361.1 (a361.2.2 rfl) (by omega)
                      have a396c := zAny_cl a361.1 a396
                      refine zj_aload_n (zdk ttX11_readAny 112 rfl rfl) rfl (by decide) ?_
                      refine zj_aload_n (zdk ttX11_readAny 113 rfl rfl) rfl (by decide) ?_
                      refine zj_geti (v := (h353.2 0 28)) (zdk ttX11_readAny 114 rfl rfl) zf_RX11_220 rfl (k_M s355) rfl ?_
                      refine zj_iconst (zdk ttX11_readAny 115 rfl rfl) ?_
                      refine zj_isub (zdk ttX11_readAny 116 rfl rfl) ?_
                      refine zj_puti (zdk ttX11_readAny 117 rfl rfl) zf_RX11_220 rfl (k_M s355) (Or.inl zw_RX11_220) (k2 := 28) rfl (fun h397 e398 => ?_)
                      refine zj_iload_n (zdk ttX11_readAny 118 rfl rfl) rfl ?_
                      refine zj_iconst (zdk ttX11_readAny 119 rfl rfl) ?_
                      refine zj_isub (zdk ttX11_readAny 120 rfl rfl) ?_
                      refine zj_istore_n (L' := [some (.inr 0), some (.inl (x3 - 1)), some (.inl x4), none]) (zdk ttX11_readAny 121 rfl rfl) (by decide) rfl ?_
                      refine zj_aload_n (zdk ttX11_readAny 122 rfl rfl) rfl (by decide) ?_
                      refine zj_aload_n (zdk ttX11_readAny 123 rfl rfl) rfl (by decide) ?_
                      have s399 : okM h397 := fwM_28 s355 e398 (by omega)
                      refine zj_geti (v := (h353.2 0 26)) (zdk ttX11_readAny 124 rfl rfl) zf_RX11_223 rfl (k_M s399) (zwr_r e398 (by first | decide | exact (absurd ·.1 (by decide)) | exact (absurd ·.2 (by decide)) | omega)) ?_
                      refine zj_iconst (zdk ttX11_readAny 125 rfl rfl) ?_
                      refine zj_isub (zdk ttX11_readAny 126 rfl rfl) ?_
                      refine zj_puti (zdk ttX11_readAny 127 rfl rfl) zf_RX11_223 rfl (k_M s399) (Or.inl zw_RX11_223) (k2 := 26) rfl (fun h400 e401 => ?_)
                      refine zj_aload_n (zdk ttX11_readAny 128 rfl rfl) rfl (by decide) ?_
                      refine zj_bipush (zdk ttX11_readAny 129 rfl rfl) (by decide) ?_
                      have s402 : okM h400 := fwM_26 s399 e401 (by omega)
                      have b403 : h400.2 0 12 = (h5.2 0 12) := ((((zwr_r e401 (by first | decide | exact (absurd ·.1 (by decide)) | exact (absurd ·.2 (by decide)) | omega)).trans (zwr_r e398 (by first | decide | exact (absurd ·.1 (by decide)) | exact (absurd ·.2 (by decide)) | omega))).trans (zfr_f f360 rfl rfl)).trans (zfr_f f342 rfl rfl))
                      have b404 : h400.2 0 13 = (h5.2 0 13) := ((((zwr_r e401 (by first | decide | exact (absurd ·.1 (by decide)) | exact (absurd ·.2 (by decide)) | omega)).trans (zwr_r e398 (by first | decide | exact (absurd ·.1 (by decide)) | exact (absurd ·.2 (by decide)) | omega))).trans (zfr_f f360 rfl rfl)).trans (zfr_f f342 rfl rfl))
                      have b405 : h400.2 0 14 = (h5.2 0 14) := ((((zwr_r e401 (by first | decide | exact (absurd ·.1 (by decide)) | exact (absurd ·.2 (by decide)) | omega)).trans (zwr_r e398 (by first | decide | exact (absurd ·.1 (by decide)) | exact (absurd ·.2 (by decide)) | omega))).trans (zfr_f f360 rfl rfl)).trans (zfr_f f342 rfl rfl))
                      have b406 : h400.2 0 25 = (h353.2 0 25) := ((zwr_r e401 (by first | decide | exact (absurd ·.1 (by decide)) | exact (absurd ·.2 (by decide)) | omega)).trans (zwr_r e398 (by first | decide | exact (absurd ·.1 (by decide)) | exact (absurd ·.2 (by decide)) | omega)))
                      have b407 : h400.2 0 26 = ((h353.2 0 26) - 1) := (zwr_v e401)
                      have b408 : h400.2 0 28 = ((h353.2 0 28) - 1) := ((zwr_r e401 (by first | decide | exact (absurd ·.1 (by decide)) | exact (absurd ·.2 (by decide)) | omega)).trans (zwr_v e398))
                      refine zj_callV (av := [.inl 9]) (st := []) (zdk ttX11_readAny 130 rfl rfl) mb_X11_settles mv_RX11_235 (ci := 11) rfl rfl (k_M s402) rfl rfl (Nat.le_of_ble_eq_true rfl) (s2_X11_settles l h400 9 s402 (by omega) (by omega) (fun _ => zck_c a396c.1 (funext fun _ => ((zwr_r e401 (by first | decide | exact (absurd ·.1 (by decide)) | exact (absurd ·.2 (by decide)) | omega)).trans (zwr_r e398 (by first | decide | exact (absurd ·.1 (by decide)) | exact (absurd ·.2 (by decide)) | omega)))) (by omega) (by omega)) (by decide)) (rm_ok (by decide) (by decide)) (zq_v fun h411 q409 => ?_)
                      obtain ⟨s413, f418, u414, u415, u416, u417⟩ := q409
                      refine zj_aload_n (zdk ttX11_readAny 131 rfl rfl) rfl (by decide) ?_
                      refine zj_callV (av := []) (st := []) (zdk ttX11_readAny 132 rfl rfl) mb_X11_reads mv_RX11_204 (ci := 11) rfl rfl (k_M s413) rfl rfl (Nat.le_of_ble_eq_true rfl) (s2_X11_reads l h411 s413) (rm_ok (by decide) (by decide)) (zq_v fun h421 q419 => ?_)
                      obtain ⟨s423, f427, u424, u425, u426⟩ := q419
                      refine zj_goto (t := 9) (zdk ttX11_readAny 133 rfl rfl) (by decide) ?_
                      have b428 : 0 ≤ (h421.2 0 12) ∧ (h421.2 0 12) ≤ 400 := fM_12 s423
                      have b429 : 0 ≤ (h421.2 0 13) ∧ (h421.2 0 13) ≤ 400 := fM_13 s423
                      have b430 : 0 ≤ (h421.2 0 14) ∧ (h421.2 0 14) ≤ 4 := fM_14 s423
                      have b431 : h421.2 0 25 = (h411.2 0 25) := (zfr_f f427 rfl rfl)
                      have b432 : 0 ≤ (h411.2 0 25) ∧ (h411.2 0 25) ≤ 400 := fM_25 s413
                      have b433 : h421.2 0 26 = (h411.2 0 26) := (zfr_f f427 rfl rfl)
                      have b434 : 0 ≤ (h411.2 0 26) ∧ (h411.2 0 26) ≤ 8 := fM_26 s413
                      have b435 : h421.2 0 28 = (h411.2 0 28) := (zfr_f f427 rfl rfl)
                      have b436 : 0 ≤ (h411.2 0 28) ∧ (h411.2 0 28) ≤ 40 := fM_28 s413
                      have f442 : zfr [12, 13, 14, 15, 25, 26, 28, 29, 30] [14, 15, 16] h h335 := zfr_t f7 f342 rfl rfl
                      have f441 : zfr [12, 13, 14, 15, 25, 26, 28, 29, 30] [14, 15, 16] h h353 := zfr_t f442 f360 rfl rfl
                      have f440 : zfr [12, 13, 14, 15, 25, 26, 28, 29, 30] [14, 15, 16] h h397 := zfr_wf f441 e398 rfl
                      have f439 : zfr [12, 13, 14, 15, 25, 26, 28, 29, 30] [14, 15, 16] h h400 := zfr_wf f440 e401 rfl
                      have f438 : zfr [12, 13, 14, 15, 25, 26, 28, 29, 30] [14, 15, 16] h h411 := zfr_t f439 f418 rfl rfl
                      have f437 : zfr [12, 13, 14, 15, 25, 26, 28, 29, 30] [14, 15, 16] h h421 := zfr_t f438 f427 rfl rfl
                      have b443 : h411.2 0 12 = (h5.2 0 12) := (((((zfr_f f418 rfl rfl).trans (zwr_r e401 (by first | decide | exact (absurd ·.1 (by decide)) | exact (absurd ·.2 (by decide)) | omega))).trans (zwr_r e398 (by first | decide | exact (absurd ·.1 (by decide)) | exact (absurd ·.2 (by decide)) | omega))).trans (zfr_f f360 rfl rfl)).trans (zfr_f f342 rfl rfl))
                      have b444 : h411.2 0 13 = (h5.2 0 13) := (((((zfr_f f418 rfl rfl).trans (zwr_r e401 (by first | decide | exact (absurd ·.1 (by decide)) | exact (absurd ·.2 (by decide)) | omega))).trans (zwr_r e398 (by first | decide | exact (absurd ·.1 (by decide)) | exact (absurd ·.2 (by decide)) | omega))).trans (zfr_f f360 rfl rfl)).trans (zfr_f f342 rfl rfl))
                      have b445 : h411.2 0 14 = (h5.2 0 14) := (((((zfr_f f418 rfl rfl).trans (zwr_r e401 (by first | decide | exact (absurd ·.1 (by decide)) | exact (absurd ·.2 (by decide)) | omega))).trans (zwr_r e398 (by first | decide | exact (absurd ·.1 (by decide)) | exact (absurd ·.2 (by decide)) | omega))).trans (zfr_f f360 rfl rfl)).trans (zfr_f f342 rfl rfl))
                      have b446 : h421.2 0 25 = (h411.2 0 25) := (zfr_f f427 rfl rfl)
                      have t447 : tok h411 := (tok_same (tok_same (tok_same (tok_same (tok_same u305 f342 rfl rfl rfl rfl) f360 rfl rfl rfl rfl) (zfr_wf (zfr_r [28] [] h353) e398 rfl) rfl rfl rfl rfl) (zfr_wf (zfr_r [26] [] h397) e401 rfl) rfl rfl rfl rfl) f418 rfl rfl rfl rfl)
                      unfold tok at t447
                      have e448 : h397 = zwr h353 0 28 (h353.2 0 28 - 1) := by first | exact e398 | (rw [e398]; congr 1; omega)
                      have e449 : h400 = zwr h397 0 26 (h353.2 0 26 - 1) := by first | exact e401 | (rw [e401]; congr 1; omega)
                      have b450 : 0 ≤ (h.2 0 14) ∧ (h.2 0 14) ≤ 4 := fM_14 s0
                      have b451 : -2147483648 ≤ (h.2 0 15) ∧ (h.2 0 15) ≤ 2147483647 := fM_15 s0
                      have b452 : h335.2 0 14 = (h5.2 0 14) := (zfr_f f342 rfl rfl)
                      have b453 : h335.2 0 15 = (h5.2 0 15) := (zfr_f f342 rfl rfl)
                      have b454 : h353.2 0 14 = (h5.2 0 14) := ((zfr_f f360 rfl rfl).trans (zfr_f f342 rfl rfl))
                      have b455 : h353.2 0 15 = (h5.2 0 15) := ((zfr_f f360 rfl rfl).trans (zfr_f f342 rfl rfl))
                      have b456 : h397.2 0 14 = (h5.2 0 14) := (((zwr_r e398 (by first | decide | exact (absurd ·.1 (by decide)) | exact (absurd ·.2 (by decide)) | omega)).trans (zfr_f f360 rfl rfl)).trans (zfr_f f342 rfl rfl))
                      have b457 : h397.2 0 15 = (h5.2 0 15) := (((zwr_r e398 (by first | decide | exact (absurd ·.1 (by decide)) | exact (absurd ·.2 (by decide)) | omega)).trans (zfr_f f360 rfl rfl)).trans (zfr_f f342 rfl rfl))
                      have b458 : h400.2 0 14 = (h5.2 0 14) := ((((zwr_r e401 (by first | decide | exact (absurd ·.1 (by decide)) | exact (absurd ·.2 (by decide)) | omega)).trans (zwr_r e398 (by first | decide | exact (absurd ·.1 (by decide)) | exact (absurd ·.2 (by decide)) | omega))).trans (zfr_f f360 rfl rfl)).trans (zfr_f f342 rfl rfl))
                      have b459 : h400.2 0 15 = (h5.2 0 15) := ((((zwr_r e401 (by first | decide | exact (absurd ·.1 (by decide)) | exact (absurd ·.2 (by decide)) | omega)).trans (zwr_r e398 (by first | decide | exact (absurd ·.1 (by decide)) | exact (absurd ·.2 (by decide)) | omega))).trans (zfr_f f360 rfl rfl)).trans (zfr_f f342 rfl rfl))
                      have b460 : h411.2 0 14 = (h5.2 0 14) := (((((zfr_f f418 rfl rfl).trans (zwr_r e401 (by first | decide | exact (absurd ·.1 (by decide)) | exact (absurd ·.2 (by decide)) | omega))).trans (zwr_r e398 (by first | decide | exact (absurd ·.1 (by decide)) | exact (absurd ·.2 (by decide)) | omega))).trans (zfr_f f360 rfl rfl)).trans (zfr_f f342 rfl rfl))
                      have b461 : h411.2 0 15 = (h5.2 0 15) := (((((zfr_f f418 rfl rfl).trans (zwr_r e401 (by first | decide | exact (absurd ·.1 (by decide)) | exact (absurd ·.2 (by decide)) | omega))).trans (zwr_r e398 (by first | decide | exact (absurd ·.1 (by decide)) | exact (absurd ·.2 (by decide)) | omega))).trans (zfr_f f360 rfl rfl)).trans (zfr_f f342 rfl rfl))
                      have b462 : -2147483648 ≤ (h421.2 0 15) ∧ (h421.2 0 15) ≤ 2147483647 := fM_15 s423
                      exact ih310  (x3 - 1) x4 h421 (by omega) (by omega) s423 f437 u424 (zAny_d (br := (x3 - 1)) (d := 0) (zAny_close (br := x3) a361.1 a396.1 a396.2 e448 e449 u414 u415 f418 f427 (by omega) rfl) rfl (by omega)) (tLo_f (tLo_t (tLo_f (tLo_f (tLo_t (tLo_t u307 u341) u359) (fun i => zwr_r e398 (by first | decide | exact (absurd ·.1 (by decide)) | exact (absurd ·.2 (by decide)) | omega)) (fun i => zwr_r e398 (by first | decide | exact (absurd ·.1 (by decide)) | exact (absurd ·.2 (by decide)) | omega))) (fun i => zwr_r e401 (by first | decide | exact (absurd ·.1 (by decide)) | exact (absurd ·.2 (by decide)) | omega)) (fun i => zwr_r e401 (by first | decide | exact (absurd ·.1 (by decide)) | exact (absurd ·.2 (by decide)) | omega))) u417) (fun i => zfr_a f427 rfl (by decide)) (fun i => zfr_a f427 rfl (by decide))) (by intro T j t0; obtain ⟨x_1j, x_1a, x_1l, x_1r⟩ := u308 T j t0; have k_2 := tT0 x_1a.2.2.1; have k_2j := x_1a.1.1; have z9 := u306; have a_3 : tPm 0 T x_1j h335 := tPm_f x_1a (fun k => (zfr_a f342 rfl (by decide))) (fun k => (zfr_a f342 rfl (by decide))) (zfr_f f342 rfl rfl) (zfr_f f342 rfl rfl) (zfr_f f342 rfl rfl) (zfr_f f342 rfl rfl) (zfr_f f342 rfl rfl); have a_4 : tPm 0 T x_1j h353 := tPm_f a_3 (fun k => (zfr_a f360 rfl (by decide))) (fun k => (zfr_a f360 rfl (by decide))) (zfr_f f360 rfl rfl) (zfr_f f360 rfl rfl) (zfr_f f360 rfl rfl) (zfr_f f360 rfl rfl) (zfr_f f360 rfl rfl); have a_5 : tPm 0 T x_1j h397 := tPm_f a_4 (fun k => (zwr_r e398 (by first | decide | exact (absurd ·.1 (by decide)) | exact (absurd ·.2 (by decide)) | omega))) (fun k => (zwr_r e398 (by first | decide | exact (absurd ·.1 (by decide)) | exact (absurd ·.2 (by decide)) | omega))) (zwr_r e398 (by first | decide | exact (absurd ·.1 (by decide)) | exact (absurd ·.2 (by decide)) | omega)) (zwr_r e398 (by first | decide | exact (absurd ·.1 (by decide)) | exact (absurd ·.2 (by decide)) | omega)) (zwr_r e398 (by first | decide | exact (absurd ·.1 (by decide)) | exact (absurd ·.2 (by decide)) | omega)) (zwr_r e398 (by first | decide | exact (absurd ·.1 (by decide)) | exact (absurd ·.2 (by decide)) | omega)) (zwr_r e398 (by first | decide | exact (absurd ·.1 (by decide)) | exact (absurd ·.2 (by decide)) | omega)); have a_6 : tPm 0 T x_1j h400 := tPm_f a_5 (fun k => (zwr_r e401 (by first | decide | exact (absurd ·.1 (by decide)) | exact (absurd ·.2 (by decide)) | omega))) (fun k => (zwr_r e401 (by first | decide | exact (absurd ·.1 (by decide)) | exact (absurd ·.2 (by decide)) | omega))) (zwr_r e401 (by first | decide | exact (absurd ·.1 (by decide)) | exact (absurd ·.2 (by decide)) | omega)) (zwr_r e401 (by first | decide | exact (absurd ·.1 (by decide)) | exact (absurd ·.2 (by decide)) | omega)) (zwr_r e401 (by first | decide | exact (absurd ·.1 (by decide)) | exact (absurd ·.2 (by decide)) | omega)) (zwr_r e401 (by first | decide | exact (absurd ·.1 (by decide)) | exact (absurd ·.2 (by decide)) | omega)) (zwr_r e401 (by first | decide | exact (absurd ·.1 (by decide)) | exact (absurd ·.2 (by decide)) | omega)); have a_7 : tPm 0 T x_1j h411 := tPm_f a_6 (fun k => (zfr_a f418 rfl (by decide))) (fun k => (zfr_a f418 rfl (by decide))) (zfr_f f418 rfl rfl) (zfr_f f418 rfl rfl) (zfr_f f418 rfl rfl) (zfr_f f418 rfl rfl) (zfr_f f418 rfl rfl); have k_8 := tT0 a_7.2.2.1; have k_8j := a_7.1.1; have a_9 : tPm 0 T (x_1j + 1) h421 := tPm_r a_7 (by omega) (u426 a_7.2.2.2.2.2.1 (tPm_l a_7 (by omega))) (fun k => (zfr_a f427 rfl (by decide))) (fun k => (zfr_a f427 rfl (by decide))) (zfr_f f427 rfl rfl); have g_10 := u338; have g_11 := u356; have g_12 := u414; have c_13 : tCm h397 = tCm h353 := (tCm_f (zwr_r e398 (by first | decide | exact (absurd ·.1 (by decide)) | exact (absurd ·.2 (by decide)) | omega)) (fun i => zwr_r e398 (by first | decide | exact (absurd ·.1 (by decide)) | exact (absurd ·.2 (by decide)) | omega)) (fun i => zwr_r e398 (by first | decide | exact (absurd ·.1 (by decide)) | exact (absurd ·.2 (by decide)) | omega))).trans rfl; have c_14 : tCm h400 = tCm h353 := (tCm_f (zwr_r e401 (by first | decide | exact (absurd ·.1 (by decide)) | exact (absurd ·.2 (by decide)) | omega)) (fun i => zwr_r e401 (by first | decide | exact (absurd ·.1 (by decide)) | exact (absurd ·.2 (by decide)) | omega)) (fun i => zwr_r e401 (by first | decide | exact (absurd ·.1 (by decide)) | exact (absurd ·.2 (by decide)) | omega))).trans c_13; have c_15 : tCm h421 = tCm h411 := (tCm_f (zfr_f f427 rfl rfl) (fun i => zfr_a f427 rfl (by decide)) (fun i => zfr_a f427 rfl (by decide))).trans rfl; have v28 : h400.2 0 28 = h353.2 0 28 - 1 := (by have e9 : h397.2 0 28 = ((h353.2 0 28) - 1) := zwr_v e398; have e8 : h400.2 0 28 = h397.2 0 28 := (zwr_r e401 (by first | decide | exact (absurd ·.1 (by decide)) | exact (absurd ·.2 (by decide)) | omega)); omega); exact ⟨(x_1j + 1), a_9, by omega, fun p9 s9 d9 o9 y9 => by have q8 := tRe_k (tRe_s (tRe_k (tRe_t (by have q9 := x_1r p9 s9 d9 o9 y9; rw [if_pos (by omega)] at q9; exact q9) (tSk_ac z9.1 g_10.2.1 g_10.1 g_10.2.2.2.1 (z9.2.2.2.2.2.2.2.2 (by omega)).1 u339 y9)) (tRp_k u340 (tEo_10 0))) (tSk_cc (f := h5.2 16) (n := h335.2 0 28) (m := h353.2 0 28) (fun i a9 b9 => z9.1 i a9 (by have w9 := g_10.1; omega)) g_11.2.1 g_11.1 (by have e9 := g_11.2.2.2.1; rw [show h335.2 16 = h5.2 16 from (funext fun _ => (zfr_a f342 rfl (by decide)))] at e9; exact e9) (by have e9 := u357; rw [show h335.2 16 = h5.2 16 from (funext fun _ => (zfr_a f342 rfl (by decide)))] at e9; exact e9) y9 (by omega) (by omega))) (tRp_k u358 (tEo_11 0)); rw [tSk_t _ a396.1, show h5.2 16 (h353.2 0 28 - 1) = 12 from by have e9 := a396.2; rw [show h353.2 16 = h5.2 16 from (funext fun _ => ((zfr_a f360 rfl (by decide)).trans (zfr_a f342 rfl (by decide))))] at e9; exact e9] at q8; rw [if_pos (by omega), show h421.2 16 = h5.2 16 from (funext fun _ => ((((((zfr_a f427 rfl (by decide)).trans (zfr_a f418 rfl (by decide))).trans (zwr_r e401 (by first | decide | exact (absurd ·.1 (by decide)) | exact (absurd ·.2 (by decide)) | omega))).trans (zwr_r e398 (by first | decide | exact (absurd ·.1 (by decide)) | exact (absurd ·.2 (by decide)) | omega))).trans (zfr_a f360 rfl (by decide))).trans (zfr_a f342 rfl (by decide)))), show h421.2 0 28 = h411.2 0 28 from (zfr_f f427 rfl rfl)]; exact tRe_k (tRe_t (tRe_s q8 (tM12_y (by omega))) (tSk_9c _ (h411.2 0 28) (h353.2 0 28 - 1) _ g_12.2.1 (by have a9 := g_12.1; rw [v28] at a9; exact a9) rfl (by have a9 := g_12.2.2.2.1; rw [v28, show h400.2 16 = h5.2 16 from (funext fun _ => ((((zwr_r e401 (by first | decide | exact (absurd ·.1 (by decide)) | exact (absurd ·.2 (by decide)) | omega)).trans (zwr_r e398 (by first | decide | exact (absurd ·.1 (by decide)) | exact (absurd ·.2 (by decide)) | omega))).trans (zfr_a f360 rfl (by decide))).trans (zfr_a f342 rfl (by decide))))] at a9; exact a9))) (by have e9 := u416; rw [tEo_9, v28, (c_14 : tCm h400 = tCm h353)] at e9; exact ((c_15 : tCm h421 = tCm h411).trans e9).symm)⟩) (by omega)
                    · exact absurd c395 (by omega)
                · refine zj_iconst (zdk ttX11_readAny 102 rfl rfl) ?_
                  have f464 : zfr [12, 13, 14, 15, 25, 26, 28, 29, 30] [14, 15, 16] h h335 := zfr_t f7 f342 rfl rfl
                  have f463 : zfr [12, 13, 14, 15, 25, 26, 28, 29, 30] [14, 15, 16] h h353 := zfr_t f464 f360 rfl rfl
                  have a465 := zAny_end a361.1 (by omega) (a361.2.2 rfl)
                  have b466 : 0 ≤ (h.2 0 14) ∧ (h.2 0 14) ≤ 4 := fM_14 s0
                  have b467 : -2147483648 ≤ (h.2 0 15) ∧ (h.2 0 15) ≤ 2147483647 := fM_15 s0
                  have b468 : h335.2 0 14 = (h5.2 0 14) := (zfr_f f342 rfl rfl)
                  have b469 : h335.2 0 15 = (h5.2 0 15) := (zfr_f f342 rfl rfl)
                  have b470 : h353.2 0 14 = (h5.2 0 14) := ((zfr_f f360 rfl rfl).trans (zfr_f f342 rfl rfl))
                  have b471 : h353.2 0 15 = (h5.2 0 15) := ((zfr_f f360 rfl rfl).trans (zfr_f f342 rfl rfl))
                  exact zj_iret rfl (zdk ttX11_readAny 103 rfl rfl) (Nat.le_refl _) (Nat.le_refl _) ⟨0, rfl, by omega, s355, f463, (fun _ => ⟨(tok_same (tok_same u305 f342 rfl rfl rfl rfl) f360 rfl rfl rfl rfl), a465.1, a465.2⟩), (tLo_t (tLo_t u307 u341) u359), (fun _ => by have a9 := a361.1; have t9 := (a361.2.2 rfl); have y28 : h353.2 0 28 = 0 := (by by_cases w9 : h353.2 0 28 = 0; exact w9; exact absurd (by omega) (zAny_c0 a9 (t9.resolve_left w9) (by have w8 := a9.2.1; omega))); have q3 := a9.2.2.1; rw [y28, zck_0, zck_0] at q3; omega), (by intro T j t0; obtain ⟨x_1j, x_1a, x_1l, x_1r⟩ := u308 T j t0; have k_2 := tT0 x_1a.2.2.1; have k_2j := x_1a.1.1; have z9 := u306; have g_3 := u338; have g_4 := u356; have a_5 : tPm 0 T x_1j h335 := tPm_f x_1a (fun k => (zfr_a f342 rfl (by decide))) (fun k => (zfr_a f342 rfl (by decide))) (zfr_f f342 rfl rfl) (zfr_f f342 rfl rfl) (zfr_f f342 rfl rfl) (zfr_f f342 rfl rfl) (zfr_f f342 rfl rfl); have a_6 : tPm 0 T x_1j h353 := tPm_f a_5 (fun k => (zfr_a f360 rfl (by decide))) (fun k => (zfr_a f360 rfl (by decide))) (zfr_f f360 rfl rfl) (zfr_f f360 rfl rfl) (zfr_f f360 rfl rfl) (zfr_f f360 rfl rfl) (zfr_f f360 rfl rfl); have y28 : h353.2 0 28 = 0 := (by have a9 := a361.1; have t9 := (a361.2.2 rfl); by_cases w9 : h353.2 0 28 = 0; exact w9; exact absurd (by omega) (zAny_c0 a9 (t9.resolve_left w9) (by have w8 := a9.2.1; omega))); exact ⟨fun _ => ⟨x_1j, a_6, by omega, fun p9 s9 d9 o9 y9 => by have q8 := tRe_k (tRe_s (tRe_k (tRe_t (by have q9 := x_1r p9 s9 d9 o9 y9; rw [if_pos (by omega)] at q9; exact q9) (tSk_ac z9.1 g_3.2.1 g_3.1 g_3.2.2.2.1 (z9.2.2.2.2.2.2.2.2 (by omega)).1 u339 y9)) (tRp_k u340 (tEo_10 0))) (tSk_cc (f := h5.2 16) (n := h335.2 0 28) (m := h353.2 0 28) (fun i a9 b9 => z9.1 i a9 (by have w9 := g_3.1; omega)) g_4.2.1 g_4.1 (by have e9 := g_4.2.2.2.1; rw [show h335.2 16 = h5.2 16 from (funext fun _ => (zfr_a f342 rfl (by decide)))] at e9; exact e9) (by have e9 := u357; rw [show h335.2 16 = h5.2 16 from (funext fun _ => (zfr_a f342 rfl (by decide)))] at e9; exact e9) y9 (by omega) (by omega))) (tRp_k u358 (tEo_11 0)); rw [y28] at q8; exact q8⟩, fun z => absurd z (by omega)⟩)⟩
              · exact absurd c332 (by omega)
            · refine zj_if_eq (t := 173) (zdk ttX11_readAny 79 rfl rfl) (by decide) (by decide) (fun c472 => ?_) (fun c472 => ?_)
              · exact absurd c472 (by omega)
              · refine zj_aload_n (zdk ttX11_readAny 80 rfl rfl) rfl (by decide) ?_
                refine zj_bipush (zdk ttX11_readAny 81 rfl rfl) (by decide) ?_
                refine zj_callV (av := [.inl 10]) (st := []) (zdk ttX11_readAny 82 rfl rfl) mb_X11_settles mv_RX11_235 (ci := 11) rfl rfl (k_M s6) rfl rfl (Nat.le_of_ble_eq_true rfl) (s2_X11_settles l h5 10 s6 (by omega) (by omega) (fun q => absurd q (by decide)) (by decide)) (rm_ok (by decide) (by decide)) (zq_v fun h475 q473 => ?_)
                obtain ⟨s477, f482, u478, u479, u480, u481⟩ := q473
                have a483 := zAny_set (zAny_d u306 rfl (show x4 = 0 by omega)) (Or.inl rfl) u478 u479 f482 (fun q => absurd q (by decide))
                have b484 := zAny_f a483.1
                have b484r := zAny_br a483.1
                have b485 : h475.2 0 12 = (h5.2 0 12) := (zfr_f f482 rfl rfl)
                have b486 : h475.2 0 13 = (h5.2 0 13) := (zfr_f f482 rfl rfl)
                have b487 : h475.2 0 14 = (h5.2 0 14) := (zfr_f f482 rfl rfl)
                have b488 : 0 ≤ (h475.2 0 25) ∧ (h475.2 0 25) ≤ 400 := fM_25 s477
                have b489 : 0 ≤ (h475.2 0 26) ∧ (h475.2 0 26) ≤ 8 := fM_26 s477
                have b490 : 0 ≤ (h475.2 0 28) ∧ (h475.2 0 28) ≤ 40 := fM_28 s477
                refine zj_aload_n (zdk ttX11_readAny 83 rfl rfl) rfl (by decide) ?_
                refine zj_bipush (zdk ttX11_readAny 84 rfl rfl) (by decide) ?_
                refine zj_callV (av := [.inl 11]) (st := []) (zdk ttX11_readAny 85 rfl rfl) mb_X11_settles mv_RX11_235 (ci := 11) rfl rfl (k_M s477) rfl rfl (Nat.le_of_ble_eq_true rfl) (s2_X11_settles l h475 11 s477 (by omega) (by omega) (fun q => absurd q (by decide)) (by decide)) (rm_ok (by decide) (by decide)) (zq_v fun h493 q491 => ?_)
                obtain ⟨s495, f500, u496, u497, u498, u499⟩ := q491
                have a501 := zAny_set a483.1 (Or.inr rfl) u496 u497 f500 (fun _ => (a483.2.1 rfl))
                have b502 := zAny_f a501.1
                have b502r := zAny_br a501.1
                have b503 : h493.2 0 12 = (h5.2 0 12) := ((zfr_f f500 rfl rfl).trans (zfr_f f482 rfl rfl))
                have b504 : h493.2 0 13 = (h5.2 0 13) := ((zfr_f f500 rfl rfl).trans (zfr_f f482 rfl rfl))
                have b505 : h493.2 0 14 = (h5.2 0 14) := ((zfr_f f500 rfl rfl).trans (zfr_f f482 rfl rfl))
                have b506 : 0 ≤ (h493.2 0 25) ∧ (h493.2 0 25) ≤ 400 := fM_25 s495
                have b507 : 0 ≤ (h493.2 0 26) ∧ (h493.2 0 26) ≤ 8 := fM_26 s495
                have b508 : 0 ≤ (h493.2 0 28) ∧ (h493.2 0 28) ≤ 40 := fM_28 s495
                refine zj_aload_n (zdk ttX11_readAny 86 rfl rfl) rfl (by decide) ?_
                refine zj_bipush (zdk ttX11_readAny 87 rfl rfl) (by decide) ?_
                refine zj_callV (av := [.inl 11]) (st := []) (zdk ttX11_readAny 88 rfl rfl) mb_X11_waits mv_RX11_229 (ci := 11) rfl rfl (k_M s495) rfl rfl (Nat.le_of_ble_eq_true rfl) (s_X11_waits l h493 11 s495 (by omega) (by omega)) (rm_ok (by decide) (by decide)) (zq_v fun h511 q509 => ?_)
                obtain ⟨s513, f517, u514, u515, u516⟩ := q509
                refine zj_aload_n (zdk ttX11_readAny 89 rfl rfl) rfl (by decide) ?_
                refine zj_callV (av := []) (st := []) (zdk ttX11_readAny 90 rfl rfl) mb_X11_reads mv_RX11_204 (ci := 11) rfl rfl (k_M s513) rfl rfl (Nat.le_of_ble_eq_true rfl) (s2_X11_reads l h511 s513) (rm_ok (by decide) (by decide)) (zq_v fun h520 q518 => ?_)
                obtain ⟨s522, f526, u523, u524, u525⟩ := q518
                refine zj_iconst (zdk ttX11_readAny 91 rfl rfl) ?_
                refine zj_istore_n (L' := [some (.inr 0), some (.inl x3), some (.inl 1), none]) (zdk ttX11_readAny 92 rfl rfl) (by decide) rfl ?_
                refine zj_goto (t := 9) (zdk ttX11_readAny 93 rfl rfl) (by decide) ?_
                have b527 : 0 ≤ (h520.2 0 12) ∧ (h520.2 0 12) ≤ 400 := fM_12 s522
                have b528 : 0 ≤ (h520.2 0 13) ∧ (h520.2 0 13) ≤ 400 := fM_13 s522
                have b529 : 0 ≤ (h520.2 0 14) ∧ (h520.2 0 14) ≤ 4 := fM_14 s522
                have b530 : h520.2 0 25 = (h493.2 0 25) := ((zfr_f f526 rfl rfl).trans (zfr_f f517 rfl rfl))
                have b531 : h520.2 0 26 = (h493.2 0 26) := ((zfr_f f526 rfl rfl).trans (zfr_f f517 rfl rfl))
                have b532 : h520.2 0 28 = (h511.2 0 28) := (zfr_f f526 rfl rfl)
                have b533 : 0 ≤ (h511.2 0 28) ∧ (h511.2 0 28) ≤ 40 := fM_28 s513
                have f537 : zfr [12, 13, 14, 15, 25, 26, 28, 29, 30] [14, 15, 16] h h475 := zfr_t f7 f482 rfl rfl
                have f536 : zfr [12, 13, 14, 15, 25, 26, 28, 29, 30] [14, 15, 16] h h493 := zfr_t f537 f500 rfl rfl
                have f535 : zfr [12, 13, 14, 15, 25, 26, 28, 29, 30] [14, 15, 16] h h511 := zfr_t f536 f517 rfl rfl
                have f534 : zfr [12, 13, 14, 15, 25, 26, 28, 29, 30] [14, 15, 16] h h520 := zfr_t f535 f526 rfl rfl
                have b538 : h511.2 0 12 = (h5.2 0 12) := (((zfr_f f517 rfl rfl).trans (zfr_f f500 rfl rfl)).trans (zfr_f f482 rfl rfl))
                have b539 : h511.2 0 13 = (h5.2 0 13) := (((zfr_f f517 rfl rfl).trans (zfr_f f500 rfl rfl)).trans (zfr_f f482 rfl rfl))
                have b540 : h511.2 0 14 = (h5.2 0 14) := (((zfr_f f517 rfl rfl).trans (zfr_f f500 rfl rfl)).trans (zfr_f f482 rfl rfl))
                have b541 : h511.2 0 25 = (h493.2 0 25) := (zfr_f f517 rfl rfl)
                have b542 : h520.2 0 25 = (h493.2 0 25) := ((zfr_f f526 rfl rfl).trans (zfr_f f517 rfl rfl))
                have t543 : tok h511 := (tok_same (tok_same (tok_same u305 f482 rfl rfl rfl rfl) f500 rfl rfl rfl rfl) f517 rfl rfl rfl rfl)
                unfold tok at t543
                have b544 : 0 ≤ (h.2 0 14) ∧ (h.2 0 14) ≤ 4 := fM_14 s0
                have b545 : -2147483648 ≤ (h.2 0 15) ∧ (h.2 0 15) ≤ 2147483647 := fM_15 s0
                have b546 : h475.2 0 14 = (h5.2 0 14) := (zfr_f f482 rfl rfl)
                have b547 : h475.2 0 15 = (h5.2 0 15) := (zfr_f f482 rfl rfl)
                have b548 : h493.2 0 14 = (h5.2 0 14) := ((zfr_f f500 rfl rfl).trans (zfr_f f482 rfl rfl))
                have b549 : h493.2 0 15 = (h5.2 0 15) := ((zfr_f f500 rfl rfl).trans (zfr_f f482 rfl rfl))
                have b550 : h511.2 0 14 = (h5.2 0 14) := (((zfr_f f517 rfl rfl).trans (zfr_f f500 rfl rfl)).trans (zfr_f f482 rfl rfl))
                have b551 : h511.2 0 15 = (h5.2 0 15) := (((zfr_f f517 rfl rfl).trans (zfr_f f500 rfl rfl)).trans (zfr_f f482 rfl rfl))
                have b552 : -2147483648 ≤ (h520.2 0 15) ∧ (h520.2 0 15) ≤ 2147483647 := fM_15 s522
                exact ih310  x3 1 h520 (by omega) (by omega) s522 f534 u523 (zAny_d (br := x3) (d := 1) (zAny_push (w := 11) (br := x3) a501.1 (by decide) (fun q => absurd q (by decide)) (fun _ => rfl) (fun q => absurd q (by decide)) (fun _ => (a501.2.2 rfl)) (zfr_r [26] [] h493) (fun q => absurd q (by decide)) (fun _ => rfl) (fun q => absurd q (by decide)) (fun _ => rfl) u514 u515 u516 f517 f526 (by omega)) rfl (by omega)) (tLo_f (tLo_f (tLo_t (tLo_t u307 u481) u499) (fun i => zfr_a f517 rfl (by decide)) (fun i => zfr_a f517 rfl (by decide))) (fun i => zfr_a f526 rfl (by decide)) (fun i => zfr_a f526 rfl (by decide))) (by intro T j t0; obtain ⟨x_1j, x_1a, x_1l, x_1r⟩ := u308 T j t0; have k_2 := tT0 x_1a.2.2.1; have k_2j := x_1a.1.1; have z9 := u306; have a_3 : tPm 0 T x_1j h475 := tPm_f x_1a (fun k => (zfr_a f482 rfl (by decide))) (fun k => (zfr_a f482 rfl (by decide))) (zfr_f f482 rfl rfl) (zfr_f f482 rfl rfl) (zfr_f f482 rfl rfl) (zfr_f f482 rfl rfl) (zfr_f f482 rfl rfl); have a_4 : tPm 0 T x_1j h493 := tPm_f a_3 (fun k => (zfr_a f500 rfl (by decide))) (fun k => (zfr_a f500 rfl (by decide))) (zfr_f f500 rfl rfl) (zfr_f f500 rfl rfl) (zfr_f f500 rfl rfl) (zfr_f f500 rfl rfl) (zfr_f f500 rfl rfl); have a_5 : tPm 0 T x_1j h511 := tPm_f a_4 (fun k => (zfr_a f517 rfl (by decide))) (fun k => (zfr_a f517 rfl (by decide))) (zfr_f f517 rfl rfl) (zfr_f f517 rfl rfl) (zfr_f f517 rfl rfl) (zfr_f f517 rfl rfl) (zfr_f f517 rfl rfl); have k_6 := tT0 a_5.2.2.1; have k_6j := a_5.1.1; have a_7 : tPm 0 T (x_1j + 1) h520 := tPm_r a_5 (by omega) (u525 a_5.2.2.2.2.2.1 (tPm_l a_5 (by omega))) (fun k => (zfr_a f526 rfl (by decide))) (fun k => (zfr_a f526 rfl (by decide))) (zfr_f f526 rfl rfl); have g_8 := u478; have g_9 := u496; have c_10 : tCm h511 = tCm h493 := (tCm_f (zfr_f f517 rfl rfl) (fun i => zfr_a f517 rfl (by decide)) (fun i => zfr_a f517 rfl (by decide))).trans rfl; have c_11 : tCm h520 = tCm h493 := (tCm_f (zfr_f f526 rfl rfl) (fun i => zfr_a f526 rfl (by decide)) (fun i => zfr_a f526 rfl (by decide))).trans c_10; exact ⟨(x_1j + 1), a_7, by omega, fun p9 s9 d9 o9 y9 => by rw [if_neg (by decide), (tSk_p (f := h5.2 16) (g := h520.2 16) (n := h493.2 0 28) (n' := h520.2 0 28) (w := 11) g_9.2.1 (by rw [show h520.2 0 28 = h511.2 0 28 from (zfr_f f526 rfl rfl), u514]) (by rw [show h520.2 16 = h511.2 16 from (funext fun _ => (zfr_a f526 rfl (by decide)))]; exact u515) (fun k hk => by rw [show h520.2 16 = h511.2 16 from (funext fun _ => (zfr_a f526 rfl (by decide))), u516 k hk, show h493.2 16 = h5.2 16 from (funext fun _ => ((zfr_a f500 rfl (by decide)).trans (zfr_a f482 rfl (by decide))))]))]; exact tRe_k (tRe_k (tRe_s (tRe_k (tRe_t (by have q9 := x_1r p9 s9 d9 o9 y9; rw [if_pos (by omega)] at q9; exact q9) (tSk_ac z9.1 g_8.2.1 g_8.1 g_8.2.2.2.1 (z9.2.2.2.2.2.2.2.2 (by omega)).1 u479 y9)) (tRp_k u480 (tEo_10 0))) (tSk_oc (f := h5.2 16) (n := h475.2 0 28) (m := h493.2 0 28) (fun i a9 b9 => z9.1 i a9 (by have w9 := g_8.1; omega)) g_9.2.1 g_9.1 (by have e9 := g_9.2.2.2.1; rw [show h475.2 16 = h5.2 16 from (funext fun _ => (zfr_a f482 rfl (by decide)))] at e9; exact e9) (by have e9 := u497; rw [show h475.2 16 = h5.2 16 from (funext fun _ => (zfr_a f482 rfl (by decide)))] at e9; exact e9) y9 (by omega))) (tRp_k u498 (tEo_11 0))) (c_11 : tCm h520 = tCm h493).symm⟩) (by omega)
          · exact absurd c325 (by omega)
        · refine zj_if_eq (t := 138) (zdk ttX11_readAny 64 rfl rfl) (by decide) (by decide) (fun c553 => ?_) (fun c553 => ?_)
          · exact absurd c553 (by omega)
          · refine zj_aload_n (zdk ttX11_readAny 65 rfl rfl) rfl (by decide) ?_
            refine zj_bipush (zdk ttX11_readAny 66 rfl rfl) (by decide) ?_
            refine zj_callV (av := [.inl 10]) (st := []) (zdk ttX11_readAny 67 rfl rfl) mb_X11_settles mv_RX11_235 (ci := 11) rfl rfl (k_M s6) rfl rfl (Nat.le_of_ble_eq_true rfl) (s2_X11_settles l h5 10 s6 (by omega) (by omega) (fun q => absurd q (by decide)) (by decide)) (rm_ok (by decide) (by decide)) (zq_v fun h556 q554 => ?_)
            obtain ⟨s558, f563, u559, u560, u561, u562⟩ := q554
            have a564 := zAny_set (zAny_d u306 rfl (show x4 = 0 by omega)) (Or.inl rfl) u559 u560 f563 (fun q => absurd q (by decide))
            have b565 := zAny_f a564.1
            have b565r := zAny_br a564.1
            have b566 : h556.2 0 12 = (h5.2 0 12) := (zfr_f f563 rfl rfl)
            have b567 : h556.2 0 13 = (h5.2 0 13) := (zfr_f f563 rfl rfl)
            have b568 : h556.2 0 14 = (h5.2 0 14) := (zfr_f f563 rfl rfl)
            have b569 : 0 ≤ (h556.2 0 25) ∧ (h556.2 0 25) ≤ 400 := fM_25 s558
            have b570 : 0 ≤ (h556.2 0 26) ∧ (h556.2 0 26) ≤ 8 := fM_26 s558
            have b571 : 0 ≤ (h556.2 0 28) ∧ (h556.2 0 28) ≤ 40 := fM_28 s558
            refine zj_aload_n (zdk ttX11_readAny 68 rfl rfl) rfl (by decide) ?_
            refine zj_bipush (zdk ttX11_readAny 69 rfl rfl) (by decide) ?_
            refine zj_callV (av := [.inl 10]) (st := []) (zdk ttX11_readAny 70 rfl rfl) mb_X11_waits mv_RX11_229 (ci := 11) rfl rfl (k_M s558) rfl rfl (Nat.le_of_ble_eq_true rfl) (s_X11_waits l h556 10 s558 (by omega) (by omega)) (rm_ok (by decide) (by decide)) (zq_v fun h574 q572 => ?_)
            obtain ⟨s576, f580, u577, u578, u579⟩ := q572
            refine zj_aload_n (zdk ttX11_readAny 71 rfl rfl) rfl (by decide) ?_
            refine zj_callV (av := []) (st := []) (zdk ttX11_readAny 72 rfl rfl) mb_X11_reads mv_RX11_204 (ci := 11) rfl rfl (k_M s576) rfl rfl (Nat.le_of_ble_eq_true rfl) (s2_X11_reads l h574 s576) (rm_ok (by decide) (by decide)) (zq_v fun h583 q581 => ?_)
            obtain ⟨s585, f589, u586, u587, u588⟩ := q581
            refine zj_iconst (zdk ttX11_readAny 73 rfl rfl) ?_
            refine zj_istore_n (L' := [some (.inr 0), some (.inl x3), some (.inl 1), none]) (zdk ttX11_readAny 74 rfl rfl) (by decide) rfl ?_
            refine zj_goto (t := 9) (zdk ttX11_readAny 75 rfl rfl) (by decide) ?_
            have b590 : 0 ≤ (h583.2 0 12) ∧ (h583.2 0 12) ≤ 400 := fM_12 s585
            have b591 : 0 ≤ (h583.2 0 13) ∧ (h583.2 0 13) ≤ 400 := fM_13 s585
            have b592 : 0 ≤ (h583.2 0 14) ∧ (h583.2 0 14) ≤ 4 := fM_14 s585
            have b593 : h583.2 0 25 = (h556.2 0 25) := ((zfr_f f589 rfl rfl).trans (zfr_f f580 rfl rfl))
            have b594 : h583.2 0 26 = (h556.2 0 26) := ((zfr_f f589 rfl rfl).trans (zfr_f f580 rfl rfl))
            have b595 : h583.2 0 28 = (h574.2 0 28) := (zfr_f f589 rfl rfl)
            have b596 : 0 ≤ (h574.2 0 28) ∧ (h574.2 0 28) ≤ 40 := fM_28 s576
            have f599 : zfr [12, 13, 14, 15, 25, 26, 28, 29, 30] [14, 15, 16] h h556 := zfr_t f7 f563 rfl rfl
            have f598 : zfr [12, 13, 14, 15, 25, 26, 28, 29, 30] [14, 15, 16] h h574 := zfr_t f599 f580 rfl rfl
            have f597 : zfr [12, 13, 14, 15, 25, 26, 28, 29, 30] [14, 15, 16] h h583 := zfr_t f598 f589 rfl rfl
            have b600 : h574.2 0 12 = (h5.2 0 12) := ((zfr_f f580 rfl rfl).trans (zfr_f f563 rfl rfl))
            have b601 : h574.2 0 13 = (h5.2 0 13) := ((zfr_f f580 rfl rfl).trans (zfr_f f563 rfl rfl))
            have b602 : h574.2 0 14 = (h5.2 0 14) := ((zfr_f f580 rfl rfl).trans (zfr_f f563 rfl rfl))
            have b603 : h574.2 0 25 = (h556.2 0 25) := (zfr_f f580 rfl rfl)
            have b604 : h583.2 0 25 = (h556.2 0 25) := ((zfr_f f589 rfl rfl).trans (zfr_f f580 rfl rfl))
            have t605 : tok h574 := (tok_same (tok_same u305 f563 rfl rfl rfl rfl) f580 rfl rfl rfl rfl)
            unfold tok at t605
            have b606 : 0 ≤ (h.2 0 14) ∧ (h.2 0 14) ≤ 4 := fM_14 s0
            have b607 : -2147483648 ≤ (h.2 0 15) ∧ (h.2 0 15) ≤ 2147483647 := fM_15 s0
            have b608 : h556.2 0 14 = (h5.2 0 14) := (zfr_f f563 rfl rfl)
            have b609 : h556.2 0 15 = (h5.2 0 15) := (zfr_f f563 rfl rfl)
            have b610 : h574.2 0 14 = (h5.2 0 14) := ((zfr_f f580 rfl rfl).trans (zfr_f f563 rfl rfl))
            have b611 : h574.2 0 15 = (h5.2 0 15) := ((zfr_f f580 rfl rfl).trans (zfr_f f563 rfl rfl))
            have b612 : -2147483648 ≤ (h583.2 0 15) ∧ (h583.2 0 15) ≤ 2147483647 := fM_15 s585
            exact ih310  x3 1 h583 (by omega) (by omega) s585 f597 u586 (zAny_d (br := x3) (d := 1) (zAny_push (w := 10) (br := x3) a564.1 (by decide) (fun q => absurd q (by decide)) (fun _ => rfl) (fun _ => (a564.2.1 rfl)) (fun q => absurd q (by decide)) (zfr_r [26] [] h556) (fun q => absurd q (by decide)) (fun _ => rfl) (fun q => absurd q (by decide)) (fun _ => rfl) u577 u578 u579 f580 f589 (by omega)) rfl (by omega)) (tLo_f (tLo_f (tLo_t u307 u562) (fun i => zfr_a f580 rfl (by decide)) (fun i => zfr_a f580 rfl (by decide))) (fun i => zfr_a f589 rfl (by decide)) (fun i => zfr_a f589 rfl (by decide))) (by intro T j t0; obtain ⟨x_1j, x_1a, x_1l, x_1r⟩ := u308 T j t0; have k_2 := tT0 x_1a.2.2.1; have k_2j := x_1a.1.1; have z9 := u306; have a_3 : tPm 0 T x_1j h556 := tPm_f x_1a (fun k => (zfr_a f563 rfl (by decide))) (fun k => (zfr_a f563 rfl (by decide))) (zfr_f f563 rfl rfl) (zfr_f f563 rfl rfl) (zfr_f f563 rfl rfl) (zfr_f f563 rfl rfl) (zfr_f f563 rfl rfl); have a_4 : tPm 0 T x_1j h574 := tPm_f a_3 (fun k => (zfr_a f580 rfl (by decide))) (fun k => (zfr_a f580 rfl (by decide))) (zfr_f f580 rfl rfl) (zfr_f f580 rfl rfl) (zfr_f f580 rfl rfl) (zfr_f f580 rfl rfl) (zfr_f f580 rfl rfl); have k_5 := tT0 a_4.2.2.1; have k_5j := a_4.1.1; have a_6 : tPm 0 T (x_1j + 1) h583 := tPm_r a_4 (by omega) (u588 a_4.2.2.2.2.2.1 (tPm_l a_4 (by omega))) (fun k => (zfr_a f589 rfl (by decide))) (fun k => (zfr_a f589 rfl (by decide))) (zfr_f f589 rfl rfl); have g_7 := u559; have c_8 : tCm h574 = tCm h556 := (tCm_f (zfr_f f580 rfl rfl) (fun i => zfr_a f580 rfl (by decide)) (fun i => zfr_a f580 rfl (by decide))).trans rfl; have c_9 : tCm h583 = tCm h556 := (tCm_f (zfr_f f589 rfl rfl) (fun i => zfr_a f589 rfl (by decide)) (fun i => zfr_a f589 rfl (by decide))).trans c_8; exact ⟨(x_1j + 1), a_6, by omega, fun p9 s9 d9 o9 y9 => by rw [if_neg (by decide), (tSk_p (f := h5.2 16) (g := h583.2 16) (n := h556.2 0 28) (n' := h583.2 0 28) (w := 10) (u559).2.1 (by rw [show h583.2 0 28 = h574.2 0 28 from (zfr_f f589 rfl rfl), u577]) (by rw [show h583.2 16 = h574.2 16 from (funext fun _ => (zfr_a f589 rfl (by decide)))]; exact u578) (fun k hk => by rw [show h583.2 16 = h574.2 16 from (funext fun _ => (zfr_a f589 rfl (by decide))), u579 k hk, show h556.2 16 = h5.2 16 from (funext fun _ => (zfr_a f563 rfl (by decide)))]))]; exact tRe_k (tRe_s (tRe_k (tRe_t (by have q9 := x_1r p9 s9 d9 o9 y9; rw [if_pos (by omega)] at q9; exact q9) (tSk_ac z9.1 g_7.2.1 g_7.1 g_7.2.2.2.1 (z9.2.2.2.2.2.2.2.2 (by omega)).1 u560 y9)) (tRp_k u561 (tEo_10 0))) (tM11_a (by omega))) (c_9 : tCm h583 = tCm h556).symm⟩) (by omega)
      · refine zj_aload_n (zdk ttX11_readAny 9 rfl rfl) rfl (by decide) ?_
        refine zj_bipush (zdk ttX11_readAny 10 rfl rfl) (by decide) ?_
        refine zj_callV (av := [.inl 6]) (st := []) (zdk ttX11_readAny 11 rfl rfl) mb_X11_isWord mv_RX11_226 (ci := 11) rfl rfl (k_M s6) rfl rfl (Nat.le_of_ble_eq_true rfl) (s_X11_isWord l h5 6 s6 (by omega)) (rm_ok (by decide) (by decide)) (zq_i fun v614 h615 q613 => ?_)
        obtain ⟨rfl, b617, b618, ⟨rfl, b616⟩ | ⟨rfl, b616⟩⟩ := q613
        · refine zj_istore_n (L' := [some (.inr 0), some (.inl x3), some (.inl x4), some (.inl 0)]) (zdk ttX11_readAny 12 rfl rfl) (by decide) rfl ?_
          refine zj_iload_n (zdk ttX11_readAny 13 rfl rfl) rfl ?_
          refine zj_if_ne (t := 33) (zdk ttX11_readAny 14 rfl rfl) (by decide) (by decide) (fun c619 => ?_) (fun c619 => ?_)
          · exact absurd c619 (by omega)
          · refine zj_aload_n (zdk ttX11_readAny 15 rfl rfl) rfl (by decide) ?_
            refine zj_bipush (zdk ttX11_readAny 16 rfl rfl) (by decide) ?_
            refine zj_callV (av := [.inl 40]) (st := []) (zdk ttX11_readAny 17 rfl rfl) mb_X11_isSign mv_RX11_211 (ci := 11) rfl rfl (k_M s6) rfl rfl (Nat.le_of_ble_eq_true rfl) (s_X11_isSign l h5 40 s6 (by omega)) (rm_ok (by decide) (by decide)) (zq_i fun v621 h622 q620 => ?_)
            obtain ⟨rfl, b624, b625, ⟨rfl, b623⟩ | ⟨rfl, b623⟩⟩ := q620
            · refine zj_if_eq (t := 88) (zdk ttX11_readAny 18 rfl rfl) (by decide) (by decide) (fun c626 => ?_) (fun c626 => ?_)
              · refine zj_aload_n (zdk ttX11_readAny 49 rfl rfl) rfl (by decide) ?_
                refine zj_callV (av := []) (st := []) (zdk ttX11_readAny 50 rfl rfl) mb_X11_readCompared mv_RX11_232 (ci := 11) rfl rfl (k_M s6) rfl rfl (Nat.le_of_ble_eq_true rfl) (s2_X11_readCompared l h5 s6 u305 (by omega)) (rm_ok (by decide) (by decide)) (zq_i fun v628 h629 q627 => ?_)
                obtain ⟨b630, s631, f635, u632, u633, u634⟩ := q627
                refine zj_iconst (zdk ttX11_readAny 51 rfl rfl) ?_
                refine zj_icmp_ne (t := 98) (zdk ttX11_readAny 52 rfl rfl) (by decide) (by omega) (by decide) (fun c636 => ?_) (fun c636 => ?_)
                · refine zj_aload_n (zdk ttX11_readAny 55 rfl rfl) rfl (by decide) ?_
                  refine zj_bipush (zdk ttX11_readAny 56 rfl rfl) (by decide) ?_
                  have r637 := u632 (by omega)
                  have r637b := r637.2.1.2
                  have r637t := r637.1
                  unfold tok at r637t
                  have b638 : 0 ≤ (h629.2 0 12) ∧ (h629.2 0 12) ≤ 400 := fM_12 s631
                  have b639 : 0 ≤ (h629.2 0 13) ∧ (h629.2 0 13) ≤ 400 := fM_13 s631
                  have b640 : 0 ≤ (h629.2 0 14) ∧ (h629.2 0 14) ≤ 4 := fM_14 s631
                  have b641 : 0 ≤ (h629.2 0 25) ∧ (h629.2 0 25) ≤ 400 := fM_25 s631
                  have b642 : h629.2 0 26 = (h5.2 0 26) := (zfr_f f635 rfl rfl)
                  have b643 : h629.2 0 28 = (h5.2 0 28) := (zfr_f f635 rfl rfl)
                  refine zj_callV (av := [.inl 9]) (st := []) (zdk ttX11_readAny 57 rfl rfl) mb_X11_settles mv_RX11_235 (ci := 11) rfl rfl (k_M s631) rfl rfl (Nat.le_of_ble_eq_true rfl) (s2_X11_settles l h629 9 s631 (by omega) (by omega) (fun _ => zck_c b311.2.1 (funext fun _ => (zfr_a f635 rfl (by decide))) (by omega) (by omega)) (by decide)) (rm_ok (by decide) (by decide)) (zq_v fun h646 q644 => ?_)
                  obtain ⟨s648, f653, u649, u650, u651, u652⟩ := q644
                  refine zj_iconst (zdk ttX11_readAny 58 rfl rfl) ?_
                  refine zj_istore_n (L' := [some (.inr 0), some (.inl x3), some (.inl 0), some (.inl 0)]) (zdk ttX11_readAny 59 rfl rfl) (by decide) rfl ?_
                  refine zj_goto (t := 9) (zdk ttX11_readAny 60 rfl rfl) (by decide) ?_
                  refine zj_kill (k := 3) (L' := [some (.inr 0), some (.inl x3), some (.inl 0), none]) rfl ?_
                  have b654 : h646.2 0 12 = (h629.2 0 12) := (zfr_f f653 rfl rfl)
                  have b655 : h646.2 0 13 = (h629.2 0 13) := (zfr_f f653 rfl rfl)
                  have b656 : h646.2 0 14 = (h629.2 0 14) := (zfr_f f653 rfl rfl)
                  have b657 : 0 ≤ (h646.2 0 25) ∧ (h646.2 0 25) ≤ 400 := fM_25 s648
                  have b658 : 0 ≤ (h646.2 0 26) ∧ (h646.2 0 26) ≤ 8 := fM_26 s648
                  have b659 : 0 ≤ (h646.2 0 28) ∧ (h646.2 0 28) ≤ 40 := fM_28 s648
                  have f661 : zfr [12, 13, 14, 15, 25, 26, 28, 29, 30] [14, 15, 16] h h629 := zfr_t f7 f635 rfl rfl
                  have f660 : zfr [12, 13, 14, 15, 25, 26, 28, 29, 30] [14, 15, 16] h h646 := zfr_t f661 f653 rfl rfl
                  have b662 : 0 ≤ (h.2 0 14) ∧ (h.2 0 14) ≤ 4 := fM_14 s0
                  have b663 : -2147483648 ≤ (h.2 0 15) ∧ (h.2 0 15) ≤ 2147483647 := fM_15 s0
                  have b664 : -2147483648 ≤ (h629.2 0 15) ∧ (h629.2 0 15) ≤ 2147483647 := fM_15 s631
                  have b665 : h646.2 0 14 = (h629.2 0 14) := (zfr_f f653 rfl rfl)
                  have b666 : h646.2 0 15 = (h629.2 0 15) := (zfr_f f653 rfl rfl)
                  exact ih310  x3 0 h646 (by omega) (by omega) s648 f660 (tok_same r637.1 f653 rfl rfl rfl rfl) (zAny_opd u306 (by omega) r637.2.1 r637.2.2 ⟨zfr_f f635 rfl rfl, zfr_f f635 rfl rfl, fun j => zfr_a f635 rfl (by decide)⟩ u649 u650 f653) (tLo_t (tLo_t u307 u633) u652) (by intro T j t0; obtain ⟨x_1j, x_1a, x_1l, x_1r⟩ := u308 T j t0; have k_2 := tT0 x_1a.2.2.1; have k_2j := x_1a.1.1; have z9 := u306; obtain ⟨r_3j, r_3a, r_3l, r_3r⟩ := (u634 T x_1j x_1a).1 (by omega); have a_4 : tPm 0 T r_3j h646 := tPm_f r_3a (fun k => (zfr_a f653 rfl (by decide))) (fun k => (zfr_a f653 rfl (by decide))) (zfr_f f653 rfl rfl) (zfr_f f653 rfl rfl) (zfr_f f653 rfl rfl) (zfr_f f653 rfl rfl) (zfr_f f653 rfl rfl); have g_5 := u649; exact ⟨r_3j, a_4, by omega, fun p9 s9 d9 o9 y9 => by rw [if_pos rfl, show h646.2 16 = h5.2 16 from (funext fun _ => ((zfr_a f653 rfl (by decide)).trans (zfr_a f635 rfl (by decide))))]; exact tRe_k (tRe_t (tRe_t (tRe_k (tRe_s (by have q9 := x_1r p9 s9 d9 o9 y9; rw [if_neg (by omega)] at q9; exact q9) (tM8_s (by omega))) (rfl : tCm h5 = tCm h5).symm) (r_3r p9 (tSk (h5.2 16) (h5.2 0 28).toNat ++ s9) d9)) (tSk_9c _ (h646.2 0 28) (h5.2 0 28) _ g_5.2.1 (by have a9 := g_5.1; rw [show h629.2 0 28 = h5.2 0 28 from (zfr_f f635 rfl rfl)] at a9; exact a9) rfl (by have a9 := g_5.2.2.2.1; rw [show h629.2 0 28 = h5.2 0 28 from (zfr_f f635 rfl rfl), show h629.2 16 = h5.2 16 from (funext fun _ => (zfr_a f635 rfl (by decide)))] at a9; exact a9))) (by have e9 := u651; rw [tEo_9, show h629.2 0 28 = h5.2 0 28 from (zfr_f f635 rfl rfl)] at e9; exact e9.symm)⟩) (by omega)
                · refine zj_iconst (zdk ttX11_readAny 53 rfl rfl) ?_
                  have f667 : zfr [12, 13, 14, 15, 25, 26, 28, 29, 30] [14, 15, 16] h h629 := zfr_t f7 f635 rfl rfl
                  have b668 : 0 ≤ (h.2 0 14) ∧ (h.2 0 14) ≤ 4 := fM_14 s0
                  have b669 : -2147483648 ≤ (h.2 0 15) ∧ (h.2 0 15) ≤ 2147483647 := fM_15 s0
                  have b670 : 0 ≤ (h629.2 0 14) ∧ (h629.2 0 14) ≤ 4 := fM_14 s631
                  have b671 : -2147483648 ≤ (h629.2 0 15) ∧ (h629.2 0 15) ≤ 2147483647 := fM_15 s631
                  exact zj_iret rfl (zdk ttX11_readAny 54 rfl rfl) (Nat.le_refl _) (Nat.le_refl _) ⟨(-1), rfl, by omega, s631, f667, (fun q => absurd q (by omega)), (tLo_t u307 u633), (fun z => absurd z (by omega)), (by intro T j t0; obtain ⟨x_1j, x_1a, x_1l, x_1r⟩ := u308 T j t0; have k_2 := tT0 x_1a.2.2.1; have k_2j := x_1a.1.1; have z9 := u306; obtain ⟨e_3i, e_3f, e_3p, e_3r⟩ := (u634 T x_1j x_1a).2 (by omega); have e_3q : tEp h h629 e_3i e_3f := (by have q9 := e_3p; unfold tEp at q9 ⊢; rw [show h5.2 7 = h.2 7 from funext fun i9 => (zfr_a f7 rfl (by decide)), show h5.2 0 11 = h.2 0 11 from (zfr_f f7 rfl rfl)] at q9; exact q9); exact ⟨fun z => absurd z (by omega), fun _ => ⟨e_3i, e_3f, e_3q, fun p9 s9 d9 o9 y9 => tRe_t (tRe_k (tRe_s (by have q9 := x_1r p9 s9 d9 o9 y9; rw [if_neg (by omega)] at q9; exact q9) (tM8_s (by omega))) (rfl : tCm h5 = tCm h5).symm) (e_3r p9 (tSk (h5.2 16) (h5.2 0 28).toNat ++ s9) d9)⟩⟩)⟩
              · exact absurd c626 (by omega)
            · refine zj_if_eq (t := 88) (zdk ttX11_readAny 18 rfl rfl) (by decide) (by decide) (fun c672 => ?_) (fun c672 => ?_)
              · exact absurd c672 (by omega)
              · refine zj_aload_n (zdk ttX11_readAny 19 rfl rfl) rfl (by decide) ?_
                refine zj_geti (v := (h5.2 0 26)) (zdk ttX11_readAny 20 rfl rfl) zf_RX11_223 rfl (k_M s6) rfl ?_
                refine zj_bipush (zdk ttX11_readAny 21 rfl rfl) (by decide) ?_
                refine zj_icmp_ne (t := 48) (zdk ttX11_readAny 22 rfl rfl) (by decide) (by omega) (by decide) (fun c673 => ?_) (fun c673 => ?_)
                · refine zj_aload_n (zdk ttX11_readAny 27 rfl rfl) rfl (by decide) ?_
                  refine zj_aload_n (zdk ttX11_readAny 28 rfl rfl) rfl (by decide) ?_
                  refine zj_geti (v := (h5.2 0 26)) (zdk ttX11_readAny 29 rfl rfl) zf_RX11_223 rfl (k_M s6) rfl ?_
                  refine zj_iconst (zdk ttX11_readAny 30 rfl rfl) ?_
                  refine zj_iadd (zdk ttX11_readAny 31 rfl rfl) ?_
                  refine zj_puti (zdk ttX11_readAny 32 rfl rfl) zf_RX11_223 rfl (k_M s6) (Or.inl zw_RX11_223) (k2 := 26) rfl (fun h674 e675 => ?_)
                  refine zj_iload_n (zdk ttX11_readAny 33 rfl rfl) rfl ?_
                  refine zj_if_ne (t := 66) (zdk ttX11_readAny 34 rfl rfl) (by decide) (by decide) (fun c676 => ?_) (fun c676 => ?_)
                  · exact absurd c676 (by omega)
                  · refine zj_iload_n (zdk ttX11_readAny 35 rfl rfl) rfl ?_
                    refine zj_iconst (zdk ttX11_readAny 36 rfl rfl) ?_
                    refine zj_iadd (zdk ttX11_readAny 37 rfl rfl) ?_
                    refine zj_istore_n (L' := [some (.inr 0), some (.inl (x3 + 1)), some (.inl x4), some (.inl 0)]) (zdk ttX11_readAny 38 rfl rfl) (by decide) rfl ?_
                    refine zj_aload_n (zdk ttX11_readAny 39 rfl rfl) rfl (by decide) ?_
                    refine zj_iload_n (zdk ttX11_readAny 40 rfl rfl) rfl ?_
                    refine zj_if_eq (t := 76) (zdk ttX11_readAny 41 rfl rfl) (by decide) (by decide) (fun c677 => ?_) (fun c677 => ?_)
                    · refine zj_bipush (zdk ttX11_readAny 44 rfl rfl) (by decide) ?_
                      have s678 : okM h674 := fwM_26 s6 e675 (by omega)
                      have b679 : h674.2 0 12 = (h5.2 0 12) := (zwr_r e675 (by first | decide | exact (absurd ·.1 (by decide)) | exact (absurd ·.2 (by decide)) | omega))
                      have b680 : h674.2 0 13 = (h5.2 0 13) := (zwr_r e675 (by first | decide | exact (absurd ·.1 (by decide)) | exact (absurd ·.2 (by decide)) | omega))
                      have b681 : h674.2 0 14 = (h5.2 0 14) := (zwr_r e675 (by first | decide | exact (absurd ·.1 (by decide)) | exact (absurd ·.2 (by decide)) | omega))
                      have b682 : h674.2 0 25 = (h5.2 0 25) := (zwr_r e675 (by first | decide | exact (absurd ·.1 (by decide)) | exact (absurd ·.2 (by decide)) | omega))
                      have b683 : h674.2 0 26 = ((h5.2 0 26) + 1) := (zwr_v e675)
                      have b684 : h674.2 0 28 = (h5.2 0 28) := (zwr_r e675 (by first | decide | exact (absurd ·.1 (by decide)) | exact (absurd ·.2 (by decide)) | omega))
                      refine zj_callV (av := [.inl 12]) (st := []) (zdk ttX11_readAny 45 rfl rfl) mb_X11_waits mv_RX11_229 (ci := 11) rfl rfl (k_M s678) rfl rfl (Nat.le_of_ble_eq_true rfl) (s_X11_waits l h674 12 s678 (by omega) (by omega)) (rm_ok (by decide) (by decide)) (zq_v fun h687 q685 => ?_)
                      obtain ⟨s689, f693, u690, u691, u692⟩ := q685
                      refine zj_aload_n (zdk ttX11_readAny 46 rfl rfl) rfl (by decide) ?_
                      refine zj_callV (av := []) (st := []) (zdk ttX11_readAny 47 rfl rfl) mb_X11_reads mv_RX11_204 (ci := 11) rfl rfl (k_M s689) rfl rfl (Nat.le_of_ble_eq_true rfl) (s2_X11_reads l h687 s689) (rm_ok (by decide) (by decide)) (zq_v fun h696 q694 => ?_)
                      obtain ⟨s698, f702, u699, u700, u701⟩ := q694
                      refine zj_goto (t := 9) (zdk ttX11_readAny 48 rfl rfl) (by decide) ?_
                      refine zj_kill (k := 3) (L' := [some (.inr 0), some (.inl (x3 + 1)), some (.inl x4), none]) rfl ?_
                      have b703 : 0 ≤ (h696.2 0 12) ∧ (h696.2 0 12) ≤ 400 := fM_12 s698
                      have b704 : 0 ≤ (h696.2 0 13) ∧ (h696.2 0 13) ≤ 400 := fM_13 s698
                      have b705 : 0 ≤ (h696.2 0 14) ∧ (h696.2 0 14) ≤ 4 := fM_14 s698
                      have b706 : h696.2 0 25 = (h5.2 0 25) := (((zfr_f f702 rfl rfl).trans (zfr_f f693 rfl rfl)).trans (zwr_r e675 (by first | decide | exact (absurd ·.1 (by decide)) | exact (absurd ·.2 (by decide)) | omega)))
                      have b707 : h696.2 0 26 = ((h5.2 0 26) + 1) := (((zfr_f f702 rfl rfl).trans (zfr_f f693 rfl rfl)).trans (zwr_v e675))
                      have b708 : h696.2 0 28 = (h687.2 0 28) := (zfr_f f702 rfl rfl)
                      have b709 : 0 ≤ (h687.2 0 28) ∧ (h687.2 0 28) ≤ 40 := fM_28 s689
                      have f712 : zfr [12, 13, 14, 15, 25, 26, 28, 29, 30] [14, 15, 16] h h674 := zfr_wf f7 e675 rfl
                      have f711 : zfr [12, 13, 14, 15, 25, 26, 28, 29, 30] [14, 15, 16] h h687 := zfr_t f712 f693 rfl rfl
                      have f710 : zfr [12, 13, 14, 15, 25, 26, 28, 29, 30] [14, 15, 16] h h696 := zfr_t f711 f702 rfl rfl
                      have b713 : h687.2 0 12 = (h5.2 0 12) := ((zfr_f f693 rfl rfl).trans (zwr_r e675 (by first | decide | exact (absurd ·.1 (by decide)) | exact (absurd ·.2 (by decide)) | omega)))
                      have b714 : h687.2 0 13 = (h5.2 0 13) := ((zfr_f f693 rfl rfl).trans (zwr_r e675 (by first | decide | exact (absurd ·.1 (by decide)) | exact (absurd ·.2 (by decide)) | omega)))
                      have b715 : h687.2 0 14 = (h5.2 0 14) := ((zfr_f f693 rfl rfl).trans (zwr_r e675 (by first | decide | exact (absurd ·.1 (by decide)) | exact (absurd ·.2 (by decide)) | omega)))
                      have b716 : h687.2 0 25 = (h5.2 0 25) := ((zfr_f f693 rfl rfl).trans (zwr_r e675 (by first | decide | exact (absurd ·.1 (by decide)) | exact (absurd ·.2 (by decide)) | omega)))
                      have b717 : h696.2 0 25 = (h5.2 0 25) := (((zfr_f f702 rfl rfl).trans (zfr_f f693 rfl rfl)).trans (zwr_r e675 (by first | decide | exact (absurd ·.1 (by decide)) | exact (absurd ·.2 (by decide)) | omega)))
                      have t718 : tok h687 := (tok_same (tok_same u305 (zfr_wf (zfr_r [26] [] h5) e675 rfl) rfl rfl rfl rfl) f693 rfl rfl rfl rfl)
                      unfold tok at t718
                      have b719 : 0 ≤ (h.2 0 14) ∧ (h.2 0 14) ≤ 4 := fM_14 s0
                      have b720 : -2147483648 ≤ (h.2 0 15) ∧ (h.2 0 15) ≤ 2147483647 := fM_15 s0
                      have b721 : h674.2 0 14 = (h5.2 0 14) := (zwr_r e675 (by first | decide | exact (absurd ·.1 (by decide)) | exact (absurd ·.2 (by decide)) | omega))
                      have b722 : h674.2 0 15 = (h5.2 0 15) := (zwr_r e675 (by first | decide | exact (absurd ·.1 (by decide)) | exact (absurd ·.2 (by decide)) | omega))
                      have b723 : h687.2 0 14 = (h5.2 0 14) := ((zfr_f f693 rfl rfl).trans (zwr_r e675 (by first | decide | exact (absurd ·.1 (by decide)) | exact (absurd ·.2 (by decide)) | omega)))
                      have b724 : h687.2 0 15 = (h5.2 0 15) := ((zfr_f f693 rfl rfl).trans (zwr_r e675 (by first | decide | exact (absurd ·.1 (by decide)) | exact (absurd ·.2 (by decide)) | omega)))
                      have b725 : -2147483648 ≤ (h696.2 0 15) ∧ (h696.2 0 15) ≤ 2147483647 := fM_15 s698
                      exact ih310  (x3 + 1) x4 h696 (by omega) (by omega) s698 f710 u699 (zAny_d (br := (x3 + 1)) (d := 1) (zAny_push (w := 12) (br := x3) u306 (by decide) (fun _ => by omega) (fun q => absurd q (by decide)) (fun q => absurd q (by decide)) (fun q => absurd q (by decide)) (zfr_wf (zfr_r [26] [] h5) e675 rfl) (fun _ => zwr_v e675) (fun q => absurd q (by decide)) (fun _ => rfl) (fun q => absurd rfl q) u690 u691 u692 f693 f702 (by omega)) rfl (by omega)) (tLo_f (tLo_f (tLo_f u307 (fun i => zwr_r e675 (by first | decide | exact (absurd ·.1 (by decide)) | exact (absurd ·.2 (by decide)) | omega)) (fun i => zwr_r e675 (by first | decide | exact (absurd ·.1 (by decide)) | exact (absurd ·.2 (by decide)) | omega))) (fun i => zfr_a f693 rfl (by decide)) (fun i => zfr_a f693 rfl (by decide))) (fun i => zfr_a f702 rfl (by decide)) (fun i => zfr_a f702 rfl (by decide))) (by intro T j t0; obtain ⟨x_1j, x_1a, x_1l, x_1r⟩ := u308 T j t0; have k_2 := tT0 x_1a.2.2.1; have k_2j := x_1a.1.1; have z9 := u306; have a_3 : tPm 0 T x_1j h674 := tPm_f x_1a (fun k => (zwr_r e675 (by first | decide | exact (absurd ·.1 (by decide)) | exact (absurd ·.2 (by decide)) | omega))) (fun k => (zwr_r e675 (by first | decide | exact (absurd ·.1 (by decide)) | exact (absurd ·.2 (by decide)) | omega))) (zwr_r e675 (by first | decide | exact (absurd ·.1 (by decide)) | exact (absurd ·.2 (by decide)) | omega)) (zwr_r e675 (by first | decide | exact (absurd ·.1 (by decide)) | exact (absurd ·.2 (by decide)) | omega)) (zwr_r e675 (by first | decide | exact (absurd ·.1 (by decide)) | exact (absurd ·.2 (by decide)) | omega)) (zwr_r e675 (by first | decide | exact (absurd ·.1 (by decide)) | exact (absurd ·.2 (by decide)) | omega)) (zwr_r e675 (by first | decide | exact (absurd ·.1 (by decide)) | exact (absurd ·.2 (by decide)) | omega)); have a_4 : tPm 0 T x_1j h687 := tPm_f a_3 (fun k => (zfr_a f693 rfl (by decide))) (fun k => (zfr_a f693 rfl (by decide))) (zfr_f f693 rfl rfl) (zfr_f f693 rfl rfl) (zfr_f f693 rfl rfl) (zfr_f f693 rfl rfl) (zfr_f f693 rfl rfl); have k_5 := tT0 a_4.2.2.1; have k_5j := a_4.1.1; have a_6 : tPm 0 T (x_1j + 1) h696 := tPm_r a_4 (by omega) (u701 a_4.2.2.2.2.2.1 (tPm_l a_4 (by omega))) (fun k => (zfr_a f702 rfl (by decide))) (fun k => (zfr_a f702 rfl (by decide))) (zfr_f f702 rfl rfl); have c_7 : tCm h674 = tCm h5 := (tCm_f (zwr_r e675 (by first | decide | exact (absurd ·.1 (by decide)) | exact (absurd ·.2 (by decide)) | omega)) (fun i => zwr_r e675 (by first | decide | exact (absurd ·.1 (by decide)) | exact (absurd ·.2 (by decide)) | omega)) (fun i => zwr_r e675 (by first | decide | exact (absurd ·.1 (by decide)) | exact (absurd ·.2 (by decide)) | omega))).trans rfl; have c_8 : tCm h687 = tCm h5 := (tCm_f (zfr_f f693 rfl rfl) (fun i => zfr_a f693 rfl (by decide)) (fun i => zfr_a f693 rfl (by decide))).trans c_7; have c_9 : tCm h696 = tCm h5 := (tCm_f (zfr_f f702 rfl rfl) (fun i => zfr_a f702 rfl (by decide)) (fun i => zfr_a f702 rfl (by decide))).trans c_8; exact ⟨(x_1j + 1), a_6, by omega, fun p9 s9 d9 o9 y9 => by rw [if_neg (by omega), (tSk_p (f := h5.2 16) (g := h696.2 16) (n := h5.2 0 28) (n' := h696.2 0 28) (w := 12) z9.2.1 (by rw [show h696.2 0 28 = h687.2 0 28 from (zfr_f f702 rfl rfl), u690, show h674.2 0 28 = h5.2 0 28 from (zwr_r e675 (by first | decide | exact (absurd ·.1 (by decide)) | exact (absurd ·.2 (by decide)) | omega))]) (by rw [show h696.2 16 = h687.2 16 from (funext fun _ => (zfr_a f702 rfl (by decide))), show h5.2 0 28 = h674.2 0 28 from ((zwr_r e675 (by first | decide | exact (absurd ·.1 (by decide)) | exact (absurd ·.2 (by decide)) | omega))).symm]; exact u691) (fun k hk => by rw [show h696.2 16 = h687.2 16 from (funext fun _ => (zfr_a f702 rfl (by decide))), u692 k (by rw [show h674.2 0 28 = h5.2 0 28 from (zwr_r e675 (by first | decide | exact (absurd ·.1 (by decide)) | exact (absurd ·.2 (by decide)) | omega))]; exact hk), show h674.2 16 = h5.2 16 from (funext fun _ => (zwr_r e675 (by first | decide | exact (absurd ·.1 (by decide)) | exact (absurd ·.2 (by decide)) | omega)))]))]; exact tRe_k (tRe_s (by have q9 := x_1r p9 s9 d9 o9 y9; rw [if_neg (by omega)] at q9; exact q9) (tM8_b (by omega) (by show tOpn (tSk (h5.2 16) (h5.2 0 28).toNat ++ s9) < 8; rw [tSk_n _ _ z9.2.1, o9]; have a9 := z9.2.2.1; omega))) (c_9 : tCm h696 = tCm h5).symm⟩) (by omega)
                    · exact absurd c677 (by omega)
                · refine zj_aload_n (zdk ttX11_readAny 23 rfl rfl) rfl (by decide) ?_
                  refine zj_iconst (zdk ttX11_readAny 24 rfl rfl) ?_
                  refine zj_callV (av := [.inl 3]) (st := []) (zdk ttX11_readAny 25 rfl rfl) mb_X11_errs mv_RX11_197 (ci := 11) rfl rfl (k_M s6) rfl rfl (Nat.le_of_ble_eq_true rfl) (s2_X11_errs l h5 3 s6 (by omega)) (rm_ok (by decide) (by decide)) (zq_i fun v727 h728 q726 => ?_)
                  obtain ⟨b729, s730, f732, u731⟩ := q726
                  have f733 : zfr [12, 13, 14, 15, 25, 26, 28, 29, 30] [14, 15, 16] h h728 := zfr_t f7 f732 rfl rfl
                  have b734 : 0 ≤ (h.2 0 14) ∧ (h.2 0 14) ≤ 4 := fM_14 s0
                  have b735 : -2147483648 ≤ (h.2 0 15) ∧ (h.2 0 15) ≤ 2147483647 := fM_15 s0
                  have b736 : h728.2 0 14 = (h5.2 0 14) := (zfr_f f732 rfl rfl)
                  have b737 : h728.2 0 15 = (h5.2 0 15) := (zfr_f f732 rfl rfl)
                  exact zj_iret rfl (zdk ttX11_readAny 26 rfl rfl) (Nat.le_refl _) (Nat.le_refl _) ⟨v727, rfl, by omega, s730, f733, (fun q => absurd q (by omega)), (tLo_f u307 (fun i => zfr_a f732 rfl (by decide)) (fun i => zfr_a f732 rfl (by decide))), (fun z => absurd z (by omega)), (by intro T j t0; obtain ⟨x_1j, x_1a, x_1l, x_1r⟩ := u308 T j t0; have k_2 := tT0 x_1a.2.2.1; have k_2j := x_1a.1.1; have z9 := u306; have e_3 : tEp h h728 x_1j 3 := ⟨u731.1, x_1a.1.1, by have q9 := x_1a.2.1; rw [show h5.2 7 = h.2 7 from funext fun i9 => (zfr_a f7 rfl (by decide)), show h5.2 0 11 = h.2 0 11 from (zfr_f f7 rfl rfl)] at q9; rw [u731.2]; exact q9⟩; exact ⟨fun z => absurd z (by omega), fun _ => ⟨x_1j, _, e_3, fun p9 s9 d9 o9 y9 => tRe_s (by have q9 := x_1r p9 s9 d9 o9 y9; rw [if_neg (by omega)] at q9; exact q9) (tM8_3 (by omega) (by rw [tSk_n _ _ z9.2.1, o9]; have a9 := z9.2.2.1; omega))⟩⟩)⟩
        · refine zj_istore_n (L' := [some (.inr 0), some (.inl x3), some (.inl x4), some (.inl 1)]) (zdk ttX11_readAny 12 rfl rfl) (by decide) rfl ?_
          refine zj_iload_n (zdk ttX11_readAny 13 rfl rfl) rfl ?_
          refine zj_if_ne (t := 33) (zdk ttX11_readAny 14 rfl rfl) (by decide) (by decide) (fun c738 => ?_) (fun c738 => ?_)
          · refine zj_aload_n (zdk ttX11_readAny 19 rfl rfl) rfl (by decide) ?_
            refine zj_geti (v := (h5.2 0 26)) (zdk ttX11_readAny 20 rfl rfl) zf_RX11_223 rfl (k_M s6) rfl ?_
            refine zj_bipush (zdk ttX11_readAny 21 rfl rfl) (by decide) ?_
            refine zj_icmp_ne (t := 48) (zdk ttX11_readAny 22 rfl rfl) (by decide) (by omega) (by decide) (fun c739 => ?_) (fun c739 => ?_)
            · refine zj_aload_n (zdk ttX11_readAny 27 rfl rfl) rfl (by decide) ?_
              refine zj_aload_n (zdk ttX11_readAny 28 rfl rfl) rfl (by decide) ?_
              refine zj_geti (v := (h5.2 0 26)) (zdk ttX11_readAny 29 rfl rfl) zf_RX11_223 rfl (k_M s6) rfl ?_
              refine zj_iconst (zdk ttX11_readAny 30 rfl rfl) ?_
              refine zj_iadd (zdk ttX11_readAny 31 rfl rfl) ?_
              refine zj_puti (zdk ttX11_readAny 32 rfl rfl) zf_RX11_223 rfl (k_M s6) (Or.inl zw_RX11_223) (k2 := 26) rfl (fun h740 e741 => ?_)
              refine zj_iload_n (zdk ttX11_readAny 33 rfl rfl) rfl ?_
              refine zj_if_ne (t := 66) (zdk ttX11_readAny 34 rfl rfl) (by decide) (by decide) (fun c742 => ?_) (fun c742 => ?_)
              · refine zj_aload_n (zdk ttX11_readAny 39 rfl rfl) rfl (by decide) ?_
                refine zj_iload_n (zdk ttX11_readAny 40 rfl rfl) rfl ?_
                refine zj_if_eq (t := 76) (zdk ttX11_readAny 41 rfl rfl) (by decide) (by decide) (fun c743 => ?_) (fun c743 => ?_)
                · exact absurd c743 (by omega)
                · refine zj_bipush (zdk ttX11_readAny 42 rfl rfl) (by decide) ?_
                  refine zj_goto (t := 78) (zdk ttX11_readAny 43 rfl rfl) (by decide) ?_
                  have s744 : okM h740 := fwM_26 s6 e741 (by omega)
                  have b745 : h740.2 0 12 = (h5.2 0 12) := (zwr_r e741 (by first | decide | exact (absurd ·.1 (by decide)) | exact (absurd ·.2 (by decide)) | omega))
                  have b746 : h740.2 0 13 = (h5.2 0 13) := (zwr_r e741 (by first | decide | exact (absurd ·.1 (by decide)) | exact (absurd ·.2 (by decide)) | omega))
                  have b747 : h740.2 0 14 = (h5.2 0 14) := (zwr_r e741 (by first | decide | exact (absurd ·.1 (by decide)) | exact (absurd ·.2 (by decide)) | omega))
                  have b748 : h740.2 0 25 = (h5.2 0 25) := (zwr_r e741 (by first | decide | exact (absurd ·.1 (by decide)) | exact (absurd ·.2 (by decide)) | omega))
                  have b749 : h740.2 0 26 = ((h5.2 0 26) + 1) := (zwr_v e741)
                  have b750 : h740.2 0 28 = (h5.2 0 28) := (zwr_r e741 (by first | decide | exact (absurd ·.1 (by decide)) | exact (absurd ·.2 (by decide)) | omega))
                  refine zj_callV (av := [.inl 9]) (st := []) (zdk ttX11_readAny 45 rfl rfl) mb_X11_waits mv_RX11_229 (ci := 11) rfl rfl (k_M s744) rfl rfl (Nat.le_of_ble_eq_true rfl) (s_X11_waits l h740 9 s744 (by omega) (by omega)) (rm_ok (by decide) (by decide)) (zq_v fun h753 q751 => ?_)
                  obtain ⟨s755, f759, u756, u757, u758⟩ := q751
                  refine zj_aload_n (zdk ttX11_readAny 46 rfl rfl) rfl (by decide) ?_
                  refine zj_callV (av := []) (st := []) (zdk ttX11_readAny 47 rfl rfl) mb_X11_reads mv_RX11_204 (ci := 11) rfl rfl (k_M s755) rfl rfl (Nat.le_of_ble_eq_true rfl) (s2_X11_reads l h753 s755) (rm_ok (by decide) (by decide)) (zq_v fun h762 q760 => ?_)
                  obtain ⟨s764, f768, u765, u766, u767⟩ := q760
                  refine zj_goto (t := 9) (zdk ttX11_readAny 48 rfl rfl) (by decide) ?_
                  refine zj_kill (k := 3) (L' := [some (.inr 0), some (.inl x3), some (.inl x4), none]) rfl ?_
                  have b769 : 0 ≤ (h762.2 0 12) ∧ (h762.2 0 12) ≤ 400 := fM_12 s764
                  have b770 : 0 ≤ (h762.2 0 13) ∧ (h762.2 0 13) ≤ 400 := fM_13 s764
                  have b771 : 0 ≤ (h762.2 0 14) ∧ (h762.2 0 14) ≤ 4 := fM_14 s764
                  have b772 : h762.2 0 25 = (h5.2 0 25) := (((zfr_f f768 rfl rfl).trans (zfr_f f759 rfl rfl)).trans (zwr_r e741 (by first | decide | exact (absurd ·.1 (by decide)) | exact (absurd ·.2 (by decide)) | omega)))
                  have b773 : h762.2 0 26 = ((h5.2 0 26) + 1) := (((zfr_f f768 rfl rfl).trans (zfr_f f759 rfl rfl)).trans (zwr_v e741))
                  have b774 : h762.2 0 28 = (h753.2 0 28) := (zfr_f f768 rfl rfl)
                  have b775 : 0 ≤ (h753.2 0 28) ∧ (h753.2 0 28) ≤ 40 := fM_28 s755
                  have f778 : zfr [12, 13, 14, 15, 25, 26, 28, 29, 30] [14, 15, 16] h h740 := zfr_wf f7 e741 rfl
                  have f777 : zfr [12, 13, 14, 15, 25, 26, 28, 29, 30] [14, 15, 16] h h753 := zfr_t f778 f759 rfl rfl
                  have f776 : zfr [12, 13, 14, 15, 25, 26, 28, 29, 30] [14, 15, 16] h h762 := zfr_t f777 f768 rfl rfl
                  have b779 : h753.2 0 12 = (h5.2 0 12) := ((zfr_f f759 rfl rfl).trans (zwr_r e741 (by first | decide | exact (absurd ·.1 (by decide)) | exact (absurd ·.2 (by decide)) | omega)))
                  have b780 : h753.2 0 13 = (h5.2 0 13) := ((zfr_f f759 rfl rfl).trans (zwr_r e741 (by first | decide | exact (absurd ·.1 (by decide)) | exact (absurd ·.2 (by decide)) | omega)))
                  have b781 : h753.2 0 14 = (h5.2 0 14) := ((zfr_f f759 rfl rfl).trans (zwr_r e741 (by first | decide | exact (absurd ·.1 (by decide)) | exact (absurd ·.2 (by decide)) | omega)))
                  have b782 : h753.2 0 25 = (h5.2 0 25) := ((zfr_f f759 rfl rfl).trans (zwr_r e741 (by first | decide | exact (absurd ·.1 (by decide)) | exact (absurd ·.2 (by decide)) | omega)))
                  have b783 : h762.2 0 25 = (h5.2 0 25) := (((zfr_f f768 rfl rfl).trans (zfr_f f759 rfl rfl)).trans (zwr_r e741 (by first | decide | exact (absurd ·.1 (by decide)) | exact (absurd ·.2 (by decide)) | omega)))
                  have t784 : tok h753 := (tok_same (tok_same u305 (zfr_wf (zfr_r [26] [] h5) e741 rfl) rfl rfl rfl rfl) f759 rfl rfl rfl rfl)
                  unfold tok at t784
                  have b785 : 0 ≤ (h.2 0 14) ∧ (h.2 0 14) ≤ 4 := fM_14 s0
                  have b786 : -2147483648 ≤ (h.2 0 15) ∧ (h.2 0 15) ≤ 2147483647 := fM_15 s0
                  have b787 : h740.2 0 14 = (h5.2 0 14) := (zwr_r e741 (by first | decide | exact (absurd ·.1 (by decide)) | exact (absurd ·.2 (by decide)) | omega))
                  have b788 : h740.2 0 15 = (h5.2 0 15) := (zwr_r e741 (by first | decide | exact (absurd ·.1 (by decide)) | exact (absurd ·.2 (by decide)) | omega))
                  have b789 : h753.2 0 14 = (h5.2 0 14) := ((zfr_f f759 rfl rfl).trans (zwr_r e741 (by first | decide | exact (absurd ·.1 (by decide)) | exact (absurd ·.2 (by decide)) | omega)))
                  have b790 : h753.2 0 15 = (h5.2 0 15) := ((zfr_f f759 rfl rfl).trans (zwr_r e741 (by first | decide | exact (absurd ·.1 (by decide)) | exact (absurd ·.2 (by decide)) | omega)))
                  have b791 : -2147483648 ≤ (h762.2 0 15) ∧ (h762.2 0 15) ≤ 2147483647 := fM_15 s764
                  exact ih310  x3 x4 h762 (by omega) (by omega) s764 f776 u765 (zAny_d (br := x3) (d := 1) (zAny_push (w := 9) (br := x3) u306 (by decide) (fun _ => by omega) (fun q => absurd q (by decide)) (fun q => absurd q (by decide)) (fun q => absurd q (by decide)) (zfr_wf (zfr_r [26] [] h5) e741 rfl) (fun _ => zwr_v e741) (fun q => absurd q (by decide)) (fun q => absurd q (by decide)) (fun _ => rfl) u756 u757 u758 f759 f768 (by omega)) rfl (by omega)) (tLo_f (tLo_f (tLo_f u307 (fun i => zwr_r e741 (by first | decide | exact (absurd ·.1 (by decide)) | exact (absurd ·.2 (by decide)) | omega)) (fun i => zwr_r e741 (by first | decide | exact (absurd ·.1 (by decide)) | exact (absurd ·.2 (by decide)) | omega))) (fun i => zfr_a f759 rfl (by decide)) (fun i => zfr_a f759 rfl (by decide))) (fun i => zfr_a f768 rfl (by decide)) (fun i => zfr_a f768 rfl (by decide))) (by intro T j t0; obtain ⟨x_1j, x_1a, x_1l, x_1r⟩ := u308 T j t0; have k_2 := tT0 x_1a.2.2.1; have k_2j := x_1a.1.1; have z9 := u306; have a_3 : tPm 0 T x_1j h740 := tPm_f x_1a (fun k => (zwr_r e741 (by first | decide | exact (absurd ·.1 (by decide)) | exact (absurd ·.2 (by decide)) | omega))) (fun k => (zwr_r e741 (by first | decide | exact (absurd ·.1 (by decide)) | exact (absurd ·.2 (by decide)) | omega))) (zwr_r e741 (by first | decide | exact (absurd ·.1 (by decide)) | exact (absurd ·.2 (by decide)) | omega)) (zwr_r e741 (by first | decide | exact (absurd ·.1 (by decide)) | exact (absurd ·.2 (by decide)) | omega)) (zwr_r e741 (by first | decide | exact (absurd ·.1 (by decide)) | exact (absurd ·.2 (by decide)) | omega)) (zwr_r e741 (by first | decide | exact (absurd ·.1 (by decide)) | exact (absurd ·.2 (by decide)) | omega)) (zwr_r e741 (by first | decide | exact (absurd ·.1 (by decide)) | exact (absurd ·.2 (by decide)) | omega)); have a_4 : tPm 0 T x_1j h753 := tPm_f a_3 (fun k => (zfr_a f759 rfl (by decide))) (fun k => (zfr_a f759 rfl (by decide))) (zfr_f f759 rfl rfl) (zfr_f f759 rfl rfl) (zfr_f f759 rfl rfl) (zfr_f f759 rfl rfl) (zfr_f f759 rfl rfl); have k_5 := tT0 a_4.2.2.1; have k_5j := a_4.1.1; have a_6 : tPm 0 T (x_1j + 1) h762 := tPm_r a_4 (by omega) (u767 a_4.2.2.2.2.2.1 (tPm_l a_4 (by omega))) (fun k => (zfr_a f768 rfl (by decide))) (fun k => (zfr_a f768 rfl (by decide))) (zfr_f f768 rfl rfl); have c_7 : tCm h740 = tCm h5 := (tCm_f (zwr_r e741 (by first | decide | exact (absurd ·.1 (by decide)) | exact (absurd ·.2 (by decide)) | omega)) (fun i => zwr_r e741 (by first | decide | exact (absurd ·.1 (by decide)) | exact (absurd ·.2 (by decide)) | omega)) (fun i => zwr_r e741 (by first | decide | exact (absurd ·.1 (by decide)) | exact (absurd ·.2 (by decide)) | omega))).trans rfl; have c_8 : tCm h753 = tCm h5 := (tCm_f (zfr_f f759 rfl rfl) (fun i => zfr_a f759 rfl (by decide)) (fun i => zfr_a f759 rfl (by decide))).trans c_7; have c_9 : tCm h762 = tCm h5 := (tCm_f (zfr_f f768 rfl rfl) (fun i => zfr_a f768 rfl (by decide)) (fun i => zfr_a f768 rfl (by decide))).trans c_8; exact ⟨(x_1j + 1), a_6, by omega, fun p9 s9 d9 o9 y9 => by rw [if_neg (by omega), (tSk_p (f := h5.2 16) (g := h762.2 16) (n := h5.2 0 28) (n' := h762.2 0 28) (w := 9) z9.2.1 (by rw [show h762.2 0 28 = h753.2 0 28 from (zfr_f f768 rfl rfl), u756, show h740.2 0 28 = h5.2 0 28 from (zwr_r e741 (by first | decide | exact (absurd ·.1 (by decide)) | exact (absurd ·.2 (by decide)) | omega))]) (by rw [show h762.2 16 = h753.2 16 from (funext fun _ => (zfr_a f768 rfl (by decide))), show h5.2 0 28 = h740.2 0 28 from ((zwr_r e741 (by first | decide | exact (absurd ·.1 (by decide)) | exact (absurd ·.2 (by decide)) | omega))).symm]; exact u757) (fun k hk => by rw [show h762.2 16 = h753.2 16 from (funext fun _ => (zfr_a f768 rfl (by decide))), u758 k (by rw [show h740.2 0 28 = h5.2 0 28 from (zwr_r e741 (by first | decide | exact (absurd ·.1 (by decide)) | exact (absurd ·.2 (by decide)) | omega))]; exact hk), show h740.2 16 = h5.2 16 from (funext fun _ => (zwr_r e741 (by first | decide | exact (absurd ·.1 (by decide)) | exact (absurd ·.2 (by decide)) | omega)))]))]; exact tRe_k (tRe_s (by have q9 := x_1r p9 s9 d9 o9 y9; rw [if_neg (by omega)] at q9; exact q9) (tM8_n (by omega) (by show tOpn (tSk (h5.2 16) (h5.2 0 28).toNat ++ s9) < 8; rw [tSk_n _ _ z9.2.1, o9]; have a9 := z9.2.2.1; omega))) (c_9 : tCm h762 = tCm h5).symm⟩) (by omega)
              · exact absurd c742 (by omega)
            · refine zj_aload_n (zdk ttX11_readAny 23 rfl rfl) rfl (by decide) ?_
              refine zj_iconst (zdk ttX11_readAny 24 rfl rfl) ?_
              refine zj_callV (av := [.inl 3]) (st := []) (zdk ttX11_readAny 25 rfl rfl) mb_X11_errs mv_RX11_197 (ci := 11) rfl rfl (k_M s6) rfl rfl (Nat.le_of_ble_eq_true rfl) (s2_X11_errs l h5 3 s6 (by omega)) (rm_ok (by decide) (by decide)) (zq_i fun v793 h794 q792 => ?_)
              obtain ⟨b795, s796, f798, u797⟩ := q792
              have f799 : zfr [12, 13, 14, 15, 25, 26, 28, 29, 30] [14, 15, 16] h h794 := zfr_t f7 f798 rfl rfl
              have b800 : 0 ≤ (h.2 0 14) ∧ (h.2 0 14) ≤ 4 := fM_14 s0
              have b801 : -2147483648 ≤ (h.2 0 15) ∧ (h.2 0 15) ≤ 2147483647 := fM_15 s0
              have b802 : h794.2 0 14 = (h5.2 0 14) := (zfr_f f798 rfl rfl)
              have b803 : h794.2 0 15 = (h5.2 0 15) := (zfr_f f798 rfl rfl)
              exact zj_iret rfl (zdk ttX11_readAny 26 rfl rfl) (Nat.le_refl _) (Nat.le_refl _) ⟨v793, rfl, by omega, s796, f799, (fun q => absurd q (by omega)), (tLo_f u307 (fun i => zfr_a f798 rfl (by decide)) (fun i => zfr_a f798 rfl (by decide))), (fun z => absurd z (by omega)), (by intro T j t0; obtain ⟨x_1j, x_1a, x_1l, x_1r⟩ := u308 T j t0; have k_2 := tT0 x_1a.2.2.1; have k_2j := x_1a.1.1; have z9 := u306; have e_3 : tEp h h794 x_1j 3 := ⟨u797.1, x_1a.1.1, by have q9 := x_1a.2.1; rw [show h5.2 7 = h.2 7 from funext fun i9 => (zfr_a f7 rfl (by decide)), show h5.2 0 11 = h.2 0 11 from (zfr_f f7 rfl rfl)] at q9; rw [u797.2]; exact q9⟩; exact ⟨fun z => absurd z (by omega), fun _ => ⟨x_1j, _, e_3, fun p9 s9 d9 o9 y9 => tRe_s (by have q9 := x_1r p9 s9 d9 o9 y9; rw [if_neg (by omega)] at q9; exact q9) (tM8_3 (by omega) (by rw [tSk_n _ _ z9.2.1, o9]; have a9 := z9.2.2.1; omega))⟩⟩)⟩
          · exact absurd c738 (by omega)
  have b804 : h1.2 0 12 = (h.2 0 12) := (zwr_r e2 (by first | decide | exact (absurd ·.1 (by decide)) | exact (absurd ·.2 (by decide)) | omega))
  have b805 : 0 ≤ (h.2 0 12) ∧ (h.2 0 12) ≤ 400 := fM_12 s0
  have b806 : h1.2 0 13 = (h.2 0 13) := (zwr_r e2 (by first | decide | exact (absurd ·.1 (by decide)) | exact (absurd ·.2 (by decide)) | omega))
  have b807 : 0 ≤ (h.2 0 13) ∧ (h.2 0 13) ≤ 400 := fM_13 s0
  have b808 : h1.2 0 14 = (h.2 0 14) := (zwr_r e2 (by first | decide | exact (absurd ·.1 (by decide)) | exact (absurd ·.2 (by decide)) | omega))
  have b809 : 0 ≤ (h.2 0 14) ∧ (h.2 0 14) ≤ 4 := fM_14 s0
  have b810 : h1.2 0 25 = (h.2 0 25) := (zwr_r e2 (by first | decide | exact (absurd ·.1 (by decide)) | exact (absurd ·.2 (by decide)) | omega))
  have b811 : 0 ≤ (h.2 0 25) ∧ (h.2 0 25) ≤ 400 := fM_25 s0
  have b812 : h1.2 0 26 = (h.2 0 26) := (zwr_r e2 (by first | decide | exact (absurd ·.1 (by decide)) | exact (absurd ·.2 (by decide)) | omega))
  have b813 : 0 ≤ (h.2 0 26) ∧ (h.2 0 26) ≤ 8 := fM_26 s0
  have b814 : h1.2 0 28 = 0 := (zwr_v e2)
  have s815 : okM h1 := fwM_28 s0 e2 (by omega)
  have f816 : zfr [12, 13, 14, 15, 25, 26, 28, 29, 30] [14, 15, 16] h h1 := zfr_wf (zfr_r _ _ _) e2 rfl
  have b817 : -2147483648 ≤ (h.2 0 15) ∧ (h.2 0 15) ≤ 2147483647 := fM_15 s0
  have b818 : h1.2 0 14 = (h.2 0 14) := (zwr_r e2 (by first | decide | exact (absurd ·.1 (by decide)) | exact (absurd ·.2 (by decide)) | omega))
  have b819 : h1.2 0 15 = (h.2 0 15) := (zwr_r e2 (by first | decide | exact (absurd ·.1 (by decide)) | exact (absurd ·.2 (by decide)) | omega))
  exact lp302 _ 0 1 h1 (by omega) (by omega) s815 f816 (tok_same u_0 (zfr_wf (zfr_r [28] [] h) e2 rfl) rfl rfl rfl rfl) (zAny_0 e2) (tLo_f tLo_r (fun i => zwr_r e2 (by first | decide | exact (absurd ·.1 (by decide)) | exact (absurd ·.2 (by decide)) | omega)) (fun i => zwr_r e2 (by first | decide | exact (absurd ·.1 (by decide)) | exact (absurd ·.2 (by decide)) | omega))) (by intro T j t0; have a_1 : tPm 0 T j h1 := tPm_f t0 (fun k => (zwr_r e2 (by first | decide | exact (absurd ·.1 (by decide)) | exact (absurd ·.2 (by decide)) | omega))) (fun k => (zwr_r e2 (by first | decide | exact (absurd ·.1 (by decide)) | exact (absurd ·.2 (by decide)) | omega))) (zwr_r e2 (by first | decide | exact (absurd ·.1 (by decide)) | exact (absurd ·.2 (by decide)) | omega)) (zwr_r e2 (by first | decide | exact (absurd ·.1 (by decide)) | exact (absurd ·.2 (by decide)) | omega)) (zwr_r e2 (by first | decide | exact (absurd ·.1 (by decide)) | exact (absurd ·.2 (by decide)) | omega)) (zwr_r e2 (by first | decide | exact (absurd ·.1 (by decide)) | exact (absurd ·.2 (by decide)) | omega)) (zwr_r e2 (by first | decide | exact (absurd ·.1 (by decide)) | exact (absurd ·.2 (by decide)) | omega)); have c_2 : tCm h1 = tCm h := (tCm_f (zwr_r e2 (by first | decide | exact (absurd ·.1 (by decide)) | exact (absurd ·.2 (by decide)) | omega)) (fun i => zwr_r e2 (by first | decide | exact (absurd ·.1 (by decide)) | exact (absurd ·.2 (by decide)) | omega)) (fun i => zwr_r e2 (by first | decide | exact (absurd ·.1 (by decide)) | exact (absurd ·.2 (by decide)) | omega))).trans rfl; exact ⟨j, a_1, by omega, fun p9 s9 d9 o9 y9 => by rw [if_neg (by decide), show h1.2 0 28 = 0 from zwr_v e2]; exact tRe_k tRe_r (c_2 : tCm h1 = tCm h).symm⟩) (Nat.lt_succ_self _)

