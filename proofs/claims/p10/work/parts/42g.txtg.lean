abbrev q2_X11_readAny (h : zM) : Option zV → zM → Prop := zqi fun v h' => ((-1) ≤ v ∧ v ≤ 0) ∧ okM h' ∧ zfr [12, 13, 14, 15, 25, 26, 28, 29, 30] [14, 15, 16] h h' ∧ (v = 0 → RD h h') ∧ (v = 0 → h'.2 0 26 = h.2 0 26) ∧ (∀ T j, tPm 0 T j h → (v = 0 → ∃ j9, tPm 0 T j9 h' ∧ j ≤ j9 ∧ ∀ p9 s9, tOpn s9 = h.2 0 26 → tHd s9 = 90 → tRe T p9 (8, j, 0, s9) (12, j9, 0, s9)) ∧ (v = -1 → ∃ i9 f9, tEp h h' i9 f9 ∧ ∀ p9 s9, tOpn s9 = h.2 0 26 → tHd s9 = 90 → tRe T p9 (8, j, 0, s9) (tEr i9 f9)))
set_option maxRecDepth 100000 in
set_option maxHeartbeats 4000000 in
theorem s2_X11_readAny (l : Launch) (h : zM) (s0 : okM h) (u_0 : tok h) (u_1 : h.2 0 25 ≤ h.2 0 13) : zT shM l yX11_readAny cX11_readAny 4 (some .int) (rmL 8) 0 0 [.inr 0] h (q2_X11_readAny h) := by
  refine zT_of (by decide +kernel) (L0 := [some (.inr 0), none, none, none]) rfl (Nat.le_of_ble_eq_true rfl) ?_
  have b26 := fM_26 s0
  have b13 := fM_13 s0
  refine zj_iconst (zdk ttX11_readAny 0 rfl rfl) ?_
  refine zj_istore_n (L' := [some (.inr 0), some (.inl 0), none, none]) (zdk ttX11_readAny 1 rfl rfl) (by decide) rfl ?_
  refine zj_aload_n (zdk ttX11_readAny 2 rfl rfl) rfl (by decide) ?_
  refine zj_iconst (zdk ttX11_readAny 3 rfl rfl) ?_
  refine zj_puti (zdk ttX11_readAny 4 rfl rfl) zf_RX11_220 rfl (k_M s0) (Or.inl zw_RX11_220) (k2 := 28) rfl (fun h1 e2 => ?_)
  refine zj_iconst (zdk ttX11_readAny 5 rfl rfl) ?_
  refine zj_istore_n (L' := [some (.inr 0), some (.inl 0), some (.inl 1), none]) (zdk ttX11_readAny 6 rfl rfl) (by decide) rfl ?_
  have lp287 : ∀ (n9 : Nat) (x3 x4 : Int) (h5 : zM), (0 ≤ x3 ∧ x3 ≤ 8) → (0 ≤ x4 ∧ x4 ≤ 1) → okM h5 → zfr [12, 13, 14, 15, 25, 26, 28, 29, 30] [14, 15, 16] h h5 → (tok h5) → (zAny h h5 x3 x4) → (∀ T j, tPm 0 T j h → ∃ j9, tPm 0 T j9 h5 ∧ j ≤ j9 ∧ ∀ p9 s9, tOpn s9 = h.2 0 26 → tHd s9 = 90 → tRe T p9 (8, j, 0, s9) ((if x4 = 0 then 9 else 8), j9, 0, tSk (h5.2 16) (h5.2 0 28).toNat ++ s9)) → (2 * (401 - (h5.2 0 13)) + x4).toNat < n9 → zJ shM l yX11_readAny cX11_readAny 4 (some .int) (rmL 8) 0 0 (q2_X11_readAny h) 0 0 9 [some (.inr 0), some (.inl x3), some (.inl x4), none] [] h5 := by
    intro n9
    induction n9 with
    | zero => intro x3 x4 h5 b288 b289 s6 f7 u290 u291 u292 m293; exact absurd m293 (Nat.not_lt_zero _)
    | succ n9 ih294 =>
      intro x3 x4 h5 b288 b289 s6 f7 u290 u291 u292 m293
      have b295 := zAny_f u291
      have b295r := zAny_br u291
      have b296 : 0 ≤ (h5.2 0 12) ∧ (h5.2 0 12) ≤ 400 := fM_12 s6
      have b297 : 0 ≤ (h5.2 0 13) ∧ (h5.2 0 13) ≤ 400 := fM_13 s6
      have b298 : 0 ≤ (h5.2 0 14) ∧ (h5.2 0 14) ≤ 4 := fM_14 s6
      have b299 : 0 ≤ (h5.2 0 25) ∧ (h5.2 0 25) ≤ 400 := fM_25 s6
      have b300 : 0 ≤ (h5.2 0 26) ∧ (h5.2 0 26) ≤ 8 := fM_26 s6
      have b301 : 0 ≤ (h5.2 0 28) ∧ (h5.2 0 28) ≤ 40 := fM_28 s6
      refine zj_iload_n (zdk ttX11_readAny 7 rfl rfl) rfl ?_
      refine zj_if_eq (t := 109) (zdk ttX11_readAny 8 rfl rfl) (by decide) (by omega) (fun c302 => ?_) (fun c302 => ?_)
      · refine zj_aload_n (zdk ttX11_readAny 61 rfl rfl) rfl (by decide) ?_
        refine zj_iconst (zdk ttX11_readAny 62 rfl rfl) ?_
        refine zj_callV (av := [.inl 5]) (st := []) (zdk ttX11_readAny 63 rfl rfl) mb_X11_isWord mv_RX11_226 (ci := 11) rfl rfl (k_M s6) rfl rfl (Nat.le_of_ble_eq_true rfl) (s_X11_isWord l h5 5 s6 (by omega)) (rm_ok (by decide) (by decide)) (zq_i fun v304 h305 q303 => ?_)
        obtain ⟨rfl, b307, b308, ⟨rfl, b306⟩ | ⟨rfl, b306⟩⟩ := q303
        · refine zj_if_eq (t := 138) (zdk ttX11_readAny 64 rfl rfl) (by decide) (by decide) (fun c309 => ?_) (fun c309 => ?_)
          · refine zj_aload_n (zdk ttX11_readAny 76 rfl rfl) rfl (by decide) ?_
            refine zj_iconst (zdk ttX11_readAny 77 rfl rfl) ?_
            refine zj_callV (av := [.inl 4]) (st := []) (zdk ttX11_readAny 78 rfl rfl) mb_X11_isWord mv_RX11_226 (ci := 11) rfl rfl (k_M s6) rfl rfl (Nat.le_of_ble_eq_true rfl) (s_X11_isWord l h5 4 s6 (by omega)) (rm_ok (by decide) (by decide)) (zq_i fun v311 h312 q310 => ?_)
            obtain ⟨rfl, b314, b315, ⟨rfl, b313⟩ | ⟨rfl, b313⟩⟩ := q310
            · refine zj_if_eq (t := 173) (zdk ttX11_readAny 79 rfl rfl) (by decide) (by decide) (fun c316 => ?_) (fun c316 => ?_)
              · refine zj_aload_n (zdk ttX11_readAny 94 rfl rfl) rfl (by decide) ?_
                refine zj_bipush (zdk ttX11_readAny 95 rfl rfl) (by decide) ?_
                refine zj_callV (av := [.inl 10]) (st := []) (zdk ttX11_readAny 96 rfl rfl) mb_X11_settles mv_RX11_235 (ci := 11) rfl rfl (k_M s6) rfl rfl (Nat.le_of_ble_eq_true rfl) (s_X11_settles l h5 10 s6 (by omega) (by omega) (fun q => absurd q (by decide)) (by decide)) (rm_ok (by decide) (by decide)) (zq_v fun h319 q317 => ?_)
                obtain ⟨s321, f324, u322, u323⟩ := q317
                have a325 := zAny_set (zAny_d u291 rfl (show x4 = 0 by omega)) (Or.inl rfl) u322 u323 f324 (fun q => absurd q (by decide))
                have b326 := zAny_f a325.1
                have b326r := zAny_br a325.1
                have b327 : h319.2 0 12 = (h5.2 0 12) := (zfr_f f324 rfl rfl)
                have b328 : h319.2 0 13 = (h5.2 0 13) := (zfr_f f324 rfl rfl)
                have b329 : h319.2 0 14 = (h5.2 0 14) := (zfr_f f324 rfl rfl)
                have b330 : 0 ≤ (h319.2 0 25) ∧ (h319.2 0 25) ≤ 400 := fM_25 s321
                have b331 : 0 ≤ (h319.2 0 26) ∧ (h319.2 0 26) ≤ 8 := fM_26 s321
                have b332 : 0 ≤ (h319.2 0 28) ∧ (h319.2 0 28) ≤ 40 := fM_28 s321
                refine zj_aload_n (zdk ttX11_readAny 97 rfl rfl) rfl (by decide) ?_
                refine zj_bipush (zdk ttX11_readAny 98 rfl rfl) (by decide) ?_
                refine zj_callV (av := [.inl 11]) (st := []) (zdk ttX11_readAny 99 rfl rfl) mb_X11_settles mv_RX11_235 (ci := 11) rfl rfl (k_M s321) rfl rfl (Nat.le_of_ble_eq_true rfl) (s_X11_settles l h319 11 s321 (by omega) (by omega) (fun q => absurd q (by decide)) (by decide)) (rm_ok (by decide) (by decide)) (zq_v fun h335 q333 => ?_)
                obtain ⟨s337, f340, u338, u339⟩ := q333
                have a341 := zAny_set a325.1 (Or.inr rfl) u338 u339 f340 (fun _ => (a325.2.1 rfl))
                have b342 := zAny_f a341.1
                have b342r := zAny_br a341.1
                have b343 : h335.2 0 12 = (h5.2 0 12) := ((zfr_f f340 rfl rfl).trans (zfr_f f324 rfl rfl))
                have b344 : h335.2 0 13 = (h5.2 0 13) := ((zfr_f f340 rfl rfl).trans (zfr_f f324 rfl rfl))
                have b345 : h335.2 0 14 = (h5.2 0 14) := ((zfr_f f340 rfl rfl).trans (zfr_f f324 rfl rfl))
                have b346 : 0 ≤ (h335.2 0 25) ∧ (h335.2 0 25) ≤ 400 := fM_25 s337
                have b347 : 0 ≤ (h335.2 0 26) ∧ (h335.2 0 26) ≤ 8 := fM_26 s337
                have b348 : 0 ≤ (h335.2 0 28) ∧ (h335.2 0 28) ≤ 40 := fM_28 s337
                refine zj_iload_n (zdk ttX11_readAny 100 rfl rfl) rfl ?_
                refine zj_if_ne (t := 191) (zdk ttX11_readAny 101 rfl rfl) (by decide) (by omega) (fun c349 => ?_) (fun c349 => ?_)
                · refine zj_aload_n (zdk ttX11_readAny 104 rfl rfl) rfl (by decide) ?_
                  refine zj_bipush (zdk ttX11_readAny 105 rfl rfl) (by decide) ?_
                  refine zj_callV (av := [.inl 41]) (st := []) (zdk ttX11_readAny 106 rfl rfl) mb_X11_isSign mv_RX11_211 (ci := 11) rfl rfl (k_M s337) rfl rfl (Nat.le_of_ble_eq_true rfl) (s_X11_isSign l h335 41 s337 (by omega)) (rm_ok (by decide) (by decide)) (zq_i fun v351 h352 q350 => ?_)
                  obtain ⟨rfl, b354, b355, ⟨rfl, b353⟩ | ⟨rfl, b353⟩⟩ := q350
                  · refine zj_if_ne (t := 206) (zdk ttX11_readAny 107 rfl rfl) (by decide) (by decide) (fun c356 => ?_) (fun c356 => ?_)
                    · exact absurd c356 (by omega)
                    · refine zj_aload_n (zdk ttX11_readAny 108 rfl rfl) rfl (by decide) ?_
                      refine zj_iconst (zdk ttX11_readAny 109 rfl rfl) ?_
                      refine zj_callV (av := [.inl 1]) (st := []) (zdk ttX11_readAny 110 rfl rfl) mb_X11_errs mv_RX11_197 (ci := 11) rfl rfl (k_M s337) rfl rfl (Nat.le_of_ble_eq_true rfl) (s2_X11_errs l h335 1 s337 (by omega)) (rm_ok (by decide) (by decide)) (zq_i fun v358 h359 q357 => ?_)
                      obtain ⟨b360, s361, f363, u362⟩ := q357
                      have f366 : zfr [12, 13, 14, 15, 25, 26, 28, 29, 30] [14, 15, 16] h h319 := zfr_t f7 f324 rfl rfl
                      have f365 : zfr [12, 13, 14, 15, 25, 26, 28, 29, 30] [14, 15, 16] h h335 := zfr_t f366 f340 rfl rfl
                      have f364 : zfr [12, 13, 14, 15, 25, 26, 28, 29, 30] [14, 15, 16] h h359 := zfr_t f365 f363 rfl rfl
                      have b367 : 0 ≤ (h.2 0 14) ∧ (h.2 0 14) ≤ 4 := fM_14 s0
                      have b368 : -2147483648 ≤ (h.2 0 15) ∧ (h.2 0 15) ≤ 2147483647 := fM_15 s0
                      have b369 : h319.2 0 14 = (h5.2 0 14) := (zfr_f f324 rfl rfl)
                      have b370 : h319.2 0 15 = (h5.2 0 15) := (zfr_f f324 rfl rfl)
                      have b371 : h335.2 0 14 = (h5.2 0 14) := ((zfr_f f340 rfl rfl).trans (zfr_f f324 rfl rfl))
                      have b372 : h335.2 0 15 = (h5.2 0 15) := ((zfr_f f340 rfl rfl).trans (zfr_f f324 rfl rfl))
                      have b373 : h359.2 0 14 = (h5.2 0 14) := (((zfr_f f363 rfl rfl).trans (zfr_f f340 rfl rfl)).trans (zfr_f f324 rfl rfl))
                      have b374 : h359.2 0 15 = (h5.2 0 15) := (((zfr_f f363 rfl rfl).trans (zfr_f f340 rfl rfl)).trans (zfr_f f324 rfl rfl))
                      exact zj_iret rfl (zdk ttX11_readAny 111 rfl rfl) (Nat.le_refl _) (Nat.le_refl _) ⟨v358, rfl, by omega, s361, f364, (fun q => absurd q (by omega)), (fun z => absurd z (by omega)), (by intro T j t0; obtain ⟨x_1j, x_1a, x_1l, x_1r⟩ := u292 T j t0; have k_2 := tT0 x_1a.2.2.1; have k_2j := x_1a.1.1; have z9 := u291; have a_3 : tPm 0 T x_1j h319 := tPm_f x_1a (fun k => (zfr_a f324 rfl (by decide))) (fun k => (zfr_a f324 rfl (by decide))) (zfr_f f324 rfl rfl) (zfr_f f324 rfl rfl) (zfr_f f324 rfl rfl) (zfr_f f324 rfl rfl) (zfr_f f324 rfl rfl); have a_4 : tPm 0 T x_1j h335 := tPm_f a_3 (fun k => (zfr_a f340 rfl (by decide))) (fun k => (zfr_a f340 rfl (by decide))) (zfr_f f340 rfl rfl) (zfr_f f340 rfl rfl) (zfr_f f340 rfl rfl) (zfr_f f340 rfl rfl) (zfr_f f340 rfl rfl); have e_5 : tEp h h359 x_1j 1 := ⟨u362.1, a_4.1.1, by have q9 := a_4.2.1; rw [show h335.2 7 = h.2 7 from funext fun i9 => (((zfr_a f340 rfl (by decide)).trans (zfr_a f324 rfl (by decide))).trans (zfr_a f7 rfl (by decide))), show h335.2 0 11 = h.2 0 11 from (((zfr_f f340 rfl rfl).trans (zfr_f f324 rfl rfl)).trans (zfr_f f7 rfl rfl))] at q9; rw [u362.2]; exact q9⟩; have g_6 := u322; have g_7 := u338; have p9t := zAny_top a341.1 (a341.2.2 rfl) (by omega); exact ⟨fun z => absurd z (by omega), fun _ => ⟨x_1j, _, e_5, fun p9 s9 o9 y9 => by have q8 := tRe_s (tRe_t (by have q9 := x_1r p9 s9 o9 y9; rw [if_pos (by omega)] at q9; exact q9) (tSk_a z9.1 g_6.2.1 g_6.1 g_6.2.2.2.1 (z9.2.2.2.2.2.2.2.2 (by omega)).1 u323 y9)) (tSk_cl (f := h5.2 16) (n := h319.2 0 28) (m := h335.2 0 28) (fun i a9 b9 => z9.1 i a9 (by have w9 := g_6.1; omega)) g_7.2.1 g_7.1 (by have e9 := g_7.2.2.2.1; rw [show h319.2 16 = h5.2 16 from (funext fun _ => (zfr_a f324 rfl (by decide)))] at e9; exact e9) (by have e9 := u339; rw [show h319.2 16 = h5.2 16 from (funext fun _ => (zfr_a f324 rfl (by decide)))] at e9; exact e9) y9 (by omega) (by omega)); rw [tSk_t _ p9t.1, show h5.2 16 (h335.2 0 28 - 1) = 12 from by have e9 := p9t.2; rw [show h335.2 16 = h5.2 16 from (funext fun _ => ((zfr_a f340 rfl (by decide)).trans (zfr_a f324 rfl (by decide))))] at e9; exact e9] at q8; exact tRe_s q8 (tM12_n (by omega))⟩⟩)⟩
                  · refine zj_if_ne (t := 206) (zdk ttX11_readAny 107 rfl rfl) (by decide) (by decide) (fun c375 => ?_) (fun c375 => ?_)
                    · have a376 := zAny_top a341.1 (a341.2.2 rfl) (by omega)
                      have a376c := zAny_cl a341.1 a376
                      refine zj_aload_n (zdk ttX11_readAny 112 rfl rfl) rfl (by decide) ?_
                      refine zj_aload_n (zdk ttX11_readAny 113 rfl rfl) rfl (by decide) ?_
                      refine zj_geti (v := (h335.2 0 28)) (zdk ttX11_readAny 114 rfl rfl) zf_RX11_220 rfl (k_M s337) rfl ?_
                      refine zj_iconst (zdk ttX11_readAny 115 rfl rfl) ?_
                      refine zj_isub (zdk ttX11_readAny 116 rfl rfl) ?_
                      refine zj_puti (zdk ttX11_readAny 117 rfl rfl) zf_RX11_220 rfl (k_M s337) (Or.inl zw_RX11_220) (k2 := 28) rfl (fun h377 e378 => ?_)
                      refine zj_iload_n (zdk ttX11_readAny 118 rfl rfl) rfl ?_
                      refine zj_iconst (zdk ttX11_readAny 119 rfl rfl) ?_
                      refine zj_isub (zdk ttX11_readAny 120 rfl rfl) ?_
                      refine zj_istore_n (L' := [some (.inr 0), some (.inl (x3 - 1)), some (.inl x4), none]) (zdk ttX11_readAny 121 rfl rfl) (by decide) rfl ?_
                      refine zj_aload_n (zdk ttX11_readAny 122 rfl rfl) rfl (by decide) ?_
                      refine zj_aload_n (zdk ttX11_readAny 123 rfl rfl) rfl (by decide) ?_
                      have s379 : okM h377 := fwM_28 s337 e378 (by omega)
                      refine zj_geti (v := (h335.2 0 26)) (zdk ttX11_readAny 124 rfl rfl) zf_RX11_223 rfl (k_M s379) (zwr_r e378 (by first | decide | exact (absurd ·.1 (by decide)) | exact (absurd ·.2 (by decide)) | omega)) ?_
                      refine zj_iconst (zdk ttX11_readAny 125 rfl rfl) ?_
                      refine zj_isub (zdk ttX11_readAny 126 rfl rfl) ?_
                      refine zj_puti (zdk ttX11_readAny 127 rfl rfl) zf_RX11_223 rfl (k_M s379) (Or.inl zw_RX11_223) (k2 := 26) rfl (fun h380 e381 => ?_)
                      refine zj_aload_n (zdk ttX11_readAny 128 rfl rfl) rfl (by decide) ?_
                      refine zj_bipush (zdk ttX11_readAny 129 rfl rfl) (by decide) ?_
                      have s382 : okM h380 := fwM_26 s379 e381 (by omega)
                      have b383 : h380.2 0 12 = (h5.2 0 12) := ((((zwr_r e381 (by first | decide | exact (absurd ·.1 (by decide)) | exact (absurd ·.2 (by decide)) | omega)).trans (zwr_r e378 (by first | decide | exact (absurd ·.1 (by decide)) | exact (absurd ·.2 (by decide)) | omega))).trans (zfr_f f340 rfl rfl)).trans (zfr_f f324 rfl rfl))
                      have b384 : h380.2 0 13 = (h5.2 0 13) := ((((zwr_r e381 (by first | decide | exact (absurd ·.1 (by decide)) | exact (absurd ·.2 (by decide)) | omega)).trans (zwr_r e378 (by first | decide | exact (absurd ·.1 (by decide)) | exact (absurd ·.2 (by decide)) | omega))).trans (zfr_f f340 rfl rfl)).trans (zfr_f f324 rfl rfl))
                      have b385 : h380.2 0 14 = (h5.2 0 14) := ((((zwr_r e381 (by first | decide | exact (absurd ·.1 (by decide)) | exact (absurd ·.2 (by decide)) | omega)).trans (zwr_r e378 (by first | decide | exact (absurd ·.1 (by decide)) | exact (absurd ·.2 (by decide)) | omega))).trans (zfr_f f340 rfl rfl)).trans (zfr_f f324 rfl rfl))
                      have b386 : h380.2 0 25 = (h335.2 0 25) := ((zwr_r e381 (by first | decide | exact (absurd ·.1 (by decide)) | exact (absurd ·.2 (by decide)) | omega)).trans (zwr_r e378 (by first | decide | exact (absurd ·.1 (by decide)) | exact (absurd ·.2 (by decide)) | omega)))
                      have b387 : h380.2 0 26 = ((h335.2 0 26) - 1) := (zwr_v e381)
                      have b388 : h380.2 0 28 = ((h335.2 0 28) - 1) := ((zwr_r e381 (by first | decide | exact (absurd ·.1 (by decide)) | exact (absurd ·.2 (by decide)) | omega)).trans (zwr_v e378))
                      refine zj_callV (av := [.inl 9]) (st := []) (zdk ttX11_readAny 130 rfl rfl) mb_X11_settles mv_RX11_235 (ci := 11) rfl rfl (k_M s382) rfl rfl (Nat.le_of_ble_eq_true rfl) (s_X11_settles l h380 9 s382 (by omega) (by omega) (fun _ => zck_c a376c.1 (funext fun _ => ((zwr_r e381 (by first | decide | exact (absurd ·.1 (by decide)) | exact (absurd ·.2 (by decide)) | omega)).trans (zwr_r e378 (by first | decide | exact (absurd ·.1 (by decide)) | exact (absurd ·.2 (by decide)) | omega)))) (by omega) (by omega)) (by decide)) (rm_ok (by decide) (by decide)) (zq_v fun h391 q389 => ?_)
                      obtain ⟨s393, f396, u394, u395⟩ := q389
                      refine zj_aload_n (zdk ttX11_readAny 131 rfl rfl) rfl (by decide) ?_
                      refine zj_callV (av := []) (st := []) (zdk ttX11_readAny 132 rfl rfl) mb_X11_reads mv_RX11_204 (ci := 11) rfl rfl (k_M s393) rfl rfl (Nat.le_of_ble_eq_true rfl) (s2_X11_reads l h391 s393) (rm_ok (by decide) (by decide)) (zq_v fun h399 q397 => ?_)
                      obtain ⟨s401, f405, u402, u403, u404⟩ := q397
                      refine zj_goto (t := 9) (zdk ttX11_readAny 133 rfl rfl) (by decide) ?_
                      have b406 : 0 ≤ (h399.2 0 12) ∧ (h399.2 0 12) ≤ 400 := fM_12 s401
                      have b407 : 0 ≤ (h399.2 0 13) ∧ (h399.2 0 13) ≤ 400 := fM_13 s401
                      have b408 : 0 ≤ (h399.2 0 14) ∧ (h399.2 0 14) ≤ 4 := fM_14 s401
                      have b409 : h399.2 0 25 = (h391.2 0 25) := (zfr_f f405 rfl rfl)
                      have b410 : 0 ≤ (h391.2 0 25) ∧ (h391.2 0 25) ≤ 400 := fM_25 s393
                      have b411 : h399.2 0 26 = (h391.2 0 26) := (zfr_f f405 rfl rfl)
                      have b412 : 0 ≤ (h391.2 0 26) ∧ (h391.2 0 26) ≤ 8 := fM_26 s393
                      have b413 : h399.2 0 28 = (h391.2 0 28) := (zfr_f f405 rfl rfl)
                      have b414 : 0 ≤ (h391.2 0 28) ∧ (h391.2 0 28) ≤ 40 := fM_28 s393
                      have f420 : zfr [12, 13, 14, 15, 25, 26, 28, 29, 30] [14, 15, 16] h h319 := zfr_t f7 f324 rfl rfl
                      have f419 : zfr [12, 13, 14, 15, 25, 26, 28, 29, 30] [14, 15, 16] h h335 := zfr_t f420 f340 rfl rfl
                      have f418 : zfr [12, 13, 14, 15, 25, 26, 28, 29, 30] [14, 15, 16] h h377 := zfr_wf f419 e378 rfl
                      have f417 : zfr [12, 13, 14, 15, 25, 26, 28, 29, 30] [14, 15, 16] h h380 := zfr_wf f418 e381 rfl
                      have f416 : zfr [12, 13, 14, 15, 25, 26, 28, 29, 30] [14, 15, 16] h h391 := zfr_t f417 f396 rfl rfl
                      have f415 : zfr [12, 13, 14, 15, 25, 26, 28, 29, 30] [14, 15, 16] h h399 := zfr_t f416 f405 rfl rfl
                      have b421 : h391.2 0 12 = (h5.2 0 12) := (((((zfr_f f396 rfl rfl).trans (zwr_r e381 (by first | decide | exact (absurd ·.1 (by decide)) | exact (absurd ·.2 (by decide)) | omega))).trans (zwr_r e378 (by first | decide | exact (absurd ·.1 (by decide)) | exact (absurd ·.2 (by decide)) | omega))).trans (zfr_f f340 rfl rfl)).trans (zfr_f f324 rfl rfl))
                      have b422 : h391.2 0 13 = (h5.2 0 13) := (((((zfr_f f396 rfl rfl).trans (zwr_r e381 (by first | decide | exact (absurd ·.1 (by decide)) | exact (absurd ·.2 (by decide)) | omega))).trans (zwr_r e378 (by first | decide | exact (absurd ·.1 (by decide)) | exact (absurd ·.2 (by decide)) | omega))).trans (zfr_f f340 rfl rfl)).trans (zfr_f f324 rfl rfl))
                      have b423 : h391.2 0 14 = (h5.2 0 14) := (((((zfr_f f396 rfl rfl).trans (zwr_r e381 (by first | decide | exact (absurd ·.1 (by decide)) | exact (absurd ·.2 (by decide)) | omega))).trans (zwr_r e378 (by first | decide | exact (absurd ·.1 (by decide)) | exact (absurd ·.2 (by decide)) | omega))).trans (zfr_f f340 rfl rfl)).trans (zfr_f f324 rfl rfl))
                      have b424 : h399.2 0 25 = (h391.2 0 25) := (zfr_f f405 rfl rfl)
                      have t425 : tok h391 := (tok_same (tok_same (tok_same (tok_same (tok_same u290 f324 rfl rfl rfl rfl) f340 rfl rfl rfl rfl) (zfr_wf (zfr_r [28] [] h335) e378 rfl) rfl rfl rfl rfl) (zfr_wf (zfr_r [26] [] h377) e381 rfl) rfl rfl rfl rfl) f396 rfl rfl rfl rfl)
                      unfold tok at t425
                      have e426 : h377 = zwr h335 0 28 (h335.2 0 28 - 1) := by first | exact e378 | (rw [e378]; congr 1; omega)
                      have e427 : h380 = zwr h377 0 26 (h335.2 0 26 - 1) := by first | exact e381 | (rw [e381]; congr 1; omega)
                      have b428 : 0 ≤ (h.2 0 14) ∧ (h.2 0 14) ≤ 4 := fM_14 s0
                      have b429 : -2147483648 ≤ (h.2 0 15) ∧ (h.2 0 15) ≤ 2147483647 := fM_15 s0
                      have b430 : h319.2 0 14 = (h5.2 0 14) := (zfr_f f324 rfl rfl)
                      have b431 : h319.2 0 15 = (h5.2 0 15) := (zfr_f f324 rfl rfl)
                      have b432 : h335.2 0 14 = (h5.2 0 14) := ((zfr_f f340 rfl rfl).trans (zfr_f f324 rfl rfl))
                      have b433 : h335.2 0 15 = (h5.2 0 15) := ((zfr_f f340 rfl rfl).trans (zfr_f f324 rfl rfl))
                      have b434 : h377.2 0 14 = (h5.2 0 14) := (((zwr_r e378 (by first | decide | exact (absurd ·.1 (by decide)) | exact (absurd ·.2 (by decide)) | omega)).trans (zfr_f f340 rfl rfl)).trans (zfr_f f324 rfl rfl))
                      have b435 : h377.2 0 15 = (h5.2 0 15) := (((zwr_r e378 (by first | decide | exact (absurd ·.1 (by decide)) | exact (absurd ·.2 (by decide)) | omega)).trans (zfr_f f340 rfl rfl)).trans (zfr_f f324 rfl rfl))
                      have b436 : h380.2 0 14 = (h5.2 0 14) := ((((zwr_r e381 (by first | decide | exact (absurd ·.1 (by decide)) | exact (absurd ·.2 (by decide)) | omega)).trans (zwr_r e378 (by first | decide | exact (absurd ·.1 (by decide)) | exact (absurd ·.2 (by decide)) | omega))).trans (zfr_f f340 rfl rfl)).trans (zfr_f f324 rfl rfl))
                      have b437 : h380.2 0 15 = (h5.2 0 15) := ((((zwr_r e381 (by first | decide | exact (absurd ·.1 (by decide)) | exact (absurd ·.2 (by decide)) | omega)).trans (zwr_r e378 (by first | decide | exact (absurd ·.1 (by decide)) | exact (absurd ·.2 (by decide)) | omega))).trans (zfr_f f340 rfl rfl)).trans (zfr_f f324 rfl rfl))
                      have b438 : h391.2 0 14 = (h5.2 0 14) := (((((zfr_f f396 rfl rfl).trans (zwr_r e381 (by first | decide | exact (absurd ·.1 (by decide)) | exact (absurd ·.2 (by decide)) | omega))).trans (zwr_r e378 (by first | decide | exact (absurd ·.1 (by decide)) | exact (absurd ·.2 (by decide)) | omega))).trans (zfr_f f340 rfl rfl)).trans (zfr_f f324 rfl rfl))
                      have b439 : h391.2 0 15 = (h5.2 0 15) := (((((zfr_f f396 rfl rfl).trans (zwr_r e381 (by first | decide | exact (absurd ·.1 (by decide)) | exact (absurd ·.2 (by decide)) | omega))).trans (zwr_r e378 (by first | decide | exact (absurd ·.1 (by decide)) | exact (absurd ·.2 (by decide)) | omega))).trans (zfr_f f340 rfl rfl)).trans (zfr_f f324 rfl rfl))
                      have b440 : -2147483648 ≤ (h399.2 0 15) ∧ (h399.2 0 15) ≤ 2147483647 := fM_15 s401
                      exact ih294  (x3 - 1) x4 h399 (by omega) (by omega) s401 f415 u402 (zAny_d (br := (x3 - 1)) (d := 0) (zAny_close (br := x3) a341.1 a376.1 a376.2 e426 e427 u394 u395 f396 f405 (by omega) rfl) rfl (by omega)) (by intro T j t0; obtain ⟨x_1j, x_1a, x_1l, x_1r⟩ := u292 T j t0; have k_2 := tT0 x_1a.2.2.1; have k_2j := x_1a.1.1; have z9 := u291; have a_3 : tPm 0 T x_1j h319 := tPm_f x_1a (fun k => (zfr_a f324 rfl (by decide))) (fun k => (zfr_a f324 rfl (by decide))) (zfr_f f324 rfl rfl) (zfr_f f324 rfl rfl) (zfr_f f324 rfl rfl) (zfr_f f324 rfl rfl) (zfr_f f324 rfl rfl); have a_4 : tPm 0 T x_1j h335 := tPm_f a_3 (fun k => (zfr_a f340 rfl (by decide))) (fun k => (zfr_a f340 rfl (by decide))) (zfr_f f340 rfl rfl) (zfr_f f340 rfl rfl) (zfr_f f340 rfl rfl) (zfr_f f340 rfl rfl) (zfr_f f340 rfl rfl); have a_5 : tPm 0 T x_1j h377 := tPm_f a_4 (fun k => (zwr_r e378 (by first | decide | exact (absurd ·.1 (by decide)) | exact (absurd ·.2 (by decide)) | omega))) (fun k => (zwr_r e378 (by first | decide | exact (absurd ·.1 (by decide)) | exact (absurd ·.2 (by decide)) | omega))) (zwr_r e378 (by first | decide | exact (absurd ·.1 (by decide)) | exact (absurd ·.2 (by decide)) | omega)) (zwr_r e378 (by first | decide | exact (absurd ·.1 (by decide)) | exact (absurd ·.2 (by decide)) | omega)) (zwr_r e378 (by first | decide | exact (absurd ·.1 (by decide)) | exact (absurd ·.2 (by decide)) | omega)) (zwr_r e378 (by first | decide | exact (absurd ·.1 (by decide)) | exact (absurd ·.2 (by decide)) | omega)) (zwr_r e378 (by first | decide | exact (absurd ·.1 (by decide)) | exact (absurd ·.2 (by decide)) | omega)); have a_6 : tPm 0 T x_1j h380 := tPm_f a_5 (fun k => (zwr_r e381 (by first | decide | exact (absurd ·.1 (by decide)) | exact (absurd ·.2 (by decide)) | omega))) (fun k => (zwr_r e381 (by first | decide | exact (absurd ·.1 (by decide)) | exact (absurd ·.2 (by decide)) | omega))) (zwr_r e381 (by first | decide | exact (absurd ·.1 (by decide)) | exact (absurd ·.2 (by decide)) | omega)) (zwr_r e381 (by first | decide | exact (absurd ·.1 (by decide)) | exact (absurd ·.2 (by decide)) | omega)) (zwr_r e381 (by first | decide | exact (absurd ·.1 (by decide)) | exact (absurd ·.2 (by decide)) | omega)) (zwr_r e381 (by first | decide | exact (absurd ·.1 (by decide)) | exact (absurd ·.2 (by decide)) | omega)) (zwr_r e381 (by first | decide | exact (absurd ·.1 (by decide)) | exact (absurd ·.2 (by decide)) | omega)); have a_7 : tPm 0 T x_1j h391 := tPm_f a_6 (fun k => (zfr_a f396 rfl (by decide))) (fun k => (zfr_a f396 rfl (by decide))) (zfr_f f396 rfl rfl) (zfr_f f396 rfl rfl) (zfr_f f396 rfl rfl) (zfr_f f396 rfl rfl) (zfr_f f396 rfl rfl); have k_8 := tT0 a_7.2.2.1; have k_8j := a_7.1.1; have a_9 : tPm 0 T (x_1j + 1) h399 := tPm_r a_7 (by omega) (u404 a_7.2.2.2.2.2.1 (tPm_l a_7 (by omega))) (fun k => (zfr_a f405 rfl (by decide))) (fun k => (zfr_a f405 rfl (by decide))) (zfr_f f405 rfl rfl); have g_10 := u322; have g_11 := u338; have g_12 := u394; have v28 : h380.2 0 28 = h335.2 0 28 - 1 := (by have e9 : h377.2 0 28 = ((h335.2 0 28) - 1) := zwr_v e378; have e8 : h380.2 0 28 = h377.2 0 28 := (zwr_r e381 (by first | decide | exact (absurd ·.1 (by decide)) | exact (absurd ·.2 (by decide)) | omega)); omega); exact ⟨(x_1j + 1), a_9, by omega, fun p9 s9 o9 y9 => by have q8 := tRe_s (tRe_t (by have q9 := x_1r p9 s9 o9 y9; rw [if_pos (by omega)] at q9; exact q9) (tSk_a z9.1 g_10.2.1 g_10.1 g_10.2.2.2.1 (z9.2.2.2.2.2.2.2.2 (by omega)).1 u323 y9)) (tSk_cl (f := h5.2 16) (n := h319.2 0 28) (m := h335.2 0 28) (fun i a9 b9 => z9.1 i a9 (by have w9 := g_10.1; omega)) g_11.2.1 g_11.1 (by have e9 := g_11.2.2.2.1; rw [show h319.2 16 = h5.2 16 from (funext fun _ => (zfr_a f324 rfl (by decide)))] at e9; exact e9) (by have e9 := u339; rw [show h319.2 16 = h5.2 16 from (funext fun _ => (zfr_a f324 rfl (by decide)))] at e9; exact e9) y9 (by omega) (by omega)); rw [tSk_t _ a376.1, show h5.2 16 (h335.2 0 28 - 1) = 12 from by have e9 := a376.2; rw [show h335.2 16 = h5.2 16 from (funext fun _ => ((zfr_a f340 rfl (by decide)).trans (zfr_a f324 rfl (by decide))))] at e9; exact e9] at q8; rw [if_pos (by omega), show h399.2 16 = h5.2 16 from (funext fun _ => ((((((zfr_a f405 rfl (by decide)).trans (zfr_a f396 rfl (by decide))).trans (zwr_r e381 (by first | decide | exact (absurd ·.1 (by decide)) | exact (absurd ·.2 (by decide)) | omega))).trans (zwr_r e378 (by first | decide | exact (absurd ·.1 (by decide)) | exact (absurd ·.2 (by decide)) | omega))).trans (zfr_a f340 rfl (by decide))).trans (zfr_a f324 rfl (by decide)))), show h399.2 0 28 = h391.2 0 28 from (zfr_f f405 rfl rfl)]; exact tRe_t (tRe_s q8 (tM12_y (by omega))) (tSk_9 _ (h391.2 0 28) (h335.2 0 28 - 1) g_12.2.1 (by have a9 := g_12.1; rw [v28] at a9; exact a9) rfl (by have a9 := g_12.2.2.2.1; rw [v28, show h380.2 16 = h5.2 16 from (funext fun _ => ((((zwr_r e381 (by first | decide | exact (absurd ·.1 (by decide)) | exact (absurd ·.2 (by decide)) | omega)).trans (zwr_r e378 (by first | decide | exact (absurd ·.1 (by decide)) | exact (absurd ·.2 (by decide)) | omega))).trans (zfr_a f340 rfl (by decide))).trans (zfr_a f324 rfl (by decide))))] at a9; exact a9))⟩) (by omega)
                    · exact absurd c375 (by omega)
                · refine zj_iconst (zdk ttX11_readAny 102 rfl rfl) ?_
                  have f442 : zfr [12, 13, 14, 15, 25, 26, 28, 29, 30] [14, 15, 16] h h319 := zfr_t f7 f324 rfl rfl
                  have f441 : zfr [12, 13, 14, 15, 25, 26, 28, 29, 30] [14, 15, 16] h h335 := zfr_t f442 f340 rfl rfl
                  have a443 := zAny_end a341.1 (by omega) (a341.2.2 rfl)
                  have b444 : 0 ≤ (h.2 0 14) ∧ (h.2 0 14) ≤ 4 := fM_14 s0
                  have b445 : -2147483648 ≤ (h.2 0 15) ∧ (h.2 0 15) ≤ 2147483647 := fM_15 s0
                  have b446 : h319.2 0 14 = (h5.2 0 14) := (zfr_f f324 rfl rfl)
                  have b447 : h319.2 0 15 = (h5.2 0 15) := (zfr_f f324 rfl rfl)
                  have b448 : h335.2 0 14 = (h5.2 0 14) := ((zfr_f f340 rfl rfl).trans (zfr_f f324 rfl rfl))
                  have b449 : h335.2 0 15 = (h5.2 0 15) := ((zfr_f f340 rfl rfl).trans (zfr_f f324 rfl rfl))
                  exact zj_iret rfl (zdk ttX11_readAny 103 rfl rfl) (Nat.le_refl _) (Nat.le_refl _) ⟨0, rfl, by omega, s337, f441, (fun _ => ⟨(tok_same (tok_same u290 f324 rfl rfl rfl rfl) f340 rfl rfl rfl rfl), a443.1, a443.2⟩), (fun _ => by have a9 := a341.1; have t9 := (a341.2.2 rfl); have y28 : h335.2 0 28 = 0 := (by by_cases w9 : h335.2 0 28 = 0; exact w9; exact absurd (by omega) (zAny_c0 a9 (t9.resolve_left w9) (by have w8 := a9.2.1; omega))); have q3 := a9.2.2.1; rw [y28, zck_0, zck_0] at q3; omega), (by intro T j t0; obtain ⟨x_1j, x_1a, x_1l, x_1r⟩ := u292 T j t0; have k_2 := tT0 x_1a.2.2.1; have k_2j := x_1a.1.1; have z9 := u291; have g_3 := u322; have g_4 := u338; have a_5 : tPm 0 T x_1j h319 := tPm_f x_1a (fun k => (zfr_a f324 rfl (by decide))) (fun k => (zfr_a f324 rfl (by decide))) (zfr_f f324 rfl rfl) (zfr_f f324 rfl rfl) (zfr_f f324 rfl rfl) (zfr_f f324 rfl rfl) (zfr_f f324 rfl rfl); have a_6 : tPm 0 T x_1j h335 := tPm_f a_5 (fun k => (zfr_a f340 rfl (by decide))) (fun k => (zfr_a f340 rfl (by decide))) (zfr_f f340 rfl rfl) (zfr_f f340 rfl rfl) (zfr_f f340 rfl rfl) (zfr_f f340 rfl rfl) (zfr_f f340 rfl rfl); have y28 : h335.2 0 28 = 0 := (by have a9 := a341.1; have t9 := (a341.2.2 rfl); by_cases w9 : h335.2 0 28 = 0; exact w9; exact absurd (by omega) (zAny_c0 a9 (t9.resolve_left w9) (by have w8 := a9.2.1; omega))); exact ⟨fun _ => ⟨x_1j, a_6, by omega, fun p9 s9 o9 y9 => by have q8 := tRe_s (tRe_t (by have q9 := x_1r p9 s9 o9 y9; rw [if_pos (by omega)] at q9; exact q9) (tSk_a z9.1 g_3.2.1 g_3.1 g_3.2.2.2.1 (z9.2.2.2.2.2.2.2.2 (by omega)).1 u323 y9)) (tSk_cl (f := h5.2 16) (n := h319.2 0 28) (m := h335.2 0 28) (fun i a9 b9 => z9.1 i a9 (by have w9 := g_3.1; omega)) g_4.2.1 g_4.1 (by have e9 := g_4.2.2.2.1; rw [show h319.2 16 = h5.2 16 from (funext fun _ => (zfr_a f324 rfl (by decide)))] at e9; exact e9) (by have e9 := u339; rw [show h319.2 16 = h5.2 16 from (funext fun _ => (zfr_a f324 rfl (by decide)))] at e9; exact e9) y9 (by omega) (by omega)); rw [y28] at q8; exact q8⟩, fun z => absurd z (by omega)⟩)⟩
              · exact absurd c316 (by omega)
            · refine zj_if_eq (t := 173) (zdk ttX11_readAny 79 rfl rfl) (by decide) (by decide) (fun c450 => ?_) (fun c450 => ?_)
              · exact absurd c450 (by omega)
              · refine zj_aload_n (zdk ttX11_readAny 80 rfl rfl) rfl (by decide) ?_
                refine zj_bipush (zdk ttX11_readAny 81 rfl rfl) (by decide) ?_
                refine zj_callV (av := [.inl 10]) (st := []) (zdk ttX11_readAny 82 rfl rfl) mb_X11_settles mv_RX11_235 (ci := 11) rfl rfl (k_M s6) rfl rfl (Nat.le_of_ble_eq_true rfl) (s_X11_settles l h5 10 s6 (by omega) (by omega) (fun q => absurd q (by decide)) (by decide)) (rm_ok (by decide) (by decide)) (zq_v fun h453 q451 => ?_)
                obtain ⟨s455, f458, u456, u457⟩ := q451
                have a459 := zAny_set (zAny_d u291 rfl (show x4 = 0 by omega)) (Or.inl rfl) u456 u457 f458 (fun q => absurd q (by decide))
                have b460 := zAny_f a459.1
                have b460r := zAny_br a459.1
                have b461 : h453.2 0 12 = (h5.2 0 12) := (zfr_f f458 rfl rfl)
                have b462 : h453.2 0 13 = (h5.2 0 13) := (zfr_f f458 rfl rfl)
                have b463 : h453.2 0 14 = (h5.2 0 14) := (zfr_f f458 rfl rfl)
                have b464 : 0 ≤ (h453.2 0 25) ∧ (h453.2 0 25) ≤ 400 := fM_25 s455
                have b465 : 0 ≤ (h453.2 0 26) ∧ (h453.2 0 26) ≤ 8 := fM_26 s455
                have b466 : 0 ≤ (h453.2 0 28) ∧ (h453.2 0 28) ≤ 40 := fM_28 s455
                refine zj_aload_n (zdk ttX11_readAny 83 rfl rfl) rfl (by decide) ?_
                refine zj_bipush (zdk ttX11_readAny 84 rfl rfl) (by decide) ?_
                refine zj_callV (av := [.inl 11]) (st := []) (zdk ttX11_readAny 85 rfl rfl) mb_X11_settles mv_RX11_235 (ci := 11) rfl rfl (k_M s455) rfl rfl (Nat.le_of_ble_eq_true rfl) (s_X11_settles l h453 11 s455 (by omega) (by omega) (fun q => absurd q (by decide)) (by decide)) (rm_ok (by decide) (by decide)) (zq_v fun h469 q467 => ?_)
                obtain ⟨s471, f474, u472, u473⟩ := q467
                have a475 := zAny_set a459.1 (Or.inr rfl) u472 u473 f474 (fun _ => (a459.2.1 rfl))
                have b476 := zAny_f a475.1
                have b476r := zAny_br a475.1
                have b477 : h469.2 0 12 = (h5.2 0 12) := ((zfr_f f474 rfl rfl).trans (zfr_f f458 rfl rfl))
                have b478 : h469.2 0 13 = (h5.2 0 13) := ((zfr_f f474 rfl rfl).trans (zfr_f f458 rfl rfl))
                have b479 : h469.2 0 14 = (h5.2 0 14) := ((zfr_f f474 rfl rfl).trans (zfr_f f458 rfl rfl))
                have b480 : 0 ≤ (h469.2 0 25) ∧ (h469.2 0 25) ≤ 400 := fM_25 s471
                have b481 : 0 ≤ (h469.2 0 26) ∧ (h469.2 0 26) ≤ 8 := fM_26 s471
                have b482 : 0 ≤ (h469.2 0 28) ∧ (h469.2 0 28) ≤ 40 := fM_28 s471
                refine zj_aload_n (zdk ttX11_readAny 86 rfl rfl) rfl (by decide) ?_
                refine zj_bipush (zdk ttX11_readAny 87 rfl rfl) (by decide) ?_
                refine zj_callV (av := [.inl 11]) (st := []) (zdk ttX11_readAny 88 rfl rfl) mb_X11_waits mv_RX11_229 (ci := 11) rfl rfl (k_M s471) rfl rfl (Nat.le_of_ble_eq_true rfl) (s_X11_waits l h469 11 s471 (by omega) (by omega)) (rm_ok (by decide) (by decide)) (zq_v fun h485 q483 => ?_)
                obtain ⟨s487, f491, u488, u489, u490⟩ := q483
                refine zj_aload_n (zdk ttX11_readAny 89 rfl rfl) rfl (by decide) ?_
                refine zj_callV (av := []) (st := []) (zdk ttX11_readAny 90 rfl rfl) mb_X11_reads mv_RX11_204 (ci := 11) rfl rfl (k_M s487) rfl rfl (Nat.le_of_ble_eq_true rfl) (s2_X11_reads l h485 s487) (rm_ok (by decide) (by decide)) (zq_v fun h494 q492 => ?_)
                obtain ⟨s496, f500, u497, u498, u499⟩ := q492
                refine zj_iconst (zdk ttX11_readAny 91 rfl rfl) ?_
                refine zj_istore_n (L' := [some (.inr 0), some (.inl x3), some (.inl 1), none]) (zdk ttX11_readAny 92 rfl rfl) (by decide) rfl ?_
                refine zj_goto (t := 9) (zdk ttX11_readAny 93 rfl rfl) (by decide) ?_
                have b501 : 0 ≤ (h494.2 0 12) ∧ (h494.2 0 12) ≤ 400 := fM_12 s496
                have b502 : 0 ≤ (h494.2 0 13) ∧ (h494.2 0 13) ≤ 400 := fM_13 s496
                have b503 : 0 ≤ (h494.2 0 14) ∧ (h494.2 0 14) ≤ 4 := fM_14 s496
                have b504 : h494.2 0 25 = (h469.2 0 25) := ((zfr_f f500 rfl rfl).trans (zfr_f f491 rfl rfl))
                have b505 : h494.2 0 26 = (h469.2 0 26) := ((zfr_f f500 rfl rfl).trans (zfr_f f491 rfl rfl))
                have b506 : h494.2 0 28 = (h485.2 0 28) := (zfr_f f500 rfl rfl)
                have b507 : 0 ≤ (h485.2 0 28) ∧ (h485.2 0 28) ≤ 40 := fM_28 s487
                have f511 : zfr [12, 13, 14, 15, 25, 26, 28, 29, 30] [14, 15, 16] h h453 := zfr_t f7 f458 rfl rfl
                have f510 : zfr [12, 13, 14, 15, 25, 26, 28, 29, 30] [14, 15, 16] h h469 := zfr_t f511 f474 rfl rfl
                have f509 : zfr [12, 13, 14, 15, 25, 26, 28, 29, 30] [14, 15, 16] h h485 := zfr_t f510 f491 rfl rfl
                have f508 : zfr [12, 13, 14, 15, 25, 26, 28, 29, 30] [14, 15, 16] h h494 := zfr_t f509 f500 rfl rfl
                have b512 : h485.2 0 12 = (h5.2 0 12) := (((zfr_f f491 rfl rfl).trans (zfr_f f474 rfl rfl)).trans (zfr_f f458 rfl rfl))
                have b513 : h485.2 0 13 = (h5.2 0 13) := (((zfr_f f491 rfl rfl).trans (zfr_f f474 rfl rfl)).trans (zfr_f f458 rfl rfl))
                have b514 : h485.2 0 14 = (h5.2 0 14) := (((zfr_f f491 rfl rfl).trans (zfr_f f474 rfl rfl)).trans (zfr_f f458 rfl rfl))
                have b515 : h485.2 0 25 = (h469.2 0 25) := (zfr_f f491 rfl rfl)
                have b516 : h494.2 0 25 = (h469.2 0 25) := ((zfr_f f500 rfl rfl).trans (zfr_f f491 rfl rfl))
                have t517 : tok h485 := (tok_same (tok_same (tok_same u290 f458 rfl rfl rfl rfl) f474 rfl rfl rfl rfl) f491 rfl rfl rfl rfl)
                unfold tok at t517
                have b518 : 0 ≤ (h.2 0 14) ∧ (h.2 0 14) ≤ 4 := fM_14 s0
                have b519 : -2147483648 ≤ (h.2 0 15) ∧ (h.2 0 15) ≤ 2147483647 := fM_15 s0
                have b520 : h453.2 0 14 = (h5.2 0 14) := (zfr_f f458 rfl rfl)
                have b521 : h453.2 0 15 = (h5.2 0 15) := (zfr_f f458 rfl rfl)
                have b522 : h469.2 0 14 = (h5.2 0 14) := ((zfr_f f474 rfl rfl).trans (zfr_f f458 rfl rfl))
                have b523 : h469.2 0 15 = (h5.2 0 15) := ((zfr_f f474 rfl rfl).trans (zfr_f f458 rfl rfl))
                have b524 : h485.2 0 14 = (h5.2 0 14) := (((zfr_f f491 rfl rfl).trans (zfr_f f474 rfl rfl)).trans (zfr_f f458 rfl rfl))
                have b525 : h485.2 0 15 = (h5.2 0 15) := (((zfr_f f491 rfl rfl).trans (zfr_f f474 rfl rfl)).trans (zfr_f f458 rfl rfl))
                have b526 : -2147483648 ≤ (h494.2 0 15) ∧ (h494.2 0 15) ≤ 2147483647 := fM_15 s496
                exact ih294  x3 1 h494 (by omega) (by omega) s496 f508 u497 (zAny_d (br := x3) (d := 1) (zAny_push (w := 11) (br := x3) a475.1 (by decide) (fun q => absurd q (by decide)) (fun _ => rfl) (fun q => absurd q (by decide)) (fun _ => (a475.2.2 rfl)) (zfr_r [26] [] h469) (fun q => absurd q (by decide)) (fun _ => rfl) (fun q => absurd q (by decide)) (fun _ => rfl) u488 u489 u490 f491 f500 (by omega)) rfl (by omega)) (by intro T j t0; obtain ⟨x_1j, x_1a, x_1l, x_1r⟩ := u292 T j t0; have k_2 := tT0 x_1a.2.2.1; have k_2j := x_1a.1.1; have z9 := u291; have a_3 : tPm 0 T x_1j h453 := tPm_f x_1a (fun k => (zfr_a f458 rfl (by decide))) (fun k => (zfr_a f458 rfl (by decide))) (zfr_f f458 rfl rfl) (zfr_f f458 rfl rfl) (zfr_f f458 rfl rfl) (zfr_f f458 rfl rfl) (zfr_f f458 rfl rfl); have a_4 : tPm 0 T x_1j h469 := tPm_f a_3 (fun k => (zfr_a f474 rfl (by decide))) (fun k => (zfr_a f474 rfl (by decide))) (zfr_f f474 rfl rfl) (zfr_f f474 rfl rfl) (zfr_f f474 rfl rfl) (zfr_f f474 rfl rfl) (zfr_f f474 rfl rfl); have a_5 : tPm 0 T x_1j h485 := tPm_f a_4 (fun k => (zfr_a f491 rfl (by decide))) (fun k => (zfr_a f491 rfl (by decide))) (zfr_f f491 rfl rfl) (zfr_f f491 rfl rfl) (zfr_f f491 rfl rfl) (zfr_f f491 rfl rfl) (zfr_f f491 rfl rfl); have k_6 := tT0 a_5.2.2.1; have k_6j := a_5.1.1; have a_7 : tPm 0 T (x_1j + 1) h494 := tPm_r a_5 (by omega) (u499 a_5.2.2.2.2.2.1 (tPm_l a_5 (by omega))) (fun k => (zfr_a f500 rfl (by decide))) (fun k => (zfr_a f500 rfl (by decide))) (zfr_f f500 rfl rfl); have g_8 := u456; have g_9 := u472; exact ⟨(x_1j + 1), a_7, by omega, fun p9 s9 o9 y9 => by rw [if_neg (by decide), (tSk_p (f := h5.2 16) (g := h494.2 16) (n := h469.2 0 28) (n' := h494.2 0 28) (w := 11) g_9.2.1 (by rw [show h494.2 0 28 = h485.2 0 28 from (zfr_f f500 rfl rfl), u488]) (by rw [show h494.2 16 = h485.2 16 from (funext fun _ => (zfr_a f500 rfl (by decide)))]; exact u489) (fun k hk => by rw [show h494.2 16 = h485.2 16 from (funext fun _ => (zfr_a f500 rfl (by decide))), u490 k hk, show h469.2 16 = h5.2 16 from (funext fun _ => ((zfr_a f474 rfl (by decide)).trans (zfr_a f458 rfl (by decide))))]))]; exact tRe_s (tRe_t (by have q9 := x_1r p9 s9 o9 y9; rw [if_pos (by omega)] at q9; exact q9) (tSk_a z9.1 g_8.2.1 g_8.1 g_8.2.2.2.1 (z9.2.2.2.2.2.2.2.2 (by omega)).1 u457 y9)) (tSk_or (f := h5.2 16) (n := h453.2 0 28) (m := h469.2 0 28) (fun i a9 b9 => z9.1 i a9 (by have w9 := g_8.1; omega)) g_9.2.1 g_9.1 (by have e9 := g_9.2.2.2.1; rw [show h453.2 16 = h5.2 16 from (funext fun _ => (zfr_a f458 rfl (by decide)))] at e9; exact e9) (by have e9 := u473; rw [show h453.2 16 = h5.2 16 from (funext fun _ => (zfr_a f458 rfl (by decide)))] at e9; exact e9) y9 (by omega))⟩) (by omega)
          · exact absurd c309 (by omega)
        · refine zj_if_eq (t := 138) (zdk ttX11_readAny 64 rfl rfl) (by decide) (by decide) (fun c527 => ?_) (fun c527 => ?_)
          · exact absurd c527 (by omega)
          · refine zj_aload_n (zdk ttX11_readAny 65 rfl rfl) rfl (by decide) ?_
            refine zj_bipush (zdk ttX11_readAny 66 rfl rfl) (by decide) ?_
            refine zj_callV (av := [.inl 10]) (st := []) (zdk ttX11_readAny 67 rfl rfl) mb_X11_settles mv_RX11_235 (ci := 11) rfl rfl (k_M s6) rfl rfl (Nat.le_of_ble_eq_true rfl) (s_X11_settles l h5 10 s6 (by omega) (by omega) (fun q => absurd q (by decide)) (by decide)) (rm_ok (by decide) (by decide)) (zq_v fun h530 q528 => ?_)
            obtain ⟨s532, f535, u533, u534⟩ := q528
            have a536 := zAny_set (zAny_d u291 rfl (show x4 = 0 by omega)) (Or.inl rfl) u533 u534 f535 (fun q => absurd q (by decide))
            have b537 := zAny_f a536.1
            have b537r := zAny_br a536.1
            have b538 : h530.2 0 12 = (h5.2 0 12) := (zfr_f f535 rfl rfl)
            have b539 : h530.2 0 13 = (h5.2 0 13) := (zfr_f f535 rfl rfl)
            have b540 : h530.2 0 14 = (h5.2 0 14) := (zfr_f f535 rfl rfl)
            have b541 : 0 ≤ (h530.2 0 25) ∧ (h530.2 0 25) ≤ 400 := fM_25 s532
            have b542 : 0 ≤ (h530.2 0 26) ∧ (h530.2 0 26) ≤ 8 := fM_26 s532
            have b543 : 0 ≤ (h530.2 0 28) ∧ (h530.2 0 28) ≤ 40 := fM_28 s532
            refine zj_aload_n (zdk ttX11_readAny 68 rfl rfl) rfl (by decide) ?_
            refine zj_bipush (zdk ttX11_readAny 69 rfl rfl) (by decide) ?_
            refine zj_callV (av := [.inl 10]) (st := []) (zdk ttX11_readAny 70 rfl rfl) mb_X11_waits mv_RX11_229 (ci := 11) rfl rfl (k_M s532) rfl rfl (Nat.le_of_ble_eq_true rfl) (s_X11_waits l h530 10 s532 (by omega) (by omega)) (rm_ok (by decide) (by decide)) (zq_v fun h546 q544 => ?_)
            obtain ⟨s548, f552, u549, u550, u551⟩ := q544
            refine zj_aload_n (zdk ttX11_readAny 71 rfl rfl) rfl (by decide) ?_
            refine zj_callV (av := []) (st := []) (zdk ttX11_readAny 72 rfl rfl) mb_X11_reads mv_RX11_204 (ci := 11) rfl rfl (k_M s548) rfl rfl (Nat.le_of_ble_eq_true rfl) (s2_X11_reads l h546 s548) (rm_ok (by decide) (by decide)) (zq_v fun h555 q553 => ?_)
            obtain ⟨s557, f561, u558, u559, u560⟩ := q553
            refine zj_iconst (zdk ttX11_readAny 73 rfl rfl) ?_
            refine zj_istore_n (L' := [some (.inr 0), some (.inl x3), some (.inl 1), none]) (zdk ttX11_readAny 74 rfl rfl) (by decide) rfl ?_
            refine zj_goto (t := 9) (zdk ttX11_readAny 75 rfl rfl) (by decide) ?_
            have b562 : 0 ≤ (h555.2 0 12) ∧ (h555.2 0 12) ≤ 400 := fM_12 s557
            have b563 : 0 ≤ (h555.2 0 13) ∧ (h555.2 0 13) ≤ 400 := fM_13 s557
            have b564 : 0 ≤ (h555.2 0 14) ∧ (h555.2 0 14) ≤ 4 := fM_14 s557
            have b565 : h555.2 0 25 = (h530.2 0 25) := ((zfr_f f561 rfl rfl).trans (zfr_f f552 rfl rfl))
            have b566 : h555.2 0 26 = (h530.2 0 26) := ((zfr_f f561 rfl rfl).trans (zfr_f f552 rfl rfl))
            have b567 : h555.2 0 28 = (h546.2 0 28) := (zfr_f f561 rfl rfl)
            have b568 : 0 ≤ (h546.2 0 28) ∧ (h546.2 0 28) ≤ 40 := fM_28 s548
            have f571 : zfr [12, 13, 14, 15, 25, 26, 28, 29, 30] [14, 15, 16] h h530 := zfr_t f7 f535 rfl rfl
            have f570 : zfr [12, 13, 14, 15, 25, 26, 28, 29, 30] [14, 15, 16] h h546 := zfr_t f571 f552 rfl rfl
            have f569 : zfr [12, 13, 14, 15, 25, 26, 28, 29, 30] [14, 15, 16] h h555 := zfr_t f570 f561 rfl rfl
            have b572 : h546.2 0 12 = (h5.2 0 12) := ((zfr_f f552 rfl rfl).trans (zfr_f f535 rfl rfl))
            have b573 : h546.2 0 13 = (h5.2 0 13) := ((zfr_f f552 rfl rfl).trans (zfr_f f535 rfl rfl))
            have b574 : h546.2 0 14 = (h5.2 0 14) := ((zfr_f f552 rfl rfl).trans (zfr_f f535 rfl rfl))
            have b575 : h546.2 0 25 = (h530.2 0 25) := (zfr_f f552 rfl rfl)
            have b576 : h555.2 0 25 = (h530.2 0 25) := ((zfr_f f561 rfl rfl).trans (zfr_f f552 rfl rfl))
            have t577 : tok h546 := (tok_same (tok_same u290 f535 rfl rfl rfl rfl) f552 rfl rfl rfl rfl)
            unfold tok at t577
            have b578 : 0 ≤ (h.2 0 14) ∧ (h.2 0 14) ≤ 4 := fM_14 s0
            have b579 : -2147483648 ≤ (h.2 0 15) ∧ (h.2 0 15) ≤ 2147483647 := fM_15 s0
            have b580 : h530.2 0 14 = (h5.2 0 14) := (zfr_f f535 rfl rfl)
            have b581 : h530.2 0 15 = (h5.2 0 15) := (zfr_f f535 rfl rfl)
            have b582 : h546.2 0 14 = (h5.2 0 14) := ((zfr_f f552 rfl rfl).trans (zfr_f f535 rfl rfl))
            have b583 : h546.2 0 15 = (h5.2 0 15) := ((zfr_f f552 rfl rfl).trans (zfr_f f535 rfl rfl))
            have b584 : -2147483648 ≤ (h555.2 0 15) ∧ (h555.2 0 15) ≤ 2147483647 := fM_15 s557
            exact ih294  x3 1 h555 (by omega) (by omega) s557 f569 u558 (zAny_d (br := x3) (d := 1) (zAny_push (w := 10) (br := x3) a536.1 (by decide) (fun q => absurd q (by decide)) (fun _ => rfl) (fun _ => (a536.2.1 rfl)) (fun q => absurd q (by decide)) (zfr_r [26] [] h530) (fun q => absurd q (by decide)) (fun _ => rfl) (fun q => absurd q (by decide)) (fun _ => rfl) u549 u550 u551 f552 f561 (by omega)) rfl (by omega)) (by intro T j t0; obtain ⟨x_1j, x_1a, x_1l, x_1r⟩ := u292 T j t0; have k_2 := tT0 x_1a.2.2.1; have k_2j := x_1a.1.1; have z9 := u291; have a_3 : tPm 0 T x_1j h530 := tPm_f x_1a (fun k => (zfr_a f535 rfl (by decide))) (fun k => (zfr_a f535 rfl (by decide))) (zfr_f f535 rfl rfl) (zfr_f f535 rfl rfl) (zfr_f f535 rfl rfl) (zfr_f f535 rfl rfl) (zfr_f f535 rfl rfl); have a_4 : tPm 0 T x_1j h546 := tPm_f a_3 (fun k => (zfr_a f552 rfl (by decide))) (fun k => (zfr_a f552 rfl (by decide))) (zfr_f f552 rfl rfl) (zfr_f f552 rfl rfl) (zfr_f f552 rfl rfl) (zfr_f f552 rfl rfl) (zfr_f f552 rfl rfl); have k_5 := tT0 a_4.2.2.1; have k_5j := a_4.1.1; have a_6 : tPm 0 T (x_1j + 1) h555 := tPm_r a_4 (by omega) (u560 a_4.2.2.2.2.2.1 (tPm_l a_4 (by omega))) (fun k => (zfr_a f561 rfl (by decide))) (fun k => (zfr_a f561 rfl (by decide))) (zfr_f f561 rfl rfl); have g_7 := u533; exact ⟨(x_1j + 1), a_6, by omega, fun p9 s9 o9 y9 => by rw [if_neg (by decide), (tSk_p (f := h5.2 16) (g := h555.2 16) (n := h530.2 0 28) (n' := h555.2 0 28) (w := 10) (u533).2.1 (by rw [show h555.2 0 28 = h546.2 0 28 from (zfr_f f561 rfl rfl), u549]) (by rw [show h555.2 16 = h546.2 16 from (funext fun _ => (zfr_a f561 rfl (by decide)))]; exact u550) (fun k hk => by rw [show h555.2 16 = h546.2 16 from (funext fun _ => (zfr_a f561 rfl (by decide))), u551 k hk, show h530.2 16 = h5.2 16 from (funext fun _ => (zfr_a f535 rfl (by decide)))]))]; exact tRe_s (tRe_t (by have q9 := x_1r p9 s9 o9 y9; rw [if_pos (by omega)] at q9; exact q9) (tSk_a z9.1 g_7.2.1 g_7.1 g_7.2.2.2.1 (z9.2.2.2.2.2.2.2.2 (by omega)).1 u534 y9)) (tM11_a (by omega))⟩) (by omega)
      · refine zj_aload_n (zdk ttX11_readAny 9 rfl rfl) rfl (by decide) ?_
        refine zj_bipush (zdk ttX11_readAny 10 rfl rfl) (by decide) ?_
        refine zj_callV (av := [.inl 6]) (st := []) (zdk ttX11_readAny 11 rfl rfl) mb_X11_isWord mv_RX11_226 (ci := 11) rfl rfl (k_M s6) rfl rfl (Nat.le_of_ble_eq_true rfl) (s_X11_isWord l h5 6 s6 (by omega)) (rm_ok (by decide) (by decide)) (zq_i fun v586 h587 q585 => ?_)
        obtain ⟨rfl, b589, b590, ⟨rfl, b588⟩ | ⟨rfl, b588⟩⟩ := q585
        · refine zj_istore_n (L' := [some (.inr 0), some (.inl x3), some (.inl x4), some (.inl 0)]) (zdk ttX11_readAny 12 rfl rfl) (by decide) rfl ?_
          refine zj_iload_n (zdk ttX11_readAny 13 rfl rfl) rfl ?_
          refine zj_if_ne (t := 33) (zdk ttX11_readAny 14 rfl rfl) (by decide) (by decide) (fun c591 => ?_) (fun c591 => ?_)
          · exact absurd c591 (by omega)
          · refine zj_aload_n (zdk ttX11_readAny 15 rfl rfl) rfl (by decide) ?_
            refine zj_bipush (zdk ttX11_readAny 16 rfl rfl) (by decide) ?_
            refine zj_callV (av := [.inl 40]) (st := []) (zdk ttX11_readAny 17 rfl rfl) mb_X11_isSign mv_RX11_211 (ci := 11) rfl rfl (k_M s6) rfl rfl (Nat.le_of_ble_eq_true rfl) (s_X11_isSign l h5 40 s6 (by omega)) (rm_ok (by decide) (by decide)) (zq_i fun v593 h594 q592 => ?_)
            obtain ⟨rfl, b596, b597, ⟨rfl, b595⟩ | ⟨rfl, b595⟩⟩ := q592
            · refine zj_if_eq (t := 88) (zdk ttX11_readAny 18 rfl rfl) (by decide) (by decide) (fun c598 => ?_) (fun c598 => ?_)
              · refine zj_aload_n (zdk ttX11_readAny 49 rfl rfl) rfl (by decide) ?_
                refine zj_callV (av := []) (st := []) (zdk ttX11_readAny 50 rfl rfl) mb_X11_readCompared mv_RX11_232 (ci := 11) rfl rfl (k_M s6) rfl rfl (Nat.le_of_ble_eq_true rfl) (s2_X11_readCompared l h5 s6 u290 (by omega)) (rm_ok (by decide) (by decide)) (zq_i fun v600 h601 q599 => ?_)
                obtain ⟨b602, s603, f606, u604, u605⟩ := q599
                refine zj_iconst (zdk ttX11_readAny 51 rfl rfl) ?_
                refine zj_icmp_ne (t := 98) (zdk ttX11_readAny 52 rfl rfl) (by decide) (by omega) (by decide) (fun c607 => ?_) (fun c607 => ?_)
                · refine zj_aload_n (zdk ttX11_readAny 55 rfl rfl) rfl (by decide) ?_
                  refine zj_bipush (zdk ttX11_readAny 56 rfl rfl) (by decide) ?_
                  have r608 := u604 (by omega)
                  have r608b := r608.2.1.2
                  have r608t := r608.1
                  unfold tok at r608t
                  have b609 : 0 ≤ (h601.2 0 12) ∧ (h601.2 0 12) ≤ 400 := fM_12 s603
                  have b610 : 0 ≤ (h601.2 0 13) ∧ (h601.2 0 13) ≤ 400 := fM_13 s603
                  have b611 : 0 ≤ (h601.2 0 14) ∧ (h601.2 0 14) ≤ 4 := fM_14 s603
                  have b612 : 0 ≤ (h601.2 0 25) ∧ (h601.2 0 25) ≤ 400 := fM_25 s603
                  have b613 : h601.2 0 26 = (h5.2 0 26) := (zfr_f f606 rfl rfl)
                  have b614 : h601.2 0 28 = (h5.2 0 28) := (zfr_f f606 rfl rfl)
                  refine zj_callV (av := [.inl 9]) (st := []) (zdk ttX11_readAny 57 rfl rfl) mb_X11_settles mv_RX11_235 (ci := 11) rfl rfl (k_M s603) rfl rfl (Nat.le_of_ble_eq_true rfl) (s_X11_settles l h601 9 s603 (by omega) (by omega) (fun _ => zck_c b295.2.1 (funext fun _ => (zfr_a f606 rfl (by decide))) (by omega) (by omega)) (by decide)) (rm_ok (by decide) (by decide)) (zq_v fun h617 q615 => ?_)
                  obtain ⟨s619, f622, u620, u621⟩ := q615
                  refine zj_iconst (zdk ttX11_readAny 58 rfl rfl) ?_
                  refine zj_istore_n (L' := [some (.inr 0), some (.inl x3), some (.inl 0), some (.inl 0)]) (zdk ttX11_readAny 59 rfl rfl) (by decide) rfl ?_
                  refine zj_goto (t := 9) (zdk ttX11_readAny 60 rfl rfl) (by decide) ?_
                  refine zj_kill (k := 3) (L' := [some (.inr 0), some (.inl x3), some (.inl 0), none]) rfl ?_
                  have b623 : h617.2 0 12 = (h601.2 0 12) := (zfr_f f622 rfl rfl)
                  have b624 : h617.2 0 13 = (h601.2 0 13) := (zfr_f f622 rfl rfl)
                  have b625 : h617.2 0 14 = (h601.2 0 14) := (zfr_f f622 rfl rfl)
                  have b626 : 0 ≤ (h617.2 0 25) ∧ (h617.2 0 25) ≤ 400 := fM_25 s619
                  have b627 : 0 ≤ (h617.2 0 26) ∧ (h617.2 0 26) ≤ 8 := fM_26 s619
                  have b628 : 0 ≤ (h617.2 0 28) ∧ (h617.2 0 28) ≤ 40 := fM_28 s619
                  have f630 : zfr [12, 13, 14, 15, 25, 26, 28, 29, 30] [14, 15, 16] h h601 := zfr_t f7 f606 rfl rfl
                  have f629 : zfr [12, 13, 14, 15, 25, 26, 28, 29, 30] [14, 15, 16] h h617 := zfr_t f630 f622 rfl rfl
                  have b631 : 0 ≤ (h.2 0 14) ∧ (h.2 0 14) ≤ 4 := fM_14 s0
                  have b632 : -2147483648 ≤ (h.2 0 15) ∧ (h.2 0 15) ≤ 2147483647 := fM_15 s0
                  have b633 : -2147483648 ≤ (h601.2 0 15) ∧ (h601.2 0 15) ≤ 2147483647 := fM_15 s603
                  have b634 : h617.2 0 14 = (h601.2 0 14) := (zfr_f f622 rfl rfl)
                  have b635 : h617.2 0 15 = (h601.2 0 15) := (zfr_f f622 rfl rfl)
                  exact ih294  x3 0 h617 (by omega) (by omega) s619 f629 (tok_same r608.1 f622 rfl rfl rfl rfl) (zAny_opd u291 (by omega) r608.2.1 r608.2.2 ⟨zfr_f f606 rfl rfl, zfr_f f606 rfl rfl, fun j => zfr_a f606 rfl (by decide)⟩ u620 u621 f622) (by intro T j t0; obtain ⟨x_1j, x_1a, x_1l, x_1r⟩ := u292 T j t0; have k_2 := tT0 x_1a.2.2.1; have k_2j := x_1a.1.1; have z9 := u291; obtain ⟨r_3j, r_3a, r_3l, r_3r⟩ := (u605 T x_1j x_1a).1 (by omega); have a_4 : tPm 0 T r_3j h617 := tPm_f r_3a (fun k => (zfr_a f622 rfl (by decide))) (fun k => (zfr_a f622 rfl (by decide))) (zfr_f f622 rfl rfl) (zfr_f f622 rfl rfl) (zfr_f f622 rfl rfl) (zfr_f f622 rfl rfl) (zfr_f f622 rfl rfl); have g_5 := u620; exact ⟨r_3j, a_4, by omega, fun p9 s9 o9 y9 => by rw [if_pos rfl, show h617.2 16 = h5.2 16 from (funext fun _ => ((zfr_a f622 rfl (by decide)).trans (zfr_a f606 rfl (by decide))))]; exact tRe_t (tRe_t (tRe_s (by have q9 := x_1r p9 s9 o9 y9; rw [if_neg (by omega)] at q9; exact q9) (tM8_s (by omega))) (r_3r p9 (tSk (h5.2 16) (h5.2 0 28).toNat ++ s9))) (tSk_9 _ (h617.2 0 28) (h5.2 0 28) g_5.2.1 (by have a9 := g_5.1; rw [show h601.2 0 28 = h5.2 0 28 from (zfr_f f606 rfl rfl)] at a9; exact a9) rfl (by have a9 := g_5.2.2.2.1; rw [show h601.2 0 28 = h5.2 0 28 from (zfr_f f606 rfl rfl), show h601.2 16 = h5.2 16 from (funext fun _ => (zfr_a f606 rfl (by decide)))] at a9; exact a9))⟩) (by omega)
                · refine zj_iconst (zdk ttX11_readAny 53 rfl rfl) ?_
                  have f636 : zfr [12, 13, 14, 15, 25, 26, 28, 29, 30] [14, 15, 16] h h601 := zfr_t f7 f606 rfl rfl
                  have b637 : 0 ≤ (h.2 0 14) ∧ (h.2 0 14) ≤ 4 := fM_14 s0
                  have b638 : -2147483648 ≤ (h.2 0 15) ∧ (h.2 0 15) ≤ 2147483647 := fM_15 s0
                  have b639 : 0 ≤ (h601.2 0 14) ∧ (h601.2 0 14) ≤ 4 := fM_14 s603
                  have b640 : -2147483648 ≤ (h601.2 0 15) ∧ (h601.2 0 15) ≤ 2147483647 := fM_15 s603
                  exact zj_iret rfl (zdk ttX11_readAny 54 rfl rfl) (Nat.le_refl _) (Nat.le_refl _) ⟨(-1), rfl, by omega, s603, f636, (fun q => absurd q (by omega)), (fun z => absurd z (by omega)), (by intro T j t0; obtain ⟨x_1j, x_1a, x_1l, x_1r⟩ := u292 T j t0; have k_2 := tT0 x_1a.2.2.1; have k_2j := x_1a.1.1; have z9 := u291; obtain ⟨e_3i, e_3f, e_3p, e_3r⟩ := (u605 T x_1j x_1a).2 (by omega); have e_3q : tEp h h601 e_3i e_3f := (by have q9 := e_3p; unfold tEp at q9 ⊢; rw [show h5.2 7 = h.2 7 from funext fun i9 => (zfr_a f7 rfl (by decide)), show h5.2 0 11 = h.2 0 11 from (zfr_f f7 rfl rfl)] at q9; exact q9); exact ⟨fun z => absurd z (by omega), fun _ => ⟨e_3i, e_3f, e_3q, fun p9 s9 o9 y9 => tRe_t (tRe_s (by have q9 := x_1r p9 s9 o9 y9; rw [if_neg (by omega)] at q9; exact q9) (tM8_s (by omega))) (e_3r p9 (tSk (h5.2 16) (h5.2 0 28).toNat ++ s9))⟩⟩)⟩
              · exact absurd c598 (by omega)
            · refine zj_if_eq (t := 88) (zdk ttX11_readAny 18 rfl rfl) (by decide) (by decide) (fun c641 => ?_) (fun c641 => ?_)
              · exact absurd c641 (by omega)
              · refine zj_aload_n (zdk ttX11_readAny 19 rfl rfl) rfl (by decide) ?_
                refine zj_geti (v := (h5.2 0 26)) (zdk ttX11_readAny 20 rfl rfl) zf_RX11_223 rfl (k_M s6) rfl ?_
                refine zj_bipush (zdk ttX11_readAny 21 rfl rfl) (by decide) ?_
                refine zj_icmp_ne (t := 48) (zdk ttX11_readAny 22 rfl rfl) (by decide) (by omega) (by decide) (fun c642 => ?_) (fun c642 => ?_)
                · refine zj_aload_n (zdk ttX11_readAny 27 rfl rfl) rfl (by decide) ?_
                  refine zj_aload_n (zdk ttX11_readAny 28 rfl rfl) rfl (by decide) ?_
                  refine zj_geti (v := (h5.2 0 26)) (zdk ttX11_readAny 29 rfl rfl) zf_RX11_223 rfl (k_M s6) rfl ?_
                  refine zj_iconst (zdk ttX11_readAny 30 rfl rfl) ?_
                  refine zj_iadd (zdk ttX11_readAny 31 rfl rfl) ?_
                  refine zj_puti (zdk ttX11_readAny 32 rfl rfl) zf_RX11_223 rfl (k_M s6) (Or.inl zw_RX11_223) (k2 := 26) rfl (fun h643 e644 => ?_)
                  refine zj_iload_n (zdk ttX11_readAny 33 rfl rfl) rfl ?_
                  refine zj_if_ne (t := 66) (zdk ttX11_readAny 34 rfl rfl) (by decide) (by decide) (fun c645 => ?_) (fun c645 => ?_)
                  · exact absurd c645 (by omega)
                  · refine zj_iload_n (zdk ttX11_readAny 35 rfl rfl) rfl ?_
                    refine zj_iconst (zdk ttX11_readAny 36 rfl rfl) ?_
                    refine zj_iadd (zdk ttX11_readAny 37 rfl rfl) ?_
                    refine zj_istore_n (L' := [some (.inr 0), some (.inl (x3 + 1)), some (.inl x4), some (.inl 0)]) (zdk ttX11_readAny 38 rfl rfl) (by decide) rfl ?_
                    refine zj_aload_n (zdk ttX11_readAny 39 rfl rfl) rfl (by decide) ?_
                    refine zj_iload_n (zdk ttX11_readAny 40 rfl rfl) rfl ?_
                    refine zj_if_eq (t := 76) (zdk ttX11_readAny 41 rfl rfl) (by decide) (by decide) (fun c646 => ?_) (fun c646 => ?_)
                    · refine zj_bipush (zdk ttX11_readAny 44 rfl rfl) (by decide) ?_
                      have s647 : okM h643 := fwM_26 s6 e644 (by omega)
                      have b648 : h643.2 0 12 = (h5.2 0 12) := (zwr_r e644 (by first | decide | exact (absurd ·.1 (by decide)) | exact (absurd ·.2 (by decide)) | omega))
                      have b649 : h643.2 0 13 = (h5.2 0 13) := (zwr_r e644 (by first | decide | exact (absurd ·.1 (by decide)) | exact (absurd ·.2 (by decide)) | omega))
                      have b650 : h643.2 0 14 = (h5.2 0 14) := (zwr_r e644 (by first | decide | exact (absurd ·.1 (by decide)) | exact (absurd ·.2 (by decide)) | omega))
                      have b651 : h643.2 0 25 = (h5.2 0 25) := (zwr_r e644 (by first | decide | exact (absurd ·.1 (by decide)) | exact (absurd ·.2 (by decide)) | omega))
                      have b652 : h643.2 0 26 = ((h5.2 0 26) + 1) := (zwr_v e644)
                      have b653 : h643.2 0 28 = (h5.2 0 28) := (zwr_r e644 (by first | decide | exact (absurd ·.1 (by decide)) | exact (absurd ·.2 (by decide)) | omega))
                      refine zj_callV (av := [.inl 12]) (st := []) (zdk ttX11_readAny 45 rfl rfl) mb_X11_waits mv_RX11_229 (ci := 11) rfl rfl (k_M s647) rfl rfl (Nat.le_of_ble_eq_true rfl) (s_X11_waits l h643 12 s647 (by omega) (by omega)) (rm_ok (by decide) (by decide)) (zq_v fun h656 q654 => ?_)
                      obtain ⟨s658, f662, u659, u660, u661⟩ := q654
                      refine zj_aload_n (zdk ttX11_readAny 46 rfl rfl) rfl (by decide) ?_
                      refine zj_callV (av := []) (st := []) (zdk ttX11_readAny 47 rfl rfl) mb_X11_reads mv_RX11_204 (ci := 11) rfl rfl (k_M s658) rfl rfl (Nat.le_of_ble_eq_true rfl) (s2_X11_reads l h656 s658) (rm_ok (by decide) (by decide)) (zq_v fun h665 q663 => ?_)
                      obtain ⟨s667, f671, u668, u669, u670⟩ := q663
                      refine zj_goto (t := 9) (zdk ttX11_readAny 48 rfl rfl) (by decide) ?_
                      refine zj_kill (k := 3) (L' := [some (.inr 0), some (.inl (x3 + 1)), some (.inl x4), none]) rfl ?_
                      have b672 : 0 ≤ (h665.2 0 12) ∧ (h665.2 0 12) ≤ 400 := fM_12 s667
                      have b673 : 0 ≤ (h665.2 0 13) ∧ (h665.2 0 13) ≤ 400 := fM_13 s667
                      have b674 : 0 ≤ (h665.2 0 14) ∧ (h665.2 0 14) ≤ 4 := fM_14 s667
                      have b675 : h665.2 0 25 = (h5.2 0 25) := (((zfr_f f671 rfl rfl).trans (zfr_f f662 rfl rfl)).trans (zwr_r e644 (by first | decide | exact (absurd ·.1 (by decide)) | exact (absurd ·.2 (by decide)) | omega)))
                      have b676 : h665.2 0 26 = ((h5.2 0 26) + 1) := (((zfr_f f671 rfl rfl).trans (zfr_f f662 rfl rfl)).trans (zwr_v e644))
                      have b677 : h665.2 0 28 = (h656.2 0 28) := (zfr_f f671 rfl rfl)
                      have b678 : 0 ≤ (h656.2 0 28) ∧ (h656.2 0 28) ≤ 40 := fM_28 s658
                      have f681 : zfr [12, 13, 14, 15, 25, 26, 28, 29, 30] [14, 15, 16] h h643 := zfr_wf f7 e644 rfl
                      have f680 : zfr [12, 13, 14, 15, 25, 26, 28, 29, 30] [14, 15, 16] h h656 := zfr_t f681 f662 rfl rfl
                      have f679 : zfr [12, 13, 14, 15, 25, 26, 28, 29, 30] [14, 15, 16] h h665 := zfr_t f680 f671 rfl rfl
                      have b682 : h656.2 0 12 = (h5.2 0 12) := ((zfr_f f662 rfl rfl).trans (zwr_r e644 (by first | decide | exact (absurd ·.1 (by decide)) | exact (absurd ·.2 (by decide)) | omega)))
                      have b683 : h656.2 0 13 = (h5.2 0 13) := ((zfr_f f662 rfl rfl).trans (zwr_r e644 (by first | decide | exact (absurd ·.1 (by decide)) | exact (absurd ·.2 (by decide)) | omega)))
                      have b684 : h656.2 0 14 = (h5.2 0 14) := ((zfr_f f662 rfl rfl).trans (zwr_r e644 (by first | decide | exact (absurd ·.1 (by decide)) | exact (absurd ·.2 (by decide)) | omega)))
                      have b685 : h656.2 0 25 = (h5.2 0 25) := ((zfr_f f662 rfl rfl).trans (zwr_r e644 (by first | decide | exact (absurd ·.1 (by decide)) | exact (absurd ·.2 (by decide)) | omega)))
                      have b686 : h665.2 0 25 = (h5.2 0 25) := (((zfr_f f671 rfl rfl).trans (zfr_f f662 rfl rfl)).trans (zwr_r e644 (by first | decide | exact (absurd ·.1 (by decide)) | exact (absurd ·.2 (by decide)) | omega)))
                      have t687 : tok h656 := (tok_same (tok_same u290 (zfr_wf (zfr_r [26] [] h5) e644 rfl) rfl rfl rfl rfl) f662 rfl rfl rfl rfl)
                      unfold tok at t687
                      have b688 : 0 ≤ (h.2 0 14) ∧ (h.2 0 14) ≤ 4 := fM_14 s0
                      have b689 : -2147483648 ≤ (h.2 0 15) ∧ (h.2 0 15) ≤ 2147483647 := fM_15 s0
                      have b690 : h643.2 0 14 = (h5.2 0 14) := (zwr_r e644 (by first | decide | exact (absurd ·.1 (by decide)) | exact (absurd ·.2 (by decide)) | omega))
                      have b691 : h643.2 0 15 = (h5.2 0 15) := (zwr_r e644 (by first | decide | exact (absurd ·.1 (by decide)) | exact (absurd ·.2 (by decide)) | omega))
                      have b692 : h656.2 0 14 = (h5.2 0 14) := ((zfr_f f662 rfl rfl).trans (zwr_r e644 (by first | decide | exact (absurd ·.1 (by decide)) | exact (absurd ·.2 (by decide)) | omega)))
                      have b693 : h656.2 0 15 = (h5.2 0 15) := ((zfr_f f662 rfl rfl).trans (zwr_r e644 (by first | decide | exact (absurd ·.1 (by decide)) | exact (absurd ·.2 (by decide)) | omega)))
                      have b694 : -2147483648 ≤ (h665.2 0 15) ∧ (h665.2 0 15) ≤ 2147483647 := fM_15 s667
                      exact ih294  (x3 + 1) x4 h665 (by omega) (by omega) s667 f679 u668 (zAny_d (br := (x3 + 1)) (d := 1) (zAny_push (w := 12) (br := x3) u291 (by decide) (fun _ => by omega) (fun q => absurd q (by decide)) (fun q => absurd q (by decide)) (fun q => absurd q (by decide)) (zfr_wf (zfr_r [26] [] h5) e644 rfl) (fun _ => zwr_v e644) (fun q => absurd q (by decide)) (fun _ => rfl) (fun q => absurd rfl q) u659 u660 u661 f662 f671 (by omega)) rfl (by omega)) (by intro T j t0; obtain ⟨x_1j, x_1a, x_1l, x_1r⟩ := u292 T j t0; have k_2 := tT0 x_1a.2.2.1; have k_2j := x_1a.1.1; have z9 := u291; have a_3 : tPm 0 T x_1j h643 := tPm_f x_1a (fun k => (zwr_r e644 (by first | decide | exact (absurd ·.1 (by decide)) | exact (absurd ·.2 (by decide)) | omega))) (fun k => (zwr_r e644 (by first | decide | exact (absurd ·.1 (by decide)) | exact (absurd ·.2 (by decide)) | omega))) (zwr_r e644 (by first | decide | exact (absurd ·.1 (by decide)) | exact (absurd ·.2 (by decide)) | omega)) (zwr_r e644 (by first | decide | exact (absurd ·.1 (by decide)) | exact (absurd ·.2 (by decide)) | omega)) (zwr_r e644 (by first | decide | exact (absurd ·.1 (by decide)) | exact (absurd ·.2 (by decide)) | omega)) (zwr_r e644 (by first | decide | exact (absurd ·.1 (by decide)) | exact (absurd ·.2 (by decide)) | omega)) (zwr_r e644 (by first | decide | exact (absurd ·.1 (by decide)) | exact (absurd ·.2 (by decide)) | omega)); have a_4 : tPm 0 T x_1j h656 := tPm_f a_3 (fun k => (zfr_a f662 rfl (by decide))) (fun k => (zfr_a f662 rfl (by decide))) (zfr_f f662 rfl rfl) (zfr_f f662 rfl rfl) (zfr_f f662 rfl rfl) (zfr_f f662 rfl rfl) (zfr_f f662 rfl rfl); have k_5 := tT0 a_4.2.2.1; have k_5j := a_4.1.1; have a_6 : tPm 0 T (x_1j + 1) h665 := tPm_r a_4 (by omega) (u670 a_4.2.2.2.2.2.1 (tPm_l a_4 (by omega))) (fun k => (zfr_a f671 rfl (by decide))) (fun k => (zfr_a f671 rfl (by decide))) (zfr_f f671 rfl rfl); exact ⟨(x_1j + 1), a_6, by omega, fun p9 s9 o9 y9 => by rw [if_neg (by omega), (tSk_p (f := h5.2 16) (g := h665.2 16) (n := h5.2 0 28) (n' := h665.2 0 28) (w := 12) z9.2.1 (by rw [show h665.2 0 28 = h656.2 0 28 from (zfr_f f671 rfl rfl), u659, show h643.2 0 28 = h5.2 0 28 from (zwr_r e644 (by first | decide | exact (absurd ·.1 (by decide)) | exact (absurd ·.2 (by decide)) | omega))]) (by rw [show h665.2 16 = h656.2 16 from (funext fun _ => (zfr_a f671 rfl (by decide))), show h5.2 0 28 = h643.2 0 28 from ((zwr_r e644 (by first | decide | exact (absurd ·.1 (by decide)) | exact (absurd ·.2 (by decide)) | omega))).symm]; exact u660) (fun k hk => by rw [show h665.2 16 = h656.2 16 from (funext fun _ => (zfr_a f671 rfl (by decide))), u661 k (by rw [show h643.2 0 28 = h5.2 0 28 from (zwr_r e644 (by first | decide | exact (absurd ·.1 (by decide)) | exact (absurd ·.2 (by decide)) | omega))]; exact hk), show h643.2 16 = h5.2 16 from (funext fun _ => (zwr_r e644 (by first | decide | exact (absurd ·.1 (by decide)) | exact (absurd ·.2 (by decide)) | omega)))]))]; exact tRe_s (by have q9 := x_1r p9 s9 o9 y9; rw [if_neg (by omega)] at q9; exact q9) (tM8_b (by omega) (by show tOpn (tSk (h5.2 16) (h5.2 0 28).toNat ++ s9) < 8; rw [tSk_n _ _ z9.2.1, o9]; have a9 := z9.2.2.1; omega))⟩) (by omega)
                    · exact absurd c646 (by omega)
                · refine zj_aload_n (zdk ttX11_readAny 23 rfl rfl) rfl (by decide) ?_
                  refine zj_iconst (zdk ttX11_readAny 24 rfl rfl) ?_
                  refine zj_callV (av := [.inl 3]) (st := []) (zdk ttX11_readAny 25 rfl rfl) mb_X11_errs mv_RX11_197 (ci := 11) rfl rfl (k_M s6) rfl rfl (Nat.le_of_ble_eq_true rfl) (s2_X11_errs l h5 3 s6 (by omega)) (rm_ok (by decide) (by decide)) (zq_i fun v696 h697 q695 => ?_)
                  obtain ⟨b698, s699, f701, u700⟩ := q695
                  have f702 : zfr [12, 13, 14, 15, 25, 26, 28, 29, 30] [14, 15, 16] h h697 := zfr_t f7 f701 rfl rfl
                  have b703 : 0 ≤ (h.2 0 14) ∧ (h.2 0 14) ≤ 4 := fM_14 s0
                  have b704 : -2147483648 ≤ (h.2 0 15) ∧ (h.2 0 15) ≤ 2147483647 := fM_15 s0
                  have b705 : h697.2 0 14 = (h5.2 0 14) := (zfr_f f701 rfl rfl)
                  have b706 : h697.2 0 15 = (h5.2 0 15) := (zfr_f f701 rfl rfl)
                  exact zj_iret rfl (zdk ttX11_readAny 26 rfl rfl) (Nat.le_refl _) (Nat.le_refl _) ⟨v696, rfl, by omega, s699, f702, (fun q => absurd q (by omega)), (fun z => absurd z (by omega)), (by intro T j t0; obtain ⟨x_1j, x_1a, x_1l, x_1r⟩ := u292 T j t0; have k_2 := tT0 x_1a.2.2.1; have k_2j := x_1a.1.1; have z9 := u291; have e_3 : tEp h h697 x_1j 3 := ⟨u700.1, x_1a.1.1, by have q9 := x_1a.2.1; rw [show h5.2 7 = h.2 7 from funext fun i9 => (zfr_a f7 rfl (by decide)), show h5.2 0 11 = h.2 0 11 from (zfr_f f7 rfl rfl)] at q9; rw [u700.2]; exact q9⟩; exact ⟨fun z => absurd z (by omega), fun _ => ⟨x_1j, _, e_3, fun p9 s9 o9 y9 => tRe_s (by have q9 := x_1r p9 s9 o9 y9; rw [if_neg (by omega)] at q9; exact q9) (tM8_3 (by omega) (by rw [tSk_n _ _ z9.2.1, o9]; have a9 := z9.2.2.1; omega))⟩⟩)⟩
        · refine zj_istore_n (L' := [some (.inr 0), some (.inl x3), some (.inl x4), some (.inl 1)]) (zdk ttX11_readAny 12 rfl rfl) (by decide) rfl ?_
          refine zj_iload_n (zdk ttX11_readAny 13 rfl rfl) rfl ?_
          refine zj_if_ne (t := 33) (zdk ttX11_readAny 14 rfl rfl) (by decide) (by decide) (fun c707 => ?_) (fun c707 => ?_)
          · refine zj_aload_n (zdk ttX11_readAny 19 rfl rfl) rfl (by decide) ?_
            refine zj_geti (v := (h5.2 0 26)) (zdk ttX11_readAny 20 rfl rfl) zf_RX11_223 rfl (k_M s6) rfl ?_
            refine zj_bipush (zdk ttX11_readAny 21 rfl rfl) (by decide) ?_
            refine zj_icmp_ne (t := 48) (zdk ttX11_readAny 22 rfl rfl) (by decide) (by omega) (by decide) (fun c708 => ?_) (fun c708 => ?_)
            · refine zj_aload_n (zdk ttX11_readAny 27 rfl rfl) rfl (by decide) ?_
              refine zj_aload_n (zdk ttX11_readAny 28 rfl rfl) rfl (by decide) ?_
              refine zj_geti (v := (h5.2 0 26)) (zdk ttX11_readAny 29 rfl rfl) zf_RX11_223 rfl (k_M s6) rfl ?_
              refine zj_iconst (zdk ttX11_readAny 30 rfl rfl) ?_
              refine zj_iadd (zdk ttX11_readAny 31 rfl rfl) ?_
              refine zj_puti (zdk ttX11_readAny 32 rfl rfl) zf_RX11_223 rfl (k_M s6) (Or.inl zw_RX11_223) (k2 := 26) rfl (fun h709 e710 => ?_)
              refine zj_iload_n (zdk ttX11_readAny 33 rfl rfl) rfl ?_
              refine zj_if_ne (t := 66) (zdk ttX11_readAny 34 rfl rfl) (by decide) (by decide) (fun c711 => ?_) (fun c711 => ?_)
              · refine zj_aload_n (zdk ttX11_readAny 39 rfl rfl) rfl (by decide) ?_
                refine zj_iload_n (zdk ttX11_readAny 40 rfl rfl) rfl ?_
                refine zj_if_eq (t := 76) (zdk ttX11_readAny 41 rfl rfl) (by decide) (by decide) (fun c712 => ?_) (fun c712 => ?_)
                · exact absurd c712 (by omega)
                · refine zj_bipush (zdk ttX11_readAny 42 rfl rfl) (by decide) ?_
                  refine zj_goto (t := 78) (zdk ttX11_readAny 43 rfl rfl) (by decide) ?_
                  have s713 : okM h709 := fwM_26 s6 e710 (by omega)
                  have b714 : h709.2 0 12 = (h5.2 0 12) := (zwr_r e710 (by first | decide | exact (absurd ·.1 (by decide)) | exact (absurd ·.2 (by decide)) | omega))
                  have b715 : h709.2 0 13 = (h5.2 0 13) := (zwr_r e710 (by first | decide | exact (absurd ·.1 (by decide)) | exact (absurd ·.2 (by decide)) | omega))
                  have b716 : h709.2 0 14 = (h5.2 0 14) := (zwr_r e710 (by first | decide | exact (absurd ·.1 (by decide)) | exact (absurd ·.2 (by decide)) | omega))
                  have b717 : h709.2 0 25 = (h5.2 0 25) := (zwr_r e710 (by first | decide | exact (absurd ·.1 (by decide)) | exact (absurd ·.2 (by decide)) | omega))
                  have b718 : h709.2 0 26 = ((h5.2 0 26) + 1) := (zwr_v e710)
                  have b719 : h709.2 0 28 = (h5.2 0 28) := (zwr_r e710 (by first | decide | exact (absurd ·.1 (by decide)) | exact (absurd ·.2 (by decide)) | omega))
                  refine zj_callV (av := [.inl 9]) (st := []) (zdk ttX11_readAny 45 rfl rfl) mb_X11_waits mv_RX11_229 (ci := 11) rfl rfl (k_M s713) rfl rfl (Nat.le_of_ble_eq_true rfl) (s_X11_waits l h709 9 s713 (by omega) (by omega)) (rm_ok (by decide) (by decide)) (zq_v fun h722 q720 => ?_)
                  obtain ⟨s724, f728, u725, u726, u727⟩ := q720
                  refine zj_aload_n (zdk ttX11_readAny 46 rfl rfl) rfl (by decide) ?_
                  refine zj_callV (av := []) (st := []) (zdk ttX11_readAny 47 rfl rfl) mb_X11_reads mv_RX11_204 (ci := 11) rfl rfl (k_M s724) rfl rfl (Nat.le_of_ble_eq_true rfl) (s2_X11_reads l h722 s724) (rm_ok (by decide) (by decide)) (zq_v fun h731 q729 => ?_)
                  obtain ⟨s733, f737, u734, u735, u736⟩ := q729
                  refine zj_goto (t := 9) (zdk ttX11_readAny 48 rfl rfl) (by decide) ?_
                  refine zj_kill (k := 3) (L' := [some (.inr 0), some (.inl x3), some (.inl x4), none]) rfl ?_
                  have b738 : 0 ≤ (h731.2 0 12) ∧ (h731.2 0 12) ≤ 400 := fM_12 s733
                  have b739 : 0 ≤ (h731.2 0 13) ∧ (h731.2 0 13) ≤ 400 := fM_13 s733
                  have b740 : 0 ≤ (h731.2 0 14) ∧ (h731.2 0 14) ≤ 4 := fM_14 s733
                  have b741 : h731.2 0 25 = (h5.2 0 25) := (((zfr_f f737 rfl rfl).trans (zfr_f f728 rfl rfl)).trans (zwr_r e710 (by first | decide | exact (absurd ·.1 (by decide)) | exact (absurd ·.2 (by decide)) | omega)))
                  have b742 : h731.2 0 26 = ((h5.2 0 26) + 1) := (((zfr_f f737 rfl rfl).trans (zfr_f f728 rfl rfl)).trans (zwr_v e710))
                  have b743 : h731.2 0 28 = (h722.2 0 28) := (zfr_f f737 rfl rfl)
                  have b744 : 0 ≤ (h722.2 0 28) ∧ (h722.2 0 28) ≤ 40 := fM_28 s724
                  have f747 : zfr [12, 13, 14, 15, 25, 26, 28, 29, 30] [14, 15, 16] h h709 := zfr_wf f7 e710 rfl
                  have f746 : zfr [12, 13, 14, 15, 25, 26, 28, 29, 30] [14, 15, 16] h h722 := zfr_t f747 f728 rfl rfl
                  have f745 : zfr [12, 13, 14, 15, 25, 26, 28, 29, 30] [14, 15, 16] h h731 := zfr_t f746 f737 rfl rfl
                  have b748 : h722.2 0 12 = (h5.2 0 12) := ((zfr_f f728 rfl rfl).trans (zwr_r e710 (by first | decide | exact (absurd ·.1 (by decide)) | exact (absurd ·.2 (by decide)) | omega)))
                  have b749 : h722.2 0 13 = (h5.2 0 13) := ((zfr_f f728 rfl rfl).trans (zwr_r e710 (by first | decide | exact (absurd ·.1 (by decide)) | exact (absurd ·.2 (by decide)) | omega)))
                  have b750 : h722.2 0 14 = (h5.2 0 14) := ((zfr_f f728 rfl rfl).trans (zwr_r e710 (by first | decide | exact (absurd ·.1 (by decide)) | exact (absurd ·.2 (by decide)) | omega)))
                  have b751 : h722.2 0 25 = (h5.2 0 25) := ((zfr_f f728 rfl rfl).trans (zwr_r e710 (by first | decide | exact (absurd ·.1 (by decide)) | exact (absurd ·.2 (by decide)) | omega)))
                  have b752 : h731.2 0 25 = (h5.2 0 25) := (((zfr_f f737 rfl rfl).trans (zfr_f f728 rfl rfl)).trans (zwr_r e710 (by first | decide | exact (absurd ·.1 (by decide)) | exact (absurd ·.2 (by decide)) | omega)))
                  have t753 : tok h722 := (tok_same (tok_same u290 (zfr_wf (zfr_r [26] [] h5) e710 rfl) rfl rfl rfl rfl) f728 rfl rfl rfl rfl)
                  unfold tok at t753
                  have b754 : 0 ≤ (h.2 0 14) ∧ (h.2 0 14) ≤ 4 := fM_14 s0
                  have b755 : -2147483648 ≤ (h.2 0 15) ∧ (h.2 0 15) ≤ 2147483647 := fM_15 s0
                  have b756 : h709.2 0 14 = (h5.2 0 14) := (zwr_r e710 (by first | decide | exact (absurd ·.1 (by decide)) | exact (absurd ·.2 (by decide)) | omega))
                  have b757 : h709.2 0 15 = (h5.2 0 15) := (zwr_r e710 (by first | decide | exact (absurd ·.1 (by decide)) | exact (absurd ·.2 (by decide)) | omega))
                  have b758 : h722.2 0 14 = (h5.2 0 14) := ((zfr_f f728 rfl rfl).trans (zwr_r e710 (by first | decide | exact (absurd ·.1 (by decide)) | exact (absurd ·.2 (by decide)) | omega)))
                  have b759 : h722.2 0 15 = (h5.2 0 15) := ((zfr_f f728 rfl rfl).trans (zwr_r e710 (by first | decide | exact (absurd ·.1 (by decide)) | exact (absurd ·.2 (by decide)) | omega)))
                  have b760 : -2147483648 ≤ (h731.2 0 15) ∧ (h731.2 0 15) ≤ 2147483647 := fM_15 s733
                  exact ih294  x3 x4 h731 (by omega) (by omega) s733 f745 u734 (zAny_d (br := x3) (d := 1) (zAny_push (w := 9) (br := x3) u291 (by decide) (fun _ => by omega) (fun q => absurd q (by decide)) (fun q => absurd q (by decide)) (fun q => absurd q (by decide)) (zfr_wf (zfr_r [26] [] h5) e710 rfl) (fun _ => zwr_v e710) (fun q => absurd q (by decide)) (fun q => absurd q (by decide)) (fun _ => rfl) u725 u726 u727 f728 f737 (by omega)) rfl (by omega)) (by intro T j t0; obtain ⟨x_1j, x_1a, x_1l, x_1r⟩ := u292 T j t0; have k_2 := tT0 x_1a.2.2.1; have k_2j := x_1a.1.1; have z9 := u291; have a_3 : tPm 0 T x_1j h709 := tPm_f x_1a (fun k => (zwr_r e710 (by first | decide | exact (absurd ·.1 (by decide)) | exact (absurd ·.2 (by decide)) | omega))) (fun k => (zwr_r e710 (by first | decide | exact (absurd ·.1 (by decide)) | exact (absurd ·.2 (by decide)) | omega))) (zwr_r e710 (by first | decide | exact (absurd ·.1 (by decide)) | exact (absurd ·.2 (by decide)) | omega)) (zwr_r e710 (by first | decide | exact (absurd ·.1 (by decide)) | exact (absurd ·.2 (by decide)) | omega)) (zwr_r e710 (by first | decide | exact (absurd ·.1 (by decide)) | exact (absurd ·.2 (by decide)) | omega)) (zwr_r e710 (by first | decide | exact (absurd ·.1 (by decide)) | exact (absurd ·.2 (by decide)) | omega)) (zwr_r e710 (by first | decide | exact (absurd ·.1 (by decide)) | exact (absurd ·.2 (by decide)) | omega)); have a_4 : tPm 0 T x_1j h722 := tPm_f a_3 (fun k => (zfr_a f728 rfl (by decide))) (fun k => (zfr_a f728 rfl (by decide))) (zfr_f f728 rfl rfl) (zfr_f f728 rfl rfl) (zfr_f f728 rfl rfl) (zfr_f f728 rfl rfl) (zfr_f f728 rfl rfl); have k_5 := tT0 a_4.2.2.1; have k_5j := a_4.1.1; have a_6 : tPm 0 T (x_1j + 1) h731 := tPm_r a_4 (by omega) (u736 a_4.2.2.2.2.2.1 (tPm_l a_4 (by omega))) (fun k => (zfr_a f737 rfl (by decide))) (fun k => (zfr_a f737 rfl (by decide))) (zfr_f f737 rfl rfl); exact ⟨(x_1j + 1), a_6, by omega, fun p9 s9 o9 y9 => by rw [if_neg (by omega), (tSk_p (f := h5.2 16) (g := h731.2 16) (n := h5.2 0 28) (n' := h731.2 0 28) (w := 9) z9.2.1 (by rw [show h731.2 0 28 = h722.2 0 28 from (zfr_f f737 rfl rfl), u725, show h709.2 0 28 = h5.2 0 28 from (zwr_r e710 (by first | decide | exact (absurd ·.1 (by decide)) | exact (absurd ·.2 (by decide)) | omega))]) (by rw [show h731.2 16 = h722.2 16 from (funext fun _ => (zfr_a f737 rfl (by decide))), show h5.2 0 28 = h709.2 0 28 from ((zwr_r e710 (by first | decide | exact (absurd ·.1 (by decide)) | exact (absurd ·.2 (by decide)) | omega))).symm]; exact u726) (fun k hk => by rw [show h731.2 16 = h722.2 16 from (funext fun _ => (zfr_a f737 rfl (by decide))), u727 k (by rw [show h709.2 0 28 = h5.2 0 28 from (zwr_r e710 (by first | decide | exact (absurd ·.1 (by decide)) | exact (absurd ·.2 (by decide)) | omega))]; exact hk), show h709.2 16 = h5.2 16 from (funext fun _ => (zwr_r e710 (by first | decide | exact (absurd ·.1 (by decide)) | exact (absurd ·.2 (by decide)) | omega)))]))]; exact tRe_s (by have q9 := x_1r p9 s9 o9 y9; rw [if_neg (by omega)] at q9; exact q9) (tM8_n (by omega) (by show tOpn (tSk (h5.2 16) (h5.2 0 28).toNat ++ s9) < 8; rw [tSk_n _ _ z9.2.1, o9]; have a9 := z9.2.2.1; omega))⟩) (by omega)
              · exact absurd c711 (by omega)
            · refine zj_aload_n (zdk ttX11_readAny 23 rfl rfl) rfl (by decide) ?_
              refine zj_iconst (zdk ttX11_readAny 24 rfl rfl) ?_
              refine zj_callV (av := [.inl 3]) (st := []) (zdk ttX11_readAny 25 rfl rfl) mb_X11_errs mv_RX11_197 (ci := 11) rfl rfl (k_M s6) rfl rfl (Nat.le_of_ble_eq_true rfl) (s2_X11_errs l h5 3 s6 (by omega)) (rm_ok (by decide) (by decide)) (zq_i fun v762 h763 q761 => ?_)
              obtain ⟨b764, s765, f767, u766⟩ := q761
              have f768 : zfr [12, 13, 14, 15, 25, 26, 28, 29, 30] [14, 15, 16] h h763 := zfr_t f7 f767 rfl rfl
              have b769 : 0 ≤ (h.2 0 14) ∧ (h.2 0 14) ≤ 4 := fM_14 s0
              have b770 : -2147483648 ≤ (h.2 0 15) ∧ (h.2 0 15) ≤ 2147483647 := fM_15 s0
              have b771 : h763.2 0 14 = (h5.2 0 14) := (zfr_f f767 rfl rfl)
              have b772 : h763.2 0 15 = (h5.2 0 15) := (zfr_f f767 rfl rfl)
              exact zj_iret rfl (zdk ttX11_readAny 26 rfl rfl) (Nat.le_refl _) (Nat.le_refl _) ⟨v762, rfl, by omega, s765, f768, (fun q => absurd q (by omega)), (fun z => absurd z (by omega)), (by intro T j t0; obtain ⟨x_1j, x_1a, x_1l, x_1r⟩ := u292 T j t0; have k_2 := tT0 x_1a.2.2.1; have k_2j := x_1a.1.1; have z9 := u291; have e_3 : tEp h h763 x_1j 3 := ⟨u766.1, x_1a.1.1, by have q9 := x_1a.2.1; rw [show h5.2 7 = h.2 7 from funext fun i9 => (zfr_a f7 rfl (by decide)), show h5.2 0 11 = h.2 0 11 from (zfr_f f7 rfl rfl)] at q9; rw [u766.2]; exact q9⟩; exact ⟨fun z => absurd z (by omega), fun _ => ⟨x_1j, _, e_3, fun p9 s9 o9 y9 => tRe_s (by have q9 := x_1r p9 s9 o9 y9; rw [if_neg (by omega)] at q9; exact q9) (tM8_3 (by omega) (by rw [tSk_n _ _ z9.2.1, o9]; have a9 := z9.2.2.1; omega))⟩⟩)⟩
          · exact absurd c707 (by omega)
  have b773 : h1.2 0 12 = (h.2 0 12) := (zwr_r e2 (by first | decide | exact (absurd ·.1 (by decide)) | exact (absurd ·.2 (by decide)) | omega))
  have b774 : 0 ≤ (h.2 0 12) ∧ (h.2 0 12) ≤ 400 := fM_12 s0
  have b775 : h1.2 0 13 = (h.2 0 13) := (zwr_r e2 (by first | decide | exact (absurd ·.1 (by decide)) | exact (absurd ·.2 (by decide)) | omega))
  have b776 : 0 ≤ (h.2 0 13) ∧ (h.2 0 13) ≤ 400 := fM_13 s0
  have b777 : h1.2 0 14 = (h.2 0 14) := (zwr_r e2 (by first | decide | exact (absurd ·.1 (by decide)) | exact (absurd ·.2 (by decide)) | omega))
  have b778 : 0 ≤ (h.2 0 14) ∧ (h.2 0 14) ≤ 4 := fM_14 s0
  have b779 : h1.2 0 25 = (h.2 0 25) := (zwr_r e2 (by first | decide | exact (absurd ·.1 (by decide)) | exact (absurd ·.2 (by decide)) | omega))
  have b780 : 0 ≤ (h.2 0 25) ∧ (h.2 0 25) ≤ 400 := fM_25 s0
  have b781 : h1.2 0 26 = (h.2 0 26) := (zwr_r e2 (by first | decide | exact (absurd ·.1 (by decide)) | exact (absurd ·.2 (by decide)) | omega))
  have b782 : 0 ≤ (h.2 0 26) ∧ (h.2 0 26) ≤ 8 := fM_26 s0
  have b783 : h1.2 0 28 = 0 := (zwr_v e2)
  have s784 : okM h1 := fwM_28 s0 e2 (by omega)
  have f785 : zfr [12, 13, 14, 15, 25, 26, 28, 29, 30] [14, 15, 16] h h1 := zfr_wf (zfr_r _ _ _) e2 rfl
  have b786 : -2147483648 ≤ (h.2 0 15) ∧ (h.2 0 15) ≤ 2147483647 := fM_15 s0
  have b787 : h1.2 0 14 = (h.2 0 14) := (zwr_r e2 (by first | decide | exact (absurd ·.1 (by decide)) | exact (absurd ·.2 (by decide)) | omega))
  have b788 : h1.2 0 15 = (h.2 0 15) := (zwr_r e2 (by first | decide | exact (absurd ·.1 (by decide)) | exact (absurd ·.2 (by decide)) | omega))
  exact lp287 _ 0 1 h1 (by omega) (by omega) s784 f785 (tok_same u_0 (zfr_wf (zfr_r [28] [] h) e2 rfl) rfl rfl rfl rfl) (zAny_0 e2) (by intro T j t0; have a_1 : tPm 0 T j h1 := tPm_f t0 (fun k => (zwr_r e2 (by first | decide | exact (absurd ·.1 (by decide)) | exact (absurd ·.2 (by decide)) | omega))) (fun k => (zwr_r e2 (by first | decide | exact (absurd ·.1 (by decide)) | exact (absurd ·.2 (by decide)) | omega))) (zwr_r e2 (by first | decide | exact (absurd ·.1 (by decide)) | exact (absurd ·.2 (by decide)) | omega)) (zwr_r e2 (by first | decide | exact (absurd ·.1 (by decide)) | exact (absurd ·.2 (by decide)) | omega)) (zwr_r e2 (by first | decide | exact (absurd ·.1 (by decide)) | exact (absurd ·.2 (by decide)) | omega)) (zwr_r e2 (by first | decide | exact (absurd ·.1 (by decide)) | exact (absurd ·.2 (by decide)) | omega)) (zwr_r e2 (by first | decide | exact (absurd ·.1 (by decide)) | exact (absurd ·.2 (by decide)) | omega)); exact ⟨j, a_1, by omega, fun p9 s9 o9 y9 => by rw [if_neg (by decide), show h1.2 0 28 = 0 from zwr_v e2]; exact tRe_r⟩) (Nat.lt_succ_self _)

