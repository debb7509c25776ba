theorem zAny_d {h H : zM} {br d br' d' : Int} (q : zAny h H br d) (eb : br = br') (e : d = d') : zAny h H br' d' := by subst e; subst eb; exact q
theorem zAny_top {h H : zM} {br : Int} (q : zAny h H br 0) (ht : H.2 0 28 = 0 ∨ H.2 16 (H.2 0 28 - 1) = 12) (hb : ¬ br = 0) : 0 < H.2 0 28 ∧ H.2 16 (H.2 0 28 - 1) = 12 := by
  obtain ⟨q1, q2, q3, q4, -⟩ := q
  have hp : ¬ H.2 0 28 = 0 := fun z => by
    rw [z, zck_0] at q4; exact hb q4
  exact ⟨by omega, ht.resolve_left hp⟩
theorem zAny_cl {h H : zM} {br : Int} (q : zAny h H br 0) (hp : 0 < H.2 0 28 ∧ H.2 16 (H.2 0 28 - 1) = 12) : zck (H.2 16) 9 (H.2 0 28 - 1) ≤ H.2 0 26 - 1 - h.2 0 26 ∧ 1 ≤ H.2 0 26 - h.2 0 26 := by
  obtain ⟨q1, q2, q3, q4, -⟩ := q
  have t9 := zck_s (H.2 16) 9 (n := H.2 0 28 - 1) (by omega)
  have t12 := zck_s (H.2 16) 12 (n := H.2 0 28 - 1) (by omega)
  rw [hp.2, show H.2 0 28 - 1 + 1 = H.2 0 28 by omega] at t9 t12
  rw [if_neg (by decide)] at t9
  rw [if_pos rfl] at t12
  have a := zck_nn (H.2 16) 9 (H.2 0 28 - 1)
  have b := zck_nn (H.2 16) 12 (H.2 0 28 - 1)
  omega
theorem zck_c {p p' : Int → Int} {n n' x x' : Int} (h : zck p 9 n ≤ x) (ep : p' = p) (en : n' = n) (hx : x ≤ x') : zck p' 9 n' ≤ x' := by subst ep; subst en; omega
abbrev tX11_readAny : List (Nat × Instr × Nat) := [(0, .iconst 0, 1), (1, .istore_n 1, 1), (2, .aload_n 0, 1), (3, .iconst 0, 1), (4, .putfield 220, 3), (7, .iconst 1, 1), (8, .istore_n 2, 1), (9, .iload_n 2, 1), (10, .ifCond .eq 99, 3), (13, .aload_n 0, 1), (14, .bipush 6, 2), (16, .invokevirtual 226, 3), (19, .istore_n 3, 1), (20, .iload_n 3, 1), (21, .ifCond .ne 12, 3), (24, .aload_n 0, 1), (25, .bipush 40, 2), (27, .invokevirtual 211, 3), (30, .ifCond .eq 58, 3), (33, .aload_n 0, 1), (34, .getfield 223, 3), (37, .bipush 8, 2), (39, .if_icmp .ne 9, 3), (42, .aload_n 0, 1), (43, .iconst 3, 1), (44, .invokevirtual 197, 3), (47, .ireturn, 1), (48, .aload_n 0, 1), (49, .aload_n 0, 1), (50, .getfield 223, 3), (53, .iconst 1, 1), (54, .iadd, 1), (55, .putfield 223, 3), (58, .iload_n 3, 1), (59, .ifCond .ne 7, 3), (62, .iload_n 1, 1), (63, .iconst 1, 1), (64, .iadd, 1), (65, .istore_n 1, 1), (66, .aload_n 0, 1), (67, .iload_n 3, 1), (68, .ifCond .eq 8, 3), (71, .bipush 9, 2), (73, .goto 5, 3), (76, .bipush 12, 2), (78, .invokevirtual 229, 3), (81, .aload_n 0, 1), (82, .invokevirtual 204, 3), (85, .goto (-76), 3), (88, .aload_n 0, 1), (89, .invokevirtual 232, 3), (92, .iconst (-1), 1), (93, .if_icmp .ne 5, 3), (96, .iconst (-1), 1), (97, .ireturn, 1), (98, .aload_n 0, 1), (99, .bipush 9, 2), (101, .invokevirtual 235, 3), (104, .iconst 0, 1), (105, .istore_n 2, 1), (106, .goto (-97), 3), (109, .aload_n 0, 1), (110, .iconst 5, 1), (111, .invokevirtual 226, 3), (114, .ifCond .eq 24, 3), (117, .aload_n 0, 1), (118, .bipush 10, 2), (120, .invokevirtual 235, 3), (123, .aload_n 0, 1), (124, .bipush 10, 2), (126, .invokevirtual 229, 3), (129, .aload_n 0, 1), (130, .invokevirtual 204, 3), (133, .iconst 1, 1), (134, .istore_n 2, 1), (135, .goto (-126), 3), (138, .aload_n 0, 1), (139, .iconst 4, 1), (140, .invokevirtual 226, 3), (143, .ifCond .eq 30, 3), (146, .aload_n 0, 1), (147, .bipush 10, 2), (149, .invokevirtual 235, 3), (152, .aload_n 0, 1), (153, .bipush 11, 2), (155, .invokevirtual 235, 3), (158, .aload_n 0, 1), (159, .bipush 11, 2), (161, .invokevirtual 229, 3), (164, .aload_n 0, 1), (165, .invokevirtual 204, 3), (168, .iconst 1, 1), (169, .istore_n 2, 1), (170, .goto (-161), 3), (173, .aload_n 0, 1), (174, .bipush 10, 2), (176, .invokevirtual 235, 3), (179, .aload_n 0, 1), (180, .bipush 11, 2), (182, .invokevirtual 235, 3), (185, .iload_n 1, 1), (186, .ifCond .ne 5, 3), (189, .iconst 0, 1), (190, .ireturn, 1), (191, .aload_n 0, 1), (192, .bipush 41, 2), (194, .invokevirtual 211, 3), (197, .ifCond .ne 9, 3), (200, .aload_n 0, 1), (201, .iconst 1, 1), (202, .invokevirtual 197, 3), (205, .ireturn, 1), (206, .aload_n 0, 1), (207, .aload_n 0, 1), (208, .getfield 220, 3), (211, .iconst 1, 1), (212, .isub, 1), (213, .putfield 220, 3), (216, .iload_n 1, 1), (217, .iconst 1, 1), (218, .isub, 1), (219, .istore_n 1, 1), (220, .aload_n 0, 1), (221, .aload_n 0, 1), (222, .getfield 223, 3), (225, .iconst 1, 1), (226, .isub, 1), (227, .putfield 223, 3), (230, .aload_n 0, 1), (231, .bipush 9, 2), (233, .invokevirtual 235, 3), (236, .aload_n 0, 1), (237, .invokevirtual 204, 3), (240, .goto (-231), 3)]
theorem ttX11_readAny : zdt cX11_readAny tX11_readAny = true := by decide +kernel
abbrev q_X11_readAny (h : zM) : Option zV → zM → Prop := zqi fun v h' => ((-1) ≤ v ∧ v ≤ 0) ∧ okM h' ∧ zfr [12, 13, 14, 15, 25, 26, 28, 29, 30] [14, 15, 16] h h' ∧ (v = 0 → RD h h')
set_option maxRecDepth 100000 in
set_option maxHeartbeats 4000000 in
theorem s_X11_readAny (l : Launch) (h : zM) (s0 : okM h) (u_0 : tok h) (u_1 : h.2 0 25 ≤ h.2 0 13) : zT shM l yX11_readAny cX11_readAny 4 (some .int) (rmL 8) 0 0 [.inr 0] h (q_X11_readAny h) := by
  refine zT_of (by decide +kernel) (L0 := [some (.inr 0), none, none, none]) rfl (Nat.le_of_ble_eq_true rfl) ?_
  have b26 := fM_26 s0
  have b13 := fM_13 s0
  refine zj_iconst (zdk ttX11_readAny 0 rfl rfl) ?_
  refine zj_istore_n (L' := [some (.inr 0), some (.inl 0), none, none]) (zdk ttX11_readAny 1 rfl rfl) (by decide) rfl ?_
  refine zj_aload_n (zdk ttX11_readAny 2 rfl rfl) rfl (by decide) ?_
  refine zj_iconst (zdk ttX11_readAny 3 rfl rfl) ?_
  refine zj_puti (zdk ttX11_readAny 4 rfl rfl) zf_RX11_220 rfl (k_M s0) (Or.inl zw_RX11_220) (k2 := 28) rfl (fun h1 e2 => ?_)
  refine zj_iconst (zdk ttX11_readAny 5 rfl rfl) ?_
  refine zj_istore_n (L' := [some (.inr 0), some (.inl 0), some (.inl 1), none]) (zdk ttX11_readAny 6 rfl rfl) (by decide) rfl ?_
  have lp281 : ∀ (n9 : Nat) (x3 x4 : Int) (h5 : zM), (0 ≤ x3 ∧ x3 ≤ 8) → (0 ≤ x4 ∧ x4 ≤ 1) → okM h5 → zfr [12, 13, 14, 15, 25, 26, 28, 29, 30] [14, 15, 16] h h5 → (tok h5) → (zAny h h5 x3 x4) → (2 * (401 - (h5.2 0 13)) + x4).toNat < n9 → zJ shM l yX11_readAny cX11_readAny 4 (some .int) (rmL 8) 0 0 (q_X11_readAny h) 0 0 9 [some (.inr 0), some (.inl x3), some (.inl x4), none] [] h5 := by
    intro n9
    induction n9 with
    | zero => intro x3 x4 h5 b282 b283 s6 f7 u284 u285 m286; exact absurd m286 (Nat.not_lt_zero _)
    | succ n9 ih287 =>
      intro x3 x4 h5 b282 b283 s6 f7 u284 u285 m286
      have b288 := zAny_f u285
      have b288r := zAny_br u285
      have b289 : 0 ≤ (h5.2 0 12) ∧ (h5.2 0 12) ≤ 400 := fM_12 s6
      have b290 : 0 ≤ (h5.2 0 13) ∧ (h5.2 0 13) ≤ 400 := fM_13 s6
      have b291 : 0 ≤ (h5.2 0 14) ∧ (h5.2 0 14) ≤ 4 := fM_14 s6
      have b292 : 0 ≤ (h5.2 0 25) ∧ (h5.2 0 25) ≤ 400 := fM_25 s6
      have b293 : 0 ≤ (h5.2 0 26) ∧ (h5.2 0 26) ≤ 8 := fM_26 s6
      have b294 : 0 ≤ (h5.2 0 28) ∧ (h5.2 0 28) ≤ 40 := fM_28 s6
      refine zj_iload_n (zdk ttX11_readAny 7 rfl rfl) rfl ?_
      refine zj_if_eq (t := 109) (zdk ttX11_readAny 8 rfl rfl) (by decide) (by omega) (fun c295 => ?_) (fun c295 => ?_)
      · refine zj_aload_n (zdk ttX11_readAny 61 rfl rfl) rfl (by decide) ?_
        refine zj_iconst (zdk ttX11_readAny 62 rfl rfl) ?_
        refine zj_callV (av := [.inl 5]) (st := []) (zdk ttX11_readAny 63 rfl rfl) mb_X11_isWord mv_RX11_226 (ci := 11) rfl rfl (k_M s6) rfl rfl (Nat.le_of_ble_eq_true rfl) (s_X11_isWord l h5 5 s6 (by omega)) (rm_ok (by decide) (by decide)) (zq_i fun v297 h298 q296 => ?_)
        obtain ⟨rfl, b300, b301, ⟨rfl, b299⟩ | ⟨rfl, b299⟩⟩ := q296
        · refine zj_if_eq (t := 138) (zdk ttX11_readAny 64 rfl rfl) (by decide) (by decide) (fun c302 => ?_) (fun c302 => ?_)
          · refine zj_aload_n (zdk ttX11_readAny 76 rfl rfl) rfl (by decide) ?_
            refine zj_iconst (zdk ttX11_readAny 77 rfl rfl) ?_
            refine zj_callV (av := [.inl 4]) (st := []) (zdk ttX11_readAny 78 rfl rfl) mb_X11_isWord mv_RX11_226 (ci := 11) rfl rfl (k_M s6) rfl rfl (Nat.le_of_ble_eq_true rfl) (s_X11_isWord l h5 4 s6 (by omega)) (rm_ok (by decide) (by decide)) (zq_i fun v304 h305 q303 => ?_)
            obtain ⟨rfl, b307, b308, ⟨rfl, b306⟩ | ⟨rfl, b306⟩⟩ := q303
            · refine zj_if_eq (t := 173) (zdk ttX11_readAny 79 rfl rfl) (by decide) (by decide) (fun c309 => ?_) (fun c309 => ?_)
              · refine zj_aload_n (zdk ttX11_readAny 94 rfl rfl) rfl (by decide) ?_
                refine zj_bipush (zdk ttX11_readAny 95 rfl rfl) (by decide) ?_
                refine zj_callV (av := [.inl 10]) (st := []) (zdk ttX11_readAny 96 rfl rfl) mb_X11_settles mv_RX11_235 (ci := 11) rfl rfl (k_M s6) rfl rfl (Nat.le_of_ble_eq_true rfl) (s_X11_settles l h5 10 s6 (by omega) (by omega) (fun q => absurd q (by decide)) (by decide)) (rm_ok (by decide) (by decide)) (zq_v fun h312 q310 => ?_)
                obtain ⟨s314, f317, u315, u316⟩ := q310
                have a318 := zAny_set (zAny_d u285 rfl (show x4 = 0 by omega)) (Or.inl rfl) u315 u316 f317 (fun q => absurd q (by decide))
                have b319 := zAny_f a318.1
                have b319r := zAny_br a318.1
                have b320 : h312.2 0 12 = (h5.2 0 12) := (zfr_f f317 rfl rfl)
                have b321 : h312.2 0 13 = (h5.2 0 13) := (zfr_f f317 rfl rfl)
                have b322 : h312.2 0 14 = (h5.2 0 14) := (zfr_f f317 rfl rfl)
                have b323 : 0 ≤ (h312.2 0 25) ∧ (h312.2 0 25) ≤ 400 := fM_25 s314
                have b324 : 0 ≤ (h312.2 0 26) ∧ (h312.2 0 26) ≤ 8 := fM_26 s314
                have b325 : 0 ≤ (h312.2 0 28) ∧ (h312.2 0 28) ≤ 40 := fM_28 s314
                refine zj_aload_n (zdk ttX11_readAny 97 rfl rfl) rfl (by decide) ?_
                refine zj_bipush (zdk ttX11_readAny 98 rfl rfl) (by decide) ?_
                refine zj_callV (av := [.inl 11]) (st := []) (zdk ttX11_readAny 99 rfl rfl) mb_X11_settles mv_RX11_235 (ci := 11) rfl rfl (k_M s314) rfl rfl (Nat.le_of_ble_eq_true rfl) (s_X11_settles l h312 11 s314 (by omega) (by omega) (fun q => absurd q (by decide)) (by decide)) (rm_ok (by decide) (by decide)) (zq_v fun h328 q326 => ?_)
                obtain ⟨s330, f333, u331, u332⟩ := q326
                have a334 := zAny_set a318.1 (Or.inr rfl) u331 u332 f333 (fun _ => (a318.2.1 rfl))
                have b335 := zAny_f a334.1
                have b335r := zAny_br a334.1
                have b336 : h328.2 0 12 = (h5.2 0 12) := ((zfr_f f333 rfl rfl).trans (zfr_f f317 rfl rfl))
                have b337 : h328.2 0 13 = (h5.2 0 13) := ((zfr_f f333 rfl rfl).trans (zfr_f f317 rfl rfl))
                have b338 : h328.2 0 14 = (h5.2 0 14) := ((zfr_f f333 rfl rfl).trans (zfr_f f317 rfl rfl))
                have b339 : 0 ≤ (h328.2 0 25) ∧ (h328.2 0 25) ≤ 400 := fM_25 s330
                have b340 : 0 ≤ (h328.2 0 26) ∧ (h328.2 0 26) ≤ 8 := fM_26 s330
                have b341 : 0 ≤ (h328.2 0 28) ∧ (h328.2 0 28) ≤ 40 := fM_28 s330
                refine zj_iload_n (zdk ttX11_readAny 100 rfl rfl) rfl ?_
                refine zj_if_ne (t := 191) (zdk ttX11_readAny 101 rfl rfl) (by decide) (by omega) (fun c342 => ?_) (fun c342 => ?_)
                · refine zj_aload_n (zdk ttX11_readAny 104 rfl rfl) rfl (by decide) ?_
                  refine zj_bipush (zdk ttX11_readAny 105 rfl rfl) (by decide) ?_
                  refine zj_callV (av := [.inl 41]) (st := []) (zdk ttX11_readAny 106 rfl rfl) mb_X11_isSign mv_RX11_211 (ci := 11) rfl rfl (k_M s330) rfl rfl (Nat.le_of_ble_eq_true rfl) (s_X11_isSign l h328 41 s330 (by omega)) (rm_ok (by decide) (by decide)) (zq_i fun v344 h345 q343 => ?_)
                  obtain ⟨rfl, b347, b348, ⟨rfl, b346⟩ | ⟨rfl, b346⟩⟩ := q343
                  · refine zj_if_ne (t := 206) (zdk ttX11_readAny 107 rfl rfl) (by decide) (by decide) (fun c349 => ?_) (fun c349 => ?_)
                    · exact absurd c349 (by omega)
                    · refine zj_aload_n (zdk ttX11_readAny 108 rfl rfl) rfl (by decide) ?_
                      refine zj_iconst (zdk ttX11_readAny 109 rfl rfl) ?_
                      refine zj_callV (av := [.inl 1]) (st := []) (zdk ttX11_readAny 110 rfl rfl) mb_X11_errs mv_RX11_197 (ci := 11) rfl rfl (k_M s330) rfl rfl (Nat.le_of_ble_eq_true rfl) (s_X11_errs l h328 1 s330 (by omega)) (rm_ok (by decide) (by decide)) (zq_i fun v351 h352 q350 => ?_)
                      obtain ⟨b353, s354, f355⟩ := q350
                      have f358 : zfr [12, 13, 14, 15, 25, 26, 28, 29, 30] [14, 15, 16] h h312 := zfr_t f7 f317 rfl rfl
                      have f357 : zfr [12, 13, 14, 15, 25, 26, 28, 29, 30] [14, 15, 16] h h328 := zfr_t f358 f333 rfl rfl
                      have f356 : zfr [12, 13, 14, 15, 25, 26, 28, 29, 30] [14, 15, 16] h h352 := zfr_t f357 f355 rfl rfl
                      exact zj_iret rfl (zdk ttX11_readAny 111 rfl rfl) (Nat.le_refl _) (Nat.le_refl _) ⟨v351, rfl, by omega, s354, f356, (fun q => absurd q (by omega))⟩
                  · refine zj_if_ne (t := 206) (zdk ttX11_readAny 107 rfl rfl) (by decide) (by decide) (fun c359 => ?_) (fun c359 => ?_)
                    · have a360 := zAny_top a334.1 (a334.2.2 rfl) (by omega)
                      have a360c := zAny_cl a334.1 a360
                      refine zj_aload_n (zdk ttX11_readAny 112 rfl rfl) rfl (by decide) ?_
                      refine zj_aload_n (zdk ttX11_readAny 113 rfl rfl) rfl (by decide) ?_
                      refine zj_geti (v := (h328.2 0 28)) (zdk ttX11_readAny 114 rfl rfl) zf_RX11_220 rfl (k_M s330) rfl ?_
                      refine zj_iconst (zdk ttX11_readAny 115 rfl rfl) ?_
                      refine zj_isub (zdk ttX11_readAny 116 rfl rfl) ?_
                      refine zj_puti (zdk ttX11_readAny 117 rfl rfl) zf_RX11_220 rfl (k_M s330) (Or.inl zw_RX11_220) (k2 := 28) rfl (fun h361 e362 => ?_)
                      refine zj_iload_n (zdk ttX11_readAny 118 rfl rfl) rfl ?_
                      refine zj_iconst (zdk ttX11_readAny 119 rfl rfl) ?_
                      refine zj_isub (zdk ttX11_readAny 120 rfl rfl) ?_
                      refine zj_istore_n (L' := [some (.inr 0), some (.inl (x3 - 1)), some (.inl x4), none]) (zdk ttX11_readAny 121 rfl rfl) (by decide) rfl ?_
                      refine zj_aload_n (zdk ttX11_readAny 122 rfl rfl) rfl (by decide) ?_
                      refine zj_aload_n (zdk ttX11_readAny 123 rfl rfl) rfl (by decide) ?_
                      have s363 : okM h361 := fwM_28 s330 e362 (by omega)
                      refine zj_geti (v := (h328.2 0 26)) (zdk ttX11_readAny 124 rfl rfl) zf_RX11_223 rfl (k_M s363) (zwr_r e362 (by first | decide | exact (absurd ·.1 (by decide)) | exact (absurd ·.2 (by decide)) | omega)) ?_
                      refine zj_iconst (zdk ttX11_readAny 125 rfl rfl) ?_
                      refine zj_isub (zdk ttX11_readAny 126 rfl rfl) ?_
                      refine zj_puti (zdk ttX11_readAny 127 rfl rfl) zf_RX11_223 rfl (k_M s363) (Or.inl zw_RX11_223) (k2 := 26) rfl (fun h364 e365 => ?_)
                      refine zj_aload_n (zdk ttX11_readAny 128 rfl rfl) rfl (by decide) ?_
                      refine zj_bipush (zdk ttX11_readAny 129 rfl rfl) (by decide) ?_
                      have s366 : okM h364 := fwM_26 s363 e365 (by omega)
                      have b367 : h364.2 0 12 = (h5.2 0 12) := ((((zwr_r e365 (by first | decide | exact (absurd ·.1 (by decide)) | exact (absurd ·.2 (by decide)) | omega)).trans (zwr_r e362 (by first | decide | exact (absurd ·.1 (by decide)) | exact (absurd ·.2 (by decide)) | omega))).trans (zfr_f f333 rfl rfl)).trans (zfr_f f317 rfl rfl))
                      have b368 : h364.2 0 13 = (h5.2 0 13) := ((((zwr_r e365 (by first | decide | exact (absurd ·.1 (by decide)) | exact (absurd ·.2 (by decide)) | omega)).trans (zwr_r e362 (by first | decide | exact (absurd ·.1 (by decide)) | exact (absurd ·.2 (by decide)) | omega))).trans (zfr_f f333 rfl rfl)).trans (zfr_f f317 rfl rfl))
                      have b369 : h364.2 0 14 = (h5.2 0 14) := ((((zwr_r e365 (by first | decide | exact (absurd ·.1 (by decide)) | exact (absurd ·.2 (by decide)) | omega)).trans (zwr_r e362 (by first | decide | exact (absurd ·.1 (by decide)) | exact (absurd ·.2 (by decide)) | omega))).trans (zfr_f f333 rfl rfl)).trans (zfr_f f317 rfl rfl))
                      have b370 : h364.2 0 25 = (h328.2 0 25) := ((zwr_r e365 (by first | decide | exact (absurd ·.1 (by decide)) | exact (absurd ·.2 (by decide)) | omega)).trans (zwr_r e362 (by first | decide | exact (absurd ·.1 (by decide)) | exact (absurd ·.2 (by decide)) | omega)))
                      have b371 : h364.2 0 26 = ((h328.2 0 26) - 1) := (zwr_v e365)
                      have b372 : h364.2 0 28 = ((h328.2 0 28) - 1) := ((zwr_r e365 (by first | decide | exact (absurd ·.1 (by decide)) | exact (absurd ·.2 (by decide)) | omega)).trans (zwr_v e362))
                      refine zj_callV (av := [.inl 9]) (st := []) (zdk ttX11_readAny 130 rfl rfl) mb_X11_settles mv_RX11_235 (ci := 11) rfl rfl (k_M s366) rfl rfl (Nat.le_of_ble_eq_true rfl) (s_X11_settles l h364 9 s366 (by omega) (by omega) (fun _ => zck_c a360c.1 (funext fun _ => ((zwr_r e365 (by first | decide | exact (absurd ·.1 (by decide)) | exact (absurd ·.2 (by decide)) | omega)).trans (zwr_r e362 (by first | decide | exact (absurd ·.1 (by decide)) | exact (absurd ·.2 (by decide)) | omega)))) (by omega) (by omega)) (by decide)) (rm_ok (by decide) (by decide)) (zq_v fun h375 q373 => ?_)
                      obtain ⟨s377, f380, u378, u379⟩ := q373
                      refine zj_aload_n (zdk ttX11_readAny 131 rfl rfl) rfl (by decide) ?_
                      refine zj_callV (av := []) (st := []) (zdk ttX11_readAny 132 rfl rfl) mb_X11_reads mv_RX11_204 (ci := 11) rfl rfl (k_M s377) rfl rfl (Nat.le_of_ble_eq_true rfl) (s_X11_reads l h375 s377) (rm_ok (by decide) (by decide)) (zq_v fun h383 q381 => ?_)
                      obtain ⟨s385, f388, u386, u387⟩ := q381
                      refine zj_goto (t := 9) (zdk ttX11_readAny 133 rfl rfl) (by decide) ?_
                      have b389 : 0 ≤ (h383.2 0 12) ∧ (h383.2 0 12) ≤ 400 := fM_12 s385
                      have b390 : 0 ≤ (h383.2 0 13) ∧ (h383.2 0 13) ≤ 400 := fM_13 s385
                      have b391 : 0 ≤ (h383.2 0 14) ∧ (h383.2 0 14) ≤ 4 := fM_14 s385
                      have b392 : h383.2 0 25 = (h375.2 0 25) := (zfr_f f388 rfl rfl)
                      have b393 : 0 ≤ (h375.2 0 25) ∧ (h375.2 0 25) ≤ 400 := fM_25 s377
                      have b394 : h383.2 0 26 = (h375.2 0 26) := (zfr_f f388 rfl rfl)
                      have b395 : 0 ≤ (h375.2 0 26) ∧ (h375.2 0 26) ≤ 8 := fM_26 s377
                      have b396 : h383.2 0 28 = (h375.2 0 28) := (zfr_f f388 rfl rfl)
                      have b397 : 0 ≤ (h375.2 0 28) ∧ (h375.2 0 28) ≤ 40 := fM_28 s377
                      have f403 : zfr [12, 13, 14, 15, 25, 26, 28, 29, 30] [14, 15, 16] h h312 := zfr_t f7 f317 rfl rfl
                      have f402 : zfr [12, 13, 14, 15, 25, 26, 28, 29, 30] [14, 15, 16] h h328 := zfr_t f403 f333 rfl rfl
                      have f401 : zfr [12, 13, 14, 15, 25, 26, 28, 29, 30] [14, 15, 16] h h361 := zfr_wf f402 e362 rfl
                      have f400 : zfr [12, 13, 14, 15, 25, 26, 28, 29, 30] [14, 15, 16] h h364 := zfr_wf f401 e365 rfl
                      have f399 : zfr [12, 13, 14, 15, 25, 26, 28, 29, 30] [14, 15, 16] h h375 := zfr_t f400 f380 rfl rfl
                      have f398 : zfr [12, 13, 14, 15, 25, 26, 28, 29, 30] [14, 15, 16] h h383 := zfr_t f399 f388 rfl rfl
                      have b404 : h375.2 0 12 = (h5.2 0 12) := (((((zfr_f f380 rfl rfl).trans (zwr_r e365 (by first | decide | exact (absurd ·.1 (by decide)) | exact (absurd ·.2 (by decide)) | omega))).trans (zwr_r e362 (by first | decide | exact (absurd ·.1 (by decide)) | exact (absurd ·.2 (by decide)) | omega))).trans (zfr_f f333 rfl rfl)).trans (zfr_f f317 rfl rfl))
                      have b405 : h375.2 0 13 = (h5.2 0 13) := (((((zfr_f f380 rfl rfl).trans (zwr_r e365 (by first | decide | exact (absurd ·.1 (by decide)) | exact (absurd ·.2 (by decide)) | omega))).trans (zwr_r e362 (by first | decide | exact (absurd ·.1 (by decide)) | exact (absurd ·.2 (by decide)) | omega))).trans (zfr_f f333 rfl rfl)).trans (zfr_f f317 rfl rfl))
                      have b406 : h375.2 0 14 = (h5.2 0 14) := (((((zfr_f f380 rfl rfl).trans (zwr_r e365 (by first | decide | exact (absurd ·.1 (by decide)) | exact (absurd ·.2 (by decide)) | omega))).trans (zwr_r e362 (by first | decide | exact (absurd ·.1 (by decide)) | exact (absurd ·.2 (by decide)) | omega))).trans (zfr_f f333 rfl rfl)).trans (zfr_f f317 rfl rfl))
                      have b407 : h383.2 0 25 = (h375.2 0 25) := (zfr_f f388 rfl rfl)
                      have t408 : tok h375 := (tok_same (tok_same (tok_same (tok_same (tok_same u284 f317 rfl rfl rfl rfl) f333 rfl rfl rfl rfl) (zfr_wf (zfr_r [28] [] h328) e362 rfl) rfl rfl rfl rfl) (zfr_wf (zfr_r [26] [] h361) e365 rfl) rfl rfl rfl rfl) f380 rfl rfl rfl rfl)
                      unfold tok at t408
                      have e409 : h361 = zwr h328 0 28 (h328.2 0 28 - 1) := by first | exact e362 | (rw [e362]; congr 1; omega)
                      have e410 : h364 = zwr h361 0 26 (h328.2 0 26 - 1) := by first | exact e365 | (rw [e365]; congr 1; omega)
                      exact ih287  (x3 - 1) x4 h383 (by omega) (by omega) s385 f398 u386 (zAny_d (br := (x3 - 1)) (d := 0) (zAny_close (br := x3) a334.1 a360.1 a360.2 e409 e410 u378 u379 f380 f388 (by omega) rfl) rfl (by omega)) (by omega)
                    · exact absurd c359 (by omega)
                · refine zj_iconst (zdk ttX11_readAny 102 rfl rfl) ?_
                  have f412 : zfr [12, 13, 14, 15, 25, 26, 28, 29, 30] [14, 15, 16] h h312 := zfr_t f7 f317 rfl rfl
                  have f411 : zfr [12, 13, 14, 15, 25, 26, 28, 29, 30] [14, 15, 16] h h328 := zfr_t f412 f333 rfl rfl
                  have a413 := zAny_end a334.1 (by omega) (a334.2.2 rfl)
                  exact zj_iret rfl (zdk ttX11_readAny 103 rfl rfl) (Nat.le_refl _) (Nat.le_refl _) ⟨0, rfl, by omega, s330, f411, (fun _ => ⟨(tok_same (tok_same u284 f317 rfl rfl rfl rfl) f333 rfl rfl rfl rfl), a413.1, a413.2⟩)⟩
              · exact absurd c309 (by omega)
            · refine zj_if_eq (t := 173) (zdk ttX11_readAny 79 rfl rfl) (by decide) (by decide) (fun c414 => ?_) (fun c414 => ?_)
              · exact absurd c414 (by omega)
              · refine zj_aload_n (zdk ttX11_readAny 80 rfl rfl) rfl (by decide) ?_
                refine zj_bipush (zdk ttX11_readAny 81 rfl rfl) (by decide) ?_
                refine zj_callV (av := [.inl 10]) (st := []) (zdk ttX11_readAny 82 rfl rfl) mb_X11_settles mv_RX11_235 (ci := 11) rfl rfl (k_M s6) rfl rfl (Nat.le_of_ble_eq_true rfl) (s_X11_settles l h5 10 s6 (by omega) (by omega) (fun q => absurd q (by decide)) (by decide)) (rm_ok (by decide) (by decide)) (zq_v fun h417 q415 => ?_)
                obtain ⟨s419, f422, u420, u421⟩ := q415
                have a423 := zAny_set (zAny_d u285 rfl (show x4 = 0 by omega)) (Or.inl rfl) u420 u421 f422 (fun q => absurd q (by decide))
                have b424 := zAny_f a423.1
                have b424r := zAny_br a423.1
                have b425 : h417.2 0 12 = (h5.2 0 12) := (zfr_f f422 rfl rfl)
                have b426 : h417.2 0 13 = (h5.2 0 13) := (zfr_f f422 rfl rfl)
                have b427 : h417.2 0 14 = (h5.2 0 14) := (zfr_f f422 rfl rfl)
                have b428 : 0 ≤ (h417.2 0 25) ∧ (h417.2 0 25) ≤ 400 := fM_25 s419
                have b429 : 0 ≤ (h417.2 0 26) ∧ (h417.2 0 26) ≤ 8 := fM_26 s419
                have b430 : 0 ≤ (h417.2 0 28) ∧ (h417.2 0 28) ≤ 40 := fM_28 s419
                refine zj_aload_n (zdk ttX11_readAny 83 rfl rfl) rfl (by decide) ?_
                refine zj_bipush (zdk ttX11_readAny 84 rfl rfl) (by decide) ?_
                refine zj_callV (av := [.inl 11]) (st := []) (zdk ttX11_readAny 85 rfl rfl) mb_X11_settles mv_RX11_235 (ci := 11) rfl rfl (k_M s419) rfl rfl (Nat.le_of_ble_eq_true rfl) (s_X11_settles l h417 11 s419 (by omega) (by omega) (fun q => absurd q (by decide)) (by decide)) (rm_ok (by decide) (by decide)) (zq_v fun h433 q431 => ?_)
                obtain ⟨s435, f438, u436, u437⟩ := q431
                have a439 := zAny_set a423.1 (Or.inr rfl) u436 u437 f438 (fun _ => (a423.2.1 rfl))
                have b440 := zAny_f a439.1
                have b440r := zAny_br a439.1
                have b441 : h433.2 0 12 = (h5.2 0 12) := ((zfr_f f438 rfl rfl).trans (zfr_f f422 rfl rfl))
                have b442 : h433.2 0 13 = (h5.2 0 13) := ((zfr_f f438 rfl rfl).trans (zfr_f f422 rfl rfl))
                have b443 : h433.2 0 14 = (h5.2 0 14) := ((zfr_f f438 rfl rfl).trans (zfr_f f422 rfl rfl))
                have b444 : 0 ≤ (h433.2 0 25) ∧ (h433.2 0 25) ≤ 400 := fM_25 s435
                have b445 : 0 ≤ (h433.2 0 26) ∧ (h433.2 0 26) ≤ 8 := fM_26 s435
                have b446 : 0 ≤ (h433.2 0 28) ∧ (h433.2 0 28) ≤ 40 := fM_28 s435
                refine zj_aload_n (zdk ttX11_readAny 86 rfl rfl) rfl (by decide) ?_
                refine zj_bipush (zdk ttX11_readAny 87 rfl rfl) (by decide) ?_
                refine zj_callV (av := [.inl 11]) (st := []) (zdk ttX11_readAny 88 rfl rfl) mb_X11_waits mv_RX11_229 (ci := 11) rfl rfl (k_M s435) rfl rfl (Nat.le_of_ble_eq_true rfl) (s_X11_waits l h433 11 s435 (by omega) (by omega)) (rm_ok (by decide) (by decide)) (zq_v fun h449 q447 => ?_)
                obtain ⟨s451, f455, u452, u453, u454⟩ := q447
                refine zj_aload_n (zdk ttX11_readAny 89 rfl rfl) rfl (by decide) ?_
                refine zj_callV (av := []) (st := []) (zdk ttX11_readAny 90 rfl rfl) mb_X11_reads mv_RX11_204 (ci := 11) rfl rfl (k_M s451) rfl rfl (Nat.le_of_ble_eq_true rfl) (s_X11_reads l h449 s451) (rm_ok (by decide) (by decide)) (zq_v fun h458 q456 => ?_)
                obtain ⟨s460, f463, u461, u462⟩ := q456
                refine zj_iconst (zdk ttX11_readAny 91 rfl rfl) ?_
                refine zj_istore_n (L' := [some (.inr 0), some (.inl x3), some (.inl 1), none]) (zdk ttX11_readAny 92 rfl rfl) (by decide) rfl ?_
                refine zj_goto (t := 9) (zdk ttX11_readAny 93 rfl rfl) (by decide) ?_
                have b464 : 0 ≤ (h458.2 0 12) ∧ (h458.2 0 12) ≤ 400 := fM_12 s460
                have b465 : 0 ≤ (h458.2 0 13) ∧ (h458.2 0 13) ≤ 400 := fM_13 s460
                have b466 : 0 ≤ (h458.2 0 14) ∧ (h458.2 0 14) ≤ 4 := fM_14 s460
                have b467 : h458.2 0 25 = (h433.2 0 25) := ((zfr_f f463 rfl rfl).trans (zfr_f f455 rfl rfl))
                have b468 : h458.2 0 26 = (h433.2 0 26) := ((zfr_f f463 rfl rfl).trans (zfr_f f455 rfl rfl))
                have b469 : h458.2 0 28 = (h449.2 0 28) := (zfr_f f463 rfl rfl)
                have b470 : 0 ≤ (h449.2 0 28) ∧ (h449.2 0 28) ≤ 40 := fM_28 s451
                have f474 : zfr [12, 13, 14, 15, 25, 26, 28, 29, 30] [14, 15, 16] h h417 := zfr_t f7 f422 rfl rfl
                have f473 : zfr [12, 13, 14, 15, 25, 26, 28, 29, 30] [14, 15, 16] h h433 := zfr_t f474 f438 rfl rfl
                have f472 : zfr [12, 13, 14, 15, 25, 26, 28, 29, 30] [14, 15, 16] h h449 := zfr_t f473 f455 rfl rfl
                have f471 : zfr [12, 13, 14, 15, 25, 26, 28, 29, 30] [14, 15, 16] h h458 := zfr_t f472 f463 rfl rfl
                have b475 : h449.2 0 12 = (h5.2 0 12) := (((zfr_f f455 rfl rfl).trans (zfr_f f438 rfl rfl)).trans (zfr_f f422 rfl rfl))
                have b476 : h449.2 0 13 = (h5.2 0 13) := (((zfr_f f455 rfl rfl).trans (zfr_f f438 rfl rfl)).trans (zfr_f f422 rfl rfl))
                have b477 : h449.2 0 14 = (h5.2 0 14) := (((zfr_f f455 rfl rfl).trans (zfr_f f438 rfl rfl)).trans (zfr_f f422 rfl rfl))
                have b478 : h449.2 0 25 = (h433.2 0 25) := (zfr_f f455 rfl rfl)
                have b479 : h458.2 0 25 = (h433.2 0 25) := ((zfr_f f463 rfl rfl).trans (zfr_f f455 rfl rfl))
                have t480 : tok h449 := (tok_same (tok_same (tok_same u284 f422 rfl rfl rfl rfl) f438 rfl rfl rfl rfl) f455 rfl rfl rfl rfl)
                unfold tok at t480
                exact ih287  x3 1 h458 (by omega) (by omega) s460 f471 u461 (zAny_d (br := x3) (d := 1) (zAny_push (w := 11) (br := x3) a439.1 (by decide) (fun q => absurd q (by decide)) (fun _ => rfl) (fun q => absurd q (by decide)) (fun _ => (a439.2.2 rfl)) (zfr_r [26] [] h433) (fun q => absurd q (by decide)) (fun _ => rfl) (fun q => absurd q (by decide)) (fun _ => rfl) u452 u453 u454 f455 f463 (by omega)) rfl (by omega)) (by omega)
          · exact absurd c302 (by omega)
        · refine zj_if_eq (t := 138) (zdk ttX11_readAny 64 rfl rfl) (by decide) (by decide) (fun c481 => ?_) (fun c481 => ?_)
          · exact absurd c481 (by omega)
          · refine zj_aload_n (zdk ttX11_readAny 65 rfl rfl) rfl (by decide) ?_
            refine zj_bipush (zdk ttX11_readAny 66 rfl rfl) (by decide) ?_
            refine zj_callV (av := [.inl 10]) (st := []) (zdk ttX11_readAny 67 rfl rfl) mb_X11_settles mv_RX11_235 (ci := 11) rfl rfl (k_M s6) rfl rfl (Nat.le_of_ble_eq_true rfl) (s_X11_settles l h5 10 s6 (by omega) (by omega) (fun q => absurd q (by decide)) (by decide)) (rm_ok (by decide) (by decide)) (zq_v fun h484 q482 => ?_)
            obtain ⟨s486, f489, u487, u488⟩ := q482
            have a490 := zAny_set (zAny_d u285 rfl (show x4 = 0 by omega)) (Or.inl rfl) u487 u488 f489 (fun q => absurd q (by decide))
            have b491 := zAny_f a490.1
            have b491r := zAny_br a490.1
            have b492 : h484.2 0 12 = (h5.2 0 12) := (zfr_f f489 rfl rfl)
            have b493 : h484.2 0 13 = (h5.2 0 13) := (zfr_f f489 rfl rfl)
            have b494 : h484.2 0 14 = (h5.2 0 14) := (zfr_f f489 rfl rfl)
            have b495 : 0 ≤ (h484.2 0 25) ∧ (h484.2 0 25) ≤ 400 := fM_25 s486
            have b496 : 0 ≤ (h484.2 0 26) ∧ (h484.2 0 26) ≤ 8 := fM_26 s486
            have b497 : 0 ≤ (h484.2 0 28) ∧ (h484.2 0 28) ≤ 40 := fM_28 s486
            refine zj_aload_n (zdk ttX11_readAny 68 rfl rfl) rfl (by decide) ?_
            refine zj_bipush (zdk ttX11_readAny 69 rfl rfl) (by decide) ?_
            refine zj_callV (av := [.inl 10]) (st := []) (zdk ttX11_readAny 70 rfl rfl) mb_X11_waits mv_RX11_229 (ci := 11) rfl rfl (k_M s486) rfl rfl (Nat.le_of_ble_eq_true rfl) (s_X11_waits l h484 10 s486 (by omega) (by omega)) (rm_ok (by decide) (by decide)) (zq_v fun h500 q498 => ?_)
            obtain ⟨s502, f506, u503, u504, u505⟩ := q498
            refine zj_aload_n (zdk ttX11_readAny 71 rfl rfl) rfl (by decide) ?_
            refine zj_callV (av := []) (st := []) (zdk ttX11_readAny 72 rfl rfl) mb_X11_reads mv_RX11_204 (ci := 11) rfl rfl (k_M s502) rfl rfl (Nat.le_of_ble_eq_true rfl) (s_X11_reads l h500 s502) (rm_ok (by decide) (by decide)) (zq_v fun h509 q507 => ?_)
            obtain ⟨s511, f514, u512, u513⟩ := q507
            refine zj_iconst (zdk ttX11_readAny 73 rfl rfl) ?_
            refine zj_istore_n (L' := [some (.inr 0), some (.inl x3), some (.inl 1), none]) (zdk ttX11_readAny 74 rfl rfl) (by decide) rfl ?_
            refine zj_goto (t := 9) (zdk ttX11_readAny 75 rfl rfl) (by decide) ?_
            have b515 : 0 ≤ (h509.2 0 12) ∧ (h509.2 0 12) ≤ 400 := fM_12 s511
            have b516 : 0 ≤ (h509.2 0 13) ∧ (h509.2 0 13) ≤ 400 := fM_13 s511
            have b517 : 0 ≤ (h509.2 0 14) ∧ (h509.2 0 14) ≤ 4 := fM_14 s511
            have b518 : h509.2 0 25 = (h484.2 0 25) := ((zfr_f f514 rfl rfl).trans (zfr_f f506 rfl rfl))
            have b519 : h509.2 0 26 = (h484.2 0 26) := ((zfr_f f514 rfl rfl).trans (zfr_f f506 rfl rfl))
            have b520 : h509.2 0 28 = (h500.2 0 28) := (zfr_f f514 rfl rfl)
            have b521 : 0 ≤ (h500.2 0 28) ∧ (h500.2 0 28) ≤ 40 := fM_28 s502
            have f524 : zfr [12, 13, 14, 15, 25, 26, 28, 29, 30] [14, 15, 16] h h484 := zfr_t f7 f489 rfl rfl
            have f523 : zfr [12, 13, 14, 15, 25, 26, 28, 29, 30] [14, 15, 16] h h500 := zfr_t f524 f506 rfl rfl
            have f522 : zfr [12, 13, 14, 15, 25, 26, 28, 29, 30] [14, 15, 16] h h509 := zfr_t f523 f514 rfl rfl
            have b525 : h500.2 0 12 = (h5.2 0 12) := ((zfr_f f506 rfl rfl).trans (zfr_f f489 rfl rfl))
            have b526 : h500.2 0 13 = (h5.2 0 13) := ((zfr_f f506 rfl rfl).trans (zfr_f f489 rfl rfl))
            have b527 : h500.2 0 14 = (h5.2 0 14) := ((zfr_f f506 rfl rfl).trans (zfr_f f489 rfl rfl))
            have b528 : h500.2 0 25 = (h484.2 0 25) := (zfr_f f506 rfl rfl)
            have b529 : h509.2 0 25 = (h484.2 0 25) := ((zfr_f f514 rfl rfl).trans (zfr_f f506 rfl rfl))
            have t530 : tok h500 := (tok_same (tok_same u284 f489 rfl rfl rfl rfl) f506 rfl rfl rfl rfl)
            unfold tok at t530
            exact ih287  x3 1 h509 (by omega) (by omega) s511 f522 u512 (zAny_d (br := x3) (d := 1) (zAny_push (w := 10) (br := x3) a490.1 (by decide) (fun q => absurd q (by decide)) (fun _ => rfl) (fun _ => (a490.2.1 rfl)) (fun q => absurd q (by decide)) (zfr_r [26] [] h484) (fun q => absurd q (by decide)) (fun _ => rfl) (fun q => absurd q (by decide)) (fun _ => rfl) u503 u504 u505 f506 f514 (by omega)) rfl (by omega)) (by omega)
      · refine zj_aload_n (zdk ttX11_readAny 9 rfl rfl) rfl (by decide) ?_
        refine zj_bipush (zdk ttX11_readAny 10 rfl rfl) (by decide) ?_
        refine zj_callV (av := [.inl 6]) (st := []) (zdk ttX11_readAny 11 rfl rfl) mb_X11_isWord mv_RX11_226 (ci := 11) rfl rfl (k_M s6) rfl rfl (Nat.le_of_ble_eq_true rfl) (s_X11_isWord l h5 6 s6 (by omega)) (rm_ok (by decide) (by decide)) (zq_i fun v532 h533 q531 => ?_)
        obtain ⟨rfl, b535, b536, ⟨rfl, b534⟩ | ⟨rfl, b534⟩⟩ := q531
        · refine zj_istore_n (L' := [some (.inr 0), some (.inl x3), some (.inl x4), some (.inl 0)]) (zdk ttX11_readAny 12 rfl rfl) (by decide) rfl ?_
          refine zj_iload_n (zdk ttX11_readAny 13 rfl rfl) rfl ?_
          refine zj_if_ne (t := 33) (zdk ttX11_readAny 14 rfl rfl) (by decide) (by decide) (fun c537 => ?_) (fun c537 => ?_)
          · exact absurd c537 (by omega)
          · refine zj_aload_n (zdk ttX11_readAny 15 rfl rfl) rfl (by decide) ?_
            refine zj_bipush (zdk ttX11_readAny 16 rfl rfl) (by decide) ?_
            refine zj_callV (av := [.inl 40]) (st := []) (zdk ttX11_readAny 17 rfl rfl) mb_X11_isSign mv_RX11_211 (ci := 11) rfl rfl (k_M s6) rfl rfl (Nat.le_of_ble_eq_true rfl) (s_X11_isSign l h5 40 s6 (by omega)) (rm_ok (by decide) (by decide)) (zq_i fun v539 h540 q538 => ?_)
            obtain ⟨rfl, b542, b543, ⟨rfl, b541⟩ | ⟨rfl, b541⟩⟩ := q538
            · refine zj_if_eq (t := 88) (zdk ttX11_readAny 18 rfl rfl) (by decide) (by decide) (fun c544 => ?_) (fun c544 => ?_)
              · refine zj_aload_n (zdk ttX11_readAny 49 rfl rfl) rfl (by decide) ?_
                refine zj_callV (av := []) (st := []) (zdk ttX11_readAny 50 rfl rfl) mb_X11_readCompared mv_RX11_232 (ci := 11) rfl rfl (k_M s6) rfl rfl (Nat.le_of_ble_eq_true rfl) (s_X11_readCompared l h5 s6 u284 (by omega)) (rm_ok (by decide) (by decide)) (zq_i fun v546 h547 q545 => ?_)
                obtain ⟨b548, s549, f551, u550⟩ := q545
                refine zj_iconst (zdk ttX11_readAny 51 rfl rfl) ?_
                refine zj_icmp_ne (t := 98) (zdk ttX11_readAny 52 rfl rfl) (by decide) (by omega) (by decide) (fun c552 => ?_) (fun c552 => ?_)
                · refine zj_aload_n (zdk ttX11_readAny 55 rfl rfl) rfl (by decide) ?_
                  refine zj_bipush (zdk ttX11_readAny 56 rfl rfl) (by decide) ?_
                  have r553 := u550 (by omega)
                  have r553b := r553.2.1.2
                  have r553t := r553.1
                  unfold tok at r553t
                  have b554 : 0 ≤ (h547.2 0 12) ∧ (h547.2 0 12) ≤ 400 := fM_12 s549
                  have b555 : 0 ≤ (h547.2 0 13) ∧ (h547.2 0 13) ≤ 400 := fM_13 s549
                  have b556 : 0 ≤ (h547.2 0 14) ∧ (h547.2 0 14) ≤ 4 := fM_14 s549
                  have b557 : 0 ≤ (h547.2 0 25) ∧ (h547.2 0 25) ≤ 400 := fM_25 s549
                  have b558 : h547.2 0 26 = (h5.2 0 26) := (zfr_f f551 rfl rfl)
                  have b559 : h547.2 0 28 = (h5.2 0 28) := (zfr_f f551 rfl rfl)
                  refine zj_callV (av := [.inl 9]) (st := []) (zdk ttX11_readAny 57 rfl rfl) mb_X11_settles mv_RX11_235 (ci := 11) rfl rfl (k_M s549) rfl rfl (Nat.le_of_ble_eq_true rfl) (s_X11_settles l h547 9 s549 (by omega) (by omega) (fun _ => zck_c b288.2.1 (funext fun _ => (zfr_a f551 rfl (by decide))) (by omega) (by omega)) (by decide)) (rm_ok (by decide) (by decide)) (zq_v fun h562 q560 => ?_)
                  obtain ⟨s564, f567, u565, u566⟩ := q560
                  refine zj_iconst (zdk ttX11_readAny 58 rfl rfl) ?_
                  refine zj_istore_n (L' := [some (.inr 0), some (.inl x3), some (.inl 0), some (.inl 0)]) (zdk ttX11_readAny 59 rfl rfl) (by decide) rfl ?_
                  refine zj_goto (t := 9) (zdk ttX11_readAny 60 rfl rfl) (by decide) ?_
                  refine zj_kill (k := 3) (L' := [some (.inr 0), some (.inl x3), some (.inl 0), none]) rfl ?_
                  have b568 : h562.2 0 12 = (h547.2 0 12) := (zfr_f f567 rfl rfl)
                  have b569 : h562.2 0 13 = (h547.2 0 13) := (zfr_f f567 rfl rfl)
                  have b570 : h562.2 0 14 = (h547.2 0 14) := (zfr_f f567 rfl rfl)
                  have b571 : 0 ≤ (h562.2 0 25) ∧ (h562.2 0 25) ≤ 400 := fM_25 s564
                  have b572 : 0 ≤ (h562.2 0 26) ∧ (h562.2 0 26) ≤ 8 := fM_26 s564
                  have b573 : 0 ≤ (h562.2 0 28) ∧ (h562.2 0 28) ≤ 40 := fM_28 s564
                  have f575 : zfr [12, 13, 14, 15, 25, 26, 28, 29, 30] [14, 15, 16] h h547 := zfr_t f7 f551 rfl rfl
                  have f574 : zfr [12, 13, 14, 15, 25, 26, 28, 29, 30] [14, 15, 16] h h562 := zfr_t f575 f567 rfl rfl
                  exact ih287  x3 0 h562 (by omega) (by omega) s564 f574 (tok_same r553.1 f567 rfl rfl rfl rfl) (zAny_opd u285 (by omega) r553.2.1 r553.2.2 ⟨zfr_f f551 rfl rfl, zfr_f f551 rfl rfl, fun j => zfr_a f551 rfl (by decide)⟩ u565 u566 f567) (by omega)
                · refine zj_iconst (zdk ttX11_readAny 53 rfl rfl) ?_
                  have f576 : zfr [12, 13, 14, 15, 25, 26, 28, 29, 30] [14, 15, 16] h h547 := zfr_t f7 f551 rfl rfl
                  exact zj_iret rfl (zdk ttX11_readAny 54 rfl rfl) (Nat.le_refl _) (Nat.le_refl _) ⟨(-1), rfl, by omega, s549, f576, (fun q => absurd q (by omega))⟩
              · exact absurd c544 (by omega)
            · refine zj_if_eq (t := 88) (zdk ttX11_readAny 18 rfl rfl) (by decide) (by decide) (fun c577 => ?_) (fun c577 => ?_)
              · exact absurd c577 (by omega)
              · refine zj_aload_n (zdk ttX11_readAny 19 rfl rfl) rfl (by decide) ?_
                refine zj_geti (v := (h5.2 0 26)) (zdk ttX11_readAny 20 rfl rfl) zf_RX11_223 rfl (k_M s6) rfl ?_
                refine zj_bipush (zdk ttX11_readAny 21 rfl rfl) (by decide) ?_
                refine zj_icmp_ne (t := 48) (zdk ttX11_readAny 22 rfl rfl) (by decide) (by omega) (by decide) (fun c578 => ?_) (fun c578 => ?_)
                · refine zj_aload_n (zdk ttX11_readAny 27 rfl rfl) rfl (by decide) ?_
                  refine zj_aload_n (zdk ttX11_readAny 28 rfl rfl) rfl (by decide) ?_
                  refine zj_geti (v := (h5.2 0 26)) (zdk ttX11_readAny 29 rfl rfl) zf_RX11_223 rfl (k_M s6) rfl ?_
                  refine zj_iconst (zdk ttX11_readAny 30 rfl rfl) ?_
                  refine zj_iadd (zdk ttX11_readAny 31 rfl rfl) ?_
                  refine zj_puti (zdk ttX11_readAny 32 rfl rfl) zf_RX11_223 rfl (k_M s6) (Or.inl zw_RX11_223) (k2 := 26) rfl (fun h579 e580 => ?_)
                  refine zj_iload_n (zdk ttX11_readAny 33 rfl rfl) rfl ?_
                  refine zj_if_ne (t := 66) (zdk ttX11_readAny 34 rfl rfl) (by decide) (by decide) (fun c581 => ?_) (fun c581 => ?_)
                  · exact absurd c581 (by omega)
                  · refine zj_iload_n (zdk ttX11_readAny 35 rfl rfl) rfl ?_
                    refine zj_iconst (zdk ttX11_readAny 36 rfl rfl) ?_
                    refine zj_iadd (zdk ttX11_readAny 37 rfl rfl) ?_
                    refine zj_istore_n (L' := [some (.inr 0), some (.inl (x3 + 1)), some (.inl x4), some (.inl 0)]) (zdk ttX11_readAny 38 rfl rfl) (by decide) rfl ?_
                    refine zj_aload_n (zdk ttX11_readAny 39 rfl rfl) rfl (by decide) ?_
                    refine zj_iload_n (zdk ttX11_readAny 40 rfl rfl) rfl ?_
                    refine zj_if_eq (t := 76) (zdk ttX11_readAny 41 rfl rfl) (by decide) (by decide) (fun c582 => ?_) (fun c582 => ?_)
                    · refine zj_bipush (zdk ttX11_readAny 44 rfl rfl) (by decide) ?_
                      have s583 : okM h579 := fwM_26 s6 e580 (by omega)
                      have b584 : h579.2 0 12 = (h5.2 0 12) := (zwr_r e580 (by first | decide | exact (absurd ·.1 (by decide)) | exact (absurd ·.2 (by decide)) | omega))
                      have b585 : h579.2 0 13 = (h5.2 0 13) := (zwr_r e580 (by first | decide | exact (absurd ·.1 (by decide)) | exact (absurd ·.2 (by decide)) | omega))
                      have b586 : h579.2 0 14 = (h5.2 0 14) := (zwr_r e580 (by first | decide | exact (absurd ·.1 (by decide)) | exact (absurd ·.2 (by decide)) | omega))
                      have b587 : h579.2 0 25 = (h5.2 0 25) := (zwr_r e580 (by first | decide | exact (absurd ·.1 (by decide)) | exact (absurd ·.2 (by decide)) | omega))
                      have b588 : h579.2 0 26 = ((h5.2 0 26) + 1) := (zwr_v e580)
                      have b589 : h579.2 0 28 = (h5.2 0 28) := (zwr_r e580 (by first | decide | exact (absurd ·.1 (by decide)) | exact (absurd ·.2 (by decide)) | omega))
                      refine zj_callV (av := [.inl 12]) (st := []) (zdk ttX11_readAny 45 rfl rfl) mb_X11_waits mv_RX11_229 (ci := 11) rfl rfl (k_M s583) rfl rfl (Nat.le_of_ble_eq_true rfl) (s_X11_waits l h579 12 s583 (by omega) (by omega)) (rm_ok (by decide) (by decide)) (zq_v fun h592 q590 => ?_)
                      obtain ⟨s594, f598, u595, u596, u597⟩ := q590
                      refine zj_aload_n (zdk ttX11_readAny 46 rfl rfl) rfl (by decide) ?_
                      refine zj_callV (av := []) (st := []) (zdk ttX11_readAny 47 rfl rfl) mb_X11_reads mv_RX11_204 (ci := 11) rfl rfl (k_M s594) rfl rfl (Nat.le_of_ble_eq_true rfl) (s_X11_reads l h592 s594) (rm_ok (by decide) (by decide)) (zq_v fun h601 q599 => ?_)
                      obtain ⟨s603, f606, u604, u605⟩ := q599
                      refine zj_goto (t := 9) (zdk ttX11_readAny 48 rfl rfl) (by decide) ?_
                      refine zj_kill (k := 3) (L' := [some (.inr 0), some (.inl (x3 + 1)), some (.inl x4), none]) rfl ?_
                      have b607 : 0 ≤ (h601.2 0 12) ∧ (h601.2 0 12) ≤ 400 := fM_12 s603
                      have b608 : 0 ≤ (h601.2 0 13) ∧ (h601.2 0 13) ≤ 400 := fM_13 s603
                      have b609 : 0 ≤ (h601.2 0 14) ∧ (h601.2 0 14) ≤ 4 := fM_14 s603
                      have b610 : h601.2 0 25 = (h5.2 0 25) := (((zfr_f f606 rfl rfl).trans (zfr_f f598 rfl rfl)).trans (zwr_r e580 (by first | decide | exact (absurd ·.1 (by decide)) | exact (absurd ·.2 (by decide)) | omega)))
                      have b611 : h601.2 0 26 = ((h5.2 0 26) + 1) := (((zfr_f f606 rfl rfl).trans (zfr_f f598 rfl rfl)).trans (zwr_v e580))
                      have b612 : h601.2 0 28 = (h592.2 0 28) := (zfr_f f606 rfl rfl)
                      have b613 : 0 ≤ (h592.2 0 28) ∧ (h592.2 0 28) ≤ 40 := fM_28 s594
                      have f616 : zfr [12, 13, 14, 15, 25, 26, 28, 29, 30] [14, 15, 16] h h579 := zfr_wf f7 e580 rfl
                      have f615 : zfr [12, 13, 14, 15, 25, 26, 28, 29, 30] [14, 15, 16] h h592 := zfr_t f616 f598 rfl rfl
                      have f614 : zfr [12, 13, 14, 15, 25, 26, 28, 29, 30] [14, 15, 16] h h601 := zfr_t f615 f606 rfl rfl
                      have b617 : h592.2 0 12 = (h5.2 0 12) := ((zfr_f f598 rfl rfl).trans (zwr_r e580 (by first | decide | exact (absurd ·.1 (by decide)) | exact (absurd ·.2 (by decide)) | omega)))
                      have b618 : h592.2 0 13 = (h5.2 0 13) := ((zfr_f f598 rfl rfl).trans (zwr_r e580 (by first | decide | exact (absurd ·.1 (by decide)) | exact (absurd ·.2 (by decide)) | omega)))
                      have b619 : h592.2 0 14 = (h5.2 0 14) := ((zfr_f f598 rfl rfl).trans (zwr_r e580 (by first | decide | exact (absurd ·.1 (by decide)) | exact (absurd ·.2 (by decide)) | omega)))
                      have b620 : h592.2 0 25 = (h5.2 0 25) := ((zfr_f f598 rfl rfl).trans (zwr_r e580 (by first | decide | exact (absurd ·.1 (by decide)) | exact (absurd ·.2 (by decide)) | omega)))
                      have b621 : h601.2 0 25 = (h5.2 0 25) := (((zfr_f f606 rfl rfl).trans (zfr_f f598 rfl rfl)).trans (zwr_r e580 (by first | decide | exact (absurd ·.1 (by decide)) | exact (absurd ·.2 (by decide)) | omega)))
                      have t622 : tok h592 := (tok_same (tok_same u284 (zfr_wf (zfr_r [26] [] h5) e580 rfl) rfl rfl rfl rfl) f598 rfl rfl rfl rfl)
                      unfold tok at t622
                      exact ih287  (x3 + 1) x4 h601 (by omega) (by omega) s603 f614 u604 (zAny_d (br := (x3 + 1)) (d := 1) (zAny_push (w := 12) (br := x3) u285 (by decide) (fun _ => by omega) (fun q => absurd q (by decide)) (fun q => absurd q (by decide)) (fun q => absurd q (by decide)) (zfr_wf (zfr_r [26] [] h5) e580 rfl) (fun _ => zwr_v e580) (fun q => absurd q (by decide)) (fun _ => rfl) (fun q => absurd rfl q) u595 u596 u597 f598 f606 (by omega)) rfl (by omega)) (by omega)
                    · exact absurd c582 (by omega)
                · refine zj_aload_n (zdk ttX11_readAny 23 rfl rfl) rfl (by decide) ?_
                  refine zj_iconst (zdk ttX11_readAny 24 rfl rfl) ?_
                  refine zj_callV (av := [.inl 3]) (st := []) (zdk ttX11_readAny 25 rfl rfl) mb_X11_errs mv_RX11_197 (ci := 11) rfl rfl (k_M s6) rfl rfl (Nat.le_of_ble_eq_true rfl) (s_X11_errs l h5 3 s6 (by omega)) (rm_ok (by decide) (by decide)) (zq_i fun v624 h625 q623 => ?_)
                  obtain ⟨b626, s627, f628⟩ := q623
                  have f629 : zfr [12, 13, 14, 15, 25, 26, 28, 29, 30] [14, 15, 16] h h625 := zfr_t f7 f628 rfl rfl
                  exact zj_iret rfl (zdk ttX11_readAny 26 rfl rfl) (Nat.le_refl _) (Nat.le_refl _) ⟨v624, rfl, by omega, s627, f629, (fun q => absurd q (by omega))⟩
        · refine zj_istore_n (L' := [some (.inr 0), some (.inl x3), some (.inl x4), some (.inl 1)]) (zdk ttX11_readAny 12 rfl rfl) (by decide) rfl ?_
          refine zj_iload_n (zdk ttX11_readAny 13 rfl rfl) rfl ?_
          refine zj_if_ne (t := 33) (zdk ttX11_readAny 14 rfl rfl) (by decide) (by decide) (fun c630 => ?_) (fun c630 => ?_)
          · refine zj_aload_n (zdk ttX11_readAny 19 rfl rfl) rfl (by decide) ?_
            refine zj_geti (v := (h5.2 0 26)) (zdk ttX11_readAny 20 rfl rfl) zf_RX11_223 rfl (k_M s6) rfl ?_
            refine zj_bipush (zdk ttX11_readAny 21 rfl rfl) (by decide) ?_
            refine zj_icmp_ne (t := 48) (zdk ttX11_readAny 22 rfl rfl) (by decide) (by omega) (by decide) (fun c631 => ?_) (fun c631 => ?_)
            · refine zj_aload_n (zdk ttX11_readAny 27 rfl rfl) rfl (by decide) ?_
              refine zj_aload_n (zdk ttX11_readAny 28 rfl rfl) rfl (by decide) ?_
              refine zj_geti (v := (h5.2 0 26)) (zdk ttX11_readAny 29 rfl rfl) zf_RX11_223 rfl (k_M s6) rfl ?_
              refine zj_iconst (zdk ttX11_readAny 30 rfl rfl) ?_
              refine zj_iadd (zdk ttX11_readAny 31 rfl rfl) ?_
              refine zj_puti (zdk ttX11_readAny 32 rfl rfl) zf_RX11_223 rfl (k_M s6) (Or.inl zw_RX11_223) (k2 := 26) rfl (fun h632 e633 => ?_)
              refine zj_iload_n (zdk ttX11_readAny 33 rfl rfl) rfl ?_
              refine zj_if_ne (t := 66) (zdk ttX11_readAny 34 rfl rfl) (by decide) (by decide) (fun c634 => ?_) (fun c634 => ?_)
              · refine zj_aload_n (zdk ttX11_readAny 39 rfl rfl) rfl (by decide) ?_
                refine zj_iload_n (zdk ttX11_readAny 40 rfl rfl) rfl ?_
                refine zj_if_eq (t := 76) (zdk ttX11_readAny 41 rfl rfl) (by decide) (by decide) (fun c635 => ?_) (fun c635 => ?_)
                · exact absurd c635 (by omega)
                · refine zj_bipush (zdk ttX11_readAny 42 rfl rfl) (by decide) ?_
                  refine zj_goto (t := 78) (zdk ttX11_readAny 43 rfl rfl) (by decide) ?_
                  have s636 : okM h632 := fwM_26 s6 e633 (by omega)
                  have b637 : h632.2 0 12 = (h5.2 0 12) := (zwr_r e633 (by first | decide | exact (absurd ·.1 (by decide)) | exact (absurd ·.2 (by decide)) | omega))
                  have b638 : h632.2 0 13 = (h5.2 0 13) := (zwr_r e633 (by first | decide | exact (absurd ·.1 (by decide)) | exact (absurd ·.2 (by decide)) | omega))
                  have b639 : h632.2 0 14 = (h5.2 0 14) := (zwr_r e633 (by first | decide | exact (absurd ·.1 (by decide)) | exact (absurd ·.2 (by decide)) | omega))
                  have b640 : h632.2 0 25 = (h5.2 0 25) := (zwr_r e633 (by first | decide | exact (absurd ·.1 (by decide)) | exact (absurd ·.2 (by decide)) | omega))
                  have b641 : h632.2 0 26 = ((h5.2 0 26) + 1) := (zwr_v e633)
                  have b642 : h632.2 0 28 = (h5.2 0 28) := (zwr_r e633 (by first | decide | exact (absurd ·.1 (by decide)) | exact (absurd ·.2 (by decide)) | omega))
                  refine zj_callV (av := [.inl 9]) (st := []) (zdk ttX11_readAny 45 rfl rfl) mb_X11_waits mv_RX11_229 (ci := 11) rfl rfl (k_M s636) rfl rfl (Nat.le_of_ble_eq_true rfl) (s_X11_waits l h632 9 s636 (by omega) (by omega)) (rm_ok (by decide) (by decide)) (zq_v fun h645 q643 => ?_)
                  obtain ⟨s647, f651, u648, u649, u650⟩ := q643
                  refine zj_aload_n (zdk ttX11_readAny 46 rfl rfl) rfl (by decide) ?_
                  refine zj_callV (av := []) (st := []) (zdk ttX11_readAny 47 rfl rfl) mb_X11_reads mv_RX11_204 (ci := 11) rfl rfl (k_M s647) rfl rfl (Nat.le_of_ble_eq_true rfl) (s_X11_reads l h645 s647) (rm_ok (by decide) (by decide)) (zq_v fun h654 q652 => ?_)
                  obtain ⟨s656, f659, u657, u658⟩ := q652
                  refine zj_goto (t := 9) (zdk ttX11_readAny 48 rfl rfl) (by decide) ?_
                  refine zj_kill (k := 3) (L' := [some (.inr 0), some (.inl x3), some (.inl x4), none]) rfl ?_
                  have b660 : 0 ≤ (h654.2 0 12) ∧ (h654.2 0 12) ≤ 400 := fM_12 s656
                  have b661 : 0 ≤ (h654.2 0 13) ∧ (h654.2 0 13) ≤ 400 := fM_13 s656
                  have b662 : 0 ≤ (h654.2 0 14) ∧ (h654.2 0 14) ≤ 4 := fM_14 s656
                  have b663 : h654.2 0 25 = (h5.2 0 25) := (((zfr_f f659 rfl rfl).trans (zfr_f f651 rfl rfl)).trans (zwr_r e633 (by first | decide | exact (absurd ·.1 (by decide)) | exact (absurd ·.2 (by decide)) | omega)))
                  have b664 : h654.2 0 26 = ((h5.2 0 26) + 1) := (((zfr_f f659 rfl rfl).trans (zfr_f f651 rfl rfl)).trans (zwr_v e633))
                  have b665 : h654.2 0 28 = (h645.2 0 28) := (zfr_f f659 rfl rfl)
                  have b666 : 0 ≤ (h645.2 0 28) ∧ (h645.2 0 28) ≤ 40 := fM_28 s647
                  have f669 : zfr [12, 13, 14, 15, 25, 26, 28, 29, 30] [14, 15, 16] h h632 := zfr_wf f7 e633 rfl
                  have f668 : zfr [12, 13, 14, 15, 25, 26, 28, 29, 30] [14, 15, 16] h h645 := zfr_t f669 f651 rfl rfl
                  have f667 : zfr [12, 13, 14, 15, 25, 26, 28, 29, 30] [14, 15, 16] h h654 := zfr_t f668 f659 rfl rfl
                  have b670 : h645.2 0 12 = (h5.2 0 12) := ((zfr_f f651 rfl rfl).trans (zwr_r e633 (by first | decide | exact (absurd ·.1 (by decide)) | exact (absurd ·.2 (by decide)) | omega)))
                  have b671 : h645.2 0 13 = (h5.2 0 13) := ((zfr_f f651 rfl rfl).trans (zwr_r e633 (by first | decide | exact (absurd ·.1 (by decide)) | exact (absurd ·.2 (by decide)) | omega)))
                  have b672 : h645.2 0 14 = (h5.2 0 14) := ((zfr_f f651 rfl rfl).trans (zwr_r e633 (by first | decide | exact (absurd ·.1 (by decide)) | exact (absurd ·.2 (by decide)) | omega)))
                  have b673 : h645.2 0 25 = (h5.2 0 25) := ((zfr_f f651 rfl rfl).trans (zwr_r e633 (by first | decide | exact (absurd ·.1 (by decide)) | exact (absurd ·.2 (by decide)) | omega)))
                  have b674 : h654.2 0 25 = (h5.2 0 25) := (((zfr_f f659 rfl rfl).trans (zfr_f f651 rfl rfl)).trans (zwr_r e633 (by first | decide | exact (absurd ·.1 (by decide)) | exact (absurd ·.2 (by decide)) | omega)))
                  have t675 : tok h645 := (tok_same (tok_same u284 (zfr_wf (zfr_r [26] [] h5) e633 rfl) rfl rfl rfl rfl) f651 rfl rfl rfl rfl)
                  unfold tok at t675
                  exact ih287  x3 x4 h654 (by omega) (by omega) s656 f667 u657 (zAny_d (br := x3) (d := 1) (zAny_push (w := 9) (br := x3) u285 (by decide) (fun _ => by omega) (fun q => absurd q (by decide)) (fun q => absurd q (by decide)) (fun q => absurd q (by decide)) (zfr_wf (zfr_r [26] [] h5) e633 rfl) (fun _ => zwr_v e633) (fun q => absurd q (by decide)) (fun q => absurd q (by decide)) (fun _ => rfl) u648 u649 u650 f651 f659 (by omega)) rfl (by omega)) (by omega)
              · exact absurd c634 (by omega)
            · refine zj_aload_n (zdk ttX11_readAny 23 rfl rfl) rfl (by decide) ?_
              refine zj_iconst (zdk ttX11_readAny 24 rfl rfl) ?_
              refine zj_callV (av := [.inl 3]) (st := []) (zdk ttX11_readAny 25 rfl rfl) mb_X11_errs mv_RX11_197 (ci := 11) rfl rfl (k_M s6) rfl rfl (Nat.le_of_ble_eq_true rfl) (s_X11_errs l h5 3 s6 (by omega)) (rm_ok (by decide) (by decide)) (zq_i fun v677 h678 q676 => ?_)
              obtain ⟨b679, s680, f681⟩ := q676
              have f682 : zfr [12, 13, 14, 15, 25, 26, 28, 29, 30] [14, 15, 16] h h678 := zfr_t f7 f681 rfl rfl
              exact zj_iret rfl (zdk ttX11_readAny 26 rfl rfl) (Nat.le_refl _) (Nat.le_refl _) ⟨v677, rfl, by omega, s680, f682, (fun q => absurd q (by omega))⟩
          · exact absurd c630 (by omega)
  have b683 : h1.2 0 12 = (h.2 0 12) := (zwr_r e2 (by first | decide | exact (absurd ·.1 (by decide)) | exact (absurd ·.2 (by decide)) | omega))
  have b684 : 0 ≤ (h.2 0 12) ∧ (h.2 0 12) ≤ 400 := fM_12 s0
  have b685 : h1.2 0 13 = (h.2 0 13) := (zwr_r e2 (by first | decide | exact (absurd ·.1 (by decide)) | exact (absurd ·.2 (by decide)) | omega))
  have b686 : 0 ≤ (h.2 0 13) ∧ (h.2 0 13) ≤ 400 := fM_13 s0
  have b687 : h1.2 0 14 = (h.2 0 14) := (zwr_r e2 (by first | decide | exact (absurd ·.1 (by decide)) | exact (absurd ·.2 (by decide)) | omega))
  have b688 : 0 ≤ (h.2 0 14) ∧ (h.2 0 14) ≤ 4 := fM_14 s0
  have b689 : h1.2 0 25 = (h.2 0 25) := (zwr_r e2 (by first | decide | exact (absurd ·.1 (by decide)) | exact (absurd ·.2 (by decide)) | omega))
  have b690 : 0 ≤ (h.2 0 25) ∧ (h.2 0 25) ≤ 400 := fM_25 s0
  have b691 : h1.2 0 26 = (h.2 0 26) := (zwr_r e2 (by first | decide | exact (absurd ·.1 (by decide)) | exact (absurd ·.2 (by decide)) | omega))
  have b692 : 0 ≤ (h.2 0 26) ∧ (h.2 0 26) ≤ 8 := fM_26 s0
  have b693 : h1.2 0 28 = 0 := (zwr_v e2)
  have s694 : okM h1 := fwM_28 s0 e2 (by omega)
  have f695 : zfr [12, 13, 14, 15, 25, 26, 28, 29, 30] [14, 15, 16] h h1 := zfr_wf (zfr_r _ _ _) e2 rfl
  exact lp281 _ 0 1 h1 (by omega) (by omega) s694 f695 (tok_same u_0 (zfr_wf (zfr_r [28] [] h) e2 rfl) rfl rfl rfl rfl) (zAny_0 e2) (Nat.lt_succ_self _)

abbrev tX11_readLaw : List (Nat × Instr × Nat) := [(0, .iconst 0, 1), (1, .istore_n 1, 1), (2, .aload_n 0, 1), (3, .invokevirtual 238, 3), (6, .ifCond .eq 122, 3), (9, .iload_n 1, 1), (10, .bipush 16, 2), (12, .if_icmp .ne 9, 3), (15, .aload_n 0, 1), (16, .iconst 3, 1), (17, .invokevirtual 197, 3), (20, .ireturn, 1), (21, .bipush 32, 2), (23, .iload_n 1, 1), (24, .iadd, 1), (25, .istore_n 2, 1), (26, .aload_n 0, 1), (27, .getfield 37, 3), (30, .iload_n 2, 1), (31, .aload_n 0, 1), (32, .getfield 169, 3), (35, .iastore, 1), (36, .aload_n 0, 1), (37, .invokevirtual 204, 3), (40, .aload_n 0, 1), (41, .getfield 40, 3), (44, .iload_n 2, 1), (45, .aload_n 0, 1), (46, .getfield 191, 3), (49, .iastore, 1), (50, .aload_n 0, 1), (51, .invokevirtual 217, 3), (54, .iconst (-1), 1), (55, .if_icmp .ne 5, 3), (58, .iconst (-1), 1), (59, .ireturn, 1), (60, .aload_n 0, 1), (61, .getfield 43, 3), (64, .iload_n 2, 1), (65, .aload_n 0, 1), (66, .getfield 191, 3), (69, .iastore, 1), (70, .aload_n 0, 1), (71, .iconst 3, 1), (72, .invokevirtual 226, 3), (75, .ifCond .eq 17, 3), (78, .aload_n 0, 1), (79, .invokevirtual 204, 3), (82, .aload_n 0, 1), (83, .invokevirtual 242, 3), (86, .iconst (-1), 1), (87, .if_icmp .ne 5, 3), (90, .iconst (-1), 1), (91, .ireturn, 1), (92, .aload_n 0, 1), (93, .getfield 46, 3), (96, .iload_n 2, 1), (97, .aload_n 0, 1), (98, .getfield 191, 3), (101, .iastore, 1), (102, .aload_n 0, 1), (103, .bipush 59, 2), (105, .invokevirtual 211, 3), (108, .ifCond .ne 9, 3), (111, .aload_n 0, 1), (112, .iconst 1, 1), (113, .invokevirtual 197, 3), (116, .ireturn, 1), (117, .aload_n 0, 1), (118, .invokevirtual 204, 3), (121, .iload_n 1, 1), (122, .iconst 1, 1), (123, .iadd, 1), (124, .istore_n 1, 1), (125, .goto (-123), 3), (128, .aload_n 0, 1), (129, .getfield 166, 3), (132, .ifCond .ne 7, 3), (135, .iload_n 1, 1), (136, .goto 8, 3), (139, .aload_n 0, 1), (140, .iconst 1, 1), (141, .invokevirtual 197, 3), (144, .ireturn, 1)]
theorem ttX11_readLaw : zdt cX11_readLaw tX11_readLaw = true := by decide +kernel
abbrev q_X11_readLaw (h : zM) : Option zV → zM → Prop := zqi fun v h' => ((-1) ≤ v ∧ v ≤ 16) ∧ okM h' ∧ zfr [12, 13, 14, 15, 25, 26, 28, 29, 30] [10, 11, 12, 13, 14, 15, 16] h h' ∧ (0 ≤ v → zLn h' v)
set_option maxRecDepth 100000 in
set_option maxHeartbeats 4000000 in
theorem s_X11_readLaw (l : Launch) (h : zM) (s0 : okM h) (u_0 : tok h) (u_1 : h.2 0 25 ≤ h.2 0 13) : zT shM l yX11_readLaw cX11_readLaw 3 (some .int) (rmL 9) 0 0 [.inr 0] h (q_X11_readLaw h) := by
  refine zT_of (by decide +kernel) (L0 := [some (.inr 0), none, none]) rfl (Nat.le_of_ble_eq_true rfl) ?_
  refine zj_iconst (zdk ttX11_readLaw 0 rfl rfl) ?_
  refine zj_istore_n (L' := [some (.inr 0), some (.inl 0), none]) (zdk ttX11_readLaw 1 rfl rfl) (by decide) rfl ?_
  have lp136 : ∀ (n2 : Nat) (x1 : Int) (h2 : zM), (0 ≤ x1 ∧ x1 ≤ 16) → okM h2 → zfr [12, 13, 14, 15, 25, 26, 28, 29, 30] [10, 11, 12, 13, 14, 15, 16] h h2 → (tok h2) → (h2.2 0 25 ≤ h2.2 0 13) → (zLn h2 x1) → (17 - x1).toNat < n2 → zJ shM l yX11_readLaw cX11_readLaw 3 (some .int) (rmL 9) 0 0 (q_X11_readLaw h) 0 0 2 [some (.inr 0), some (.inl x1), none] [] h2 := by
    intro n2
    induction n2 with
    | zero => intro x1 h2 b137 s3 f4 u138 u139 u140 m141; exact absurd m141 (Nat.not_lt_zero _)
    | succ n2 ih142 =>
      intro x1 h2 b137 s3 f4 u138 u139 u140 m141
      refine zj_aload_n (zdk ttX11_readLaw 2 rfl rfl) rfl (by decide) ?_
      refine zj_callV (av := []) (st := []) (zdk ttX11_readLaw 3 rfl rfl) mb_X11_isLineWord mv_RX11_238 (ci := 11) rfl rfl (k_M s3) rfl rfl (Nat.le_of_ble_eq_true rfl) (s_X11_isLineWord l h2 s3) (rm_ok (by decide) (by decide)) (zq_i fun v144 h145 q143 => ?_)
      obtain ⟨rfl, b147, b148, ⟨rfl, b146⟩ | ⟨rfl, b146⟩⟩ := q143
      · refine zj_if_eq (t := 128) (zdk ttX11_readLaw 4 rfl rfl) (by decide) (by decide) (fun c149 => ?_) (fun c149 => ?_)
        · refine zj_aload_n (zdk ttX11_readLaw 75 rfl rfl) rfl (by decide) ?_
          refine zj_geti (v := (h2.2 0 14)) (zdk ttX11_readLaw 76 rfl rfl) zf_RX11_166 rfl (k_M s3) rfl ?_
          refine zj_if_ne (t := 139) (zdk ttX11_readLaw 77 rfl rfl) (by decide) (by omega) (fun c150 => ?_) (fun c150 => ?_)
          · refine zj_aload_n (zdk ttX11_readLaw 80 rfl rfl) rfl (by decide) ?_
            refine zj_iconst (zdk ttX11_readLaw 81 rfl rfl) ?_
            refine zj_callV (av := [.inl 1]) (st := []) (zdk ttX11_readLaw 82 rfl rfl) mb_X11_errs mv_RX11_197 (ci := 11) rfl rfl (k_M s3) rfl rfl (Nat.le_of_ble_eq_true rfl) (s_X11_errs l h2 1 s3 (by omega)) (rm_ok (by decide) (by decide)) (zq_i fun v152 h153 q151 => ?_)
            obtain ⟨b154, s155, f156⟩ := q151
            have f157 : zfr [12, 13, 14, 15, 25, 26, 28, 29, 30] [10, 11, 12, 13, 14, 15, 16] h h153 := zfr_t f4 f156 rfl rfl
            exact zj_iret rfl (zdk ttX11_readLaw 83 rfl rfl) (Nat.le_refl _) (Nat.le_refl _) ⟨v152, rfl, by omega, s155, f157, (fun q => absurd q (by omega))⟩
          · refine zj_iload_n (zdk ttX11_readLaw 78 rfl rfl) rfl ?_
            refine zj_goto (t := 144) (zdk ttX11_readLaw 79 rfl rfl) (by decide) ?_
            exact zj_iret rfl (zdk ttX11_readLaw 83 rfl rfl) (Nat.le_refl _) (Nat.le_refl _) ⟨x1, rfl, by omega, s3, f4, (fun _ => u140)⟩
        · exact absurd c149 (by omega)
      · refine zj_if_eq (t := 128) (zdk ttX11_readLaw 4 rfl rfl) (by decide) (by decide) (fun c158 => ?_) (fun c158 => ?_)
        · exact absurd c158 (by omega)
        · refine zj_iload_n (zdk ttX11_readLaw 5 rfl rfl) rfl ?_
          refine zj_bipush (zdk ttX11_readLaw 6 rfl rfl) (by decide) ?_
          refine zj_icmp_ne (t := 21) (zdk ttX11_readLaw 7 rfl rfl) (by decide) (by omega) (by decide) (fun c159 => ?_) (fun c159 => ?_)
          · refine zj_bipush (zdk ttX11_readLaw 12 rfl rfl) (by decide) ?_
            refine zj_iload_n (zdk ttX11_readLaw 13 rfl rfl) rfl ?_
            refine zj_iadd (zdk ttX11_readLaw 14 rfl rfl) ?_
            refine zj_istore_n (L' := [some (.inr 0), some (.inl x1), some (.inl (32 + x1))]) (zdk ttX11_readLaw 15 rfl rfl) (by decide) rfl ?_
            refine zj_aload_n (zdk ttX11_readLaw 16 rfl rfl) rfl (by decide) ?_
            refine zj_getr (r := 10) (zdk ttX11_readLaw 17 rfl rfl) zf_RX11_37 rfl (k_M s3) (rfM_18 s3) ?_
            refine zj_iload_n (zdk ttX11_readLaw 18 rfl rfl) rfl ?_
            refine zj_aload_n (zdk ttX11_readLaw 19 rfl rfl) rfl (by decide) ?_
            refine zj_geti (v := (h2.2 0 15)) (zdk ttX11_readLaw 20 rfl rfl) zf_RX11_169 rfl (k_M s3) rfl ?_
            refine zj_iast (zdk ttX11_readLaw 21 rfl rfl) (kaM_10 s3) (by decide) (by omega) (fun h160 e161 => ?_)
            refine zj_aload_n (zdk ttX11_readLaw 22 rfl rfl) rfl (by decide) ?_
            have s162 : okM h160 := awM_10 s3 e161 (by omega) (by unfold nsp; omega)
            refine zj_callV (av := []) (st := []) (zdk ttX11_readLaw 23 rfl rfl) mb_X11_reads mv_RX11_204 (ci := 11) rfl rfl (k_M s162) rfl rfl (Nat.le_of_ble_eq_true rfl) (s_X11_reads l h160 s162) (rm_ok (by decide) (by decide)) (zq_v fun h165 q163 => ?_)
            obtain ⟨s167, f170, u168, u169⟩ := q163
            refine zj_aload_n (zdk ttX11_readLaw 24 rfl rfl) rfl (by decide) ?_
            refine zj_getr (r := 11) (zdk ttX11_readLaw 25 rfl rfl) zf_RX11_40 rfl (k_M s167) (rfM_19 s167) ?_
            refine zj_iload_n (zdk ttX11_readLaw 26 rfl rfl) rfl ?_
            refine zj_aload_n (zdk ttX11_readLaw 27 rfl rfl) rfl (by decide) ?_
            have b171 : 0 ≤ (h2.2 0 25) ∧ (h2.2 0 25) ≤ 400 := fM_25 s3
            refine zj_geti (v := (h2.2 0 25)) (zdk ttX11_readLaw 28 rfl rfl) zf_RX11_191 rfl (k_M s167) ((zfr_f f170 rfl rfl).trans (zwr_r e161 (by first | decide | exact (absurd ·.1 (by decide)) | exact (absurd ·.2 (by decide)) | omega))) ?_
            refine zj_iast (zdk ttX11_readLaw 29 rfl rfl) (kaM_11 s167) (by decide) (by omega) (fun h172 e173 => ?_)
            refine zj_aload_n (zdk ttX11_readLaw 30 rfl rfl) rfl (by decide) ?_
            have s174 : okM h172 := awM_11 s167 e173 (by omega) (by unfold nsp; omega)
            have r175B : rdB 0 h2 h160 := rdB_t (rdB_r h2) (rdB_st e161 (by decide)) (by omega)
            have b177 : h160.2 0 12 = (h2.2 0 12) := (zwr_r e161 (by first | decide | exact (absurd ·.1 (by decide)) | exact (absurd ·.2 (by decide)) | omega))
            have b178 : 0 ≤ (h2.2 0 12) ∧ (h2.2 0 12) ≤ 400 := fM_12 s3
            have b179 : h160.2 0 13 = (h2.2 0 13) := (zwr_r e161 (by first | decide | exact (absurd ·.1 (by decide)) | exact (absurd ·.2 (by decide)) | omega))
            have b180 : 0 ≤ (h2.2 0 13) ∧ (h2.2 0 13) ≤ 400 := fM_13 s3
            have b181 : h160.2 0 14 = (h2.2 0 14) := (zwr_r e161 (by first | decide | exact (absurd ·.1 (by decide)) | exact (absurd ·.2 (by decide)) | omega))
            have b182 : h160.2 0 25 = (h2.2 0 25) := (zwr_r e161 (by first | decide | exact (absurd ·.1 (by decide)) | exact (absurd ·.2 (by decide)) | omega))
            have b183 : 0 ≤ (h165.2 0 12) ∧ (h165.2 0 12) ≤ 400 := fM_12 s167
            have b184 : 0 ≤ (h165.2 0 13) ∧ (h165.2 0 13) ≤ 400 := fM_13 s167
            have b185 : 0 ≤ (h165.2 0 14) ∧ (h165.2 0 14) ≤ 4 := fM_14 s167
            have b186 : h165.2 0 25 = (h2.2 0 25) := ((zfr_f f170 rfl rfl).trans (zwr_r e161 (by first | decide | exact (absurd ·.1 (by decide)) | exact (absurd ·.2 (by decide)) | omega)))
            have t187 : tok h160 := (tok_st u138 e161 (by decide))
            unfold tok at t187
            have r176B : rdB 1 h2 h165 := rdB_t r175B (rdB_same (s := 1) f170 rfl (by omega)) (by omega)
            have r188B : rdB 1 h2 h172 := rdB_t r176B (rdB_st e173 (by decide)) (by omega)
            have b189 := r188B.2
            refine zj_callV (av := []) (st := []) (zdk ttX11_readLaw 31 rfl rfl) mb_X11_readSum mv_RX11_217 (ci := 11) rfl rfl (k_M s174) rfl rfl (Nat.le_of_ble_eq_true rfl) (s_X11_readSum l h172 s174 (tok_st u168 e173 (by decide)) (by omega)) (rm_ok (by decide) (by decide)) (zq_i fun v191 h192 q190 => ?_)
            obtain ⟨b193, s194, f196, u195⟩ := q190
            refine zj_iconst (zdk ttX11_readLaw 32 rfl rfl) ?_
            refine zj_icmp_ne (t := 60) (zdk ttX11_readLaw 33 rfl rfl) (by decide) (by omega) (by decide) (fun c197 => ?_) (fun c197 => ?_)
            · refine zj_aload_n (zdk ttX11_readLaw 36 rfl rfl) rfl (by decide) ?_
              refine zj_getr (r := 12) (zdk ttX11_readLaw 37 rfl rfl) zf_RX11_43 rfl (k_M s194) (rfM_20 s194) ?_
              refine zj_iload_n (zdk ttX11_readLaw 38 rfl rfl) rfl ?_
              refine zj_aload_n (zdk ttX11_readLaw 39 rfl rfl) rfl (by decide) ?_
              have b198 : 0 ≤ (h192.2 0 25) ∧ (h192.2 0 25) ≤ 400 := fM_25 s194
              refine zj_geti (v := (h192.2 0 25)) (zdk ttX11_readLaw 40 rfl rfl) zf_RX11_191 rfl (k_M s194) rfl ?_
              refine zj_iast (zdk ttX11_readLaw 41 rfl rfl) (kaM_12 s194) (by decide) (by omega) (fun h199 e200 => ?_)
              refine zj_aload_n (zdk ttX11_readLaw 42 rfl rfl) rfl (by decide) ?_
              refine zj_iconst (zdk ttX11_readLaw 43 rfl rfl) ?_
              have s201 : okM h199 := awM_12 s194 e200 (by omega) (by unfold nsp; omega)
              refine zj_callV (av := [.inl 3]) (st := []) (zdk ttX11_readLaw 44 rfl rfl) mb_X11_isWord mv_RX11_226 (ci := 11) rfl rfl (k_M s201) rfl rfl (Nat.le_of_ble_eq_true rfl) (s_X11_isWord l h199 3 s201 (by omega)) (rm_ok (by decide) (by decide)) (zq_i fun v203 h204 q202 => ?_)
              obtain ⟨rfl, b206, b207, ⟨rfl, b205⟩ | ⟨rfl, b205⟩⟩ := q202
              · refine zj_if_eq (t := 92) (zdk ttX11_readLaw 45 rfl rfl) (by decide) (by decide) (fun c208 => ?_) (fun c208 => ?_)
                · refine zj_aload_n (zdk ttX11_readLaw 54 rfl rfl) rfl (by decide) ?_
                  refine zj_getr (r := 13) (zdk ttX11_readLaw 55 rfl rfl) zf_RX11_46 rfl (k_M s201) (rfM_21 s201) ?_
                  refine zj_iload_n (zdk ttX11_readLaw 56 rfl rfl) rfl ?_
                  refine zj_aload_n (zdk ttX11_readLaw 57 rfl rfl) rfl (by decide) ?_
                  refine zj_geti (v := (h192.2 0 25)) (zdk ttX11_readLaw 58 rfl rfl) zf_RX11_191 rfl (k_M s201) (zwr_r e200 (by first | decide | exact (absurd ·.1 (by decide)) | exact (absurd ·.2 (by decide)) | omega)) ?_
                  refine zj_iast (zdk ttX11_readLaw 59 rfl rfl) (kaM_13 s201) (by decide) (by omega) (fun h209 e210 => ?_)
                  refine zj_aload_n (zdk ttX11_readLaw 60 rfl rfl) rfl (by decide) ?_
                  refine zj_bipush (zdk ttX11_readLaw 61 rfl rfl) (by decide) ?_
                  have s211 : okM h209 := awM_13 s201 e210 (by omega) (by unfold nsp; omega)
                  refine zj_callV (av := [.inl 59]) (st := []) (zdk ttX11_readLaw 62 rfl rfl) mb_X11_isSign mv_RX11_211 (ci := 11) rfl rfl (k_M s211) rfl rfl (Nat.le_of_ble_eq_true rfl) (s_X11_isSign l h209 59 s211 (by omega)) (rm_ok (by decide) (by decide)) (zq_i fun v213 h214 q212 => ?_)
                  obtain ⟨rfl, b216, b217, ⟨rfl, b215⟩ | ⟨rfl, b215⟩⟩ := q212
                  · refine zj_if_ne (t := 117) (zdk ttX11_readLaw 63 rfl rfl) (by decide) (by decide) (fun c218 => ?_) (fun c218 => ?_)
                    · exact absurd c218 (by omega)
                    · refine zj_aload_n (zdk ttX11_readLaw 64 rfl rfl) rfl (by decide) ?_
                      refine zj_iconst (zdk ttX11_readLaw 65 rfl rfl) ?_
                      refine zj_callV (av := [.inl 1]) (st := []) (zdk ttX11_readLaw 66 rfl rfl) mb_X11_errs mv_RX11_197 (ci := 11) rfl rfl (k_M s211) rfl rfl (Nat.le_of_ble_eq_true rfl) (s_X11_errs l h209 1 s211 (by omega)) (rm_ok (by decide) (by decide)) (zq_i fun v220 h221 q219 => ?_)
                      obtain ⟨b222, s223, f224⟩ := q219
                      have f231 : zfr [12, 13, 14, 15, 25, 26, 28, 29, 30] [10, 11, 12, 13, 14, 15, 16] h h160 := zfr_wa f4 e161 rfl
                      have f230 : zfr [12, 13, 14, 15, 25, 26, 28, 29, 30] [10, 11, 12, 13, 14, 15, 16] h h165 := zfr_t f231 f170 rfl rfl
                      have f229 : zfr [12, 13, 14, 15, 25, 26, 28, 29, 30] [10, 11, 12, 13, 14, 15, 16] h h172 := zfr_wa f230 e173 rfl
                      have f228 : zfr [12, 13, 14, 15, 25, 26, 28, 29, 30] [10, 11, 12, 13, 14, 15, 16] h h192 := zfr_t f229 f196 rfl rfl
                      have f227 : zfr [12, 13, 14, 15, 25, 26, 28, 29, 30] [10, 11, 12, 13, 14, 15, 16] h h199 := zfr_wa f228 e200 rfl
                      have f226 : zfr [12, 13, 14, 15, 25, 26, 28, 29, 30] [10, 11, 12, 13, 14, 15, 16] h h209 := zfr_wa f227 e210 rfl
                      have f225 : zfr [12, 13, 14, 15, 25, 26, 28, 29, 30] [10, 11, 12, 13, 14, 15, 16] h h221 := zfr_t f226 f224 rfl rfl
                      exact zj_iret rfl (zdk ttX11_readLaw 67 rfl rfl) (Nat.le_refl _) (Nat.le_refl _) ⟨v220, rfl, by omega, s223, f225, (fun q => absurd q (by omega))⟩
                  · refine zj_if_ne (t := 117) (zdk ttX11_readLaw 63 rfl rfl) (by decide) (by decide) (fun c232 => ?_) (fun c232 => ?_)
                    · refine zj_aload_n (zdk ttX11_readLaw 68 rfl rfl) rfl (by decide) ?_
                      refine zj_callV (av := []) (st := []) (zdk ttX11_readLaw 69 rfl rfl) mb_X11_reads mv_RX11_204 (ci := 11) rfl rfl (k_M s211) rfl rfl (Nat.le_of_ble_eq_true rfl) (s_X11_reads l h209 s211) (rm_ok (by decide) (by decide)) (zq_v fun h235 q233 => ?_)
                      obtain ⟨s237, f240, u238, u239⟩ := q233
                      refine zj_iload_n (zdk ttX11_readLaw 70 rfl rfl) rfl ?_
                      refine zj_iconst (zdk ttX11_readLaw 71 rfl rfl) ?_
                      refine zj_iadd (zdk ttX11_readLaw 72 rfl rfl) ?_
                      refine zj_istore_n (L' := [some (.inr 0), some (.inl (x1 + 1)), some (.inl (32 + x1))]) (zdk ttX11_readLaw 73 rfl rfl) (by decide) rfl ?_
                      refine zj_goto (t := 2) (zdk ttX11_readLaw 74 rfl rfl) (by decide) ?_
                      refine zj_kill (k := 2) (L' := [some (.inr 0), some (.inl (x1 + 1)), none]) rfl ?_
                      have b241 : 0 ≤ (h235.2 0 12) ∧ (h235.2 0 12) ≤ 400 := fM_12 s237
                      have b242 : 0 ≤ (h235.2 0 13) ∧ (h235.2 0 13) ≤ 400 := fM_13 s237
                      have b243 : 0 ≤ (h235.2 0 14) ∧ (h235.2 0 14) ≤ 4 := fM_14 s237
                      have b244 : h235.2 0 25 = (h192.2 0 25) := (((zfr_f f240 rfl rfl).trans (zwr_r e210 (by first | decide | exact (absurd ·.1 (by decide)) | exact (absurd ·.2 (by decide)) | omega))).trans (zwr_r e200 (by first | decide | exact (absurd ·.1 (by decide)) | exact (absurd ·.2 (by decide)) | omega)))
                      have f251 : zfr [12, 13, 14, 15, 25, 26, 28, 29, 30] [10, 11, 12, 13, 14, 15, 16] h h160 := zfr_wa f4 e161 rfl
                      have f250 : zfr [12, 13, 14, 15, 25, 26, 28, 29, 30] [10, 11, 12, 13, 14, 15, 16] h h165 := zfr_t f251 f170 rfl rfl
                      have f249 : zfr [12, 13, 14, 15, 25, 26, 28, 29, 30] [10, 11, 12, 13, 14, 15, 16] h h172 := zfr_wa f250 e173 rfl
                      have f248 : zfr [12, 13, 14, 15, 25, 26, 28, 29, 30] [10, 11, 12, 13, 14, 15, 16] h h192 := zfr_t f249 f196 rfl rfl
                      have f247 : zfr [12, 13, 14, 15, 25, 26, 28, 29, 30] [10, 11, 12, 13, 14, 15, 16] h h199 := zfr_wa f248 e200 rfl
                      have f246 : zfr [12, 13, 14, 15, 25, 26, 28, 29, 30] [10, 11, 12, 13, 14, 15, 16] h h209 := zfr_wa f247 e210 rfl
                      have f245 : zfr [12, 13, 14, 15, 25, 26, 28, 29, 30] [10, 11, 12, 13, 14, 15, 16] h h235 := zfr_t f246 f240 rfl rfl
                      have r253 := u195 (by omega)
                      have r253b := r253.2.1.2
                      have r253t := r253.1
                      unfold tok at r253t
                      have r252B : rdB 1 h2 h192 := rdB_t r188B r253.2.1 (by omega)
                      have r254B : rdB 1 h2 h199 := rdB_t r252B (rdB_st e200 (by decide)) (by omega)
                      have r255B : rdB 1 h2 h209 := rdB_t r254B (rdB_st e210 (by decide)) (by omega)
                      have b257 : h209.2 0 12 = (h192.2 0 12) := ((zwr_r e210 (by first | decide | exact (absurd ·.1 (by decide)) | exact (absurd ·.2 (by decide)) | omega)).trans (zwr_r e200 (by first | decide | exact (absurd ·.1 (by decide)) | exact (absurd ·.2 (by decide)) | omega)))
                      have b258 : 0 ≤ (h192.2 0 12) ∧ (h192.2 0 12) ≤ 400 := fM_12 s194
                      have b259 : h209.2 0 13 = (h192.2 0 13) := ((zwr_r e210 (by first | decide | exact (absurd ·.1 (by decide)) | exact (absurd ·.2 (by decide)) | omega)).trans (zwr_r e200 (by first | decide | exact (absurd ·.1 (by decide)) | exact (absurd ·.2 (by decide)) | omega)))
                      have b260 : 0 ≤ (h192.2 0 13) ∧ (h192.2 0 13) ≤ 400 := fM_13 s194
                      have b261 : h209.2 0 14 = (h192.2 0 14) := ((zwr_r e210 (by first | decide | exact (absurd ·.1 (by decide)) | exact (absurd ·.2 (by decide)) | omega)).trans (zwr_r e200 (by first | decide | exact (absurd ·.1 (by decide)) | exact (absurd ·.2 (by decide)) | omega)))
                      have b262 : 0 ≤ (h192.2 0 14) ∧ (h192.2 0 14) ≤ 4 := fM_14 s194
                      have b263 : h209.2 0 25 = (h192.2 0 25) := ((zwr_r e210 (by first | decide | exact (absurd ·.1 (by decide)) | exact (absurd ·.2 (by decide)) | omega)).trans (zwr_r e200 (by first | decide | exact (absurd ·.1 (by decide)) | exact (absurd ·.2 (by decide)) | omega)))
                      have b264 : h235.2 0 25 = (h192.2 0 25) := (((zfr_f f240 rfl rfl).trans (zwr_r e210 (by first | decide | exact (absurd ·.1 (by decide)) | exact (absurd ·.2 (by decide)) | omega))).trans (zwr_r e200 (by first | decide | exact (absurd ·.1 (by decide)) | exact (absurd ·.2 (by decide)) | omega)))
                      have t265 : tok h209 := (tok_st (tok_st r253.1 e200 (by decide)) e210 (by decide))
                      unfold tok at t265
                      have r256B : rdB 2 h2 h235 := rdB_t r255B (rdB_same (s := 1) f240 rfl (by omega)) (by omega)
                      have b266 := r256B.2
                      have z267o : ∀ l, 0 ≤ l → l < x1 → h235.2 11 (32 + l) = h2.2 11 (32 + l) ∧ h235.2 12 (32 + l) = h2.2 12 (32 + l) ∧ h235.2 13 (32 + l) = h2.2 13 (32 + l) := fun l l1 l2 => ⟨(((((((zfr_a f240 rfl (by decide)).trans (zwr_r e210 (by first | decide | exact (absurd ·.1 (by decide)) | exact (absurd ·.2 (by decide)) | omega))).trans (zwr_r e200 (by first | decide | exact (absurd ·.1 (by decide)) | exact (absurd ·.2 (by decide)) | omega))).trans (zfr_a f196 rfl (by decide))).trans (zwr_r e173 (by first | decide | exact (absurd ·.1 (by decide)) | exact (absurd ·.2 (by decide)) | omega))).trans (zfr_a f170 rfl (by decide))).trans (zwr_r e161 (by first | decide | exact (absurd ·.1 (by decide)) | exact (absurd ·.2 (by decide)) | omega))), (((((((zfr_a f240 rfl (by decide)).trans (zwr_r e210 (by first | decide | exact (absurd ·.1 (by decide)) | exact (absurd ·.2 (by decide)) | omega))).trans (zwr_r e200 (by first | decide | exact (absurd ·.1 (by decide)) | exact (absurd ·.2 (by decide)) | omega))).trans (zfr_a f196 rfl (by decide))).trans (zwr_r e173 (by first | decide | exact (absurd ·.1 (by decide)) | exact (absurd ·.2 (by decide)) | omega))).trans (zfr_a f170 rfl (by decide))).trans (zwr_r e161 (by first | decide | exact (absurd ·.1 (by decide)) | exact (absurd ·.2 (by decide)) | omega))), (((((((zfr_a f240 rfl (by decide)).trans (zwr_r e210 (by first | decide | exact (absurd ·.1 (by decide)) | exact (absurd ·.2 (by decide)) | omega))).trans (zwr_r e200 (by first | decide | exact (absurd ·.1 (by decide)) | exact (absurd ·.2 (by decide)) | omega))).trans (zfr_a f196 rfl (by decide))).trans (zwr_r e173 (by first | decide | exact (absurd ·.1 (by decide)) | exact (absurd ·.2 (by decide)) | omega))).trans (zfr_a f170 rfl (by decide))).trans (zwr_r e161 (by first | decide | exact (absurd ·.1 (by decide)) | exact (absurd ·.2 (by decide)) | omega)))⟩
                      have r268B : rdB 0 h192 h199 := rdB_t (rdB_r h192) (rdB_st e200 (by decide)) (by omega)
                      have r269B : rdB 0 h192 h209 := rdB_t r268B (rdB_st e210 (by decide)) (by omega)
                      have r270B : rdB 1 h192 h235 := rdB_t r269B (rdB_same (s := 1) f240 rfl (by omega)) (by omega)
                      have b271 : h172.2 0 25 = (h2.2 0 25) := (((zwr_r e173 (by first | decide | exact (absurd ·.1 (by decide)) | exact (absurd ·.2 (by decide)) | omega)).trans (zfr_f f170 rfl rfl)).trans (zwr_r e161 (by first | decide | exact (absurd ·.1 (by decide)) | exact (absurd ·.2 (by decide)) | omega)))
                      have z2671 : wfS (dop h235) (dar h235) (h2.2 0 25) (h192.2 0 25) := Or.inr (by rw [show (h2.2 0 25) = h172.2 0 25 by omega, show (h192.2 0 25) = h192.2 0 25 by omega]; exact wfP_up r270B (by omega) (rdP_seg r253.2.2))
                      have z2672 : wfS (dop h235) (dar h235) (h192.2 0 25) (h192.2 0 25) := Or.inl (by omega)
                      have b272 := r270B.2
                      have b273 : h235.2 0 25 = (h192.2 0 25) := (((zfr_f f240 rfl rfl).trans (zwr_r e210 (by first | decide | exact (absurd ·.1 (by decide)) | exact (absurd ·.2 (by decide)) | omega))).trans (zwr_r e200 (by first | decide | exact (absurd ·.1 (by decide)) | exact (absurd ·.2 (by decide)) | omega)))
                      exact ih142  (x1 + 1) h235 (by omega) s237 f245 u238 (by omega) (zLn_s u140 r256B z267o (((((zfr_a f240 rfl (by decide)).trans (zwr_r e210 (by first | decide | exact (absurd ·.1 (by decide)) | exact (absurd ·.2 (by decide)) | omega))).trans (zwr_r e200 (by first | decide | exact (absurd ·.1 (by decide)) | exact (absurd ·.2 (by decide)) | omega))).trans (zfr_a f196 rfl (by decide))).trans (zwr_v e173)) (((zfr_a f240 rfl (by decide)).trans (zwr_r e210 (by first | decide | exact (absurd ·.1 (by decide)) | exact (absurd ·.2 (by decide)) | omega))).trans (zwr_v e200)) ((zfr_a f240 rfl (by decide)).trans (zwr_v e210)) z2671 z2672 (by omega)) (by omega)
                    · exact absurd c232 (by omega)
                · exact absurd c208 (by omega)
              · refine zj_if_eq (t := 92) (zdk ttX11_readLaw 45 rfl rfl) (by decide) (by decide) (fun c274 => ?_) (fun c274 => ?_)
                · exact absurd c274 (by omega)
                · refine zj_aload_n (zdk ttX11_readLaw 46 rfl rfl) rfl (by decide) ?_
                  refine zj_callV (av := []) (st := []) (zdk ttX11_readLaw 47 rfl rfl) mb_X11_reads mv_RX11_204 (ci := 11) rfl rfl (k_M s201) rfl rfl (Nat.le_of_ble_eq_true rfl) (s_X11_reads l h199 s201) (rm_ok (by decide) (by decide)) (zq_v fun h277 q275 => ?_)
                  obtain ⟨s279, f282, u280, u281⟩ := q275
                  refine zj_aload_n (zdk ttX11_readLaw 48 rfl rfl) rfl (by decide) ?_
                  have r284 := u195 (by omega)
                  have r284b := r284.2.1.2
                  have r284t := r284.1
                  unfold tok at r284t
                  have r283B : rdB 1 h2 h192 := rdB_t r188B r284.2.1 (by omega)
                  have r285B : rdB 1 h2 h199 := rdB_t r283B (rdB_st e200 (by decide)) (by omega)
                  have b287 : h199.2 0 12 = (h192.2 0 12) := (zwr_r e200 (by first | decide | exact (absurd ·.1 (by decide)) | exact (absurd ·.2 (by decide)) | omega))
                  have b288 : 0 ≤ (h192.2 0 12) ∧ (h192.2 0 12) ≤ 400 := fM_12 s194
                  have b289 : h199.2 0 13 = (h192.2 0 13) := (zwr_r e200 (by first | decide | exact (absurd ·.1 (by decide)) | exact (absurd ·.2 (by decide)) | omega))
                  have b290 : 0 ≤ (h192.2 0 13) ∧ (h192.2 0 13) ≤ 400 := fM_13 s194
                  have b291 : h199.2 0 14 = (h192.2 0 14) := (zwr_r e200 (by first | decide | exact (absurd ·.1 (by decide)) | exact (absurd ·.2 (by decide)) | omega))
                  have b292 : 0 ≤ (h192.2 0 14) ∧ (h192.2 0 14) ≤ 4 := fM_14 s194
                  have b293 : h199.2 0 25 = (h192.2 0 25) := (zwr_r e200 (by first | decide | exact (absurd ·.1 (by decide)) | exact (absurd ·.2 (by decide)) | omega))
                  have b294 : 0 ≤ (h277.2 0 12) ∧ (h277.2 0 12) ≤ 400 := fM_12 s279
                  have b295 : 0 ≤ (h277.2 0 13) ∧ (h277.2 0 13) ≤ 400 := fM_13 s279
                  have b296 : 0 ≤ (h277.2 0 14) ∧ (h277.2 0 14) ≤ 4 := fM_14 s279
                  have b297 : h277.2 0 25 = (h192.2 0 25) := ((zfr_f f282 rfl rfl).trans (zwr_r e200 (by first | decide | exact (absurd ·.1 (by decide)) | exact (absurd ·.2 (by decide)) | omega)))
                  have t298 : tok h199 := (tok_st r284.1 e200 (by decide))
                  unfold tok at t298
                  have r286B : rdB 2 h2 h277 := rdB_t r285B (rdB_same (s := 1) f282 rfl (by omega)) (by omega)
                  have b299 := r286B.2
                  refine zj_callV (av := []) (st := []) (zdk ttX11_readLaw 49 rfl rfl) mb_X11_readAny mv_RX11_242 (ci := 11) rfl rfl (k_M s279) rfl rfl (Nat.le_of_ble_eq_true rfl) (s_X11_readAny l h277 s279 u280 (by omega)) (rm_ok (by decide) (by decide)) (zq_i fun v301 h302 q300 => ?_)
                  obtain ⟨b303, s304, f306, u305⟩ := q300
                  refine zj_iconst (zdk ttX11_readLaw 50 rfl rfl) ?_
                  refine zj_icmp_ne (t := 92) (zdk ttX11_readLaw 51 rfl rfl) (by decide) (by omega) (by decide) (fun c307 => ?_) (fun c307 => ?_)
                  · refine zj_aload_n (zdk ttX11_readLaw 54 rfl rfl) rfl (by decide) ?_
                    refine zj_getr (r := 13) (zdk ttX11_readLaw 55 rfl rfl) zf_RX11_46 rfl (k_M s304) (rfM_21 s304) ?_
                    refine zj_iload_n (zdk ttX11_readLaw 56 rfl rfl) rfl ?_
                    refine zj_aload_n (zdk ttX11_readLaw 57 rfl rfl) rfl (by decide) ?_
                    have b308 : 0 ≤ (h302.2 0 25) ∧ (h302.2 0 25) ≤ 400 := fM_25 s304
                    refine zj_geti (v := (h302.2 0 25)) (zdk ttX11_readLaw 58 rfl rfl) zf_RX11_191 rfl (k_M s304) rfl ?_
                    refine zj_iast (zdk ttX11_readLaw 59 rfl rfl) (kaM_13 s304) (by decide) (by omega) (fun h309 e310 => ?_)
                    refine zj_aload_n (zdk ttX11_readLaw 60 rfl rfl) rfl (by decide) ?_
                    refine zj_bipush (zdk ttX11_readLaw 61 rfl rfl) (by decide) ?_
                    have s311 : okM h309 := awM_13 s304 e310 (by omega) (by unfold nsp; omega)
                    refine zj_callV (av := [.inl 59]) (st := []) (zdk ttX11_readLaw 62 rfl rfl) mb_X11_isSign mv_RX11_211 (ci := 11) rfl rfl (k_M s311) rfl rfl (Nat.le_of_ble_eq_true rfl) (s_X11_isSign l h309 59 s311 (by omega)) (rm_ok (by decide) (by decide)) (zq_i fun v313 h314 q312 => ?_)
                    obtain ⟨rfl, b316, b317, ⟨rfl, b315⟩ | ⟨rfl, b315⟩⟩ := q312
                    · refine zj_if_ne (t := 117) (zdk ttX11_readLaw 63 rfl rfl) (by decide) (by decide) (fun c318 => ?_) (fun c318 => ?_)
                      · exact absurd c318 (by omega)
                      · refine zj_aload_n (zdk ttX11_readLaw 64 rfl rfl) rfl (by decide) ?_
                        refine zj_iconst (zdk ttX11_readLaw 65 rfl rfl) ?_
                        refine zj_callV (av := [.inl 1]) (st := []) (zdk ttX11_readLaw 66 rfl rfl) mb_X11_errs mv_RX11_197 (ci := 11) rfl rfl (k_M s311) rfl rfl (Nat.le_of_ble_eq_true rfl) (s_X11_errs l h309 1 s311 (by omega)) (rm_ok (by decide) (by decide)) (zq_i fun v320 h321 q319 => ?_)
                        obtain ⟨b322, s323, f324⟩ := q319
                        have f333 : zfr [12, 13, 14, 15, 25, 26, 28, 29, 30] [10, 11, 12, 13, 14, 15, 16] h h160 := zfr_wa f4 e161 rfl
                        have f332 : zfr [12, 13, 14, 15, 25, 26, 28, 29, 30] [10, 11, 12, 13, 14, 15, 16] h h165 := zfr_t f333 f170 rfl rfl
                        have f331 : zfr [12, 13, 14, 15, 25, 26, 28, 29, 30] [10, 11, 12, 13, 14, 15, 16] h h172 := zfr_wa f332 e173 rfl
                        have f330 : zfr [12, 13, 14, 15, 25, 26, 28, 29, 30] [10, 11, 12, 13, 14, 15, 16] h h192 := zfr_t f331 f196 rfl rfl
                        have f329 : zfr [12, 13, 14, 15, 25, 26, 28, 29, 30] [10, 11, 12, 13, 14, 15, 16] h h199 := zfr_wa f330 e200 rfl
                        have f328 : zfr [12, 13, 14, 15, 25, 26, 28, 29, 30] [10, 11, 12, 13, 14, 15, 16] h h277 := zfr_t f329 f282 rfl rfl
                        have f327 : zfr [12, 13, 14, 15, 25, 26, 28, 29, 30] [10, 11, 12, 13, 14, 15, 16] h h302 := zfr_t f328 f306 rfl rfl
                        have f326 : zfr [12, 13, 14, 15, 25, 26, 28, 29, 30] [10, 11, 12, 13, 14, 15, 16] h h309 := zfr_wa f327 e310 rfl
                        have f325 : zfr [12, 13, 14, 15, 25, 26, 28, 29, 30] [10, 11, 12, 13, 14, 15, 16] h h321 := zfr_t f326 f324 rfl rfl
                        exact zj_iret rfl (zdk ttX11_readLaw 67 rfl rfl) (Nat.le_refl _) (Nat.le_refl _) ⟨v320, rfl, by omega, s323, f325, (fun q => absurd q (by omega))⟩
                    · refine zj_if_ne (t := 117) (zdk ttX11_readLaw 63 rfl rfl) (by decide) (by decide) (fun c334 => ?_) (fun c334 => ?_)
                      · refine zj_aload_n (zdk ttX11_readLaw 68 rfl rfl) rfl (by decide) ?_
                        refine zj_callV (av := []) (st := []) (zdk ttX11_readLaw 69 rfl rfl) mb_X11_reads mv_RX11_204 (ci := 11) rfl rfl (k_M s311) rfl rfl (Nat.le_of_ble_eq_true rfl) (s_X11_reads l h309 s311) (rm_ok (by decide) (by decide)) (zq_v fun h337 q335 => ?_)
                        obtain ⟨s339, f342, u340, u341⟩ := q335
                        refine zj_iload_n (zdk ttX11_readLaw 70 rfl rfl) rfl ?_
                        refine zj_iconst (zdk ttX11_readLaw 71 rfl rfl) ?_
                        refine zj_iadd (zdk ttX11_readLaw 72 rfl rfl) ?_
                        refine zj_istore_n (L' := [some (.inr 0), some (.inl (x1 + 1)), some (.inl (32 + x1))]) (zdk ttX11_readLaw 73 rfl rfl) (by decide) rfl ?_
                        refine zj_goto (t := 2) (zdk ttX11_readLaw 74 rfl rfl) (by decide) ?_
                        refine zj_kill (k := 2) (L' := [some (.inr 0), some (.inl (x1 + 1)), none]) rfl ?_
                        have b343 : 0 ≤ (h337.2 0 12) ∧ (h337.2 0 12) ≤ 400 := fM_12 s339
                        have b344 : 0 ≤ (h337.2 0 13) ∧ (h337.2 0 13) ≤ 400 := fM_13 s339
                        have b345 : 0 ≤ (h337.2 0 14) ∧ (h337.2 0 14) ≤ 4 := fM_14 s339
                        have b346 : h337.2 0 25 = (h302.2 0 25) := ((zfr_f f342 rfl rfl).trans (zwr_r e310 (by first | decide | exact (absurd ·.1 (by decide)) | exact (absurd ·.2 (by decide)) | omega)))
                        have f355 : zfr [12, 13, 14, 15, 25, 26, 28, 29, 30] [10, 11, 12, 13, 14, 15, 16] h h160 := zfr_wa f4 e161 rfl
                        have f354 : zfr [12, 13, 14, 15, 25, 26, 28, 29, 30] [10, 11, 12, 13, 14, 15, 16] h h165 := zfr_t f355 f170 rfl rfl
                        have f353 : zfr [12, 13, 14, 15, 25, 26, 28, 29, 30] [10, 11, 12, 13, 14, 15, 16] h h172 := zfr_wa f354 e173 rfl
                        have f352 : zfr [12, 13, 14, 15, 25, 26, 28, 29, 30] [10, 11, 12, 13, 14, 15, 16] h h192 := zfr_t f353 f196 rfl rfl
                        have f351 : zfr [12, 13, 14, 15, 25, 26, 28, 29, 30] [10, 11, 12, 13, 14, 15, 16] h h199 := zfr_wa f352 e200 rfl
                        have f350 : zfr [12, 13, 14, 15, 25, 26, 28, 29, 30] [10, 11, 12, 13, 14, 15, 16] h h277 := zfr_t f351 f282 rfl rfl
                        have f349 : zfr [12, 13, 14, 15, 25, 26, 28, 29, 30] [10, 11, 12, 13, 14, 15, 16] h h302 := zfr_t f350 f306 rfl rfl
                        have f348 : zfr [12, 13, 14, 15, 25, 26, 28, 29, 30] [10, 11, 12, 13, 14, 15, 16] h h309 := zfr_wa f349 e310 rfl
                        have f347 : zfr [12, 13, 14, 15, 25, 26, 28, 29, 30] [10, 11, 12, 13, 14, 15, 16] h h337 := zfr_t f348 f342 rfl rfl
                        have r357 := u305 (by omega)
                        have r357b := r357.2.1.2
                        have r357t := r357.1
                        unfold tok at r357t
                        have r356B : rdB 2 h2 h302 := rdB_t r286B r357.2.1 (by omega)
                        have r358B : rdB 2 h2 h309 := rdB_t r356B (rdB_st e310 (by decide)) (by omega)
                        have b360 : h309.2 0 12 = (h302.2 0 12) := (zwr_r e310 (by first | decide | exact (absurd ·.1 (by decide)) | exact (absurd ·.2 (by decide)) | omega))
                        have b361 : 0 ≤ (h302.2 0 12) ∧ (h302.2 0 12) ≤ 400 := fM_12 s304
                        have b362 : h309.2 0 13 = (h302.2 0 13) := (zwr_r e310 (by first | decide | exact (absurd ·.1 (by decide)) | exact (absurd ·.2 (by decide)) | omega))
                        have b363 : 0 ≤ (h302.2 0 13) ∧ (h302.2 0 13) ≤ 400 := fM_13 s304
                        have b364 : h309.2 0 14 = (h302.2 0 14) := (zwr_r e310 (by first | decide | exact (absurd ·.1 (by decide)) | exact (absurd ·.2 (by decide)) | omega))
                        have b365 : 0 ≤ (h302.2 0 14) ∧ (h302.2 0 14) ≤ 4 := fM_14 s304
                        have b366 : h309.2 0 25 = (h302.2 0 25) := (zwr_r e310 (by first | decide | exact (absurd ·.1 (by decide)) | exact (absurd ·.2 (by decide)) | omega))
                        have b367 : h337.2 0 25 = (h302.2 0 25) := ((zfr_f f342 rfl rfl).trans (zwr_r e310 (by first | decide | exact (absurd ·.1 (by decide)) | exact (absurd ·.2 (by decide)) | omega)))
                        have t368 : tok h309 := (tok_st r357.1 e310 (by decide))
                        unfold tok at t368
                        have r359B : rdB 3 h2 h337 := rdB_t r358B (rdB_same (s := 1) f342 rfl (by omega)) (by omega)
                        have b369 := r359B.2
                        have z370o : ∀ l, 0 ≤ l → l < x1 → h337.2 11 (32 + l) = h2.2 11 (32 + l) ∧ h337.2 12 (32 + l) = h2.2 12 (32 + l) ∧ h337.2 13 (32 + l) = h2.2 13 (32 + l) := fun l l1 l2 => ⟨(((((((((zfr_a f342 rfl (by decide)).trans (zwr_r e310 (by first | decide | exact (absurd ·.1 (by decide)) | exact (absurd ·.2 (by decide)) | omega))).trans (zfr_a f306 rfl (by decide))).trans (zfr_a f282 rfl (by decide))).trans (zwr_r e200 (by first | decide | exact (absurd ·.1 (by decide)) | exact (absurd ·.2 (by decide)) | omega))).trans (zfr_a f196 rfl (by decide))).trans (zwr_r e173 (by first | decide | exact (absurd ·.1 (by decide)) | exact (absurd ·.2 (by decide)) | omega))).trans (zfr_a f170 rfl (by decide))).trans (zwr_r e161 (by first | decide | exact (absurd ·.1 (by decide)) | exact (absurd ·.2 (by decide)) | omega))), (((((((((zfr_a f342 rfl (by decide)).trans (zwr_r e310 (by first | decide | exact (absurd ·.1 (by decide)) | exact (absurd ·.2 (by decide)) | omega))).trans (zfr_a f306 rfl (by decide))).trans (zfr_a f282 rfl (by decide))).trans (zwr_r e200 (by first | decide | exact (absurd ·.1 (by decide)) | exact (absurd ·.2 (by decide)) | omega))).trans (zfr_a f196 rfl (by decide))).trans (zwr_r e173 (by first | decide | exact (absurd ·.1 (by decide)) | exact (absurd ·.2 (by decide)) | omega))).trans (zfr_a f170 rfl (by decide))).trans (zwr_r e161 (by first | decide | exact (absurd ·.1 (by decide)) | exact (absurd ·.2 (by decide)) | omega))), (((((((((zfr_a f342 rfl (by decide)).trans (zwr_r e310 (by first | decide | exact (absurd ·.1 (by decide)) | exact (absurd ·.2 (by decide)) | omega))).trans (zfr_a f306 rfl (by decide))).trans (zfr_a f282 rfl (by decide))).trans (zwr_r e200 (by first | decide | exact (absurd ·.1 (by decide)) | exact (absurd ·.2 (by decide)) | omega))).trans (zfr_a f196 rfl (by decide))).trans (zwr_r e173 (by first | decide | exact (absurd ·.1 (by decide)) | exact (absurd ·.2 (by decide)) | omega))).trans (zfr_a f170 rfl (by decide))).trans (zwr_r e161 (by first | decide | exact (absurd ·.1 (by decide)) | exact (absurd ·.2 (by decide)) | omega)))⟩
                        have r371B : rdB 0 h192 h199 := rdB_t (rdB_r h192) (rdB_st e200 (by decide)) (by omega)
                        have r372B : rdB 1 h192 h277 := rdB_t r371B (rdB_same (s := 1) f282 rfl (by omega)) (by omega)
                        have r373B : rdB 1 h192 h302 := rdB_t r372B r357.2.1 (by omega)
                        have r374B : rdB 1 h192 h309 := rdB_t r373B (rdB_st e310 (by decide)) (by omega)
                        have r375B : rdB 2 h192 h337 := rdB_t r374B (rdB_same (s := 1) f342 rfl (by omega)) (by omega)
                        have b376 : h172.2 0 25 = (h2.2 0 25) := (((zwr_r e173 (by first | decide | exact (absurd ·.1 (by decide)) | exact (absurd ·.2 (by decide)) | omega)).trans (zfr_f f170 rfl rfl)).trans (zwr_r e161 (by first | decide | exact (absurd ·.1 (by decide)) | exact (absurd ·.2 (by decide)) | omega)))
                        have z3701 : wfS (dop h337) (dar h337) (h2.2 0 25) (h192.2 0 25) := Or.inr (by rw [show (h2.2 0 25) = h172.2 0 25 by omega, show (h192.2 0 25) = h192.2 0 25 by omega]; exact wfP_up r375B (by omega) (rdP_seg r284.2.2))
                        have r377B : rdB 0 h302 h309 := rdB_t (rdB_r h302) (rdB_st e310 (by decide)) (by omega)
                        have r378B : rdB 1 h302 h337 := rdB_t r377B (rdB_same (s := 1) f342 rfl (by omega)) (by omega)
                        have b379 : h277.2 0 25 = (h192.2 0 25) := ((zfr_f f282 rfl rfl).trans (zwr_r e200 (by first | decide | exact (absurd ·.1 (by decide)) | exact (absurd ·.2 (by decide)) | omega)))
                        have z3702 : wfS (dop h337) (dar h337) (h192.2 0 25) (h302.2 0 25) := Or.inr (by rw [show (h192.2 0 25) = h277.2 0 25 by omega, show (h302.2 0 25) = h302.2 0 25 by omega]; exact wfP_up r378B (by omega) (rdP_seg r357.2.2))
                        have b380 := r378B.2
                        have b381 : h337.2 0 25 = (h302.2 0 25) := ((zfr_f f342 rfl rfl).trans (zwr_r e310 (by first | decide | exact (absurd ·.1 (by decide)) | exact (absurd ·.2 (by decide)) | omega)))
                        exact ih142  (x1 + 1) h337 (by omega) s339 f347 u340 (by omega) (zLn_s u140 r359B z370o (((((((zfr_a f342 rfl (by decide)).trans (zwr_r e310 (by first | decide | exact (absurd ·.1 (by decide)) | exact (absurd ·.2 (by decide)) | omega))).trans (zfr_a f306 rfl (by decide))).trans (zfr_a f282 rfl (by decide))).trans (zwr_r e200 (by first | decide | exact (absurd ·.1 (by decide)) | exact (absurd ·.2 (by decide)) | omega))).trans (zfr_a f196 rfl (by decide))).trans (zwr_v e173)) (((((zfr_a f342 rfl (by decide)).trans (zwr_r e310 (by first | decide | exact (absurd ·.1 (by decide)) | exact (absurd ·.2 (by decide)) | omega))).trans (zfr_a f306 rfl (by decide))).trans (zfr_a f282 rfl (by decide))).trans (zwr_v e200)) ((zfr_a f342 rfl (by decide)).trans (zwr_v e310)) z3701 z3702 (by omega)) (by omega)
                      · exact absurd c334 (by omega)
                  · refine zj_iconst (zdk ttX11_readLaw 52 rfl rfl) ?_
                    have f388 : zfr [12, 13, 14, 15, 25, 26, 28, 29, 30] [10, 11, 12, 13, 14, 15, 16] h h160 := zfr_wa f4 e161 rfl
                    have f387 : zfr [12, 13, 14, 15, 25, 26, 28, 29, 30] [10, 11, 12, 13, 14, 15, 16] h h165 := zfr_t f388 f170 rfl rfl
                    have f386 : zfr [12, 13, 14, 15, 25, 26, 28, 29, 30] [10, 11, 12, 13, 14, 15, 16] h h172 := zfr_wa f387 e173 rfl
                    have f385 : zfr [12, 13, 14, 15, 25, 26, 28, 29, 30] [10, 11, 12, 13, 14, 15, 16] h h192 := zfr_t f386 f196 rfl rfl
                    have f384 : zfr [12, 13, 14, 15, 25, 26, 28, 29, 30] [10, 11, 12, 13, 14, 15, 16] h h199 := zfr_wa f385 e200 rfl
                    have f383 : zfr [12, 13, 14, 15, 25, 26, 28, 29, 30] [10, 11, 12, 13, 14, 15, 16] h h277 := zfr_t f384 f282 rfl rfl
                    have f382 : zfr [12, 13, 14, 15, 25, 26, 28, 29, 30] [10, 11, 12, 13, 14, 15, 16] h h302 := zfr_t f383 f306 rfl rfl
                    exact zj_iret rfl (zdk ttX11_readLaw 53 rfl rfl) (Nat.le_refl _) (Nat.le_refl _) ⟨(-1), rfl, by omega, s304, f382, (fun q => absurd q (by omega))⟩
            · refine zj_iconst (zdk ttX11_readLaw 34 rfl rfl) ?_
              have f392 : zfr [12, 13, 14, 15, 25, 26, 28, 29, 30] [10, 11, 12, 13, 14, 15, 16] h h160 := zfr_wa f4 e161 rfl
              have f391 : zfr [12, 13, 14, 15, 25, 26, 28, 29, 30] [10, 11, 12, 13, 14, 15, 16] h h165 := zfr_t f392 f170 rfl rfl
              have f390 : zfr [12, 13, 14, 15, 25, 26, 28, 29, 30] [10, 11, 12, 13, 14, 15, 16] h h172 := zfr_wa f391 e173 rfl
              have f389 : zfr [12, 13, 14, 15, 25, 26, 28, 29, 30] [10, 11, 12, 13, 14, 15, 16] h h192 := zfr_t f390 f196 rfl rfl
              exact zj_iret rfl (zdk ttX11_readLaw 35 rfl rfl) (Nat.le_refl _) (Nat.le_refl _) ⟨(-1), rfl, by omega, s194, f389, (fun q => absurd q (by omega))⟩
          · refine zj_aload_n (zdk ttX11_readLaw 8 rfl rfl) rfl (by decide) ?_
            refine zj_iconst (zdk ttX11_readLaw 9 rfl rfl) ?_
            refine zj_callV (av := [.inl 3]) (st := []) (zdk ttX11_readLaw 10 rfl rfl) mb_X11_errs mv_RX11_197 (ci := 11) rfl rfl (k_M s3) rfl rfl (Nat.le_of_ble_eq_true rfl) (s_X11_errs l h2 3 s3 (by omega)) (rm_ok (by decide) (by decide)) (zq_i fun v394 h395 q393 => ?_)
            obtain ⟨b396, s397, f398⟩ := q393
            have f399 : zfr [12, 13, 14, 15, 25, 26, 28, 29, 30] [10, 11, 12, 13, 14, 15, 16] h h395 := zfr_t f4 f398 rfl rfl
            exact zj_iret rfl (zdk ttX11_readLaw 11 rfl rfl) (Nat.le_refl _) (Nat.le_refl _) ⟨v394, rfl, by omega, s397, f399, (fun q => absurd q (by omega))⟩
  have b400 : 0 ≤ (h.2 0 12) ∧ (h.2 0 12) ≤ 400 := fM_12 s0
  have b401 : 0 ≤ (h.2 0 13) ∧ (h.2 0 13) ≤ 400 := fM_13 s0
  have b402 : 0 ≤ (h.2 0 14) ∧ (h.2 0 14) ≤ 4 := fM_14 s0
  have b403 : 0 ≤ (h.2 0 25) ∧ (h.2 0 25) ≤ 400 := fM_25 s0
  exact lp136 _ 0 h (by omega) s0 (zfr_r _ _ _) u_0 u_1 (fun l q1 q2 => absurd q1 (by omega)) (Nat.lt_succ_self _)
