abbrev q2_X11_readKin (h : zM) : Option zV → zM → Prop := zqi fun v h' => ((-1) ≤ v ∧ v ≤ 0) ∧ okM h' ∧ zfr [12, 13, 14, 15, 29, 30] [19] h h' ∧ (∀ i, i < 18 → h'.2 19 i = h.2 19 i) ∧ (∀ T j, tPm 4 T j h → T j = 200 → (v = 0 → ∃ j9 a9 b9, tPm 4 T j9 h' ∧ (j < j9 ∧ ∀ d, (∀ i, 0 ≤ i → i < 18 → h.2 19 (18 + i) = tKs d i) → ∀ i, 0 ≤ i → i < 18 → h'.2 19 (18 + i) = tKs (b9 :: a9 :: d) i) ∧ ∀ (p9 : Int) w9 s9 c9 d9, w9 < 16 → tRe T (h.2 0 6) (40, j, w9, s9, c9, d9) (40, j9, w9 + 1, [], c9, b9 :: a9 :: d9)) ∧ (v = -1 → ∃ i9 f9, tEp h h' i9 f9 ∧ ∀ (p9 : Int) w9 s9 c9 d9, w9 < 16 → tRe T (h.2 0 6) (40, j, w9, s9, c9, d9) (tEr i9 f9)))
set_option maxRecDepth 100000 in
set_option maxHeartbeats 4000000 in
theorem s2_X11_readKin (l : Launch) (h : zM) (s0 : okM h) : zT shM l yX11_readKin cX11_readKin 3 (some .int) (rmL 6) 0 0 [.inr 0] h (q2_X11_readKin h) := by
  refine zT_of (by decide +kernel) (L0 := [some (.inr 0), none, none]) rfl (Nat.le_of_ble_eq_true rfl) ?_
  refine zj_aload_n (zdk ttX11_readKin 0 rfl rfl) rfl (by decide) ?_
  refine zj_bipush (zdk ttX11_readKin 1 rfl rfl) (by decide) ?_
  refine zj_iconst (zdk ttX11_readKin 2 rfl rfl) ?_
  refine zj_aload_n (zdk ttX11_readKin 3 rfl rfl) rfl (by decide) ?_
  have b1 : 0 ≤ (h.2 0 6) ∧ (h.2 0 6) ≤ 18 := fM_6 s0
  refine zj_geti (v := (h.2 0 6)) (zdk ttX11_readKin 4 rfl rfl) zf_RX11_132 rfl (k_M s0) rfl ?_
  refine zj_iconst (zdk ttX11_readKin 5 rfl rfl) ?_
  refine zj_isub (zdk ttX11_readKin 6 rfl rfl) ?_
  refine zj_callV (av := [.inl 22, .inl 0, .inl ((h.2 0 6) - 1)]) (st := []) (zdk ttX11_readKin 7 rfl rfl) mb_X11_readTold mv_RX11_251 (ci := 11) rfl rfl (k_M s0) rfl rfl (Nat.le_of_ble_eq_true rfl) (s2_X11_readTold l h 22 0 ((h.2 0 6) - 1) s0 (by omega) (by omega) (by omega)) (rm_ok (by decide) (by decide)) (zq_i fun v3 h4 q2 => ?_)
  obtain ⟨b5, s6, f9, u7, u8⟩ := q2
  have b10 : -1 ≤ v3 ∧ v3 ≤ 17 := by omega
  refine zj_istore_n (L' := [some (.inr 0), some (.inl v3), none]) (zdk ttX11_readKin 8 rfl rfl) (by decide) rfl ?_
  refine zj_iload_n (zdk ttX11_readKin 9 rfl rfl) rfl ?_
  refine zj_iconst (zdk ttX11_readKin 10 rfl rfl) ?_
  refine zj_icmp_ne (t := 21) (zdk ttX11_readKin 11 rfl rfl) (by decide) (by omega) (by decide) (fun c11 => ?_) (fun c11 => ?_)
  · refine zj_aload_n (zdk ttX11_readKin 14 rfl rfl) rfl (by decide) ?_
    refine zj_bipush (zdk ttX11_readKin 15 rfl rfl) (by decide) ?_
    refine zj_callV (av := [.inl 15]) (st := []) (zdk ttX11_readKin 16 rfl rfl) mb_X11_isWord mv_RX11_226 (ci := 11) rfl rfl (k_M s6) rfl rfl (Nat.le_of_ble_eq_true rfl) (s_X11_isWord l h4 15 s6 (by omega)) (rm_ok (by decide) (by decide)) (zq_i fun v13 h14 q12 => ?_)
    obtain ⟨rfl, b16, b17, ⟨rfl, b15⟩ | ⟨rfl, b15⟩⟩ := q12
    · refine zj_if_ne (t := 36) (zdk ttX11_readKin 17 rfl rfl) (by decide) (by decide) (fun c18 => ?_) (fun c18 => ?_)
      · exact absurd c18 (by omega)
      · refine zj_aload_n (zdk ttX11_readKin 18 rfl rfl) rfl (by decide) ?_
        refine zj_iconst (zdk ttX11_readKin 19 rfl rfl) ?_
        refine zj_callV (av := [.inl 1]) (st := []) (zdk ttX11_readKin 20 rfl rfl) mb_X11_errs mv_RX11_197 (ci := 11) rfl rfl (k_M s6) rfl rfl (Nat.le_of_ble_eq_true rfl) (s2_X11_errs l h4 1 s6 (by omega)) (rm_ok (by decide) (by decide)) (zq_i fun v20 h21 q19 => ?_)
        obtain ⟨b22, s23, f25, u24⟩ := q19
        have f27 : zfr [12, 13, 14, 15, 29, 30] [19] h h4 := zfr_t (zfr_r _ _ _) f9 rfl rfl
        have f26 : zfr [12, 13, 14, 15, 29, 30] [19] h h21 := zfr_t f27 f25 rfl rfl
        have b28 : 0 ≤ (h.2 0 14) ∧ (h.2 0 14) ≤ 4 := fM_14 s0
        have b29 : -2147483648 ≤ (h.2 0 15) ∧ (h.2 0 15) ≤ 2147483647 := fM_15 s0
        have b30 : h21.2 0 14 = (h4.2 0 14) := (zfr_f f25 rfl rfl)
        have b31 : h21.2 0 15 = (h4.2 0 15) := (zfr_f f25 rfl rfl)
        exact zj_iret rfl (zdk ttX11_readKin 21 rfl rfl) (Nat.le_refl _) (Nat.le_refl _) ⟨v20, rfl, by omega, s23, f26, (fun i i9 => ((zfr_a f25 rfl (by decide)).trans (zfr_a f9 rfl (by decide)))), (by intro T j t0 yh9; have e_1 := u8 4 T j 200 t0 (fun t v q => by have k9 := tT4 q; omega) (by decide); have e_1y := e_1.1 (by omega); have e_1d := e_1y.2.1; have k_2 := tT4 e_1y.2.2.2.2.1; have k_2j := e_1y.2.2.1.1; have e_3 : tEp h h21 (j + 1 + 1) 1 := ⟨u24.1, e_1y.2.2.1.1, by have q9 := e_1y.2.2.2.1; rw [show h4.2 7 = h.2 7 from funext fun i9 => (zfr_a f9 rfl (by decide)), show h4.2 0 11 = h.2 0 11 from (zfr_f f9 rfl rfl)] at q9; rw [u24.2]; exact q9⟩; exact ⟨fun z => absurd z (by omega), fun _ => ⟨(j + 1 + 1), _, e_3, fun p9 w9 s9 c9 d9 w8 => tRe_s (tRe_s (tRe_1 (tMl_l (Or.inr (Or.inr rfl)) yh9 w8)) (tM41_y rfl (by omega))) (tM42_n (by omega))⟩⟩)⟩
    · refine zj_if_ne (t := 36) (zdk ttX11_readKin 17 rfl rfl) (by decide) (by decide) (fun c32 => ?_) (fun c32 => ?_)
      · refine zj_aload_n (zdk ttX11_readKin 22 rfl rfl) rfl (by decide) ?_
        refine zj_callV (av := []) (st := []) (zdk ttX11_readKin 23 rfl rfl) mb_X11_reads mv_RX11_204 (ci := 11) rfl rfl (k_M s6) rfl rfl (Nat.le_of_ble_eq_true rfl) (s2_X11_reads l h4 s6) (rm_ok (by decide) (by decide)) (zq_v fun h35 q33 => ?_)
        obtain ⟨s37, f41, u38, u39, u40⟩ := q33
        refine zj_aload_n (zdk ttX11_readKin 24 rfl rfl) rfl (by decide) ?_
        have b42 : 0 ≤ (h35.2 0 14) ∧ (h35.2 0 14) ≤ 4 := fM_14 s37
        refine zj_geti (v := (h35.2 0 14)) (zdk ttX11_readKin 25 rfl rfl) zf_RX11_166 rfl (k_M s37) rfl ?_
        refine zj_iconst (zdk ttX11_readKin 26 rfl rfl) ?_
        refine zj_icmp_ne (t := 62) (zdk ttX11_readKin 27 rfl rfl) (by decide) (by omega) (by decide) (fun c43 => ?_) (fun c43 => ?_)
        · refine zj_aload_n (zdk ttX11_readKin 36 rfl rfl) rfl (by decide) ?_
          refine zj_iconst (zdk ttX11_readKin 37 rfl rfl) ?_
          refine zj_aload_n (zdk ttX11_readKin 38 rfl rfl) rfl (by decide) ?_
          refine zj_geti (v := (h.2 0 6)) (zdk ttX11_readKin 39 rfl rfl) zf_RX11_132 rfl (k_M s37) ((zfr_f f41 rfl rfl).trans (zfr_f f9 rfl rfl)) ?_
          refine zj_iconst (zdk ttX11_readKin 40 rfl rfl) ?_
          refine zj_isub (zdk ttX11_readKin 41 rfl rfl) ?_
          refine zj_callV (av := [.inl 0, .inl ((h.2 0 6) - 1)]) (st := []) (zdk ttX11_readKin 42 rfl rfl) mb_X11_readNumber mv_RX11_248 (ci := 11) rfl rfl (k_M s37) rfl rfl (Nat.le_of_ble_eq_true rfl) (s2_X11_readNumber l h35 0 ((h.2 0 6) - 1) s37 (by omega) (by omega)) (rm_ok (by decide) (by decide)) (zq_i fun v45 h46 q44 => ?_)
          obtain ⟨b47, s48, f51, u49, u50⟩ := q44
          have b52 : -1 ≤ v45 ∧ v45 ≤ 17 := by omega
          refine zj_istore_n (L' := [some (.inr 0), some (.inl v3), some (.inl v45)]) (zdk ttX11_readKin 43 rfl rfl) (by decide) rfl ?_
          refine zj_iload_n (zdk ttX11_readKin 44 rfl rfl) rfl ?_
          refine zj_iconst (zdk ttX11_readKin 45 rfl rfl) ?_
          refine zj_icmp_ne (t := 81) (zdk ttX11_readKin 46 rfl rfl) (by decide) (by omega) (by decide) (fun c53 => ?_) (fun c53 => ?_)
          · refine zj_aload_n (zdk ttX11_readKin 49 rfl rfl) rfl (by decide) ?_
            refine zj_getr (r := 19) (zdk ttX11_readKin 50 rfl rfl) zf_RX11_68 rfl (k_M s48) (rfM_38 s48) ?_
            refine zj_bipush (zdk ttX11_readKin 51 rfl rfl) (by decide) ?_
            refine zj_iload_n (zdk ttX11_readKin 52 rfl rfl) rfl ?_
            refine zj_iadd (zdk ttX11_readKin 53 rfl rfl) ?_
            refine zj_aload_n (zdk ttX11_readKin 54 rfl rfl) rfl (by decide) ?_
            refine zj_getr (r := 19) (zdk ttX11_readKin 55 rfl rfl) zf_RX11_68 rfl (k_M s48) (rfM_38 s48) ?_
            refine zj_bipush (zdk ttX11_readKin 56 rfl rfl) (by decide) ?_
            refine zj_iload_n (zdk ttX11_readKin 57 rfl rfl) rfl ?_
            refine zj_iadd (zdk ttX11_readKin 58 rfl rfl) ?_
            have b54 : -2147483648 ≤ (h.2 19 (18 + v3)) ∧ (h.2 19 (18 + v3)) ≤ 2147483647 := abM_19 s0 (18 + v3)
            refine zj_iald (v := (h.2 19 (18 + v3))) (zdk ttX11_readKin 59 rfl rfl) (kaM_19 s48) (by decide) (by omega) (((zfr_a f51 rfl (by decide)).trans (zfr_a f41 rfl (by decide))).trans (zfr_a f9 rfl (by decide))) ?_
            refine zj_iconst (zdk ttX11_readKin 60 rfl rfl) ?_
            refine zj_iload_n (zdk ttX11_readKin 61 rfl rfl) rfl ?_
            refine zj_ishl (zdk ttX11_readKin 62 rfl rfl) ?_
            have b55 := zshl_1 (n := v45) (a := 0) (b := 17) (lo := 1) (hi := 131072) (by omega) (by decide) (by decide) (by decide)
            refine zj_ior (zdk ttX11_readKin 63 rfl rfl) ?_
            have b56 := zor_in (h.2 19 (18 + v3)) (zshl 1 v45)
            refine zj_iast (zdk ttX11_readKin 64 rfl rfl) (kaM_19 s48) (by decide) (by omega) (fun h57 e58 => ?_)
            refine zj_aload_n (zdk ttX11_readKin 65 rfl rfl) rfl (by decide) ?_
            have s59 : okM h57 := awM_19 s48 e58 (by omega) (by unfold nsp; omega)
            refine zj_getr (r := 19) (zdk ttX11_readKin 66 rfl rfl) zf_RX11_68 rfl (k_M s59) (rfM_38 s59) ?_
            refine zj_bipush (zdk ttX11_readKin 67 rfl rfl) (by decide) ?_
            refine zj_iload_n (zdk ttX11_readKin 68 rfl rfl) rfl ?_
            refine zj_iadd (zdk ttX11_readKin 69 rfl rfl) ?_
            refine zj_aload_n (zdk ttX11_readKin 70 rfl rfl) rfl (by decide) ?_
            refine zj_getr (r := 19) (zdk ttX11_readKin 71 rfl rfl) zf_RX11_68 rfl (k_M s59) (rfM_38 s59) ?_
            refine zj_bipush (zdk ttX11_readKin 72 rfl rfl) (by decide) ?_
            refine zj_iload_n (zdk ttX11_readKin 73 rfl rfl) rfl ?_
            refine zj_iadd (zdk ttX11_readKin 74 rfl rfl) ?_
            have b60 : -2147483648 ≤ (h57.2 19 (18 + v45)) ∧ (h57.2 19 (18 + v45)) ≤ 2147483647 := abM_19 s59 (18 + v45)
            refine zj_iald (v := (h57.2 19 (18 + v45))) (zdk ttX11_readKin 75 rfl rfl) (kaM_19 s59) (by decide) (by omega) rfl ?_
            refine zj_iconst (zdk ttX11_readKin 76 rfl rfl) ?_
            refine zj_iload_n (zdk ttX11_readKin 77 rfl rfl) rfl ?_
            refine zj_ishl (zdk ttX11_readKin 78 rfl rfl) ?_
            have b61 := zshl_1 (n := v3) (a := 0) (b := 17) (lo := 1) (hi := 131072) (by omega) (by decide) (by decide) (by decide)
            refine zj_ior (zdk ttX11_readKin 79 rfl rfl) ?_
            have b62 := zor_in (h57.2 19 (18 + v45)) (zshl 1 v3)
            refine zj_iast (zdk ttX11_readKin 80 rfl rfl) (kaM_19 s59) (by decide) (by omega) (fun h63 e64 => ?_)
            refine zj_aload_n (zdk ttX11_readKin 81 rfl rfl) rfl (by decide) ?_
            refine zj_bipush (zdk ttX11_readKin 82 rfl rfl) (by decide) ?_
            have s65 : okM h63 := awM_19 s59 e64 (by omega) (by unfold nsp; omega)
            refine zj_callV (av := [.inl 59]) (st := []) (zdk ttX11_readKin 83 rfl rfl) mb_X11_readMark mv_RX11_255 (ci := 11) rfl rfl (k_M s65) rfl rfl (Nat.le_of_ble_eq_true rfl) (s2_X11_readMark l h63 59 s65 (by omega)) (rm_ok (by decide) (by decide)) (zq_i fun v67 h68 q66 => ?_)
            obtain ⟨b69, s70, f72, u71⟩ := q66
            have f78 : zfr [12, 13, 14, 15, 29, 30] [19] h h4 := zfr_t (zfr_r _ _ _) f9 rfl rfl
            have f77 : zfr [12, 13, 14, 15, 29, 30] [19] h h35 := zfr_t f78 f41 rfl rfl
            have f76 : zfr [12, 13, 14, 15, 29, 30] [19] h h46 := zfr_t f77 f51 rfl rfl
            have f75 : zfr [12, 13, 14, 15, 29, 30] [19] h h57 := zfr_wa f76 e58 rfl
            have f74 : zfr [12, 13, 14, 15, 29, 30] [19] h h63 := zfr_wa f75 e64 rfl
            have f73 : zfr [12, 13, 14, 15, 29, 30] [19] h h68 := zfr_t f74 f72 rfl rfl
            have b79 : 0 ≤ (h.2 0 14) ∧ (h.2 0 14) ≤ 4 := fM_14 s0
            have b80 : -2147483648 ≤ (h.2 0 15) ∧ (h.2 0 15) ≤ 2147483647 := fM_15 s0
            have b81 : -2147483648 ≤ (h35.2 0 15) ∧ (h35.2 0 15) ≤ 2147483647 := fM_15 s37
            have b82 : 0 ≤ (h46.2 0 14) ∧ (h46.2 0 14) ≤ 4 := fM_14 s48
            have b83 : -2147483648 ≤ (h46.2 0 15) ∧ (h46.2 0 15) ≤ 2147483647 := fM_15 s48
            have b84 : h57.2 0 14 = (h46.2 0 14) := (zwr_r e58 (by first | decide | exact (absurd ·.1 (by decide)) | exact (absurd ·.2 (by decide)) | omega))
            have b85 : h57.2 0 15 = (h46.2 0 15) := (zwr_r e58 (by first | decide | exact (absurd ·.1 (by decide)) | exact (absurd ·.2 (by decide)) | omega))
            have b86 : h63.2 0 14 = (h46.2 0 14) := ((zwr_r e64 (by first | decide | exact (absurd ·.1 (by decide)) | exact (absurd ·.2 (by decide)) | omega)).trans (zwr_r e58 (by first | decide | exact (absurd ·.1 (by decide)) | exact (absurd ·.2 (by decide)) | omega)))
            have b87 : h63.2 0 15 = (h46.2 0 15) := ((zwr_r e64 (by first | decide | exact (absurd ·.1 (by decide)) | exact (absurd ·.2 (by decide)) | omega)).trans (zwr_r e58 (by first | decide | exact (absurd ·.1 (by decide)) | exact (absurd ·.2 (by decide)) | omega)))
            have b88 : 0 ≤ (h68.2 0 14) ∧ (h68.2 0 14) ≤ 4 := fM_14 s70
            have b89 : -2147483648 ≤ (h68.2 0 15) ∧ (h68.2 0 15) ≤ 2147483647 := fM_15 s70
            exact zj_iret rfl (zdk ttX11_readKin 84 rfl rfl) (Nat.le_refl _) (Nat.le_refl _) ⟨v67, rfl, by omega, s70, f73, (fun i i9 => ((((((zfr_a f72 rfl (by decide)).trans (zwr_r e64 (by first | decide | exact (absurd ·.1 (by decide)) | exact (absurd ·.2 (by decide)) | omega))).trans (zwr_r e58 (by first | decide | exact (absurd ·.1 (by decide)) | exact (absurd ·.2 (by decide)) | omega))).trans (zfr_a f51 rfl (by decide))).trans (zfr_a f41 rfl (by decide))).trans (zfr_a f9 rfl (by decide)))), (by intro T j t0 yh9; have e_1 := u8 4 T j 200 t0 (fun t v q => by have k9 := tT4 q; omega) (by decide); have e_1y := e_1.1 (by omega); have e_1d := e_1y.2.1; have k_2 := tT4 e_1y.2.2.2.2.1; have k_2j := e_1y.2.2.1.1; have w42 : T (j + 1 + 1) = 201 := (by omega); clear k_2; have k_3 := tT4 e_1y.2.2.2.2.1; have k_3j := e_1y.2.2.1.1; have a_4 : tPm 4 T ((j + 1 + 1) + 1) h35 := tPm_r e_1y.2.2 (by omega) (u40 e_1y.2.2.2.2.2.2.2.1 (tPm_l e_1y.2.2 (by omega))) (fun k => (zfr_a f41 rfl (by decide))) (fun k => (zfr_a f41 rfl (by decide))) (zfr_f f41 rfl rfl); clear k_3; have k_5 := tT4 a_4.2.2.1; have k_5j := a_4.1.1; have e_6 := u50 4 T ((j + 1 + 1) + 1) a_4; have e_6y := e_6.1 (by omega); have e_6d := e_6y.1; have ka : tNm 0 (h.2 0 6 - 1) (T (j + 1)) = v3 := (by omega); have kb : tNm 0 (h.2 0 6 - 1) (T ((j + 1 + 1) + 1)) = v45 := (by omega); have a_7 : tPm 4 T (((j + 1 + 1) + 1) + 1) h57 := tPm_f e_6y.2 (fun k => (zwr_r e58 (by first | decide | exact (absurd ·.1 (by decide)) | exact (absurd ·.2 (by decide)) | omega))) (fun k => (zwr_r e58 (by first | decide | exact (absurd ·.1 (by decide)) | exact (absurd ·.2 (by decide)) | omega))) (zwr_r e58 (by first | decide | exact (absurd ·.1 (by decide)) | exact (absurd ·.2 (by decide)) | omega)) (zwr_r e58 (by first | decide | exact (absurd ·.1 (by decide)) | exact (absurd ·.2 (by decide)) | omega)) (zwr_r e58 (by first | decide | exact (absurd ·.1 (by decide)) | exact (absurd ·.2 (by decide)) | omega)) (zwr_r e58 (by first | decide | exact (absurd ·.1 (by decide)) | exact (absurd ·.2 (by decide)) | omega)) (zwr_r e58 (by first | decide | exact (absurd ·.1 (by decide)) | exact (absurd ·.2 (by decide)) | omega)); have a_8 : tPm 4 T (((j + 1 + 1) + 1) + 1) h63 := tPm_f a_7 (fun k => (zwr_r e64 (by first | decide | exact (absurd ·.1 (by decide)) | exact (absurd ·.2 (by decide)) | omega))) (fun k => (zwr_r e64 (by first | decide | exact (absurd ·.1 (by decide)) | exact (absurd ·.2 (by decide)) | omega))) (zwr_r e64 (by first | decide | exact (absurd ·.1 (by decide)) | exact (absurd ·.2 (by decide)) | omega)) (zwr_r e64 (by first | decide | exact (absurd ·.1 (by decide)) | exact (absurd ·.2 (by decide)) | omega)) (zwr_r e64 (by first | decide | exact (absurd ·.1 (by decide)) | exact (absurd ·.2 (by decide)) | omega)) (zwr_r e64 (by first | decide | exact (absurd ·.1 (by decide)) | exact (absurd ·.2 (by decide)) | omega)) (zwr_r e64 (by first | decide | exact (absurd ·.1 (by decide)) | exact (absurd ·.2 (by decide)) | omega)); have e_9 := u71 4 T (((j + 1 + 1) + 1) + 1) a_8; exact ⟨fun z => ⟨((((j + 1 + 1) + 1) + 1) + 1), v3, v45, (e_9.1 z).2, ⟨by omega, (fun d q i i0 i1 => (show h68.2 19 (18 + i) = h63.2 19 (18 + i) from (zfr_a f72 rfl (by decide))).trans (tKs_n (h := h) (g := h46) (fun i8 => (((zfr_a f51 rfl (by decide)).trans (zfr_a f41 rfl (by decide))).trans (zfr_a f9 rfl (by decide)))) e58 e64 d q i i0 i1))⟩, fun p9 w9 s9 c9 d9 w8 => tRe_q (tRe_s (tRe_s (tRe_s (tRe_s (tRe_1 (tMl_l (Or.inr (Or.inr rfl)) yh9 w8)) (tM41_y rfl (by omega))) (tM42_y w42)) (tM43_y (by omega) rfl (by omega))) (tMs_y (Or.inr (Or.inr ⟨rfl, rfl⟩)) (e_9.1 z).1)) (by rw [ka, kb])⟩, fun z => ⟨(((j + 1 + 1) + 1) + 1), _, (by have q9 := (e_9.2 z).2; unfold tEp at q9 ⊢; rw [show h63.2 7 = h.2 7 from funext fun i8 => (((((zwr_r e64 (by first | decide | exact (absurd ·.1 (by decide)) | exact (absurd ·.2 (by decide)) | omega)).trans (zwr_r e58 (by first | decide | exact (absurd ·.1 (by decide)) | exact (absurd ·.2 (by decide)) | omega))).trans (zfr_a f51 rfl (by decide))).trans (zfr_a f41 rfl (by decide))).trans (zfr_a f9 rfl (by decide))), show h63.2 0 11 = h.2 0 11 from (((((zwr_r e64 (by first | decide | exact (absurd ·.1 (by decide)) | exact (absurd ·.2 (by decide)) | omega)).trans (zwr_r e58 (by first | decide | exact (absurd ·.1 (by decide)) | exact (absurd ·.2 (by decide)) | omega))).trans (zfr_f f51 rfl rfl)).trans (zfr_f f41 rfl rfl)).trans (zfr_f f9 rfl rfl))] at q9; exact q9), fun p9 w9 s9 c9 d9 w8 => tRe_s (tRe_s (tRe_s (tRe_s (tRe_1 (tMl_l (Or.inr (Or.inr rfl)) yh9 w8)) (tM41_y rfl (by omega))) (tM42_y w42)) (tM43_y (by omega) rfl (by omega))) (tMs_n (Or.inr (Or.inr rfl)) (e_9.2 z).1)⟩⟩)⟩
          · refine zj_iconst (zdk ttX11_readKin 47 rfl rfl) ?_
            have f92 : zfr [12, 13, 14, 15, 29, 30] [19] h h4 := zfr_t (zfr_r _ _ _) f9 rfl rfl
            have f91 : zfr [12, 13, 14, 15, 29, 30] [19] h h35 := zfr_t f92 f41 rfl rfl
            have f90 : zfr [12, 13, 14, 15, 29, 30] [19] h h46 := zfr_t f91 f51 rfl rfl
            have b93 : 0 ≤ (h.2 0 14) ∧ (h.2 0 14) ≤ 4 := fM_14 s0
            have b94 : -2147483648 ≤ (h.2 0 15) ∧ (h.2 0 15) ≤ 2147483647 := fM_15 s0
            have b95 : -2147483648 ≤ (h35.2 0 15) ∧ (h35.2 0 15) ≤ 2147483647 := fM_15 s37
            have b96 : 0 ≤ (h46.2 0 14) ∧ (h46.2 0 14) ≤ 4 := fM_14 s48
            have b97 : -2147483648 ≤ (h46.2 0 15) ∧ (h46.2 0 15) ≤ 2147483647 := fM_15 s48
            exact zj_iret rfl (zdk ttX11_readKin 48 rfl rfl) (Nat.le_refl _) (Nat.le_refl _) ⟨(-1), rfl, by omega, s48, f90, (fun i i9 => (((zfr_a f51 rfl (by decide)).trans (zfr_a f41 rfl (by decide))).trans (zfr_a f9 rfl (by decide)))), (by intro T j t0 yh9; have e_1 := u8 4 T j 200 t0 (fun t v q => by have k9 := tT4 q; omega) (by decide); have e_1y := e_1.1 (by omega); have e_1d := e_1y.2.1; have k_2 := tT4 e_1y.2.2.2.2.1; have k_2j := e_1y.2.2.1.1; have w42 : T (j + 1 + 1) = 201 := (by omega); clear k_2; have k_3 := tT4 e_1y.2.2.2.2.1; have k_3j := e_1y.2.2.1.1; have a_4 : tPm 4 T ((j + 1 + 1) + 1) h35 := tPm_r e_1y.2.2 (by omega) (u40 e_1y.2.2.2.2.2.2.2.1 (tPm_l e_1y.2.2 (by omega))) (fun k => (zfr_a f41 rfl (by decide))) (fun k => (zfr_a f41 rfl (by decide))) (zfr_f f41 rfl rfl); clear k_3; have k_5 := tT4 a_4.2.2.1; have k_5j := a_4.1.1; have e_6 := u50 4 T ((j + 1 + 1) + 1) a_4; have e_6n := e_6.2 (by omega); exact ⟨fun z => absurd z (by omega), fun _ => ⟨((j + 1 + 1) + 1), _, (by have q9 := e_6n.2; unfold tEp at q9 ⊢; rw [show h35.2 7 = h.2 7 from funext fun i8 => ((zfr_a f41 rfl (by decide)).trans (zfr_a f9 rfl (by decide))), show h35.2 0 11 = h.2 0 11 from ((zfr_f f41 rfl rfl).trans (zfr_f f9 rfl rfl))] at q9; exact q9), fun p9 w9 s9 c9 d9 w8 => tRe_s (tRe_s (tRe_s (tRe_1 (tMl_l (Or.inr (Or.inr rfl)) yh9 w8)) (tM41_y rfl (by omega))) (tM42_y w42)) (tM43_n (by omega) rfl (by omega) rfl)⟩⟩)⟩
        · refine zj_aload_n (zdk ttX11_readKin 28 rfl rfl) rfl (by decide) ?_
          have b98 : -2147483648 ≤ (h35.2 0 15) ∧ (h35.2 0 15) ≤ 2147483647 := fM_15 s37
          refine zj_geti (v := (h35.2 0 15)) (zdk ttX11_readKin 29 rfl rfl) zf_RX11_169 rfl (k_M s37) rfl ?_
          refine zj_iload_n (zdk ttX11_readKin 30 rfl rfl) rfl ?_
          refine zj_icmp_ne (t := 62) (zdk ttX11_readKin 31 rfl rfl) (by decide) (by omega) (by omega) (fun c99 => ?_) (fun c99 => ?_)
          · refine zj_aload_n (zdk ttX11_readKin 36 rfl rfl) rfl (by decide) ?_
            refine zj_iconst (zdk ttX11_readKin 37 rfl rfl) ?_
            refine zj_aload_n (zdk ttX11_readKin 38 rfl rfl) rfl (by decide) ?_
            refine zj_geti (v := (h.2 0 6)) (zdk ttX11_readKin 39 rfl rfl) zf_RX11_132 rfl (k_M s37) ((zfr_f f41 rfl rfl).trans (zfr_f f9 rfl rfl)) ?_
            refine zj_iconst (zdk ttX11_readKin 40 rfl rfl) ?_
            refine zj_isub (zdk ttX11_readKin 41 rfl rfl) ?_
            refine zj_callV (av := [.inl 0, .inl ((h.2 0 6) - 1)]) (st := []) (zdk ttX11_readKin 42 rfl rfl) mb_X11_readNumber mv_RX11_248 (ci := 11) rfl rfl (k_M s37) rfl rfl (Nat.le_of_ble_eq_true rfl) (s2_X11_readNumber l h35 0 ((h.2 0 6) - 1) s37 (by omega) (by omega)) (rm_ok (by decide) (by decide)) (zq_i fun v101 h102 q100 => ?_)
            obtain ⟨b103, s104, f107, u105, u106⟩ := q100
            have b108 : -1 ≤ v101 ∧ v101 ≤ 17 := by omega
            refine zj_istore_n (L' := [some (.inr 0), some (.inl v3), some (.inl v101)]) (zdk ttX11_readKin 43 rfl rfl) (by decide) rfl ?_
            refine zj_iload_n (zdk ttX11_readKin 44 rfl rfl) rfl ?_
            refine zj_iconst (zdk ttX11_readKin 45 rfl rfl) ?_
            refine zj_icmp_ne (t := 81) (zdk ttX11_readKin 46 rfl rfl) (by decide) (by omega) (by decide) (fun c109 => ?_) (fun c109 => ?_)
            · refine zj_aload_n (zdk ttX11_readKin 49 rfl rfl) rfl (by decide) ?_
              refine zj_getr (r := 19) (zdk ttX11_readKin 50 rfl rfl) zf_RX11_68 rfl (k_M s104) (rfM_38 s104) ?_
              refine zj_bipush (zdk ttX11_readKin 51 rfl rfl) (by decide) ?_
              refine zj_iload_n (zdk ttX11_readKin 52 rfl rfl) rfl ?_
              refine zj_iadd (zdk ttX11_readKin 53 rfl rfl) ?_
              refine zj_aload_n (zdk ttX11_readKin 54 rfl rfl) rfl (by decide) ?_
              refine zj_getr (r := 19) (zdk ttX11_readKin 55 rfl rfl) zf_RX11_68 rfl (k_M s104) (rfM_38 s104) ?_
              refine zj_bipush (zdk ttX11_readKin 56 rfl rfl) (by decide) ?_
              refine zj_iload_n (zdk ttX11_readKin 57 rfl rfl) rfl ?_
              refine zj_iadd (zdk ttX11_readKin 58 rfl rfl) ?_
              have b110 : -2147483648 ≤ (h.2 19 (18 + v3)) ∧ (h.2 19 (18 + v3)) ≤ 2147483647 := abM_19 s0 (18 + v3)
              refine zj_iald (v := (h.2 19 (18 + v3))) (zdk ttX11_readKin 59 rfl rfl) (kaM_19 s104) (by decide) (by omega) (((zfr_a f107 rfl (by decide)).trans (zfr_a f41 rfl (by decide))).trans (zfr_a f9 rfl (by decide))) ?_
              refine zj_iconst (zdk ttX11_readKin 60 rfl rfl) ?_
              refine zj_iload_n (zdk ttX11_readKin 61 rfl rfl) rfl ?_
              refine zj_ishl (zdk ttX11_readKin 62 rfl rfl) ?_
              have b111 := zshl_1 (n := v101) (a := 0) (b := 17) (lo := 1) (hi := 131072) (by omega) (by decide) (by decide) (by decide)
              refine zj_ior (zdk ttX11_readKin 63 rfl rfl) ?_
              have b112 := zor_in (h.2 19 (18 + v3)) (zshl 1 v101)
              refine zj_iast (zdk ttX11_readKin 64 rfl rfl) (kaM_19 s104) (by decide) (by omega) (fun h113 e114 => ?_)
              refine zj_aload_n (zdk ttX11_readKin 65 rfl rfl) rfl (by decide) ?_
              have s115 : okM h113 := awM_19 s104 e114 (by omega) (by unfold nsp; omega)
              refine zj_getr (r := 19) (zdk ttX11_readKin 66 rfl rfl) zf_RX11_68 rfl (k_M s115) (rfM_38 s115) ?_
              refine zj_bipush (zdk ttX11_readKin 67 rfl rfl) (by decide) ?_
              refine zj_iload_n (zdk ttX11_readKin 68 rfl rfl) rfl ?_
              refine zj_iadd (zdk ttX11_readKin 69 rfl rfl) ?_
              refine zj_aload_n (zdk ttX11_readKin 70 rfl rfl) rfl (by decide) ?_
              refine zj_getr (r := 19) (zdk ttX11_readKin 71 rfl rfl) zf_RX11_68 rfl (k_M s115) (rfM_38 s115) ?_
              refine zj_bipush (zdk ttX11_readKin 72 rfl rfl) (by decide) ?_
              refine zj_iload_n (zdk ttX11_readKin 73 rfl rfl) rfl ?_
              refine zj_iadd (zdk ttX11_readKin 74 rfl rfl) ?_
              have b116 : -2147483648 ≤ (h113.2 19 (18 + v101)) ∧ (h113.2 19 (18 + v101)) ≤ 2147483647 := abM_19 s115 (18 + v101)
              refine zj_iald (v := (h113.2 19 (18 + v101))) (zdk ttX11_readKin 75 rfl rfl) (kaM_19 s115) (by decide) (by omega) rfl ?_
              refine zj_iconst (zdk ttX11_readKin 76 rfl rfl) ?_
              refine zj_iload_n (zdk ttX11_readKin 77 rfl rfl) rfl ?_
              refine zj_ishl (zdk ttX11_readKin 78 rfl rfl) ?_
              have b117 := zshl_1 (n := v3) (a := 0) (b := 17) (lo := 1) (hi := 131072) (by omega) (by decide) (by decide) (by decide)
              refine zj_ior (zdk ttX11_readKin 79 rfl rfl) ?_
              have b118 := zor_in (h113.2 19 (18 + v101)) (zshl 1 v3)
              refine zj_iast (zdk ttX11_readKin 80 rfl rfl) (kaM_19 s115) (by decide) (by omega) (fun h119 e120 => ?_)
              refine zj_aload_n (zdk ttX11_readKin 81 rfl rfl) rfl (by decide) ?_
              refine zj_bipush (zdk ttX11_readKin 82 rfl rfl) (by decide) ?_
              have s121 : okM h119 := awM_19 s115 e120 (by omega) (by unfold nsp; omega)
              refine zj_callV (av := [.inl 59]) (st := []) (zdk ttX11_readKin 83 rfl rfl) mb_X11_readMark mv_RX11_255 (ci := 11) rfl rfl (k_M s121) rfl rfl (Nat.le_of_ble_eq_true rfl) (s2_X11_readMark l h119 59 s121 (by omega)) (rm_ok (by decide) (by decide)) (zq_i fun v123 h124 q122 => ?_)
              obtain ⟨b125, s126, f128, u127⟩ := q122
              have f134 : zfr [12, 13, 14, 15, 29, 30] [19] h h4 := zfr_t (zfr_r _ _ _) f9 rfl rfl
              have f133 : zfr [12, 13, 14, 15, 29, 30] [19] h h35 := zfr_t f134 f41 rfl rfl
              have f132 : zfr [12, 13, 14, 15, 29, 30] [19] h h102 := zfr_t f133 f107 rfl rfl
              have f131 : zfr [12, 13, 14, 15, 29, 30] [19] h h113 := zfr_wa f132 e114 rfl
              have f130 : zfr [12, 13, 14, 15, 29, 30] [19] h h119 := zfr_wa f131 e120 rfl
              have f129 : zfr [12, 13, 14, 15, 29, 30] [19] h h124 := zfr_t f130 f128 rfl rfl
              have b135 : 0 ≤ (h.2 0 14) ∧ (h.2 0 14) ≤ 4 := fM_14 s0
              have b136 : -2147483648 ≤ (h.2 0 15) ∧ (h.2 0 15) ≤ 2147483647 := fM_15 s0
              have b137 : 0 ≤ (h102.2 0 14) ∧ (h102.2 0 14) ≤ 4 := fM_14 s104
              have b138 : -2147483648 ≤ (h102.2 0 15) ∧ (h102.2 0 15) ≤ 2147483647 := fM_15 s104
              have b139 : h113.2 0 14 = (h102.2 0 14) := (zwr_r e114 (by first | decide | exact (absurd ·.1 (by decide)) | exact (absurd ·.2 (by decide)) | omega))
              have b140 : h113.2 0 15 = (h102.2 0 15) := (zwr_r e114 (by first | decide | exact (absurd ·.1 (by decide)) | exact (absurd ·.2 (by decide)) | omega))
              have b141 : h119.2 0 14 = (h102.2 0 14) := ((zwr_r e120 (by first | decide | exact (absurd ·.1 (by decide)) | exact (absurd ·.2 (by decide)) | omega)).trans (zwr_r e114 (by first | decide | exact (absurd ·.1 (by decide)) | exact (absurd ·.2 (by decide)) | omega)))
              have b142 : h119.2 0 15 = (h102.2 0 15) := ((zwr_r e120 (by first | decide | exact (absurd ·.1 (by decide)) | exact (absurd ·.2 (by decide)) | omega)).trans (zwr_r e114 (by first | decide | exact (absurd ·.1 (by decide)) | exact (absurd ·.2 (by decide)) | omega)))
              have b143 : 0 ≤ (h124.2 0 14) ∧ (h124.2 0 14) ≤ 4 := fM_14 s126
              have b144 : -2147483648 ≤ (h124.2 0 15) ∧ (h124.2 0 15) ≤ 2147483647 := fM_15 s126
              exact zj_iret rfl (zdk ttX11_readKin 84 rfl rfl) (Nat.le_refl _) (Nat.le_refl _) ⟨v123, rfl, by omega, s126, f129, (fun i i9 => ((((((zfr_a f128 rfl (by decide)).trans (zwr_r e120 (by first | decide | exact (absurd ·.1 (by decide)) | exact (absurd ·.2 (by decide)) | omega))).trans (zwr_r e114 (by first | decide | exact (absurd ·.1 (by decide)) | exact (absurd ·.2 (by decide)) | omega))).trans (zfr_a f107 rfl (by decide))).trans (zfr_a f41 rfl (by decide))).trans (zfr_a f9 rfl (by decide)))), (by intro T j t0 yh9; have e_1 := u8 4 T j 200 t0 (fun t v q => by have k9 := tT4 q; omega) (by decide); have e_1y := e_1.1 (by omega); have e_1d := e_1y.2.1; have k_2 := tT4 e_1y.2.2.2.2.1; have k_2j := e_1y.2.2.1.1; have w42 : T (j + 1 + 1) = 201 := (by omega); clear k_2; have k_3 := tT4 e_1y.2.2.2.2.1; have k_3j := e_1y.2.2.1.1; have a_4 : tPm 4 T ((j + 1 + 1) + 1) h35 := tPm_r e_1y.2.2 (by omega) (u40 e_1y.2.2.2.2.2.2.2.1 (tPm_l e_1y.2.2 (by omega))) (fun k => (zfr_a f41 rfl (by decide))) (fun k => (zfr_a f41 rfl (by decide))) (zfr_f f41 rfl rfl); clear k_3; have k_5 := tT4 a_4.2.2.1; have k_5j := a_4.1.1; have e_6 := u106 4 T ((j + 1 + 1) + 1) a_4; have e_6y := e_6.1 (by omega); have e_6d := e_6y.1; have ka : tNm 0 (h.2 0 6 - 1) (T (j + 1)) = v3 := (by omega); have kb : tNm 0 (h.2 0 6 - 1) (T ((j + 1 + 1) + 1)) = v101 := (by omega); have a_7 : tPm 4 T (((j + 1 + 1) + 1) + 1) h113 := tPm_f e_6y.2 (fun k => (zwr_r e114 (by first | decide | exact (absurd ·.1 (by decide)) | exact (absurd ·.2 (by decide)) | omega))) (fun k => (zwr_r e114 (by first | decide | exact (absurd ·.1 (by decide)) | exact (absurd ·.2 (by decide)) | omega))) (zwr_r e114 (by first | decide | exact (absurd ·.1 (by decide)) | exact (absurd ·.2 (by decide)) | omega)) (zwr_r e114 (by first | decide | exact (absurd ·.1 (by decide)) | exact (absurd ·.2 (by decide)) | omega)) (zwr_r e114 (by first | decide | exact (absurd ·.1 (by decide)) | exact (absurd ·.2 (by decide)) | omega)) (zwr_r e114 (by first | decide | exact (absurd ·.1 (by decide)) | exact (absurd ·.2 (by decide)) | omega)) (zwr_r e114 (by first | decide | exact (absurd ·.1 (by decide)) | exact (absurd ·.2 (by decide)) | omega)); have a_8 : tPm 4 T (((j + 1 + 1) + 1) + 1) h119 := tPm_f a_7 (fun k => (zwr_r e120 (by first | decide | exact (absurd ·.1 (by decide)) | exact (absurd ·.2 (by decide)) | omega))) (fun k => (zwr_r e120 (by first | decide | exact (absurd ·.1 (by decide)) | exact (absurd ·.2 (by decide)) | omega))) (zwr_r e120 (by first | decide | exact (absurd ·.1 (by decide)) | exact (absurd ·.2 (by decide)) | omega)) (zwr_r e120 (by first | decide | exact (absurd ·.1 (by decide)) | exact (absurd ·.2 (by decide)) | omega)) (zwr_r e120 (by first | decide | exact (absurd ·.1 (by decide)) | exact (absurd ·.2 (by decide)) | omega)) (zwr_r e120 (by first | decide | exact (absurd ·.1 (by decide)) | exact (absurd ·.2 (by decide)) | omega)) (zwr_r e120 (by first | decide | exact (absurd ·.1 (by decide)) | exact (absurd ·.2 (by decide)) | omega)); have e_9 := u127 4 T (((j + 1 + 1) + 1) + 1) a_8; exact ⟨fun z => ⟨((((j + 1 + 1) + 1) + 1) + 1), v3, v101, (e_9.1 z).2, ⟨by omega, (fun d q i i0 i1 => (show h124.2 19 (18 + i) = h119.2 19 (18 + i) from (zfr_a f128 rfl (by decide))).trans (tKs_n (h := h) (g := h102) (fun i8 => (((zfr_a f107 rfl (by decide)).trans (zfr_a f41 rfl (by decide))).trans (zfr_a f9 rfl (by decide)))) e114 e120 d q i i0 i1))⟩, fun p9 w9 s9 c9 d9 w8 => tRe_q (tRe_s (tRe_s (tRe_s (tRe_s (tRe_1 (tMl_l (Or.inr (Or.inr rfl)) yh9 w8)) (tM41_y rfl (by omega))) (tM42_y w42)) (tM43_y (by omega) rfl (by omega))) (tMs_y (Or.inr (Or.inr ⟨rfl, rfl⟩)) (e_9.1 z).1)) (by rw [ka, kb])⟩, fun z => ⟨(((j + 1 + 1) + 1) + 1), _, (by have q9 := (e_9.2 z).2; unfold tEp at q9 ⊢; rw [show h119.2 7 = h.2 7 from funext fun i8 => (((((zwr_r e120 (by first | decide | exact (absurd ·.1 (by decide)) | exact (absurd ·.2 (by decide)) | omega)).trans (zwr_r e114 (by first | decide | exact (absurd ·.1 (by decide)) | exact (absurd ·.2 (by decide)) | omega))).trans (zfr_a f107 rfl (by decide))).trans (zfr_a f41 rfl (by decide))).trans (zfr_a f9 rfl (by decide))), show h119.2 0 11 = h.2 0 11 from (((((zwr_r e120 (by first | decide | exact (absurd ·.1 (by decide)) | exact (absurd ·.2 (by decide)) | omega)).trans (zwr_r e114 (by first | decide | exact (absurd ·.1 (by decide)) | exact (absurd ·.2 (by decide)) | omega))).trans (zfr_f f107 rfl rfl)).trans (zfr_f f41 rfl rfl)).trans (zfr_f f9 rfl rfl))] at q9; exact q9), fun p9 w9 s9 c9 d9 w8 => tRe_s (tRe_s (tRe_s (tRe_s (tRe_1 (tMl_l (Or.inr (Or.inr rfl)) yh9 w8)) (tM41_y rfl (by omega))) (tM42_y w42)) (tM43_y (by omega) rfl (by omega))) (tMs_n (Or.inr (Or.inr rfl)) (e_9.2 z).1)⟩⟩)⟩
            · refine zj_iconst (zdk ttX11_readKin 47 rfl rfl) ?_
              have f147 : zfr [12, 13, 14, 15, 29, 30] [19] h h4 := zfr_t (zfr_r _ _ _) f9 rfl rfl
              have f146 : zfr [12, 13, 14, 15, 29, 30] [19] h h35 := zfr_t f147 f41 rfl rfl
              have f145 : zfr [12, 13, 14, 15, 29, 30] [19] h h102 := zfr_t f146 f107 rfl rfl
              have b148 : 0 ≤ (h.2 0 14) ∧ (h.2 0 14) ≤ 4 := fM_14 s0
              have b149 : -2147483648 ≤ (h.2 0 15) ∧ (h.2 0 15) ≤ 2147483647 := fM_15 s0
              have b150 : 0 ≤ (h102.2 0 14) ∧ (h102.2 0 14) ≤ 4 := fM_14 s104
              have b151 : -2147483648 ≤ (h102.2 0 15) ∧ (h102.2 0 15) ≤ 2147483647 := fM_15 s104
              exact zj_iret rfl (zdk ttX11_readKin 48 rfl rfl) (Nat.le_refl _) (Nat.le_refl _) ⟨(-1), rfl, by omega, s104, f145, (fun i i9 => (((zfr_a f107 rfl (by decide)).trans (zfr_a f41 rfl (by decide))).trans (zfr_a f9 rfl (by decide)))), (by intro T j t0 yh9; have e_1 := u8 4 T j 200 t0 (fun t v q => by have k9 := tT4 q; omega) (by decide); have e_1y := e_1.1 (by omega); have e_1d := e_1y.2.1; have k_2 := tT4 e_1y.2.2.2.2.1; have k_2j := e_1y.2.2.1.1; have w42 : T (j + 1 + 1) = 201 := (by omega); clear k_2; have k_3 := tT4 e_1y.2.2.2.2.1; have k_3j := e_1y.2.2.1.1; have a_4 : tPm 4 T ((j + 1 + 1) + 1) h35 := tPm_r e_1y.2.2 (by omega) (u40 e_1y.2.2.2.2.2.2.2.1 (tPm_l e_1y.2.2 (by omega))) (fun k => (zfr_a f41 rfl (by decide))) (fun k => (zfr_a f41 rfl (by decide))) (zfr_f f41 rfl rfl); clear k_3; have k_5 := tT4 a_4.2.2.1; have k_5j := a_4.1.1; have e_6 := u106 4 T ((j + 1 + 1) + 1) a_4; have e_6n := e_6.2 (by omega); exact ⟨fun z => absurd z (by omega), fun _ => ⟨((j + 1 + 1) + 1), _, (by have q9 := e_6n.2; unfold tEp at q9 ⊢; rw [show h35.2 7 = h.2 7 from funext fun i8 => ((zfr_a f41 rfl (by decide)).trans (zfr_a f9 rfl (by decide))), show h35.2 0 11 = h.2 0 11 from ((zfr_f f41 rfl rfl).trans (zfr_f f9 rfl rfl))] at q9; exact q9), fun p9 w9 s9 c9 d9 w8 => tRe_s (tRe_s (tRe_s (tRe_1 (tMl_l (Or.inr (Or.inr rfl)) yh9 w8)) (tM41_y rfl (by omega))) (tM42_y w42)) (tM43_n (by omega) rfl (by omega) rfl)⟩⟩)⟩
          · refine zj_aload_n (zdk ttX11_readKin 32 rfl rfl) rfl (by decide) ?_
            refine zj_iconst (zdk ttX11_readKin 33 rfl rfl) ?_
            refine zj_callV (av := [.inl 2]) (st := []) (zdk ttX11_readKin 34 rfl rfl) mb_X11_errs mv_RX11_197 (ci := 11) rfl rfl (k_M s37) rfl rfl (Nat.le_of_ble_eq_true rfl) (s2_X11_errs l h35 2 s37 (by omega)) (rm_ok (by decide) (by decide)) (zq_i fun v153 h154 q152 => ?_)
            obtain ⟨b155, s156, f158, u157⟩ := q152
            have f161 : zfr [12, 13, 14, 15, 29, 30] [19] h h4 := zfr_t (zfr_r _ _ _) f9 rfl rfl
            have f160 : zfr [12, 13, 14, 15, 29, 30] [19] h h35 := zfr_t f161 f41 rfl rfl
            have f159 : zfr [12, 13, 14, 15, 29, 30] [19] h h154 := zfr_t f160 f158 rfl rfl
            have b162 : 0 ≤ (h.2 0 14) ∧ (h.2 0 14) ≤ 4 := fM_14 s0
            have b163 : -2147483648 ≤ (h.2 0 15) ∧ (h.2 0 15) ≤ 2147483647 := fM_15 s0
            have b164 : h154.2 0 14 = (h35.2 0 14) := (zfr_f f158 rfl rfl)
            have b165 : h154.2 0 15 = (h35.2 0 15) := (zfr_f f158 rfl rfl)
            exact zj_iret rfl (zdk ttX11_readKin 35 rfl rfl) (Nat.le_refl _) (Nat.le_refl _) ⟨v153, rfl, by omega, s156, f159, (fun i i9 => (((zfr_a f158 rfl (by decide)).trans (zfr_a f41 rfl (by decide))).trans (zfr_a f9 rfl (by decide)))), (by intro T j t0 yh9; have e_1 := u8 4 T j 200 t0 (fun t v q => by have k9 := tT4 q; omega) (by decide); have e_1y := e_1.1 (by omega); have e_1d := e_1y.2.1; have k_2 := tT4 e_1y.2.2.2.2.1; have k_2j := e_1y.2.2.1.1; have w42 : T (j + 1 + 1) = 201 := (by omega); clear k_2; have k_3 := tT4 e_1y.2.2.2.2.1; have k_3j := e_1y.2.2.1.1; have a_4 : tPm 4 T ((j + 1 + 1) + 1) h35 := tPm_r e_1y.2.2 (by omega) (u40 e_1y.2.2.2.2.2.2.2.1 (tPm_l e_1y.2.2 (by omega))) (fun k => (zfr_a f41 rfl (by decide))) (fun k => (zfr_a f41 rfl (by decide))) (zfr_f f41 rfl rfl); clear k_3; have k_5 := tT4 a_4.2.2.1; have k_5j := a_4.1.1; have e_6 : tEp h h154 ((j + 1 + 1) + 1) 2 := ⟨u157.1, a_4.1.1, by have q9 := a_4.2.1; rw [show h35.2 7 = h.2 7 from funext fun i9 => ((zfr_a f41 rfl (by decide)).trans (zfr_a f9 rfl (by decide))), show h35.2 0 11 = h.2 0 11 from ((zfr_f f41 rfl rfl).trans (zfr_f f9 rfl rfl))] at q9; rw [u157.2]; exact q9⟩; exact ⟨fun z => absurd z (by omega), fun _ => ⟨((j + 1 + 1) + 1), _, e_6, fun p9 w9 s9 c9 d9 w8 => tRe_s (tRe_s (tRe_s (tRe_1 (tMl_l (Or.inr (Or.inr rfl)) yh9 w8)) (tM41_y rfl (by omega))) (tM42_y w42)) (tM43_2 (by omega))⟩⟩)⟩
      · exact absurd c32 (by omega)
  · refine zj_iconst (zdk ttX11_readKin 12 rfl rfl) ?_
    have f166 : zfr [12, 13, 14, 15, 29, 30] [19] h h4 := zfr_t (zfr_r _ _ _) f9 rfl rfl
    have b167 : 0 ≤ (h.2 0 14) ∧ (h.2 0 14) ≤ 4 := fM_14 s0
    have b168 : -2147483648 ≤ (h.2 0 15) ∧ (h.2 0 15) ≤ 2147483647 := fM_15 s0
    have b169 : 0 ≤ (h4.2 0 14) ∧ (h4.2 0 14) ≤ 4 := fM_14 s6
    have b170 : -2147483648 ≤ (h4.2 0 15) ∧ (h4.2 0 15) ≤ 2147483647 := fM_15 s6
    exact zj_iret rfl (zdk ttX11_readKin 13 rfl rfl) (Nat.le_refl _) (Nat.le_refl _) ⟨(-1), rfl, by omega, s6, f166, (fun i i9 => (zfr_a f9 rfl (by decide))), (by intro T j t0 yh9; have e_1 := u8 4 T j 200 t0 (fun t v q => by have k9 := tT4 q; omega) (by decide); have e_1n := (e_1.2 (by omega)).resolve_left (fun q => q.1 yh9); exact ⟨fun z => absurd z (by omega), fun _ => ⟨(j + 1), _, e_1n.2.2, fun p9 w9 s9 c9 d9 w8 => tRe_s (tRe_1 (tMl_l (Or.inr (Or.inr rfl)) yh9 w8)) (tM41_n rfl (by omega) rfl)⟩⟩)⟩

abbrev q2_X11_readAllKin (h : zM) : Option zV → zM → Prop := zqi fun v h' => ((-1) ≤ v ∧ v ≤ 16) ∧ okM h' ∧ zfr [12, 13, 14, 15, 29, 30] [19] h h' ∧ (∀ i, i < 18 → h'.2 19 i = h.2 19 i) ∧ (∀ T, tPm 4 T 0 h → (0 ≤ v → ∃ j9 d9, (∀ i, 0 ≤ i → i < 18 → h'.2 19 (18 + i) = tKs d9 i) ∧ ∀ p9 : Int, tRe T (h.2 0 6) (40, 0, 0, [], [], []) (1, j9, v, [], [], d9)) ∧ (v = -1 → ∃ i9 f9, tEp h h' i9 f9 ∧ ∀ p9 : Int, tRe T (h.2 0 6) (40, 0, 0, [], [], []) (tEr i9 f9)))
set_option maxRecDepth 100000 in
set_option maxHeartbeats 4000000 in
theorem s2_X11_readAllKin (l : Launch) (h : zM) (s0 : okM h) : zT shM l yX11_readAllKin cX11_readAllKin 2 (some .int) (rmL 7) 0 0 [.inr 0] h (q2_X11_readAllKin h) := by
  refine zT_of (by decide +kernel) (L0 := [some (.inr 0), none]) rfl (Nat.le_of_ble_eq_true rfl) ?_
  refine zj_iconst (zdk ttX11_readAllKin 0 rfl rfl) ?_
  refine zj_istore_n (L' := [some (.inr 0), some (.inl 0)]) (zdk ttX11_readAllKin 1 rfl rfl) (by decide) rfl ?_
  have lp32 : ∀ (n2 : Nat) (x1 : Int) (h2 : zM), (0 ≤ x1 ∧ x1 ≤ 18) → okM h2 → zfr [12, 13, 14, 15, 29, 30] [19] h h2 → (∀ k9, h2.2 0 k9 = h.2 0 k9) → (∀ i, 18 ≤ i → i < 18 + x1 → h2.2 19 i = 0) → (∀ i, i < 18 → h2.2 19 i = h.2 19 i) → (19 - x1).toNat < n2 → zJ shM l yX11_readAllKin cX11_readAllKin 2 (some .int) (rmL 7) 0 0 (q2_X11_readAllKin h) 0 0 2 [some (.inr 0), some (.inl x1)] [] h2 := by
    intro n2
    induction n2 with
    | zero => intro x1 h2 b33 s3 f4 u34 u35 u36 m37; exact absurd m37 (Nat.not_lt_zero _)
    | succ n2 ih38 =>
      intro x1 h2 b33 s3 f4 u34 u35 u36 m37
      refine zj_iload_n (zdk ttX11_readAllKin 2 rfl rfl) rfl ?_
      refine zj_bipush (zdk ttX11_readAllKin 3 rfl rfl) (by decide) ?_
      refine zj_icmp_ge (t := 24) (zdk ttX11_readAllKin 4 rfl rfl) (by decide) (by omega) (by decide) (fun c39 => ?_) (fun c39 => ?_)
      · refine zj_iconst (zdk ttX11_readAllKin 14 rfl rfl) ?_
        refine zj_istore_n (L' := [some (.inr 0), some (.inl 0)]) (zdk ttX11_readAllKin 15 rfl rfl) (by decide) rfl ?_
        have lp62 : ∀ (n26 : Nat) (x40 : Int) (h41 : zM), (0 ≤ x40 ∧ x40 ≤ 16) → okM h41 → zfr [12, 13, 14, 15, 29, 30] [19] h h41 → (∀ T, tPm 4 T 0 h → ∃ j9 d9, tPm 4 T j9 h41 ∧ (∀ i, 0 ≤ i → i < 18 → h41.2 19 (18 + i) = tKs d9 i) ∧ ∀ p9 : Int, tRe T (h.2 0 6) (40, 0, 0, [], [], []) (40, j9, x40, [], [], d9)) → (∀ i, i < 18 → h41.2 19 i = h.2 19 i) → (17 - x40).toNat < n26 → zJ shM l yX11_readAllKin cX11_readAllKin 2 (some .int) (rmL 7) 0 0 (q2_X11_readAllKin h) 0 0 26 [some (.inr 0), some (.inl x40)] [] h41 := by
          intro n26
          induction n26 with
          | zero => intro x40 h41 b63 s42 f43 u64 u65 m66; exact absurd m66 (Nat.not_lt_zero _)
          | succ n26 ih67 =>
            intro x40 h41 b63 s42 f43 u64 u65 m66
            refine zj_aload_n (zdk ttX11_readAllKin 16 rfl rfl) rfl (by decide) ?_
            refine zj_bipush (zdk ttX11_readAllKin 17 rfl rfl) (by decide) ?_
            refine zj_callV (av := [.inl 22]) (st := []) (zdk ttX11_readAllKin 18 rfl rfl) mb_X11_isWord mv_RX11_226 (ci := 11) rfl rfl (k_M s42) rfl rfl (Nat.le_of_ble_eq_true rfl) (s_X11_isWord l h41 22 s42 (by omega)) (rm_ok (by decide) (by decide)) (zq_i fun v69 h70 q68 => ?_)
            obtain ⟨rfl, b72, b73, ⟨rfl, b71⟩ | ⟨rfl, b71⟩⟩ := q68
            · refine zj_if_eq (t := 64) (zdk ttX11_readAllKin 19 rfl rfl) (by decide) (by decide) (fun c74 => ?_) (fun c74 => ?_)
              · refine zj_aload_n (zdk ttX11_readAllKin 38 rfl rfl) rfl (by decide) ?_
                refine zj_geti (v := (h41.2 0 14)) (zdk ttX11_readAllKin 39 rfl rfl) zf_RX11_166 rfl (k_M s42) rfl ?_
                refine zj_if_ne (t := 75) (zdk ttX11_readAllKin 40 rfl rfl) (by decide) (by omega) (fun c75 => ?_) (fun c75 => ?_)
                · refine zj_aload_n (zdk ttX11_readAllKin 43 rfl rfl) rfl (by decide) ?_
                  refine zj_iconst (zdk ttX11_readAllKin 44 rfl rfl) ?_
                  refine zj_callV (av := [.inl 1]) (st := []) (zdk ttX11_readAllKin 45 rfl rfl) mb_X11_errs mv_RX11_197 (ci := 11) rfl rfl (k_M s42) rfl rfl (Nat.le_of_ble_eq_true rfl) (s2_X11_errs l h41 1 s42 (by omega)) (rm_ok (by decide) (by decide)) (zq_i fun v77 h78 q76 => ?_)
                  obtain ⟨b79, s80, f82, u81⟩ := q76
                  have f83 : zfr [12, 13, 14, 15, 29, 30] [19] h h78 := zfr_t f43 f82 rfl rfl
                  have b84 : 0 ≤ (h.2 0 14) ∧ (h.2 0 14) ≤ 4 := fM_14 s0
                  have b85 : -2147483648 ≤ (h.2 0 15) ∧ (h.2 0 15) ≤ 2147483647 := fM_15 s0
                  have b86 : h78.2 0 14 = (h41.2 0 14) := (zfr_f f82 rfl rfl)
                  have b87 : h78.2 0 15 = (h41.2 0 15) := (zfr_f f82 rfl rfl)
                  exact zj_iret rfl (zdk ttX11_readAllKin 46 rfl rfl) (Nat.le_refl _) (Nat.le_refl _) ⟨v77, rfl, by omega, s80, f83, (fun i i9 => ((zfr_a f82 rfl (by decide)).trans (u65 i i9))), (by intro T t0; obtain ⟨xj, xd, xa, xk, xr⟩ := u64 T t0; have k_1 := tT4 xa.2.2.1; have k_1j := xa.1.1; have e_2 : tEp h h78 xj 1 := ⟨u81.1, xa.1.1, by have q9 := xa.2.1; rw [show h41.2 7 = h.2 7 from funext fun i9 => (zfr_a f43 rfl (by decide)), show h41.2 0 11 = h.2 0 11 from (zfr_f f43 rfl rfl)] at q9; rw [u81.2]; exact q9⟩; exact ⟨fun z => absurd z (by omega), fun _ => ⟨xj, _, e_2, fun p9 => by first | exact tRe_s (xr p9) (tMl_3 (Or.inr (Or.inr rfl)) (by omega) (by omega)) | exact tRe_s (xr p9) (tMl_1 (Or.inr (Or.inr rfl)) (by omega) (by omega))⟩⟩)⟩
                · refine zj_iload_n (zdk ttX11_readAllKin 41 rfl rfl) rfl ?_
                  refine zj_goto (t := 80) (zdk ttX11_readAllKin 42 rfl rfl) (by decide) ?_
                  have b88 : 0 ≤ (h.2 0 14) ∧ (h.2 0 14) ≤ 4 := fM_14 s0
                  have b89 : -2147483648 ≤ (h.2 0 15) ∧ (h.2 0 15) ≤ 2147483647 := fM_15 s0
                  exact zj_iret rfl (zdk ttX11_readAllKin 46 rfl rfl) (Nat.le_refl _) (Nat.le_refl _) ⟨x40, rfl, by omega, s42, f43, (fun i i9 => (u65 i i9)), (by intro T t0; obtain ⟨xj, xd, xa, xk, xr⟩ := u64 T t0; have k_1 := tT4 xa.2.2.1; have k_1j := xa.1.1; exact ⟨fun _ => ⟨xj, xd, fun i a b => (show h41.2 19 (18 + i) = h41.2 19 (18 + i) from rfl).trans (xk i a b), fun p9 => tRe_s (xr p9) (tMl_e (Or.inr (Or.inr rfl)) (by omega))⟩, fun z => absurd z (by omega)⟩)⟩
              · exact absurd c74 (by omega)
            · refine zj_if_eq (t := 64) (zdk ttX11_readAllKin 19 rfl rfl) (by decide) (by decide) (fun c90 => ?_) (fun c90 => ?_)
              · exact absurd c90 (by omega)
              · refine zj_iload_n (zdk ttX11_readAllKin 20 rfl rfl) rfl ?_
                refine zj_bipush (zdk ttX11_readAllKin 21 rfl rfl) (by decide) ?_
                refine zj_icmp_ne (t := 47) (zdk ttX11_readAllKin 22 rfl rfl) (by decide) (by omega) (by decide) (fun c91 => ?_) (fun c91 => ?_)
                · refine zj_aload_n (zdk ttX11_readAllKin 27 rfl rfl) rfl (by decide) ?_
                  refine zj_callV (av := []) (st := []) (zdk ttX11_readAllKin 28 rfl rfl) mb_X11_readKin mv_RX11_267 (ci := 11) rfl rfl (k_M s42) rfl rfl (Nat.le_of_ble_eq_true rfl) (s2_X11_readKin l h41 s42) (rm_ok (by decide) (by decide)) (zq_i fun v93 h94 q92 => ?_)
                  obtain ⟨b95, s96, f99, u97, u98⟩ := q92
                  refine zj_iconst (zdk ttX11_readAllKin 29 rfl rfl) ?_
                  refine zj_icmp_ne (t := 57) (zdk ttX11_readAllKin 30 rfl rfl) (by decide) (by omega) (by decide) (fun c100 => ?_) (fun c100 => ?_)
                  · refine zj_iload_n (zdk ttX11_readAllKin 33 rfl rfl) rfl ?_
                    refine zj_iconst (zdk ttX11_readAllKin 34 rfl rfl) ?_
                    refine zj_iadd (zdk ttX11_readAllKin 35 rfl rfl) ?_
                    refine zj_istore_n (L' := [some (.inr 0), some (.inl (x40 + 1))]) (zdk ttX11_readAllKin 36 rfl rfl) (by decide) rfl ?_
                    refine zj_goto (t := 26) (zdk ttX11_readAllKin 37 rfl rfl) (by decide) ?_
                    have f101 : zfr [12, 13, 14, 15, 29, 30] [19] h h94 := zfr_t f43 f99 rfl rfl
                    have b102 : 0 ≤ (h.2 0 14) ∧ (h.2 0 14) ≤ 4 := fM_14 s0
                    have b103 : -2147483648 ≤ (h.2 0 15) ∧ (h.2 0 15) ≤ 2147483647 := fM_15 s0
                    have b104 : 0 ≤ (h94.2 0 14) ∧ (h94.2 0 14) ≤ 4 := fM_14 s96
                    have b105 : -2147483648 ≤ (h94.2 0 15) ∧ (h94.2 0 15) ≤ 2147483647 := fM_15 s96
                    exact ih67  (x40 + 1) h94 (by omega) s96 f101 (by intro T t0; obtain ⟨xj, xd, xa, xk, xr⟩ := u64 T t0; have k_1 := tT4 xa.2.2.1; have k_1j := xa.1.1; obtain ⟨yj, y1, y2, ya, yl, yr⟩ := (u98 T xj xa (by omega)).1 (by omega); rw [show h41.2 0 6 = h.2 0 6 from zfr_f f43 rfl rfl] at yr; exact ⟨yj, _, ya, yl.2 xd xk, fun p9 => tRe_t (xr p9) (yr p9 x40 [] _ _ (by omega))⟩) (fun i i9 => ((u97 i i9).trans (u65 i i9))) (by omega)
                  · refine zj_iconst (zdk ttX11_readAllKin 31 rfl rfl) ?_
                    have f106 : zfr [12, 13, 14, 15, 29, 30] [19] h h94 := zfr_t f43 f99 rfl rfl
                    have b107 : 0 ≤ (h.2 0 14) ∧ (h.2 0 14) ≤ 4 := fM_14 s0
                    have b108 : -2147483648 ≤ (h.2 0 15) ∧ (h.2 0 15) ≤ 2147483647 := fM_15 s0
                    have b109 : 0 ≤ (h94.2 0 14) ∧ (h94.2 0 14) ≤ 4 := fM_14 s96
                    have b110 : -2147483648 ≤ (h94.2 0 15) ∧ (h94.2 0 15) ≤ 2147483647 := fM_15 s96
                    exact zj_iret rfl (zdk ttX11_readAllKin 32 rfl rfl) (Nat.le_refl _) (Nat.le_refl _) ⟨(-1), rfl, by omega, s96, f106, (fun i i9 => ((u97 i i9).trans (u65 i i9))), (by intro T t0; obtain ⟨xj, xd, xa, xk, xr⟩ := u64 T t0; have k_1 := tT4 xa.2.2.1; have k_1j := xa.1.1; obtain ⟨ei, ef, ep, er⟩ := (u98 T xj xa (by omega)).2 (by omega); rw [show h41.2 0 6 = h.2 0 6 from zfr_f f43 rfl rfl] at er; exact ⟨fun z => absurd z (by omega), fun _ => ⟨ei, ef, (by have q9 := ep; unfold tEp at q9 ⊢; rw [show h41.2 7 = h.2 7 from funext fun i8 => (zfr_a f43 rfl (by decide)), show h41.2 0 11 = h.2 0 11 from (zfr_f f43 rfl rfl)] at q9; exact q9), fun p9 => tRe_t (xr p9) (er p9 x40 [] _ _ (by omega))⟩⟩)⟩
                · refine zj_aload_n (zdk ttX11_readAllKin 23 rfl rfl) rfl (by decide) ?_
                  refine zj_iconst (zdk ttX11_readAllKin 24 rfl rfl) ?_
                  refine zj_callV (av := [.inl 3]) (st := []) (zdk ttX11_readAllKin 25 rfl rfl) mb_X11_errs mv_RX11_197 (ci := 11) rfl rfl (k_M s42) rfl rfl (Nat.le_of_ble_eq_true rfl) (s2_X11_errs l h41 3 s42 (by omega)) (rm_ok (by decide) (by decide)) (zq_i fun v112 h113 q111 => ?_)
                  obtain ⟨b114, s115, f117, u116⟩ := q111
                  have f118 : zfr [12, 13, 14, 15, 29, 30] [19] h h113 := zfr_t f43 f117 rfl rfl
                  have b119 : 0 ≤ (h.2 0 14) ∧ (h.2 0 14) ≤ 4 := fM_14 s0
                  have b120 : -2147483648 ≤ (h.2 0 15) ∧ (h.2 0 15) ≤ 2147483647 := fM_15 s0
                  have b121 : h113.2 0 14 = (h41.2 0 14) := (zfr_f f117 rfl rfl)
                  have b122 : h113.2 0 15 = (h41.2 0 15) := (zfr_f f117 rfl rfl)
                  exact zj_iret rfl (zdk ttX11_readAllKin 26 rfl rfl) (Nat.le_refl _) (Nat.le_refl _) ⟨v112, rfl, by omega, s115, f118, (fun i i9 => ((zfr_a f117 rfl (by decide)).trans (u65 i i9))), (by intro T t0; obtain ⟨xj, xd, xa, xk, xr⟩ := u64 T t0; have k_1 := tT4 xa.2.2.1; have k_1j := xa.1.1; have e_2 : tEp h h113 xj 3 := ⟨u116.1, xa.1.1, by have q9 := xa.2.1; rw [show h41.2 7 = h.2 7 from funext fun i9 => (zfr_a f43 rfl (by decide)), show h41.2 0 11 = h.2 0 11 from (zfr_f f43 rfl rfl)] at q9; rw [u116.2]; exact q9⟩; exact ⟨fun z => absurd z (by omega), fun _ => ⟨xj, _, e_2, fun p9 => by first | exact tRe_s (xr p9) (tMl_3 (Or.inr (Or.inr rfl)) (by omega) (by omega)) | exact tRe_s (xr p9) (tMl_1 (Or.inr (Or.inr rfl)) (by omega) (by omega))⟩⟩)⟩
        have b123 : 0 ≤ (h.2 0 14) ∧ (h.2 0 14) ≤ 4 := fM_14 s0
        have b124 : -2147483648 ≤ (h.2 0 15) ∧ (h.2 0 15) ≤ 2147483647 := fM_15 s0
        have b125 : 0 ≤ (h2.2 0 14) ∧ (h2.2 0 14) ≤ 4 := fM_14 s3
        have b126 : -2147483648 ≤ (h2.2 0 15) ∧ (h2.2 0 15) ≤ 2147483647 := fM_15 s3
        exact lp62 _ 0 h2 (by omega) s3 f4 (by intro T t0; have a9 : tPm 4 T 0 h2 := tPm_f t0 (fun k => zfr_a f4 rfl (by decide)) (fun k => zfr_a f4 rfl (by decide)) (u34 11) (u34 12) (u34 13) (u34 14) (u34 15); exact ⟨0, [], a9, fun i a b => u35 (18 + i) (by omega) (by omega), fun p9 => tRe_r⟩) (fun i i9 => (u36 i i9)) (Nat.lt_succ_self _)
      · refine zj_aload_n (zdk ttX11_readAllKin 5 rfl rfl) rfl (by decide) ?_
        refine zj_getr (r := 19) (zdk ttX11_readAllKin 6 rfl rfl) zf_RX11_68 rfl (k_M s3) (rfM_38 s3) ?_
        refine zj_bipush (zdk ttX11_readAllKin 7 rfl rfl) (by decide) ?_
        refine zj_iload_n (zdk ttX11_readAllKin 8 rfl rfl) rfl ?_
        refine zj_iadd (zdk ttX11_readAllKin 9 rfl rfl) ?_
        refine zj_iconst (zdk ttX11_readAllKin 10 rfl rfl) ?_
        refine zj_iast (zdk ttX11_readAllKin 11 rfl rfl) (kaM_19 s3) (by decide) (by omega) (fun h127 e128 => ?_)
        refine zj_iinc (L' := [some (.inr 0), some (.inl (x1 + 1))]) (zdk ttX11_readAllKin 12 rfl rfl) rfl (by decide) rfl ?_
        refine zj_goto (t := 2) (zdk ttX11_readAllKin 13 rfl rfl) (by decide) ?_
        have s129 : okM h127 := awM_19 s3 e128 (by omega) (by unfold nsp; omega)
        have f130 : zfr [12, 13, 14, 15, 29, 30] [19] h h127 := zfr_wa f4 e128 rfl
        exact ih38  (x1 + 1) h127 (by omega) s129 f130 (fun k9 => (zwr_r e128 (by first | decide | exact (absurd ·.1 (by decide)) | exact (absurd ·.2 (by decide)) | omega)).trans (u34 k9)) (fun i a b => (Classical.em (i = (18 + x1))).elim (fun q => by rw [q]; exact zwr_v e128) (fun q => (zwr_r e128 (by first | decide | exact (absurd ·.1 (by decide)) | exact (absurd ·.2 (by decide)) | omega)).trans (u35 i a (by omega)))) (fun i i9 => ((zwr_r e128 (by first | decide | exact (absurd ·.1 (by decide)) | exact (absurd ·.2 (by decide)) | omega)).trans (u36 i i9))) (by omega)
  exact lp32 _ 0 h (by omega) s0 (zfr_r _ _ _) (fun k9 => rfl) (fun i a b => absurd b (by omega)) (fun i i9 => rfl) (Nat.lt_succ_self _)

