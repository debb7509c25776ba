abbrev q2_X11_readsText (h : zM) (p1 : Int) : Option zV → zM → Prop := zqi fun v h' => ((-1) ≤ v ∧ v ≤ 16) ∧ okM h' ∧ zfr [12, 13, 14, 15, 24, 25, 26, 28, 29, 30] [10, 11, 12, 13, 14, 15, 16, 17, 18, 19] h h' ∧ (p1 = 0 → 0 ≤ v → zLn h' v) ∧ (p1 = 2 → ∀ j, 0 ≤ j → j < v → wfD1 (h'.2 18 (48 + 3 * j + 1)) (h'.2 18 (48 + 3 * j + 2))) ∧ (tWr h → h.2 0 12 = 0 → h.2 0 26 = 0 → ∀ T, (∀ (j : Nat) q, tQ (h.2 7) (h.2 0 11) j q → tC (tTi p1) (h.2 7) (h.2 0 11) q (T j)) → tOo p1 (h.2 0 6) T (h.2 7) (h.2 0 11) v (h'.2 0 29) (h'.2 0 30))
set_option maxRecDepth 100000 in
set_option maxHeartbeats 4000000 in
theorem s2_X11_readsText (l : Launch) (h : zM) (p1 : Int) (s0 : okM h) (b_p1 : 0 ≤ p1 ∧ p1 ≤ 3) (u_0 : h.2 0 25 = 0) : zT shM l yX11_readsText cX11_readsText 2 (some .int) (rmL 10) 0 0 [.inr 0, .inl p1] h (q2_X11_readsText h p1) := by
  refine zT_of (by decide +kernel) (L0 := [some (.inr 0), some (.inl p1)]) rfl (Nat.le_of_ble_eq_true rfl) ?_
  refine zj_aload_n (zdk ttX11_readsText 0 rfl rfl) rfl (by decide) ?_
  refine zj_iconst (zdk ttX11_readsText 1 rfl rfl) ?_
  refine zj_puti (zdk ttX11_readsText 2 rfl rfl) zf_RX11_245 rfl (k_M s0) (Or.inl zw_RX11_245) (k2 := 24) rfl (fun h1 e2 => ?_)
  refine zj_aload_n (zdk ttX11_readsText 3 rfl rfl) rfl (by decide) ?_
  have s3 : okM h1 := fwM_24 s0 e2 (by omega)
  refine zj_callV (av := []) (st := []) (zdk ttX11_readsText 4 rfl rfl) mb_X11_reads mv_RX11_204 (ci := 11) rfl rfl (k_M s3) rfl rfl (Nat.le_of_ble_eq_true rfl) (s2_X11_reads l h1 s3) (rm_ok (by decide) (by decide)) (zq_v fun h6 q4 => ?_)
  obtain ⟨s8, f12, u9, u10, u11⟩ := q4
  refine zj_iload_n (zdk ttX11_readsText 5 rfl rfl) rfl ?_
  refine zj_iconst (zdk ttX11_readsText 6 rfl rfl) ?_
  refine zj_icmp_ne (t := 19) (zdk ttX11_readsText 7 rfl rfl) (by decide) (by omega) (by decide) (fun c13 => ?_) (fun c13 => ?_)
  · refine zj_iload_n (zdk ttX11_readsText 11 rfl rfl) rfl ?_
    refine zj_iconst (zdk ttX11_readsText 12 rfl rfl) ?_
    refine zj_icmp_ne (t := 29) (zdk ttX11_readsText 13 rfl rfl) (by decide) (by omega) (by decide) (fun c14 => ?_) (fun c14 => ?_)
    · refine zj_iload_n (zdk ttX11_readsText 17 rfl rfl) rfl ?_
      refine zj_iconst (zdk ttX11_readsText 18 rfl rfl) ?_
      refine zj_icmp_ne (t := 41) (zdk ttX11_readsText 19 rfl rfl) (by decide) (by omega) (by decide) (fun c15 => ?_) (fun c15 => ?_)
      · refine zj_aload_n (zdk ttX11_readsText 23 rfl rfl) rfl (by decide) ?_
        have b16 : h6.2 0 25 = (h.2 0 25) := ((zfr_f f12 rfl rfl).trans (zwr_r e2 (by first | decide | exact (absurd ·.1 (by decide)) | exact (absurd ·.2 (by decide)) | omega)))
        have b17 : 0 ≤ (h.2 0 25) ∧ (h.2 0 25) ≤ 400 := fM_25 s0
        have b18 : 0 ≤ (h6.2 0 13) ∧ (h6.2 0 13) ≤ 400 := fM_13 s8
        refine zj_callV (av := []) (st := []) (zdk ttX11_readsText 24 rfl rfl) mb_X11_readLaw mv_RX11_279 (ci := 11) rfl rfl (k_M s8) rfl rfl (Nat.le_of_ble_eq_true rfl) (s2_X11_readLaw l h6 s8 u9 (by omega)) (rm_ok (by decide) (by decide)) (zq_i fun v20 h21 q19 => ?_)
        obtain ⟨b22, s23, f26, u24, u25⟩ := q19
        have f29 : zfr [12, 13, 14, 15, 24, 25, 26, 28, 29, 30] [10, 11, 12, 13, 14, 15, 16, 17, 18, 19] h h1 := zfr_wf (zfr_r _ _ _) e2 rfl
        have f28 : zfr [12, 13, 14, 15, 24, 25, 26, 28, 29, 30] [10, 11, 12, 13, 14, 15, 16, 17, 18, 19] h h6 := zfr_t f29 f12 rfl rfl
        have f27 : zfr [12, 13, 14, 15, 24, 25, 26, 28, 29, 30] [10, 11, 12, 13, 14, 15, 16, 17, 18, 19] h h21 := zfr_t f28 f26 rfl rfl
        exact zj_iret rfl (zdk ttX11_readsText 25 rfl rfl) (Nat.le_refl _) (Nat.le_refl _) ⟨v20, rfl, by omega, s23, f27, (fun _ => u24), (fun q => absurd q (by omega)), (by intro W z12 z26 T ok; rw [show tTi p1 = 0 by rw [show p1 = 0 by omega]; rfl] at ok; have r9 := u11 (fun k a b => ((zwr_r e2 (by first | decide | exact (absurd ·.1 (by decide)) | exact (absurd ·.2 (by decide)) | omega))).trans (W k a b)) (by rw [show h1.2 0 12 = h.2 0 12 from (zwr_r e2 (by first | decide | exact (absurd ·.1 (by decide)) | exact (absurd ·.2 (by decide)) | omega)), show h1.2 0 11 = h.2 0 11 from (zwr_r e2 (by first | decide | exact (absurd ·.1 (by decide)) | exact (absurd ·.2 (by decide)) | omega)), z12]; have l9 := fM_11 s0; omega); have t9 : tPm 0 T 0 h6 := tPm_s (h := h1) (by decide) (by decide) (fun k a b => ((zwr_r e2 (by first | decide | exact (absurd ·.1 (by decide)) | exact (absurd ·.2 (by decide)) | omega))).trans (W k a b)) (by rw [show h1.2 0 11 = h.2 0 11 from (zwr_r e2 (by first | decide | exact (absurd ·.1 (by decide)) | exact (absurd ·.2 (by decide)) | omega))]; exact (fM_11 s0).2) (by rw [show h1.2 7 = h.2 7 from funext fun i8 => (zwr_r e2 (by first | decide | exact (absurd ·.1 (by decide)) | exact (absurd ·.2 (by decide)) | omega)), show h1.2 0 11 = h.2 0 11 from (zwr_r e2 (by first | decide | exact (absurd ·.1 (by decide)) | exact (absurd ·.2 (by decide)) | omega))]; exact ok) (fun q z => by rw [show h1.2 0 12 = 0 from ((zwr_r e2 (by first | decide | exact (absurd ·.1 (by decide)) | exact (absurd ·.2 (by decide)) | omega))).trans z12] at z; exact z) r9 (fun k => (zfr_a f12 rfl (by decide))) (fun k => (zfr_a f12 rfl (by decide))) (zfr_f f12 rfl rfl); have q9 := u25 T t9 ((zfr_f f12 rfl rfl).trans (((zwr_r e2 (by first | decide | exact (absurd ·.1 (by decide)) | exact (absurd ·.2 (by decide)) | omega))).trans z26)); exact tOo_k (Or.inl ⟨by omega, rfl, rfl⟩) (fun z => by obtain ⟨j8, r8⟩ := q9.1 z; exact ⟨j8, r8 0⟩) (fun z => by obtain ⟨i8, f8, p8, r8⟩ := q9.2 z; unfold tEp at p8; rw [show h6.2 7 = h.2 7 from funext fun i8 => ((zfr_a f12 rfl (by decide))).trans (zwr_r e2 (by first | decide | exact (absurd ·.1 (by decide)) | exact (absurd ·.2 (by decide)) | omega)), show h6.2 0 11 = h.2 0 11 from ((zfr_f f12 rfl rfl)).trans (zwr_r e2 (by first | decide | exact (absurd ·.1 (by decide)) | exact (absurd ·.2 (by decide)) | omega))] at p8; exact ⟨i8, f8, p8, r8 0⟩))⟩
      · refine zj_aload_n (zdk ttX11_readsText 20 rfl rfl) rfl (by decide) ?_
        refine zj_callV (av := []) (st := []) (zdk ttX11_readsText 21 rfl rfl) mb_X11_readAllKin mv_RX11_276 (ci := 11) rfl rfl (k_M s8) rfl rfl (Nat.le_of_ble_eq_true rfl) (s2_X11_readAllKin l h6 s8) (rm_ok (by decide) (by decide)) (zq_i fun v31 h32 q30 => ?_)
        obtain ⟨b33, s34, f36, u35⟩ := q30
        refine zj_goto (t := 45) (zdk ttX11_readsText 22 rfl rfl) (by decide) ?_
        have f39 : zfr [12, 13, 14, 15, 24, 25, 26, 28, 29, 30] [10, 11, 12, 13, 14, 15, 16, 17, 18, 19] h h1 := zfr_wf (zfr_r _ _ _) e2 rfl
        have f38 : zfr [12, 13, 14, 15, 24, 25, 26, 28, 29, 30] [10, 11, 12, 13, 14, 15, 16, 17, 18, 19] h h6 := zfr_t f39 f12 rfl rfl
        have f37 : zfr [12, 13, 14, 15, 24, 25, 26, 28, 29, 30] [10, 11, 12, 13, 14, 15, 16, 17, 18, 19] h h32 := zfr_t f38 f36 rfl rfl
        exact zj_iret rfl (zdk ttX11_readsText 25 rfl rfl) (Nat.le_refl _) (Nat.le_refl _) ⟨v31, rfl, by omega, s34, f37, (fun q => absurd q (by omega)), (fun q => absurd q (by omega)), (by intro W z12 z26 T ok; rw [show tTi p1 = 4 by rw [show p1 = 3 by omega]; rfl] at ok; have r9 := u11 (fun k a b => ((zwr_r e2 (by first | decide | exact (absurd ·.1 (by decide)) | exact (absurd ·.2 (by decide)) | omega))).trans (W k a b)) (by rw [show h1.2 0 12 = h.2 0 12 from (zwr_r e2 (by first | decide | exact (absurd ·.1 (by decide)) | exact (absurd ·.2 (by decide)) | omega)), show h1.2 0 11 = h.2 0 11 from (zwr_r e2 (by first | decide | exact (absurd ·.1 (by decide)) | exact (absurd ·.2 (by decide)) | omega)), z12]; have l9 := fM_11 s0; omega); have t9 : tPm 4 T 0 h6 := tPm_s (h := h1) (by decide) (by decide) (fun k a b => ((zwr_r e2 (by first | decide | exact (absurd ·.1 (by decide)) | exact (absurd ·.2 (by decide)) | omega))).trans (W k a b)) (by rw [show h1.2 0 11 = h.2 0 11 from (zwr_r e2 (by first | decide | exact (absurd ·.1 (by decide)) | exact (absurd ·.2 (by decide)) | omega))]; exact (fM_11 s0).2) (by rw [show h1.2 7 = h.2 7 from funext fun i8 => (zwr_r e2 (by first | decide | exact (absurd ·.1 (by decide)) | exact (absurd ·.2 (by decide)) | omega)), show h1.2 0 11 = h.2 0 11 from (zwr_r e2 (by first | decide | exact (absurd ·.1 (by decide)) | exact (absurd ·.2 (by decide)) | omega))]; exact ok) (fun q z => by rw [show h1.2 0 12 = 0 from ((zwr_r e2 (by first | decide | exact (absurd ·.1 (by decide)) | exact (absurd ·.2 (by decide)) | omega))).trans z12] at z; exact z) r9 (fun k => (zfr_a f12 rfl (by decide))) (fun k => (zfr_a f12 rfl (by decide))) (zfr_f f12 rfl rfl); have q9 := u35 T t9; rw [show h6.2 0 6 = h.2 0 6 from ((zfr_f f12 rfl rfl).trans (zwr_r e2 (by first | decide | exact (absurd ·.1 (by decide)) | exact (absurd ·.2 (by decide)) | omega)))] at q9; exact tOo_k (Or.inr (Or.inr (Or.inr ⟨by omega, rfl, rfl⟩))) (fun z => by obtain ⟨j8, r8⟩ := q9.1 z; exact ⟨j8, r8 0⟩) (fun z => by obtain ⟨i8, f8, p8, r8⟩ := q9.2 z; unfold tEp at p8; rw [show h6.2 7 = h.2 7 from funext fun i8 => ((zfr_a f12 rfl (by decide))).trans (zwr_r e2 (by first | decide | exact (absurd ·.1 (by decide)) | exact (absurd ·.2 (by decide)) | omega)), show h6.2 0 11 = h.2 0 11 from ((zfr_f f12 rfl rfl)).trans (zwr_r e2 (by first | decide | exact (absurd ·.1 (by decide)) | exact (absurd ·.2 (by decide)) | omega))] at p8; exact ⟨i8, f8, p8, r8 0⟩))⟩
    · refine zj_aload_n (zdk ttX11_readsText 14 rfl rfl) rfl (by decide) ?_
      refine zj_callV (av := []) (st := []) (zdk ttX11_readsText 15 rfl rfl) mb_X11_readTown mv_RX11_273 (ci := 11) rfl rfl (k_M s8) rfl rfl (Nat.le_of_ble_eq_true rfl) (s2_X11_readTown l h6 s8) (rm_ok (by decide) (by decide)) (zq_i fun v41 h42 q40 => ?_)
      obtain ⟨b43, s44, f47, u45, u46⟩ := q40
      have f50 : zfr [12, 13, 14, 15, 24, 25, 26, 28, 29, 30] [10, 11, 12, 13, 14, 15, 16, 17, 18, 19] h h1 := zfr_wf (zfr_r _ _ _) e2 rfl
      have f49 : zfr [12, 13, 14, 15, 24, 25, 26, 28, 29, 30] [10, 11, 12, 13, 14, 15, 16, 17, 18, 19] h h6 := zfr_t f50 f12 rfl rfl
      have f48 : zfr [12, 13, 14, 15, 24, 25, 26, 28, 29, 30] [10, 11, 12, 13, 14, 15, 16, 17, 18, 19] h h42 := zfr_t f49 f47 rfl rfl
      exact zj_iret rfl (zdk ttX11_readsText 16 rfl rfl) (Nat.le_refl _) (Nat.le_refl _) ⟨v41, rfl, by omega, s44, f48, (fun q => absurd q (by omega)), (fun _ => u45), (by intro W z12 z26 T ok; rw [show tTi p1 = 3 by rw [show p1 = 2 by omega]; rfl] at ok; have r9 := u11 (fun k a b => ((zwr_r e2 (by first | decide | exact (absurd ·.1 (by decide)) | exact (absurd ·.2 (by decide)) | omega))).trans (W k a b)) (by rw [show h1.2 0 12 = h.2 0 12 from (zwr_r e2 (by first | decide | exact (absurd ·.1 (by decide)) | exact (absurd ·.2 (by decide)) | omega)), show h1.2 0 11 = h.2 0 11 from (zwr_r e2 (by first | decide | exact (absurd ·.1 (by decide)) | exact (absurd ·.2 (by decide)) | omega)), z12]; have l9 := fM_11 s0; omega); have t9 : tPm 3 T 0 h6 := tPm_s (h := h1) (by decide) (by decide) (fun k a b => ((zwr_r e2 (by first | decide | exact (absurd ·.1 (by decide)) | exact (absurd ·.2 (by decide)) | omega))).trans (W k a b)) (by rw [show h1.2 0 11 = h.2 0 11 from (zwr_r e2 (by first | decide | exact (absurd ·.1 (by decide)) | exact (absurd ·.2 (by decide)) | omega))]; exact (fM_11 s0).2) (by rw [show h1.2 7 = h.2 7 from funext fun i8 => (zwr_r e2 (by first | decide | exact (absurd ·.1 (by decide)) | exact (absurd ·.2 (by decide)) | omega)), show h1.2 0 11 = h.2 0 11 from (zwr_r e2 (by first | decide | exact (absurd ·.1 (by decide)) | exact (absurd ·.2 (by decide)) | omega))]; exact ok) (fun q z => by rw [show h1.2 0 12 = 0 from ((zwr_r e2 (by first | decide | exact (absurd ·.1 (by decide)) | exact (absurd ·.2 (by decide)) | omega))).trans z12] at z; exact z) r9 (fun k => (zfr_a f12 rfl (by decide))) (fun k => (zfr_a f12 rfl (by decide))) (zfr_f f12 rfl rfl); have q9 := u46 T t9; rw [show h6.2 0 6 = h.2 0 6 from ((zfr_f f12 rfl rfl).trans (zwr_r e2 (by first | decide | exact (absurd ·.1 (by decide)) | exact (absurd ·.2 (by decide)) | omega)))] at q9; exact tOo_k (Or.inr (Or.inr (Or.inl ⟨by omega, rfl, rfl⟩))) (fun z => by obtain ⟨j8, r8⟩ := q9.1 z; exact ⟨j8, r8 0⟩) (fun z => by obtain ⟨i8, f8, p8, r8⟩ := q9.2 z; unfold tEp at p8; rw [show h6.2 7 = h.2 7 from funext fun i8 => ((zfr_a f12 rfl (by decide))).trans (zwr_r e2 (by first | decide | exact (absurd ·.1 (by decide)) | exact (absurd ·.2 (by decide)) | omega)), show h6.2 0 11 = h.2 0 11 from ((zfr_f f12 rfl rfl)).trans (zwr_r e2 (by first | decide | exact (absurd ·.1 (by decide)) | exact (absurd ·.2 (by decide)) | omega))] at p8; exact ⟨i8, f8, p8, r8 0⟩))⟩
  · refine zj_aload_n (zdk ttX11_readsText 8 rfl rfl) rfl (by decide) ?_
    refine zj_callV (av := []) (st := []) (zdk ttX11_readsText 9 rfl rfl) mb_X11_readBoats mv_RX11_270 (ci := 11) rfl rfl (k_M s8) rfl rfl (Nat.le_of_ble_eq_true rfl) (s2_X11_readBoats l h6 s8) (rm_ok (by decide) (by decide)) (zq_i fun v52 h53 q51 => ?_)
    obtain ⟨b54, s55, f57, u56⟩ := q51
    have f60 : zfr [12, 13, 14, 15, 24, 25, 26, 28, 29, 30] [10, 11, 12, 13, 14, 15, 16, 17, 18, 19] h h1 := zfr_wf (zfr_r _ _ _) e2 rfl
    have f59 : zfr [12, 13, 14, 15, 24, 25, 26, 28, 29, 30] [10, 11, 12, 13, 14, 15, 16, 17, 18, 19] h h6 := zfr_t f60 f12 rfl rfl
    have f58 : zfr [12, 13, 14, 15, 24, 25, 26, 28, 29, 30] [10, 11, 12, 13, 14, 15, 16, 17, 18, 19] h h53 := zfr_t f59 f57 rfl rfl
    exact zj_iret rfl (zdk ttX11_readsText 10 rfl rfl) (Nat.le_refl _) (Nat.le_refl _) ⟨v52, rfl, by omega, s55, f58, (fun q => absurd q (by omega)), (fun q => absurd q (by omega)), (by intro W z12 z26 T ok; rw [show tTi p1 = 2 by rw [show p1 = 1 by omega]; rfl] at ok; have r9 := u11 (fun k a b => ((zwr_r e2 (by first | decide | exact (absurd ·.1 (by decide)) | exact (absurd ·.2 (by decide)) | omega))).trans (W k a b)) (by rw [show h1.2 0 12 = h.2 0 12 from (zwr_r e2 (by first | decide | exact (absurd ·.1 (by decide)) | exact (absurd ·.2 (by decide)) | omega)), show h1.2 0 11 = h.2 0 11 from (zwr_r e2 (by first | decide | exact (absurd ·.1 (by decide)) | exact (absurd ·.2 (by decide)) | omega)), z12]; have l9 := fM_11 s0; omega); have t9 : tPm 2 T 0 h6 := tPm_s (h := h1) (by decide) (by decide) (fun k a b => ((zwr_r e2 (by first | decide | exact (absurd ·.1 (by decide)) | exact (absurd ·.2 (by decide)) | omega))).trans (W k a b)) (by rw [show h1.2 0 11 = h.2 0 11 from (zwr_r e2 (by first | decide | exact (absurd ·.1 (by decide)) | exact (absurd ·.2 (by decide)) | omega))]; exact (fM_11 s0).2) (by rw [show h1.2 7 = h.2 7 from funext fun i8 => (zwr_r e2 (by first | decide | exact (absurd ·.1 (by decide)) | exact (absurd ·.2 (by decide)) | omega)), show h1.2 0 11 = h.2 0 11 from (zwr_r e2 (by first | decide | exact (absurd ·.1 (by decide)) | exact (absurd ·.2 (by decide)) | omega))]; exact ok) (fun q z => by rw [show h1.2 0 12 = 0 from ((zwr_r e2 (by first | decide | exact (absurd ·.1 (by decide)) | exact (absurd ·.2 (by decide)) | omega))).trans z12] at z; exact z) r9 (fun k => (zfr_a f12 rfl (by decide))) (fun k => (zfr_a f12 rfl (by decide))) (zfr_f f12 rfl rfl); have q9 := u56 T t9; exact tOo_k (Or.inr (Or.inl ⟨by omega, rfl, rfl⟩)) (fun z => by obtain ⟨j8, r8⟩ := q9.1 z; exact ⟨j8, r8 0⟩) (fun z => by obtain ⟨i8, f8, p8, r8⟩ := q9.2 z; unfold tEp at p8; rw [show h6.2 7 = h.2 7 from funext fun i8 => ((zfr_a f12 rfl (by decide))).trans (zwr_r e2 (by first | decide | exact (absurd ·.1 (by decide)) | exact (absurd ·.2 (by decide)) | omega)), show h6.2 0 11 = h.2 0 11 from ((zfr_f f12 rfl rfl)).trans (zwr_r e2 (by first | decide | exact (absurd ·.1 (by decide)) | exact (absurd ·.2 (by decide)) | omega))] at p8; exact ⟨i8, f8, p8, r8 0⟩))⟩

abbrev q2_X11_text (h : zM) (p1 : Int) : Option zV → zM → Prop := zqi fun v h' => ((-2147483648) ≤ v ∧ v ≤ 2147483647) ∧ okM h' ∧ zfr [0, 3, 11, 12, 13, 14, 15, 24, 25, 26, 28, 29, 30, 31, 32, 33, 35, 37] [9, 10, 11, 12, 13, 14, 15, 16, 17, 18, 19] h h' ∧ (h'.2 0 11 = 0) ∧ (tWr h → tTM p1 (h.2 0 6) (h.2 7) (h.2 0 11) v (h'.2 0 31) (h'.2 0 32))
set_option maxRecDepth 100000 in
set_option maxHeartbeats 4000000 in
theorem s2_X11_text (l : Launch) (h : zM) (p1 : Int) (s0 : okM h) (b_p1 : (-2147483648) ≤ p1 ∧ p1 ≤ 2147483647) : zT shM l yX11_text cX11_text 3 (some .int) (rmL 11) 0 0 [.inr 0, .inl p1] h (q2_X11_text h p1) := by
  refine zT_of (by decide +kernel) (L0 := [some (.inr 0), some (.inl p1), none]) rfl (Nat.le_of_ble_eq_true rfl) ?_
  refine zj_aload_n (zdk ttX11_text 0 rfl rfl) rfl (by decide) ?_
  refine zj_iconst (zdk ttX11_text 1 rfl rfl) ?_
  refine zj_puti (zdk ttX11_text 2 rfl rfl) zf_RX11_120 rfl (k_M s0) (Or.inl zw_RX11_120) (k2 := 0) rfl (fun h1 e2 => ?_)
  refine zj_aload_n (zdk ttX11_text 3 rfl rfl) rfl (by decide) ?_
  refine zj_iconst (zdk ttX11_text 4 rfl rfl) ?_
  have s3 : okM h1 := fwM_0 s0 e2 (by omega)
  refine zj_puti (zdk ttX11_text 5 rfl rfl) zf_RX11_291 rfl (k_M s3) (Or.inl zw_RX11_291) (k2 := 31) rfl (fun h4 e5 => ?_)
  refine zj_aload_n (zdk ttX11_text 6 rfl rfl) rfl (by decide) ?_
  refine zj_iconst (zdk ttX11_text 7 rfl rfl) ?_
  have s6 : okM h4 := fwM_31 s3 e5 (by omega)
  refine zj_puti (zdk ttX11_text 8 rfl rfl) zf_RX11_58 rfl (k_M s6) (Or.inl zw_RX11_58) (k2 := 32) rfl (fun h7 e8 => ?_)
  refine zj_aload_n (zdk ttX11_text 9 rfl rfl) rfl (by decide) ?_
  refine zj_iconst (zdk ttX11_text 10 rfl rfl) ?_
  have s9 : okM h7 := fwM_32 s6 e8 (by omega)
  refine zj_puti (zdk ttX11_text 11 rfl rfl) zf_RX11_156 rfl (k_M s9) (Or.inl zw_RX11_156) (k2 := 12) rfl (fun h10 e11 => ?_)
  refine zj_aload_n (zdk ttX11_text 12 rfl rfl) rfl (by decide) ?_
  refine zj_iconst (zdk ttX11_text 13 rfl rfl) ?_
  have s12 : okM h10 := fwM_12 s9 e11 (by omega)
  refine zj_puti (zdk ttX11_text 14 rfl rfl) zf_RX11_191 rfl (k_M s12) (Or.inl zw_RX11_191) (k2 := 25) rfl (fun h13 e14 => ?_)
  refine zj_aload_n (zdk ttX11_text 15 rfl rfl) rfl (by decide) ?_
  refine zj_iconst (zdk ttX11_text 16 rfl rfl) ?_
  have s15 : okM h13 := fwM_25 s12 e14 (by omega)
  refine zj_puti (zdk ttX11_text 17 rfl rfl) zf_RX11_223 rfl (k_M s15) (Or.inl zw_RX11_223) (k2 := 26) rfl (fun h16 e17 => ?_)
  refine zj_iconst (zdk ttX11_text 18 rfl rfl) ?_
  refine zj_istore_n (L' := [some (.inr 0), some (.inl p1), some (.inl (-1))]) (zdk ttX11_text 19 rfl rfl) (by decide) rfl ?_
  refine zj_aload_n (zdk ttX11_text 20 rfl rfl) rfl (by decide) ?_
  refine zj_iload_n (zdk ttX11_text 21 rfl rfl) rfl ?_
  refine zj_iconst (zdk ttX11_text 22 rfl rfl) ?_
  refine zj_iconst (zdk ttX11_text 23 rfl rfl) ?_
  have s18 : okM h16 := fwM_26 s15 e17 (by omega)
  refine zj_callV (av := [.inl p1, .inl 0, .inl 3]) (st := []) (zdk ttX11_text 24 rfl rfl) mb_X11_isIn mv_RX11_139 (ci := 11) rfl rfl (k_M s18) rfl rfl (Nat.le_of_ble_eq_true rfl) (s_X11_isIn l h16 p1 0 3 s18 (by omega) (by omega) (by omega)) (rm_ok (by decide) (by decide)) (zq_i fun v20 h21 q19 => ?_)
  obtain ⟨rfl, ⟨rfl, b22⟩ | ⟨rfl, b22⟩⟩ := q19
  · refine zj_if_eq (t := 69) (zdk ttX11_text 25 rfl rfl) (by decide) (by decide) (fun c23 => ?_) (fun c23 => ?_)
    · refine zj_aload_n (zdk ttX11_text 41 rfl rfl) rfl (by decide) ?_
      refine zj_iconst (zdk ttX11_text 42 rfl rfl) ?_
      refine zj_puti (zdk ttX11_text 43 rfl rfl) zf_RX11_149 rfl (k_M s18) (Or.inl zw_RX11_149) (k2 := 11) rfl (fun h24 e25 => ?_)
      refine zj_iload_n (zdk ttX11_text 44 rfl rfl) rfl ?_
      refine zj_iconst (zdk ttX11_text 45 rfl rfl) ?_
      refine zj_icmp_ne (t := 81) (zdk ttX11_text 46 rfl rfl) (by decide) (by decide) (by decide) (fun c26 => ?_) (fun c26 => ?_)
      · exact absurd c26 (by omega)
      · refine zj_iconst (zdk ttX11_text 47 rfl rfl) ?_
        have s27 : okM h24 := fwM_11 s18 e25 (by omega)
        have f34 : zfr [0, 3, 11, 12, 13, 14, 15, 24, 25, 26, 28, 29, 30, 31, 32, 33, 35, 37] [9, 10, 11, 12, 13, 14, 15, 16, 17, 18, 19] h h1 := zfr_wf (zfr_r _ _ _) e2 rfl
        have f33 : zfr [0, 3, 11, 12, 13, 14, 15, 24, 25, 26, 28, 29, 30, 31, 32, 33, 35, 37] [9, 10, 11, 12, 13, 14, 15, 16, 17, 18, 19] h h4 := zfr_wf f34 e5 rfl
        have f32 : zfr [0, 3, 11, 12, 13, 14, 15, 24, 25, 26, 28, 29, 30, 31, 32, 33, 35, 37] [9, 10, 11, 12, 13, 14, 15, 16, 17, 18, 19] h h7 := zfr_wf f33 e8 rfl
        have f31 : zfr [0, 3, 11, 12, 13, 14, 15, 24, 25, 26, 28, 29, 30, 31, 32, 33, 35, 37] [9, 10, 11, 12, 13, 14, 15, 16, 17, 18, 19] h h10 := zfr_wf f32 e11 rfl
        have f30 : zfr [0, 3, 11, 12, 13, 14, 15, 24, 25, 26, 28, 29, 30, 31, 32, 33, 35, 37] [9, 10, 11, 12, 13, 14, 15, 16, 17, 18, 19] h h13 := zfr_wf f31 e14 rfl
        have f29 : zfr [0, 3, 11, 12, 13, 14, 15, 24, 25, 26, 28, 29, 30, 31, 32, 33, 35, 37] [9, 10, 11, 12, 13, 14, 15, 16, 17, 18, 19] h h16 := zfr_wf f30 e17 rfl
        have f28 : zfr [0, 3, 11, 12, 13, 14, 15, 24, 25, 26, 28, 29, 30, 31, 32, 33, 35, 37] [9, 10, 11, 12, 13, 14, 15, 16, 17, 18, 19] h h24 := zfr_wf f29 e25 rfl
        have b35 : h24.2 0 11 = 0 := (zwr_v e25)
        have b36 : h24.2 0 31 = 0 := ((((((zwr_r e25 (by first | decide | exact (absurd ·.1 (by decide)) | exact (absurd ·.2 (by decide)) | omega)).trans (zwr_r e17 (by first | decide | exact (absurd ·.1 (by decide)) | exact (absurd ·.2 (by decide)) | omega))).trans (zwr_r e14 (by first | decide | exact (absurd ·.1 (by decide)) | exact (absurd ·.2 (by decide)) | omega))).trans (zwr_r e11 (by first | decide | exact (absurd ·.1 (by decide)) | exact (absurd ·.2 (by decide)) | omega))).trans (zwr_r e8 (by first | decide | exact (absurd ·.1 (by decide)) | exact (absurd ·.2 (by decide)) | omega))).trans (zwr_v e5))
        have b37 : h24.2 0 32 = (-1) := (((((zwr_r e25 (by first | decide | exact (absurd ·.1 (by decide)) | exact (absurd ·.2 (by decide)) | omega)).trans (zwr_r e17 (by first | decide | exact (absurd ·.1 (by decide)) | exact (absurd ·.2 (by decide)) | omega))).trans (zwr_r e14 (by first | decide | exact (absurd ·.1 (by decide)) | exact (absurd ·.2 (by decide)) | omega))).trans (zwr_r e11 (by first | decide | exact (absurd ·.1 (by decide)) | exact (absurd ·.2 (by decide)) | omega))).trans (zwr_v e8))
        exact zj_iret rfl (zdk ttX11_text 48 rfl rfl) (Nat.le_refl _) (Nat.le_refl _) ⟨(-1), rfl, by omega, s27, f28, by omega, (fun W => ⟨fun _ => ⟨by omega, by omega, by omega⟩, fun z => absurd z (by omega)⟩)⟩
    · exact absurd c23 (by omega)
  · refine zj_if_eq (t := 69) (zdk ttX11_text 25 rfl rfl) (by decide) (by decide) (fun c38 => ?_) (fun c38 => ?_)
    · exact absurd c38 (by omega)
    · refine zj_aload_n (zdk ttX11_text 26 rfl rfl) rfl (by decide) ?_
      refine zj_iload_n (zdk ttX11_text 27 rfl rfl) rfl ?_
      have b39 : h16.2 0 25 = 0 := ((zwr_r e17 (by first | decide | exact (absurd ·.1 (by decide)) | exact (absurd ·.2 (by decide)) | omega)).trans (zwr_v e14))
      refine zj_callV (av := [.inl p1]) (st := []) (zdk ttX11_text 28 rfl rfl) mb_X11_readsText mv_RX11_294 (ci := 11) rfl rfl (k_M s18) rfl rfl (Nat.le_of_ble_eq_true rfl) (s2_X11_readsText l h16 p1 s18 (by omega) (by omega)) (rm_ok (by decide) (by decide)) (zq_i fun v41 h42 q40 => ?_)
      obtain ⟨b43, s44, f48, u45, u46, u47⟩ := q40
      refine zj_istore_n (L' := [some (.inr 0), some (.inl p1), some (.inl v41)]) (zdk ttX11_text 29 rfl rfl) (by decide) rfl ?_
      refine zj_iload_n (zdk ttX11_text 30 rfl rfl) rfl ?_
      refine zj_iconst (zdk ttX11_text 31 rfl rfl) ?_
      refine zj_icmp_ne (t := 69) (zdk ttX11_text 32 rfl rfl) (by decide) (by omega) (by decide) (fun c49 => ?_) (fun c49 => ?_)
      · refine zj_aload_n (zdk ttX11_text 41 rfl rfl) rfl (by decide) ?_
        refine zj_iconst (zdk ttX11_text 42 rfl rfl) ?_
        refine zj_puti (zdk ttX11_text 43 rfl rfl) zf_RX11_149 rfl (k_M s44) (Or.inl zw_RX11_149) (k2 := 11) rfl (fun h50 e51 => ?_)
        refine zj_iload_n (zdk ttX11_text 44 rfl rfl) rfl ?_
        refine zj_iconst (zdk ttX11_text 45 rfl rfl) ?_
        refine zj_icmp_ne (t := 81) (zdk ttX11_text 46 rfl rfl) (by decide) (by omega) (by decide) (fun c52 => ?_) (fun c52 => ?_)
        · refine zj_iload_n (zdk ttX11_text 49 rfl rfl) rfl ?_
          refine zj_if_ne (t := 93) (zdk ttX11_text 50 rfl rfl) (by decide) (by omega) (fun c53 => ?_) (fun c53 => ?_)
          · refine zj_aload_n (zdk ttX11_text 55 rfl rfl) rfl (by decide) ?_
            refine zj_iload_n (zdk ttX11_text 56 rfl rfl) rfl ?_
            refine zj_iload_n (zdk ttX11_text 57 rfl rfl) rfl ?_
            have s54 : okM h50 := fwM_11 s44 e51 (by omega)
            refine zj_callV (av := [.inl p1, .inl v41]) (st := []) (zdk ttX11_text 58 rfl rfl) mb_X11_takesOther mv_RX11_300 (ci := 11) rfl rfl (k_M s54) rfl rfl (Nat.le_of_ble_eq_true rfl) (s_X11_takesOther l h50 p1 v41 s54 (by omega) (by omega) (fun q j j1 j2 => by rw [zwr_r e51 (by first | decide | exact (absurd ·.1 (by decide)) | exact (absurd ·.2 (by decide)) | omega), zwr_r e51 (by first | decide | exact (absurd ·.1 (by decide)) | exact (absurd ·.2 (by decide)) | omega)]; exact u46 q j j1 j2)) (rm_ok (by decide) (by decide)) (zq_v fun h57 q55 => ?_)
            obtain ⟨s59, f60⟩ := q55
            refine zj_iload_n (zdk ttX11_text 59 rfl rfl) rfl ?_
            have f69 : zfr [0, 3, 11, 12, 13, 14, 15, 24, 25, 26, 28, 29, 30, 31, 32, 33, 35, 37] [9, 10, 11, 12, 13, 14, 15, 16, 17, 18, 19] h h1 := zfr_wf (zfr_r _ _ _) e2 rfl
            have f68 : zfr [0, 3, 11, 12, 13, 14, 15, 24, 25, 26, 28, 29, 30, 31, 32, 33, 35, 37] [9, 10, 11, 12, 13, 14, 15, 16, 17, 18, 19] h h4 := zfr_wf f69 e5 rfl
            have f67 : zfr [0, 3, 11, 12, 13, 14, 15, 24, 25, 26, 28, 29, 30, 31, 32, 33, 35, 37] [9, 10, 11, 12, 13, 14, 15, 16, 17, 18, 19] h h7 := zfr_wf f68 e8 rfl
            have f66 : zfr [0, 3, 11, 12, 13, 14, 15, 24, 25, 26, 28, 29, 30, 31, 32, 33, 35, 37] [9, 10, 11, 12, 13, 14, 15, 16, 17, 18, 19] h h10 := zfr_wf f67 e11 rfl
            have f65 : zfr [0, 3, 11, 12, 13, 14, 15, 24, 25, 26, 28, 29, 30, 31, 32, 33, 35, 37] [9, 10, 11, 12, 13, 14, 15, 16, 17, 18, 19] h h13 := zfr_wf f66 e14 rfl
            have f64 : zfr [0, 3, 11, 12, 13, 14, 15, 24, 25, 26, 28, 29, 30, 31, 32, 33, 35, 37] [9, 10, 11, 12, 13, 14, 15, 16, 17, 18, 19] h h16 := zfr_wf f65 e17 rfl
            have f63 : zfr [0, 3, 11, 12, 13, 14, 15, 24, 25, 26, 28, 29, 30, 31, 32, 33, 35, 37] [9, 10, 11, 12, 13, 14, 15, 16, 17, 18, 19] h h42 := zfr_t f64 f48 rfl rfl
            have f62 : zfr [0, 3, 11, 12, 13, 14, 15, 24, 25, 26, 28, 29, 30, 31, 32, 33, 35, 37] [9, 10, 11, 12, 13, 14, 15, 16, 17, 18, 19] h h50 := zfr_wf f63 e51 rfl
            have f61 : zfr [0, 3, 11, 12, 13, 14, 15, 24, 25, 26, 28, 29, 30, 31, 32, 33, 35, 37] [9, 10, 11, 12, 13, 14, 15, 16, 17, 18, 19] h h57 := zfr_t f62 f60 rfl rfl
            have b70 : h57.2 0 11 = 0 := ((zfr_f f60 rfl rfl).trans (zwr_v e51))
            have b71 : h57.2 0 31 = 0 := ((((((((zfr_f f60 rfl rfl).trans (zwr_r e51 (by first | decide | exact (absurd ·.1 (by decide)) | exact (absurd ·.2 (by decide)) | omega))).trans (zfr_f f48 rfl rfl)).trans (zwr_r e17 (by first | decide | exact (absurd ·.1 (by decide)) | exact (absurd ·.2 (by decide)) | omega))).trans (zwr_r e14 (by first | decide | exact (absurd ·.1 (by decide)) | exact (absurd ·.2 (by decide)) | omega))).trans (zwr_r e11 (by first | decide | exact (absurd ·.1 (by decide)) | exact (absurd ·.2 (by decide)) | omega))).trans (zwr_r e8 (by first | decide | exact (absurd ·.1 (by decide)) | exact (absurd ·.2 (by decide)) | omega))).trans (zwr_v e5))
            have b72 : h57.2 0 32 = (-1) := (((((((zfr_f f60 rfl rfl).trans (zwr_r e51 (by first | decide | exact (absurd ·.1 (by decide)) | exact (absurd ·.2 (by decide)) | omega))).trans (zfr_f f48 rfl rfl)).trans (zwr_r e17 (by first | decide | exact (absurd ·.1 (by decide)) | exact (absurd ·.2 (by decide)) | omega))).trans (zwr_r e14 (by first | decide | exact (absurd ·.1 (by decide)) | exact (absurd ·.2 (by decide)) | omega))).trans (zwr_r e11 (by first | decide | exact (absurd ·.1 (by decide)) | exact (absurd ·.2 (by decide)) | omega))).trans (zwr_v e8))
            have b73 : h16.2 0 12 = 0 := (((zwr_r e17 (by first | decide | exact (absurd ·.1 (by decide)) | exact (absurd ·.2 (by decide)) | omega)).trans (zwr_r e14 (by first | decide | exact (absurd ·.1 (by decide)) | exact (absurd ·.2 (by decide)) | omega))).trans (zwr_v e11))
            have b74 : h16.2 0 26 = 0 := (zwr_v e17)
            exact zj_iret rfl (zdk ttX11_text 60 rfl rfl) (Nat.le_refl _) (Nat.le_refl _) ⟨v41, rfl, by omega, s59, f61, by omega, (by intro W; refine ⟨fun z => absurd (by omega) z, fun _ T ok => ?_⟩; have q9 := u47 (fun k a b => (((((((zwr_r e17 (by first | decide | exact (absurd ·.1 (by decide)) | exact (absurd ·.2 (by decide)) | omega)).trans (zwr_r e14 (by first | decide | exact (absurd ·.1 (by decide)) | exact (absurd ·.2 (by decide)) | omega))).trans (zwr_r e11 (by first | decide | exact (absurd ·.1 (by decide)) | exact (absurd ·.2 (by decide)) | omega))).trans (zwr_r e8 (by first | decide | exact (absurd ·.1 (by decide)) | exact (absurd ·.2 (by decide)) | omega))).trans (zwr_r e5 (by first | decide | exact (absurd ·.1 (by decide)) | exact (absurd ·.2 (by decide)) | omega))).trans (zwr_r e2 (by first | decide | exact (absurd ·.1 (by decide)) | exact (absurd ·.2 (by decide)) | omega)))).trans (W k a b)) (by omega) (by omega) T; rw [show h16.2 7 = h.2 7 from funext fun i8 => ((((((zwr_r e17 (by first | decide | exact (absurd ·.1 (by decide)) | exact (absurd ·.2 (by decide)) | omega)).trans (zwr_r e14 (by first | decide | exact (absurd ·.1 (by decide)) | exact (absurd ·.2 (by decide)) | omega))).trans (zwr_r e11 (by first | decide | exact (absurd ·.1 (by decide)) | exact (absurd ·.2 (by decide)) | omega))).trans (zwr_r e8 (by first | decide | exact (absurd ·.1 (by decide)) | exact (absurd ·.2 (by decide)) | omega))).trans (zwr_r e5 (by first | decide | exact (absurd ·.1 (by decide)) | exact (absurd ·.2 (by decide)) | omega))).trans (zwr_r e2 (by first | decide | exact (absurd ·.1 (by decide)) | exact (absurd ·.2 (by decide)) | omega))), show h16.2 0 11 = h.2 0 11 from ((((((zwr_r e17 (by first | decide | exact (absurd ·.1 (by decide)) | exact (absurd ·.2 (by decide)) | omega)).trans (zwr_r e14 (by first | decide | exact (absurd ·.1 (by decide)) | exact (absurd ·.2 (by decide)) | omega))).trans (zwr_r e11 (by first | decide | exact (absurd ·.1 (by decide)) | exact (absurd ·.2 (by decide)) | omega))).trans (zwr_r e8 (by first | decide | exact (absurd ·.1 (by decide)) | exact (absurd ·.2 (by decide)) | omega))).trans (zwr_r e5 (by first | decide | exact (absurd ·.1 (by decide)) | exact (absurd ·.2 (by decide)) | omega))).trans (zwr_r e2 (by first | decide | exact (absurd ·.1 (by decide)) | exact (absurd ·.2 (by decide)) | omega))), show h16.2 0 6 = h.2 0 6 from ((((((zwr_r e17 (by first | decide | exact (absurd ·.1 (by decide)) | exact (absurd ·.2 (by decide)) | omega)).trans (zwr_r e14 (by first | decide | exact (absurd ·.1 (by decide)) | exact (absurd ·.2 (by decide)) | omega))).trans (zwr_r e11 (by first | decide | exact (absurd ·.1 (by decide)) | exact (absurd ·.2 (by decide)) | omega))).trans (zwr_r e8 (by first | decide | exact (absurd ·.1 (by decide)) | exact (absurd ·.2 (by decide)) | omega))).trans (zwr_r e5 (by first | decide | exact (absurd ·.1 (by decide)) | exact (absurd ·.2 (by decide)) | omega))).trans (zwr_r e2 (by first | decide | exact (absurd ·.1 (by decide)) | exact (absurd ·.2 (by decide)) | omega)))] at q9; have q8 := q9 ok; obtain ⟨j8, r8⟩ := q8.1 (by omega); exact Or.inl ⟨by omega, by omega, by omega, j8, r8⟩)⟩
          · refine zj_aload_n (zdk ttX11_text 51 rfl rfl) rfl (by decide) ?_
            refine zj_iload_n (zdk ttX11_text 52 rfl rfl) rfl ?_
            have s75 : okM h50 := fwM_11 s44 e51 (by omega)
            refine zj_callV (av := [.inl v41]) (st := []) (zdk ttX11_text 53 rfl rfl) mb_X11_takesLaw mv_RX11_297 (ci := 11) rfl rfl (k_M s75) rfl rfl (Nat.le_of_ble_eq_true rfl) (s_X11_takesLaw l h50 v41 s75 (by omega) (zLn_f (u45 (by omega) (by omega)) e51 (by decide))) (rm_ok (by decide) (by decide)) (zq_v fun h78 q76 => ?_)
            obtain ⟨s80, f81⟩ := q76
            refine zj_goto (t := 99) (zdk ttX11_text 54 rfl rfl) (by decide) ?_
            refine zj_iload_n (zdk ttX11_text 59 rfl rfl) rfl ?_
            have f90 : zfr [0, 3, 11, 12, 13, 14, 15, 24, 25, 26, 28, 29, 30, 31, 32, 33, 35, 37] [9, 10, 11, 12, 13, 14, 15, 16, 17, 18, 19] h h1 := zfr_wf (zfr_r _ _ _) e2 rfl
            have f89 : zfr [0, 3, 11, 12, 13, 14, 15, 24, 25, 26, 28, 29, 30, 31, 32, 33, 35, 37] [9, 10, 11, 12, 13, 14, 15, 16, 17, 18, 19] h h4 := zfr_wf f90 e5 rfl
            have f88 : zfr [0, 3, 11, 12, 13, 14, 15, 24, 25, 26, 28, 29, 30, 31, 32, 33, 35, 37] [9, 10, 11, 12, 13, 14, 15, 16, 17, 18, 19] h h7 := zfr_wf f89 e8 rfl
            have f87 : zfr [0, 3, 11, 12, 13, 14, 15, 24, 25, 26, 28, 29, 30, 31, 32, 33, 35, 37] [9, 10, 11, 12, 13, 14, 15, 16, 17, 18, 19] h h10 := zfr_wf f88 e11 rfl
            have f86 : zfr [0, 3, 11, 12, 13, 14, 15, 24, 25, 26, 28, 29, 30, 31, 32, 33, 35, 37] [9, 10, 11, 12, 13, 14, 15, 16, 17, 18, 19] h h13 := zfr_wf f87 e14 rfl
            have f85 : zfr [0, 3, 11, 12, 13, 14, 15, 24, 25, 26, 28, 29, 30, 31, 32, 33, 35, 37] [9, 10, 11, 12, 13, 14, 15, 16, 17, 18, 19] h h16 := zfr_wf f86 e17 rfl
            have f84 : zfr [0, 3, 11, 12, 13, 14, 15, 24, 25, 26, 28, 29, 30, 31, 32, 33, 35, 37] [9, 10, 11, 12, 13, 14, 15, 16, 17, 18, 19] h h42 := zfr_t f85 f48 rfl rfl
            have f83 : zfr [0, 3, 11, 12, 13, 14, 15, 24, 25, 26, 28, 29, 30, 31, 32, 33, 35, 37] [9, 10, 11, 12, 13, 14, 15, 16, 17, 18, 19] h h50 := zfr_wf f84 e51 rfl
            have f82 : zfr [0, 3, 11, 12, 13, 14, 15, 24, 25, 26, 28, 29, 30, 31, 32, 33, 35, 37] [9, 10, 11, 12, 13, 14, 15, 16, 17, 18, 19] h h78 := zfr_t f83 f81 rfl rfl
            have b91 : h78.2 0 11 = 0 := ((zfr_f f81 rfl rfl).trans (zwr_v e51))
            have b92 : h78.2 0 31 = 0 := ((((((((zfr_f f81 rfl rfl).trans (zwr_r e51 (by first | decide | exact (absurd ·.1 (by decide)) | exact (absurd ·.2 (by decide)) | omega))).trans (zfr_f f48 rfl rfl)).trans (zwr_r e17 (by first | decide | exact (absurd ·.1 (by decide)) | exact (absurd ·.2 (by decide)) | omega))).trans (zwr_r e14 (by first | decide | exact (absurd ·.1 (by decide)) | exact (absurd ·.2 (by decide)) | omega))).trans (zwr_r e11 (by first | decide | exact (absurd ·.1 (by decide)) | exact (absurd ·.2 (by decide)) | omega))).trans (zwr_r e8 (by first | decide | exact (absurd ·.1 (by decide)) | exact (absurd ·.2 (by decide)) | omega))).trans (zwr_v e5))
            have b93 : h78.2 0 32 = (-1) := (((((((zfr_f f81 rfl rfl).trans (zwr_r e51 (by first | decide | exact (absurd ·.1 (by decide)) | exact (absurd ·.2 (by decide)) | omega))).trans (zfr_f f48 rfl rfl)).trans (zwr_r e17 (by first | decide | exact (absurd ·.1 (by decide)) | exact (absurd ·.2 (by decide)) | omega))).trans (zwr_r e14 (by first | decide | exact (absurd ·.1 (by decide)) | exact (absurd ·.2 (by decide)) | omega))).trans (zwr_r e11 (by first | decide | exact (absurd ·.1 (by decide)) | exact (absurd ·.2 (by decide)) | omega))).trans (zwr_v e8))
            have b94 : h16.2 0 12 = 0 := (((zwr_r e17 (by first | decide | exact (absurd ·.1 (by decide)) | exact (absurd ·.2 (by decide)) | omega)).trans (zwr_r e14 (by first | decide | exact (absurd ·.1 (by decide)) | exact (absurd ·.2 (by decide)) | omega))).trans (zwr_v e11))
            have b95 : h16.2 0 26 = 0 := (zwr_v e17)
            exact zj_iret rfl (zdk ttX11_text 60 rfl rfl) (Nat.le_refl _) (Nat.le_refl _) ⟨v41, rfl, by omega, s80, f82, by omega, (by intro W; refine ⟨fun z => absurd (by omega) z, fun _ T ok => ?_⟩; have q9 := u47 (fun k a b => (((((((zwr_r e17 (by first | decide | exact (absurd ·.1 (by decide)) | exact (absurd ·.2 (by decide)) | omega)).trans (zwr_r e14 (by first | decide | exact (absurd ·.1 (by decide)) | exact (absurd ·.2 (by decide)) | omega))).trans (zwr_r e11 (by first | decide | exact (absurd ·.1 (by decide)) | exact (absurd ·.2 (by decide)) | omega))).trans (zwr_r e8 (by first | decide | exact (absurd ·.1 (by decide)) | exact (absurd ·.2 (by decide)) | omega))).trans (zwr_r e5 (by first | decide | exact (absurd ·.1 (by decide)) | exact (absurd ·.2 (by decide)) | omega))).trans (zwr_r e2 (by first | decide | exact (absurd ·.1 (by decide)) | exact (absurd ·.2 (by decide)) | omega)))).trans (W k a b)) (by omega) (by omega) T; rw [show h16.2 7 = h.2 7 from funext fun i8 => ((((((zwr_r e17 (by first | decide | exact (absurd ·.1 (by decide)) | exact (absurd ·.2 (by decide)) | omega)).trans (zwr_r e14 (by first | decide | exact (absurd ·.1 (by decide)) | exact (absurd ·.2 (by decide)) | omega))).trans (zwr_r e11 (by first | decide | exact (absurd ·.1 (by decide)) | exact (absurd ·.2 (by decide)) | omega))).trans (zwr_r e8 (by first | decide | exact (absurd ·.1 (by decide)) | exact (absurd ·.2 (by decide)) | omega))).trans (zwr_r e5 (by first | decide | exact (absurd ·.1 (by decide)) | exact (absurd ·.2 (by decide)) | omega))).trans (zwr_r e2 (by first | decide | exact (absurd ·.1 (by decide)) | exact (absurd ·.2 (by decide)) | omega))), show h16.2 0 11 = h.2 0 11 from ((((((zwr_r e17 (by first | decide | exact (absurd ·.1 (by decide)) | exact (absurd ·.2 (by decide)) | omega)).trans (zwr_r e14 (by first | decide | exact (absurd ·.1 (by decide)) | exact (absurd ·.2 (by decide)) | omega))).trans (zwr_r e11 (by first | decide | exact (absurd ·.1 (by decide)) | exact (absurd ·.2 (by decide)) | omega))).trans (zwr_r e8 (by first | decide | exact (absurd ·.1 (by decide)) | exact (absurd ·.2 (by decide)) | omega))).trans (zwr_r e5 (by first | decide | exact (absurd ·.1 (by decide)) | exact (absurd ·.2 (by decide)) | omega))).trans (zwr_r e2 (by first | decide | exact (absurd ·.1 (by decide)) | exact (absurd ·.2 (by decide)) | omega))), show h16.2 0 6 = h.2 0 6 from ((((((zwr_r e17 (by first | decide | exact (absurd ·.1 (by decide)) | exact (absurd ·.2 (by decide)) | omega)).trans (zwr_r e14 (by first | decide | exact (absurd ·.1 (by decide)) | exact (absurd ·.2 (by decide)) | omega))).trans (zwr_r e11 (by first | decide | exact (absurd ·.1 (by decide)) | exact (absurd ·.2 (by decide)) | omega))).trans (zwr_r e8 (by first | decide | exact (absurd ·.1 (by decide)) | exact (absurd ·.2 (by decide)) | omega))).trans (zwr_r e5 (by first | decide | exact (absurd ·.1 (by decide)) | exact (absurd ·.2 (by decide)) | omega))).trans (zwr_r e2 (by first | decide | exact (absurd ·.1 (by decide)) | exact (absurd ·.2 (by decide)) | omega)))] at q9; have q8 := q9 ok; obtain ⟨j8, r8⟩ := q8.1 (by omega); exact Or.inl ⟨by omega, by omega, by omega, j8, r8⟩)⟩
        · exact absurd c52 (by omega)
      · refine zj_aload_n (zdk ttX11_text 33 rfl rfl) rfl (by decide) ?_
        refine zj_aload_n (zdk ttX11_text 34 rfl rfl) rfl (by decide) ?_
        have b96 : -2147483648 ≤ (h42.2 0 29) ∧ (h42.2 0 29) ≤ 2147483647 := fM_29 s44
        refine zj_geti (v := (h42.2 0 29)) (zdk ttX11_text 35 rfl rfl) zf_RX11_185 rfl (k_M s44) rfl ?_
        refine zj_puti (zdk ttX11_text 36 rfl rfl) zf_RX11_291 rfl (k_M s44) (Or.inl zw_RX11_291) (k2 := 31) rfl (fun h97 e98 => ?_)
        refine zj_aload_n (zdk ttX11_text 37 rfl rfl) rfl (by decide) ?_
        refine zj_aload_n (zdk ttX11_text 38 rfl rfl) rfl (by decide) ?_
        have b99 : -2147483648 ≤ (h42.2 0 30) ∧ (h42.2 0 30) ≤ 2147483647 := fM_30 s44
        have s100 : okM h97 := fwM_31 s44 e98 (by omega)
        refine zj_geti (v := (h42.2 0 30)) (zdk ttX11_text 39 rfl rfl) zf_RX11_188 rfl (k_M s100) (zwr_r e98 (by first | decide | exact (absurd ·.1 (by decide)) | exact (absurd ·.2 (by decide)) | omega)) ?_
        refine zj_puti (zdk ttX11_text 40 rfl rfl) zf_RX11_58 rfl (k_M s100) (Or.inl zw_RX11_58) (k2 := 32) rfl (fun h101 e102 => ?_)
        refine zj_aload_n (zdk ttX11_text 41 rfl rfl) rfl (by decide) ?_
        refine zj_iconst (zdk ttX11_text 42 rfl rfl) ?_
        have s103 : okM h101 := fwM_32 s100 e102 (by omega)
        refine zj_puti (zdk ttX11_text 43 rfl rfl) zf_RX11_149 rfl (k_M s103) (Or.inl zw_RX11_149) (k2 := 11) rfl (fun h104 e105 => ?_)
        refine zj_iload_n (zdk ttX11_text 44 rfl rfl) rfl ?_
        refine zj_iconst (zdk ttX11_text 45 rfl rfl) ?_
        refine zj_icmp_ne (t := 81) (zdk ttX11_text 46 rfl rfl) (by decide) (by omega) (by decide) (fun c106 => ?_) (fun c106 => ?_)
        · exact absurd c106 (by omega)
        · refine zj_iconst (zdk ttX11_text 47 rfl rfl) ?_
          have s107 : okM h104 := fwM_11 s103 e105 (by omega)
          have f117 : zfr [0, 3, 11, 12, 13, 14, 15, 24, 25, 26, 28, 29, 30, 31, 32, 33, 35, 37] [9, 10, 11, 12, 13, 14, 15, 16, 17, 18, 19] h h1 := zfr_wf (zfr_r _ _ _) e2 rfl
          have f116 : zfr [0, 3, 11, 12, 13, 14, 15, 24, 25, 26, 28, 29, 30, 31, 32, 33, 35, 37] [9, 10, 11, 12, 13, 14, 15, 16, 17, 18, 19] h h4 := zfr_wf f117 e5 rfl
          have f115 : zfr [0, 3, 11, 12, 13, 14, 15, 24, 25, 26, 28, 29, 30, 31, 32, 33, 35, 37] [9, 10, 11, 12, 13, 14, 15, 16, 17, 18, 19] h h7 := zfr_wf f116 e8 rfl
          have f114 : zfr [0, 3, 11, 12, 13, 14, 15, 24, 25, 26, 28, 29, 30, 31, 32, 33, 35, 37] [9, 10, 11, 12, 13, 14, 15, 16, 17, 18, 19] h h10 := zfr_wf f115 e11 rfl
          have f113 : zfr [0, 3, 11, 12, 13, 14, 15, 24, 25, 26, 28, 29, 30, 31, 32, 33, 35, 37] [9, 10, 11, 12, 13, 14, 15, 16, 17, 18, 19] h h13 := zfr_wf f114 e14 rfl
          have f112 : zfr [0, 3, 11, 12, 13, 14, 15, 24, 25, 26, 28, 29, 30, 31, 32, 33, 35, 37] [9, 10, 11, 12, 13, 14, 15, 16, 17, 18, 19] h h16 := zfr_wf f113 e17 rfl
          have f111 : zfr [0, 3, 11, 12, 13, 14, 15, 24, 25, 26, 28, 29, 30, 31, 32, 33, 35, 37] [9, 10, 11, 12, 13, 14, 15, 16, 17, 18, 19] h h42 := zfr_t f112 f48 rfl rfl
          have f110 : zfr [0, 3, 11, 12, 13, 14, 15, 24, 25, 26, 28, 29, 30, 31, 32, 33, 35, 37] [9, 10, 11, 12, 13, 14, 15, 16, 17, 18, 19] h h97 := zfr_wf f111 e98 rfl
          have f109 : zfr [0, 3, 11, 12, 13, 14, 15, 24, 25, 26, 28, 29, 30, 31, 32, 33, 35, 37] [9, 10, 11, 12, 13, 14, 15, 16, 17, 18, 19] h h101 := zfr_wf f110 e102 rfl
          have f108 : zfr [0, 3, 11, 12, 13, 14, 15, 24, 25, 26, 28, 29, 30, 31, 32, 33, 35, 37] [9, 10, 11, 12, 13, 14, 15, 16, 17, 18, 19] h h104 := zfr_wf f109 e105 rfl
          have b118 : h104.2 0 11 = 0 := (zwr_v e105)
          have b119 : h104.2 0 31 = (h42.2 0 29) := (((zwr_r e105 (by first | decide | exact (absurd ·.1 (by decide)) | exact (absurd ·.2 (by decide)) | omega)).trans (zwr_r e102 (by first | decide | exact (absurd ·.1 (by decide)) | exact (absurd ·.2 (by decide)) | omega))).trans (zwr_v e98))
          have b120 : h104.2 0 32 = (h42.2 0 30) := ((zwr_r e105 (by first | decide | exact (absurd ·.1 (by decide)) | exact (absurd ·.2 (by decide)) | omega)).trans (zwr_v e102))
          have b121 : h16.2 0 12 = 0 := (((zwr_r e17 (by first | decide | exact (absurd ·.1 (by decide)) | exact (absurd ·.2 (by decide)) | omega)).trans (zwr_r e14 (by first | decide | exact (absurd ·.1 (by decide)) | exact (absurd ·.2 (by decide)) | omega))).trans (zwr_v e11))
          have b122 : h16.2 0 26 = 0 := (zwr_v e17)
          exact zj_iret rfl (zdk ttX11_text 48 rfl rfl) (Nat.le_refl _) (Nat.le_refl _) ⟨(-1), rfl, by omega, s107, f108, by omega, (by intro W; refine ⟨fun z => absurd (by omega) z, fun _ T ok => ?_⟩; have q9 := u47 (fun k a b => (((((((zwr_r e17 (by first | decide | exact (absurd ·.1 (by decide)) | exact (absurd ·.2 (by decide)) | omega)).trans (zwr_r e14 (by first | decide | exact (absurd ·.1 (by decide)) | exact (absurd ·.2 (by decide)) | omega))).trans (zwr_r e11 (by first | decide | exact (absurd ·.1 (by decide)) | exact (absurd ·.2 (by decide)) | omega))).trans (zwr_r e8 (by first | decide | exact (absurd ·.1 (by decide)) | exact (absurd ·.2 (by decide)) | omega))).trans (zwr_r e5 (by first | decide | exact (absurd ·.1 (by decide)) | exact (absurd ·.2 (by decide)) | omega))).trans (zwr_r e2 (by first | decide | exact (absurd ·.1 (by decide)) | exact (absurd ·.2 (by decide)) | omega)))).trans (W k a b)) (by omega) (by omega) T; rw [show h16.2 7 = h.2 7 from funext fun i8 => ((((((zwr_r e17 (by first | decide | exact (absurd ·.1 (by decide)) | exact (absurd ·.2 (by decide)) | omega)).trans (zwr_r e14 (by first | decide | exact (absurd ·.1 (by decide)) | exact (absurd ·.2 (by decide)) | omega))).trans (zwr_r e11 (by first | decide | exact (absurd ·.1 (by decide)) | exact (absurd ·.2 (by decide)) | omega))).trans (zwr_r e8 (by first | decide | exact (absurd ·.1 (by decide)) | exact (absurd ·.2 (by decide)) | omega))).trans (zwr_r e5 (by first | decide | exact (absurd ·.1 (by decide)) | exact (absurd ·.2 (by decide)) | omega))).trans (zwr_r e2 (by first | decide | exact (absurd ·.1 (by decide)) | exact (absurd ·.2 (by decide)) | omega))), show h16.2 0 11 = h.2 0 11 from ((((((zwr_r e17 (by first | decide | exact (absurd ·.1 (by decide)) | exact (absurd ·.2 (by decide)) | omega)).trans (zwr_r e14 (by first | decide | exact (absurd ·.1 (by decide)) | exact (absurd ·.2 (by decide)) | omega))).trans (zwr_r e11 (by first | decide | exact (absurd ·.1 (by decide)) | exact (absurd ·.2 (by decide)) | omega))).trans (zwr_r e8 (by first | decide | exact (absurd ·.1 (by decide)) | exact (absurd ·.2 (by decide)) | omega))).trans (zwr_r e5 (by first | decide | exact (absurd ·.1 (by decide)) | exact (absurd ·.2 (by decide)) | omega))).trans (zwr_r e2 (by first | decide | exact (absurd ·.1 (by decide)) | exact (absurd ·.2 (by decide)) | omega))), show h16.2 0 6 = h.2 0 6 from ((((((zwr_r e17 (by first | decide | exact (absurd ·.1 (by decide)) | exact (absurd ·.2 (by decide)) | omega)).trans (zwr_r e14 (by first | decide | exact (absurd ·.1 (by decide)) | exact (absurd ·.2 (by decide)) | omega))).trans (zwr_r e11 (by first | decide | exact (absurd ·.1 (by decide)) | exact (absurd ·.2 (by decide)) | omega))).trans (zwr_r e8 (by first | decide | exact (absurd ·.1 (by decide)) | exact (absurd ·.2 (by decide)) | omega))).trans (zwr_r e5 (by first | decide | exact (absurd ·.1 (by decide)) | exact (absurd ·.2 (by decide)) | omega))).trans (zwr_r e2 (by first | decide | exact (absurd ·.1 (by decide)) | exact (absurd ·.2 (by decide)) | omega)))] at q9; have q8 := q9 ok; obtain ⟨i8, f8, p8, r8⟩ := q8.2 (by omega); exact Or.inr ⟨by omega, i8, f8, ⟨by omega, p8.2.1, by first | exact p8.2.2 | (have p7 := p8.2.2; rw [show h42.2 0 30 = h104.2 0 32 by omega] at p7; exact p7)⟩, r8⟩)⟩

abbrev q2_X11_fault (h : zM) (p1 : Int) : Option zV → zM → Prop := zqi fun v h' => ((-2147483648) ≤ v ∧ v ≤ 2147483647) ∧ okM h' ∧ zfr [0] [] h h' ∧ ((p1 = 0 → v = h.2 0 31) ∧ (p1 = 1 → v = h.2 0 32) ∧ (¬ (p1 = 0 ∨ p1 = 1) → v = -1))
set_option maxRecDepth 100000 in
set_option maxHeartbeats 4000000 in
theorem s2_X11_fault (l : Launch) (h : zM) (p1 : Int) (s0 : okM h) (b_p1 : (-2147483648) ≤ p1 ∧ p1 ≤ 2147483647) : zT shM l yX11_fault cX11_fault 2 (some .int) (rmL 1) 0 0 [.inr 0, .inl p1] h (q2_X11_fault h p1) := by
  refine zT_of (by decide +kernel) (L0 := [some (.inr 0), some (.inl p1)]) rfl (Nat.le_of_ble_eq_true rfl) ?_
  refine zj_aload_n (zdk ttX11_fault 0 rfl rfl) rfl (by decide) ?_
  refine zj_iconst (zdk ttX11_fault 1 rfl rfl) ?_
  refine zj_puti (zdk ttX11_fault 2 rfl rfl) zf_RX11_120 rfl (k_M s0) (Or.inl zw_RX11_120) (k2 := 0) rfl (fun h1 e2 => ?_)
  refine zj_iload_n (zdk ttX11_fault 3 rfl rfl) rfl ?_
  refine zj_if_ne (t := 16) (zdk ttX11_fault 4 rfl rfl) (by decide) (by omega) (fun c3 => ?_) (fun c3 => ?_)
  · refine zj_iload_n (zdk ttX11_fault 8 rfl rfl) rfl ?_
    refine zj_iconst (zdk ttX11_fault 9 rfl rfl) ?_
    refine zj_icmp_ne (t := 28) (zdk ttX11_fault 10 rfl rfl) (by decide) (by omega) (by decide) (fun c4 => ?_) (fun c4 => ?_)
    · refine zj_iconst (zdk ttX11_fault 14 rfl rfl) ?_
      have s5 : okM h1 := fwM_0 s0 e2 (by omega)
      have f6 : zfr [0] [] h h1 := zfr_wf (zfr_r _ _ _) e2 rfl
      exact zj_iret rfl (zdk ttX11_fault 15 rfl rfl) (Nat.le_refl _) (Nat.le_refl _) ⟨(-1), rfl, by omega, s5, f6, by omega⟩
    · refine zj_aload_n (zdk ttX11_fault 11 rfl rfl) rfl (by decide) ?_
      have b7 : -2147483648 ≤ (h.2 0 32) ∧ (h.2 0 32) ≤ 2147483647 := fM_32 s0
      have s8 : okM h1 := fwM_0 s0 e2 (by omega)
      refine zj_geti (v := (h.2 0 32)) (zdk ttX11_fault 12 rfl rfl) zf_RX11_58 rfl (k_M s8) (zwr_r e2 (by first | decide | exact (absurd ·.1 (by decide)) | exact (absurd ·.2 (by decide)) | omega)) ?_
      refine zj_goto (t := 29) (zdk ttX11_fault 13 rfl rfl) (by decide) ?_
      have f9 : zfr [0] [] h h1 := zfr_wf (zfr_r _ _ _) e2 rfl
      exact zj_iret rfl (zdk ttX11_fault 15 rfl rfl) (Nat.le_refl _) (Nat.le_refl _) ⟨(h.2 0 32), rfl, by omega, s8, f9, by omega⟩
  · refine zj_aload_n (zdk ttX11_fault 5 rfl rfl) rfl (by decide) ?_
    have b10 : -2147483648 ≤ (h.2 0 31) ∧ (h.2 0 31) ≤ 2147483647 := fM_31 s0
    have s11 : okM h1 := fwM_0 s0 e2 (by omega)
    refine zj_geti (v := (h.2 0 31)) (zdk ttX11_fault 6 rfl rfl) zf_RX11_291 rfl (k_M s11) (zwr_r e2 (by first | decide | exact (absurd ·.1 (by decide)) | exact (absurd ·.2 (by decide)) | omega)) ?_
    refine zj_goto (t := 29) (zdk ttX11_fault 7 rfl rfl) (by decide) ?_
    have f12 : zfr [0] [] h h1 := zfr_wf (zfr_r _ _ _) e2 rfl
    exact zj_iret rfl (zdk ttX11_fault 15 rfl rfl) (Nat.le_refl _) (Nat.le_refl _) ⟨(h.2 0 31), rfl, by omega, s11, f12, by omega⟩

