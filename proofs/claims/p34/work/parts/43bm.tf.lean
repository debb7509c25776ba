abbrev q2_X11_fault (h : zM) (p1 : Int) : Option zV → zM → Prop := zqi fun v h' => ((-2147483648) ≤ v ∧ v ≤ 2147483647) ∧ okM h' ∧ zfr [0] [] h h' ∧ ((p1 = 0 → v = h.2 0 31) ∧ (p1 = 1 → v = h.2 0 32) ∧ (¬ (p1 = 0 ∨ p1 = 1) → v = -1))
set_option maxRecDepth 100000 in
set_option maxHeartbeats 4000000 in
theorem s2_X11_fault (l : Launch) (h : zM) (p1 : Int) (s0 : okM h) (b_p1 : (-2147483648) ≤ p1 ∧ p1 ≤ 2147483647) : zT shM l yX11_fault cX11_fault 2 (some .int) (rmL 1) 0 0 [.inr 0, .inl p1] h (q2_X11_fault h p1) := by
  refine zT_of (by decide +kernel) (L0 := [some (.inr 0), some (.inl p1)]) rfl (Nat.le_of_ble_eq_true rfl) ?_
  refine zj_aload_n (zdk ttX11_fault 0 rfl rfl) rfl (by decide) ?_
  refine zj_iconst (zdk ttX11_fault 1 rfl rfl) ?_
  refine zj_puti (zdk ttX11_fault 2 rfl rfl) zf_RX11_120 rfl (k_M s0) (Or.inl zw_RX11_120) (k2 := 0) rfl (fun h1 e2 => ?_)
  refine zj_iload_n (zdk ttX11_fault 3 rfl rfl) rfl ?_
  refine zj_if_ne (t := 16) (zdk ttX11_fault 4 rfl rfl) (by decide) (by omega) (fun c3 => ?_) (fun c3 => ?_)
  · refine zj_iload_n (zdk ttX11_fault 8 rfl rfl) rfl ?_
    refine zj_iconst (zdk ttX11_fault 9 rfl rfl) ?_
    refine zj_icmp_ne (t := 28) (zdk ttX11_fault 10 rfl rfl) (by decide) (by omega) (by decide) (fun c4 => ?_) (fun c4 => ?_)
    · refine zj_iconst (zdk ttX11_fault 14 rfl rfl) ?_
      have s5 : okM h1 := fwM_0 s0 e2 (by omega)
      have f6 : zfr [0] [] h h1 := zfr_wf (zfr_r _ _ _) e2 rfl
      exact zj_iret rfl (zdk ttX11_fault 15 rfl rfl) (Nat.le_refl _) (Nat.le_refl _) ⟨(-1), rfl, by omega, s5, f6, by omega⟩
    · refine zj_aload_n (zdk ttX11_fault 11 rfl rfl) rfl (by decide) ?_
      have b7 : -2147483648 ≤ (h.2 0 32) ∧ (h.2 0 32) ≤ 2147483647 := fM_32 s0
      have s8 : okM h1 := fwM_0 s0 e2 (by omega)
      refine zj_geti (v := (h.2 0 32)) (zdk ttX11_fault 12 rfl rfl) zf_RX11_58 rfl (k_M s8) (zwr_r e2 (by first | decide | exact (absurd ·.1 (by decide)) | exact (absurd ·.2 (by decide)) | omega)) ?_
      refine zj_goto (t := 29) (zdk ttX11_fault 13 rfl rfl) (by decide) ?_
      have f9 : zfr [0] [] h h1 := zfr_wf (zfr_r _ _ _) e2 rfl
      exact zj_iret rfl (zdk ttX11_fault 15 rfl rfl) (Nat.le_refl _) (Nat.le_refl _) ⟨(h.2 0 32), rfl, by omega, s8, f9, by omega⟩
  · refine zj_aload_n (zdk ttX11_fault 5 rfl rfl) rfl (by decide) ?_
    have b10 : -2147483648 ≤ (h.2 0 31) ∧ (h.2 0 31) ≤ 2147483647 := fM_31 s0
    have s11 : okM h1 := fwM_0 s0 e2 (by omega)
    refine zj_geti (v := (h.2 0 31)) (zdk ttX11_fault 6 rfl rfl) zf_RX11_291 rfl (k_M s11) (zwr_r e2 (by first | decide | exact (absurd ·.1 (by decide)) | exact (absurd ·.2 (by decide)) | omega)) ?_
    refine zj_goto (t := 29) (zdk ttX11_fault 7 rfl rfl) (by decide) ?_
    have f12 : zfr [0] [] h h1 := zfr_wf (zfr_r _ _ _) e2 rfl
    exact zj_iret rfl (zdk ttX11_fault 15 rfl rfl) (Nat.le_refl _) (Nat.le_refl _) ⟨(h.2 0 31), rfl, by omega, s11, f12, by omega⟩

abbrev q2_X11_types (h : zM) (p1 : Int) : Option zV → zM → Prop := zqv fun h' => okM h' ∧ zfr [11] [7] h h' ∧ (h'.2 0 11 = h.2 0 11 + 4) ∧ (∀ i, h'.2 7 i = if h.2 0 11 ≤ i ∧ i < h.2 0 11 + 4 then zand (zushr p1 (24 - 8 * (i - h.2 0 11))) 255 else h.2 7 i)
set_option maxRecDepth 100000 in
set_option maxHeartbeats 4000000 in
theorem s2_X11_types (l : Launch) (h : zM) (p1 : Int) (s0 : okM h) (b_p1 : (-2147483648) ≤ p1 ∧ p1 ≤ 2147483647) (u_0 : h.2 0 11 ≤ 396) : zT shM l yX11_types cX11_types 3 none (rmL 1) 0 0 [.inr 0, .inl p1] h (q2_X11_types h p1) := by
  refine zT_of (by decide +kernel) (L0 := [some (.inr 0), some (.inl p1), none]) rfl (Nat.le_of_ble_eq_true rfl) ?_
  refine zj_bipush (zdk ttX11_types 0 rfl rfl) (by decide) ?_
  refine zj_istore_n (L' := [some (.inr 0), some (.inl p1), some (.inl 24)]) (zdk ttX11_types 1 rfl rfl) (by decide) rfl ?_
  have lp14 : ∀ (n3 : Nat) (x1 : Int) (h2 : zM), (-8 ≤ x1 ∧ x1 ≤ 24) → okM h2 → zfr [11] [7] h h2 → ((h2.2 0 11) * 8 + x1 = h.2 0 11 * 8 + 24) → ((x1 = 24 ∨ x1 = 16 ∨ x1 = 8 ∨ x1 = 0 ∨ x1 = -8)) → (∀ i, h2.2 7 i = if h.2 0 11 ≤ i ∧ i < h2.2 0 11 then zand (zushr p1 (24 - 8 * (i - h.2 0 11))) 255 else h.2 7 i) → (x1 + 8).toNat < n3 → zJ shM l yX11_types cX11_types 3 none (rmL 1) 0 0 (q2_X11_types h p1) 0 0 3 [some (.inr 0), some (.inl p1), some (.inl x1)] [] h2 := by
    intro n3
    induction n3 with
    | zero => intro x1 h2 b15 s3 f4 u16 u17 u18 m19; exact absurd m19 (Nat.not_lt_zero _)
    | succ n3 ih20 =>
      intro x1 h2 b15 s3 f4 u16 u17 u18 m19
      refine zj_iload_n (zdk ttX11_types 2 rfl rfl) rfl ?_
      refine zj_if_lt (t := 39) (zdk ttX11_types 3 rfl rfl) (by decide) (by omega) (fun c21 => ?_) (fun c21 => ?_)
      · have b22 : 0 ≤ (h2.2 0 11) ∧ (h2.2 0 11) ≤ 400 := fM_11 s3
        exact zj_vret rfl (zdk ttX11_types 22 rfl rfl) (Nat.le_refl _) (Nat.le_refl _) ⟨rfl, s3, f4, by omega, (fun i => by have q9 := u18 i; rw [show h2.2 0 11 = h.2 0 11 + 4 by omega] at q9; exact q9)⟩
      · refine zj_aload_n (zdk ttX11_types 4 rfl rfl) rfl (by decide) ?_
        refine zj_getr (r := 7) (zdk ttX11_types 5 rfl rfl) zf_RX11_28 rfl (k_M s3) (rfM_10 s3) ?_
        refine zj_aload_n (zdk ttX11_types 6 rfl rfl) rfl (by decide) ?_
        have b23 : 0 ≤ (h2.2 0 11) ∧ (h2.2 0 11) ≤ 400 := fM_11 s3
        refine zj_geti (v := (h2.2 0 11)) (zdk ttX11_types 7 rfl rfl) zf_RX11_149 rfl (k_M s3) rfl ?_
        refine zj_iload_n (zdk ttX11_types 8 rfl rfl) rfl ?_
        refine zj_iload_n (zdk ttX11_types 9 rfl rfl) rfl ?_
        refine zj_ishr (zdk ttX11_types 10 rfl rfl) ?_
        have b24 := zshr_in p1 x1
        refine zj_sipush (zdk ttX11_types 11 rfl rfl) (by decide) ?_
        refine zj_iand (zdk ttX11_types 12 rfl rfl) ?_
        have b25 := zand_m (d := 256) 8 (by decide) (c := 255) (by decide) (by decide) (zshr p1 x1)
        refine zj_iast (zdk ttX11_types 13 rfl rfl) (kaM_7 s3) (by decide) (by omega) (fun h26 e27 => ?_)
        refine zj_aload_n (zdk ttX11_types 14 rfl rfl) rfl (by decide) ?_
        refine zj_aload_n (zdk ttX11_types 15 rfl rfl) rfl (by decide) ?_
        have s28 : okM h26 := awM_7 s3 e27 (by omega) (by unfold nsp; omega)
        refine zj_geti (v := (h2.2 0 11)) (zdk ttX11_types 16 rfl rfl) zf_RX11_149 rfl (k_M s28) (zwr_r e27 (by first | decide | exact (absurd ·.1 (by decide)) | exact (absurd ·.2 (by decide)) | omega)) ?_
        refine zj_iconst (zdk ttX11_types 17 rfl rfl) ?_
        refine zj_iadd (zdk ttX11_types 18 rfl rfl) ?_
        refine zj_puti (zdk ttX11_types 19 rfl rfl) zf_RX11_149 rfl (k_M s28) (Or.inl zw_RX11_149) (k2 := 11) rfl (fun h29 e30 => ?_)
        refine zj_iinc (L' := [some (.inr 0), some (.inl p1), some (.inl (x1 + (-8)))]) (zdk ttX11_types 20 rfl rfl) rfl (by decide) rfl ?_
        refine zj_goto (t := 3) (zdk ttX11_types 21 rfl rfl) (by decide) ?_
        have b31 : h29.2 0 11 = ((h2.2 0 11) + 1) := (zwr_v e30)
        have s32 : okM h29 := fwM_11 s28 e30 (by omega)
        have f34 : zfr [11] [7] h h26 := zfr_wa f4 e27 rfl
        have f33 : zfr [11] [7] h h29 := zfr_wf f34 e30 rfl
        exact ih20  (x1 + (-8)) h29 (by omega) s32 f33 (by omega) (by omega) (by rw [show h29.2 0 11 = h2.2 0 11 + 1 by omega]; exact tFd_s (by omega) u18 (fun i => by rw [zwr_r (a := 7) (b := i) e30 (by omega), tRow e27 rfl i]) (by rw [show 24 - 8 * (h2.2 0 11 - h.2 0 11) = x1 by omega]; exact (tSh_4 p1 x1 (by omega)))) (by omega)
  have b35 : 0 ≤ (h.2 0 11) ∧ (h.2 0 11) ≤ 400 := fM_11 s0
  exact lp14 _ 24 h (by omega) s0 (zfr_r _ _ _) (by omega) (by omega) (fun i => by rw [if_neg (by omega)]) (Nat.lt_succ_self _)

abbrev q2_X11_feedz (h : zM) (p1 : Int) (p2 : Int) (p3 : Int) (p4 : Int) (p5 : Int) : Option zV → zM → Prop := zqi fun v h' => ((-2147483648) ≤ v ∧ v ≤ 2147483647) ∧ okM h' ∧ zfr [0, 11] [7] h h' ∧ (zfd (h.2 0 11) v (h'.2 0 11)) ∧ (tFe (h.2 0 11) (h.2 7) (h'.2 7) p1 p2 p3 p4 p5)
set_option maxRecDepth 100000 in
set_option maxHeartbeats 4000000 in
theorem s2_X11_feedz (l : Launch) (h : zM) (p1 : Int) (p2 : Int) (p3 : Int) (p4 : Int) (p5 : Int) (s0 : okM h) (b_p1 : (-2147483648) ≤ p1 ∧ p1 ≤ 2147483647) (b_p2 : (-2147483648) ≤ p2 ∧ p2 ≤ 2147483647) (b_p3 : (-2147483648) ≤ p3 ∧ p3 ≤ 2147483647) (b_p4 : (-2147483648) ≤ p4 ∧ p4 ≤ 2147483647) (b_p5 : (-2147483648) ≤ p5 ∧ p5 ≤ 2147483647) : zT shM l yX11_feed cX11_feed 6 (some .int) (rmL 2) 0 0 [.inr 0, .inl p1, .inl p2, .inl p3, .inl p4, .inl p5] h (q2_X11_feedz h p1 p2 p3 p4 p5) := by
  refine zT_of (by decide +kernel) (L0 := [some (.inr 0), some (.inl p1), some (.inl p2), some (.inl p3), some (.inl p4), some (.inl p5)]) rfl (Nat.le_of_ble_eq_true rfl) ?_
  refine zj_aload_n (zdk ttX11_feed 0 rfl rfl) rfl (by decide) ?_
  refine zj_iconst (zdk ttX11_feed 1 rfl rfl) ?_
  refine zj_puti (zdk ttX11_feed 2 rfl rfl) zf_RX11_120 rfl (k_M s0) (Or.inl zw_RX11_120) (k2 := 0) rfl (fun h1 e2 => ?_)
  refine zj_aload_n (zdk ttX11_feed 3 rfl rfl) rfl (by decide) ?_
  have b3 : 0 ≤ (h.2 0 11) ∧ (h.2 0 11) ≤ 400 := fM_11 s0
  have s4 : okM h1 := fwM_0 s0 e2 (by omega)
  refine zj_geti (v := (h.2 0 11)) (zdk ttX11_feed 4 rfl rfl) zf_RX11_149 rfl (k_M s4) (zwr_r e2 (by first | decide | exact (absurd ·.1 (by decide)) | exact (absurd ·.2 (by decide)) | omega)) ?_
  refine zj_sipush (zdk ttX11_feed 5 rfl rfl) (by decide) ?_
  refine zj_icmp_le (t := 17) (zdk ttX11_feed 6 rfl rfl) (by decide) (by omega) (by decide) (fun c5 => ?_) (fun c5 => ?_)
  · refine zj_aload_n (zdk ttX11_feed 9 rfl rfl) rfl (by decide) ?_
    refine zj_iload_n (zdk ttX11_feed 10 rfl rfl) rfl ?_
    have b6 : h1.2 0 11 = (h.2 0 11) := (zwr_r e2 (by first | decide | exact (absurd ·.1 (by decide)) | exact (absurd ·.2 (by decide)) | omega))
    refine zj_callV (av := [.inl p1]) (st := []) (zdk ttX11_feed 11 rfl rfl) mb_X11_types mv_RX11_152 (ci := 11) rfl rfl (k_M s4) rfl rfl (Nat.le_of_ble_eq_true rfl) (s2_X11_types l h1 p1 s4 (by omega) (by omega)) (rm_ok (by decide) (by decide)) (zq_v fun h9 q7 => ?_)
    obtain ⟨s11, f14, u12, u13⟩ := q7
    refine zj_aload_n (zdk ttX11_feed 12 rfl rfl) rfl (by decide) ?_
    refine zj_iload_n (zdk ttX11_feed 13 rfl rfl) rfl ?_
    have b15 : 0 ≤ (h9.2 0 11) ∧ (h9.2 0 11) ≤ 400 := fM_11 s11
    refine zj_callV (av := [.inl p2]) (st := []) (zdk ttX11_feed 14 rfl rfl) mb_X11_types mv_RX11_152 (ci := 11) rfl rfl (k_M s11) rfl rfl (Nat.le_of_ble_eq_true rfl) (s2_X11_types l h9 p2 s11 (by omega) (by omega)) (rm_ok (by decide) (by decide)) (zq_v fun h18 q16 => ?_)
    obtain ⟨s20, f23, u21, u22⟩ := q16
    refine zj_aload_n (zdk ttX11_feed 15 rfl rfl) rfl (by decide) ?_
    refine zj_iload_n (zdk ttX11_feed 16 rfl rfl) rfl ?_
    have b24 : 0 ≤ (h18.2 0 11) ∧ (h18.2 0 11) ≤ 400 := fM_11 s20
    refine zj_callV (av := [.inl p3]) (st := []) (zdk ttX11_feed 17 rfl rfl) mb_X11_types mv_RX11_152 (ci := 11) rfl rfl (k_M s20) rfl rfl (Nat.le_of_ble_eq_true rfl) (s2_X11_types l h18 p3 s20 (by omega) (by omega)) (rm_ok (by decide) (by decide)) (zq_v fun h27 q25 => ?_)
    obtain ⟨s29, f32, u30, u31⟩ := q25
    refine zj_aload_n (zdk ttX11_feed 18 rfl rfl) rfl (by decide) ?_
    refine zj_iload (zdk ttX11_feed 19 rfl rfl) rfl ?_
    have b33 : 0 ≤ (h27.2 0 11) ∧ (h27.2 0 11) ≤ 400 := fM_11 s29
    refine zj_callV (av := [.inl p4]) (st := []) (zdk ttX11_feed 20 rfl rfl) mb_X11_types mv_RX11_152 (ci := 11) rfl rfl (k_M s29) rfl rfl (Nat.le_of_ble_eq_true rfl) (s2_X11_types l h27 p4 s29 (by omega) (by omega)) (rm_ok (by decide) (by decide)) (zq_v fun h36 q34 => ?_)
    obtain ⟨s38, f41, u39, u40⟩ := q34
    refine zj_aload_n (zdk ttX11_feed 21 rfl rfl) rfl (by decide) ?_
    refine zj_iload (zdk ttX11_feed 22 rfl rfl) rfl ?_
    have b42 : 0 ≤ (h36.2 0 11) ∧ (h36.2 0 11) ≤ 400 := fM_11 s38
    refine zj_callV (av := [.inl p5]) (st := []) (zdk ttX11_feed 23 rfl rfl) mb_X11_types mv_RX11_152 (ci := 11) rfl rfl (k_M s38) rfl rfl (Nat.le_of_ble_eq_true rfl) (s2_X11_types l h36 p5 s38 (by omega) (by omega)) (rm_ok (by decide) (by decide)) (zq_v fun h45 q43 => ?_)
    obtain ⟨s47, f50, u48, u49⟩ := q43
    refine zj_aload_n (zdk ttX11_feed 24 rfl rfl) rfl (by decide) ?_
    have b51 : 0 ≤ (h45.2 0 11) ∧ (h45.2 0 11) ≤ 400 := fM_11 s47
    refine zj_geti (v := (h45.2 0 11)) (zdk ttX11_feed 25 rfl rfl) zf_RX11_149 rfl (k_M s47) rfl ?_
    have f57 : zfr [0, 11] [7] h h1 := zfr_wf (zfr_r _ _ _) e2 rfl
    have f56 : zfr [0, 11] [7] h h9 := zfr_t f57 f14 rfl rfl
    have f55 : zfr [0, 11] [7] h h18 := zfr_t f56 f23 rfl rfl
    have f54 : zfr [0, 11] [7] h h27 := zfr_t f55 f32 rfl rfl
    have f53 : zfr [0, 11] [7] h h36 := zfr_t f54 f41 rfl rfl
    have f52 : zfr [0, 11] [7] h h45 := zfr_t f53 f50 rfl rfl
    have b58 : h1.2 0 11 = (h.2 0 11) := (zwr_r e2 (by first | decide | exact (absurd ·.1 (by decide)) | exact (absurd ·.2 (by decide)) | omega))
    exact zj_iret rfl (zdk ttX11_feed 26 rfl rfl) (Nat.le_refl _) (Nat.le_refl _) ⟨(h45.2 0 11), rfl, by omega, s47, f52, by unfold zfd; omega, ⟨by intro z9; have e1 := u13; rw [show h1.2 0 11 = h.2 0 11 from (zwr_r e2 (by first | decide | exact (absurd ·.1 (by decide)) | exact (absurd ·.2 (by decide)) | omega)), show h1.2 7 = h.2 7 from funext fun i8 => (zwr_r e2 (by first | decide | exact (absurd ·.1 (by decide)) | exact (absurd ·.2 (by decide)) | omega))] at e1; have e2 := u22; rw [show h9.2 0 11 = h.2 0 11 + 4 by omega] at e2; have e3 := u31; rw [show h18.2 0 11 = h.2 0 11 + 8 by omega] at e3; have e4 := u40; rw [show h27.2 0 11 = h.2 0 11 + 12 by omega] at e4; have e5 := u49; rw [show h36.2 0 11 = h.2 0 11 + 16 by omega] at e5; exact tFd_5 e1 e2 e3 e4 e5, fun z => absurd z (by omega)⟩⟩
  · refine zj_iconst (zdk ttX11_feed 7 rfl rfl) ?_
    have f59 : zfr [0, 11] [7] h h1 := zfr_wf (zfr_r _ _ _) e2 rfl
    have b60 : h1.2 0 11 = (h.2 0 11) := (zwr_r e2 (by first | decide | exact (absurd ·.1 (by decide)) | exact (absurd ·.2 (by decide)) | omega))
    exact zj_iret rfl (zdk ttX11_feed 8 rfl rfl) (Nat.le_refl _) (Nat.le_refl _) ⟨(-1), rfl, by omega, s4, f59, by unfold zfd; omega, ⟨fun z => absurd z (by omega), fun _ i => (zwr_r e2 (by first | decide | exact (absurd ·.1 (by decide)) | exact (absurd ·.2 (by decide)) | omega))⟩⟩

abbrev q2_X11_endz (h : zM) (p1 : Int) : Option zV → zM → Prop := zqi fun v h' => (0 ≤ v ∧ v ≤ 1) ∧ okM h' ∧ zfr [0, 11] [] h h' ∧ (zen p1 (h.2 0 11) v (h'.2 0 11))
set_option maxRecDepth 100000 in
set_option maxHeartbeats 4000000 in
theorem s2_X11_endz (l : Launch) (h : zM) (p1 : Int) (s0 : okM h) (b_p1 : (-2147483648) ≤ p1 ∧ p1 ≤ 2147483647) : zT shM l yX11_end cX11_end 2 (some .boolean) (rmL 2) 0 0 [.inr 0, .inl p1] h (q2_X11_endz h p1) := by
  refine zT_of (by decide +kernel) (L0 := [some (.inr 0), some (.inl p1)]) rfl (Nat.le_of_ble_eq_true rfl) ?_
  refine zj_aload_n (zdk ttX11_end 0 rfl rfl) rfl (by decide) ?_
  refine zj_iconst (zdk ttX11_end 1 rfl rfl) ?_
  refine zj_puti (zdk ttX11_end 2 rfl rfl) zf_RX11_120 rfl (k_M s0) (Or.inl zw_RX11_120) (k2 := 0) rfl (fun h1 e2 => ?_)
  refine zj_aload_n (zdk ttX11_end 3 rfl rfl) rfl (by decide) ?_
  refine zj_iload_n (zdk ttX11_end 4 rfl rfl) rfl ?_
  refine zj_iconst (zdk ttX11_end 5 rfl rfl) ?_
  refine zj_aload_n (zdk ttX11_end 6 rfl rfl) rfl (by decide) ?_
  have b3 : 0 ≤ (h.2 0 11) ∧ (h.2 0 11) ≤ 400 := fM_11 s0
  have s4 : okM h1 := fwM_0 s0 e2 (by omega)
  refine zj_geti (v := (h.2 0 11)) (zdk ttX11_end 7 rfl rfl) zf_RX11_149 rfl (k_M s4) (zwr_r e2 (by first | decide | exact (absurd ·.1 (by decide)) | exact (absurd ·.2 (by decide)) | omega)) ?_
  refine zj_callV (av := [.inl p1, .inl 0, .inl (h.2 0 11)]) (st := []) (zdk ttX11_end 8 rfl rfl) mb_X11_isIn mv_RX11_139 (ci := 11) rfl rfl (k_M s4) rfl rfl (Nat.le_of_ble_eq_true rfl) (s_X11_isIn l h1 p1 0 (h.2 0 11) s4 (by omega) (by omega) (by omega)) (rm_ok (by decide) (by decide)) (zq_i fun v6 h7 q5 => ?_)
  obtain ⟨rfl, ⟨rfl, b8⟩ | ⟨rfl, b8⟩⟩ := q5
  · refine zj_if_ne (t := 20) (zdk ttX11_end 9 rfl rfl) (by decide) (by decide) (fun c9 => ?_) (fun c9 => ?_)
    · exact absurd c9 (by omega)
    · refine zj_iconst (zdk ttX11_end 10 rfl rfl) ?_
      have f10 : zfr [0, 11] [] h h1 := zfr_wf (zfr_r _ _ _) e2 rfl
      have b11 : h1.2 0 11 = (h.2 0 11) := (zwr_r e2 (by first | decide | exact (absurd ·.1 (by decide)) | exact (absurd ·.2 (by decide)) | omega))
      exact zj_zret rfl (zdk ttX11_end 11 rfl rfl) (Nat.le_refl _) (Nat.le_refl _) (by omega) ⟨0, rfl, by omega, s4, f10, by unfold zen; omega⟩
  · refine zj_if_ne (t := 20) (zdk ttX11_end 9 rfl rfl) (by decide) (by decide) (fun c12 => ?_) (fun c12 => ?_)
    · refine zj_aload_n (zdk ttX11_end 12 rfl rfl) rfl (by decide) ?_
      refine zj_iload_n (zdk ttX11_end 13 rfl rfl) rfl ?_
      refine zj_puti (zdk ttX11_end 14 rfl rfl) zf_RX11_149 rfl (k_M s4) (Or.inl zw_RX11_149) (k2 := 11) rfl (fun h13 e14 => ?_)
      refine zj_iconst (zdk ttX11_end 15 rfl rfl) ?_
      have s15 : okM h13 := fwM_11 s4 e14 (by omega)
      have f17 : zfr [0, 11] [] h h1 := zfr_wf (zfr_r _ _ _) e2 rfl
      have f16 : zfr [0, 11] [] h h13 := zfr_wf f17 e14 rfl
      have b18 : h13.2 0 11 = p1 := (zwr_v e14)
      exact zj_zret rfl (zdk ttX11_end 16 rfl rfl) (Nat.le_refl _) (Nat.le_refl _) (by omega) ⟨1, rfl, by omega, s15, f16, by unfold zen; omega⟩
    · exact absurd c12 (by omega)
