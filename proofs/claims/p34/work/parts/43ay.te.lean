abbrev q2_X6_putFour (h : zM) (p1 : Int) : Option zV → zM → Prop := zqv fun h' => okC h' ∧ zfC w_X6_putFour h h' ∧ (h.2 103 3 ≤ 396 → h'.2 103 3 = h.2 103 3 + 4) ∧ (h.2 103 3 ≤ 396 → ∀ i, h'.2 104 i = if h.2 103 3 ≤ i ∧ i < h.2 103 3 + 4 then zand (zushr p1 (24 - 8 * (i - h.2 103 3))) 255 else h.2 104 i)
set_option maxRecDepth 100000 in
set_option maxHeartbeats 4000000 in
theorem s2_X6_putFour (l : Launch) (h : zM) (p1 : Int) (s0 : okC h) (b_p1 : (-2147483648) ≤ p1 ∧ p1 ≤ 2147483647) : zT shC l yX6_putFour cX6_putFour 3 none (rmL 1) 0 0 [.inr 103, .inl p1] h (q2_X6_putFour h p1) := by
  refine zT_of (by decide +kernel) (L0 := [some (.inr 103), some (.inl p1), none]) rfl (Nat.le_of_ble_eq_true rfl) ?_
  refine zj_bipush (zdk ttX6_putFour 0 rfl rfl) (by decide) ?_
  refine zj_istore_n (L' := [some (.inr 103), some (.inl p1), some (.inl 24)]) (zdk ttX6_putFour 1 rfl rfl) (by decide) rfl ?_
  have lp15 : ∀ (n : Nat) (x1 : Int) (h2 : zM), (-8 ≤ x1 ∧ x1 ≤ 24) → okC h2 → zfC w_X6_putFour h h2 → (h.2 103 3 ≤ 396 → (h2.2 103 3) * 8 + x1 = h.2 103 3 * 8 + 24) → ((x1 = 24 ∨ x1 = 16 ∨ x1 = 8 ∨ x1 = 0 ∨ x1 = -8)) → (h.2 103 3 ≤ 396 → ∀ i, h2.2 104 i = if h.2 103 3 ≤ i ∧ i < h2.2 103 3 then zand (zushr p1 (24 - 8 * (i - h.2 103 3))) 255 else h.2 104 i) → (x1 + 8).toNat < n → zJ shC l yX6_putFour cX6_putFour 3 none (rmL 1) 0 0 (q2_X6_putFour h p1) 0 0 3 [some (.inr 103), some (.inl p1), some (.inl x1)] [] h2 := by
    intro n
    induction n with
    | zero => intro x1 h2 b16 s3 f4 u17 u18 u19 m20; exact absurd m20 (Nat.not_lt_zero _)
    | succ n ih21 =>
      intro x1 h2 b16 s3 f4 u17 u18 u19 m20
      refine zj_iload_n (zdk ttX6_putFour 2 rfl rfl) rfl ?_
      refine zj_if_lt (t := 46) (zdk ttX6_putFour 3 rfl rfl) (by decide) (by omega) (fun c22 => ?_) (fun c22 => ?_)
      · exact zj_vret rfl (zdk ttX6_putFour 25 rfl rfl) (Nat.le_refl _) (Nat.le_refl _) ⟨rfl, s3, f4, by omega, (fun z9 => by have q9 := u19 z9; have c9 := u17 z9; rw [show h2.2 103 3 = h.2 103 3 + 4 by omega] at q9; exact q9)⟩
      · refine zj_aload_n (zdk ttX6_putFour 4 rfl rfl) rfl (by decide) ?_
        have b23 : 0 ≤ (h2.2 103 3) ∧ (h2.2 103 3) ≤ 400 := fb_L103_3 s3
        refine zj_geti (v := (h2.2 103 3)) (zdk ttX6_putFour 5 rfl rfl) zf_RX6_21 rfl (k_L103 s3) rfl ?_
        refine zj_sipush (zdk ttX6_putFour 6 rfl rfl) (by decide) ?_
        refine zj_icmp_ge (t := 46) (zdk ttX6_putFour 7 rfl rfl) (by decide) (by omega) (by decide) (fun c24 => ?_) (fun c24 => ?_)
        · exact zj_vret rfl (zdk ttX6_putFour 25 rfl rfl) (Nat.le_refl _) (Nat.le_refl _) ⟨rfl, s3, f4, by omega, (fun z9 => by have q9 := u19 z9; have c9 := u17 z9; rw [show h2.2 103 3 = h.2 103 3 + 4 by omega] at q9; exact q9)⟩
        · refine zj_aload_n (zdk ttX6_putFour 8 rfl rfl) rfl (by decide) ?_
          refine zj_getr (r := 104) (zdk ttX6_putFour 9 rfl rfl) zf_RX6_11 rfl (k_L103 s3) (rf_L103_0 s3) ?_
          refine zj_aload_n (zdk ttX6_putFour 10 rfl rfl) rfl (by decide) ?_
          refine zj_dup (zdk ttX6_putFour 11 rfl rfl) ?_
          refine zj_geti (v := (h2.2 103 3)) (zdk ttX6_putFour 12 rfl rfl) zf_RX6_21 rfl (k_L103 s3) rfl ?_
          refine zj_dup_x1 (zdk ttX6_putFour 13 rfl rfl) ?_
          refine zj_iconst (zdk ttX6_putFour 14 rfl rfl) ?_
          refine zj_iadd (zdk ttX6_putFour 15 rfl rfl) ?_
          refine zj_puti (zdk ttX6_putFour 16 rfl rfl) zf_RX6_21 rfl (k_L103 s3) (Or.inl zw_RX6_21) (k2 := 3) rfl (fun h25 e26 => ?_)
          refine zj_iload_n (zdk ttX6_putFour 17 rfl rfl) rfl ?_
          refine zj_iload_n (zdk ttX6_putFour 18 rfl rfl) rfl ?_
          refine zj_iushr (zdk ttX6_putFour 19 rfl rfl) ?_
          have b27 := zushr_in p1 x1
          refine zj_sipush (zdk ttX6_putFour 20 rfl rfl) (by decide) ?_
          refine zj_iand (zdk ttX6_putFour 21 rfl rfl) ?_
          have b28 := zand_m (d := 256) 8 (by decide) (c := 255) (by decide) (by decide) (zushr p1 x1)
          have s29 : okC h25 := fw_L103_3 s3 e26 (by omega)
          refine zj_iast (zdk ttX6_putFour 22 rfl rfl) (ka_L103_0 s29) (by decide) (by omega) (fun h30 e31 => ?_)
          refine zj_iinc (L' := [some (.inr 103), some (.inl p1), some (.inl (x1 + (-8)))]) (zdk ttX6_putFour 23 rfl rfl) rfl (by decide) rfl ?_
          refine zj_goto (t := 3) (zdk ttX6_putFour 24 rfl rfl) (by decide) ?_
          have b32 : h30.2 103 3 = ((h2.2 103 3) + 1) := ((zwr_r e31 (by first | decide | exact (absurd ·.1 (by decide)) | exact (absurd ·.2 (by decide)) | omega)).trans (zwr_v e26))
          have s33 : okC h30 := aw_L103_0 s29 e31 (by omega)
          have f35 : zfC w_X6_putFour h h25 := zfC_w f4 e26 (Or.inl (by omega))
          have f34 : zfC w_X6_putFour h h30 := zfC_w f35 e31 (Or.inr (by omega))
          exact ih21  (x1 + (-8)) h30 (by omega) s33 f34 (by omega) (by omega) (fun z9 => by have q9 := u19 z9; have c9 := u17 z9; rw [show h30.2 103 3 = h2.2 103 3 + 1 from (zwr_r e31 (by first | decide | exact (absurd ·.1 (by decide)) | exact (absurd ·.2 (by decide)) | omega)).trans (zwr_v e26)]; exact tFd_s (by omega) q9 (fun i => by rw [tRow e31 rfl i, zwr_r (a := 104) (b := i) e26 (by omega)]) (by rw [show 24 - 8 * (h2.2 103 3 - h.2 103 3) = x1 by omega])) (by omega)
  exact lp15 _ 24 h (by omega) s0 (zfC_r _ _) (by omega) (by omega) (fun _ i => by rw [if_neg (by omega)]) (Nat.lt_succ_self _)

abbrev q2_X10_feed (h : zM) (p1 : Int) (p2 : Int) (p3 : Int) (p4 : Int) (p5 : Int) : Option zV → zM → Prop := zqi fun v h' => ((-2147483648) ≤ v ∧ v ≤ 2147483647) ∧ okC h' ∧ zfC w_X10_feed h h' ∧ (zfd (h.2 103 3) v (h'.2 103 3)) ∧ (tFe (h.2 103 3) (h.2 104) (h'.2 104) p1 p2 p3 p4 p5)
set_option maxRecDepth 100000 in
set_option maxHeartbeats 4000000 in
theorem s2_X10_feed (l : Launch) (h : zM) (p1 : Int) (p2 : Int) (p3 : Int) (p4 : Int) (p5 : Int) (s0 : okC h) (b_p1 : (-2147483648) ≤ p1 ∧ p1 ≤ 2147483647) (b_p2 : (-2147483648) ≤ p2 ∧ p2 ≤ 2147483647) (b_p3 : (-2147483648) ≤ p3 ∧ p3 ≤ 2147483647) (b_p4 : (-2147483648) ≤ p4 ∧ p4 ≤ 2147483647) (b_p5 : (-2147483648) ≤ p5 ∧ p5 ≤ 2147483647) : zT shC l yX10_feed cX10_feed 6 (some .int) (rmL 2) 0 0 [.inr 0, .inl p1, .inl p2, .inl p3, .inl p4, .inl p5] h (q2_X10_feed h p1 p2 p3 p4 p5) := by
  refine zT_of (by decide +kernel) (L0 := [some (.inr 0), some (.inl p1), some (.inl p2), some (.inl p3), some (.inl p4), some (.inl p5)]) rfl (Nat.le_of_ble_eq_true rfl) ?_
  refine zj_aload_n (zdk ttX10_feed 0 rfl rfl) rfl (by decide) ?_
  refine zj_getr (r := 103) (zdk ttX10_feed 1 rfl rfl) zf_RX10_25 rfl (k_L0 s0) (rf_L0_3 s0) ?_
  have b1 : 0 ≤ (h.2 103 3) ∧ (h.2 103 3) ≤ 400 := fb_L103_3 s0
  refine zj_geti (v := (h.2 103 3)) (zdk ttX10_feed 2 rfl rfl) zf_RX10_137 rfl (k_L103 s0) rfl ?_
  refine zj_sipush (zdk ttX10_feed 3 rfl rfl) (by decide) ?_
  refine zj_icmp_le (t := 15) (zdk ttX10_feed 4 rfl rfl) (by decide) (by omega) (by decide) (fun c2 => ?_) (fun c2 => ?_)
  · refine zj_aload_n (zdk ttX10_feed 7 rfl rfl) rfl (by decide) ?_
    refine zj_getr (r := 103) (zdk ttX10_feed 8 rfl rfl) zf_RX10_25 rfl (k_L0 s0) (rf_L0_3 s0) ?_
    refine zj_iload_n (zdk ttX10_feed 9 rfl rfl) rfl ?_
    refine zj_callV (av := [.inl p1]) (st := []) (zdk ttX10_feed 10 rfl rfl) mb_X6_putFour mv_RX10_140 (ci := 6) rfl rfl (k_L103 s0) rfl rfl (Nat.le_of_ble_eq_true rfl) (s2_X6_putFour l h p1 s0 (by omega)) (rm_ok (by decide) (by decide)) (zq_v fun h5 q3 => ?_)
    obtain ⟨s7, f10, u8, u9⟩ := q3
    refine zj_aload_n (zdk ttX10_feed 11 rfl rfl) rfl (by decide) ?_
    refine zj_getr (r := 103) (zdk ttX10_feed 12 rfl rfl) zf_RX10_25 rfl (k_L0 s7) (rf_L0_3 s7) ?_
    refine zj_iload_n (zdk ttX10_feed 13 rfl rfl) rfl ?_
    refine zj_callV (av := [.inl p2]) (st := []) (zdk ttX10_feed 14 rfl rfl) mb_X6_putFour mv_RX10_140 (ci := 6) rfl rfl (k_L103 s7) rfl rfl (Nat.le_of_ble_eq_true rfl) (s2_X6_putFour l h5 p2 s7 (by omega)) (rm_ok (by decide) (by decide)) (zq_v fun h13 q11 => ?_)
    obtain ⟨s15, f18, u16, u17⟩ := q11
    refine zj_aload_n (zdk ttX10_feed 15 rfl rfl) rfl (by decide) ?_
    refine zj_getr (r := 103) (zdk ttX10_feed 16 rfl rfl) zf_RX10_25 rfl (k_L0 s15) (rf_L0_3 s15) ?_
    refine zj_iload_n (zdk ttX10_feed 17 rfl rfl) rfl ?_
    refine zj_callV (av := [.inl p3]) (st := []) (zdk ttX10_feed 18 rfl rfl) mb_X6_putFour mv_RX10_140 (ci := 6) rfl rfl (k_L103 s15) rfl rfl (Nat.le_of_ble_eq_true rfl) (s2_X6_putFour l h13 p3 s15 (by omega)) (rm_ok (by decide) (by decide)) (zq_v fun h21 q19 => ?_)
    obtain ⟨s23, f26, u24, u25⟩ := q19
    refine zj_aload_n (zdk ttX10_feed 19 rfl rfl) rfl (by decide) ?_
    refine zj_getr (r := 103) (zdk ttX10_feed 20 rfl rfl) zf_RX10_25 rfl (k_L0 s23) (rf_L0_3 s23) ?_
    refine zj_iload (zdk ttX10_feed 21 rfl rfl) rfl ?_
    refine zj_callV (av := [.inl p4]) (st := []) (zdk ttX10_feed 22 rfl rfl) mb_X6_putFour mv_RX10_140 (ci := 6) rfl rfl (k_L103 s23) rfl rfl (Nat.le_of_ble_eq_true rfl) (s2_X6_putFour l h21 p4 s23 (by omega)) (rm_ok (by decide) (by decide)) (zq_v fun h29 q27 => ?_)
    obtain ⟨s31, f34, u32, u33⟩ := q27
    refine zj_aload_n (zdk ttX10_feed 23 rfl rfl) rfl (by decide) ?_
    refine zj_getr (r := 103) (zdk ttX10_feed 24 rfl rfl) zf_RX10_25 rfl (k_L0 s31) (rf_L0_3 s31) ?_
    refine zj_iload (zdk ttX10_feed 25 rfl rfl) rfl ?_
    refine zj_callV (av := [.inl p5]) (st := []) (zdk ttX10_feed 26 rfl rfl) mb_X6_putFour mv_RX10_140 (ci := 6) rfl rfl (k_L103 s31) rfl rfl (Nat.le_of_ble_eq_true rfl) (s2_X6_putFour l h29 p5 s31 (by omega)) (rm_ok (by decide) (by decide)) (zq_v fun h37 q35 => ?_)
    obtain ⟨s39, f42, u40, u41⟩ := q35
    refine zj_aload_n (zdk ttX10_feed 27 rfl rfl) rfl (by decide) ?_
    refine zj_getr (r := 103) (zdk ttX10_feed 28 rfl rfl) zf_RX10_25 rfl (k_L0 s39) (rf_L0_3 s39) ?_
    have b43 : 0 ≤ (h37.2 103 3) ∧ (h37.2 103 3) ≤ 400 := fb_L103_3 s39
    refine zj_geti (v := (h37.2 103 3)) (zdk ttX10_feed 29 rfl rfl) zf_RX10_137 rfl (k_L103 s39) rfl ?_
    have f48 : zfC w_X10_feed h h5 := zfC_t (zfC_r _ _) f10 (fun a9 b9 z9 => by
      rcases z9 with z9 | z9
      · exact (Or.inl z9)
      · exact (Or.inr z9))
    have f47 : zfC w_X10_feed h h13 := zfC_t f48 f18 (fun a9 b9 z9 => by
      rcases z9 with z9 | z9
      · exact (Or.inl z9)
      · exact (Or.inr z9))
    have f46 : zfC w_X10_feed h h21 := zfC_t f47 f26 (fun a9 b9 z9 => by
      rcases z9 with z9 | z9
      · exact (Or.inl z9)
      · exact (Or.inr z9))
    have f45 : zfC w_X10_feed h h29 := zfC_t f46 f34 (fun a9 b9 z9 => by
      rcases z9 with z9 | z9
      · exact (Or.inl z9)
      · exact (Or.inr z9))
    have f44 : zfC w_X10_feed h h37 := zfC_t f45 f42 (fun a9 b9 z9 => by
      rcases z9 with z9 | z9
      · exact (Or.inl z9)
      · exact (Or.inr z9))
    exact zj_iret rfl (zdk ttX10_feed 30 rfl rfl) (Nat.le_refl _) (Nat.le_refl _) ⟨(h37.2 103 3), rfl, by omega, s39, f44, by unfold zfd; omega, ⟨by intro z9; have l1 := u8 (by omega); have e1 := u9 (by omega); have l2 := u16 (by omega); have e2 := u17 (by omega); rw [show h5.2 103 3 = h.2 103 3 + 4 by omega] at e2; have l3 := u24 (by omega); have e3 := u25 (by omega); rw [show h13.2 103 3 = h.2 103 3 + 8 by omega] at e3; have l4 := u32 (by omega); have e4 := u33 (by omega); rw [show h21.2 103 3 = h.2 103 3 + 12 by omega] at e4; have l5 := u40 (by omega); have e5 := u41 (by omega); rw [show h29.2 103 3 = h.2 103 3 + 16 by omega] at e5; exact tFd_5 e1 e2 e3 e4 e5, fun z => absurd z (by omega)⟩⟩
  · refine zj_iconst (zdk ttX10_feed 5 rfl rfl) ?_
    exact zj_iret rfl (zdk ttX10_feed 6 rfl rfl) (Nat.le_refl _) (Nat.le_refl _) ⟨(-1), rfl, by omega, s0, (zfC_r _ _), by unfold zfd; omega, ⟨fun z => absurd z (by omega), fun _ i => rfl⟩⟩

abbrev q2_X10_fault (h : zM) (p1 : Int) : Option zV → zM → Prop := zqi fun v h' => ((-2147483648) ≤ v ∧ v ≤ 2147483647) ∧ okC h' ∧ zfC w_X10_fault h h' ∧ ((p1 = 0 → v = h.2 103 7) ∧ (p1 = 1 → v = h.2 103 8) ∧ (¬ (p1 = 0 ∨ p1 = 1) → v = -1))
set_option maxRecDepth 100000 in
set_option maxHeartbeats 4000000 in
theorem s2_X10_fault (l : Launch) (h : zM) (p1 : Int) (s0 : okC h) (b_p1 : (-2147483648) ≤ p1 ∧ p1 ≤ 2147483647) : zT shC l yX10_fault cX10_fault 2 (some .int) (rmL 1) 0 0 [.inr 0, .inl p1] h (q2_X10_fault h p1) := by
  refine zT_of (by decide +kernel) (L0 := [some (.inr 0), some (.inl p1)]) rfl (Nat.le_of_ble_eq_true rfl) ?_
  refine zj_iload_n (zdk ttX10_fault 0 rfl rfl) rfl ?_
  have k2 : (¬ p1 = 0 ∧ ¬ p1 = 1) → zJ shC l yX10_fault cX10_fault 2 (some .int) (rmL 1) 0 0 (q2_X10_fault h p1) 0 0 44 [some (.inr 0), some (.inl p1)] [] h := by
    intro c1
    refine zj_iconst (zdk ttX10_fault 10 rfl rfl) ?_
    exact zj_iret rfl (zdk ttX10_fault 11 rfl rfl) (Nat.le_refl _) (Nat.le_refl _) ⟨(-1), rfl, by omega, s0, (zfC_r _ _), by omega⟩
  have k3 : p1 = 0 → zJ shC l yX10_fault cX10_fault 2 (some .int) (rmL 1) 0 0 (q2_X10_fault h p1) 0 0 28 [some (.inr 0), some (.inl p1)] [] h := by
    intro c1
    refine zj_aload_n (zdk ttX10_fault 2 rfl rfl) rfl (by decide) ?_
    refine zj_getr (r := 103) (zdk ttX10_fault 3 rfl rfl) zf_RX10_25 rfl (k_L0 s0) (rf_L0_3 s0) ?_
    have b4 : -2147483648 ≤ (h.2 103 7) ∧ (h.2 103 7) ≤ 2147483647 := fb_L103_7 s0
    refine zj_geti (v := (h.2 103 7)) (zdk ttX10_fault 4 rfl rfl) zf_RX10_198 rfl (k_L103 s0) rfl ?_
    exact zj_iret rfl (zdk ttX10_fault 5 rfl rfl) (Nat.le_refl _) (Nat.le_refl _) ⟨(h.2 103 7), rfl, by omega, s0, (zfC_r _ _), by omega⟩
  have k5 : p1 = 1 → zJ shC l yX10_fault cX10_fault 2 (some .int) (rmL 1) 0 0 (q2_X10_fault h p1) 0 0 36 [some (.inr 0), some (.inl p1)] [] h := by
    intro c1
    refine zj_aload_n (zdk ttX10_fault 6 rfl rfl) rfl (by decide) ?_
    refine zj_getr (r := 103) (zdk ttX10_fault 7 rfl rfl) zf_RX10_25 rfl (k_L0 s0) (rf_L0_3 s0) ?_
    have b6 : -2147483648 ≤ (h.2 103 8) ∧ (h.2 103 8) ≤ 2147483647 := fb_L103_8 s0
    refine zj_geti (v := (h.2 103 8)) (zdk ttX10_fault 8 rfl rfl) zf_RX10_201 rfl (k_L103 s0) rfl ?_
    exact zj_iret rfl (zdk ttX10_fault 9 rfl rfl) (Nat.le_refl _) (Nat.le_refl _) ⟨(h.2 103 8), rfl, by omega, s0, (zfC_r _ _), by omega⟩
  by_cases z7 : p1 = 0
  · exact zj_lookup (t := 28) (zdk ttX10_fault 1 rfl rfl) (by omega) rfl (by rw [z7] <;> rfl) (by decide) (k3 z7)
  by_cases z8 : p1 = 1
  · exact zj_lookup (t := 36) (zdk ttX10_fault 1 rfl rfl) (by omega) rfl (by rw [z8] <;> rfl) (by decide) (k5 z8)
  exact zj_lookup (t := 44) (zdk ttX10_fault 1 rfl rfl) (by omega) rfl (by show Op.lookupswitch.offset [(0, 27), (1, 35)] 43 p1 = _; rw [Op.lookupswitch.offset_cons, if_neg (by omega), Op.lookupswitch.offset_cons, if_neg (by omega), Op.lookupswitch.offset_nil]) (by decide) (k2 (by omega))
