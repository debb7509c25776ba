abbrev q2_X2_join (h : zM) (c : Int) (p1 : Int) (p2 : Int) : Option zV → zM → Prop := zqv fun h' => okC h' ∧ zfC (w_X2_join c) h h' ∧ (∀ i9, h'.2 (c + 1) i9 = if i9 = p2 then zor (if i9 = p1 then zor (h.2 (c + 1) i9) (zshl 1 p2) else h.2 (c + 1) i9) (zshl 1 p1) else (if i9 = p1 then zor (h.2 (c + 1) i9) (zshl 1 p2) else h.2 (c + 1) i9))
set_option maxRecDepth 100000 in
set_option maxHeartbeats 4000000 in
theorem s2_X2_join (l : Launch) (h : zM) (c : Int) (p1 : Int) (p2 : Int) (s0 : okC h) (hc : zKi c) (b_p1 : 0 ≤ p1 ∧ p1 ≤ 17) (b_p2 : 0 ≤ p2 ∧ p2 ≤ 17) : zT shC l yX2_join cX2_join 3 none (rmL 2) 0 0 [.inr c, .inl p1, .inl p2] h (q2_X2_join h c p1 p2) := by
  refine zT_of (by decide +kernel) (L0 := [some (.inr c), some (.inl p1), some (.inl p2)]) rfl (Nat.le_of_ble_eq_true rfl) ?_
  have b1 := zKi_b hc
  refine zj_iload_n (zdk ttX2_join 0 rfl rfl) rfl ?_
  refine zj_iconst (zdk ttX2_join 1 rfl rfl) ?_
  refine zj_bipush (zdk ttX2_join 2 rfl rfl) (by decide) ?_
  refine zj_callS (av := [.inl p1, .inl 0, .inl 17]) (st := []) (zdk ttX2_join 3 rfl rfl) mb_X10_within ms_RX2_31 rfl rfl (Nat.le_of_ble_eq_true rfl) (s_X10_within l h p1 0 17 s0 (by omega) (by omega) (by omega)) (rm_ok (by decide) (by decide)) (zq_i fun v3 h4 q2 => ?_)
  obtain ⟨rfl, ⟨rfl, b5⟩ | ⟨rfl, b5⟩⟩ := q2
  · exact absurd b5 (by omega)
  · refine zj_if_eq (t := 44) (zdk ttX2_join 4 rfl rfl) (by decide) (by decide) (fun c6 => ?_) (fun c6 => ?_)
    · exact absurd c6 (by omega)
    · refine zj_iload_n (zdk ttX2_join 5 rfl rfl) rfl ?_
      refine zj_iconst (zdk ttX2_join 6 rfl rfl) ?_
      refine zj_bipush (zdk ttX2_join 7 rfl rfl) (by decide) ?_
      refine zj_callS (av := [.inl p2, .inl 0, .inl 17]) (st := []) (zdk ttX2_join 8 rfl rfl) mb_X10_within ms_RX2_31 rfl rfl (Nat.le_of_ble_eq_true rfl) (s_X10_within l h p2 0 17 s0 (by omega) (by omega) (by omega)) (rm_ok (by decide) (by decide)) (zq_i fun v8 h9 q7 => ?_)
      obtain ⟨rfl, ⟨rfl, b10⟩ | ⟨rfl, b10⟩⟩ := q7
      · exact absurd b10 (by omega)
      · refine zj_if_eq (t := 44) (zdk ttX2_join 9 rfl rfl) (by decide) (by decide) (fun c11 => ?_) (fun c11 => ?_)
        · exact absurd c11 (by omega)
        · refine zj_aload_n (zdk ttX2_join 10 rfl rfl) rfl (by omega) ?_
          refine zj_getr (r := (c + 1)) (zdk ttX2_join 11 rfl rfl) zf_RX2_9 rfl (k_2_0 s0 hc) (rf_2_0_0 s0 hc) ?_
          refine zj_iload_n (zdk ttX2_join 12 rfl rfl) rfl ?_
          refine zj_dup2 (zdk ttX2_join 13 rfl rfl) ?_
          have b12 : -2147483648 ≤ (h.2 (c + 1) p1) ∧ (h.2 (c + 1) p1) ≤ 2147483647 := ab_2_0_0 s0 hc p1
          refine zj_iald (v := (h.2 (c + 1) p1)) (zdk ttX2_join 14 rfl rfl) (ka_2_0_0 s0 hc) (by decide) (by omega) rfl ?_
          refine zj_iconst (zdk ttX2_join 15 rfl rfl) ?_
          refine zj_iload_n (zdk ttX2_join 16 rfl rfl) rfl ?_
          refine zj_ishl (zdk ttX2_join 17 rfl rfl) ?_
          have b13 := zshl_1 (n := p2) (a := 0) (b := 17) (lo := 1) (hi := 131072) (by omega) (by decide) (by decide) (by decide)
          refine zj_ior (zdk ttX2_join 18 rfl rfl) ?_
          have b14 := zor_in (h.2 (c + 1) p1) (zshl 1 p2)
          refine zj_iast (zdk ttX2_join 19 rfl rfl) (ka_2_0_0 s0 hc) (by decide) (by omega) (fun h15 e16 => ?_)
          refine zj_aload_n (zdk ttX2_join 20 rfl rfl) rfl (by omega) ?_
          have s17 : okC h15 := aw_2_0_0 s0 hc e16 (by omega)
          refine zj_getr (r := (c + 1)) (zdk ttX2_join 21 rfl rfl) zf_RX2_9 rfl (k_2_0 s17 hc) (rf_2_0_0 s17 hc) ?_
          refine zj_iload_n (zdk ttX2_join 22 rfl rfl) rfl ?_
          refine zj_dup2 (zdk ttX2_join 23 rfl rfl) ?_
          have b18 : -2147483648 ≤ (h15.2 (c + 1) p2) ∧ (h15.2 (c + 1) p2) ≤ 2147483647 := ab_2_0_0 s17 hc p2
          refine zj_iald (v := (h15.2 (c + 1) p2)) (zdk ttX2_join 24 rfl rfl) (ka_2_0_0 s17 hc) (by decide) (by omega) rfl ?_
          refine zj_iconst (zdk ttX2_join 25 rfl rfl) ?_
          refine zj_iload_n (zdk ttX2_join 26 rfl rfl) rfl ?_
          refine zj_ishl (zdk ttX2_join 27 rfl rfl) ?_
          have b19 := zshl_1 (n := p1) (a := 0) (b := 17) (lo := 1) (hi := 131072) (by omega) (by decide) (by decide) (by decide)
          refine zj_ior (zdk ttX2_join 28 rfl rfl) ?_
          have b20 := zor_in (h15.2 (c + 1) p2) (zshl 1 p1)
          refine zj_iast (zdk ttX2_join 29 rfl rfl) (ka_2_0_0 s17 hc) (by decide) (by omega) (fun h21 e22 => ?_)
          have s23 : okC h21 := aw_2_0_0 s17 hc e22 (by omega)
          have f25 : zfC (w_X2_join c) h h15 := zfC_w (zfC_r _ _) e16 (by omega)
          have f24 : zfC (w_X2_join c) h h21 := zfC_w f25 e22 (by omega)
          exact zj_vret rfl (zdk ttX2_join 30 rfl rfl) (Nat.le_refl _) (Nat.le_refl _) ⟨rfl, s23, f24, (fun i9 => by have e1 : ∀ i8, h15.2 (c + 1) i8 = if i8 = p1 then zor (h.2 (c + 1) i8) (zshl 1 p2) else h.2 (c + 1) i8 := fun i8 => (zwr_if e16 i8).trans (by by_cases y9 : i8 = p1; (rw [if_pos y9, if_pos y9, y9]); (rw [if_neg y9, if_neg y9])); rw [zwr_if e22 i9, ← e1 i9]; by_cases q9 : i9 = p2; (rw [if_pos q9, if_pos q9, q9]); (rw [if_neg q9, if_neg q9]))⟩

abbrev q2_X2_clear (h : zM) (c : Int) : Option zV → zM → Prop := zqv fun h' => okC h' ∧ zfC (w_X2_clear c) h h' ∧ (h'.2 c 1 = 0) ∧ (∀ i9, 0 ≤ i9 → i9 < 18 → h'.2 (c + 1) i9 = 0)
set_option maxRecDepth 100000 in
set_option maxHeartbeats 4000000 in
theorem s2_X2_clear (l : Launch) (h : zM) (c : Int) (s0 : okC h) (hc : zKi c) : zT shC l yX2_clear cX2_clear 1 none (rmL 2) 0 0 [.inr c] h (q2_X2_clear h c) := by
  refine zT_of (by decide +kernel) (L0 := [some (.inr c)]) rfl (Nat.le_of_ble_eq_true rfl) ?_
  have b1 := zKi_b hc
  refine zj_aload_n (zdk ttX2_clear 0 rfl rfl) rfl (by omega) ?_
  refine zj_getr (r := (c + 1)) (zdk ttX2_clear 1 rfl rfl) zf_RX2_9 rfl (k_2_0 s0 hc) (rf_2_0_0 s0 hc) ?_
  refine zj_iconst (zdk ttX2_clear 2 rfl rfl) ?_
  refine zj_callS (av := [.inr (c + 1), .inl 0]) (st := []) (zdk ttX2_clear 3 rfl rfl) mb_J7_fill_53178 ms_RX2_25 rfl rfl (Nat.le_of_ble_eq_true rfl) (s_J7_fill_53178 shC l h (c + 1) 0 (ka_2_0_0 s0 hc) (by decide)) (rm_ok (by decide) (by decide)) (zq_v fun h2 e3 => ?_)
  refine zj_aload_n (zdk ttX2_clear 4 rfl rfl) rfl (by omega) ?_
  refine zj_iconst (zdk ttX2_clear 5 rfl rfl) ?_
  have s4 : okC h2 := okC_fill s0 e3 (fun j => pa_2_0_0 hc (v := 0) (by omega) j) (na_2_0_0 hc).1 (na_2_0_0 hc).2
  refine zj_puti (zdk ttX2_clear 6 rfl rfl) zf_RX2_15 rfl (k_2_0 s4 hc) (Or.inl zw_RX2_15) (k2 := 1) rfl (fun h5 e6 => ?_)
  have s7 : okC h5 := fw_2_0_1 s4 hc e6 (by omega)
  have f9 : zfC (w_X2_clear c) h h2 := zfC_fill (zfC_r _ _) e3 (fun _ => (Or.inr (by omega)))
  have f8 : zfC (w_X2_clear c) h h5 := zfC_w f9 e6 (Or.inl (by omega))
  have b10 : h5.2 c 1 = 0 := (zwr_v e6)
  exact zj_vret rfl (zdk ttX2_clear 7 rfl rfl) (Nat.le_refl _) (Nat.le_refl _) ⟨rfl, s7, f8, by omega, (fun i9 a9 b9 => ((zwr_r e6 (by first | decide | exact (absurd ·.1 (by decide)) | exact (absurd ·.2 (by decide)) | omega))).trans (tFil e3 (by omega)))⟩

abbrev q2_X7_readKinLine (h : zM) (p1 : Int) (p2 : Int) : Option zV → zM → Prop := zqi fun v h' => (0 ≤ v ∧ v ≤ 1) ∧ okC h' ∧ zfC (w_X7_readKinLine p1) h h' ∧ (∀ T P j, tPo T P j h → T j = 200 → (v = 1 → ∃ j9 a9 b9, tPo T P j9 h' ∧ j < j9 ∧ ((0 ≤ a9 ∧ a9 < p2) ∧ (0 ≤ b9 ∧ b9 < p2) ∧ ¬ a9 = b9) ∧ (∀ i9, h'.2 (p1 + 1) i9 = if i9 = b9 then zor (if i9 = a9 then zor (h.2 (p1 + 1) i9) (zshl 1 b9) else h.2 (p1 + 1) i9) (zshl 1 a9) else (if i9 = a9 then zor (h.2 (p1 + 1) i9) (zshl 1 b9) else h.2 (p1 + 1) i9)) ∧ ∀ n9 s9 c9 d9, n9 < 16 → tRe T p2 (40, j, n9, s9, c9, d9) (40, j9, n9 + 1, [], c9, b9 :: a9 :: d9)) ∧ (v = 0 → ∃ i9 f9, (h'.2 103 7 = f9 ∧ h'.2 103 8 = P i9) ∧ ∀ n9 s9 c9 d9, n9 < 16 → tRe T p2 (40, j, n9, s9, c9, d9) (tEr i9 f9)))
set_option maxRecDepth 100000 in
set_option maxHeartbeats 4000000 in
theorem s2_X7_readKinLine (l : Launch) (h : zM) (p1 : Int) (p2 : Int) (s0 : okC h) (r_p1 : zKi p1) (b_p2 : 0 ≤ p2 ∧ p2 ≤ 18) : zT shC l yX7_readKinLine cX7_readKinLine 4 (some .boolean) (rmL 6) 0 0 [.inr 107, .inr p1, .inl p2] h (q2_X7_readKinLine h p1 p2) := by
  refine zT_of (by decide +kernel) (L0 := [some (.inr 107), some (.inr p1), some (.inl p2), none]) rfl (Nat.le_of_ble_eq_true rfl) ?_
  have b1 := zKi_b r_p1
  refine zj_aload_n (zdk ttX7_readKinLine 0 rfl rfl) rfl (by decide) ?_
  refine zj_getr (r := 103) (zdk ttX7_readKinLine 1 rfl rfl) zf_RX7_9 rfl (k_L107 s0) (rf_L107_0 s0) ?_
  refine zj_callV (av := []) (st := []) (zdk ttX7_readKinLine 2 rfl rfl) mb_X6_pass mv_RX7_47 (ci := 6) rfl rfl (k_L103 s0) rfl rfl (Nat.le_of_ble_eq_true rfl) (s2_X6_pass l h s0) (rm_ok (by decide) (by decide)) (zq_v fun h4 q2 => ?_)
  obtain ⟨s6, f8, u7⟩ := q2
  refine zj_aload_n (zdk ttX7_readKinLine 3 rfl rfl) rfl (by decide) ?_
  refine zj_getr (r := 103) (zdk ttX7_readKinLine 4 rfl rfl) zf_RX7_9 rfl (k_L107 s6) (rf_L107_0 s6) ?_
  refine zj_iconst (zdk ttX7_readKinLine 5 rfl rfl) ?_
  refine zj_iload_n (zdk ttX7_readKinLine 6 rfl rfl) rfl ?_
  refine zj_iconst (zdk ttX7_readKinLine 7 rfl rfl) ?_
  refine zj_isub (zdk ttX7_readKinLine 8 rfl rfl) ?_
  refine zj_callV (av := [.inl 0, .inl (p2 - 1)]) (st := []) (zdk ttX7_readKinLine 9 rfl rfl) mb_X6_takesNumber mv_RX7_104 (ci := 6) rfl rfl (k_L103 s6) rfl rfl (Nat.le_of_ble_eq_true rfl) (s2_X6_takesNumber l h4 0 (p2 - 1) s6 (by omega) (by omega)) (rm_ok (by decide) (by decide)) (zq_i fun v10 h11 q9 => ?_)
  obtain ⟨b12, s13, f16, u14, u15⟩ := q9
  refine zj_if_ne (t := 23) (zdk ttX7_readKinLine 10 rfl rfl) (by decide) (by omega) (fun c17 => ?_) (fun c17 => ?_)
  · refine zj_aload_n (zdk ttX7_readKinLine 13 rfl rfl) rfl (by decide) ?_
    refine zj_getr (r := 103) (zdk ttX7_readKinLine 14 rfl rfl) zf_RX7_9 rfl (k_L107 s13) (rf_L107_0 s13) ?_
    have b18 : -2147483648 ≤ (h11.2 103 9) ∧ (h11.2 103 9) ≤ 2147483647 := fb_L103_9 s13
    refine zj_geti (v := (h11.2 103 9)) (zdk ttX7_readKinLine 15 rfl rfl) zf_RX7_110 rfl (k_L103 s13) rfl ?_
    have b19 : 0 ≤ (h11.2 103 9) ∧ (h11.2 103 9) ≤ 17 := by omega
    refine zj_istore_n (L' := [some (.inr 107), some (.inr p1), some (.inl p2), some (.inl (h11.2 103 9))]) (zdk ttX7_readKinLine 16 rfl rfl) (by decide) rfl ?_
    refine zj_aload_n (zdk ttX7_readKinLine 17 rfl rfl) rfl (by decide) ?_
    refine zj_getr (r := 103) (zdk ttX7_readKinLine 18 rfl rfl) zf_RX7_9 rfl (k_L107 s13) (rf_L107_0 s13) ?_
    refine zj_sipush (zdk ttX7_readKinLine 19 rfl rfl) (by decide) ?_
    refine zj_callV (av := [.inl 201]) (st := []) (zdk ttX7_readKinLine 20 rfl rfl) mb_X6_takes mv_RX7_70 (ci := 6) rfl rfl (k_L103 s13) rfl rfl (Nat.le_of_ble_eq_true rfl) (s2_X6_takes l h11 201 s13 (by omega)) (rm_ok (by decide) (by decide)) (zq_i fun v21 h22 q20 => ?_)
    obtain ⟨b23, s24, f26, u25⟩ := q20
    refine zj_if_ne (t := 46) (zdk ttX7_readKinLine 21 rfl rfl) (by decide) (by omega) (fun c27 => ?_) (fun c27 => ?_)
    · refine zj_aload_n (zdk ttX7_readKinLine 24 rfl rfl) rfl (by decide) ?_
      refine zj_getr (r := 103) (zdk ttX7_readKinLine 25 rfl rfl) zf_RX7_9 rfl (k_L107 s24) (rf_L107_0 s24) ?_
      have b28 : -2147483648 ≤ (h22.2 103 6) ∧ (h22.2 103 6) ≤ 2147483647 := fb_L103_6 s24
      refine zj_geti (v := (h22.2 103 6)) (zdk ttX7_readKinLine 26 rfl rfl) zf_RX7_32 rfl (k_L103 s24) rfl ?_
      refine zj_sipush (zdk ttX7_readKinLine 27 rfl rfl) (by decide) ?_
      refine zj_iload_n (zdk ttX7_readKinLine 28 rfl rfl) rfl ?_
      refine zj_iadd (zdk ttX7_readKinLine 29 rfl rfl) ?_
      refine zj_icmp_ne (t := 70) (zdk ttX7_readKinLine 30 rfl rfl) (by decide) (by omega) (by omega) (fun c29 => ?_) (fun c29 => ?_)
      · refine zj_aload_n (zdk ttX7_readKinLine 36 rfl rfl) rfl (by decide) ?_
        refine zj_getr (r := 103) (zdk ttX7_readKinLine 37 rfl rfl) zf_RX7_9 rfl (k_L107 s24) (rf_L107_0 s24) ?_
        refine zj_iconst (zdk ttX7_readKinLine 38 rfl rfl) ?_
        refine zj_iload_n (zdk ttX7_readKinLine 39 rfl rfl) rfl ?_
        refine zj_iconst (zdk ttX7_readKinLine 40 rfl rfl) ?_
        refine zj_isub (zdk ttX7_readKinLine 41 rfl rfl) ?_
        refine zj_callV (av := [.inl 0, .inl (p2 - 1)]) (st := []) (zdk ttX7_readKinLine 42 rfl rfl) mb_X6_takesNumber mv_RX7_104 (ci := 6) rfl rfl (k_L103 s24) rfl rfl (Nat.le_of_ble_eq_true rfl) (s2_X6_takesNumber l h22 0 (p2 - 1) s24 (by omega) (by omega)) (rm_ok (by decide) (by decide)) (zq_i fun v31 h32 q30 => ?_)
        obtain ⟨b33, s34, f37, u35, u36⟩ := q30
        refine zj_if_ne (t := 86) (zdk ttX7_readKinLine 43 rfl rfl) (by decide) (by omega) (fun c38 => ?_) (fun c38 => ?_)
        · refine zj_aload_n (zdk ttX7_readKinLine 46 rfl rfl) rfl (by omega) ?_
          refine zj_iload_n (zdk ttX7_readKinLine 47 rfl rfl) rfl ?_
          refine zj_aload_n (zdk ttX7_readKinLine 48 rfl rfl) rfl (by decide) ?_
          refine zj_getr (r := 103) (zdk ttX7_readKinLine 49 rfl rfl) zf_RX7_9 rfl (k_L107 s34) (rf_L107_0 s34) ?_
          have b39 : -2147483648 ≤ (h32.2 103 9) ∧ (h32.2 103 9) ≤ 2147483647 := fb_L103_9 s34
          refine zj_geti (v := (h32.2 103 9)) (zdk ttX7_readKinLine 50 rfl rfl) zf_RX7_110 rfl (k_L103 s34) rfl ?_
          refine zj_callV (av := [.inl (h11.2 103 9), .inl (h32.2 103 9)]) (st := []) (zdk ttX7_readKinLine 51 rfl rfl) mb_X2_join mv_RX7_140 (ci := 2) rfl rfl (k_2_0 s34 r_p1) rfl rfl (Nat.le_of_ble_eq_true rfl) (s2_X2_join l h32 p1 (h11.2 103 9) (h32.2 103 9) s34 r_p1 (by omega) (by omega)) (rm_ok (by decide) (by decide)) (zq_v fun h42 q40 => ?_)
          obtain ⟨s44, f46, u45⟩ := q40
          refine zj_aload_n (zdk ttX7_readKinLine 52 rfl rfl) rfl (by decide) ?_
          refine zj_getr (r := 103) (zdk ttX7_readKinLine 53 rfl rfl) zf_RX7_9 rfl (k_L107 s44) (rf_L107_0 s44) ?_
          refine zj_bipush (zdk ttX7_readKinLine 54 rfl rfl) (by decide) ?_
          refine zj_callV (av := [.inl 59]) (st := []) (zdk ttX7_readKinLine 55 rfl rfl) mb_X6_takes mv_RX7_70 (ci := 6) rfl rfl (k_L103 s44) rfl rfl (Nat.le_of_ble_eq_true rfl) (s2_X6_takes l h42 59 s44 (by omega)) (rm_ok (by decide) (by decide)) (zq_i fun v48 h49 q47 => ?_)
          obtain ⟨b50, s51, f53, u52⟩ := q47
          have f59 : zfC (w_X7_readKinLine p1) h h4 := zfC_t (zfC_r _ _) f8 (fun a9 b9 z9 => by
            exact (Or.inl (by omega)))
          have f58 : zfC (w_X7_readKinLine p1) h h11 := zfC_t f59 f16 (fun a9 b9 z9 => by
            exact (Or.inl z9))
          have f57 : zfC (w_X7_readKinLine p1) h h22 := zfC_t f58 f26 (fun a9 b9 z9 => by
            exact (Or.inl (by omega)))
          have f56 : zfC (w_X7_readKinLine p1) h h32 := zfC_t f57 f37 (fun a9 b9 z9 => by
            exact (Or.inl z9))
          have f55 : zfC (w_X7_readKinLine p1) h h42 := zfC_t f56 f46 (fun a9 b9 z9 => by
            exact (Or.inr (by omega)))
          have f54 : zfC (w_X7_readKinLine p1) h h49 := zfC_t f55 f53 (fun a9 b9 z9 => by
            exact (Or.inl (by omega)))
          have b60 : h42.2 103 6 = (h32.2 103 6) := (zfC_a f46 (fun z9 => by unfold w_X2_join at z9; first | (revert z9; decide) | omega))
          exact zj_zret rfl (zdk ttX7_readKinLine 56 rfl rfl) (Nat.le_refl _) (Nat.le_refl _) (by omega) ⟨v48, rfl, by omega, s51, f54, (by intro T P j t0 yh9; have k0 := t0.2.2.1.2; have l0 := t0.2.2.2.1; have k_1 := t0.2.2.1.2; have k_1l := t0.2.2.2.1; have a_2 : tPo T P (j + 1) h4 := u7 T P j t0 (by omega); have r_3 := (u14 T P (j + 1) a_2).1 (by omega); have r_3a : tPo T P ((j + 1) + 1) h11 := r_3.2.2; have r_4 := (u25 T P ((j + 1) + 1) r_3a).1 (by omega); have r_4a : tPo T P (((j + 1) + 1) + 1) h22 := (r_4.2 (by omega)); have k_5 := r_4a.2.2.1.2; have k_5l := r_4a.2.2.2.1; have v9 := r_3.2.1; have m9 := tNm_f 0 (p2 - 1) (T (((j + 1) + 1) + 1)); have r_6 := (u35 T P (((j + 1) + 1) + 1) r_4a).1 (by omega); have r_6a : tPo T P ((((j + 1) + 1) + 1) + 1) h32 := r_6.2.2; have v8 := r_6.2.1; have a_7 : tPo T P ((((j + 1) + 1) + 1) + 1) h42 := tPo_f r_6a (fun i => (zfC_a f46 (fun z9 => by unfold w_X2_join at z9; first | (revert z9; decide) | omega))) (fun i => (zfC_a f46 (fun z9 => by unfold w_X2_join at z9; first | (revert z9; decide) | omega))) (zfC_a f46 (fun z9 => by unfold w_X2_join at z9; first | (revert z9; decide) | omega)) (zfC_a f46 (fun z9 => by unfold w_X2_join at z9; first | (revert z9; decide) | omega)) (zfC_a f46 (fun z9 => by unfold w_X2_join at z9; first | (revert z9; decide) | omega)) (zfC_a f46 (fun z9 => by unfold w_X2_join at z9; first | (revert z9; decide) | omega)) (zfC_a f46 (fun z9 => by unfold w_X2_join at z9; first | (revert z9; decide) | omega)); have e_8 := u52 T P ((((j + 1) + 1) + 1) + 1) a_7; exact ⟨fun z => ⟨(((((j + 1) + 1) + 1) + 1) + 1), (h11.2 103 9), (h32.2 103 9), (e_8.1 z).2 (by omega), by omega, ⟨by omega, by omega, by omega⟩, fun i9 => ((zfC_a f53 (fun z9 => by unfold w_X6_takes at z9; first | (revert z9; decide) | omega))).trans (by rw [u45 i9, show h32.2 (p1 + 1) i9 = h.2 (p1 + 1) i9 from ((((zfC_a f37 (fun z9 => by unfold w_X6_takesNumber at z9; first | (revert z9; decide) | omega)).trans (zfC_a f26 (fun z9 => by unfold w_X6_takes at z9; first | (revert z9; decide) | omega))).trans (zfC_a f16 (fun z9 => by unfold w_X6_takesNumber at z9; first | (revert z9; decide) | omega))).trans (zfC_a f8 (fun z9 => by unfold w_X6_pass at z9; first | (revert z9; decide) | omega)))]), fun n9 s9 c9 d9 w9 => tRe_q (tRe_s (tRe_s (tRe_s (tRe_s (tRe_s tRe_r (tMl_l (Or.inr (Or.inr rfl)) yh9 w9)) (tM41_y rfl r_3.1)) (tM42_y r_4.1)) (tM43_y (by omega) rfl r_6.1)) (tMs_y (Or.inr (Or.inr ⟨rfl, rfl⟩)) (e_8.1 z).1)) (by simp only [List.cons.injEq]; refine ⟨?_, ?_, ?_⟩ <;> first | trivial | rfl | omega)⟩, fun z => ⟨((((j + 1) + 1) + 1) + 1), _, (e_8.2 z).2, fun n9 s9 c9 d9 w9 => tRe_s (tRe_s (tRe_s (tRe_s (tRe_s tRe_r (tMl_l (Or.inr (Or.inr rfl)) yh9 w9)) (tM41_y rfl r_3.1)) (tM42_y r_4.1)) (tM43_y (by omega) rfl r_6.1)) (tMs_n (Or.inr (Or.inr rfl)) (e_8.2 z).1)⟩⟩)⟩
        · refine zj_iconst (zdk ttX7_readKinLine 44 rfl rfl) ?_
          have f64 : zfC (w_X7_readKinLine p1) h h4 := zfC_t (zfC_r _ _) f8 (fun a9 b9 z9 => by
            exact (Or.inl (by omega)))
          have f63 : zfC (w_X7_readKinLine p1) h h11 := zfC_t f64 f16 (fun a9 b9 z9 => by
            exact (Or.inl z9))
          have f62 : zfC (w_X7_readKinLine p1) h h22 := zfC_t f63 f26 (fun a9 b9 z9 => by
            exact (Or.inl (by omega)))
          have f61 : zfC (w_X7_readKinLine p1) h h32 := zfC_t f62 f37 (fun a9 b9 z9 => by
            exact (Or.inl z9))
          exact zj_zret rfl (zdk ttX7_readKinLine 45 rfl rfl) (Nat.le_refl _) (Nat.le_refl _) (by omega) ⟨0, rfl, by omega, s34, f61, (by intro T P j t0 yh9; have k0 := t0.2.2.1.2; have l0 := t0.2.2.2.1; have k_1 := t0.2.2.1.2; have k_1l := t0.2.2.2.1; have a_2 : tPo T P (j + 1) h4 := u7 T P j t0 (by omega); have r_3 := (u14 T P (j + 1) a_2).1 (by omega); have r_3a : tPo T P ((j + 1) + 1) h11 := r_3.2.2; have r_4 := (u25 T P ((j + 1) + 1) r_3a).1 (by omega); have r_4a : tPo T P (((j + 1) + 1) + 1) h22 := (r_4.2 (by omega)); have k_5 := r_4a.2.2.1.2; have k_5l := r_4a.2.2.2.1; have v9 := r_3.2.1; have e_6 := (u35 T P (((j + 1) + 1) + 1) r_4a).2 (by omega); exact ⟨fun z => absurd z (by omega), fun _ => ⟨(((j + 1) + 1) + 1), _, e_6.2, fun n9 s9 c9 d9 w9 => tRe_s (tRe_s (tRe_s (tRe_s tRe_r (tMl_l (Or.inr (Or.inr rfl)) yh9 w9)) (tM41_y rfl r_3.1)) (tM42_y r_4.1)) (tM43_n (by omega) rfl (by omega) rfl)⟩⟩)⟩
      · refine zj_aload_n (zdk ttX7_readKinLine 31 rfl rfl) rfl (by decide) ?_
        refine zj_getr (r := 103) (zdk ttX7_readKinLine 32 rfl rfl) zf_RX7_9 rfl (k_L107 s24) (rf_L107_0 s24) ?_
        refine zj_iconst (zdk ttX7_readKinLine 33 rfl rfl) ?_
        refine zj_callV (av := [.inl 2]) (st := []) (zdk ttX7_readKinLine 34 rfl rfl) mb_X6_refuse mv_RX7_81 (ci := 6) rfl rfl (k_L103 s24) rfl rfl (Nat.le_of_ble_eq_true rfl) (s2_X6_refuse l h22 2 s24 (by omega)) (rm_ok (by decide) (by decide)) (zq_i fun v66 h67 q65 => ?_)
        obtain ⟨b68, s69, f71, u70⟩ := q65
        have f75 : zfC (w_X7_readKinLine p1) h h4 := zfC_t (zfC_r _ _) f8 (fun a9 b9 z9 => by
          exact (Or.inl (by omega)))
        have f74 : zfC (w_X7_readKinLine p1) h h11 := zfC_t f75 f16 (fun a9 b9 z9 => by
          exact (Or.inl z9))
        have f73 : zfC (w_X7_readKinLine p1) h h22 := zfC_t f74 f26 (fun a9 b9 z9 => by
          exact (Or.inl (by omega)))
        have f72 : zfC (w_X7_readKinLine p1) h h67 := zfC_t f73 f71 (fun a9 b9 z9 => by
          exact (Or.inl (by omega)))
        have b76 : h67.2 103 6 = (h22.2 103 6) := (zfC_a f71 (fun z9 => by unfold w_X6_refuse at z9; first | (revert z9; decide) | omega))
        exact zj_zret rfl (zdk ttX7_readKinLine 35 rfl rfl) (Nat.le_refl _) (Nat.le_refl _) (by omega) ⟨v66, rfl, by omega, s69, f72, (by intro T P j t0 yh9; have k0 := t0.2.2.1.2; have l0 := t0.2.2.2.1; have k_1 := t0.2.2.1.2; have k_1l := t0.2.2.2.1; have a_2 : tPo T P (j + 1) h4 := u7 T P j t0 (by omega); have r_3 := (u14 T P (j + 1) a_2).1 (by omega); have r_3a : tPo T P ((j + 1) + 1) h11 := r_3.2.2; have r_4 := (u25 T P ((j + 1) + 1) r_3a).1 (by omega); have r_4a : tPo T P (((j + 1) + 1) + 1) h22 := (r_4.2 (by omega)); have k_5 := r_4a.2.2.1.2; have k_5l := r_4a.2.2.2.1; have v9 := r_3.2.1; have e_6 := u70 T P (((j + 1) + 1) + 1) r_4a; exact ⟨fun z => absurd z (by omega), fun _ => ⟨(((j + 1) + 1) + 1), _, e_6, fun n9 s9 c9 d9 w9 => tRe_s (tRe_s (tRe_s (tRe_s tRe_r (tMl_l (Or.inr (Or.inr rfl)) yh9 w9)) (tM41_y rfl r_3.1)) (tM42_y r_4.1)) (tM43_2 (by omega))⟩⟩)⟩
    · refine zj_iconst (zdk ttX7_readKinLine 22 rfl rfl) ?_
      have f79 : zfC (w_X7_readKinLine p1) h h4 := zfC_t (zfC_r _ _) f8 (fun a9 b9 z9 => by
        exact (Or.inl (by omega)))
      have f78 : zfC (w_X7_readKinLine p1) h h11 := zfC_t f79 f16 (fun a9 b9 z9 => by
        exact (Or.inl z9))
      have f77 : zfC (w_X7_readKinLine p1) h h22 := zfC_t f78 f26 (fun a9 b9 z9 => by
        exact (Or.inl (by omega)))
      exact zj_zret rfl (zdk ttX7_readKinLine 23 rfl rfl) (Nat.le_refl _) (Nat.le_refl _) (by omega) ⟨0, rfl, by omega, s24, f77, (by intro T P j t0 yh9; have k0 := t0.2.2.1.2; have l0 := t0.2.2.2.1; have k_1 := t0.2.2.1.2; have k_1l := t0.2.2.2.1; have a_2 : tPo T P (j + 1) h4 := u7 T P j t0 (by omega); have r_3 := (u14 T P (j + 1) a_2).1 (by omega); have r_3a : tPo T P ((j + 1) + 1) h11 := r_3.2.2; have e_4 := (u25 T P ((j + 1) + 1) r_3a).2 (by omega); exact ⟨fun z => absurd z (by omega), fun _ => ⟨((j + 1) + 1), _, e_4.2, fun n9 s9 c9 d9 w9 => tRe_s (tRe_s (tRe_s tRe_r (tMl_l (Or.inr (Or.inr rfl)) yh9 w9)) (tM41_y rfl r_3.1)) (tM42_n e_4.1)⟩⟩)⟩
  · refine zj_iconst (zdk ttX7_readKinLine 11 rfl rfl) ?_
    have f81 : zfC (w_X7_readKinLine p1) h h4 := zfC_t (zfC_r _ _) f8 (fun a9 b9 z9 => by
      exact (Or.inl (by omega)))
    have f80 : zfC (w_X7_readKinLine p1) h h11 := zfC_t f81 f16 (fun a9 b9 z9 => by
      exact (Or.inl z9))
    exact zj_zret rfl (zdk ttX7_readKinLine 12 rfl rfl) (Nat.le_refl _) (Nat.le_refl _) (by omega) ⟨0, rfl, by omega, s13, f80, (by intro T P j t0 yh9; have k0 := t0.2.2.1.2; have l0 := t0.2.2.2.1; have k_1 := t0.2.2.1.2; have k_1l := t0.2.2.2.1; have a_2 : tPo T P (j + 1) h4 := u7 T P j t0 (by omega); have e_3 := (u14 T P (j + 1) a_2).2 (by omega); exact ⟨fun z => absurd z (by omega), fun _ => ⟨(j + 1), _, e_3.2, fun n9 s9 c9 d9 w9 => tRe_s (tRe_s tRe_r (tMl_l (Or.inr (Or.inr rfl)) yh9 w9)) (tM41_n rfl (by omega) rfl)⟩⟩)⟩

abbrev q2_X7_readKin (h : zM) (p1 : Int) (p2 : Int) : Option zV → zM → Prop := zqi fun v h' => (0 ≤ v ∧ v ≤ 1) ∧ okC h' ∧ zfC (w_X7_readKin p1) h h' ∧ (h.2 103 7 = 0 → h.2 103 8 = -1 → ∃ T P c9, tCk 4 (h.2 104) (h.2 103 3) T P c9 ∧ (∀ j9, T j9 ≤ 10999) ∧ (v = 1 → (h'.2 103 7 = 0 ∧ h'.2 103 8 = -1) ∧ (0 ≤ h'.2 p1 1 ∧ h'.2 p1 1 ≤ 16) ∧ ∃ j9 d9, (∀ i9, 0 ≤ i9 → i9 < 18 → h'.2 (p1 + 1) i9 = tKs d9 i9) ∧ tRe T p2 (40, 0, 0, [], [], []) (1, j9, h'.2 p1 1, [], [], d9)) ∧ (v = 0 → ∃ i9 f9, (h'.2 103 7 = f9 ∧ h'.2 103 8 = P i9) ∧ tRe T p2 (40, 0, 0, [], [], []) (tEr i9 f9)))
set_option maxRecDepth 100000 in
set_option maxHeartbeats 4000000 in
theorem s2_X7_readKin (l : Launch) (h : zM) (p1 : Int) (p2 : Int) (s0 : okC h) (r_p1 : zKi p1) (b_p2 : 0 ≤ p2 ∧ p2 ≤ 18) : zT shC l yX7_readKin cX7_readKin 4 (some .boolean) (rmL 9) 0 0 [.inr 107, .inr p1, .inl p2] h (q2_X7_readKin h p1 p2) := by
  refine zT_of (by decide +kernel) (L0 := [some (.inr 107), some (.inr p1), some (.inl p2), none]) rfl (Nat.le_of_ble_eq_true rfl) ?_
  have b1 := zKi_b r_p1
  refine zj_aload_n (zdk ttX7_readKin 0 rfl rfl) rfl (by decide) ?_
  refine zj_getr (r := 103) (zdk ttX7_readKin 1 rfl rfl) zf_RX7_9 rfl (k_L107 s0) (rf_L107_0 s0) ?_
  refine zj_ldcS (i := 4) (zdk ttX7_readKin 2 rfl rfl) (List.mem_of_getElem? (i := 4) rfl) ?_
  refine zj_callV (av := [.inr (-2 - ((4 : Nat) : Int))]) (st := []) (zdk ttX7_readKin 3 rfl rfl) mb_X6_cut mv_RX7_19 (ci := 6) rfl rfl (k_L103 s0) rfl rfl (Nat.le_of_ble_eq_true rfl) (s2_X6_cut l h 4 s0 (show 4 < 5 by decide)) (rm_ok (by decide) (by decide)) (zq_v fun h4 q2 => ?_)
  obtain ⟨s6, f10, u7, u8, u9⟩ := q2
  refine zj_aload_n (zdk ttX7_readKin 4 rfl rfl) rfl (by omega) ?_
  refine zj_callV (av := []) (st := []) (zdk ttX7_readKin 5 rfl rfl) mb_X2_clear mv_RX7_132 (ci := 2) rfl rfl (k_2_0 s6 r_p1) rfl rfl (Nat.le_of_ble_eq_true rfl) (s2_X2_clear l h4 p1 s6 r_p1) (rm_ok (by decide) (by decide)) (zq_v fun h13 q11 => ?_)
  obtain ⟨s15, f18, u16, u17⟩ := q11
  refine zj_iconst (zdk ttX7_readKin 6 rfl rfl) ?_
  refine zj_istore_n (L' := [some (.inr 107), some (.inr p1), some (.inl p2), some (.inl 0)]) (zdk ttX7_readKin 7 rfl rfl) (by decide) rfl ?_
  have lp45 : ∀ (n : Nat) (x19 : Int) (h20 : zM), (0 ≤ x19 ∧ x19 ≤ 16) → okC h20 → zfC (w_X7_readKin p1) h h20 → (h.2 103 7 = 0 → h.2 103 8 = -1 → ∃ j9 d9, tPo (tZt h4) (h4.2 106) j9 h20 ∧ (∀ i9, 0 ≤ i9 → i9 < 18 → h20.2 (p1 + 1) i9 = tKs d9 i9) ∧ tRe (tZt h4) p2 (40, 0, 0, [], [], []) (40, j9, x19, [], [], d9)) → (h20.2 p1 1 = x19) → (17 - x19).toNat < n → zJ shC l yX7_readKin cX7_readKin 4 (some .boolean) (rmL 9) 0 0 (q2_X7_readKin h p1 p2) 0 0 15 [some (.inr 107), some (.inr p1), some (.inl p2), some (.inl x19)] [] h20 := by
    intro n
    induction n with
    | zero => intro x19 h20 b46 s21 f22 u47 u48 m49; exact absurd m49 (Nat.not_lt_zero _)
    | succ n ih50 =>
      intro x19 h20 b46 s21 f22 u47 u48 m49
      refine zj_iload_n (zdk ttX7_readKin 8 rfl rfl) rfl ?_
      refine zj_bipush (zdk ttX7_readKin 9 rfl rfl) (by decide) ?_
      refine zj_icmp_gt (t := 68) (zdk ttX7_readKin 10 rfl rfl) (by decide) (by omega) (by decide) (fun c51 => ?_) (fun c51 => ?_)
      · exact absurd c51 (by omega)
      · refine zj_aload_n (zdk ttX7_readKin 11 rfl rfl) rfl (by decide) ?_
        refine zj_getr (r := 103) (zdk ttX7_readKin 12 rfl rfl) zf_RX7_9 rfl (k_L107 s21) (rf_L107_0 s21) ?_
        have b52 : -2147483648 ≤ (h20.2 103 6) ∧ (h20.2 103 6) ≤ 2147483647 := fb_L103_6 s21
        refine zj_geti (v := (h20.2 103 6)) (zdk ttX7_readKin 13 rfl rfl) zf_RX7_32 rfl (k_L103 s21) rfl ?_
        refine zj_if_eq (t := 68) (zdk ttX7_readKin 14 rfl rfl) (by decide) (by omega) (fun c53 => ?_) (fun c53 => ?_)
        · refine zj_iconst (zdk ttX7_readKin 36 rfl rfl) ?_
          exact zj_zret rfl (zdk ttX7_readKin 37 rfl rfl) (Nat.le_refl _) (Nat.le_refl _) (by omega) ⟨1, rfl, by omega, s21, f22, (by intro y7 y8; obtain ⟨j, d9, t0, k0k, r0⟩ := u47 y7 y8; have k0 := t0.2.2.1.2; have l0 := t0.2.2.2.1; exact ⟨(tZt h4), (h4.2 106), _, (tZt_k u9), (tZt_b (by decide) u9), fun _ => ⟨t0.2.2.2.2.2.2, by omega, j, d9, fun i9 a9 b9 => (rfl).trans (k0k i9 a9 b9), by have z9 := tRe_s r0 (tMl_e (Or.inr (Or.inr rfl)) (by omega)); rw [show x19 = h20.2 p1 1 by omega] at z9; exact z9⟩, fun z => absurd z (by omega)⟩)⟩
        · refine zj_aload_n (zdk ttX7_readKin 15 rfl rfl) rfl (by decide) ?_
          refine zj_getr (r := 103) (zdk ttX7_readKin 16 rfl rfl) zf_RX7_9 rfl (k_L107 s21) (rf_L107_0 s21) ?_
          refine zj_iload_n (zdk ttX7_readKin 17 rfl rfl) rfl ?_
          refine zj_iconst (zdk ttX7_readKin 18 rfl rfl) ?_
          refine zj_iconst (zdk ttX7_readKin 19 rfl rfl) ?_
          refine zj_callV (av := [.inl x19, .inl 0, .inl 0]) (st := []) (zdk ttX7_readKin 20 rfl rfl) mb_X6_opensLine mv_RX7_35 (ci := 6) rfl rfl (k_L103 s21) rfl rfl (Nat.le_of_ble_eq_true rfl) (s2_X6_opensLine l h20 x19 0 0 s21 (by omega) (by omega) (by omega)) (rm_ok (by decide) (by decide)) (zq_i fun v55 h56 q54 => ?_)
          obtain ⟨b57, s58, f61, u59, u60⟩ := q54
          refine zj_if_eq (t := 53) (zdk ttX7_readKin 21 rfl rfl) (by decide) (by omega) (fun c62 => ?_) (fun c62 => ?_)
          · refine zj_iconst (zdk ttX7_readKin 27 rfl rfl) ?_
            have f63 : zfC (w_X7_readKin p1) h h56 := zfC_t f22 f61 (fun a9 b9 z9 => by
              exact (Or.inl (by omega)))
            have b64 : h56.2 103 6 = (h20.2 103 6) := (zfC_a f61 (fun z9 => by unfold w_X6_opensLine at z9; first | (revert z9; decide) | omega))
            exact zj_zret rfl (zdk ttX7_readKin 28 rfl rfl) (Nat.le_refl _) (Nat.le_refl _) (by omega) ⟨0, rfl, by omega, s58, f63, (by intro y7 y8; obtain ⟨j, d9, t0, k0k, r0⟩ := u47 y7 y8; have k0 := t0.2.2.1.2; have l0 := t0.2.2.2.1; have e_1 := (u59 (tZt h4) (h4.2 106) j t0).2 (by omega); exact ⟨(tZt h4), (h4.2 106), _, (tZt_k u9), (tZt_b (by decide) u9), fun z => absurd z (by omega), fun _ => by rcases e_1 with ⟨q1, ⟨q2, q3⟩ | ⟨q2, q3, q4⟩⟩; exact ⟨j, _, ⟨q3, q1⟩, tRe_s r0 (tMl_1 (Or.inr (Or.inr rfl)) (by omega) (by omega))⟩; exact ⟨j, _, ⟨q4, q1⟩, tRe_s r0 (tMl_3 (Or.inr (Or.inr rfl)) (by omega) (by omega))⟩⟩)⟩
          · refine zj_aload_n (zdk ttX7_readKin 22 rfl rfl) rfl (by decide) ?_
            refine zj_aload_n (zdk ttX7_readKin 23 rfl rfl) rfl (by omega) ?_
            refine zj_iload_n (zdk ttX7_readKin 24 rfl rfl) rfl ?_
            refine zj_callV (av := [.inr p1, .inl p2]) (st := []) (zdk ttX7_readKin 25 rfl rfl) mb_X7_readKinLine mv_RX7_135 (ci := 7) rfl rfl (k_L107 s58) rfl rfl (Nat.le_of_ble_eq_true rfl) (s2_X7_readKinLine l h56 p1 p2 s58 r_p1 (by omega)) (rm_ok (by decide) (by decide)) (zq_i fun v66 h67 q65 => ?_)
            obtain ⟨b68, s69, f71, u70⟩ := q65
            refine zj_if_ne (t := 55) (zdk ttX7_readKin 26 rfl rfl) (by decide) (by omega) (fun c72 => ?_) (fun c72 => ?_)
            · refine zj_aload_n (zdk ttX7_readKin 29 rfl rfl) rfl (by omega) ?_
              refine zj_iload_n (zdk ttX7_readKin 30 rfl rfl) rfl ?_
              refine zj_iconst (zdk ttX7_readKin 31 rfl rfl) ?_
              refine zj_iadd (zdk ttX7_readKin 32 rfl rfl) ?_
              refine zj_puti (zdk ttX7_readKin 33 rfl rfl) zf_RX7_139 rfl (k_2_0 s69 r_p1) (Or.inl zw_RX7_139) (k2 := 1) rfl (fun h73 e74 => ?_)
              refine zj_iinc (L' := [some (.inr 107), some (.inr p1), some (.inl p2), some (.inl (x19 + 1))]) (zdk ttX7_readKin 34 rfl rfl) rfl (by decide) rfl ?_
              refine zj_goto (t := 15) (zdk ttX7_readKin 35 rfl rfl) (by decide) ?_
              have b75 : h73.2 p1 1 = (x19 + 1) := (zwr_v e74)
              have s76 : okC h73 := fw_2_0_1 s69 r_p1 e74 (by omega)
              have f79 : zfC (w_X7_readKin p1) h h56 := zfC_t f22 f61 (fun a9 b9 z9 => by
                exact (Or.inl (by omega)))
              have f78 : zfC (w_X7_readKin p1) h h67 := zfC_t f79 f71 (fun a9 b9 z9 => by
                rcases z9 with z9 | z9
                · exact (Or.inl (by omega))
                · exact (Or.inr (Or.inr (Or.inr (by omega)))))
              have f77 : zfC (w_X7_readKin p1) h h73 := zfC_w f78 e74 (Or.inr (Or.inr (Or.inl (by omega))))
              have b80 : h56.2 103 6 = (h20.2 103 6) := (zfC_a f61 (fun z9 => by unfold w_X6_opensLine at z9; first | (revert z9; decide) | omega))
              have b81 : h73.2 103 6 = (h67.2 103 6) := (zwr_r e74 (by first | decide | exact (absurd ·.1 (by decide)) | exact (absurd ·.2 (by decide)) | omega))
              exact ih50  (x19 + 1) h73 (by omega) s76 f77 (by intro y7 y8; obtain ⟨j, d9, t0, k0k, r0⟩ := u47 y7 y8; have k0 := t0.2.2.1.2; have l0 := t0.2.2.2.1; have r_1 := (u59 (tZt h4) (h4.2 106) j t0).1 (by omega); obtain ⟨r_2j, r_2x, r_2y, r_2a, r_2l, r_2b, r_2k, r_2r⟩ := (u70 (tZt h4) (h4.2 106) j r_1.2.2 (by have z9 := r_1.1; omega)).1 (by omega); have a_3 : tPo (tZt h4) (h4.2 106) r_2j h73 := tPo_f r_2a (fun i => (zwr_r e74 (by first | decide | exact (absurd ·.1 (by decide)) | exact (absurd ·.2 (by decide)) | omega))) (fun i => (zwr_r e74 (by first | decide | exact (absurd ·.1 (by decide)) | exact (absurd ·.2 (by decide)) | omega))) (zwr_r e74 (by first | decide | exact (absurd ·.1 (by decide)) | exact (absurd ·.2 (by decide)) | omega)) (zwr_r e74 (by first | decide | exact (absurd ·.1 (by decide)) | exact (absurd ·.2 (by decide)) | omega)) (zwr_r e74 (by first | decide | exact (absurd ·.1 (by decide)) | exact (absurd ·.2 (by decide)) | omega)) (zwr_r e74 (by first | decide | exact (absurd ·.1 (by decide)) | exact (absurd ·.2 (by decide)) | omega)) (zwr_r e74 (by first | decide | exact (absurd ·.1 (by decide)) | exact (absurd ·.2 (by decide)) | omega)); exact ⟨r_2j, r_2y :: r_2x :: d9, a_3, fun i9 a9 b9 => ((zwr_r e74 (by first | decide | exact (absurd ·.1 (by decide)) | exact (absurd ·.2 (by decide)) | omega))).trans (by rw [r_2k i9, show h56.2 (p1 + 1) i9 = tKs d9 i9 from ((zfC_a f61 (fun z9 => by unfold w_X6_opensLine at z9; first | (revert z9; decide) | omega))).trans (k0k i9 a9 b9)]; rfl), tRe_t r0 (r_2r x19 [] _ _ (by omega))⟩) (by omega) (by omega)
            · refine zj_iconst (zdk ttX7_readKin 27 rfl rfl) ?_
              have f83 : zfC (w_X7_readKin p1) h h56 := zfC_t f22 f61 (fun a9 b9 z9 => by
                exact (Or.inl (by omega)))
              have f82 : zfC (w_X7_readKin p1) h h67 := zfC_t f83 f71 (fun a9 b9 z9 => by
                rcases z9 with z9 | z9
                · exact (Or.inl (by omega))
                · exact (Or.inr (Or.inr (Or.inr (by omega)))))
              have b84 : h56.2 103 6 = (h20.2 103 6) := (zfC_a f61 (fun z9 => by unfold w_X6_opensLine at z9; first | (revert z9; decide) | omega))
              exact zj_zret rfl (zdk ttX7_readKin 28 rfl rfl) (Nat.le_refl _) (Nat.le_refl _) (by omega) ⟨0, rfl, by omega, s69, f82, (by intro y7 y8; obtain ⟨j, d9, t0, k0k, r0⟩ := u47 y7 y8; have k0 := t0.2.2.1.2; have l0 := t0.2.2.2.1; have r_1 := (u59 (tZt h4) (h4.2 106) j t0).1 (by omega); obtain ⟨ei, ef, eq9, er⟩ := (u70 (tZt h4) (h4.2 106) j r_1.2.2 (by have z9 := r_1.1; omega)).2 (by omega); exact ⟨(tZt h4), (h4.2 106), _, (tZt_k u9), (tZt_b (by decide) u9), fun z => absurd z (by omega), fun _ => ⟨ei, ef, eq9, tRe_t r0 (er x19 [] _ _ (by omega))⟩⟩)⟩
  have f86 : zfC (w_X7_readKin p1) h h4 := zfC_t (zfC_r _ _) f10 (fun a9 b9 z9 => by
    rcases z9 with z9 | z9
    · exact (Or.inl (by omega))
    · exact (Or.inr (Or.inl z9)))
  have f85 : zfC (w_X7_readKin p1) h h13 := zfC_t f86 f18 (fun a9 b9 z9 => by
    rcases z9 with z9 | z9
    · exact (Or.inr (Or.inr (Or.inl (by omega))))
    · exact (Or.inr (Or.inr (Or.inr (by omega)))))
  have b87 : h13.2 103 6 = (h4.2 103 6) := (zfC_a f18 (fun z9 => by unfold w_X2_clear at z9; first | (revert z9; decide) | omega))
  exact lp45 _ 0 h13 (by omega) s15 f85 (by intro y7 y8; have t0 := tZt_po (h := h4) (by have z8 := u9; exact z8) u7 u8 ((zfC_a f10 (fun z9 => by unfold w_X6_cut at z9; first | (revert z9; decide) | omega)).trans y7) ((zfC_a f10 (fun z9 => by unfold w_X6_cut at z9; first | (revert z9; decide) | omega)).trans y8); have k0 := t0.2.2.1.2; have l0 := t0.2.2.2.1; have a_1 : tPo (tZt h4) (h4.2 106) 0 h13 := tPo_f t0 (fun i => (zfC_a f18 (fun z9 => by unfold w_X2_clear at z9; first | (revert z9; decide) | omega))) (fun i => (zfC_a f18 (fun z9 => by unfold w_X2_clear at z9; first | (revert z9; decide) | omega))) (zfC_a f18 (fun z9 => by unfold w_X2_clear at z9; first | (revert z9; decide) | omega)) (zfC_a f18 (fun z9 => by unfold w_X2_clear at z9; first | (revert z9; decide) | omega)) (zfC_a f18 (fun z9 => by unfold w_X2_clear at z9; first | (revert z9; decide) | omega)) (zfC_a f18 (fun z9 => by unfold w_X2_clear at z9; first | (revert z9; decide) | omega)) (zfC_a f18 (fun z9 => by unfold w_X2_clear at z9; first | (revert z9; decide) | omega)); exact ⟨0, [], a_1, fun i9 a9 b9 => (rfl).trans (u17 i9 a9 b9), tRe_r⟩) (by omega) (Nat.lt_succ_self _)

