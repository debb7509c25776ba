abbrev q2_X1_copyFrom (h : zM) (c : Int) (p1 : Int) : Option zV → zM → Prop := zqv fun h' => okC h' ∧ zfC (w_X1_copyFrom c) h h' ∧ (h'.2 c 3 = h.2 p1 3) ∧ (∀ j9, 3 ≤ j9 → j9 ≤ 13 → h'.2 c j9 = h.2 p1 j9) ∧ (∀ k9 j9, 1 ≤ k9 → k9 ≤ 3 → 0 ≤ j9 → j9 < 18 → h'.2 (c + k9) j9 = h.2 (p1 + k9) j9)
set_option maxRecDepth 100000 in
set_option maxHeartbeats 4000000 in
theorem s2_X1_copyFrom (l : Launch) (h : zM) (c : Int) (p1 : Int) (s0 : okC h) (hc : zIs c) (r_p1 : zIs p1) : zT shC l yX1_copyFrom cX1_copyFrom 2 none (rmL 1) 0 0 [.inr c, .inr p1] h (q2_X1_copyFrom h c p1) := by
  refine zT_of (by decide +kernel) (L0 := [some (.inr c), some (.inr p1)]) rfl (Nat.le_of_ble_eq_true rfl) ?_
  have b1 := zIs_b hc
  have b2 := zIs_b r_p1
  have sep9 := zIs_sep hc r_p1
  refine zj_aload_n (zdk ttX1_copyFrom 0 rfl rfl) rfl (by omega) ?_
  refine zj_getr (r := (p1 + 1)) (zdk ttX1_copyFrom 1 rfl rfl) zf_RX1_9 rfl (k_1_0 s0 r_p1) (rf_1_0_0 s0 r_p1) ?_
  refine zj_iconst (zdk ttX1_copyFrom 2 rfl rfl) ?_
  refine zj_aload_n (zdk ttX1_copyFrom 3 rfl rfl) rfl (by omega) ?_
  refine zj_getr (r := (c + 1)) (zdk ttX1_copyFrom 4 rfl rfl) zf_RX1_9 rfl (k_1_0 s0 hc) (rf_1_0_0 s0 hc) ?_
  refine zj_iconst (zdk ttX1_copyFrom 5 rfl rfl) ?_
  refine zj_bipush (zdk ttX1_copyFrom 6 rfl rfl) (by decide) ?_
  refine zj_copy (zdk ttX1_copyFrom 7 rfl rfl) mc_RX1_55 (ka_1_0_0 s0 r_p1) (ka_1_0_0 s0 hc) (by decide) (by decide) (by decide) (by decide) (Nat.le_of_ble_eq_true rfl) (rm_c (by decide)) (fun h3 e4 => ?_)
  refine zj_aload_n (zdk ttX1_copyFrom 8 rfl rfl) rfl (by omega) ?_
  have s5 : okC h3 := okC_cp s0 e4 (fun j i => pa_1_0_0 hc (ab_1_0_0 s0 r_p1 i) j) (na_1_0_0 hc).1 (na_1_0_0 hc).2
  refine zj_getr (r := (p1 + 2)) (zdk ttX1_copyFrom 9 rfl rfl) zf_RX1_15 rfl (k_1_0 s5 r_p1) (rf_1_0_1 s5 r_p1) ?_
  refine zj_iconst (zdk ttX1_copyFrom 10 rfl rfl) ?_
  refine zj_aload_n (zdk ttX1_copyFrom 11 rfl rfl) rfl (by omega) ?_
  refine zj_getr (r := (c + 2)) (zdk ttX1_copyFrom 12 rfl rfl) zf_RX1_15 rfl (k_1_0 s5 hc) (rf_1_0_1 s5 hc) ?_
  refine zj_iconst (zdk ttX1_copyFrom 13 rfl rfl) ?_
  refine zj_bipush (zdk ttX1_copyFrom 14 rfl rfl) (by decide) ?_
  refine zj_copy (zdk ttX1_copyFrom 15 rfl rfl) mc_RX1_55 (ka_1_0_1 s5 r_p1) (ka_1_0_1 s5 hc) (by decide) (by decide) (by decide) (by decide) (Nat.le_of_ble_eq_true rfl) (rm_c (by decide)) (fun h6 e7 => ?_)
  refine zj_aload_n (zdk ttX1_copyFrom 16 rfl rfl) rfl (by omega) ?_
  have s8 : okC h6 := okC_cp s5 e7 (fun j i => pa_1_0_1 hc (ab_1_0_1 s5 r_p1 i) j) (na_1_0_1 hc).1 (na_1_0_1 hc).2
  refine zj_getr (r := (p1 + 3)) (zdk ttX1_copyFrom 17 rfl rfl) zf_RX1_18 rfl (k_1_0 s8 r_p1) (rf_1_0_2 s8 r_p1) ?_
  refine zj_iconst (zdk ttX1_copyFrom 18 rfl rfl) ?_
  refine zj_aload_n (zdk ttX1_copyFrom 19 rfl rfl) rfl (by omega) ?_
  refine zj_getr (r := (c + 3)) (zdk ttX1_copyFrom 20 rfl rfl) zf_RX1_18 rfl (k_1_0 s8 hc) (rf_1_0_2 s8 hc) ?_
  refine zj_iconst (zdk ttX1_copyFrom 21 rfl rfl) ?_
  refine zj_bipush (zdk ttX1_copyFrom 22 rfl rfl) (by decide) ?_
  refine zj_copy (zdk ttX1_copyFrom 23 rfl rfl) mc_RX1_55 (ka_1_0_2 s8 r_p1) (ka_1_0_2 s8 hc) (by decide) (by decide) (by decide) (by decide) (Nat.le_of_ble_eq_true rfl) (rm_c (by decide)) (fun h9 e10 => ?_)
  refine zj_aload_n (zdk ttX1_copyFrom 24 rfl rfl) rfl (by omega) ?_
  refine zj_aload_n (zdk ttX1_copyFrom 25 rfl rfl) rfl (by omega) ?_
  have b11 : 0 ≤ (h.2 p1 3) ∧ (h.2 p1 3) ≤ 18 := fb_1_0_3 s0 r_p1
  have s12 : okC h9 := okC_cp s8 e10 (fun j i => pa_1_0_2 hc (ab_1_0_2 s8 r_p1 i) j) (na_1_0_2 hc).1 (na_1_0_2 hc).2
  refine zj_geti (v := (h.2 p1 3)) (zdk ttX1_copyFrom 26 rfl rfl) zf_RX1_21 rfl (k_1_0 s12 r_p1) (((zcp_r e10 (by omega)).trans (zcp_r e7 (by omega))).trans (zcp_r e4 (by omega))) ?_
  refine zj_puti (zdk ttX1_copyFrom 27 rfl rfl) zf_RX1_21 rfl (k_1_0 s12 hc) (Or.inl zw_RX1_21) (k2 := 3) rfl (fun h13 e14 => ?_)
  refine zj_aload_n (zdk ttX1_copyFrom 28 rfl rfl) rfl (by omega) ?_
  refine zj_aload_n (zdk ttX1_copyFrom 29 rfl rfl) rfl (by omega) ?_
  have b15 : -2147483648 ≤ (h.2 p1 4) ∧ (h.2 p1 4) ≤ 2147483647 := fb_1_0_4 s0 r_p1
  have s16 : okC h13 := fw_1_0_3 s12 hc e14 (by omega)
  refine zj_geti (v := (h.2 p1 4)) (zdk ttX1_copyFrom 30 rfl rfl) zf_RX1_25 rfl (k_1_0 s16 r_p1) ((((zwr_r e14 (by first | decide | exact (absurd ·.1 (by decide)) | exact (absurd ·.2 (by decide)) | omega)).trans (zcp_r e10 (by omega))).trans (zcp_r e7 (by omega))).trans (zcp_r e4 (by omega))) ?_
  refine zj_puti (zdk ttX1_copyFrom 31 rfl rfl) zf_RX1_25 rfl (k_1_0 s16 hc) (Or.inl zw_RX1_25) (k2 := 4) rfl (fun h17 e18 => ?_)
  refine zj_aload_n (zdk ttX1_copyFrom 32 rfl rfl) rfl (by omega) ?_
  refine zj_aload_n (zdk ttX1_copyFrom 33 rfl rfl) rfl (by omega) ?_
  have b19 : -2147483648 ≤ (h.2 p1 5) ∧ (h.2 p1 5) ≤ 2147483647 := fb_1_0_5 s0 r_p1
  have s20 : okC h17 := fw_1_0_4 s16 hc e18 (by omega)
  refine zj_geti (v := (h.2 p1 5)) (zdk ttX1_copyFrom 34 rfl rfl) zf_RX1_28 rfl (k_1_0 s20 r_p1) (((((zwr_r e18 (by first | decide | exact (absurd ·.1 (by decide)) | exact (absurd ·.2 (by decide)) | omega)).trans (zwr_r e14 (by first | decide | exact (absurd ·.1 (by decide)) | exact (absurd ·.2 (by decide)) | omega))).trans (zcp_r e10 (by omega))).trans (zcp_r e7 (by omega))).trans (zcp_r e4 (by omega))) ?_
  refine zj_puti (zdk ttX1_copyFrom 35 rfl rfl) zf_RX1_28 rfl (k_1_0 s20 hc) (Or.inl zw_RX1_28) (k2 := 5) rfl (fun h21 e22 => ?_)
  refine zj_aload_n (zdk ttX1_copyFrom 36 rfl rfl) rfl (by omega) ?_
  refine zj_aload_n (zdk ttX1_copyFrom 37 rfl rfl) rfl (by omega) ?_
  have b23 : 0 ≤ (h.2 p1 6) ∧ (h.2 p1 6) ≤ 719 := fb_1_0_6 s0 r_p1
  have s24 : okC h21 := fw_1_0_5 s20 hc e22 (by omega)
  refine zj_geti (v := (h.2 p1 6)) (zdk ttX1_copyFrom 38 rfl rfl) zf_RX1_31 rfl (k_1_0 s24 r_p1) ((((((zwr_r e22 (by first | decide | exact (absurd ·.1 (by decide)) | exact (absurd ·.2 (by decide)) | omega)).trans (zwr_r e18 (by first | decide | exact (absurd ·.1 (by decide)) | exact (absurd ·.2 (by decide)) | omega))).trans (zwr_r e14 (by first | decide | exact (absurd ·.1 (by decide)) | exact (absurd ·.2 (by decide)) | omega))).trans (zcp_r e10 (by omega))).trans (zcp_r e7 (by omega))).trans (zcp_r e4 (by omega))) ?_
  refine zj_puti (zdk ttX1_copyFrom 39 rfl rfl) zf_RX1_31 rfl (k_1_0 s24 hc) (Or.inl zw_RX1_31) (k2 := 6) rfl (fun h25 e26 => ?_)
  refine zj_aload_n (zdk ttX1_copyFrom 40 rfl rfl) rfl (by omega) ?_
  refine zj_aload_n (zdk ttX1_copyFrom 41 rfl rfl) rfl (by omega) ?_
  have b27 : -2147483648 ≤ (h.2 p1 7) ∧ (h.2 p1 7) ≤ 2147483647 := fb_1_0_7 s0 r_p1
  have s28 : okC h25 := fw_1_0_6 s24 hc e26 (by omega)
  refine zj_geti (v := (h.2 p1 7)) (zdk ttX1_copyFrom 42 rfl rfl) zf_RX1_34 rfl (k_1_0 s28 r_p1) (((((((zwr_r e26 (by first | decide | exact (absurd ·.1 (by decide)) | exact (absurd ·.2 (by decide)) | omega)).trans (zwr_r e22 (by first | decide | exact (absurd ·.1 (by decide)) | exact (absurd ·.2 (by decide)) | omega))).trans (zwr_r e18 (by first | decide | exact (absurd ·.1 (by decide)) | exact (absurd ·.2 (by decide)) | omega))).trans (zwr_r e14 (by first | decide | exact (absurd ·.1 (by decide)) | exact (absurd ·.2 (by decide)) | omega))).trans (zcp_r e10 (by omega))).trans (zcp_r e7 (by omega))).trans (zcp_r e4 (by omega))) ?_
  refine zj_puti (zdk ttX1_copyFrom 43 rfl rfl) zf_RX1_34 rfl (k_1_0 s28 hc) (Or.inl zw_RX1_34) (k2 := 7) rfl (fun h29 e30 => ?_)
  refine zj_aload_n (zdk ttX1_copyFrom 44 rfl rfl) rfl (by omega) ?_
  refine zj_aload_n (zdk ttX1_copyFrom 45 rfl rfl) rfl (by omega) ?_
  have b31 : -2147483648 ≤ (h.2 p1 8) ∧ (h.2 p1 8) ≤ 2147483647 := fb_1_0_8 s0 r_p1
  have s32 : okC h29 := fw_1_0_7 s28 hc e30 (by omega)
  refine zj_geti (v := (h.2 p1 8)) (zdk ttX1_copyFrom 46 rfl rfl) zf_RX1_37 rfl (k_1_0 s32 r_p1) ((((((((zwr_r e30 (by first | decide | exact (absurd ·.1 (by decide)) | exact (absurd ·.2 (by decide)) | omega)).trans (zwr_r e26 (by first | decide | exact (absurd ·.1 (by decide)) | exact (absurd ·.2 (by decide)) | omega))).trans (zwr_r e22 (by first | decide | exact (absurd ·.1 (by decide)) | exact (absurd ·.2 (by decide)) | omega))).trans (zwr_r e18 (by first | decide | exact (absurd ·.1 (by decide)) | exact (absurd ·.2 (by decide)) | omega))).trans (zwr_r e14 (by first | decide | exact (absurd ·.1 (by decide)) | exact (absurd ·.2 (by decide)) | omega))).trans (zcp_r e10 (by omega))).trans (zcp_r e7 (by omega))).trans (zcp_r e4 (by omega))) ?_
  refine zj_puti (zdk ttX1_copyFrom 47 rfl rfl) zf_RX1_37 rfl (k_1_0 s32 hc) (Or.inl zw_RX1_37) (k2 := 8) rfl (fun h33 e34 => ?_)
  refine zj_aload_n (zdk ttX1_copyFrom 48 rfl rfl) rfl (by omega) ?_
  refine zj_aload_n (zdk ttX1_copyFrom 49 rfl rfl) rfl (by omega) ?_
  have b35 : -2147483648 ≤ (h.2 p1 9) ∧ (h.2 p1 9) ≤ 2147483647 := fb_1_0_9 s0 r_p1
  have s36 : okC h33 := fw_1_0_8 s32 hc e34 (by omega)
  refine zj_geti (v := (h.2 p1 9)) (zdk ttX1_copyFrom 50 rfl rfl) zf_RX1_40 rfl (k_1_0 s36 r_p1) (((((((((zwr_r e34 (by first | decide | exact (absurd ·.1 (by decide)) | exact (absurd ·.2 (by decide)) | omega)).trans (zwr_r e30 (by first | decide | exact (absurd ·.1 (by decide)) | exact (absurd ·.2 (by decide)) | omega))).trans (zwr_r e26 (by first | decide | exact (absurd ·.1 (by decide)) | exact (absurd ·.2 (by decide)) | omega))).trans (zwr_r e22 (by first | decide | exact (absurd ·.1 (by decide)) | exact (absurd ·.2 (by decide)) | omega))).trans (zwr_r e18 (by first | decide | exact (absurd ·.1 (by decide)) | exact (absurd ·.2 (by decide)) | omega))).trans (zwr_r e14 (by first | decide | exact (absurd ·.1 (by decide)) | exact (absurd ·.2 (by decide)) | omega))).trans (zcp_r e10 (by omega))).trans (zcp_r e7 (by omega))).trans (zcp_r e4 (by omega))) ?_
  refine zj_puti (zdk ttX1_copyFrom 51 rfl rfl) zf_RX1_40 rfl (k_1_0 s36 hc) (Or.inl zw_RX1_40) (k2 := 9) rfl (fun h37 e38 => ?_)
  refine zj_aload_n (zdk ttX1_copyFrom 52 rfl rfl) rfl (by omega) ?_
  refine zj_aload_n (zdk ttX1_copyFrom 53 rfl rfl) rfl (by omega) ?_
  have b39 : -2147483648 ≤ (h.2 p1 10) ∧ (h.2 p1 10) ≤ 2147483647 := fb_1_0_10 s0 r_p1
  have s40 : okC h37 := fw_1_0_9 s36 hc e38 (by omega)
  refine zj_geti (v := (h.2 p1 10)) (zdk ttX1_copyFrom 54 rfl rfl) zf_RX1_43 rfl (k_1_0 s40 r_p1) ((((((((((zwr_r e38 (by first | decide | exact (absurd ·.1 (by decide)) | exact (absurd ·.2 (by decide)) | omega)).trans (zwr_r e34 (by first | decide | exact (absurd ·.1 (by decide)) | exact (absurd ·.2 (by decide)) | omega))).trans (zwr_r e30 (by first | decide | exact (absurd ·.1 (by decide)) | exact (absurd ·.2 (by decide)) | omega))).trans (zwr_r e26 (by first | decide | exact (absurd ·.1 (by decide)) | exact (absurd ·.2 (by decide)) | omega))).trans (zwr_r e22 (by first | decide | exact (absurd ·.1 (by decide)) | exact (absurd ·.2 (by decide)) | omega))).trans (zwr_r e18 (by first | decide | exact (absurd ·.1 (by decide)) | exact (absurd ·.2 (by decide)) | omega))).trans (zwr_r e14 (by first | decide | exact (absurd ·.1 (by decide)) | exact (absurd ·.2 (by decide)) | omega))).trans (zcp_r e10 (by omega))).trans (zcp_r e7 (by omega))).trans (zcp_r e4 (by omega))) ?_
  refine zj_puti (zdk ttX1_copyFrom 55 rfl rfl) zf_RX1_43 rfl (k_1_0 s40 hc) (Or.inl zw_RX1_43) (k2 := 10) rfl (fun h41 e42 => ?_)
  refine zj_aload_n (zdk ttX1_copyFrom 56 rfl rfl) rfl (by omega) ?_
  refine zj_aload_n (zdk ttX1_copyFrom 57 rfl rfl) rfl (by omega) ?_
  have b43 : -2147483648 ≤ (h.2 p1 11) ∧ (h.2 p1 11) ≤ 2147483647 := fb_1_0_11 s0 r_p1
  have s44 : okC h41 := fw_1_0_10 s40 hc e42 (by omega)
  refine zj_geti (v := (h.2 p1 11)) (zdk ttX1_copyFrom 58 rfl rfl) zf_RX1_46 rfl (k_1_0 s44 r_p1) (((((((((((zwr_r e42 (by first | decide | exact (absurd ·.1 (by decide)) | exact (absurd ·.2 (by decide)) | omega)).trans (zwr_r e38 (by first | decide | exact (absurd ·.1 (by decide)) | exact (absurd ·.2 (by decide)) | omega))).trans (zwr_r e34 (by first | decide | exact (absurd ·.1 (by decide)) | exact (absurd ·.2 (by decide)) | omega))).trans (zwr_r e30 (by first | decide | exact (absurd ·.1 (by decide)) | exact (absurd ·.2 (by decide)) | omega))).trans (zwr_r e26 (by first | decide | exact (absurd ·.1 (by decide)) | exact (absurd ·.2 (by decide)) | omega))).trans (zwr_r e22 (by first | decide | exact (absurd ·.1 (by decide)) | exact (absurd ·.2 (by decide)) | omega))).trans (zwr_r e18 (by first | decide | exact (absurd ·.1 (by decide)) | exact (absurd ·.2 (by decide)) | omega))).trans (zwr_r e14 (by first | decide | exact (absurd ·.1 (by decide)) | exact (absurd ·.2 (by decide)) | omega))).trans (zcp_r e10 (by omega))).trans (zcp_r e7 (by omega))).trans (zcp_r e4 (by omega))) ?_
  refine zj_puti (zdk ttX1_copyFrom 59 rfl rfl) zf_RX1_46 rfl (k_1_0 s44 hc) (Or.inl zw_RX1_46) (k2 := 11) rfl (fun h45 e46 => ?_)
  refine zj_aload_n (zdk ttX1_copyFrom 60 rfl rfl) rfl (by omega) ?_
  refine zj_aload_n (zdk ttX1_copyFrom 61 rfl rfl) rfl (by omega) ?_
  have b47 : -2147483648 ≤ (h.2 p1 12) ∧ (h.2 p1 12) ≤ 2147483647 := fb_1_0_12 s0 r_p1
  have s48 : okC h45 := fw_1_0_11 s44 hc e46 (by omega)
  refine zj_geti (v := (h.2 p1 12)) (zdk ttX1_copyFrom 62 rfl rfl) zf_RX1_49 rfl (k_1_0 s48 r_p1) ((((((((((((zwr_r e46 (by first | decide | exact (absurd ·.1 (by decide)) | exact (absurd ·.2 (by decide)) | omega)).trans (zwr_r e42 (by first | decide | exact (absurd ·.1 (by decide)) | exact (absurd ·.2 (by decide)) | omega))).trans (zwr_r e38 (by first | decide | exact (absurd ·.1 (by decide)) | exact (absurd ·.2 (by decide)) | omega))).trans (zwr_r e34 (by first | decide | exact (absurd ·.1 (by decide)) | exact (absurd ·.2 (by decide)) | omega))).trans (zwr_r e30 (by first | decide | exact (absurd ·.1 (by decide)) | exact (absurd ·.2 (by decide)) | omega))).trans (zwr_r e26 (by first | decide | exact (absurd ·.1 (by decide)) | exact (absurd ·.2 (by decide)) | omega))).trans (zwr_r e22 (by first | decide | exact (absurd ·.1 (by decide)) | exact (absurd ·.2 (by decide)) | omega))).trans (zwr_r e18 (by first | decide | exact (absurd ·.1 (by decide)) | exact (absurd ·.2 (by decide)) | omega))).trans (zwr_r e14 (by first | decide | exact (absurd ·.1 (by decide)) | exact (absurd ·.2 (by decide)) | omega))).trans (zcp_r e10 (by omega))).trans (zcp_r e7 (by omega))).trans (zcp_r e4 (by omega))) ?_
  refine zj_puti (zdk ttX1_copyFrom 63 rfl rfl) zf_RX1_49 rfl (k_1_0 s48 hc) (Or.inl zw_RX1_49) (k2 := 12) rfl (fun h49 e50 => ?_)
  refine zj_aload_n (zdk ttX1_copyFrom 64 rfl rfl) rfl (by omega) ?_
  refine zj_aload_n (zdk ttX1_copyFrom 65 rfl rfl) rfl (by omega) ?_
  have b51 : -2147483648 ≤ (h.2 p1 13) ∧ (h.2 p1 13) ≤ 2147483647 := fb_1_0_13 s0 r_p1
  have s52 : okC h49 := fw_1_0_12 s48 hc e50 (by omega)
  refine zj_geti (v := (h.2 p1 13)) (zdk ttX1_copyFrom 66 rfl rfl) zf_RX1_52 rfl (k_1_0 s52 r_p1) (((((((((((((zwr_r e50 (by first | decide | exact (absurd ·.1 (by decide)) | exact (absurd ·.2 (by decide)) | omega)).trans (zwr_r e46 (by first | decide | exact (absurd ·.1 (by decide)) | exact (absurd ·.2 (by decide)) | omega))).trans (zwr_r e42 (by first | decide | exact (absurd ·.1 (by decide)) | exact (absurd ·.2 (by decide)) | omega))).trans (zwr_r e38 (by first | decide | exact (absurd ·.1 (by decide)) | exact (absurd ·.2 (by decide)) | omega))).trans (zwr_r e34 (by first | decide | exact (absurd ·.1 (by decide)) | exact (absurd ·.2 (by decide)) | omega))).trans (zwr_r e30 (by first | decide | exact (absurd ·.1 (by decide)) | exact (absurd ·.2 (by decide)) | omega))).trans (zwr_r e26 (by first | decide | exact (absurd ·.1 (by decide)) | exact (absurd ·.2 (by decide)) | omega))).trans (zwr_r e22 (by first | decide | exact (absurd ·.1 (by decide)) | exact (absurd ·.2 (by decide)) | omega))).trans (zwr_r e18 (by first | decide | exact (absurd ·.1 (by decide)) | exact (absurd ·.2 (by decide)) | omega))).trans (zwr_r e14 (by first | decide | exact (absurd ·.1 (by decide)) | exact (absurd ·.2 (by decide)) | omega))).trans (zcp_r e10 (by omega))).trans (zcp_r e7 (by omega))).trans (zcp_r e4 (by omega))) ?_
  refine zj_puti (zdk ttX1_copyFrom 67 rfl rfl) zf_RX1_52 rfl (k_1_0 s52 hc) (Or.inl zw_RX1_52) (k2 := 13) rfl (fun h53 e54 => ?_)
  have s55 : okC h53 := fw_1_0_13 s52 hc e54 (by omega)
  have f69 : zfC (w_X1_copyFrom c) h h3 := zfC_cp (zfC_r _ _) e4 (fun _ => (Or.inr (by omega)))
  have f68 : zfC (w_X1_copyFrom c) h h6 := zfC_cp f69 e7 (fun _ => (Or.inr (by omega)))
  have f67 : zfC (w_X1_copyFrom c) h h9 := zfC_cp f68 e10 (fun _ => (Or.inr (by omega)))
  have f66 : zfC (w_X1_copyFrom c) h h13 := zfC_w f67 e14 (Or.inl (by omega))
  have f65 : zfC (w_X1_copyFrom c) h h17 := zfC_w f66 e18 (Or.inl (by omega))
  have f64 : zfC (w_X1_copyFrom c) h h21 := zfC_w f65 e22 (Or.inl (by omega))
  have f63 : zfC (w_X1_copyFrom c) h h25 := zfC_w f64 e26 (Or.inl (by omega))
  have f62 : zfC (w_X1_copyFrom c) h h29 := zfC_w f63 e30 (Or.inl (by omega))
  have f61 : zfC (w_X1_copyFrom c) h h33 := zfC_w f62 e34 (Or.inl (by omega))
  have f60 : zfC (w_X1_copyFrom c) h h37 := zfC_w f61 e38 (Or.inl (by omega))
  have f59 : zfC (w_X1_copyFrom c) h h41 := zfC_w f60 e42 (Or.inl (by omega))
  have f58 : zfC (w_X1_copyFrom c) h h45 := zfC_w f59 e46 (Or.inl (by omega))
  have f57 : zfC (w_X1_copyFrom c) h h49 := zfC_w f58 e50 (Or.inl (by omega))
  have f56 : zfC (w_X1_copyFrom c) h h53 := zfC_w f57 e54 (Or.inl (by omega))
  have b70 : h53.2 c 3 = (h.2 p1 3) := (((((((((((zwr_r e54 (by first | decide | exact (absurd ·.1 (by decide)) | exact (absurd ·.2 (by decide)) | omega)).trans (zwr_r e50 (by first | decide | exact (absurd ·.1 (by decide)) | exact (absurd ·.2 (by decide)) | omega))).trans (zwr_r e46 (by first | decide | exact (absurd ·.1 (by decide)) | exact (absurd ·.2 (by decide)) | omega))).trans (zwr_r e42 (by first | decide | exact (absurd ·.1 (by decide)) | exact (absurd ·.2 (by decide)) | omega))).trans (zwr_r e38 (by first | decide | exact (absurd ·.1 (by decide)) | exact (absurd ·.2 (by decide)) | omega))).trans (zwr_r e34 (by first | decide | exact (absurd ·.1 (by decide)) | exact (absurd ·.2 (by decide)) | omega))).trans (zwr_r e30 (by first | decide | exact (absurd ·.1 (by decide)) | exact (absurd ·.2 (by decide)) | omega))).trans (zwr_r e26 (by first | decide | exact (absurd ·.1 (by decide)) | exact (absurd ·.2 (by decide)) | omega))).trans (zwr_r e22 (by first | decide | exact (absurd ·.1 (by decide)) | exact (absurd ·.2 (by decide)) | omega))).trans (zwr_r e18 (by first | decide | exact (absurd ·.1 (by decide)) | exact (absurd ·.2 (by decide)) | omega))).trans (zwr_v e14))
  exact zj_vret rfl (zdk ttX1_copyFrom 68 rfl rfl) (Nat.le_refl _) (Nat.le_refl _) ⟨rfl, s55, f56, by omega, (fun j9 a9 b9 => (by have k9 : j9 = 3 ∨ j9 = 4 ∨ j9 = 5 ∨ j9 = 6 ∨ j9 = 7 ∨ j9 = 8 ∨ j9 = 9 ∨ j9 = 10 ∨ j9 = 11 ∨ j9 = 12 ∨ j9 = 13 := (by omega); rcases k9 with rfl | rfl | rfl | rfl | rfl | rfl | rfl | rfl | rfl | rfl | rfl; exact ((((((((((((zwr_r e54 (by first | decide | exact (absurd ·.1 (by decide)) | exact (absurd ·.2 (by decide)) | omega)).trans (zwr_r e50 (by first | decide | exact (absurd ·.1 (by decide)) | exact (absurd ·.2 (by decide)) | omega))).trans (zwr_r e46 (by first | decide | exact (absurd ·.1 (by decide)) | exact (absurd ·.2 (by decide)) | omega))).trans (zwr_r e42 (by first | decide | exact (absurd ·.1 (by decide)) | exact (absurd ·.2 (by decide)) | omega))).trans (zwr_r e38 (by first | decide | exact (absurd ·.1 (by decide)) | exact (absurd ·.2 (by decide)) | omega))).trans (zwr_r e34 (by first | decide | exact (absurd ·.1 (by decide)) | exact (absurd ·.2 (by decide)) | omega))).trans (zwr_r e30 (by first | decide | exact (absurd ·.1 (by decide)) | exact (absurd ·.2 (by decide)) | omega))).trans (zwr_r e26 (by first | decide | exact (absurd ·.1 (by decide)) | exact (absurd ·.2 (by decide)) | omega))).trans (zwr_r e22 (by first | decide | exact (absurd ·.1 (by decide)) | exact (absurd ·.2 (by decide)) | omega))).trans (zwr_r e18 (by first | decide | exact (absurd ·.1 (by decide)) | exact (absurd ·.2 (by decide)) | omega)))).trans ((zwr_v e14).trans (rfl))); exact (((((((((((zwr_r e54 (by first | decide | exact (absurd ·.1 (by decide)) | exact (absurd ·.2 (by decide)) | omega)).trans (zwr_r e50 (by first | decide | exact (absurd ·.1 (by decide)) | exact (absurd ·.2 (by decide)) | omega))).trans (zwr_r e46 (by first | decide | exact (absurd ·.1 (by decide)) | exact (absurd ·.2 (by decide)) | omega))).trans (zwr_r e42 (by first | decide | exact (absurd ·.1 (by decide)) | exact (absurd ·.2 (by decide)) | omega))).trans (zwr_r e38 (by first | decide | exact (absurd ·.1 (by decide)) | exact (absurd ·.2 (by decide)) | omega))).trans (zwr_r e34 (by first | decide | exact (absurd ·.1 (by decide)) | exact (absurd ·.2 (by decide)) | omega))).trans (zwr_r e30 (by first | decide | exact (absurd ·.1 (by decide)) | exact (absurd ·.2 (by decide)) | omega))).trans (zwr_r e26 (by first | decide | exact (absurd ·.1 (by decide)) | exact (absurd ·.2 (by decide)) | omega))).trans (zwr_r e22 (by first | decide | exact (absurd ·.1 (by decide)) | exact (absurd ·.2 (by decide)) | omega)))).trans ((zwr_v e18).trans (rfl))); exact ((((((((((zwr_r e54 (by first | decide | exact (absurd ·.1 (by decide)) | exact (absurd ·.2 (by decide)) | omega)).trans (zwr_r e50 (by first | decide | exact (absurd ·.1 (by decide)) | exact (absurd ·.2 (by decide)) | omega))).trans (zwr_r e46 (by first | decide | exact (absurd ·.1 (by decide)) | exact (absurd ·.2 (by decide)) | omega))).trans (zwr_r e42 (by first | decide | exact (absurd ·.1 (by decide)) | exact (absurd ·.2 (by decide)) | omega))).trans (zwr_r e38 (by first | decide | exact (absurd ·.1 (by decide)) | exact (absurd ·.2 (by decide)) | omega))).trans (zwr_r e34 (by first | decide | exact (absurd ·.1 (by decide)) | exact (absurd ·.2 (by decide)) | omega))).trans (zwr_r e30 (by first | decide | exact (absurd ·.1 (by decide)) | exact (absurd ·.2 (by decide)) | omega))).trans (zwr_r e26 (by first | decide | exact (absurd ·.1 (by decide)) | exact (absurd ·.2 (by decide)) | omega)))).trans ((zwr_v e22).trans (rfl))); exact (((((((((zwr_r e54 (by first | decide | exact (absurd ·.1 (by decide)) | exact (absurd ·.2 (by decide)) | omega)).trans (zwr_r e50 (by first | decide | exact (absurd ·.1 (by decide)) | exact (absurd ·.2 (by decide)) | omega))).trans (zwr_r e46 (by first | decide | exact (absurd ·.1 (by decide)) | exact (absurd ·.2 (by decide)) | omega))).trans (zwr_r e42 (by first | decide | exact (absurd ·.1 (by decide)) | exact (absurd ·.2 (by decide)) | omega))).trans (zwr_r e38 (by first | decide | exact (absurd ·.1 (by decide)) | exact (absurd ·.2 (by decide)) | omega))).trans (zwr_r e34 (by first | decide | exact (absurd ·.1 (by decide)) | exact (absurd ·.2 (by decide)) | omega))).trans (zwr_r e30 (by first | decide | exact (absurd ·.1 (by decide)) | exact (absurd ·.2 (by decide)) | omega)))).trans ((zwr_v e26).trans (rfl))); exact ((((((((zwr_r e54 (by first | decide | exact (absurd ·.1 (by decide)) | exact (absurd ·.2 (by decide)) | omega)).trans (zwr_r e50 (by first | decide | exact (absurd ·.1 (by decide)) | exact (absurd ·.2 (by decide)) | omega))).trans (zwr_r e46 (by first | decide | exact (absurd ·.1 (by decide)) | exact (absurd ·.2 (by decide)) | omega))).trans (zwr_r e42 (by first | decide | exact (absurd ·.1 (by decide)) | exact (absurd ·.2 (by decide)) | omega))).trans (zwr_r e38 (by first | decide | exact (absurd ·.1 (by decide)) | exact (absurd ·.2 (by decide)) | omega))).trans (zwr_r e34 (by first | decide | exact (absurd ·.1 (by decide)) | exact (absurd ·.2 (by decide)) | omega)))).trans ((zwr_v e30).trans (rfl))); exact (((((((zwr_r e54 (by first | decide | exact (absurd ·.1 (by decide)) | exact (absurd ·.2 (by decide)) | omega)).trans (zwr_r e50 (by first | decide | exact (absurd ·.1 (by decide)) | exact (absurd ·.2 (by decide)) | omega))).trans (zwr_r e46 (by first | decide | exact (absurd ·.1 (by decide)) | exact (absurd ·.2 (by decide)) | omega))).trans (zwr_r e42 (by first | decide | exact (absurd ·.1 (by decide)) | exact (absurd ·.2 (by decide)) | omega))).trans (zwr_r e38 (by first | decide | exact (absurd ·.1 (by decide)) | exact (absurd ·.2 (by decide)) | omega)))).trans ((zwr_v e34).trans (rfl))); exact ((((((zwr_r e54 (by first | decide | exact (absurd ·.1 (by decide)) | exact (absurd ·.2 (by decide)) | omega)).trans (zwr_r e50 (by first | decide | exact (absurd ·.1 (by decide)) | exact (absurd ·.2 (by decide)) | omega))).trans (zwr_r e46 (by first | decide | exact (absurd ·.1 (by decide)) | exact (absurd ·.2 (by decide)) | omega))).trans (zwr_r e42 (by first | decide | exact (absurd ·.1 (by decide)) | exact (absurd ·.2 (by decide)) | omega)))).trans ((zwr_v e38).trans (rfl))); exact (((((zwr_r e54 (by first | decide | exact (absurd ·.1 (by decide)) | exact (absurd ·.2 (by decide)) | omega)).trans (zwr_r e50 (by first | decide | exact (absurd ·.1 (by decide)) | exact (absurd ·.2 (by decide)) | omega))).trans (zwr_r e46 (by first | decide | exact (absurd ·.1 (by decide)) | exact (absurd ·.2 (by decide)) | omega)))).trans ((zwr_v e42).trans (rfl))); exact ((((zwr_r e54 (by first | decide | exact (absurd ·.1 (by decide)) | exact (absurd ·.2 (by decide)) | omega)).trans (zwr_r e50 (by first | decide | exact (absurd ·.1 (by decide)) | exact (absurd ·.2 (by decide)) | omega)))).trans ((zwr_v e46).trans (rfl))); exact (((zwr_r e54 (by first | decide | exact (absurd ·.1 (by decide)) | exact (absurd ·.2 (by decide)) | omega))).trans ((zwr_v e50).trans (rfl))); exact ((rfl).trans ((zwr_v e54).trans (rfl))))), (fun i9 j9 a9 b9 c9 d9 => (by have k9 : i9 = 1 ∨ i9 = 2 ∨ i9 = 3 := (by omega); rcases k9 with rfl | rfl | rfl; exact (((((((((((((((zwr_r e54 (by first | decide | exact (absurd ·.1 (by decide)) | exact (absurd ·.2 (by decide)) | omega)).trans (zwr_r e50 (by first | decide | exact (absurd ·.1 (by decide)) | exact (absurd ·.2 (by decide)) | omega))).trans (zwr_r e46 (by first | decide | exact (absurd ·.1 (by decide)) | exact (absurd ·.2 (by decide)) | omega))).trans (zwr_r e42 (by first | decide | exact (absurd ·.1 (by decide)) | exact (absurd ·.2 (by decide)) | omega))).trans (zwr_r e38 (by first | decide | exact (absurd ·.1 (by decide)) | exact (absurd ·.2 (by decide)) | omega))).trans (zwr_r e34 (by first | decide | exact (absurd ·.1 (by decide)) | exact (absurd ·.2 (by decide)) | omega))).trans (zwr_r e30 (by first | decide | exact (absurd ·.1 (by decide)) | exact (absurd ·.2 (by decide)) | omega))).trans (zwr_r e26 (by first | decide | exact (absurd ·.1 (by decide)) | exact (absurd ·.2 (by decide)) | omega))).trans (zwr_r e22 (by first | decide | exact (absurd ·.1 (by decide)) | exact (absurd ·.2 (by decide)) | omega))).trans (zwr_r e18 (by first | decide | exact (absurd ·.1 (by decide)) | exact (absurd ·.2 (by decide)) | omega))).trans (zwr_r e14 (by first | decide | exact (absurd ·.1 (by decide)) | exact (absurd ·.2 (by decide)) | omega))).trans (zcp_r e10 (by omega))).trans (zcp_r e7 (by omega)))).trans ((zcp_v e4 (by omega) (show j9 = 0 + (j9 - 0) by omega)).trans (rfl))); exact ((((((((((((((zwr_r e54 (by first | decide | exact (absurd ·.1 (by decide)) | exact (absurd ·.2 (by decide)) | omega)).trans (zwr_r e50 (by first | decide | exact (absurd ·.1 (by decide)) | exact (absurd ·.2 (by decide)) | omega))).trans (zwr_r e46 (by first | decide | exact (absurd ·.1 (by decide)) | exact (absurd ·.2 (by decide)) | omega))).trans (zwr_r e42 (by first | decide | exact (absurd ·.1 (by decide)) | exact (absurd ·.2 (by decide)) | omega))).trans (zwr_r e38 (by first | decide | exact (absurd ·.1 (by decide)) | exact (absurd ·.2 (by decide)) | omega))).trans (zwr_r e34 (by first | decide | exact (absurd ·.1 (by decide)) | exact (absurd ·.2 (by decide)) | omega))).trans (zwr_r e30 (by first | decide | exact (absurd ·.1 (by decide)) | exact (absurd ·.2 (by decide)) | omega))).trans (zwr_r e26 (by first | decide | exact (absurd ·.1 (by decide)) | exact (absurd ·.2 (by decide)) | omega))).trans (zwr_r e22 (by first | decide | exact (absurd ·.1 (by decide)) | exact (absurd ·.2 (by decide)) | omega))).trans (zwr_r e18 (by first | decide | exact (absurd ·.1 (by decide)) | exact (absurd ·.2 (by decide)) | omega))).trans (zwr_r e14 (by first | decide | exact (absurd ·.1 (by decide)) | exact (absurd ·.2 (by decide)) | omega))).trans (zcp_r e10 (by omega)))).trans ((zcp_v e7 (by omega) (show j9 = 0 + (j9 - 0) by omega)).trans ((zcp_r e4 (by omega))))); exact (((((((((((((zwr_r e54 (by first | decide | exact (absurd ·.1 (by decide)) | exact (absurd ·.2 (by decide)) | omega)).trans (zwr_r e50 (by first | decide | exact (absurd ·.1 (by decide)) | exact (absurd ·.2 (by decide)) | omega))).trans (zwr_r e46 (by first | decide | exact (absurd ·.1 (by decide)) | exact (absurd ·.2 (by decide)) | omega))).trans (zwr_r e42 (by first | decide | exact (absurd ·.1 (by decide)) | exact (absurd ·.2 (by decide)) | omega))).trans (zwr_r e38 (by first | decide | exact (absurd ·.1 (by decide)) | exact (absurd ·.2 (by decide)) | omega))).trans (zwr_r e34 (by first | decide | exact (absurd ·.1 (by decide)) | exact (absurd ·.2 (by decide)) | omega))).trans (zwr_r e30 (by first | decide | exact (absurd ·.1 (by decide)) | exact (absurd ·.2 (by decide)) | omega))).trans (zwr_r e26 (by first | decide | exact (absurd ·.1 (by decide)) | exact (absurd ·.2 (by decide)) | omega))).trans (zwr_r e22 (by first | decide | exact (absurd ·.1 (by decide)) | exact (absurd ·.2 (by decide)) | omega))).trans (zwr_r e18 (by first | decide | exact (absurd ·.1 (by decide)) | exact (absurd ·.2 (by decide)) | omega))).trans (zwr_r e14 (by first | decide | exact (absurd ·.1 (by decide)) | exact (absurd ·.2 (by decide)) | omega)))).trans ((zcp_v e10 (by omega) (show j9 = 0 + (j9 - 0) by omega)).trans (((zcp_r e7 (by omega)).trans (zcp_r e4 (by omega))))))))⟩

abbrev q2_X3_copyFrom (h : zM) (c : Int) (p1 : Int) : Option zV → zM → Prop := zqv fun h' => okC h' ∧ zfC (w_X3_copyFrom c) h h' ∧ (∀ j9, 6 ≤ j9 → j9 ≤ 7 → h'.2 c j9 = h.2 p1 j9) ∧ (∀ k9 j9, 1 ≤ k9 → k9 ≤ 4 → 0 ≤ j9 → j9 < 16 → h'.2 (c + k9) j9 = h.2 (p1 + k9) j9) ∧ (∀ k9 j9, 5 ≤ k9 → k9 ≤ 5 → 0 ≤ j9 → j9 < 400 → h'.2 (c + k9) j9 = h.2 (p1 + k9) j9)
set_option maxRecDepth 100000 in
set_option maxHeartbeats 4000000 in
theorem s2_X3_copyFrom (l : Launch) (h : zM) (c : Int) (p1 : Int) (s0 : okC h) (hc : zLw c) (r_p1 : zLw p1) : zT shC l yX3_copyFrom cX3_copyFrom 2 none (rmL 1) 0 0 [.inr c, .inr p1] h (q2_X3_copyFrom h c p1) := by
  refine zT_of (by decide +kernel) (L0 := [some (.inr c), some (.inr p1)]) rfl (Nat.le_of_ble_eq_true rfl) ?_
  have b1 := zLw_b hc
  have b2 := zLw_b r_p1
  have sep9 := xLw_sep hc r_p1
  refine zj_aload_n (zdk ttX3_copyFrom 0 rfl rfl) rfl (by omega) ?_
  refine zj_getr (r := (p1 + 1)) (zdk ttX3_copyFrom 1 rfl rfl) zf_RX3_9 rfl (k_3_0 s0 r_p1) (rf_3_0_0 s0 r_p1) ?_
  refine zj_iconst (zdk ttX3_copyFrom 2 rfl rfl) ?_
  refine zj_aload_n (zdk ttX3_copyFrom 3 rfl rfl) rfl (by omega) ?_
  refine zj_getr (r := (c + 1)) (zdk ttX3_copyFrom 4 rfl rfl) zf_RX3_9 rfl (k_3_0 s0 hc) (rf_3_0_0 s0 hc) ?_
  refine zj_iconst (zdk ttX3_copyFrom 5 rfl rfl) ?_
  refine zj_bipush (zdk ttX3_copyFrom 6 rfl rfl) (by decide) ?_
  refine zj_copy (zdk ttX3_copyFrom 7 rfl rfl) mc_RX3_39 (ka_3_0_0 s0 r_p1) (ka_3_0_0 s0 hc) (by decide) (by decide) (by decide) (by decide) (Nat.le_of_ble_eq_true rfl) (rm_c (by decide)) (fun h3 e4 => ?_)
  refine zj_aload_n (zdk ttX3_copyFrom 8 rfl rfl) rfl (by omega) ?_
  have s5 : okC h3 := okC_cp s0 e4 (fun j i => pa_3_0_0 hc (ab_3_0_0 s0 r_p1 i) j) (na_3_0_0 hc).1 (na_3_0_0 hc).2
  refine zj_getr (r := (p1 + 2)) (zdk ttX3_copyFrom 9 rfl rfl) zf_RX3_15 rfl (k_3_0 s5 r_p1) (rf_3_0_1 s5 r_p1) ?_
  refine zj_iconst (zdk ttX3_copyFrom 10 rfl rfl) ?_
  refine zj_aload_n (zdk ttX3_copyFrom 11 rfl rfl) rfl (by omega) ?_
  refine zj_getr (r := (c + 2)) (zdk ttX3_copyFrom 12 rfl rfl) zf_RX3_15 rfl (k_3_0 s5 hc) (rf_3_0_1 s5 hc) ?_
  refine zj_iconst (zdk ttX3_copyFrom 13 rfl rfl) ?_
  refine zj_bipush (zdk ttX3_copyFrom 14 rfl rfl) (by decide) ?_
  refine zj_copy (zdk ttX3_copyFrom 15 rfl rfl) mc_RX3_39 (ka_3_0_1 s5 r_p1) (ka_3_0_1 s5 hc) (by decide) (by decide) (by decide) (by decide) (Nat.le_of_ble_eq_true rfl) (rm_c (by decide)) (fun h6 e7 => ?_)
  refine zj_aload_n (zdk ttX3_copyFrom 16 rfl rfl) rfl (by omega) ?_
  have s8 : okC h6 := okC_cp s5 e7 (fun j i => pa_3_0_1 hc (ab_3_0_1 s5 r_p1 i) j) (na_3_0_1 hc).1 (na_3_0_1 hc).2
  refine zj_getr (r := (p1 + 3)) (zdk ttX3_copyFrom 17 rfl rfl) zf_RX3_18 rfl (k_3_0 s8 r_p1) (rf_3_0_2 s8 r_p1) ?_
  refine zj_iconst (zdk ttX3_copyFrom 18 rfl rfl) ?_
  refine zj_aload_n (zdk ttX3_copyFrom 19 rfl rfl) rfl (by omega) ?_
  refine zj_getr (r := (c + 3)) (zdk ttX3_copyFrom 20 rfl rfl) zf_RX3_18 rfl (k_3_0 s8 hc) (rf_3_0_2 s8 hc) ?_
  refine zj_iconst (zdk ttX3_copyFrom 21 rfl rfl) ?_
  refine zj_bipush (zdk ttX3_copyFrom 22 rfl rfl) (by decide) ?_
  refine zj_copy (zdk ttX3_copyFrom 23 rfl rfl) mc_RX3_39 (ka_3_0_2 s8 r_p1) (ka_3_0_2 s8 hc) (by decide) (by decide) (by decide) (by decide) (Nat.le_of_ble_eq_true rfl) (rm_c (by decide)) (fun h9 e10 => ?_)
  refine zj_aload_n (zdk ttX3_copyFrom 24 rfl rfl) rfl (by omega) ?_
  have s11 : okC h9 := okC_cp s8 e10 (fun j i => pa_3_0_2 hc (ab_3_0_2 s8 r_p1 i) j) (na_3_0_2 hc).1 (na_3_0_2 hc).2
  refine zj_getr (r := (p1 + 4)) (zdk ttX3_copyFrom 25 rfl rfl) zf_RX3_21 rfl (k_3_0 s11 r_p1) (rf_3_0_3 s11 r_p1) ?_
  refine zj_iconst (zdk ttX3_copyFrom 26 rfl rfl) ?_
  refine zj_aload_n (zdk ttX3_copyFrom 27 rfl rfl) rfl (by omega) ?_
  refine zj_getr (r := (c + 4)) (zdk ttX3_copyFrom 28 rfl rfl) zf_RX3_21 rfl (k_3_0 s11 hc) (rf_3_0_3 s11 hc) ?_
  refine zj_iconst (zdk ttX3_copyFrom 29 rfl rfl) ?_
  refine zj_bipush (zdk ttX3_copyFrom 30 rfl rfl) (by decide) ?_
  refine zj_copy (zdk ttX3_copyFrom 31 rfl rfl) mc_RX3_39 (ka_3_0_3 s11 r_p1) (ka_3_0_3 s11 hc) (by decide) (by decide) (by decide) (by decide) (Nat.le_of_ble_eq_true rfl) (rm_c (by decide)) (fun h12 e13 => ?_)
  refine zj_aload_n (zdk ttX3_copyFrom 32 rfl rfl) rfl (by omega) ?_
  have s14 : okC h12 := okC_cp s11 e13 (fun j i => pa_3_0_3 hc (ab_3_0_3 s11 r_p1 i) j) (na_3_0_3 hc).1 (na_3_0_3 hc).2
  refine zj_getr (r := (p1 + 5)) (zdk ttX3_copyFrom 33 rfl rfl) zf_RX3_26 rfl (k_3_0 s14 r_p1) (rf_3_0_4 s14 r_p1) ?_
  refine zj_iconst (zdk ttX3_copyFrom 34 rfl rfl) ?_
  refine zj_aload_n (zdk ttX3_copyFrom 35 rfl rfl) rfl (by omega) ?_
  refine zj_getr (r := (c + 5)) (zdk ttX3_copyFrom 36 rfl rfl) zf_RX3_26 rfl (k_3_0 s14 hc) (rf_3_0_4 s14 hc) ?_
  refine zj_iconst (zdk ttX3_copyFrom 37 rfl rfl) ?_
  refine zj_sipush (zdk ttX3_copyFrom 38 rfl rfl) (by decide) ?_
  refine zj_copy (zdk ttX3_copyFrom 39 rfl rfl) mc_RX3_39 (ka_3_0_4 s14 r_p1) (ka_3_0_4 s14 hc) (by decide) (by decide) (by decide) (by decide) (Nat.le_of_ble_eq_true rfl) (rm_c (by decide)) (fun h15 e16 => ?_)
  refine zj_aload_n (zdk ttX3_copyFrom 40 rfl rfl) rfl (by omega) ?_
  refine zj_aload_n (zdk ttX3_copyFrom 41 rfl rfl) rfl (by omega) ?_
  have b17 : 0 ≤ (h.2 p1 6) ∧ (h.2 p1 6) ≤ 16 := fb_3_0_6 s0 r_p1
  have s18 : okC h15 := okC_cp s14 e16 (fun j i => pa_3_0_4 hc (ab_3_0_4 s14 r_p1 i) j) (na_3_0_4 hc).1 (na_3_0_4 hc).2
  refine zj_geti (v := (h.2 p1 6)) (zdk ttX3_copyFrom 42 rfl rfl) zf_RX3_32 rfl (k_3_0 s18 r_p1) (((((zcp_r e16 (by omega)).trans (zcp_r e13 (by omega))).trans (zcp_r e10 (by omega))).trans (zcp_r e7 (by omega))).trans (zcp_r e4 (by omega))) ?_
  refine zj_puti (zdk ttX3_copyFrom 43 rfl rfl) zf_RX3_32 rfl (k_3_0 s18 hc) (Or.inl zw_RX3_32) (k2 := 6) rfl (fun h19 e20 => ?_)
  refine zj_aload_n (zdk ttX3_copyFrom 44 rfl rfl) rfl (by omega) ?_
  refine zj_aload_n (zdk ttX3_copyFrom 45 rfl rfl) rfl (by omega) ?_
  have b21 : 0 ≤ (h.2 p1 7) ∧ (h.2 p1 7) ≤ 400 := fb_3_0_7 s0 r_p1
  have s22 : okC h19 := fw_3_0_6 s18 hc e20 (by omega)
  refine zj_geti (v := (h.2 p1 7)) (zdk ttX3_copyFrom 46 rfl rfl) zf_RX3_36 rfl (k_3_0 s22 r_p1) ((((((zwr_r e20 (by first | decide | exact (absurd ·.1 (by decide)) | exact (absurd ·.2 (by decide)) | omega)).trans (zcp_r e16 (by omega))).trans (zcp_r e13 (by omega))).trans (zcp_r e10 (by omega))).trans (zcp_r e7 (by omega))).trans (zcp_r e4 (by omega))) ?_
  refine zj_puti (zdk ttX3_copyFrom 47 rfl rfl) zf_RX3_36 rfl (k_3_0 s22 hc) (Or.inl zw_RX3_36) (k2 := 7) rfl (fun h23 e24 => ?_)
  have s25 : okC h23 := fw_3_0_7 s22 hc e24 (by omega)
  have f32 : zfC (w_X3_copyFrom c) h h3 := zfC_cp (zfC_r _ _) e4 (fun _ => (Or.inr (by omega)))
  have f31 : zfC (w_X3_copyFrom c) h h6 := zfC_cp f32 e7 (fun _ => (Or.inr (by omega)))
  have f30 : zfC (w_X3_copyFrom c) h h9 := zfC_cp f31 e10 (fun _ => (Or.inr (by omega)))
  have f29 : zfC (w_X3_copyFrom c) h h12 := zfC_cp f30 e13 (fun _ => (Or.inr (by omega)))
  have f28 : zfC (w_X3_copyFrom c) h h15 := zfC_cp f29 e16 (fun _ => (Or.inr (by omega)))
  have f27 : zfC (w_X3_copyFrom c) h h19 := zfC_w f28 e20 (Or.inl (by omega))
  have f26 : zfC (w_X3_copyFrom c) h h23 := zfC_w f27 e24 (Or.inl (by omega))
  exact zj_vret rfl (zdk ttX3_copyFrom 48 rfl rfl) (Nat.le_refl _) (Nat.le_refl _) ⟨rfl, s25, f26, (fun j9 a9 b9 => (by have k9 : j9 = 6 ∨ j9 = 7 := (by omega); rcases k9 with rfl | rfl; exact (((zwr_r e24 (by first | decide | exact (absurd ·.1 (by decide)) | exact (absurd ·.2 (by decide)) | omega))).trans ((zwr_v e20).trans (rfl))); exact ((rfl).trans ((zwr_v e24).trans (rfl))))), (fun i9 j9 a9 b9 c9 d9 => (by have k9 : i9 = 1 ∨ i9 = 2 ∨ i9 = 3 ∨ i9 = 4 := (by omega); rcases k9 with rfl | rfl | rfl | rfl; exact ((((((((zwr_r e24 (by first | decide | exact (absurd ·.1 (by decide)) | exact (absurd ·.2 (by decide)) | omega)).trans (zwr_r e20 (by first | decide | exact (absurd ·.1 (by decide)) | exact (absurd ·.2 (by decide)) | omega))).trans (zcp_r e16 (by omega))).trans (zcp_r e13 (by omega))).trans (zcp_r e10 (by omega))).trans (zcp_r e7 (by omega)))).trans ((zcp_v e4 (by omega) (show j9 = 0 + (j9 - 0) by omega)).trans (rfl))); exact (((((((zwr_r e24 (by first | decide | exact (absurd ·.1 (by decide)) | exact (absurd ·.2 (by decide)) | omega)).trans (zwr_r e20 (by first | decide | exact (absurd ·.1 (by decide)) | exact (absurd ·.2 (by decide)) | omega))).trans (zcp_r e16 (by omega))).trans (zcp_r e13 (by omega))).trans (zcp_r e10 (by omega)))).trans ((zcp_v e7 (by omega) (show j9 = 0 + (j9 - 0) by omega)).trans ((zcp_r e4 (by omega))))); exact ((((((zwr_r e24 (by first | decide | exact (absurd ·.1 (by decide)) | exact (absurd ·.2 (by decide)) | omega)).trans (zwr_r e20 (by first | decide | exact (absurd ·.1 (by decide)) | exact (absurd ·.2 (by decide)) | omega))).trans (zcp_r e16 (by omega))).trans (zcp_r e13 (by omega)))).trans ((zcp_v e10 (by omega) (show j9 = 0 + (j9 - 0) by omega)).trans (((zcp_r e7 (by omega)).trans (zcp_r e4 (by omega)))))); exact (((((zwr_r e24 (by first | decide | exact (absurd ·.1 (by decide)) | exact (absurd ·.2 (by decide)) | omega)).trans (zwr_r e20 (by first | decide | exact (absurd ·.1 (by decide)) | exact (absurd ·.2 (by decide)) | omega))).trans (zcp_r e16 (by omega)))).trans ((zcp_v e13 (by omega) (show j9 = 0 + (j9 - 0) by omega)).trans ((((zcp_r e10 (by omega)).trans (zcp_r e7 (by omega))).trans (zcp_r e4 (by omega)))))))), (fun i9 j9 a9 b9 c9 d9 => (by have k9 : i9 = 5 := (by omega); subst k9; exact ((((zwr_r e24 (by first | decide | exact (absurd ·.1 (by decide)) | exact (absurd ·.2 (by decide)) | omega)).trans (zwr_r e20 (by first | decide | exact (absurd ·.1 (by decide)) | exact (absurd ·.2 (by decide)) | omega)))).trans ((zcp_v e16 (by omega) (show j9 = 0 + (j9 - 0) by omega)).trans (((((zcp_r e13 (by omega)).trans (zcp_r e10 (by omega))).trans (zcp_r e7 (by omega))).trans (zcp_r e4 (by omega))))))))⟩

abbrev q2_X4_copyFrom (h : zM) (c : Int) (p1 : Int) : Option zV → zM → Prop := zqv fun h' => okC h' ∧ zfC (w_X4_copyFrom c) h h' ∧ (∀ j9, 3 ≤ j9 → j9 ≤ 3 → h'.2 c j9 = h.2 p1 j9) ∧ (∀ k9 j9, 1 ≤ k9 → k9 ≤ 3 → 0 ≤ j9 → j9 < 16 → h'.2 (c + k9) j9 = h.2 (p1 + k9) j9)
set_option maxRecDepth 100000 in
set_option maxHeartbeats 4000000 in
theorem s2_X4_copyFrom (l : Launch) (h : zM) (c : Int) (p1 : Int) (s0 : okC h) (hc : zPl c) (r_p1 : zPl p1) : zT shC l yX4_copyFrom cX4_copyFrom 2 none (rmL 1) 0 0 [.inr c, .inr p1] h (q2_X4_copyFrom h c p1) := by
  refine zT_of (by decide +kernel) (L0 := [some (.inr c), some (.inr p1)]) rfl (Nat.le_of_ble_eq_true rfl) ?_
  have b1 := zPl_b hc
  have b2 := zPl_b r_p1
  have sep9 := xPl_sep hc r_p1
  refine zj_aload_n (zdk ttX4_copyFrom 0 rfl rfl) rfl (by omega) ?_
  refine zj_getr (r := (p1 + 1)) (zdk ttX4_copyFrom 1 rfl rfl) zf_RX4_9 rfl (k_4_0 s0 r_p1) (rf_4_0_0 s0 r_p1) ?_
  refine zj_iconst (zdk ttX4_copyFrom 2 rfl rfl) ?_
  refine zj_aload_n (zdk ttX4_copyFrom 3 rfl rfl) rfl (by omega) ?_
  refine zj_getr (r := (c + 1)) (zdk ttX4_copyFrom 4 rfl rfl) zf_RX4_9 rfl (k_4_0 s0 hc) (rf_4_0_0 s0 hc) ?_
  refine zj_iconst (zdk ttX4_copyFrom 5 rfl rfl) ?_
  refine zj_bipush (zdk ttX4_copyFrom 6 rfl rfl) (by decide) ?_
  refine zj_copy (zdk ttX4_copyFrom 7 rfl rfl) mc_RX4_25 (ka_4_0_0 s0 r_p1) (ka_4_0_0 s0 hc) (by decide) (by decide) (by decide) (by decide) (Nat.le_of_ble_eq_true rfl) (rm_c (by decide)) (fun h3 e4 => ?_)
  refine zj_aload_n (zdk ttX4_copyFrom 8 rfl rfl) rfl (by omega) ?_
  have s5 : okC h3 := okC_cp s0 e4 (fun j i => pa_4_0_0 hc (ab_4_0_0 s0 r_p1 i) j) (na_4_0_0 hc).1 (na_4_0_0 hc).2
  refine zj_getr (r := (p1 + 2)) (zdk ttX4_copyFrom 9 rfl rfl) zf_RX4_15 rfl (k_4_0 s5 r_p1) (rf_4_0_1 s5 r_p1) ?_
  refine zj_iconst (zdk ttX4_copyFrom 10 rfl rfl) ?_
  refine zj_aload_n (zdk ttX4_copyFrom 11 rfl rfl) rfl (by omega) ?_
  refine zj_getr (r := (c + 2)) (zdk ttX4_copyFrom 12 rfl rfl) zf_RX4_15 rfl (k_4_0 s5 hc) (rf_4_0_1 s5 hc) ?_
  refine zj_iconst (zdk ttX4_copyFrom 13 rfl rfl) ?_
  refine zj_bipush (zdk ttX4_copyFrom 14 rfl rfl) (by decide) ?_
  refine zj_copy (zdk ttX4_copyFrom 15 rfl rfl) mc_RX4_25 (ka_4_0_1 s5 r_p1) (ka_4_0_1 s5 hc) (by decide) (by decide) (by decide) (by decide) (Nat.le_of_ble_eq_true rfl) (rm_c (by decide)) (fun h6 e7 => ?_)
  refine zj_aload_n (zdk ttX4_copyFrom 16 rfl rfl) rfl (by omega) ?_
  have s8 : okC h6 := okC_cp s5 e7 (fun j i => pa_4_0_1 hc (ab_4_0_1 s5 r_p1 i) j) (na_4_0_1 hc).1 (na_4_0_1 hc).2
  refine zj_getr (r := (p1 + 3)) (zdk ttX4_copyFrom 17 rfl rfl) zf_RX4_18 rfl (k_4_0 s8 r_p1) (rf_4_0_2 s8 r_p1) ?_
  refine zj_iconst (zdk ttX4_copyFrom 18 rfl rfl) ?_
  refine zj_aload_n (zdk ttX4_copyFrom 19 rfl rfl) rfl (by omega) ?_
  refine zj_getr (r := (c + 3)) (zdk ttX4_copyFrom 20 rfl rfl) zf_RX4_18 rfl (k_4_0 s8 hc) (rf_4_0_2 s8 hc) ?_
  refine zj_iconst (zdk ttX4_copyFrom 21 rfl rfl) ?_
  refine zj_bipush (zdk ttX4_copyFrom 22 rfl rfl) (by decide) ?_
  refine zj_copy (zdk ttX4_copyFrom 23 rfl rfl) mc_RX4_25 (ka_4_0_2 s8 r_p1) (ka_4_0_2 s8 hc) (by decide) (by decide) (by decide) (by decide) (Nat.le_of_ble_eq_true rfl) (rm_c (by decide)) (fun h9 e10 => ?_)
  refine zj_aload_n (zdk ttX4_copyFrom 24 rfl rfl) rfl (by omega) ?_
  refine zj_aload_n (zdk ttX4_copyFrom 25 rfl rfl) rfl (by omega) ?_
  have b11 : 0 ≤ (h.2 p1 3) ∧ (h.2 p1 3) ≤ 16 := fb_4_0_3 s0 r_p1
  have s12 : okC h9 := okC_cp s8 e10 (fun j i => pa_4_0_2 hc (ab_4_0_2 s8 r_p1 i) j) (na_4_0_2 hc).1 (na_4_0_2 hc).2
  refine zj_geti (v := (h.2 p1 3)) (zdk ttX4_copyFrom 26 rfl rfl) zf_RX4_21 rfl (k_4_0 s12 r_p1) (((zcp_r e10 (by omega)).trans (zcp_r e7 (by omega))).trans (zcp_r e4 (by omega))) ?_
  refine zj_puti (zdk ttX4_copyFrom 27 rfl rfl) zf_RX4_21 rfl (k_4_0 s12 hc) (Or.inl zw_RX4_21) (k2 := 3) rfl (fun h13 e14 => ?_)
  have s15 : okC h13 := fw_4_0_3 s12 hc e14 (by omega)
  have f19 : zfC (w_X4_copyFrom c) h h3 := zfC_cp (zfC_r _ _) e4 (fun _ => (Or.inr (by omega)))
  have f18 : zfC (w_X4_copyFrom c) h h6 := zfC_cp f19 e7 (fun _ => (Or.inr (by omega)))
  have f17 : zfC (w_X4_copyFrom c) h h9 := zfC_cp f18 e10 (fun _ => (Or.inr (by omega)))
  have f16 : zfC (w_X4_copyFrom c) h h13 := zfC_w f17 e14 (Or.inl (by omega))
  exact zj_vret rfl (zdk ttX4_copyFrom 28 rfl rfl) (Nat.le_refl _) (Nat.le_refl _) ⟨rfl, s15, f16, (fun j9 a9 b9 => (by have k9 : j9 = 3 := (by omega); subst k9; exact ((rfl).trans ((zwr_v e14).trans (rfl))))), (fun i9 j9 a9 b9 c9 d9 => (by have k9 : i9 = 1 ∨ i9 = 2 ∨ i9 = 3 := (by omega); rcases k9 with rfl | rfl | rfl; exact (((((zwr_r e14 (by first | decide | exact (absurd ·.1 (by decide)) | exact (absurd ·.2 (by decide)) | omega)).trans (zcp_r e10 (by omega))).trans (zcp_r e7 (by omega)))).trans ((zcp_v e4 (by omega) (show j9 = 0 + (j9 - 0) by omega)).trans (rfl))); exact ((((zwr_r e14 (by first | decide | exact (absurd ·.1 (by decide)) | exact (absurd ·.2 (by decide)) | omega)).trans (zcp_r e10 (by omega)))).trans ((zcp_v e7 (by omega) (show j9 = 0 + (j9 - 0) by omega)).trans ((zcp_r e4 (by omega))))); exact (((zwr_r e14 (by first | decide | exact (absurd ·.1 (by decide)) | exact (absurd ·.2 (by decide)) | omega))).trans ((zcp_v e10 (by omega) (show j9 = 0 + (j9 - 0) by omega)).trans (((zcp_r e7 (by omega)).trans (zcp_r e4 (by omega))))))))⟩

abbrev q2_X2_copyFrom (h : zM) (c : Int) (p1 : Int) : Option zV → zM → Prop := zqv fun h' => okC h' ∧ zfC (w_X2_copyFrom c) h h' ∧ (∀ j9, 1 ≤ j9 → j9 ≤ 1 → h'.2 c j9 = h.2 p1 j9) ∧ (∀ k9 j9, 1 ≤ k9 → k9 ≤ 1 → 0 ≤ j9 → j9 < 18 → h'.2 (c + k9) j9 = h.2 (p1 + k9) j9)
set_option maxRecDepth 100000 in
set_option maxHeartbeats 4000000 in
theorem s2_X2_copyFrom (l : Launch) (h : zM) (c : Int) (p1 : Int) (s0 : okC h) (hc : zKi c) (r_p1 : zKi p1) : zT shC l yX2_copyFrom cX2_copyFrom 2 none (rmL 1) 0 0 [.inr c, .inr p1] h (q2_X2_copyFrom h c p1) := by
  refine zT_of (by decide +kernel) (L0 := [some (.inr c), some (.inr p1)]) rfl (Nat.le_of_ble_eq_true rfl) ?_
  have b1 := zKi_b hc
  have b2 := zKi_b r_p1
  have sep9 := xKi_sep hc r_p1
  refine zj_aload_n (zdk ttX2_copyFrom 0 rfl rfl) rfl (by omega) ?_
  refine zj_getr (r := (p1 + 1)) (zdk ttX2_copyFrom 1 rfl rfl) zf_RX2_9 rfl (k_2_0 s0 r_p1) (rf_2_0_0 s0 r_p1) ?_
  refine zj_iconst (zdk ttX2_copyFrom 2 rfl rfl) ?_
  refine zj_aload_n (zdk ttX2_copyFrom 3 rfl rfl) rfl (by omega) ?_
  refine zj_getr (r := (c + 1)) (zdk ttX2_copyFrom 4 rfl rfl) zf_RX2_9 rfl (k_2_0 s0 hc) (rf_2_0_0 s0 hc) ?_
  refine zj_iconst (zdk ttX2_copyFrom 5 rfl rfl) ?_
  refine zj_bipush (zdk ttX2_copyFrom 6 rfl rfl) (by decide) ?_
  refine zj_copy (zdk ttX2_copyFrom 7 rfl rfl) mc_RX2_19 (ka_2_0_0 s0 r_p1) (ka_2_0_0 s0 hc) (by decide) (by decide) (by decide) (by decide) (Nat.le_of_ble_eq_true rfl) (rm_c (by decide)) (fun h3 e4 => ?_)
  refine zj_aload_n (zdk ttX2_copyFrom 8 rfl rfl) rfl (by omega) ?_
  refine zj_aload_n (zdk ttX2_copyFrom 9 rfl rfl) rfl (by omega) ?_
  have b5 : -2147483648 ≤ (h.2 p1 1) ∧ (h.2 p1 1) ≤ 2147483647 := fb_2_0_1 s0 r_p1
  have s6 : okC h3 := okC_cp s0 e4 (fun j i => pa_2_0_0 hc (ab_2_0_0 s0 r_p1 i) j) (na_2_0_0 hc).1 (na_2_0_0 hc).2
  refine zj_geti (v := (h.2 p1 1)) (zdk ttX2_copyFrom 10 rfl rfl) zf_RX2_15 rfl (k_2_0 s6 r_p1) (zcp_r e4 (by omega)) ?_
  refine zj_puti (zdk ttX2_copyFrom 11 rfl rfl) zf_RX2_15 rfl (k_2_0 s6 hc) (Or.inl zw_RX2_15) (k2 := 1) rfl (fun h7 e8 => ?_)
  have s9 : okC h7 := fw_2_0_1 s6 hc e8 (by omega)
  have f11 : zfC (w_X2_copyFrom c) h h3 := zfC_cp (zfC_r _ _) e4 (fun _ => (Or.inr (by omega)))
  have f10 : zfC (w_X2_copyFrom c) h h7 := zfC_w f11 e8 (Or.inl (by omega))
  exact zj_vret rfl (zdk ttX2_copyFrom 12 rfl rfl) (Nat.le_refl _) (Nat.le_refl _) ⟨rfl, s9, f10, (fun j9 a9 b9 => (by have k9 : j9 = 1 := (by omega); subst k9; exact ((rfl).trans ((zwr_v e8).trans (rfl))))), (fun i9 j9 a9 b9 c9 d9 => (by have k9 : i9 = 1 := (by omega); subst k9; exact (((zwr_r e8 (by first | decide | exact (absurd ·.1 (by decide)) | exact (absurd ·.2 (by decide)) | omega))).trans ((zcp_v e4 (by omega) (show j9 = 0 + (j9 - 0) by omega)).trans (rfl)))))⟩

abbrev q2_X0_copyFrom (h : zM) (c : Int) (p1 : Int) : Option zV → zM → Prop := zqv fun h' => okC h' ∧ zfC (w_X0_copyFrom c) h h' ∧ (∀ j9, 4 ≤ j9 → j9 ≤ 4 → h'.2 c j9 = h.2 p1 j9) ∧ (∀ k9 j9, 1 ≤ k9 → k9 ≤ 4 → 0 ≤ j9 → j9 < 150 → h'.2 (c + k9) j9 = h.2 (p1 + k9) j9)
set_option maxRecDepth 100000 in
set_option maxHeartbeats 4000000 in
theorem s2_X0_copyFrom (l : Launch) (h : zM) (c : Int) (p1 : Int) (s0 : okC h) (hc : zBo c) (r_p1 : zBo p1) : zT shC l yX0_copyFrom cX0_copyFrom 2 none (rmL 1) 0 0 [.inr c, .inr p1] h (q2_X0_copyFrom h c p1) := by
  refine zT_of (by decide +kernel) (L0 := [some (.inr c), some (.inr p1)]) rfl (Nat.le_of_ble_eq_true rfl) ?_
  have b1 := zBo_b hc
  have b2 := zBo_b r_p1
  have sep9 := xBo_sep hc r_p1
  refine zj_aload_n (zdk ttX0_copyFrom 0 rfl rfl) rfl (by omega) ?_
  refine zj_getr (r := (p1 + 1)) (zdk ttX0_copyFrom 1 rfl rfl) zf_RX0_9 rfl (k_0_0 s0 r_p1) (rf_0_0_0 s0 r_p1) ?_
  refine zj_iconst (zdk ttX0_copyFrom 2 rfl rfl) ?_
  refine zj_aload_n (zdk ttX0_copyFrom 3 rfl rfl) rfl (by omega) ?_
  refine zj_getr (r := (c + 1)) (zdk ttX0_copyFrom 4 rfl rfl) zf_RX0_9 rfl (k_0_0 s0 hc) (rf_0_0_0 s0 hc) ?_
  refine zj_iconst (zdk ttX0_copyFrom 5 rfl rfl) ?_
  refine zj_sipush (zdk ttX0_copyFrom 6 rfl rfl) (by decide) ?_
  refine zj_copy (zdk ttX0_copyFrom 7 rfl rfl) mc_RX0_26 (ka_0_0_0 s0 r_p1) (ka_0_0_0 s0 hc) (by decide) (by decide) (by decide) (by decide) (Nat.le_of_ble_eq_true rfl) (rm_c (by decide)) (fun h3 e4 => ?_)
  refine zj_aload_n (zdk ttX0_copyFrom 8 rfl rfl) rfl (by omega) ?_
  have s5 : okC h3 := okC_cp s0 e4 (fun j i => pa_0_0_0 hc (ab_0_0_0 s0 r_p1 i) j) (na_0_0_0 hc).1 (na_0_0_0 hc).2
  refine zj_getr (r := (p1 + 2)) (zdk ttX0_copyFrom 9 rfl rfl) zf_RX0_13 rfl (k_0_0 s5 r_p1) (rf_0_0_1 s5 r_p1) ?_
  refine zj_iconst (zdk ttX0_copyFrom 10 rfl rfl) ?_
  refine zj_aload_n (zdk ttX0_copyFrom 11 rfl rfl) rfl (by omega) ?_
  refine zj_getr (r := (c + 2)) (zdk ttX0_copyFrom 12 rfl rfl) zf_RX0_13 rfl (k_0_0 s5 hc) (rf_0_0_1 s5 hc) ?_
  refine zj_iconst (zdk ttX0_copyFrom 13 rfl rfl) ?_
  refine zj_sipush (zdk ttX0_copyFrom 14 rfl rfl) (by decide) ?_
  refine zj_copy (zdk ttX0_copyFrom 15 rfl rfl) mc_RX0_26 (ka_0_0_1 s5 r_p1) (ka_0_0_1 s5 hc) (by decide) (by decide) (by decide) (by decide) (Nat.le_of_ble_eq_true rfl) (rm_c (by decide)) (fun h6 e7 => ?_)
  refine zj_aload_n (zdk ttX0_copyFrom 16 rfl rfl) rfl (by omega) ?_
  have s8 : okC h6 := okC_cp s5 e7 (fun j i => pa_0_0_1 hc (ab_0_0_1 s5 r_p1 i) j) (na_0_0_1 hc).1 (na_0_0_1 hc).2
  refine zj_getr (r := (p1 + 3)) (zdk ttX0_copyFrom 17 rfl rfl) zf_RX0_16 rfl (k_0_0 s8 r_p1) (rf_0_0_2 s8 r_p1) ?_
  refine zj_iconst (zdk ttX0_copyFrom 18 rfl rfl) ?_
  refine zj_aload_n (zdk ttX0_copyFrom 19 rfl rfl) rfl (by omega) ?_
  refine zj_getr (r := (c + 3)) (zdk ttX0_copyFrom 20 rfl rfl) zf_RX0_16 rfl (k_0_0 s8 hc) (rf_0_0_2 s8 hc) ?_
  refine zj_iconst (zdk ttX0_copyFrom 21 rfl rfl) ?_
  refine zj_sipush (zdk ttX0_copyFrom 22 rfl rfl) (by decide) ?_
  refine zj_copy (zdk ttX0_copyFrom 23 rfl rfl) mc_RX0_26 (ka_0_0_2 s8 r_p1) (ka_0_0_2 s8 hc) (by decide) (by decide) (by decide) (by decide) (Nat.le_of_ble_eq_true rfl) (rm_c (by decide)) (fun h9 e10 => ?_)
  refine zj_aload_n (zdk ttX0_copyFrom 24 rfl rfl) rfl (by omega) ?_
  have s11 : okC h9 := okC_cp s8 e10 (fun j i => pa_0_0_2 hc (ab_0_0_2 s8 r_p1 i) j) (na_0_0_2 hc).1 (na_0_0_2 hc).2
  refine zj_getr (r := (p1 + 4)) (zdk ttX0_copyFrom 25 rfl rfl) zf_RX0_19 rfl (k_0_0 s11 r_p1) (rf_0_0_3 s11 r_p1) ?_
  refine zj_iconst (zdk ttX0_copyFrom 26 rfl rfl) ?_
  refine zj_aload_n (zdk ttX0_copyFrom 27 rfl rfl) rfl (by omega) ?_
  refine zj_getr (r := (c + 4)) (zdk ttX0_copyFrom 28 rfl rfl) zf_RX0_19 rfl (k_0_0 s11 hc) (rf_0_0_3 s11 hc) ?_
  refine zj_iconst (zdk ttX0_copyFrom 29 rfl rfl) ?_
  refine zj_sipush (zdk ttX0_copyFrom 30 rfl rfl) (by decide) ?_
  refine zj_copy (zdk ttX0_copyFrom 31 rfl rfl) mc_RX0_26 (ka_0_0_3 s11 r_p1) (ka_0_0_3 s11 hc) (by decide) (by decide) (by decide) (by decide) (Nat.le_of_ble_eq_true rfl) (rm_c (by decide)) (fun h12 e13 => ?_)
  refine zj_aload_n (zdk ttX0_copyFrom 32 rfl rfl) rfl (by omega) ?_
  refine zj_aload_n (zdk ttX0_copyFrom 33 rfl rfl) rfl (by omega) ?_
  have b14 : 0 ≤ (h.2 p1 4) ∧ (h.2 p1 4) ≤ 150 := fb_0_0_4 s0 r_p1
  have s15 : okC h12 := okC_cp s11 e13 (fun j i => pa_0_0_3 hc (ab_0_0_3 s11 r_p1 i) j) (na_0_0_3 hc).1 (na_0_0_3 hc).2
  refine zj_geti (v := (h.2 p1 4)) (zdk ttX0_copyFrom 34 rfl rfl) zf_RX0_22 rfl (k_0_0 s15 r_p1) ((((zcp_r e13 (by omega)).trans (zcp_r e10 (by omega))).trans (zcp_r e7 (by omega))).trans (zcp_r e4 (by omega))) ?_
  refine zj_puti (zdk ttX0_copyFrom 35 rfl rfl) zf_RX0_22 rfl (k_0_0 s15 hc) (Or.inl zw_RX0_22) (k2 := 4) rfl (fun h16 e17 => ?_)
  have s18 : okC h16 := fw_0_0_4 s15 hc e17 (by omega)
  have f23 : zfC (w_X0_copyFrom c) h h3 := zfC_cp (zfC_r _ _) e4 (fun _ => (Or.inr (by omega)))
  have f22 : zfC (w_X0_copyFrom c) h h6 := zfC_cp f23 e7 (fun _ => (Or.inr (by omega)))
  have f21 : zfC (w_X0_copyFrom c) h h9 := zfC_cp f22 e10 (fun _ => (Or.inr (by omega)))
  have f20 : zfC (w_X0_copyFrom c) h h12 := zfC_cp f21 e13 (fun _ => (Or.inr (by omega)))
  have f19 : zfC (w_X0_copyFrom c) h h16 := zfC_w f20 e17 (Or.inl (by omega))
  exact zj_vret rfl (zdk ttX0_copyFrom 36 rfl rfl) (Nat.le_refl _) (Nat.le_refl _) ⟨rfl, s18, f19, (fun j9 a9 b9 => (by have k9 : j9 = 4 := (by omega); subst k9; exact ((rfl).trans ((zwr_v e17).trans (rfl))))), (fun i9 j9 a9 b9 c9 d9 => (by have k9 : i9 = 1 ∨ i9 = 2 ∨ i9 = 3 ∨ i9 = 4 := (by omega); rcases k9 with rfl | rfl | rfl | rfl; exact ((((((zwr_r e17 (by first | decide | exact (absurd ·.1 (by decide)) | exact (absurd ·.2 (by decide)) | omega)).trans (zcp_r e13 (by omega))).trans (zcp_r e10 (by omega))).trans (zcp_r e7 (by omega)))).trans ((zcp_v e4 (by omega) (show j9 = 0 + (j9 - 0) by omega)).trans (rfl))); exact (((((zwr_r e17 (by first | decide | exact (absurd ·.1 (by decide)) | exact (absurd ·.2 (by decide)) | omega)).trans (zcp_r e13 (by omega))).trans (zcp_r e10 (by omega)))).trans ((zcp_v e7 (by omega) (show j9 = 0 + (j9 - 0) by omega)).trans ((zcp_r e4 (by omega))))); exact ((((zwr_r e17 (by first | decide | exact (absurd ·.1 (by decide)) | exact (absurd ·.2 (by decide)) | omega)).trans (zcp_r e13 (by omega)))).trans ((zcp_v e10 (by omega) (show j9 = 0 + (j9 - 0) by omega)).trans (((zcp_r e7 (by omega)).trans (zcp_r e4 (by omega)))))); exact (((zwr_r e17 (by first | decide | exact (absurd ·.1 (by decide)) | exact (absurd ·.2 (by decide)) | omega))).trans ((zcp_v e13 (by omega) (show j9 = 0 + (j9 - 0) by omega)).trans ((((zcp_r e10 (by omega)).trans (zcp_r e7 (by omega))).trans (zcp_r e4 (by omega))))))))⟩

