abbrev q2_X10_remember (h : zM) : Option zV → zM → Prop := zqv fun h' => okC h' ∧ zfC w_X10_remember h h' ∧ (zJP h → zJP h') ∧ (∀ E x u q, xC h 1 E false x → xP h E u q → xC h' 1 E false x ∧ xP h' E (fKu u) (fKq u q x.1))
set_option maxRecDepth 100000 in
set_option maxHeartbeats 4000000 in
theorem s2_X10_remember (l : Launch) (h : zM) (s0 : okC h) : zT shC l yX10_remember cX10_remember 3 none (rmL 2) 0 0 [.inr 0] h (q2_X10_remember h) := by
  refine zT_of (by decide +kernel) (L0 := [some (.inr 0), none, none]) rfl (Nat.le_of_ble_eq_true rfl) ?_
  refine zj_aload_n (zdk ttX10_remember 0 rfl rfl) rfl (by decide) ?_
  have b1 : 0 ≤ (h.2 0 8) ∧ (h.2 0 8) ≤ 6 := fb_L0_8 s0
  refine zj_geti (v := (h.2 0 8)) (zdk ttX10_remember 1 rfl rfl) zf_RX10_55 rfl (k_L0 s0) rfl ?_
  refine zj_bipush (zdk ttX10_remember 2 rfl rfl) (by decide) ?_
  refine zj_icmp_lt (t := 70) (zdk ttX10_remember 3 rfl rfl) (by decide) (by omega) (by decide) (fun c2 => ?_) (fun c2 => ?_)
  · refine zj_aload_n (zdk ttX10_remember 44 rfl rfl) rfl (by decide) ?_
    refine zj_getr (r := 114) (zdk ttX10_remember 45 rfl rfl) zf_RX10_47 rfl (k_L0 s0) (rf_L0_6 s0) ?_
    refine zj_aload_n (zdk ttX10_remember 46 rfl rfl) rfl (by decide) ?_
    refine zj_geti (v := (h.2 0 8)) (zdk ttX10_remember 47 rfl rfl) zf_RX10_55 rfl (k_L0 s0) rfl ?_
    have p3 : zPast (h.2 114 (h.2 0 8)) := s0.2.2.1 (h.2 0 8) (by omega) (by omega)
    have p4 := zPast_Is p3
    have b5 := zIs_b p4
    have b6 := zPast_b p3
    refine zj_aald (r := (h.2 114 (h.2 0 8))) (zdk ttX10_remember 48 rfl rfl) (ka_L0_6 s0) (by decide) (by omega) rfl ?_
    refine zj_aload_n (zdk ttX10_remember 49 rfl rfl) rfl (by decide) ?_
    refine zj_getr (r := 1) (zdk ttX10_remember 50 rfl rfl) zf_RX10_10 rfl (k_L0 s0) (rf_L0_0 s0) ?_
    refine zj_getr (r := 2) (zdk ttX10_remember 51 rfl rfl) zf_RX10_67 rfl (k_9_0 s0 zWd_1) (rf_9_0_0 s0 zWd_1) ?_
    refine zj_callV (av := [.inr 2]) (st := []) (zdk ttX10_remember 52 rfl rfl) mb_X1_copyFrom mv_RX10_332 (ci := 1) rfl rfl (k_1_0 s0 p4) rfl rfl (Nat.le_of_ble_eq_true rfl) (s2_X1_copyFrom l h (h.2 114 (h.2 0 8)) 2 s0 p4 zIs_2) (rm_ok (by decide) (by decide)) (zq_v fun h9 q7 => ?_)
    obtain ⟨s11, f15, u12, u13, u14⟩ := q7
    refine zj_aload_n (zdk ttX10_remember 53 rfl rfl) rfl (by decide) ?_
    refine zj_getr (r := 115) (zdk ttX10_remember 54 rfl rfl) zf_RX10_51 rfl (k_L0 s11) (rf_L0_7 s11) ?_
    refine zj_aload_n (zdk ttX10_remember 55 rfl rfl) rfl (by decide) ?_
    refine zj_geti (v := (h.2 0 8)) (zdk ttX10_remember 56 rfl rfl) zf_RX10_55 rfl (k_L0 s11) (zfC_a f15 (fun z9 => by unfold w_X1_copyFrom at z9; first | (revert z9; decide) | omega)) ?_
    refine zj_aload_n (zdk ttX10_remember 57 rfl rfl) rfl (by decide) ?_
    refine zj_getr (r := 1) (zdk ttX10_remember 58 rfl rfl) zf_RX10_10 rfl (k_L0 s11) (rf_L0_0 s11) ?_
    refine zj_getr (r := 23) (zdk ttX10_remember 59 rfl rfl) zf_RX10_219 rfl (k_9_0 s11 zWd_1) (rf_9_0_5 s11 zWd_1) ?_
    have b16 : 0 ≤ (h.2 23 4) ∧ (h.2 23 4) ≤ 150 := fb_0_0_4 s0 zBo_23
    refine zj_geti (v := (h.2 23 4)) (zdk ttX10_remember 60 rfl rfl) zf_RX10_223 rfl (k_0_0 s11 zBo_23) (zfC_a f15 (fun z9 => by unfold w_X1_copyFrom at z9; first | (revert z9; decide) | omega)) ?_
    refine zj_iast (zdk ttX10_remember 61 rfl rfl) (ka_L0_7 s11) (by decide) (by omega) (fun h17 e18 => ?_)
    refine zj_aload_n (zdk ttX10_remember 62 rfl rfl) rfl (by decide) ?_
    refine zj_dup (zdk ttX10_remember 63 rfl rfl) ?_
    have s19 : okC h17 := aw_L0_7 s11 e18 (by omega)
    refine zj_geti (v := (h.2 0 8)) (zdk ttX10_remember 64 rfl rfl) zf_RX10_55 rfl (k_L0 s19) ((zwr_r e18 (by first | decide | exact (absurd ·.1 (by decide)) | exact (absurd ·.2 (by decide)) | omega)).trans (zfC_a f15 (fun z9 => by unfold w_X1_copyFrom at z9; first | (revert z9; decide) | omega))) ?_
    refine zj_iconst (zdk ttX10_remember 65 rfl rfl) ?_
    refine zj_iadd (zdk ttX10_remember 66 rfl rfl) ?_
    refine zj_puti (zdk ttX10_remember 67 rfl rfl) zf_RX10_55 rfl (k_L0 s19) (Or.inl zw_RX10_55) (k2 := 8) rfl (fun h20 e21 => ?_)
    have s22 : okC h20 := fw_L0_8 s19 e21 (by omega)
    have f25 : zfC w_X10_remember h h9 := zfC_t (zfC_r _ _) f15 (fun a9 b9 z9 => by
      rcases z9 with z9 | z9
      · exact (Or.inr (by omega))
      · exact (Or.inr (by omega)))
    have f24 : zfC w_X10_remember h h17 := zfC_w f25 e18 (Or.inr (by omega))
    have f23 : zfC w_X10_remember h h20 := zfC_w f24 e21 (Or.inl (by omega))
    have b26 : h9.2 23 4 = (h.2 23 4) := (zfC_a f15 (fun z9 => by unfold w_X1_copyFrom at z9; first | (revert z9; decide) | omega))
    exact zj_vret rfl (zdk ttX10_remember 68 rfl rfl) (Nat.le_refl _) (Nat.le_refl _) ⟨rfl, s22, f23, (fun j => zJP_push (u := (h.2 0 8)) s0 j rfl (by omega) f15 u12 e18 e21), (by intro E x u q xc xp; have xb : h.2 23 4 = x.1 2 := (xc.2.2.2.2 rfl).1; have u6 := xp.1; have eu : u = h.2 0 8 := u6.1.symm; subst eu; have xp1 := xp; have n6 : ¬ h.2 0 8 = 6 := (by omega); rw [fKu_n n6, fKq_n n6]; have xc0 : xC h 1 E false x := xc; have cp : zRi h9 (h.2 114 (h.2 0 8)) E x.1 := (by have z8 := zRi_cp (c := h.2 114 (h.2 0 8)) xc0.2.2.1 u13 u14; exact z8); refine ⟨xC_f xc0 (fun a9 b9 y9 => by unfold zD at y9; have pb := zPast_b (s0.2.2.1 (h.2 0 8) (by omega) (by omega)); exact (((zwr_r e21 (by first | decide | exact (absurd ·.1 (by decide)) | exact (absurd ·.2 (by decide)) | omega)).trans (zwr_r e18 (by first | decide | exact (absurd ·.1 (by decide)) | exact (absurd ·.2 (by decide)) | omega))).trans (zfC_a f15 (fun z9 => by unfold w_X1_copyFrom at z9; first | (revert z9; decide) | omega)))), ?_⟩; exact xP_push s0 xp1 (by omega) xc.2.1 f15 cp e18 (by omega) e21)⟩
  · refine zj_aload_n (zdk ttX10_remember 4 rfl rfl) rfl (by decide) ?_
    refine zj_getr (r := 114) (zdk ttX10_remember 5 rfl rfl) zf_RX10_47 rfl (k_L0 s0) (rf_L0_6 s0) ?_
    refine zj_iconst (zdk ttX10_remember 6 rfl rfl) ?_
    have p27 : zPast (h.2 114 0) := s0.2.2.1 0 (by omega) (by omega)
    have p28 := zPast_Is p27
    have b29 := zIs_b p28
    have b30 := zPast_b p27
    refine zj_aald (r := (h.2 114 0)) (zdk ttX10_remember 7 rfl rfl) (ka_L0_6 s0) (by decide) (by omega) rfl ?_
    refine zj_astore_n (L' := [some (.inr 0), some (.inr (h.2 114 0)), none]) (zdk ttX10_remember 8 rfl rfl) (by omega) (by decide) rfl ?_
    refine zj_iconst (zdk ttX10_remember 9 rfl rfl) ?_
    refine zj_istore_n (L' := [some (.inr 0), some (.inr (h.2 114 0)), some (.inl 1)]) (zdk ttX10_remember 10 rfl rfl) (by decide) rfl ?_
    have lp101 : ∀ (n : Nat) (x31 : Int) (h32 : zM), (1 ≤ x31 ∧ x31 ≤ 6) → okC h32 → zfC w_X10_remember h h32 → (zJP h → ∀ i, 0 ≤ i → i < 6 → h32.2 (h32.2 114 i) 3 = h32.2 2 3) → (∀ j9, 0 ≤ j9 → j9 < 6 → (h32.2 114 j9 = if j9 < x31 - 1 then h.2 114 (j9 + 1) else h.2 114 j9) ∧ (h32.2 115 j9 = if j9 < x31 - 1 then h.2 115 (j9 + 1) else h.2 115 j9)) → (∀ a9 b9, 116 ≤ a9 → a9 ≤ 139 → h32.2 a9 b9 = h.2 a9 b9) → (7 - x31).toNat < n → zJ shC l yX10_remember cX10_remember 3 none (rmL 2) 0 0 (q2_X10_remember h) 0 0 18 [some (.inr 0), some (.inr (h.2 114 0)), some (.inl x31)] [] h32 := by
      intro n
      induction n with
      | zero => intro x31 h32 b102 s33 f34 u103 u104 u105 m106; exact absurd m106 (Nat.not_lt_zero _)
      | succ n ih107 =>
        intro x31 h32 b102 s33 f34 u103 u104 u105 m106
        refine zj_iload_n (zdk ttX10_remember 11 rfl rfl) rfl ?_
        refine zj_bipush (zdk ttX10_remember 12 rfl rfl) (by decide) ?_
        refine zj_icmp_ge (t := 58) (zdk ttX10_remember 13 rfl rfl) (by decide) (by omega) (by decide) (fun c108 => ?_) (fun c108 => ?_)
        · refine zj_aload_n (zdk ttX10_remember 36 rfl rfl) rfl (by decide) ?_
          refine zj_getr (r := 114) (zdk ttX10_remember 37 rfl rfl) zf_RX10_47 rfl (k_L0 s33) (rf_L0_6 s33) ?_
          refine zj_iconst (zdk ttX10_remember 38 rfl rfl) ?_
          refine zj_aload_n (zdk ttX10_remember 39 rfl rfl) rfl (by omega) ?_
          refine zj_aast (zdk ttX10_remember 40 rfl rfl) (ka_L0_6 s33) (by decide) (by omega) (k_1_0 s33 p28) (fun h109 e110 => ?_)
          refine zj_aload_n (zdk ttX10_remember 41 rfl rfl) rfl (by decide) ?_
          refine zj_iconst (zdk ttX10_remember 42 rfl rfl) ?_
          have s111 : okC h109 := okC_past s33 e110 p27
          refine zj_puti (zdk ttX10_remember 43 rfl rfl) zf_RX10_55 rfl (k_L0 s111) (Or.inl zw_RX10_55) (k2 := 8) rfl (fun h112 e113 => ?_)
          refine zj_aload_n (zdk ttX10_remember 44 rfl rfl) rfl (by decide) ?_
          have s114 : okC h112 := fw_L0_8 s111 e113 (by omega)
          refine zj_getr (r := 114) (zdk ttX10_remember 45 rfl rfl) zf_RX10_47 rfl (k_L0 s114) (rf_L0_6 s114) ?_
          refine zj_aload_n (zdk ttX10_remember 46 rfl rfl) rfl (by decide) ?_
          refine zj_geti (v := 5) (zdk ttX10_remember 47 rfl rfl) zf_RX10_55 rfl (k_L0 s114) (zwr_v e113) ?_
          have p115 : zPast (h112.2 114 5) := s114.2.2.1 5 (by omega) (by omega)
          have p116 := zPast_Is p115
          have b117 := zIs_b p116
          have b118 := zPast_b p115
          refine zj_aald (r := (h112.2 114 5)) (zdk ttX10_remember 48 rfl rfl) (ka_L0_6 s114) (by decide) (by omega) rfl ?_
          refine zj_aload_n (zdk ttX10_remember 49 rfl rfl) rfl (by decide) ?_
          refine zj_getr (r := 1) (zdk ttX10_remember 50 rfl rfl) zf_RX10_10 rfl (k_L0 s114) (rf_L0_0 s114) ?_
          refine zj_getr (r := 2) (zdk ttX10_remember 51 rfl rfl) zf_RX10_67 rfl (k_9_0 s114 zWd_1) (rf_9_0_0 s114 zWd_1) ?_
          refine zj_callV (av := [.inr 2]) (st := []) (zdk ttX10_remember 52 rfl rfl) mb_X1_copyFrom mv_RX10_332 (ci := 1) rfl rfl (k_1_0 s114 p116) rfl rfl (Nat.le_of_ble_eq_true rfl) (s2_X1_copyFrom l h112 (h112.2 114 5) 2 s114 p116 zIs_2) (rm_ok (by decide) (by decide)) (zq_v fun h121 q119 => ?_)
          obtain ⟨s123, f127, u124, u125, u126⟩ := q119
          refine zj_aload_n (zdk ttX10_remember 53 rfl rfl) rfl (by decide) ?_
          refine zj_getr (r := 115) (zdk ttX10_remember 54 rfl rfl) zf_RX10_51 rfl (k_L0 s123) (rf_L0_7 s123) ?_
          refine zj_aload_n (zdk ttX10_remember 55 rfl rfl) rfl (by decide) ?_
          refine zj_geti (v := 5) (zdk ttX10_remember 56 rfl rfl) zf_RX10_55 rfl (k_L0 s123) ((zfC_a f127 (fun z9 => by unfold w_X1_copyFrom at z9; first | (revert z9; decide) | omega)).trans (zwr_v e113)) ?_
          refine zj_aload_n (zdk ttX10_remember 57 rfl rfl) rfl (by decide) ?_
          refine zj_getr (r := 1) (zdk ttX10_remember 58 rfl rfl) zf_RX10_10 rfl (k_L0 s123) (rf_L0_0 s123) ?_
          refine zj_getr (r := 23) (zdk ttX10_remember 59 rfl rfl) zf_RX10_219 rfl (k_9_0 s123 zWd_1) (rf_9_0_5 s123 zWd_1) ?_
          have b128 : 0 ≤ (h.2 23 4) ∧ (h.2 23 4) ≤ 150 := fb_0_0_4 s0 zBo_23
          refine zj_geti (v := (h.2 23 4)) (zdk ttX10_remember 60 rfl rfl) zf_RX10_223 rfl (k_0_0 s123 zBo_23) ((((zfC_a f127 (fun z9 => by unfold w_X1_copyFrom at z9; first | (revert z9; decide) | omega)).trans (zwr_r e113 (by first | decide | exact (absurd ·.1 (by decide)) | exact (absurd ·.2 (by decide)) | omega))).trans (zwr_r e110 (by first | decide | exact (absurd ·.1 (by decide)) | exact (absurd ·.2 (by decide)) | omega))).trans (zfC_a f34 (fun z9 => by unfold w_X10_remember at z9; first | (revert z9; decide) | omega))) ?_
          refine zj_iast (zdk ttX10_remember 61 rfl rfl) (ka_L0_7 s123) (by decide) (by omega) (fun h129 e130 => ?_)
          refine zj_aload_n (zdk ttX10_remember 62 rfl rfl) rfl (by decide) ?_
          refine zj_dup (zdk ttX10_remember 63 rfl rfl) ?_
          have s131 : okC h129 := aw_L0_7 s123 e130 (by omega)
          refine zj_geti (v := 5) (zdk ttX10_remember 64 rfl rfl) zf_RX10_55 rfl (k_L0 s131) (((zwr_r e130 (by first | decide | exact (absurd ·.1 (by decide)) | exact (absurd ·.2 (by decide)) | omega)).trans (zfC_a f127 (fun z9 => by unfold w_X1_copyFrom at z9; first | (revert z9; decide) | omega))).trans (zwr_v e113)) ?_
          refine zj_iconst (zdk ttX10_remember 65 rfl rfl) ?_
          refine zj_iadd (zdk ttX10_remember 66 rfl rfl) ?_
          refine zj_puti (zdk ttX10_remember 67 rfl rfl) zf_RX10_55 rfl (k_L0 s131) (Or.inl zw_RX10_55) (k2 := 8) rfl (fun h132 e133 => ?_)
          have s134 : okC h132 := fw_L0_8 s131 e133 (by omega)
          have f139 : zfC w_X10_remember h h109 := zfC_w f34 e110 (Or.inr (by omega))
          have f138 : zfC w_X10_remember h h112 := zfC_w f139 e113 (Or.inl (by omega))
          have f137 : zfC w_X10_remember h h121 := zfC_t f138 f127 (fun a9 b9 z9 => by
            rcases z9 with z9 | z9
            · exact (Or.inr (by omega))
            · exact (Or.inr (by omega)))
          have f136 : zfC w_X10_remember h h129 := zfC_w f137 e130 (Or.inr (by omega))
          have f135 : zfC w_X10_remember h h132 := zfC_w f136 e133 (Or.inl (by omega))
          have b140 : h121.2 23 4 = (h.2 23 4) := ((((zfC_a f127 (fun z9 => by unfold w_X1_copyFrom at z9; first | (revert z9; decide) | omega)).trans (zwr_r e113 (by first | decide | exact (absurd ·.1 (by decide)) | exact (absurd ·.2 (by decide)) | omega))).trans (zwr_r e110 (by first | decide | exact (absurd ·.1 (by decide)) | exact (absurd ·.2 (by decide)) | omega))).trans (zfC_a f34 (fun z9 => by unfold w_X10_remember at z9; first | (revert z9; decide) | omega)))
          exact zj_vret rfl (zdk ttX10_remember 68 rfl rfl) (Nat.le_refl _) (Nat.le_refl _) ⟨rfl, s134, f135, (fun j => zJP_push (u := 5) s114 (zJP_sh s114 e110 e113 (u103 j)) (zwr_v e113) (by omega) f127 u124 e130 e133), (by intro E x u q xc xp; have xb : h.2 23 4 = x.1 2 := (xc.2.2.2.2 rfl).1; have u6 := xp.1; have eu : u = 6 := (by omega); subst eu; have xp1 := xP_sh s0 xp (H := h32) (fun j9 a9 b9 => by have z8 := (u104 j9 a9 (by omega)).1; rw [if_pos (by omega)] at z8; exact z8) (fun j9 a9 b9 => by have z8 := (u104 j9 a9 (by omega)).2; rw [if_pos (by omega)] at z8; exact z8) u105 (by first | rfl | omega) e110 e113; rw [fKq_6]; show _ ∧ xP _ E (5 + 1) _; have xc0 : xC h112 1 E false x := xC_f xc (fun a9 b9 y9 => by unfold zD at y9; exact (((zwr_r e113 (by first | decide | exact (absurd ·.1 (by decide)) | exact (absurd ·.2 (by decide)) | omega)).trans (zwr_r e110 (by first | decide | exact (absurd ·.1 (by decide)) | exact (absurd ·.2 (by decide)) | omega))).trans (zfC_a f34 (fun z9 => by unfold w_X10_remember at z9; first | (revert z9; decide) | omega)))); have cp : zRi h121 (h112.2 114 5) E x.1 := (by have z8 := zRi_cp (c := h112.2 114 5) xc0.2.2.1 u125 u126; exact z8); refine ⟨xC_f xc0 (fun a9 b9 y9 => by unfold zD at y9; have pb := zPast_b (s114.2.2.1 5 (by omega) (by omega)); exact (((zwr_r e133 (by first | decide | exact (absurd ·.1 (by decide)) | exact (absurd ·.2 (by decide)) | omega)).trans (zwr_r e130 (by first | decide | exact (absurd ·.1 (by decide)) | exact (absurd ·.2 (by decide)) | omega))).trans (zfC_a f127 (fun z9 => by unfold w_X1_copyFrom at z9; first | (revert z9; decide) | omega)))), ?_⟩; exact xP_push s114 xp1 (by omega) xc.2.1 f127 cp e130 (by omega) e133)⟩
        · refine zj_aload_n (zdk ttX10_remember 14 rfl rfl) rfl (by decide) ?_
          refine zj_getr (r := 114) (zdk ttX10_remember 15 rfl rfl) zf_RX10_47 rfl (k_L0 s33) (rf_L0_6 s33) ?_
          refine zj_iload_n (zdk ttX10_remember 16 rfl rfl) rfl ?_
          refine zj_iconst (zdk ttX10_remember 17 rfl rfl) ?_
          refine zj_isub (zdk ttX10_remember 18 rfl rfl) ?_
          refine zj_aload_n (zdk ttX10_remember 19 rfl rfl) rfl (by decide) ?_
          refine zj_getr (r := 114) (zdk ttX10_remember 20 rfl rfl) zf_RX10_47 rfl (k_L0 s33) (rf_L0_6 s33) ?_
          refine zj_iload_n (zdk ttX10_remember 21 rfl rfl) rfl ?_
          have p141 : zPast (h32.2 114 x31) := s33.2.2.1 x31 (by omega) (by omega)
          have p142 := zPast_Is p141
          have b143 := zIs_b p142
          have b144 := zPast_b p141
          refine zj_aald (r := (h32.2 114 x31)) (zdk ttX10_remember 22 rfl rfl) (ka_L0_6 s33) (by decide) (by omega) rfl ?_
          refine zj_aast (zdk ttX10_remember 23 rfl rfl) (ka_L0_6 s33) (by decide) (by omega) (k_1_0 s33 p142) (fun h145 e146 => ?_)
          refine zj_aload_n (zdk ttX10_remember 24 rfl rfl) rfl (by decide) ?_
          have s147 : okC h145 := okC_past s33 e146 p141
          refine zj_getr (r := 115) (zdk ttX10_remember 25 rfl rfl) zf_RX10_51 rfl (k_L0 s147) (rf_L0_7 s147) ?_
          refine zj_iload_n (zdk ttX10_remember 26 rfl rfl) rfl ?_
          refine zj_iconst (zdk ttX10_remember 27 rfl rfl) ?_
          refine zj_isub (zdk ttX10_remember 28 rfl rfl) ?_
          refine zj_aload_n (zdk ttX10_remember 29 rfl rfl) rfl (by decide) ?_
          refine zj_getr (r := 115) (zdk ttX10_remember 30 rfl rfl) zf_RX10_51 rfl (k_L0 s147) (rf_L0_7 s147) ?_
          refine zj_iload_n (zdk ttX10_remember 31 rfl rfl) rfl ?_
          have b148 : 0 ≤ (h32.2 115 x31) ∧ (h32.2 115 x31) ≤ 150 := ab_L0_7 s33 x31
          refine zj_iald (v := (h32.2 115 x31)) (zdk ttX10_remember 32 rfl rfl) (ka_L0_7 s147) (by decide) (by omega) (zwr_r e146 (by first | decide | exact (absurd ·.1 (by decide)) | exact (absurd ·.2 (by decide)) | omega)) ?_
          refine zj_iast (zdk ttX10_remember 33 rfl rfl) (ka_L0_7 s147) (by decide) (by omega) (fun h149 e150 => ?_)
          refine zj_iinc (L' := [some (.inr 0), some (.inr (h.2 114 0)), some (.inl (x31 + 1))]) (zdk ttX10_remember 34 rfl rfl) rfl (by decide) rfl ?_
          refine zj_goto (t := 18) (zdk ttX10_remember 35 rfl rfl) (by decide) ?_
          have s151 : okC h149 := aw_L0_7 s147 e150 (by omega)
          have f153 : zfC w_X10_remember h h145 := zfC_w f34 e146 (Or.inr (by omega))
          have f152 : zfC w_X10_remember h h149 := zfC_w f153 e150 (Or.inr (by omega))
          exact ih107  (x31 + 1) h149 (by omega) s151 f152 (fun j => zJP_row s33 e146 ⟨x31, by omega, by omega, rfl⟩ e150 (u103 j)) (by intro j9 a9 b9; have c9 := u104 j9 a9 b9; have d9 := u104 x31 (by omega) (by omega); rw [if_neg (by omega), if_neg (by omega)] at d9; have e4 : h149.2 114 j9 = if j9 = (x31 - 1) then (h32.2 114 x31) else h32.2 114 j9 := (by rw [zwr_r (a := 114) (b := j9) e150 (by omega), zwr_if e146 j9]); have e5 : h149.2 115 j9 = if j9 = (x31 - 1) then (h32.2 115 x31) else h32.2 115 j9 := (by rw [zwr_if e150 j9, zwr_r (a := 115) (b := j9) e146 (by omega)]); have f5 : (h32.2 115 x31) = h32.2 115 x31 := (by first | rfl | exact zwr_r e146 (by first | decide | exact (absurd ·.1 (by decide)) | exact (absurd ·.2 (by decide)) | omega)); rw [e4, e5]; by_cases y9 : j9 = x31 - 1; (rw [if_pos (show j9 = (x31 - 1) by omega), if_pos (show j9 = (x31 - 1) by omega), if_pos (by omega), if_pos (by omega), f5, show j9 + 1 = x31 by omega]; exact d9); (rw [if_neg (show ¬ j9 = (x31 - 1) by omega), if_neg (show ¬ j9 = (x31 - 1) by omega), c9.1, c9.2]; exact ⟨by by_cases q9 : j9 < x31 - 1; rw [if_pos q9, if_pos (by omega)]; rw [if_neg q9, if_neg (by omega)], by by_cases q9 : j9 < x31 - 1; rw [if_pos q9, if_pos (by omega)]; rw [if_neg q9, if_neg (by omega)]⟩)) (fun a9 b9 y9 z9 => (zwr_r e150 (by first | decide | exact (absurd ·.1 (by decide)) | exact (absurd ·.2 (by decide)) | omega)).trans ((zwr_r e146 (by first | decide | exact (absurd ·.1 (by decide)) | exact (absurd ·.2 (by decide)) | omega)).trans (u105 a9 b9 y9 z9))) (by omega)
    exact lp101 _ 1 h (by omega) s0 (zfC_r _ _) (fun j i a b => j i a (by omega)) (fun j9 a9 b9 => ⟨by rw [if_neg (by omega)], by rw [if_neg (by omega)]⟩) (fun a9 b9 y9 z9 => rfl) (Nat.lt_succ_self _)

