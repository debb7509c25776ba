abbrev q2_X7_readSingle (h : zM) (p1 p2 : Int) : Option zV → zM → Prop := zqi fun v h' => (0 ≤ v ∧ v ≤ 1) ∧ okC h' ∧ zfC (w_X7_readSingle p1) h h' ∧ (∀ T P j, tPo T P j h → h.2 p1 7 ≤ j → (v = 1 → ∃ j9, tPo T P j9 h' ∧ j < j9 ∧ h'.2 p1 7 - h.2 p1 7 ≤ j9 - j ∧ ∀ p9 s9 d9, tOpn s9 = p2 → tRe T p9 (8, j, 0, s9, tCd h p1, d9) (9, j9, 0, s9, tCd h' p1, d9)) ∧ (v = 0 → ∃ i9 f9, (h'.2 103 7 = f9 ∧ h'.2 103 8 = P i9) ∧ ∀ p9 s9 d9, tOpn s9 = p2 → tRe T p9 (8, j, 0, s9, tCd h p1, d9) (tEr i9 f9)))
abbrev q2_X7_readChoice (h : zM) (p1 p2 : Int) : Option zV → zM → Prop := zqi fun v h' => (0 ≤ v ∧ v ≤ 1) ∧ okC h' ∧ zfC (w_X7_readChoice p1) h h' ∧ (∀ T P j, tPo T P j h → h.2 p1 7 ≤ j → (v = 1 → ∃ j9, tPo T P j9 h' ∧ j < j9 ∧ h'.2 p1 7 - h.2 p1 7 ≤ j9 - j ∧ ∀ p9 s9 d9, tOpn s9 = p2 → (tHd s9 = 90 ∨ tHd s9 = 12) → tRe T p9 (8, j, 0, s9, tCd h p1, d9) (12, j9, 0, s9, tCd h' p1, d9)) ∧ (v = 0 → ∃ i9 f9, (h'.2 103 7 = f9 ∧ h'.2 103 8 = P i9) ∧ ∀ p9 s9 d9, tOpn s9 = p2 → (tHd s9 = 90 ∨ tHd s9 = 12) → tRe T p9 (8, j, 0, s9, tCd h p1, d9) (tEr i9 f9)))
set_option maxRecDepth 100000 in
set_option maxHeartbeats 8000000 in
theorem s2_X7_readSingle_and_X7_readChoice (l : Launch) : ∀ n0 : Nat, (∀ (h : zM) (p1 p2 : Int), (okC h) → (zLw p1) → (0 ≤ p2 ∧ p2 ≤ 8) → (9 - p2).toNat < n0 → zT shC l yX7_readSingle cX7_readSingle 5 (some .boolean) (rmL (8 + 2 * n0 + 0)) 0 0 [.inr 107, .inr p1, .inl p2] h (q2_X7_readSingle h p1 p2)) ∧ (∀ (h : zM) (p1 p2 : Int), (okC h) → (zLw p1) → (0 ≤ p2 ∧ p2 ≤ 8) → (9 - p2).toNat < n0 → zT shC l yX7_readChoice cX7_readChoice 6 (some .boolean) (rmL (8 + 2 * n0 + 1)) 0 0 [.inr 107, .inr p1, .inl p2] h (q2_X7_readChoice h p1 p2)) := by
  intro n0
  induction n0 with
  | zero => exact ⟨(fun h p1 p2 s0 r_p1 b_p2 hm => absurd hm (Nat.not_lt_zero _)), (fun h p1 p2 s0 r_p1 b_p2 hm => absurd hm (Nat.not_lt_zero _))⟩
  | succ n0 ihr =>
    have hr0 : ∀ (h : zM) (p1 p2 : Int), (okC h) → (zLw p1) → (0 ≤ p2 ∧ p2 ≤ 8) → (9 - p2).toNat < (n0 + 1) → zT shC l yX7_readSingle cX7_readSingle 5 (some .boolean) (rmL (8 + 2 * (n0 + 1) + 0)) 0 0 [.inr 107, .inr p1, .inl p2] h (q2_X7_readSingle h p1 p2) := by
      intro h p1 p2 s0 r_p1 b_p2 hm0
      refine zT_of (by decide +kernel) (L0 := [some (.inr 107), some (.inr p1), some (.inl p2), none, none]) rfl (Nat.le_of_ble_eq_true rfl) ?_
      have b1001 := zLw_b r_p1
      refine zj_aload_n (zdk ttX7_readSingle 0 rfl rfl) rfl (by decide) ?_
      refine zj_getr (r := 103) (zdk ttX7_readSingle 1 rfl rfl) zf_RX7_9 rfl (k_L107 s0) (rf_L107_0 s0) ?_
      refine zj_bipush (zdk ttX7_readSingle 2 rfl rfl) (by decide) ?_
      refine zj_bipush (zdk ttX7_readSingle 3 rfl rfl) (by decide) ?_
      refine zj_callV (av := [.inl 6, .inl 6]) (st := []) (zdk ttX7_readSingle 4 rfl rfl) mb_X6_isWord mv_RX7_60 (ci := 6) rfl rfl (k_L103 s0) rfl rfl (Nat.le_of_ble_eq_true rfl) (s_X6_isWord l h 6 6 s0 (by omega) (by omega)) (rm_ok (by omega) (by decide)) (zq_i fun v1003 h1004 q1002 => ?_)
      obtain ⟨rfl, b1006, ⟨rfl, b1005⟩ | ⟨rfl, b1005⟩⟩ := q1002
      · refine zj_istore_n (L' := [some (.inr 107), some (.inr p1), some (.inl p2), some (.inl 0), none]) (zdk ttX7_readSingle 5 rfl rfl) (by decide) rfl ?_
        refine zj_iload_n (zdk ttX7_readSingle 6 rfl rfl) rfl ?_
        refine zj_if_ne (t := 28) (zdk ttX7_readSingle 7 rfl rfl) (by decide) (by decide) (fun c1007 => ?_) (fun c1007 => ?_)
        · exact absurd c1007 (by omega)
        · refine zj_aload_n (zdk ttX7_readSingle 8 rfl rfl) rfl (by decide) ?_
          refine zj_getr (r := 103) (zdk ttX7_readSingle 9 rfl rfl) zf_RX7_9 rfl (k_L107 s0) (rf_L107_0 s0) ?_
          refine zj_geti (v := (h.2 103 6)) (zdk ttX7_readSingle 10 rfl rfl) zf_RX7_32 rfl (k_L103 s0) rfl ?_
          refine zj_bipush (zdk ttX7_readSingle 11 rfl rfl) (by decide) ?_
          refine zj_icmp_ne (t := 105) (zdk ttX7_readSingle 12 rfl rfl) (by decide) (by omega) (by decide) (fun c1008 => ?_) (fun c1008 => ?_)
          · refine zj_aload_n (zdk ttX7_readSingle 56 rfl rfl) rfl (by decide) ?_
            refine zj_aload_n (zdk ttX7_readSingle 57 rfl rfl) rfl (by omega) ?_
            refine zj_callV (av := [.inr p1]) (st := []) (zdk ttX7_readSingle 58 rfl rfl) mb_X7_readSum mv_RX7_53 (ci := 7) rfl rfl (k_L107 s0) rfl rfl (Nat.le_of_ble_eq_true rfl) (s2_X7_readSum l h p1 s0 r_p1) (rm_ok (by omega) (by decide)) (zq_i fun v1010 h1011 q1009 => ?_)
            obtain ⟨b1012, s1013, f1015, u1014⟩ := q1009
            refine zj_if_ne (t := 115) (zdk ttX7_readSingle 59 rfl rfl) (by decide) (by omega) (fun c1016 => ?_) (fun c1016 => ?_)
            · refine zj_aload_n (zdk ttX7_readSingle 62 rfl rfl) rfl (by decide) ?_
              refine zj_getr (r := 103) (zdk ttX7_readSingle 63 rfl rfl) zf_RX7_9 rfl (k_L107 s1013) (rf_L107_0 s1013) ?_
              have b1017 : -2147483648 ≤ (h1011.2 103 6) ∧ (h1011.2 103 6) ≤ 2147483647 := fb_L103_6 s1013
              refine zj_geti (v := (h1011.2 103 6)) (zdk ttX7_readSingle 64 rfl rfl) zf_RX7_32 rfl (k_L103 s1013) rfl ?_
              refine zj_istore (L' := [some (.inr 107), some (.inr p1), some (.inl p2), some (.inl 0), some (.inl (h1011.2 103 6))]) (zdk ttX7_readSingle 65 rfl rfl) (by decide) rfl ?_
              refine zj_iload (zdk ttX7_readSingle 66 rfl rfl) rfl ?_
              refine zj_bipush (zdk ttX7_readSingle 67 rfl rfl) (by decide) ?_
              refine zj_icmp_eq (t := 154) (zdk ttX7_readSingle 68 rfl rfl) (by decide) (by omega) (by decide) (fun c1018 => ?_) (fun c1018 => ?_)
              · refine zj_aload_n (zdk ttX7_readSingle 80 rfl rfl) rfl (by decide) ?_
                refine zj_getr (r := 103) (zdk ttX7_readSingle 81 rfl rfl) zf_RX7_9 rfl (k_L107 s1013) (rf_L107_0 s1013) ?_
                refine zj_callV (av := []) (st := []) (zdk ttX7_readSingle 82 rfl rfl) mb_X6_pass mv_RX7_47 (ci := 6) rfl rfl (k_L103 s1013) rfl rfl (Nat.le_of_ble_eq_true rfl) (s2_X6_pass l h1011 s1013) (rm_ok (by omega) (by decide)) (zq_v fun h1021 q1019 => ?_)
                obtain ⟨s1023, f1025, u1024⟩ := q1019
                refine zj_aload_n (zdk ttX7_readSingle 83 rfl rfl) rfl (by decide) ?_
                refine zj_aload_n (zdk ttX7_readSingle 84 rfl rfl) rfl (by omega) ?_
                refine zj_callV (av := [.inr p1]) (st := []) (zdk ttX7_readSingle 85 rfl rfl) mb_X7_readSum mv_RX7_53 (ci := 7) rfl rfl (k_L107 s1023) rfl rfl (Nat.le_of_ble_eq_true rfl) (s2_X7_readSum l h1021 p1 s1023 r_p1) (rm_ok (by omega) (by decide)) (zq_i fun v1027 h1028 q1026 => ?_)
                obtain ⟨b1029, s1030, f1032, u1031⟩ := q1026
                refine zj_if_ne (t := 171) (zdk ttX7_readSingle 86 rfl rfl) (by decide) (by omega) (fun c1033 => ?_) (fun c1033 => ?_)
                · refine zj_aload_n (zdk ttX7_readSingle 89 rfl rfl) rfl (by omega) ?_
                  refine zj_sipush (zdk ttX7_readSingle 90 rfl rfl) (by decide) ?_
                  refine zj_iload (zdk ttX7_readSingle 91 rfl rfl) rfl ?_
                  refine zj_iadd (zdk ttX7_readSingle 92 rfl rfl) ?_
                  refine zj_callV (av := [.inl (20000 + (h1011.2 103 6))]) (st := []) (zdk ttX7_readSingle 93 rfl rfl) mb_X3_put mv_RX7_77 (ci := 3) rfl rfl (k_3_0 s1030 r_p1) rfl rfl (Nat.le_of_ble_eq_true rfl) (s2_X3_put l h1028 p1 (20000 + (h1011.2 103 6)) s1030 r_p1 (by omega)) (rm_ok (by omega) (by decide)) (zq_v fun h1036 q1034 => ?_)
                  obtain ⟨s1038, f1040, u1039⟩ := q1034
                  refine zj_iconst (zdk ttX7_readSingle 94 rfl rfl) ?_
                  have f1044 : zfC (w_X7_readSingle p1) h h1011 := zfC_t (zfC_r _ _) f1015 (fun a9 b9 z9 => by
                    rcases z9 with z9 | z9 | z9
                    · exact (Or.inl z9)
                    · exact (Or.inr (Or.inl (by omega)))
                    · exact (Or.inr (Or.inr (by omega))))
                  have f1043 : zfC (w_X7_readSingle p1) h h1021 := zfC_t f1044 f1025 (fun a9 b9 z9 => by
                    exact (Or.inl (by omega)))
                  have f1042 : zfC (w_X7_readSingle p1) h h1028 := zfC_t f1043 f1032 (fun a9 b9 z9 => by
                    rcases z9 with z9 | z9 | z9
                    · exact (Or.inl z9)
                    · exact (Or.inr (Or.inl (by omega)))
                    · exact (Or.inr (Or.inr (by omega))))
                  have f1041 : zfC (w_X7_readSingle p1) h h1036 := zfC_t f1042 f1040 (fun a9 b9 z9 => by
                    rcases z9 with z9 | z9
                    · exact (Or.inr (Or.inl (by omega)))
                    · exact (Or.inr (Or.inr (by omega))))
                  have b1045 : h1036.2 103 6 = (h1028.2 103 6) := (zfC_a f1040 (fun z9 => by unfold w_X3_put at z9; first | (revert z9; decide) | omega))
                  exact zj_zret rfl (zdk ttX7_readSingle 95 rfl rfl) (Nat.le_refl _) (Nat.le_refl _) (by omega) ⟨1, rfl, by omega, s1038, f1041, (by intro T P j t0 y0; have k0 := t0.2.2.1.2; have l0 := t0.2.2.2.1; have n0 := t0.2.2.2.1; obtain ⟨r_1j, r_1a, r_1l, r_1n, r_1r⟩ := (u1014 T P j t0 (by omega)).1 (by omega); have r_1q := r_1a.2.2.2.1; have k_2 := r_1a.2.2.1.2; have k_2l := r_1a.2.2.2.1; have c_3l := r_1n; have k_4 := r_1a.2.2.1.2; have k_4l := r_1a.2.2.2.1; have a_5 : tPo T P (r_1j + 1) h1021 := u1024 T P r_1j r_1a (by omega); have a_5q := a_5.2.2.2.1; have c_6l : h1021.2 p1 7 = h1011.2 p1 7 := (zfC_a f1025 (fun z9 => by unfold w_X6_pass at z9; first | (revert z9; decide) | omega)); have c_6e : tCd h1021 p1 = tCd h1011 p1 := (tCd_f (zfC_a f1025 (fun z9 => by unfold w_X6_pass at z9; first | (revert z9; decide) | omega)) (fun i => (zfC_a f1025 (fun z9 => by unfold w_X6_pass at z9; first | (revert z9; decide) | omega)))).trans rfl; obtain ⟨r_7j, r_7a, r_7l, r_7n, r_7r⟩ := (u1031 T P (r_1j + 1) a_5 (by omega)).1 (by omega); have r_7q := r_7a.2.2.2.1; have a_8 : tPo T P r_7j h1036 := tPo_f r_7a (fun i => (zfC_a f1040 (fun z9 => by unfold w_X3_put at z9; first | (revert z9; decide) | omega))) (fun i => (zfC_a f1040 (fun z9 => by unfold w_X3_put at z9; first | (revert z9; decide) | omega))) (zfC_a f1040 (fun z9 => by unfold w_X3_put at z9; first | (revert z9; decide) | omega)) (zfC_a f1040 (fun z9 => by unfold w_X3_put at z9; first | (revert z9; decide) | omega)) (zfC_a f1040 (fun z9 => by unfold w_X3_put at z9; first | (revert z9; decide) | omega)) (zfC_a f1040 (fun z9 => by unfold w_X3_put at z9; first | (revert z9; decide) | omega)) (zfC_a f1040 (fun z9 => by unfold w_X3_put at z9; first | (revert z9; decide) | omega)); have c_9l := r_7n; have c_10 := u1039 (by omega); have c_10l := c_10.2; have c_10e : tCd h1036 p1 = (20000 + (h1011.2 103 6)) :: tCd h1028 p1 := c_10.1.trans (congrArg _ (rfl : tCd h1028 p1 = tCd h1028 p1)); exact ⟨fun _ => ⟨r_7j, a_8, by omega, by omega, fun p9 s9 d9 o9 => tRe_k (tRe_s (tRe_t (tRe_k (tRe_s (tRe_t (tRe_1 (tM8_s (by omega))) (r_1r p9 (101 :: s9) d9)) (tM5_c (by omega))) c_6e.symm) (r_7r p9 (T r_1j :: s9) d9)) (tM5_r (by omega))) (by rw [c_10e]; congr 1; omega)⟩, fun z => absurd z (by omega)⟩)⟩
                · refine zj_iconst (zdk ttX7_readSingle 87 rfl rfl) ?_
                  have f1048 : zfC (w_X7_readSingle p1) h h1011 := zfC_t (zfC_r _ _) f1015 (fun a9 b9 z9 => by
                    rcases z9 with z9 | z9 | z9
                    · exact (Or.inl z9)
                    · exact (Or.inr (Or.inl (by omega)))
                    · exact (Or.inr (Or.inr (by omega))))
                  have f1047 : zfC (w_X7_readSingle p1) h h1021 := zfC_t f1048 f1025 (fun a9 b9 z9 => by
                    exact (Or.inl (by omega)))
                  have f1046 : zfC (w_X7_readSingle p1) h h1028 := zfC_t f1047 f1032 (fun a9 b9 z9 => by
                    rcases z9 with z9 | z9 | z9
                    · exact (Or.inl z9)
                    · exact (Or.inr (Or.inl (by omega)))
                    · exact (Or.inr (Or.inr (by omega))))
                  exact zj_zret rfl (zdk ttX7_readSingle 88 rfl rfl) (Nat.le_refl _) (Nat.le_refl _) (by omega) ⟨0, rfl, by omega, s1030, f1046, (by intro T P j t0 y0; have k0 := t0.2.2.1.2; have l0 := t0.2.2.2.1; have n0 := t0.2.2.2.1; obtain ⟨r_1j, r_1a, r_1l, r_1n, r_1r⟩ := (u1014 T P j t0 (by omega)).1 (by omega); have r_1q := r_1a.2.2.2.1; have k_2 := r_1a.2.2.1.2; have k_2l := r_1a.2.2.2.1; have c_3l := r_1n; have k_4 := r_1a.2.2.1.2; have k_4l := r_1a.2.2.2.1; have a_5 : tPo T P (r_1j + 1) h1021 := u1024 T P r_1j r_1a (by omega); have a_5q := a_5.2.2.2.1; have c_6l : h1021.2 p1 7 = h1011.2 p1 7 := (zfC_a f1025 (fun z9 => by unfold w_X6_pass at z9; first | (revert z9; decide) | omega)); have c_6e : tCd h1021 p1 = tCd h1011 p1 := (tCd_f (zfC_a f1025 (fun z9 => by unfold w_X6_pass at z9; first | (revert z9; decide) | omega)) (fun i => (zfC_a f1025 (fun z9 => by unfold w_X6_pass at z9; first | (revert z9; decide) | omega)))).trans rfl; obtain ⟨e_7i, e_7f, e_7q, e_7r⟩ := (u1031 T P (r_1j + 1) a_5 (by omega)).2 (by omega); exact ⟨fun z => absurd z (by omega), fun _ => ⟨e_7i, e_7f, e_7q, fun p9 s9 d9 o9 => tRe_t (tRe_k (tRe_s (tRe_t (tRe_1 (tM8_s (by omega))) (r_1r p9 (101 :: s9) d9)) (tM5_c (by omega))) c_6e.symm) (e_7r p9 (T r_1j :: s9) d9)⟩⟩)⟩
              · refine zj_iload (zdk ttX7_readSingle 69 rfl rfl) rfl ?_
                refine zj_bipush (zdk ttX7_readSingle 70 rfl rfl) (by decide) ?_
                refine zj_icmp_eq (t := 154) (zdk ttX7_readSingle 71 rfl rfl) (by decide) (by omega) (by decide) (fun c1049 => ?_) (fun c1049 => ?_)
                · refine zj_aload_n (zdk ttX7_readSingle 80 rfl rfl) rfl (by decide) ?_
                  refine zj_getr (r := 103) (zdk ttX7_readSingle 81 rfl rfl) zf_RX7_9 rfl (k_L107 s1013) (rf_L107_0 s1013) ?_
                  refine zj_callV (av := []) (st := []) (zdk ttX7_readSingle 82 rfl rfl) mb_X6_pass mv_RX7_47 (ci := 6) rfl rfl (k_L103 s1013) rfl rfl (Nat.le_of_ble_eq_true rfl) (s2_X6_pass l h1011 s1013) (rm_ok (by omega) (by decide)) (zq_v fun h1052 q1050 => ?_)
                  obtain ⟨s1054, f1056, u1055⟩ := q1050
                  refine zj_aload_n (zdk ttX7_readSingle 83 rfl rfl) rfl (by decide) ?_
                  refine zj_aload_n (zdk ttX7_readSingle 84 rfl rfl) rfl (by omega) ?_
                  refine zj_callV (av := [.inr p1]) (st := []) (zdk ttX7_readSingle 85 rfl rfl) mb_X7_readSum mv_RX7_53 (ci := 7) rfl rfl (k_L107 s1054) rfl rfl (Nat.le_of_ble_eq_true rfl) (s2_X7_readSum l h1052 p1 s1054 r_p1) (rm_ok (by omega) (by decide)) (zq_i fun v1058 h1059 q1057 => ?_)
                  obtain ⟨b1060, s1061, f1063, u1062⟩ := q1057
                  refine zj_if_ne (t := 171) (zdk ttX7_readSingle 86 rfl rfl) (by decide) (by omega) (fun c1064 => ?_) (fun c1064 => ?_)
                  · refine zj_aload_n (zdk ttX7_readSingle 89 rfl rfl) rfl (by omega) ?_
                    refine zj_sipush (zdk ttX7_readSingle 90 rfl rfl) (by decide) ?_
                    refine zj_iload (zdk ttX7_readSingle 91 rfl rfl) rfl ?_
                    refine zj_iadd (zdk ttX7_readSingle 92 rfl rfl) ?_
                    refine zj_callV (av := [.inl (20000 + (h1011.2 103 6))]) (st := []) (zdk ttX7_readSingle 93 rfl rfl) mb_X3_put mv_RX7_77 (ci := 3) rfl rfl (k_3_0 s1061 r_p1) rfl rfl (Nat.le_of_ble_eq_true rfl) (s2_X3_put l h1059 p1 (20000 + (h1011.2 103 6)) s1061 r_p1 (by omega)) (rm_ok (by omega) (by decide)) (zq_v fun h1067 q1065 => ?_)
                    obtain ⟨s1069, f1071, u1070⟩ := q1065
                    refine zj_iconst (zdk ttX7_readSingle 94 rfl rfl) ?_
                    have f1075 : zfC (w_X7_readSingle p1) h h1011 := zfC_t (zfC_r _ _) f1015 (fun a9 b9 z9 => by
                      rcases z9 with z9 | z9 | z9
                      · exact (Or.inl z9)
                      · exact (Or.inr (Or.inl (by omega)))
                      · exact (Or.inr (Or.inr (by omega))))
                    have f1074 : zfC (w_X7_readSingle p1) h h1052 := zfC_t f1075 f1056 (fun a9 b9 z9 => by
                      exact (Or.inl (by omega)))
                    have f1073 : zfC (w_X7_readSingle p1) h h1059 := zfC_t f1074 f1063 (fun a9 b9 z9 => by
                      rcases z9 with z9 | z9 | z9
                      · exact (Or.inl z9)
                      · exact (Or.inr (Or.inl (by omega)))
                      · exact (Or.inr (Or.inr (by omega))))
                    have f1072 : zfC (w_X7_readSingle p1) h h1067 := zfC_t f1073 f1071 (fun a9 b9 z9 => by
                      rcases z9 with z9 | z9
                      · exact (Or.inr (Or.inl (by omega)))
                      · exact (Or.inr (Or.inr (by omega))))
                    have b1076 : h1067.2 103 6 = (h1059.2 103 6) := (zfC_a f1071 (fun z9 => by unfold w_X3_put at z9; first | (revert z9; decide) | omega))
                    exact zj_zret rfl (zdk ttX7_readSingle 95 rfl rfl) (Nat.le_refl _) (Nat.le_refl _) (by omega) ⟨1, rfl, by omega, s1069, f1072, (by intro T P j t0 y0; have k0 := t0.2.2.1.2; have l0 := t0.2.2.2.1; have n0 := t0.2.2.2.1; obtain ⟨r_1j, r_1a, r_1l, r_1n, r_1r⟩ := (u1014 T P j t0 (by omega)).1 (by omega); have r_1q := r_1a.2.2.2.1; have k_2 := r_1a.2.2.1.2; have k_2l := r_1a.2.2.2.1; have c_3l := r_1n; have k_4 := r_1a.2.2.1.2; have k_4l := r_1a.2.2.2.1; have a_5 : tPo T P (r_1j + 1) h1052 := u1055 T P r_1j r_1a (by omega); have a_5q := a_5.2.2.2.1; have c_6l : h1052.2 p1 7 = h1011.2 p1 7 := (zfC_a f1056 (fun z9 => by unfold w_X6_pass at z9; first | (revert z9; decide) | omega)); have c_6e : tCd h1052 p1 = tCd h1011 p1 := (tCd_f (zfC_a f1056 (fun z9 => by unfold w_X6_pass at z9; first | (revert z9; decide) | omega)) (fun i => (zfC_a f1056 (fun z9 => by unfold w_X6_pass at z9; first | (revert z9; decide) | omega)))).trans rfl; obtain ⟨r_7j, r_7a, r_7l, r_7n, r_7r⟩ := (u1062 T P (r_1j + 1) a_5 (by omega)).1 (by omega); have r_7q := r_7a.2.2.2.1; have a_8 : tPo T P r_7j h1067 := tPo_f r_7a (fun i => (zfC_a f1071 (fun z9 => by unfold w_X3_put at z9; first | (revert z9; decide) | omega))) (fun i => (zfC_a f1071 (fun z9 => by unfold w_X3_put at z9; first | (revert z9; decide) | omega))) (zfC_a f1071 (fun z9 => by unfold w_X3_put at z9; first | (revert z9; decide) | omega)) (zfC_a f1071 (fun z9 => by unfold w_X3_put at z9; first | (revert z9; decide) | omega)) (zfC_a f1071 (fun z9 => by unfold w_X3_put at z9; first | (revert z9; decide) | omega)) (zfC_a f1071 (fun z9 => by unfold w_X3_put at z9; first | (revert z9; decide) | omega)) (zfC_a f1071 (fun z9 => by unfold w_X3_put at z9; first | (revert z9; decide) | omega)); have c_9l := r_7n; have c_10 := u1070 (by omega); have c_10l := c_10.2; have c_10e : tCd h1067 p1 = (20000 + (h1011.2 103 6)) :: tCd h1059 p1 := c_10.1.trans (congrArg _ (rfl : tCd h1059 p1 = tCd h1059 p1)); exact ⟨fun _ => ⟨r_7j, a_8, by omega, by omega, fun p9 s9 d9 o9 => tRe_k (tRe_s (tRe_t (tRe_k (tRe_s (tRe_t (tRe_1 (tM8_s (by omega))) (r_1r p9 (101 :: s9) d9)) (tM5_c (by omega))) c_6e.symm) (r_7r p9 (T r_1j :: s9) d9)) (tM5_r (by omega))) (by rw [c_10e]; congr 1; omega)⟩, fun z => absurd z (by omega)⟩)⟩
                  · refine zj_iconst (zdk ttX7_readSingle 87 rfl rfl) ?_
                    have f1079 : zfC (w_X7_readSingle p1) h h1011 := zfC_t (zfC_r _ _) f1015 (fun a9 b9 z9 => by
                      rcases z9 with z9 | z9 | z9
                      · exact (Or.inl z9)
                      · exact (Or.inr (Or.inl (by omega)))
                      · exact (Or.inr (Or.inr (by omega))))
                    have f1078 : zfC (w_X7_readSingle p1) h h1052 := zfC_t f1079 f1056 (fun a9 b9 z9 => by
                      exact (Or.inl (by omega)))
                    have f1077 : zfC (w_X7_readSingle p1) h h1059 := zfC_t f1078 f1063 (fun a9 b9 z9 => by
                      rcases z9 with z9 | z9 | z9
                      · exact (Or.inl z9)
                      · exact (Or.inr (Or.inl (by omega)))
                      · exact (Or.inr (Or.inr (by omega))))
                    exact zj_zret rfl (zdk ttX7_readSingle 88 rfl rfl) (Nat.le_refl _) (Nat.le_refl _) (by omega) ⟨0, rfl, by omega, s1061, f1077, (by intro T P j t0 y0; have k0 := t0.2.2.1.2; have l0 := t0.2.2.2.1; have n0 := t0.2.2.2.1; obtain ⟨r_1j, r_1a, r_1l, r_1n, r_1r⟩ := (u1014 T P j t0 (by omega)).1 (by omega); have r_1q := r_1a.2.2.2.1; have k_2 := r_1a.2.2.1.2; have k_2l := r_1a.2.2.2.1; have c_3l := r_1n; have k_4 := r_1a.2.2.1.2; have k_4l := r_1a.2.2.2.1; have a_5 : tPo T P (r_1j + 1) h1052 := u1055 T P r_1j r_1a (by omega); have a_5q := a_5.2.2.2.1; have c_6l : h1052.2 p1 7 = h1011.2 p1 7 := (zfC_a f1056 (fun z9 => by unfold w_X6_pass at z9; first | (revert z9; decide) | omega)); have c_6e : tCd h1052 p1 = tCd h1011 p1 := (tCd_f (zfC_a f1056 (fun z9 => by unfold w_X6_pass at z9; first | (revert z9; decide) | omega)) (fun i => (zfC_a f1056 (fun z9 => by unfold w_X6_pass at z9; first | (revert z9; decide) | omega)))).trans rfl; obtain ⟨e_7i, e_7f, e_7q, e_7r⟩ := (u1062 T P (r_1j + 1) a_5 (by omega)).2 (by omega); exact ⟨fun z => absurd z (by omega), fun _ => ⟨e_7i, e_7f, e_7q, fun p9 s9 d9 o9 => tRe_t (tRe_k (tRe_s (tRe_t (tRe_1 (tM8_s (by omega))) (r_1r p9 (101 :: s9) d9)) (tM5_c (by omega))) c_6e.symm) (e_7r p9 (T r_1j :: s9) d9)⟩⟩)⟩
                · refine zj_iload (zdk ttX7_readSingle 72 rfl rfl) rfl ?_
                  refine zj_bipush (zdk ttX7_readSingle 73 rfl rfl) (by decide) ?_
                  refine zj_icmp_eq (t := 154) (zdk ttX7_readSingle 74 rfl rfl) (by decide) (by omega) (by decide) (fun c1080 => ?_) (fun c1080 => ?_)
                  · refine zj_aload_n (zdk ttX7_readSingle 80 rfl rfl) rfl (by decide) ?_
                    refine zj_getr (r := 103) (zdk ttX7_readSingle 81 rfl rfl) zf_RX7_9 rfl (k_L107 s1013) (rf_L107_0 s1013) ?_
                    refine zj_callV (av := []) (st := []) (zdk ttX7_readSingle 82 rfl rfl) mb_X6_pass mv_RX7_47 (ci := 6) rfl rfl (k_L103 s1013) rfl rfl (Nat.le_of_ble_eq_true rfl) (s2_X6_pass l h1011 s1013) (rm_ok (by omega) (by decide)) (zq_v fun h1083 q1081 => ?_)
                    obtain ⟨s1085, f1087, u1086⟩ := q1081
                    refine zj_aload_n (zdk ttX7_readSingle 83 rfl rfl) rfl (by decide) ?_
                    refine zj_aload_n (zdk ttX7_readSingle 84 rfl rfl) rfl (by omega) ?_
                    refine zj_callV (av := [.inr p1]) (st := []) (zdk ttX7_readSingle 85 rfl rfl) mb_X7_readSum mv_RX7_53 (ci := 7) rfl rfl (k_L107 s1085) rfl rfl (Nat.le_of_ble_eq_true rfl) (s2_X7_readSum l h1083 p1 s1085 r_p1) (rm_ok (by omega) (by decide)) (zq_i fun v1089 h1090 q1088 => ?_)
                    obtain ⟨b1091, s1092, f1094, u1093⟩ := q1088
                    refine zj_if_ne (t := 171) (zdk ttX7_readSingle 86 rfl rfl) (by decide) (by omega) (fun c1095 => ?_) (fun c1095 => ?_)
                    · refine zj_aload_n (zdk ttX7_readSingle 89 rfl rfl) rfl (by omega) ?_
                      refine zj_sipush (zdk ttX7_readSingle 90 rfl rfl) (by decide) ?_
                      refine zj_iload (zdk ttX7_readSingle 91 rfl rfl) rfl ?_
                      refine zj_iadd (zdk ttX7_readSingle 92 rfl rfl) ?_
                      refine zj_callV (av := [.inl (20000 + (h1011.2 103 6))]) (st := []) (zdk ttX7_readSingle 93 rfl rfl) mb_X3_put mv_RX7_77 (ci := 3) rfl rfl (k_3_0 s1092 r_p1) rfl rfl (Nat.le_of_ble_eq_true rfl) (s2_X3_put l h1090 p1 (20000 + (h1011.2 103 6)) s1092 r_p1 (by omega)) (rm_ok (by omega) (by decide)) (zq_v fun h1098 q1096 => ?_)
                      obtain ⟨s1100, f1102, u1101⟩ := q1096
                      refine zj_iconst (zdk ttX7_readSingle 94 rfl rfl) ?_
                      have f1106 : zfC (w_X7_readSingle p1) h h1011 := zfC_t (zfC_r _ _) f1015 (fun a9 b9 z9 => by
                        rcases z9 with z9 | z9 | z9
                        · exact (Or.inl z9)
                        · exact (Or.inr (Or.inl (by omega)))
                        · exact (Or.inr (Or.inr (by omega))))
                      have f1105 : zfC (w_X7_readSingle p1) h h1083 := zfC_t f1106 f1087 (fun a9 b9 z9 => by
                        exact (Or.inl (by omega)))
                      have f1104 : zfC (w_X7_readSingle p1) h h1090 := zfC_t f1105 f1094 (fun a9 b9 z9 => by
                        rcases z9 with z9 | z9 | z9
                        · exact (Or.inl z9)
                        · exact (Or.inr (Or.inl (by omega)))
                        · exact (Or.inr (Or.inr (by omega))))
                      have f1103 : zfC (w_X7_readSingle p1) h h1098 := zfC_t f1104 f1102 (fun a9 b9 z9 => by
                        rcases z9 with z9 | z9
                        · exact (Or.inr (Or.inl (by omega)))
                        · exact (Or.inr (Or.inr (by omega))))
                      have b1107 : h1098.2 103 6 = (h1090.2 103 6) := (zfC_a f1102 (fun z9 => by unfold w_X3_put at z9; first | (revert z9; decide) | omega))
                      exact zj_zret rfl (zdk ttX7_readSingle 95 rfl rfl) (Nat.le_refl _) (Nat.le_refl _) (by omega) ⟨1, rfl, by omega, s1100, f1103, (by intro T P j t0 y0; have k0 := t0.2.2.1.2; have l0 := t0.2.2.2.1; have n0 := t0.2.2.2.1; obtain ⟨r_1j, r_1a, r_1l, r_1n, r_1r⟩ := (u1014 T P j t0 (by omega)).1 (by omega); have r_1q := r_1a.2.2.2.1; have k_2 := r_1a.2.2.1.2; have k_2l := r_1a.2.2.2.1; have c_3l := r_1n; have k_4 := r_1a.2.2.1.2; have k_4l := r_1a.2.2.2.1; have a_5 : tPo T P (r_1j + 1) h1083 := u1086 T P r_1j r_1a (by omega); have a_5q := a_5.2.2.2.1; have c_6l : h1083.2 p1 7 = h1011.2 p1 7 := (zfC_a f1087 (fun z9 => by unfold w_X6_pass at z9; first | (revert z9; decide) | omega)); have c_6e : tCd h1083 p1 = tCd h1011 p1 := (tCd_f (zfC_a f1087 (fun z9 => by unfold w_X6_pass at z9; first | (revert z9; decide) | omega)) (fun i => (zfC_a f1087 (fun z9 => by unfold w_X6_pass at z9; first | (revert z9; decide) | omega)))).trans rfl; obtain ⟨r_7j, r_7a, r_7l, r_7n, r_7r⟩ := (u1093 T P (r_1j + 1) a_5 (by omega)).1 (by omega); have r_7q := r_7a.2.2.2.1; have a_8 : tPo T P r_7j h1098 := tPo_f r_7a (fun i => (zfC_a f1102 (fun z9 => by unfold w_X3_put at z9; first | (revert z9; decide) | omega))) (fun i => (zfC_a f1102 (fun z9 => by unfold w_X3_put at z9; first | (revert z9; decide) | omega))) (zfC_a f1102 (fun z9 => by unfold w_X3_put at z9; first | (revert z9; decide) | omega)) (zfC_a f1102 (fun z9 => by unfold w_X3_put at z9; first | (revert z9; decide) | omega)) (zfC_a f1102 (fun z9 => by unfold w_X3_put at z9; first | (revert z9; decide) | omega)) (zfC_a f1102 (fun z9 => by unfold w_X3_put at z9; first | (revert z9; decide) | omega)) (zfC_a f1102 (fun z9 => by unfold w_X3_put at z9; first | (revert z9; decide) | omega)); have c_9l := r_7n; have c_10 := u1101 (by omega); have c_10l := c_10.2; have c_10e : tCd h1098 p1 = (20000 + (h1011.2 103 6)) :: tCd h1090 p1 := c_10.1.trans (congrArg _ (rfl : tCd h1090 p1 = tCd h1090 p1)); exact ⟨fun _ => ⟨r_7j, a_8, by omega, by omega, fun p9 s9 d9 o9 => tRe_k (tRe_s (tRe_t (tRe_k (tRe_s (tRe_t (tRe_1 (tM8_s (by omega))) (r_1r p9 (101 :: s9) d9)) (tM5_c (by omega))) c_6e.symm) (r_7r p9 (T r_1j :: s9) d9)) (tM5_r (by omega))) (by rw [c_10e]; congr 1; omega)⟩, fun z => absurd z (by omega)⟩)⟩
                    · refine zj_iconst (zdk ttX7_readSingle 87 rfl rfl) ?_
                      have f1110 : zfC (w_X7_readSingle p1) h h1011 := zfC_t (zfC_r _ _) f1015 (fun a9 b9 z9 => by
                        rcases z9 with z9 | z9 | z9
                        · exact (Or.inl z9)
                        · exact (Or.inr (Or.inl (by omega)))
                        · exact (Or.inr (Or.inr (by omega))))
                      have f1109 : zfC (w_X7_readSingle p1) h h1083 := zfC_t f1110 f1087 (fun a9 b9 z9 => by
                        exact (Or.inl (by omega)))
                      have f1108 : zfC (w_X7_readSingle p1) h h1090 := zfC_t f1109 f1094 (fun a9 b9 z9 => by
                        rcases z9 with z9 | z9 | z9
                        · exact (Or.inl z9)
                        · exact (Or.inr (Or.inl (by omega)))
                        · exact (Or.inr (Or.inr (by omega))))
                      exact zj_zret rfl (zdk ttX7_readSingle 88 rfl rfl) (Nat.le_refl _) (Nat.le_refl _) (by omega) ⟨0, rfl, by omega, s1092, f1108, (by intro T P j t0 y0; have k0 := t0.2.2.1.2; have l0 := t0.2.2.2.1; have n0 := t0.2.2.2.1; obtain ⟨r_1j, r_1a, r_1l, r_1n, r_1r⟩ := (u1014 T P j t0 (by omega)).1 (by omega); have r_1q := r_1a.2.2.2.1; have k_2 := r_1a.2.2.1.2; have k_2l := r_1a.2.2.2.1; have c_3l := r_1n; have k_4 := r_1a.2.2.1.2; have k_4l := r_1a.2.2.2.1; have a_5 : tPo T P (r_1j + 1) h1083 := u1086 T P r_1j r_1a (by omega); have a_5q := a_5.2.2.2.1; have c_6l : h1083.2 p1 7 = h1011.2 p1 7 := (zfC_a f1087 (fun z9 => by unfold w_X6_pass at z9; first | (revert z9; decide) | omega)); have c_6e : tCd h1083 p1 = tCd h1011 p1 := (tCd_f (zfC_a f1087 (fun z9 => by unfold w_X6_pass at z9; first | (revert z9; decide) | omega)) (fun i => (zfC_a f1087 (fun z9 => by unfold w_X6_pass at z9; first | (revert z9; decide) | omega)))).trans rfl; obtain ⟨e_7i, e_7f, e_7q, e_7r⟩ := (u1093 T P (r_1j + 1) a_5 (by omega)).2 (by omega); exact ⟨fun z => absurd z (by omega), fun _ => ⟨e_7i, e_7f, e_7q, fun p9 s9 d9 o9 => tRe_t (tRe_k (tRe_s (tRe_t (tRe_1 (tM8_s (by omega))) (r_1r p9 (101 :: s9) d9)) (tM5_c (by omega))) c_6e.symm) (e_7r p9 (T r_1j :: s9) d9)⟩⟩)⟩
                  · refine zj_aload_n (zdk ttX7_readSingle 75 rfl rfl) rfl (by decide) ?_
                    refine zj_getr (r := 103) (zdk ttX7_readSingle 76 rfl rfl) zf_RX7_9 rfl (k_L107 s1013) (rf_L107_0 s1013) ?_
                    refine zj_iconst (zdk ttX7_readSingle 77 rfl rfl) ?_
                    refine zj_callV (av := [.inl 1]) (st := []) (zdk ttX7_readSingle 78 rfl rfl) mb_X6_refuse mv_RX7_81 (ci := 6) rfl rfl (k_L103 s1013) rfl rfl (Nat.le_of_ble_eq_true rfl) (s2_X6_refuse l h1011 1 s1013 (by omega)) (rm_ok (by omega) (by decide)) (zq_i fun v1112 h1113 q1111 => ?_)
                    obtain ⟨b1114, s1115, f1117, u1116⟩ := q1111
                    have f1119 : zfC (w_X7_readSingle p1) h h1011 := zfC_t (zfC_r _ _) f1015 (fun a9 b9 z9 => by
                      rcases z9 with z9 | z9 | z9
                      · exact (Or.inl z9)
                      · exact (Or.inr (Or.inl (by omega)))
                      · exact (Or.inr (Or.inr (by omega))))
                    have f1118 : zfC (w_X7_readSingle p1) h h1113 := zfC_t f1119 f1117 (fun a9 b9 z9 => by
                      exact (Or.inl (by omega)))
                    have b1120 : h1113.2 103 6 = (h1011.2 103 6) := (zfC_a f1117 (fun z9 => by unfold w_X6_refuse at z9; first | (revert z9; decide) | omega))
                    exact zj_zret rfl (zdk ttX7_readSingle 79 rfl rfl) (Nat.le_refl _) (Nat.le_refl _) (by omega) ⟨v1112, rfl, by omega, s1115, f1118, (by intro T P j t0 y0; have k0 := t0.2.2.1.2; have l0 := t0.2.2.2.1; have n0 := t0.2.2.2.1; obtain ⟨r_1j, r_1a, r_1l, r_1n, r_1r⟩ := (u1014 T P j t0 (by omega)).1 (by omega); have r_1q := r_1a.2.2.2.1; have k_2 := r_1a.2.2.1.2; have k_2l := r_1a.2.2.2.1; have c_3l := r_1n; have e_4 := u1116 T P r_1j r_1a; exact ⟨fun z => absurd z (by omega), fun _ => ⟨r_1j, _, e_4, fun p9 s9 d9 o9 => tRe_s (tRe_t (tRe_1 (tM8_s (by omega))) (r_1r p9 (101 :: s9) d9)) (tM5_n (by omega))⟩⟩)⟩
            · refine zj_iconst (zdk ttX7_readSingle 60 rfl rfl) ?_
              have f1121 : zfC (w_X7_readSingle p1) h h1011 := zfC_t (zfC_r _ _) f1015 (fun a9 b9 z9 => by
                rcases z9 with z9 | z9 | z9
                · exact (Or.inl z9)
                · exact (Or.inr (Or.inl (by omega)))
                · exact (Or.inr (Or.inr (by omega))))
              exact zj_zret rfl (zdk ttX7_readSingle 61 rfl rfl) (Nat.le_refl _) (Nat.le_refl _) (by omega) ⟨0, rfl, by omega, s1013, f1121, (by intro T P j t0 y0; have k0 := t0.2.2.1.2; have l0 := t0.2.2.2.1; have n0 := t0.2.2.2.1; obtain ⟨e_1i, e_1f, e_1q, e_1r⟩ := (u1014 T P j t0 (by omega)).2 (by omega); exact ⟨fun z => absurd z (by omega), fun _ => ⟨e_1i, e_1f, e_1q, fun p9 s9 d9 o9 => tRe_t (tRe_1 (tM8_s (by omega))) (e_1r p9 (101 :: s9) d9)⟩⟩)⟩
          · refine zj_iload_n (zdk ttX7_readSingle 13 rfl rfl) rfl ?_
            refine zj_bipush (zdk ttX7_readSingle 14 rfl rfl) (by decide) ?_
            refine zj_icmp_lt (t := 43) (zdk ttX7_readSingle 15 rfl rfl) (by decide) (by omega) (by decide) (fun c1122 => ?_) (fun c1122 => ?_)
            · refine zj_aload_n (zdk ttX7_readSingle 21 rfl rfl) rfl (by decide) ?_
              refine zj_getr (r := 103) (zdk ttX7_readSingle 22 rfl rfl) zf_RX7_9 rfl (k_L107 s0) (rf_L107_0 s0) ?_
              refine zj_callV (av := []) (st := []) (zdk ttX7_readSingle 23 rfl rfl) mb_X6_pass mv_RX7_47 (ci := 6) rfl rfl (k_L103 s0) rfl rfl (Nat.le_of_ble_eq_true rfl) (s2_X6_pass l h s0) (rm_ok (by omega) (by decide)) (zq_v fun h1125 q1123 => ?_)
              obtain ⟨s1127, f1129, u1128⟩ := q1123
              refine zj_iload_n (zdk ttX7_readSingle 24 rfl rfl) rfl ?_
              refine zj_if_ne (t := 83) (zdk ttX7_readSingle 25 rfl rfl) (by decide) (by decide) (fun c1130 => ?_) (fun c1130 => ?_)
              · exact absurd c1130 (by omega)
              · refine zj_aload_n (zdk ttX7_readSingle 26 rfl rfl) rfl (by decide) ?_
                refine zj_aload_n (zdk ttX7_readSingle 27 rfl rfl) rfl (by omega) ?_
                refine zj_iload_n (zdk ttX7_readSingle 28 rfl rfl) rfl ?_
                refine zj_iconst (zdk ttX7_readSingle 29 rfl rfl) ?_
                refine zj_iadd (zdk ttX7_readSingle 30 rfl rfl) ?_
                refine zj_callV (av := [.inr p1, .inl (p2 + 1)]) (st := []) (zdk ttX7_readSingle 31 rfl rfl) mb_X7_readChoice mv_RX7_64 (ci := 7) rfl rfl (k_L107 s1127) rfl rfl (Nat.le_of_ble_eq_true rfl) (ihr.2 h1125 p1 (p2 + 1) s1127 r_p1 (by omega) (by omega)) (rm_ok (by omega) (by decide)) (zq_i fun v1132 h1133 q1131 => ?_)
                obtain ⟨b1134, s1135, f1137, u1136⟩ := q1131
                refine zj_if_eq (t := 81) (zdk ttX7_readSingle 32 rfl rfl) (by decide) (by omega) (fun c1138 => ?_) (fun c1138 => ?_)
                · refine zj_iconst (zdk ttX7_readSingle 40 rfl rfl) ?_
                  have f1140 : zfC (w_X7_readSingle p1) h h1125 := zfC_t (zfC_r _ _) f1129 (fun a9 b9 z9 => by
                    exact (Or.inl (by omega)))
                  have f1139 : zfC (w_X7_readSingle p1) h h1133 := zfC_t f1140 f1137 (fun a9 b9 z9 => by
                    rcases z9 with z9 | z9 | z9
                    · exact (Or.inl z9)
                    · exact (Or.inr (Or.inl (by omega)))
                    · exact (Or.inr (Or.inr (by omega))))
                  exact zj_zret rfl (zdk ttX7_readSingle 41 rfl rfl) (Nat.le_refl _) (Nat.le_refl _) (by omega) ⟨0, rfl, by omega, s1135, f1139, (by intro T P j t0 y0; have k0 := t0.2.2.1.2; have l0 := t0.2.2.2.1; have n0 := t0.2.2.2.1; have k_1 := t0.2.2.1.2; have k_1l := t0.2.2.2.1; have a_2 : tPo T P (j + 1) h1125 := u1128 T P j t0 (by omega); have a_2q := a_2.2.2.2.1; have c_3l : h1125.2 p1 7 = h.2 p1 7 := (zfC_a f1129 (fun z9 => by unfold w_X6_pass at z9; first | (revert z9; decide) | omega)); have c_3e : tCd h1125 p1 = tCd h p1 := (tCd_f (zfC_a f1129 (fun z9 => by unfold w_X6_pass at z9; first | (revert z9; decide) | omega)) (fun i => (zfC_a f1129 (fun z9 => by unfold w_X6_pass at z9; first | (revert z9; decide) | omega)))).trans rfl; obtain ⟨e_4i, e_4f, e_4q, e_4r⟩ := (u1136 T P (j + 1) a_2 (by omega)).2 (by omega); exact ⟨fun z => absurd z (by omega), fun _ => ⟨e_4i, e_4f, e_4q, fun p9 s9 d9 o9 => (tRe_t (tRe_k (tRe_1 (tM8_b (by omega) (by omega))) c_3e.symm) (e_4r p9 (12 :: s9) d9 (by rw [tOpn_12]; omega) (Or.inr rfl)))⟩⟩)⟩
                · refine zj_aload_n (zdk ttX7_readSingle 33 rfl rfl) rfl (by decide) ?_
                  refine zj_getr (r := 103) (zdk ttX7_readSingle 34 rfl rfl) zf_RX7_9 rfl (k_L107 s1135) (rf_L107_0 s1135) ?_
                  refine zj_bipush (zdk ttX7_readSingle 35 rfl rfl) (by decide) ?_
                  refine zj_callV (av := [.inl 41]) (st := []) (zdk ttX7_readSingle 36 rfl rfl) mb_X6_takes mv_RX7_70 (ci := 6) rfl rfl (k_L103 s1135) rfl rfl (Nat.le_of_ble_eq_true rfl) (s2_X6_takes l h1133 41 s1135 (by omega)) (rm_ok (by omega) (by decide)) (zq_i fun v1142 h1143 q1141 => ?_)
                  obtain ⟨b1144, s1145, f1147, u1146⟩ := q1141
                  refine zj_if_eq (t := 81) (zdk ttX7_readSingle 37 rfl rfl) (by decide) (by omega) (fun c1148 => ?_) (fun c1148 => ?_)
                  · refine zj_iconst (zdk ttX7_readSingle 40 rfl rfl) ?_
                    have f1151 : zfC (w_X7_readSingle p1) h h1125 := zfC_t (zfC_r _ _) f1129 (fun a9 b9 z9 => by
                      exact (Or.inl (by omega)))
                    have f1150 : zfC (w_X7_readSingle p1) h h1133 := zfC_t f1151 f1137 (fun a9 b9 z9 => by
                      rcases z9 with z9 | z9 | z9
                      · exact (Or.inl z9)
                      · exact (Or.inr (Or.inl (by omega)))
                      · exact (Or.inr (Or.inr (by omega))))
                    have f1149 : zfC (w_X7_readSingle p1) h h1143 := zfC_t f1150 f1147 (fun a9 b9 z9 => by
                      exact (Or.inl z9))
                    exact zj_zret rfl (zdk ttX7_readSingle 41 rfl rfl) (Nat.le_refl _) (Nat.le_refl _) (by omega) ⟨0, rfl, by omega, s1145, f1149, (by intro T P j t0 y0; have k0 := t0.2.2.1.2; have l0 := t0.2.2.2.1; have n0 := t0.2.2.2.1; have k_1 := t0.2.2.1.2; have k_1l := t0.2.2.2.1; have a_2 : tPo T P (j + 1) h1125 := u1128 T P j t0 (by omega); have a_2q := a_2.2.2.2.1; have c_3l : h1125.2 p1 7 = h.2 p1 7 := (zfC_a f1129 (fun z9 => by unfold w_X6_pass at z9; first | (revert z9; decide) | omega)); have c_3e : tCd h1125 p1 = tCd h p1 := (tCd_f (zfC_a f1129 (fun z9 => by unfold w_X6_pass at z9; first | (revert z9; decide) | omega)) (fun i => (zfC_a f1129 (fun z9 => by unfold w_X6_pass at z9; first | (revert z9; decide) | omega)))).trans rfl; obtain ⟨r_4j, r_4a, r_4l, r_4n, r_4r⟩ := (u1136 T P (j + 1) a_2 (by omega)).1 (by omega); have r_4q := r_4a.2.2.2.1; have c_5l := r_4n; have e_6 := (u1146 T P r_4j r_4a).2 (by omega); exact ⟨fun z => absurd z (by omega), fun _ => ⟨r_4j, _, e_6.2, fun p9 s9 d9 o9 => tRe_s (tRe_t (tRe_k (tRe_1 (tM8_b (by omega) (by omega))) c_3e.symm) (r_4r p9 (12 :: s9) d9 (by rw [tOpn_12]; omega) (Or.inr rfl))) (tM12_n e_6.1)⟩⟩)⟩
                  · refine zj_iconst (zdk ttX7_readSingle 38 rfl rfl) ?_
                    refine zj_goto (t := 82) (zdk ttX7_readSingle 39 rfl rfl) (by decide) ?_
                    have f1154 : zfC (w_X7_readSingle p1) h h1125 := zfC_t (zfC_r _ _) f1129 (fun a9 b9 z9 => by
                      exact (Or.inl (by omega)))
                    have f1153 : zfC (w_X7_readSingle p1) h h1133 := zfC_t f1154 f1137 (fun a9 b9 z9 => by
                      rcases z9 with z9 | z9 | z9
                      · exact (Or.inl z9)
                      · exact (Or.inr (Or.inl (by omega)))
                      · exact (Or.inr (Or.inr (by omega))))
                    have f1152 : zfC (w_X7_readSingle p1) h h1143 := zfC_t f1153 f1147 (fun a9 b9 z9 => by
                      exact (Or.inl z9))
                    exact zj_zret rfl (zdk ttX7_readSingle 41 rfl rfl) (Nat.le_refl _) (Nat.le_refl _) (by omega) ⟨1, rfl, by omega, s1145, f1152, (by intro T P j t0 y0; have k0 := t0.2.2.1.2; have l0 := t0.2.2.2.1; have n0 := t0.2.2.2.1; have k_1 := t0.2.2.1.2; have k_1l := t0.2.2.2.1; have a_2 : tPo T P (j + 1) h1125 := u1128 T P j t0 (by omega); have a_2q := a_2.2.2.2.1; have c_3l : h1125.2 p1 7 = h.2 p1 7 := (zfC_a f1129 (fun z9 => by unfold w_X6_pass at z9; first | (revert z9; decide) | omega)); have c_3e : tCd h1125 p1 = tCd h p1 := (tCd_f (zfC_a f1129 (fun z9 => by unfold w_X6_pass at z9; first | (revert z9; decide) | omega)) (fun i => (zfC_a f1129 (fun z9 => by unfold w_X6_pass at z9; first | (revert z9; decide) | omega)))).trans rfl; obtain ⟨r_4j, r_4a, r_4l, r_4n, r_4r⟩ := (u1136 T P (j + 1) a_2 (by omega)).1 (by omega); have r_4q := r_4a.2.2.2.1; have c_5l := r_4n; have r_6 := (u1146 T P r_4j r_4a).1 (by omega); have r_6a : tPo T P (r_4j + 1) h1143 := (r_6.2 (by omega)); have c_7l : h1143.2 p1 7 = h1133.2 p1 7 := (zfC_a f1147 (fun z9 => by unfold w_X6_takes at z9; first | (revert z9; decide) | omega)); have c_7e : tCd h1143 p1 = tCd h1133 p1 := (tCd_f (zfC_a f1147 (fun z9 => by unfold w_X6_takes at z9; first | (revert z9; decide) | omega)) (fun i => (zfC_a f1147 (fun z9 => by unfold w_X6_takes at z9; first | (revert z9; decide) | omega)))).trans rfl; exact ⟨fun _ => ⟨(r_4j + 1), r_6a, by omega, by omega, fun p9 s9 d9 o9 => tRe_k (tRe_s (tRe_t (tRe_k (tRe_1 (tM8_b (by omega) (by omega))) c_3e.symm) (r_4r p9 (12 :: s9) d9 (by rw [tOpn_12]; omega) (Or.inr rfl))) (tM12_y r_6.1)) c_7e.symm⟩, fun z => absurd z (by omega)⟩)⟩
            · refine zj_aload_n (zdk ttX7_readSingle 16 rfl rfl) rfl (by decide) ?_
              refine zj_getr (r := 103) (zdk ttX7_readSingle 17 rfl rfl) zf_RX7_9 rfl (k_L107 s0) (rf_L107_0 s0) ?_
              refine zj_iconst (zdk ttX7_readSingle 18 rfl rfl) ?_
              refine zj_callV (av := [.inl 3]) (st := []) (zdk ttX7_readSingle 19 rfl rfl) mb_X6_refuse mv_RX7_81 (ci := 6) rfl rfl (k_L103 s0) rfl rfl (Nat.le_of_ble_eq_true rfl) (s2_X6_refuse l h 3 s0 (by omega)) (rm_ok (by omega) (by decide)) (zq_i fun v1156 h1157 q1155 => ?_)
              obtain ⟨b1158, s1159, f1161, u1160⟩ := q1155
              have f1162 : zfC (w_X7_readSingle p1) h h1157 := zfC_t (zfC_r _ _) f1161 (fun a9 b9 z9 => by
                exact (Or.inl (by omega)))
              have b1163 : h1157.2 103 6 = (h.2 103 6) := (zfC_a f1161 (fun z9 => by unfold w_X6_refuse at z9; first | (revert z9; decide) | omega))
              exact zj_zret rfl (zdk ttX7_readSingle 20 rfl rfl) (Nat.le_refl _) (Nat.le_refl _) (by omega) ⟨v1156, rfl, by omega, s1159, f1162, (by intro T P j t0 y0; have k0 := t0.2.2.1.2; have l0 := t0.2.2.2.1; have n0 := t0.2.2.2.1; have e_1 := u1160 T P j t0; exact ⟨fun z => absurd z (by omega), fun _ => ⟨j, _, e_1, fun p9 s9 d9 o9 => tRe_1 (tM8_3 (by omega) (by omega))⟩⟩)⟩
      · refine zj_istore_n (L' := [some (.inr 107), some (.inr p1), some (.inl p2), some (.inl 1), none]) (zdk ttX7_readSingle 5 rfl rfl) (by decide) rfl ?_
        refine zj_iload_n (zdk ttX7_readSingle 6 rfl rfl) rfl ?_
        refine zj_if_ne (t := 28) (zdk ttX7_readSingle 7 rfl rfl) (by decide) (by decide) (fun c1164 => ?_) (fun c1164 => ?_)
        · refine zj_iload_n (zdk ttX7_readSingle 13 rfl rfl) rfl ?_
          refine zj_bipush (zdk ttX7_readSingle 14 rfl rfl) (by decide) ?_
          refine zj_icmp_lt (t := 43) (zdk ttX7_readSingle 15 rfl rfl) (by decide) (by omega) (by decide) (fun c1165 => ?_) (fun c1165 => ?_)
          · refine zj_aload_n (zdk ttX7_readSingle 21 rfl rfl) rfl (by decide) ?_
            refine zj_getr (r := 103) (zdk ttX7_readSingle 22 rfl rfl) zf_RX7_9 rfl (k_L107 s0) (rf_L107_0 s0) ?_
            refine zj_callV (av := []) (st := []) (zdk ttX7_readSingle 23 rfl rfl) mb_X6_pass mv_RX7_47 (ci := 6) rfl rfl (k_L103 s0) rfl rfl (Nat.le_of_ble_eq_true rfl) (s2_X6_pass l h s0) (rm_ok (by omega) (by decide)) (zq_v fun h1168 q1166 => ?_)
            obtain ⟨s1170, f1172, u1171⟩ := q1166
            refine zj_iload_n (zdk ttX7_readSingle 24 rfl rfl) rfl ?_
            refine zj_if_ne (t := 83) (zdk ttX7_readSingle 25 rfl rfl) (by decide) (by decide) (fun c1173 => ?_) (fun c1173 => ?_)
            · refine zj_aload_n (zdk ttX7_readSingle 42 rfl rfl) rfl (by decide) ?_
              refine zj_aload_n (zdk ttX7_readSingle 43 rfl rfl) rfl (by omega) ?_
              refine zj_iload_n (zdk ttX7_readSingle 44 rfl rfl) rfl ?_
              refine zj_iconst (zdk ttX7_readSingle 45 rfl rfl) ?_
              refine zj_iadd (zdk ttX7_readSingle 46 rfl rfl) ?_
              refine zj_callV (av := [.inr p1, .inl (p2 + 1)]) (st := []) (zdk ttX7_readSingle 47 rfl rfl) mb_X7_readSingle mv_RX7_74 (ci := 7) rfl rfl (k_L107 s1170) rfl rfl (Nat.le_of_ble_eq_true rfl) (ihr.1 h1168 p1 (p2 + 1) s1170 r_p1 (by omega) (by omega)) (rm_ok (by omega) (by decide)) (zq_i fun v1175 h1176 q1174 => ?_)
              obtain ⟨b1177, s1178, f1180, u1179⟩ := q1174
              refine zj_if_ne (t := 96) (zdk ttX7_readSingle 48 rfl rfl) (by decide) (by omega) (fun c1181 => ?_) (fun c1181 => ?_)
              · refine zj_aload_n (zdk ttX7_readSingle 51 rfl rfl) rfl (by omega) ?_
                refine zj_sipush (zdk ttX7_readSingle 52 rfl rfl) (by decide) ?_
                refine zj_callV (av := [.inl 20006]) (st := []) (zdk ttX7_readSingle 53 rfl rfl) mb_X3_put mv_RX7_77 (ci := 3) rfl rfl (k_3_0 s1178 r_p1) rfl rfl (Nat.le_of_ble_eq_true rfl) (s2_X3_put l h1176 p1 20006 s1178 r_p1 (by omega)) (rm_ok (by omega) (by decide)) (zq_v fun h1184 q1182 => ?_)
                obtain ⟨s1186, f1188, u1187⟩ := q1182
                refine zj_iconst (zdk ttX7_readSingle 54 rfl rfl) ?_
                have f1191 : zfC (w_X7_readSingle p1) h h1168 := zfC_t (zfC_r _ _) f1172 (fun a9 b9 z9 => by
                  exact (Or.inl (by omega)))
                have f1190 : zfC (w_X7_readSingle p1) h h1176 := zfC_t f1191 f1180 (fun a9 b9 z9 => by
                  rcases z9 with z9 | z9 | z9
                  · exact (Or.inl z9)
                  · exact (Or.inr (Or.inl (by omega)))
                  · exact (Or.inr (Or.inr (by omega))))
                have f1189 : zfC (w_X7_readSingle p1) h h1184 := zfC_t f1190 f1188 (fun a9 b9 z9 => by
                  rcases z9 with z9 | z9
                  · exact (Or.inr (Or.inl (by omega)))
                  · exact (Or.inr (Or.inr (by omega))))
                have b1192 : h1184.2 103 6 = (h1176.2 103 6) := (zfC_a f1188 (fun z9 => by unfold w_X3_put at z9; first | (revert z9; decide) | omega))
                exact zj_zret rfl (zdk ttX7_readSingle 55 rfl rfl) (Nat.le_refl _) (Nat.le_refl _) (by omega) ⟨1, rfl, by omega, s1186, f1189, (by intro T P j t0 y0; have k0 := t0.2.2.1.2; have l0 := t0.2.2.2.1; have n0 := t0.2.2.2.1; have k_1 := t0.2.2.1.2; have k_1l := t0.2.2.2.1; have a_2 : tPo T P (j + 1) h1168 := u1171 T P j t0 (by omega); have a_2q := a_2.2.2.2.1; have c_3l : h1168.2 p1 7 = h.2 p1 7 := (zfC_a f1172 (fun z9 => by unfold w_X6_pass at z9; first | (revert z9; decide) | omega)); have c_3e : tCd h1168 p1 = tCd h p1 := (tCd_f (zfC_a f1172 (fun z9 => by unfold w_X6_pass at z9; first | (revert z9; decide) | omega)) (fun i => (zfC_a f1172 (fun z9 => by unfold w_X6_pass at z9; first | (revert z9; decide) | omega)))).trans rfl; obtain ⟨r_4j, r_4a, r_4l, r_4n, r_4r⟩ := (u1179 T P (j + 1) a_2 (by omega)).1 (by omega); have r_4q := r_4a.2.2.2.1; have a_5 : tPo T P r_4j h1184 := tPo_f r_4a (fun i => (zfC_a f1188 (fun z9 => by unfold w_X3_put at z9; first | (revert z9; decide) | omega))) (fun i => (zfC_a f1188 (fun z9 => by unfold w_X3_put at z9; first | (revert z9; decide) | omega))) (zfC_a f1188 (fun z9 => by unfold w_X3_put at z9; first | (revert z9; decide) | omega)) (zfC_a f1188 (fun z9 => by unfold w_X3_put at z9; first | (revert z9; decide) | omega)) (zfC_a f1188 (fun z9 => by unfold w_X3_put at z9; first | (revert z9; decide) | omega)) (zfC_a f1188 (fun z9 => by unfold w_X3_put at z9; first | (revert z9; decide) | omega)) (zfC_a f1188 (fun z9 => by unfold w_X3_put at z9; first | (revert z9; decide) | omega)); have c_6l := r_4n; have c_7 := u1187 (by omega); have c_7l := c_7.2; have c_7e : tCd h1184 p1 = 20006 :: tCd h1176 p1 := c_7.1.trans (congrArg _ (rfl : tCd h1176 p1 = tCd h1176 p1)); exact ⟨fun _ => ⟨r_4j, a_5, by omega, by omega, fun p9 s9 d9 o9 => tRe_k (tRe_s (tRe_t (tRe_k (tRe_1 (tM8_n (by omega) (by omega))) c_3e.symm) (r_4r p9 (9 :: s9) d9 (by rw [tOpn_9]; omega))) tM9_n) c_7e.symm⟩, fun z => absurd z (by omega)⟩)⟩
              · refine zj_iconst (zdk ttX7_readSingle 49 rfl rfl) ?_
                have f1194 : zfC (w_X7_readSingle p1) h h1168 := zfC_t (zfC_r _ _) f1172 (fun a9 b9 z9 => by
                  exact (Or.inl (by omega)))
                have f1193 : zfC (w_X7_readSingle p1) h h1176 := zfC_t f1194 f1180 (fun a9 b9 z9 => by
                  rcases z9 with z9 | z9 | z9
                  · exact (Or.inl z9)
                  · exact (Or.inr (Or.inl (by omega)))
                  · exact (Or.inr (Or.inr (by omega))))
                exact zj_zret rfl (zdk ttX7_readSingle 50 rfl rfl) (Nat.le_refl _) (Nat.le_refl _) (by omega) ⟨0, rfl, by omega, s1178, f1193, (by intro T P j t0 y0; have k0 := t0.2.2.1.2; have l0 := t0.2.2.2.1; have n0 := t0.2.2.2.1; have k_1 := t0.2.2.1.2; have k_1l := t0.2.2.2.1; have a_2 : tPo T P (j + 1) h1168 := u1171 T P j t0 (by omega); have a_2q := a_2.2.2.2.1; have c_3l : h1168.2 p1 7 = h.2 p1 7 := (zfC_a f1172 (fun z9 => by unfold w_X6_pass at z9; first | (revert z9; decide) | omega)); have c_3e : tCd h1168 p1 = tCd h p1 := (tCd_f (zfC_a f1172 (fun z9 => by unfold w_X6_pass at z9; first | (revert z9; decide) | omega)) (fun i => (zfC_a f1172 (fun z9 => by unfold w_X6_pass at z9; first | (revert z9; decide) | omega)))).trans rfl; obtain ⟨e_4i, e_4f, e_4q, e_4r⟩ := (u1179 T P (j + 1) a_2 (by omega)).2 (by omega); exact ⟨fun z => absurd z (by omega), fun _ => ⟨e_4i, e_4f, e_4q, fun p9 s9 d9 o9 => (tRe_t (tRe_k (tRe_1 (tM8_n (by omega) (by omega))) c_3e.symm) (e_4r p9 (9 :: s9) d9 (by rw [tOpn_9]; omega)))⟩⟩)⟩
            · exact absurd c1173 (by omega)
          · refine zj_aload_n (zdk ttX7_readSingle 16 rfl rfl) rfl (by decide) ?_
            refine zj_getr (r := 103) (zdk ttX7_readSingle 17 rfl rfl) zf_RX7_9 rfl (k_L107 s0) (rf_L107_0 s0) ?_
            refine zj_iconst (zdk ttX7_readSingle 18 rfl rfl) ?_
            refine zj_callV (av := [.inl 3]) (st := []) (zdk ttX7_readSingle 19 rfl rfl) mb_X6_refuse mv_RX7_81 (ci := 6) rfl rfl (k_L103 s0) rfl rfl (Nat.le_of_ble_eq_true rfl) (s2_X6_refuse l h 3 s0 (by omega)) (rm_ok (by omega) (by decide)) (zq_i fun v1196 h1197 q1195 => ?_)
            obtain ⟨b1198, s1199, f1201, u1200⟩ := q1195
            have f1202 : zfC (w_X7_readSingle p1) h h1197 := zfC_t (zfC_r _ _) f1201 (fun a9 b9 z9 => by
              exact (Or.inl (by omega)))
            have b1203 : h1197.2 103 6 = (h.2 103 6) := (zfC_a f1201 (fun z9 => by unfold w_X6_refuse at z9; first | (revert z9; decide) | omega))
            exact zj_zret rfl (zdk ttX7_readSingle 20 rfl rfl) (Nat.le_refl _) (Nat.le_refl _) (by omega) ⟨v1196, rfl, by omega, s1199, f1202, (by intro T P j t0 y0; have k0 := t0.2.2.1.2; have l0 := t0.2.2.2.1; have n0 := t0.2.2.2.1; have e_1 := u1200 T P j t0; exact ⟨fun z => absurd z (by omega), fun _ => ⟨j, _, e_1, fun p9 s9 d9 o9 => tRe_1 (tM8_3 (by omega) (by omega))⟩⟩)⟩
        · exact absurd c1164 (by omega)
    have hr1 : ∀ (h : zM) (p1 p2 : Int), (okC h) → (zLw p1) → (0 ≤ p2 ∧ p2 ≤ 8) → (9 - p2).toNat < (n0 + 1) → zT shC l yX7_readChoice cX7_readChoice 6 (some .boolean) (rmL (8 + 2 * (n0 + 1) + 1)) 0 0 [.inr 107, .inr p1, .inl p2] h (q2_X7_readChoice h p1 p2) := by
      intro h p1 p2 s0 r_p1 b_p2 hm0
      refine zT_of (by decide +kernel) (L0 := [some (.inr 107), some (.inr p1), some (.inl p2), none, none, none]) rfl (Nat.le_of_ble_eq_true rfl) ?_
      have b2001 := zLw_b r_p1
      refine zj_aload_n (zdk ttX7_readChoice 0 rfl rfl) rfl (by decide) ?_
      refine zj_aload_n (zdk ttX7_readChoice 1 rfl rfl) rfl (by omega) ?_
      refine zj_iload_n (zdk ttX7_readChoice 2 rfl rfl) rfl ?_
      refine zj_callV (av := [.inr p1, .inl p2]) (st := []) (zdk ttX7_readChoice 3 rfl rfl) mb_X7_readSingle mv_RX7_74 (ci := 7) rfl rfl (k_L107 s0) rfl rfl (Nat.le_of_ble_eq_true rfl) (hr0 h p1 p2 s0 r_p1 (by omega) (by omega)) (rm_ok (by omega) (by decide)) (zq_i fun v2003 h2004 q2002 => ?_)
      obtain ⟨b2005, s2006, f2008, u2007⟩ := q2002
      refine zj_if_ne (t := 11) (zdk ttX7_readChoice 4 rfl rfl) (by decide) (by omega) (fun c2009 => ?_) (fun c2009 => ?_)
      · refine zj_iconst (zdk ttX7_readChoice 7 rfl rfl) ?_
        refine zj_istore_n (L' := [some (.inr 107), some (.inr p1), some (.inl p2), some (.inl 0), none, none]) (zdk ttX7_readChoice 8 rfl rfl) (by decide) rfl ?_
        refine zj_iconst (zdk ttX7_readChoice 9 rfl rfl) ?_
        refine zj_istore (L' := [some (.inr 107), some (.inr p1), some (.inl p2), some (.inl 0), some (.inl 0), none]) (zdk ttX7_readChoice 10 rfl rfl) (by decide) rfl ?_
        have lp2103 : ∀ (n : Nat) (x2010 x2011 : Int) (h2012 : zM), (0 ≤ x2010 ∧ x2010 ≤ 1) → (0 ≤ x2011 ∧ x2011 ≤ 400) → okC h2012 → zfC (w_X7_readChoice p1) h h2012 → (∀ T P j, tPo T P j h → h.2 p1 7 ≤ j → ∃ j9, tPo T P j9 h2012 ∧ (x2011 + 1 ≤ j9 ∧ j < j9) ∧ (x2010 = 0 → h2012.2 p1 7 - h.2 p1 7 ≤ j9 - j) ∧ (¬ x2010 = 0 → h2012.2 p1 7 - h.2 p1 7 + 1 ≤ j9 - j) ∧ ∀ p9 s9 d9, tOpn s9 = p2 → (tHd s9 = 90 ∨ tHd s9 = 12) → tRe T p9 (8, j, 0, s9, tCd h p1, d9) (11, j9, 0, if x2010 = 0 then s9 else 11 :: s9, tCd h2012 p1, d9)) → (401 - x2011).toNat < n → zJ shC l yX7_readChoice cX7_readChoice 6 (some .boolean) (rmL (8 + 2 * (n0 + 1) + 1)) 0 0 (q2_X7_readChoice h p1 p2) 0 0 16 [some (.inr 107), some (.inr p1), some (.inl p2), some (.inl x2010), some (.inl x2011), none] [] h2012 := by
          intro n
          induction n with
          | zero => intro x2010 x2011 h2012 b2104 b2105 s2013 f2014 u2106 m2107; exact absurd m2107 (Nat.not_lt_zero _)
          | succ n ih2108 =>
            intro x2010 x2011 h2012 b2104 b2105 s2013 f2014 u2106 m2107
            refine zj_iload (zdk ttX7_readChoice 11 rfl rfl) rfl ?_
            refine zj_sipush (zdk ttX7_readChoice 12 rfl rfl) (by decide) ?_
            refine zj_icmp_ge (t := 111) (zdk ttX7_readChoice 13 rfl rfl) (by decide) (by omega) (by decide) (fun c2109 => ?_) (fun c2109 => ?_)
            · refine zj_aload_n (zdk ttX7_readChoice 57 rfl rfl) rfl (by decide) ?_
              refine zj_getr (r := 103) (zdk ttX7_readChoice 58 rfl rfl) zf_RX7_9 rfl (k_L107 s2013) (rf_L107_0 s2013) ?_
              refine zj_iconst (zdk ttX7_readChoice 59 rfl rfl) ?_
              refine zj_callV (av := [.inl 1]) (st := []) (zdk ttX7_readChoice 60 rfl rfl) mb_X6_refuse mv_RX7_81 (ci := 6) rfl rfl (k_L103 s2013) rfl rfl (Nat.le_of_ble_eq_true rfl) (s2_X6_refuse l h2012 1 s2013 (by omega)) (rm_ok (by omega) (by decide)) (zq_i fun v2111 h2112 q2110 => ?_)
              obtain ⟨b2113, s2114, f2116, u2115⟩ := q2110
              have f2117 : zfC (w_X7_readChoice p1) h h2112 := zfC_t f2014 f2116 (fun a9 b9 z9 => by
                exact (Or.inl (by omega)))
              have b2118 : h2112.2 103 6 = (h2012.2 103 6) := (zfC_a f2116 (fun z9 => by unfold w_X6_refuse at z9; first | (revert z9; decide) | omega))
              exact zj_zret rfl (zdk ttX7_readChoice 61 rfl rfl) (Nat.le_refl _) (Nat.le_refl _) (by omega) ⟨v2111, rfl, by omega, s2114, f2117, (by intro T P j t0 y0; have k0 := t0.2.2.1.2; have l0 := t0.2.2.2.1; have n0 := t0.2.2.2.1; obtain ⟨x_1j, x_1a, x_1l, x_1n, x_1m, x_1r⟩ := u2106 T P j t0 y0; have k_2 := x_1a.2.2.1.2; have k_2l := x_1a.2.2.2.1; exact absurd l0 (by omega))⟩
            · refine zj_aload_n (zdk ttX7_readChoice 14 rfl rfl) rfl (by decide) ?_
              refine zj_getr (r := 103) (zdk ttX7_readChoice 15 rfl rfl) zf_RX7_9 rfl (k_L107 s2013) (rf_L107_0 s2013) ?_
              refine zj_iconst (zdk ttX7_readChoice 16 rfl rfl) ?_
              refine zj_iconst (zdk ttX7_readChoice 17 rfl rfl) ?_
              refine zj_callV (av := [.inl 5, .inl 5]) (st := []) (zdk ttX7_readChoice 18 rfl rfl) mb_X6_isWord mv_RX7_60 (ci := 6) rfl rfl (k_L103 s2013) rfl rfl (Nat.le_of_ble_eq_true rfl) (s_X6_isWord l h2012 5 5 s2013 (by omega) (by omega)) (rm_ok (by omega) (by decide)) (zq_i fun v2120 h2121 q2119 => ?_)
              obtain ⟨rfl, b2123, ⟨rfl, b2122⟩ | ⟨rfl, b2122⟩⟩ := q2119
              · refine zj_istore (L' := [some (.inr 107), some (.inr p1), some (.inl p2), some (.inl x2010), some (.inl x2011), some (.inl 0)]) (zdk ttX7_readChoice 19 rfl rfl) (by decide) rfl ?_
                refine zj_iload (zdk ttX7_readChoice 20 rfl rfl) rfl ?_
                refine zj_if_ne (t := 51) (zdk ttX7_readChoice 21 rfl rfl) (by decide) (by decide) (fun c2124 => ?_) (fun c2124 => ?_)
                · exact absurd c2124 (by omega)
                · refine zj_iload_n (zdk ttX7_readChoice 22 rfl rfl) rfl ?_
                  refine zj_if_eq (t := 51) (zdk ttX7_readChoice 23 rfl rfl) (by decide) (by omega) (fun c2125 => ?_) (fun c2125 => ?_)
                  · refine zj_iload (zdk ttX7_readChoice 27 rfl rfl) rfl ?_
                    refine zj_if_ne (t := 70) (zdk ttX7_readChoice 28 rfl rfl) (by decide) (by decide) (fun c2126 => ?_) (fun c2126 => ?_)
                    · exact absurd c2126 (by omega)
                    · refine zj_aload_n (zdk ttX7_readChoice 29 rfl rfl) rfl (by decide) ?_
                      refine zj_getr (r := 103) (zdk ttX7_readChoice 30 rfl rfl) zf_RX7_9 rfl (k_L107 s2013) (rf_L107_0 s2013) ?_
                      refine zj_iconst (zdk ttX7_readChoice 31 rfl rfl) ?_
                      refine zj_iconst (zdk ttX7_readChoice 32 rfl rfl) ?_
                      refine zj_callV (av := [.inl 4, .inl 4]) (st := []) (zdk ttX7_readChoice 33 rfl rfl) mb_X6_isWord mv_RX7_60 (ci := 6) rfl rfl (k_L103 s2013) rfl rfl (Nat.le_of_ble_eq_true rfl) (s_X6_isWord l h2012 4 4 s2013 (by omega) (by omega)) (rm_ok (by omega) (by decide)) (zq_i fun v2128 h2129 q2127 => ?_)
                      obtain ⟨rfl, b2131, ⟨rfl, b2130⟩ | ⟨rfl, b2130⟩⟩ := q2127
                      · refine zj_if_ne (t := 70) (zdk ttX7_readChoice 34 rfl rfl) (by decide) (by decide) (fun c2132 => ?_) (fun c2132 => ?_)
                        · exact absurd c2132 (by omega)
                        · refine zj_iconst (zdk ttX7_readChoice 35 rfl rfl) ?_
                          exact zj_zret rfl (zdk ttX7_readChoice 36 rfl rfl) (Nat.le_refl _) (Nat.le_refl _) (by omega) ⟨1, rfl, by omega, s2013, f2014, (by intro T P j t0 y0; have k0 := t0.2.2.1.2; have l0 := t0.2.2.2.1; have n0 := t0.2.2.2.1; obtain ⟨x_1j, x_1a, x_1l, x_1n, x_1m, x_1r⟩ := u2106 T P j t0 y0; have k_2 := x_1a.2.2.1.2; have k_2l := x_1a.2.2.2.1; exact ⟨fun _ => ⟨x_1j, x_1a, by omega, by omega, fun p9 s9 d9 o9 q9 => by have z9 := x_1r p9 s9 d9 o9 q9; by_cases c9 : x2010 = 0; (rw [if_pos c9] at z9; exact tRe_k (tRe_s z9 (tM11_e (by omega) (by omega) (by omega))) (by first | exact rfl.symm | (exfalso; omega))); (rw [if_neg c9] at z9; exact tRe_k (tRe_s z9 (tM11_p (by omega) (by omega))) (by first | exact rfl.symm | (exfalso; omega)))⟩, fun z => absurd z (by omega)⟩)⟩
                      · refine zj_if_ne (t := 70) (zdk ttX7_readChoice 34 rfl rfl) (by decide) (by decide) (fun c2133 => ?_) (fun c2133 => ?_)
                        · refine zj_aload_n (zdk ttX7_readChoice 37 rfl rfl) rfl (by decide) ?_
                          refine zj_getr (r := 103) (zdk ttX7_readChoice 38 rfl rfl) zf_RX7_9 rfl (k_L107 s2013) (rf_L107_0 s2013) ?_
                          refine zj_callV (av := []) (st := []) (zdk ttX7_readChoice 39 rfl rfl) mb_X6_pass mv_RX7_47 (ci := 6) rfl rfl (k_L103 s2013) rfl rfl (Nat.le_of_ble_eq_true rfl) (s2_X6_pass l h2012 s2013) (rm_ok (by omega) (by decide)) (zq_v fun h2136 q2134 => ?_)
                          obtain ⟨s2138, f2140, u2139⟩ := q2134
                          refine zj_aload_n (zdk ttX7_readChoice 40 rfl rfl) rfl (by decide) ?_
                          refine zj_aload_n (zdk ttX7_readChoice 41 rfl rfl) rfl (by omega) ?_
                          refine zj_iload_n (zdk ttX7_readChoice 42 rfl rfl) rfl ?_
                          refine zj_callV (av := [.inr p1, .inl p2]) (st := []) (zdk ttX7_readChoice 43 rfl rfl) mb_X7_readSingle mv_RX7_74 (ci := 7) rfl rfl (k_L107 s2138) rfl rfl (Nat.le_of_ble_eq_true rfl) (hr0 h2136 p1 p2 s2138 r_p1 (by omega) (by omega)) (rm_ok (by omega) (by decide)) (zq_i fun v2142 h2143 q2141 => ?_)
                          obtain ⟨b2144, s2145, f2147, u2146⟩ := q2141
                          refine zj_if_ne (t := 88) (zdk ttX7_readChoice 44 rfl rfl) (by decide) (by omega) (fun c2148 => ?_) (fun c2148 => ?_)
                          · refine zj_iload (zdk ttX7_readChoice 47 rfl rfl) rfl ?_
                            refine zj_if_eq (t := 103) (zdk ttX7_readChoice 48 rfl rfl) (by decide) (by decide) (fun c2149 => ?_) (fun c2149 => ?_)
                            · refine zj_iconst (zdk ttX7_readChoice 53 rfl rfl) ?_
                              refine zj_istore_n (L' := [some (.inr 107), some (.inr p1), some (.inl p2), some (.inl 1), some (.inl x2011), some (.inl 0)]) (zdk ttX7_readChoice 54 rfl rfl) (by decide) rfl ?_
                              refine zj_iinc (L' := [some (.inr 107), some (.inr p1), some (.inl p2), some (.inl 1), some (.inl (x2011 + 1)), some (.inl 0)]) (zdk ttX7_readChoice 55 rfl rfl) rfl (by decide) rfl ?_
                              refine zj_goto (t := 16) (zdk ttX7_readChoice 56 rfl rfl) (by decide) ?_
                              refine zj_kill (k := 5) (L' := [some (.inr 107), some (.inr p1), some (.inl p2), some (.inl 1), some (.inl (x2011 + 1)), none]) rfl ?_
                              have f2151 : zfC (w_X7_readChoice p1) h h2136 := zfC_t f2014 f2140 (fun a9 b9 z9 => by
                                exact (Or.inl (by omega)))
                              have f2150 : zfC (w_X7_readChoice p1) h h2143 := zfC_t f2151 f2147 (fun a9 b9 z9 => by
                                rcases z9 with z9 | z9 | z9
                                · exact (Or.inl z9)
                                · exact (Or.inr (Or.inl (by omega)))
                                · exact (Or.inr (Or.inr (by omega))))
                              exact ih2108  1 (x2011 + 1) h2143 (by omega) (by omega) s2145 f2150 (by intro T P j t0 y0; have k0 := t0.2.2.1.2; have l0 := t0.2.2.2.1; have n0 := t0.2.2.2.1; obtain ⟨x_1j, x_1a, x_1l, x_1n, x_1m, x_1r⟩ := u2106 T P j t0 y0; have k_2 := x_1a.2.2.1.2; have k_2l := x_1a.2.2.2.1; have k_3 := x_1a.2.2.1.2; have k_3l := x_1a.2.2.2.1; have a_4 : tPo T P (x_1j + 1) h2136 := u2139 T P x_1j x_1a (by omega); have a_4q := a_4.2.2.2.1; have c_5l : h2136.2 p1 7 = h2012.2 p1 7 := (zfC_a f2140 (fun z9 => by unfold w_X6_pass at z9; first | (revert z9; decide) | omega)); have c_5e : tCd h2136 p1 = tCd h2012 p1 := (tCd_f (zfC_a f2140 (fun z9 => by unfold w_X6_pass at z9; first | (revert z9; decide) | omega)) (fun i => (zfC_a f2140 (fun z9 => by unfold w_X6_pass at z9; first | (revert z9; decide) | omega)))).trans rfl; obtain ⟨r_6j, r_6a, r_6l, r_6n, r_6r⟩ := (u2146 T P (x_1j + 1) a_4 (by omega)).1 (by omega); have r_6q := r_6a.2.2.2.1; have c_7l := r_6n; exact ⟨r_6j, r_6a, by omega, fun z => absurd z (by omega), fun z => by omega, fun p9 s9 d9 o9 q9 => by rw [if_neg (by decide)]; exact tRe_k (tRe_s (tRe_t (by have z9 := x_1r p9 s9 d9 o9 q9; by_cases c9 : x2010 = 0; (rw [if_pos c9] at z9; exact tRe_k (tRe_s z9 (tM11_f (by omega) (by omega))) (by first | exact c_5e.symm | (exfalso; omega))); (rw [if_neg c9] at z9; exact tRe_k (tRe_s z9 (tM11_o (by omega))) (by first | exact c_5e.symm | (exfalso; omega)))) (r_6r p9 (11 :: s9) d9 (by rw [tOpn_11]; exact o9))) (tM9_e (show ¬ (11 : Int) = 9 by decide) (show ¬ (11 : Int) = 10 by decide))) rfl.symm⟩) (by omega)
                            · exact absurd c2149 (by omega)
                          · refine zj_iconst (zdk ttX7_readChoice 45 rfl rfl) ?_
                            have f2153 : zfC (w_X7_readChoice p1) h h2136 := zfC_t f2014 f2140 (fun a9 b9 z9 => by
                              exact (Or.inl (by omega)))
                            have f2152 : zfC (w_X7_readChoice p1) h h2143 := zfC_t f2153 f2147 (fun a9 b9 z9 => by
                              rcases z9 with z9 | z9 | z9
                              · exact (Or.inl z9)
                              · exact (Or.inr (Or.inl (by omega)))
                              · exact (Or.inr (Or.inr (by omega))))
                            exact zj_zret rfl (zdk ttX7_readChoice 46 rfl rfl) (Nat.le_refl _) (Nat.le_refl _) (by omega) ⟨0, rfl, by omega, s2145, f2152, (by intro T P j t0 y0; have k0 := t0.2.2.1.2; have l0 := t0.2.2.2.1; have n0 := t0.2.2.2.1; obtain ⟨x_1j, x_1a, x_1l, x_1n, x_1m, x_1r⟩ := u2106 T P j t0 y0; have k_2 := x_1a.2.2.1.2; have k_2l := x_1a.2.2.2.1; have k_3 := x_1a.2.2.1.2; have k_3l := x_1a.2.2.2.1; have a_4 : tPo T P (x_1j + 1) h2136 := u2139 T P x_1j x_1a (by omega); have a_4q := a_4.2.2.2.1; have c_6l : h2136.2 p1 7 = h2012.2 p1 7 := (zfC_a f2140 (fun z9 => by unfold w_X6_pass at z9; first | (revert z9; decide) | omega)); have c_6e : tCd h2136 p1 = tCd h2012 p1 := (tCd_f (zfC_a f2140 (fun z9 => by unfold w_X6_pass at z9; first | (revert z9; decide) | omega)) (fun i => (zfC_a f2140 (fun z9 => by unfold w_X6_pass at z9; first | (revert z9; decide) | omega)))).trans rfl; obtain ⟨e_5i, e_5f, e_5q, e_5r⟩ := (u2146 T P (x_1j + 1) a_4 (by omega)).2 (by omega); exact ⟨fun z => absurd z (by omega), fun _ => ⟨e_5i, e_5f, e_5q, fun p9 s9 d9 o9 q9 => tRe_t (by have z9 := x_1r p9 s9 d9 o9 q9; by_cases c9 : x2010 = 0; (rw [if_pos c9] at z9; exact tRe_k (tRe_s z9 (tM11_f (by omega) (by omega))) (by first | exact c_6e.symm | (exfalso; omega))); (rw [if_neg c9] at z9; exact tRe_k (tRe_s z9 (tM11_o (by omega))) (by first | exact c_6e.symm | (exfalso; omega)))) (e_5r p9 (11 :: s9) d9 (by rw [tOpn_11]; exact o9))⟩⟩)⟩
                        · exact absurd c2133 (by omega)
                  · refine zj_aload_n (zdk ttX7_readChoice 24 rfl rfl) rfl (by omega) ?_
                    refine zj_sipush (zdk ttX7_readChoice 25 rfl rfl) (by decide) ?_
                    refine zj_callV (av := [.inl 20004]) (st := []) (zdk ttX7_readChoice 26 rfl rfl) mb_X3_put mv_RX7_77 (ci := 3) rfl rfl (k_3_0 s2013 r_p1) rfl rfl (Nat.le_of_ble_eq_true rfl) (s2_X3_put l h2012 p1 20004 s2013 r_p1 (by omega)) (rm_ok (by omega) (by decide)) (zq_v fun h2156 q2154 => ?_)
                    obtain ⟨s2158, f2160, u2159⟩ := q2154
                    refine zj_iload (zdk ttX7_readChoice 27 rfl rfl) rfl ?_
                    refine zj_if_ne (t := 70) (zdk ttX7_readChoice 28 rfl rfl) (by decide) (by decide) (fun c2161 => ?_) (fun c2161 => ?_)
                    · exact absurd c2161 (by omega)
                    · refine zj_aload_n (zdk ttX7_readChoice 29 rfl rfl) rfl (by decide) ?_
                      refine zj_getr (r := 103) (zdk ttX7_readChoice 30 rfl rfl) zf_RX7_9 rfl (k_L107 s2158) (rf_L107_0 s2158) ?_
                      refine zj_iconst (zdk ttX7_readChoice 31 rfl rfl) ?_
                      refine zj_iconst (zdk ttX7_readChoice 32 rfl rfl) ?_
                      refine zj_callV (av := [.inl 4, .inl 4]) (st := []) (zdk ttX7_readChoice 33 rfl rfl) mb_X6_isWord mv_RX7_60 (ci := 6) rfl rfl (k_L103 s2158) rfl rfl (Nat.le_of_ble_eq_true rfl) (s_X6_isWord l h2156 4 4 s2158 (by omega) (by omega)) (rm_ok (by omega) (by decide)) (zq_i fun v2163 h2164 q2162 => ?_)
                      obtain ⟨rfl, b2166, ⟨rfl, b2165⟩ | ⟨rfl, b2165⟩⟩ := q2162
                      · refine zj_if_ne (t := 70) (zdk ttX7_readChoice 34 rfl rfl) (by decide) (by decide) (fun c2167 => ?_) (fun c2167 => ?_)
                        · exact absurd c2167 (by omega)
                        · refine zj_iconst (zdk ttX7_readChoice 35 rfl rfl) ?_
                          have f2168 : zfC (w_X7_readChoice p1) h h2156 := zfC_t f2014 f2160 (fun a9 b9 z9 => by
                            rcases z9 with z9 | z9
                            · exact (Or.inr (Or.inl (by omega)))
                            · exact (Or.inr (Or.inr (by omega))))
                          have b2169 : h2156.2 103 6 = (h2012.2 103 6) := (zfC_a f2160 (fun z9 => by unfold w_X3_put at z9; first | (revert z9; decide) | omega))
                          exact zj_zret rfl (zdk ttX7_readChoice 36 rfl rfl) (Nat.le_refl _) (Nat.le_refl _) (by omega) ⟨1, rfl, by omega, s2158, f2168, (by intro T P j t0 y0; have k0 := t0.2.2.1.2; have l0 := t0.2.2.2.1; have n0 := t0.2.2.2.1; obtain ⟨x_1j, x_1a, x_1l, x_1n, x_1m, x_1r⟩ := u2106 T P j t0 y0; have k_2 := x_1a.2.2.1.2; have k_2l := x_1a.2.2.2.1; have a_3 : tPo T P x_1j h2156 := tPo_f x_1a (fun i => (zfC_a f2160 (fun z9 => by unfold w_X3_put at z9; first | (revert z9; decide) | omega))) (fun i => (zfC_a f2160 (fun z9 => by unfold w_X3_put at z9; first | (revert z9; decide) | omega))) (zfC_a f2160 (fun z9 => by unfold w_X3_put at z9; first | (revert z9; decide) | omega)) (zfC_a f2160 (fun z9 => by unfold w_X3_put at z9; first | (revert z9; decide) | omega)) (zfC_a f2160 (fun z9 => by unfold w_X3_put at z9; first | (revert z9; decide) | omega)) (zfC_a f2160 (fun z9 => by unfold w_X3_put at z9; first | (revert z9; decide) | omega)) (zfC_a f2160 (fun z9 => by unfold w_X3_put at z9; first | (revert z9; decide) | omega)); have c_4 := u2159 (by omega); have c_4l := c_4.2; have c_4e : tCd h2156 p1 = 20004 :: tCd h2012 p1 := c_4.1.trans (congrArg _ (rfl : tCd h2012 p1 = tCd h2012 p1)); exact ⟨fun _ => ⟨x_1j, a_3, by omega, by omega, fun p9 s9 d9 o9 q9 => by have z9 := x_1r p9 s9 d9 o9 q9; by_cases c9 : x2010 = 0; (rw [if_pos c9] at z9; exact tRe_k (tRe_s z9 (tM11_e (by omega) (by omega) (by omega))) (by first | exact c_4e.symm | (exfalso; omega))); (rw [if_neg c9] at z9; exact tRe_k (tRe_s z9 (tM11_p (by omega) (by omega))) (by first | exact c_4e.symm | (exfalso; omega)))⟩, fun z => absurd z (by omega)⟩)⟩
                      · refine zj_if_ne (t := 70) (zdk ttX7_readChoice 34 rfl rfl) (by decide) (by decide) (fun c2170 => ?_) (fun c2170 => ?_)
                        · refine zj_aload_n (zdk ttX7_readChoice 37 rfl rfl) rfl (by decide) ?_
                          refine zj_getr (r := 103) (zdk ttX7_readChoice 38 rfl rfl) zf_RX7_9 rfl (k_L107 s2158) (rf_L107_0 s2158) ?_
                          refine zj_callV (av := []) (st := []) (zdk ttX7_readChoice 39 rfl rfl) mb_X6_pass mv_RX7_47 (ci := 6) rfl rfl (k_L103 s2158) rfl rfl (Nat.le_of_ble_eq_true rfl) (s2_X6_pass l h2156 s2158) (rm_ok (by omega) (by decide)) (zq_v fun h2173 q2171 => ?_)
                          obtain ⟨s2175, f2177, u2176⟩ := q2171
                          refine zj_aload_n (zdk ttX7_readChoice 40 rfl rfl) rfl (by decide) ?_
                          refine zj_aload_n (zdk ttX7_readChoice 41 rfl rfl) rfl (by omega) ?_
                          refine zj_iload_n (zdk ttX7_readChoice 42 rfl rfl) rfl ?_
                          refine zj_callV (av := [.inr p1, .inl p2]) (st := []) (zdk ttX7_readChoice 43 rfl rfl) mb_X7_readSingle mv_RX7_74 (ci := 7) rfl rfl (k_L107 s2175) rfl rfl (Nat.le_of_ble_eq_true rfl) (hr0 h2173 p1 p2 s2175 r_p1 (by omega) (by omega)) (rm_ok (by omega) (by decide)) (zq_i fun v2179 h2180 q2178 => ?_)
                          obtain ⟨b2181, s2182, f2184, u2183⟩ := q2178
                          refine zj_if_ne (t := 88) (zdk ttX7_readChoice 44 rfl rfl) (by decide) (by omega) (fun c2185 => ?_) (fun c2185 => ?_)
                          · refine zj_iload (zdk ttX7_readChoice 47 rfl rfl) rfl ?_
                            refine zj_if_eq (t := 103) (zdk ttX7_readChoice 48 rfl rfl) (by decide) (by decide) (fun c2186 => ?_) (fun c2186 => ?_)
                            · refine zj_iconst (zdk ttX7_readChoice 53 rfl rfl) ?_
                              refine zj_istore_n (L' := [some (.inr 107), some (.inr p1), some (.inl p2), some (.inl 1), some (.inl x2011), some (.inl 0)]) (zdk ttX7_readChoice 54 rfl rfl) (by decide) rfl ?_
                              refine zj_iinc (L' := [some (.inr 107), some (.inr p1), some (.inl p2), some (.inl 1), some (.inl (x2011 + 1)), some (.inl 0)]) (zdk ttX7_readChoice 55 rfl rfl) rfl (by decide) rfl ?_
                              refine zj_goto (t := 16) (zdk ttX7_readChoice 56 rfl rfl) (by decide) ?_
                              refine zj_kill (k := 5) (L' := [some (.inr 107), some (.inr p1), some (.inl p2), some (.inl 1), some (.inl (x2011 + 1)), none]) rfl ?_
                              have f2189 : zfC (w_X7_readChoice p1) h h2156 := zfC_t f2014 f2160 (fun a9 b9 z9 => by
                                rcases z9 with z9 | z9
                                · exact (Or.inr (Or.inl (by omega)))
                                · exact (Or.inr (Or.inr (by omega))))
                              have f2188 : zfC (w_X7_readChoice p1) h h2173 := zfC_t f2189 f2177 (fun a9 b9 z9 => by
                                exact (Or.inl (by omega)))
                              have f2187 : zfC (w_X7_readChoice p1) h h2180 := zfC_t f2188 f2184 (fun a9 b9 z9 => by
                                rcases z9 with z9 | z9 | z9
                                · exact (Or.inl z9)
                                · exact (Or.inr (Or.inl (by omega)))
                                · exact (Or.inr (Or.inr (by omega))))
                              have b2190 : h2156.2 103 6 = (h2012.2 103 6) := (zfC_a f2160 (fun z9 => by unfold w_X3_put at z9; first | (revert z9; decide) | omega))
                              exact ih2108  1 (x2011 + 1) h2180 (by omega) (by omega) s2182 f2187 (by intro T P j t0 y0; have k0 := t0.2.2.1.2; have l0 := t0.2.2.2.1; have n0 := t0.2.2.2.1; obtain ⟨x_1j, x_1a, x_1l, x_1n, x_1m, x_1r⟩ := u2106 T P j t0 y0; have k_2 := x_1a.2.2.1.2; have k_2l := x_1a.2.2.2.1; have a_3 : tPo T P x_1j h2156 := tPo_f x_1a (fun i => (zfC_a f2160 (fun z9 => by unfold w_X3_put at z9; first | (revert z9; decide) | omega))) (fun i => (zfC_a f2160 (fun z9 => by unfold w_X3_put at z9; first | (revert z9; decide) | omega))) (zfC_a f2160 (fun z9 => by unfold w_X3_put at z9; first | (revert z9; decide) | omega)) (zfC_a f2160 (fun z9 => by unfold w_X3_put at z9; first | (revert z9; decide) | omega)) (zfC_a f2160 (fun z9 => by unfold w_X3_put at z9; first | (revert z9; decide) | omega)) (zfC_a f2160 (fun z9 => by unfold w_X3_put at z9; first | (revert z9; decide) | omega)) (zfC_a f2160 (fun z9 => by unfold w_X3_put at z9; first | (revert z9; decide) | omega)); have k_4 := a_3.2.2.1.2; have k_4l := a_3.2.2.2.1; have a_5 : tPo T P (x_1j + 1) h2173 := u2176 T P x_1j a_3 (by omega); have a_5q := a_5.2.2.2.1; have c_6 := u2159 (by omega); have c_6l := c_6.2; have c_6e : tCd h2156 p1 = 20004 :: tCd h2012 p1 := c_6.1.trans (congrArg _ (rfl : tCd h2012 p1 = tCd h2012 p1)); have c_7l : h2173.2 p1 7 = h2156.2 p1 7 := (zfC_a f2177 (fun z9 => by unfold w_X6_pass at z9; first | (revert z9; decide) | omega)); have c_7e : tCd h2173 p1 = (20004 :: tCd h2012 p1) := (tCd_f (zfC_a f2177 (fun z9 => by unfold w_X6_pass at z9; first | (revert z9; decide) | omega)) (fun i => (zfC_a f2177 (fun z9 => by unfold w_X6_pass at z9; first | (revert z9; decide) | omega)))).trans c_6e; obtain ⟨r_8j, r_8a, r_8l, r_8n, r_8r⟩ := (u2183 T P (x_1j + 1) a_5 (by omega)).1 (by omega); have r_8q := r_8a.2.2.2.1; have c_9l := r_8n; exact ⟨r_8j, r_8a, by omega, fun z => absurd z (by omega), fun z => by omega, fun p9 s9 d9 o9 q9 => by rw [if_neg (by decide)]; exact tRe_k (tRe_s (tRe_t (by have z9 := x_1r p9 s9 d9 o9 q9; by_cases c9 : x2010 = 0; (rw [if_pos c9] at z9; exact tRe_k (tRe_s z9 (tM11_f (by omega) (by omega))) (by first | exact c_7e.symm | (exfalso; omega))); (rw [if_neg c9] at z9; exact tRe_k (tRe_s z9 (tM11_o (by omega))) (by first | exact c_7e.symm | (exfalso; omega)))) (r_8r p9 (11 :: s9) d9 (by rw [tOpn_11]; exact o9))) (tM9_e (show ¬ (11 : Int) = 9 by decide) (show ¬ (11 : Int) = 10 by decide))) rfl.symm⟩) (by omega)
                            · exact absurd c2186 (by omega)
                          · refine zj_iconst (zdk ttX7_readChoice 45 rfl rfl) ?_
                            have f2193 : zfC (w_X7_readChoice p1) h h2156 := zfC_t f2014 f2160 (fun a9 b9 z9 => by
                              rcases z9 with z9 | z9
                              · exact (Or.inr (Or.inl (by omega)))
                              · exact (Or.inr (Or.inr (by omega))))
                            have f2192 : zfC (w_X7_readChoice p1) h h2173 := zfC_t f2193 f2177 (fun a9 b9 z9 => by
                              exact (Or.inl (by omega)))
                            have f2191 : zfC (w_X7_readChoice p1) h h2180 := zfC_t f2192 f2184 (fun a9 b9 z9 => by
                              rcases z9 with z9 | z9 | z9
                              · exact (Or.inl z9)
                              · exact (Or.inr (Or.inl (by omega)))
                              · exact (Or.inr (Or.inr (by omega))))
                            have b2194 : h2156.2 103 6 = (h2012.2 103 6) := (zfC_a f2160 (fun z9 => by unfold w_X3_put at z9; first | (revert z9; decide) | omega))
                            exact zj_zret rfl (zdk ttX7_readChoice 46 rfl rfl) (Nat.le_refl _) (Nat.le_refl _) (by omega) ⟨0, rfl, by omega, s2182, f2191, (by intro T P j t0 y0; have k0 := t0.2.2.1.2; have l0 := t0.2.2.2.1; have n0 := t0.2.2.2.1; obtain ⟨x_1j, x_1a, x_1l, x_1n, x_1m, x_1r⟩ := u2106 T P j t0 y0; have k_2 := x_1a.2.2.1.2; have k_2l := x_1a.2.2.2.1; have a_3 : tPo T P x_1j h2156 := tPo_f x_1a (fun i => (zfC_a f2160 (fun z9 => by unfold w_X3_put at z9; first | (revert z9; decide) | omega))) (fun i => (zfC_a f2160 (fun z9 => by unfold w_X3_put at z9; first | (revert z9; decide) | omega))) (zfC_a f2160 (fun z9 => by unfold w_X3_put at z9; first | (revert z9; decide) | omega)) (zfC_a f2160 (fun z9 => by unfold w_X3_put at z9; first | (revert z9; decide) | omega)) (zfC_a f2160 (fun z9 => by unfold w_X3_put at z9; first | (revert z9; decide) | omega)) (zfC_a f2160 (fun z9 => by unfold w_X3_put at z9; first | (revert z9; decide) | omega)) (zfC_a f2160 (fun z9 => by unfold w_X3_put at z9; first | (revert z9; decide) | omega)); have k_4 := a_3.2.2.1.2; have k_4l := a_3.2.2.2.1; have a_5 : tPo T P (x_1j + 1) h2173 := u2176 T P x_1j a_3 (by omega); have a_5q := a_5.2.2.2.1; have c_7 := u2159 (by omega); have c_7l := c_7.2; have c_7e : tCd h2156 p1 = 20004 :: tCd h2012 p1 := c_7.1.trans (congrArg _ (rfl : tCd h2012 p1 = tCd h2012 p1)); have c_8l : h2173.2 p1 7 = h2156.2 p1 7 := (zfC_a f2177 (fun z9 => by unfold w_X6_pass at z9; first | (revert z9; decide) | omega)); have c_8e : tCd h2173 p1 = (20004 :: tCd h2012 p1) := (tCd_f (zfC_a f2177 (fun z9 => by unfold w_X6_pass at z9; first | (revert z9; decide) | omega)) (fun i => (zfC_a f2177 (fun z9 => by unfold w_X6_pass at z9; first | (revert z9; decide) | omega)))).trans c_7e; obtain ⟨e_6i, e_6f, e_6q, e_6r⟩ := (u2183 T P (x_1j + 1) a_5 (by omega)).2 (by omega); exact ⟨fun z => absurd z (by omega), fun _ => ⟨e_6i, e_6f, e_6q, fun p9 s9 d9 o9 q9 => tRe_t (by have z9 := x_1r p9 s9 d9 o9 q9; by_cases c9 : x2010 = 0; (rw [if_pos c9] at z9; exact tRe_k (tRe_s z9 (tM11_f (by omega) (by omega))) (by first | exact c_8e.symm | (exfalso; omega))); (rw [if_neg c9] at z9; exact tRe_k (tRe_s z9 (tM11_o (by omega))) (by first | exact c_8e.symm | (exfalso; omega)))) (e_6r p9 (11 :: s9) d9 (by rw [tOpn_11]; exact o9))⟩⟩)⟩
                        · exact absurd c2170 (by omega)
              · refine zj_istore (L' := [some (.inr 107), some (.inr p1), some (.inl p2), some (.inl x2010), some (.inl x2011), some (.inl 1)]) (zdk ttX7_readChoice 19 rfl rfl) (by decide) rfl ?_
                refine zj_iload (zdk ttX7_readChoice 20 rfl rfl) rfl ?_
                refine zj_if_ne (t := 51) (zdk ttX7_readChoice 21 rfl rfl) (by decide) (by decide) (fun c2195 => ?_) (fun c2195 => ?_)
                · refine zj_iload (zdk ttX7_readChoice 27 rfl rfl) rfl ?_
                  refine zj_if_ne (t := 70) (zdk ttX7_readChoice 28 rfl rfl) (by decide) (by decide) (fun c2196 => ?_) (fun c2196 => ?_)
                  · refine zj_aload_n (zdk ttX7_readChoice 37 rfl rfl) rfl (by decide) ?_
                    refine zj_getr (r := 103) (zdk ttX7_readChoice 38 rfl rfl) zf_RX7_9 rfl (k_L107 s2013) (rf_L107_0 s2013) ?_
                    refine zj_callV (av := []) (st := []) (zdk ttX7_readChoice 39 rfl rfl) mb_X6_pass mv_RX7_47 (ci := 6) rfl rfl (k_L103 s2013) rfl rfl (Nat.le_of_ble_eq_true rfl) (s2_X6_pass l h2012 s2013) (rm_ok (by omega) (by decide)) (zq_v fun h2199 q2197 => ?_)
                    obtain ⟨s2201, f2203, u2202⟩ := q2197
                    refine zj_aload_n (zdk ttX7_readChoice 40 rfl rfl) rfl (by decide) ?_
                    refine zj_aload_n (zdk ttX7_readChoice 41 rfl rfl) rfl (by omega) ?_
                    refine zj_iload_n (zdk ttX7_readChoice 42 rfl rfl) rfl ?_
                    refine zj_callV (av := [.inr p1, .inl p2]) (st := []) (zdk ttX7_readChoice 43 rfl rfl) mb_X7_readSingle mv_RX7_74 (ci := 7) rfl rfl (k_L107 s2201) rfl rfl (Nat.le_of_ble_eq_true rfl) (hr0 h2199 p1 p2 s2201 r_p1 (by omega) (by omega)) (rm_ok (by omega) (by decide)) (zq_i fun v2205 h2206 q2204 => ?_)
                    obtain ⟨b2207, s2208, f2210, u2209⟩ := q2204
                    refine zj_if_ne (t := 88) (zdk ttX7_readChoice 44 rfl rfl) (by decide) (by omega) (fun c2211 => ?_) (fun c2211 => ?_)
                    · refine zj_iload (zdk ttX7_readChoice 47 rfl rfl) rfl ?_
                      refine zj_if_eq (t := 103) (zdk ttX7_readChoice 48 rfl rfl) (by decide) (by decide) (fun c2212 => ?_) (fun c2212 => ?_)
                      · exact absurd c2212 (by omega)
                      · refine zj_aload_n (zdk ttX7_readChoice 49 rfl rfl) rfl (by omega) ?_
                        refine zj_sipush (zdk ttX7_readChoice 50 rfl rfl) (by decide) ?_
                        refine zj_callV (av := [.inl 20005]) (st := []) (zdk ttX7_readChoice 51 rfl rfl) mb_X3_put mv_RX7_77 (ci := 3) rfl rfl (k_3_0 s2208 r_p1) rfl rfl (Nat.le_of_ble_eq_true rfl) (s2_X3_put l h2206 p1 20005 s2208 r_p1 (by omega)) (rm_ok (by omega) (by decide)) (zq_v fun h2215 q2213 => ?_)
                        obtain ⟨s2217, f2219, u2218⟩ := q2213
                        refine zj_goto (t := 105) (zdk ttX7_readChoice 52 rfl rfl) (by decide) ?_
                        refine zj_iinc (L' := [some (.inr 107), some (.inr p1), some (.inl p2), some (.inl x2010), some (.inl (x2011 + 1)), some (.inl 1)]) (zdk ttX7_readChoice 55 rfl rfl) rfl (by decide) rfl ?_
                        refine zj_goto (t := 16) (zdk ttX7_readChoice 56 rfl rfl) (by decide) ?_
                        refine zj_kill (k := 5) (L' := [some (.inr 107), some (.inr p1), some (.inl p2), some (.inl x2010), some (.inl (x2011 + 1)), none]) rfl ?_
                        have f2222 : zfC (w_X7_readChoice p1) h h2199 := zfC_t f2014 f2203 (fun a9 b9 z9 => by
                          exact (Or.inl (by omega)))
                        have f2221 : zfC (w_X7_readChoice p1) h h2206 := zfC_t f2222 f2210 (fun a9 b9 z9 => by
                          rcases z9 with z9 | z9 | z9
                          · exact (Or.inl z9)
                          · exact (Or.inr (Or.inl (by omega)))
                          · exact (Or.inr (Or.inr (by omega))))
                        have f2220 : zfC (w_X7_readChoice p1) h h2215 := zfC_t f2221 f2219 (fun a9 b9 z9 => by
                          rcases z9 with z9 | z9
                          · exact (Or.inr (Or.inl (by omega)))
                          · exact (Or.inr (Or.inr (by omega))))
                        have b2223 : h2215.2 103 6 = (h2206.2 103 6) := (zfC_a f2219 (fun z9 => by unfold w_X3_put at z9; first | (revert z9; decide) | omega))
                        exact ih2108  x2010 (x2011 + 1) h2215 (by omega) (by omega) s2217 f2220 (by intro T P j t0 y0; have k0 := t0.2.2.1.2; have l0 := t0.2.2.2.1; have n0 := t0.2.2.2.1; obtain ⟨x_1j, x_1a, x_1l, x_1n, x_1m, x_1r⟩ := u2106 T P j t0 y0; have k_2 := x_1a.2.2.1.2; have k_2l := x_1a.2.2.2.1; have k_3 := x_1a.2.2.1.2; have k_3l := x_1a.2.2.2.1; have a_4 : tPo T P (x_1j + 1) h2199 := u2202 T P x_1j x_1a (by omega); have a_4q := a_4.2.2.2.1; have c_5l : h2199.2 p1 7 = h2012.2 p1 7 := (zfC_a f2203 (fun z9 => by unfold w_X6_pass at z9; first | (revert z9; decide) | omega)); have c_5e : tCd h2199 p1 = tCd h2012 p1 := (tCd_f (zfC_a f2203 (fun z9 => by unfold w_X6_pass at z9; first | (revert z9; decide) | omega)) (fun i => (zfC_a f2203 (fun z9 => by unfold w_X6_pass at z9; first | (revert z9; decide) | omega)))).trans rfl; obtain ⟨r_6j, r_6a, r_6l, r_6n, r_6r⟩ := (u2209 T P (x_1j + 1) a_4 (by omega)).1 (by omega); have r_6q := r_6a.2.2.2.1; have a_7 : tPo T P r_6j h2215 := tPo_f r_6a (fun i => (zfC_a f2219 (fun z9 => by unfold w_X3_put at z9; first | (revert z9; decide) | omega))) (fun i => (zfC_a f2219 (fun z9 => by unfold w_X3_put at z9; first | (revert z9; decide) | omega))) (zfC_a f2219 (fun z9 => by unfold w_X3_put at z9; first | (revert z9; decide) | omega)) (zfC_a f2219 (fun z9 => by unfold w_X3_put at z9; first | (revert z9; decide) | omega)) (zfC_a f2219 (fun z9 => by unfold w_X3_put at z9; first | (revert z9; decide) | omega)) (zfC_a f2219 (fun z9 => by unfold w_X3_put at z9; first | (revert z9; decide) | omega)) (zfC_a f2219 (fun z9 => by unfold w_X3_put at z9; first | (revert z9; decide) | omega)); have c_8l := r_6n; have c_9 := u2218 (by omega); have c_9l := c_9.2; have c_9e : tCd h2215 p1 = 20005 :: tCd h2206 p1 := c_9.1.trans (congrArg _ (rfl : tCd h2206 p1 = tCd h2206 p1)); exact ⟨r_6j, a_7, by omega, fun z => by omega, fun z => by omega, fun p9 s9 d9 o9 q9 => tRe_k (tRe_s (tRe_t (tRe_k (tRe_s (x_1r p9 s9 d9 o9 q9) (tM11_a (by omega))) c_5e.symm) (r_6r p9 (10 :: if x2010 = 0 then s9 else 11 :: s9) d9 (by rw [tOpn_10, tOpn_if]; exact o9))) tM9_a) c_9e.symm⟩) (by omega)
                    · refine zj_iconst (zdk ttX7_readChoice 45 rfl rfl) ?_
                      have f2225 : zfC (w_X7_readChoice p1) h h2199 := zfC_t f2014 f2203 (fun a9 b9 z9 => by
                        exact (Or.inl (by omega)))
                      have f2224 : zfC (w_X7_readChoice p1) h h2206 := zfC_t f2225 f2210 (fun a9 b9 z9 => by
                        rcases z9 with z9 | z9 | z9
                        · exact (Or.inl z9)
                        · exact (Or.inr (Or.inl (by omega)))
                        · exact (Or.inr (Or.inr (by omega))))
                      exact zj_zret rfl (zdk ttX7_readChoice 46 rfl rfl) (Nat.le_refl _) (Nat.le_refl _) (by omega) ⟨0, rfl, by omega, s2208, f2224, (by intro T P j t0 y0; have k0 := t0.2.2.1.2; have l0 := t0.2.2.2.1; have n0 := t0.2.2.2.1; obtain ⟨x_1j, x_1a, x_1l, x_1n, x_1m, x_1r⟩ := u2106 T P j t0 y0; have k_2 := x_1a.2.2.1.2; have k_2l := x_1a.2.2.2.1; have k_3 := x_1a.2.2.1.2; have k_3l := x_1a.2.2.2.1; have a_4 : tPo T P (x_1j + 1) h2199 := u2202 T P x_1j x_1a (by omega); have a_4q := a_4.2.2.2.1; have c_6l : h2199.2 p1 7 = h2012.2 p1 7 := (zfC_a f2203 (fun z9 => by unfold w_X6_pass at z9; first | (revert z9; decide) | omega)); have c_6e : tCd h2199 p1 = tCd h2012 p1 := (tCd_f (zfC_a f2203 (fun z9 => by unfold w_X6_pass at z9; first | (revert z9; decide) | omega)) (fun i => (zfC_a f2203 (fun z9 => by unfold w_X6_pass at z9; first | (revert z9; decide) | omega)))).trans rfl; obtain ⟨e_5i, e_5f, e_5q, e_5r⟩ := (u2209 T P (x_1j + 1) a_4 (by omega)).2 (by omega); exact ⟨fun z => absurd z (by omega), fun _ => ⟨e_5i, e_5f, e_5q, fun p9 s9 d9 o9 q9 => tRe_t (tRe_k (tRe_s (x_1r p9 s9 d9 o9 q9) (tM11_a (by omega))) c_6e.symm) (e_5r p9 (10 :: if x2010 = 0 then s9 else 11 :: s9) d9 (by rw [tOpn_10, tOpn_if]; exact o9))⟩⟩)⟩
                  · exact absurd c2196 (by omega)
                · exact absurd c2195 (by omega)
        have f2226 : zfC (w_X7_readChoice p1) h h2004 := zfC_t (zfC_r _ _) f2008 (fun a9 b9 z9 => by
          rcases z9 with z9 | z9 | z9
          · exact (Or.inl z9)
          · exact (Or.inr (Or.inl (by omega)))
          · exact (Or.inr (Or.inr (by omega))))
        exact lp2103 _ 0 0 h2004 (by omega) (by omega) s2006 f2226 (by intro T P j t0 y0; have k0 := t0.2.2.1.2; have l0 := t0.2.2.2.1; have n0 := t0.2.2.2.1; obtain ⟨r_1j, r_1a, r_1l, r_1n, r_1r⟩ := (u2007 T P j t0 (by omega)).1 (by omega); have r_1q := r_1a.2.2.2.1; have c_2l := r_1n; exact ⟨r_1j, r_1a, by omega, fun _ => by omega, fun z => absurd rfl z, fun p9 s9 d9 o9 q9 => by rw [if_pos rfl]; exact tRe_k (tRe_s (r_1r p9 s9 d9 o9) (tM9_e (by omega) (by omega))) rfl.symm⟩) (Nat.lt_succ_self _)
      · refine zj_iconst (zdk ttX7_readChoice 5 rfl rfl) ?_
        have f2227 : zfC (w_X7_readChoice p1) h h2004 := zfC_t (zfC_r _ _) f2008 (fun a9 b9 z9 => by
          rcases z9 with z9 | z9 | z9
          · exact (Or.inl z9)
          · exact (Or.inr (Or.inl (by omega)))
          · exact (Or.inr (Or.inr (by omega))))
        exact zj_zret rfl (zdk ttX7_readChoice 6 rfl rfl) (Nat.le_refl _) (Nat.le_refl _) (by omega) ⟨0, rfl, by omega, s2006, f2227, (by intro T P j t0 y0; have k0 := t0.2.2.1.2; have l0 := t0.2.2.2.1; have n0 := t0.2.2.2.1; obtain ⟨e_1i, e_1f, e_1q, e_1r⟩ := (u2007 T P j t0 (by omega)).2 (by omega); exact ⟨fun z => absurd z (by omega), fun _ => ⟨e_1i, e_1f, e_1q, fun p9 s9 d9 o9 q9 => e_1r p9 s9 d9 o9⟩⟩)⟩
    exact ⟨hr0, hr1⟩

