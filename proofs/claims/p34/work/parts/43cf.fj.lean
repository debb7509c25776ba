abbrev q2_X10_goes (h : zM) (p1 : Int) (p2 : Int) : Option zV → zM → Prop := zqi fun v h' => ((-2147483648) ≤ v ∧ v ≤ 2147483647) ∧ okC h' ∧ zfC w_X10_goes h h' ∧ (∀ z, xK h z → v = vGoes p1 p2 z ∧ xK h' z)
set_option maxRecDepth 100000 in
set_option maxHeartbeats 4000000 in
theorem s2_X10_goes (l : Launch) (h : zM) (p1 : Int) (p2 : Int) (s0 : okC h) (b_p1 : (-2147483648) ≤ p1 ∧ p1 ≤ 2147483647) (b_p2 : (-2147483648) ≤ p2 ∧ p2 ≤ 2147483647) : zT shC l yX10_goes cX10_goes 4 (some .int) (rmL 8) 0 0 [.inr 0, .inl p1, .inl p2] h (q2_X10_goes h p1 p2) := by
  refine zT_of (by decide +kernel) (L0 := [some (.inr 0), some (.inl p1), some (.inl p2), none]) rfl (Nat.le_of_ble_eq_true rfl) ?_
  refine zj_iload_n (zdk ttX10_goes 0 rfl rfl) rfl ?_
  refine zj_iconst (zdk ttX10_goes 1 rfl rfl) ?_
  refine zj_bipush (zdk ttX10_goes 2 rfl rfl) (by decide) ?_
  refine zj_callS (av := [.inl p1, .inl 1, .inl 60]) (st := []) (zdk ttX10_goes 3 rfl rfl) mb_X10_within ms_RX10_77 rfl rfl (Nat.le_of_ble_eq_true rfl) (s_X10_within l h p1 1 60 s0 (by omega) (by omega) (by omega)) (rm_ok (by decide) (by decide)) (zq_i fun v2 h3 q1 => ?_)
  obtain ⟨rfl, ⟨rfl, b4⟩ | ⟨rfl, b4⟩⟩ := q1
  · refine zj_if_eq (t := 19) (zdk ttX10_goes 4 rfl rfl) (by decide) (by decide) (fun c5 => ?_) (fun c5 => ?_)
    · refine zj_iconst (zdk ttX10_goes 10 rfl rfl) ?_
      exact zj_iret rfl (zdk ttX10_goes 11 rfl rfl) (Nat.le_refl _) (Nat.le_refl _) ⟨(-1), rfl, by omega, s0, (zfC_r _ _), (by intro z t0; unfold vGoes; rw [if_neg (by omega)]; exact ⟨rfl, t0⟩)⟩
    · exact absurd c5 (by omega)
  · refine zj_if_eq (t := 19) (zdk ttX10_goes 4 rfl rfl) (by decide) (by decide) (fun c6 => ?_) (fun c6 => ?_)
    · exact absurd c6 (by omega)
    · refine zj_iload_n (zdk ttX10_goes 5 rfl rfl) rfl ?_
      refine zj_iconst (zdk ttX10_goes 6 rfl rfl) ?_
      refine zj_iconst (zdk ttX10_goes 7 rfl rfl) ?_
      refine zj_callS (av := [.inl p2, .inl 0, .inl 3]) (st := []) (zdk ttX10_goes 8 rfl rfl) mb_X10_within ms_RX10_77 rfl rfl (Nat.le_of_ble_eq_true rfl) (s_X10_within l h p2 0 3 s0 (by omega) (by omega) (by omega)) (rm_ok (by decide) (by decide)) (zq_i fun v8 h9 q7 => ?_)
      obtain ⟨rfl, ⟨rfl, b10⟩ | ⟨rfl, b10⟩⟩ := q7
      · refine zj_if_ne (t := 21) (zdk ttX10_goes 9 rfl rfl) (by decide) (by decide) (fun c11 => ?_) (fun c11 => ?_)
        · exact absurd c11 (by omega)
        · refine zj_iconst (zdk ttX10_goes 10 rfl rfl) ?_
          exact zj_iret rfl (zdk ttX10_goes 11 rfl rfl) (Nat.le_refl _) (Nat.le_refl _) ⟨(-1), rfl, by omega, s0, (zfC_r _ _), (by intro z t0; unfold vGoes; rw [if_neg (by omega)]; exact ⟨rfl, t0⟩)⟩
      · refine zj_if_ne (t := 21) (zdk ttX10_goes 9 rfl rfl) (by decide) (by decide) (fun c12 => ?_) (fun c12 => ?_)
        · refine zj_aload_n (zdk ttX10_goes 12 rfl rfl) rfl (by decide) ?_
          refine zj_getr (r := 69) (zdk ttX10_goes 13 rfl rfl) zf_RX10_19 rfl (k_L0 s0) (rf_L0_2 s0) ?_
          refine zj_aload_n (zdk ttX10_goes 14 rfl rfl) rfl (by decide) ?_
          refine zj_getr (r := 1) (zdk ttX10_goes 15 rfl rfl) zf_RX10_10 rfl (k_L0 s0) (rf_L0_0 s0) ?_
          refine zj_callV (av := [.inr 1]) (st := []) (zdk ttX10_goes 16 rfl rfl) mb_X9_copyFrom mv_RX10_237 (ci := 9) rfl rfl (k_9_0 s0 zWd_69) rfl rfl (Nat.le_of_ble_eq_true rfl) (s2_X9_copyFrom l h 69 1 s0 zWd_69 zWd_1) (rm_ok (by decide) (by decide)) (zq_v fun h15 q13 => ?_)
          obtain ⟨s17, f24, u18, u19, u20, u21, u22, u23⟩ := q13
          have b25i : h15.2 70 3 = h.2 2 3 := u22
          have b25 : h15.2 96 2 = h.2 28 2 := u18
          have b26 : h15.2 96 4 = h.2 28 4 := u19
          have b27 : h15.2 96 6 = h.2 28 6 := u20
          have b28 : h15.2 96 9 = h.2 28 9 := u21
          refine zj_iconst (zdk ttX10_goes 17 rfl rfl) ?_
          refine zj_istore_n (L' := [some (.inr 0), some (.inl p1), some (.inl p2), some (.inl 0)]) (zdk ttX10_goes 18 rfl rfl) (by decide) rfl ?_
          have lp89 : ∀ (n : Nat) (x29 : Int) (h30 : zM), (0 ≤ x29 ∧ x29 ≤ 60) → okC h30 → zfC w_X10_goes h h30 → (∀ z, xK h z → xC h30 69 z.e true (fTd x29.toNat z.e z.x)) → (x29 ≤ p1) → (61 - x29).toNat < n → zJ shC l yX10_goes cX10_goes 4 (some .int) (rmL 8) 0 0 (q2_X10_goes h p1 p2) 0 0 34 [some (.inr 0), some (.inl p1), some (.inl p2), some (.inl x29)] [] h30 := by
            intro n
            induction n with
            | zero => intro x29 h30 b90 s31 f32 u91 u92 m93; exact absurd m93 (Nat.not_lt_zero _)
            | succ n ih94 =>
              intro x29 h30 b90 s31 f32 u91 u92 m93
              refine zj_iload_n (zdk ttX10_goes 19 rfl rfl) rfl ?_
              refine zj_iload_n (zdk ttX10_goes 20 rfl rfl) rfl ?_
              refine zj_icmp_ge (t := 53) (zdk ttX10_goes 21 rfl rfl) (by decide) (by omega) (by omega) (fun c95 => ?_) (fun c95 => ?_)
              · refine zj_aload_n (zdk ttX10_goes 28 rfl rfl) rfl (by decide) ?_
                refine zj_getr (r := 69) (zdk ttX10_goes 29 rfl rfl) zf_RX10_19 rfl (k_L0 s31) (rf_L0_2 s31) ?_
                refine zj_getr (r := 70) (zdk ttX10_goes 30 rfl rfl) zf_RX10_67 rfl (k_9_0 s31 zWd_69) (rf_9_0_0 s31 zWd_69) ?_
                refine zj_astore_n (L' := [some (.inr 0), some (.inl p1), some (.inl p2), some (.inr 70)]) (zdk ttX10_goes 31 rfl rfl) (by decide) (by decide) rfl ?_
                refine zj_iload_n (zdk ttX10_goes 32 rfl rfl) rfl ?_
                have k97 : (p2 < 0 ∨ 2 < p2) → zJ shC l yX10_goes cX10_goes 4 (some .int) (rmL 8) 0 0 (q2_X10_goes h p1 p2) 0 0 106 [some (.inr 0), some (.inl p1), some (.inl p2), some (.inr 70)] [] h30 := by
                  intro c96
                  refine zj_aload_n (zdk ttX10_goes 44 rfl rfl) rfl (by decide) ?_
                  have b98 : -2147483648 ≤ (h30.2 70 11) ∧ (h30.2 70 11) ≤ 2147483647 := fb_1_0_11 s31 zIs_70
                  refine zj_geti (v := (h30.2 70 11)) (zdk ttX10_goes 45 rfl rfl) zf_RX10_103 rfl (k_1_0 s31 zIs_70) rfl ?_
                  exact zj_iret rfl (zdk ttX10_goes 46 rfl rfl) (Nat.le_refl _) (Nat.le_refl _) ⟨(h30.2 70 11), rfl, by omega, s31, f32, (by intro z t0; unfold vGoes; rw [if_pos (by omega)]; have tH := u91 z t0; rw [show x29 = p1 by omega] at tH; have g9 := xC_g9 tH; refine ⟨?_, (xK_f s0 t0 (zfC_a f32 (fun z9 => by unfold w_X10_goes at z9; first | (revert z9; decide) | omega)) (zfC_a f32 (fun z9 => by unfold w_X10_goes at z9; first | (revert z9; decide) | omega)) (fun a9 b9 y9 => by unfold zD at y9; exact (zfC_a f32 (fun z9 => by unfold w_X10_goes at z9; first | (revert z9; decide) | omega))) (fun a9 b9 y9 => by unfold zD at y9; exact (zfC_a f32 (fun z9 => by unfold w_X10_goes at z9; first | (revert z9; decide) | omega))) (fun a9 b9 y9 z9 => (zfC_a f32 (fun z9 => by unfold w_X10_goes at z9; first | (revert z9; decide) | omega))))⟩; first | (rw [if_pos (by omega)]; omega) | (rw [if_neg (by omega), if_neg (by omega), if_pos (by omega)]; omega) | (rw [if_neg (by omega), if_neg (by omega), if_neg (by omega)]; omega))⟩
                have k99 : p2 = 0 → zJ shC l yX10_goes cX10_goes 4 (some .int) (rmL 8) 0 0 (q2_X10_goes h p1 p2) 0 0 88 [some (.inr 0), some (.inl p1), some (.inl p2), some (.inr 70)] [] h30 := by
                  intro c96
                  refine zj_aload_n (zdk ttX10_goes 34 rfl rfl) rfl (by decide) ?_
                  have b100 : 0 ≤ (h30.2 70 6) ∧ (h30.2 70 6) ≤ 719 := fb_1_0_6 s31 zIs_70
                  refine zj_geti (v := (h30.2 70 6)) (zdk ttX10_goes 35 rfl rfl) zf_RX10_97 rfl (k_1_0 s31 zIs_70) rfl ?_
                  exact zj_iret rfl (zdk ttX10_goes 36 rfl rfl) (Nat.le_refl _) (Nat.le_refl _) ⟨(h30.2 70 6), rfl, by omega, s31, f32, (by intro z t0; unfold vGoes; rw [if_pos (by omega)]; have tH := u91 z t0; rw [show x29 = p1 by omega] at tH; have g9 := xC_g9 tH; refine ⟨?_, (xK_f s0 t0 (zfC_a f32 (fun z9 => by unfold w_X10_goes at z9; first | (revert z9; decide) | omega)) (zfC_a f32 (fun z9 => by unfold w_X10_goes at z9; first | (revert z9; decide) | omega)) (fun a9 b9 y9 => by unfold zD at y9; exact (zfC_a f32 (fun z9 => by unfold w_X10_goes at z9; first | (revert z9; decide) | omega))) (fun a9 b9 y9 => by unfold zD at y9; exact (zfC_a f32 (fun z9 => by unfold w_X10_goes at z9; first | (revert z9; decide) | omega))) (fun a9 b9 y9 z9 => (zfC_a f32 (fun z9 => by unfold w_X10_goes at z9; first | (revert z9; decide) | omega))))⟩; first | (rw [if_pos (by omega)]; omega) | (rw [if_neg (by omega), if_neg (by omega), if_pos (by omega)]; omega) | (rw [if_neg (by omega), if_neg (by omega), if_neg (by omega)]; omega))⟩
                have k101 : p2 = 1 → zJ shC l yX10_goes cX10_goes 4 (some .int) (rmL 8) 0 0 (q2_X10_goes h p1 p2) 0 0 93 [some (.inr 0), some (.inl p1), some (.inl p2), some (.inr 70)] [] h30 := by
                  intro c96
                  refine zj_aload_n (zdk ttX10_goes 37 rfl rfl) rfl (by decide) ?_
                  have b102 : -2147483648 ≤ (h30.2 70 4) ∧ (h30.2 70 4) ≤ 2147483647 := fb_1_0_4 s31 zIs_70
                  refine zj_geti (v := (h30.2 70 4)) (zdk ttX10_goes 38 rfl rfl) zf_RX10_240 rfl (k_1_0 s31 zIs_70) rfl ?_
                  refine zj_callS (av := [.inl (h30.2 70 4)]) (st := []) (zdk ttX10_goes 39 rfl rfl) mb_J6_bitCount_0f7a4 ms_RX10_243 rfl rfl (Nat.le_of_ble_eq_true rfl) (s2_J6_bitCount_0f7a4 shC l h30 (h30.2 70 4)) (rm_ok (by decide) (by decide)) (zq_i fun v103 h104 q105 => ?_)
                  obtain ⟨rfl, b106⟩ := q105
                  have b106b := zbcF_b (h30.2 70 4)
                  have b106c : 0 ≤ v103 ∧ v103 ≤ 63 := by omega
                  exact zj_iret rfl (zdk ttX10_goes 40 rfl rfl) (Nat.le_refl _) (Nat.le_refl _) ⟨v103, rfl, by omega, s31, f32, (by intro z t0; unfold vGoes; rw [if_pos (by omega)]; have tH := u91 z t0; rw [show x29 = p1 by omega] at tH; have g9 := xC_g9 tH; refine ⟨?_, (xK_f s0 t0 (zfC_a f32 (fun z9 => by unfold w_X10_goes at z9; first | (revert z9; decide) | omega)) (zfC_a f32 (fun z9 => by unfold w_X10_goes at z9; first | (revert z9; decide) | omega)) (fun a9 b9 y9 => by unfold zD at y9; exact (zfC_a f32 (fun z9 => by unfold w_X10_goes at z9; first | (revert z9; decide) | omega))) (fun a9 b9 y9 => by unfold zD at y9; exact (zfC_a f32 (fun z9 => by unfold w_X10_goes at z9; first | (revert z9; decide) | omega))) (fun a9 b9 y9 z9 => (zfC_a f32 (fun z9 => by unfold w_X10_goes at z9; first | (revert z9; decide) | omega))))⟩; have ct := xC_ct9 tH (by omega); rw [if_neg (by omega), if_pos (by omega)]; omega)⟩
                have k107 : p2 = 2 → zJ shC l yX10_goes cX10_goes 4 (some .int) (rmL 8) 0 0 (q2_X10_goes h p1 p2) 0 0 101 [some (.inr 0), some (.inl p1), some (.inl p2), some (.inr 70)] [] h30 := by
                  intro c96
                  refine zj_aload_n (zdk ttX10_goes 41 rfl rfl) rfl (by decide) ?_
                  have b108 : -2147483648 ≤ (h30.2 70 8) ∧ (h30.2 70 8) ≤ 2147483647 := fb_1_0_8 s31 zIs_70
                  refine zj_geti (v := (h30.2 70 8)) (zdk ttX10_goes 42 rfl rfl) zf_RX10_130 rfl (k_1_0 s31 zIs_70) rfl ?_
                  exact zj_iret rfl (zdk ttX10_goes 43 rfl rfl) (Nat.le_refl _) (Nat.le_refl _) ⟨(h30.2 70 8), rfl, by omega, s31, f32, (by intro z t0; unfold vGoes; rw [if_pos (by omega)]; have tH := u91 z t0; rw [show x29 = p1 by omega] at tH; have g9 := xC_g9 tH; refine ⟨?_, (xK_f s0 t0 (zfC_a f32 (fun z9 => by unfold w_X10_goes at z9; first | (revert z9; decide) | omega)) (zfC_a f32 (fun z9 => by unfold w_X10_goes at z9; first | (revert z9; decide) | omega)) (fun a9 b9 y9 => by unfold zD at y9; exact (zfC_a f32 (fun z9 => by unfold w_X10_goes at z9; first | (revert z9; decide) | omega))) (fun a9 b9 y9 => by unfold zD at y9; exact (zfC_a f32 (fun z9 => by unfold w_X10_goes at z9; first | (revert z9; decide) | omega))) (fun a9 b9 y9 z9 => (zfC_a f32 (fun z9 => by unfold w_X10_goes at z9; first | (revert z9; decide) | omega))))⟩; first | (rw [if_pos (by omega)]; omega) | (rw [if_neg (by omega), if_neg (by omega), if_pos (by omega)]; omega) | (rw [if_neg (by omega), if_neg (by omega), if_neg (by omega)]; omega))⟩
                refine zj_table (t := 106) (zdk ttX10_goes 33 rfl rfl) (by omega) (by decide) k97 (fun z1 z2 => ?_)
                have z3 : p2 = 0 ∨ p2 = 1 ∨ p2 = 2 := by omega
                rcases z3 with z3 | z3 | z3
                · exact ⟨26, 88, by rw [z3] <;> rfl, by decide, k99 z3⟩
                · exact ⟨31, 93, by rw [z3] <;> rfl, by decide, k101 z3⟩
                · exact ⟨39, 101, by rw [z3] <;> rfl, by decide, k107 z3⟩
              · refine zj_aload_n (zdk ttX10_goes 22 rfl rfl) rfl (by decide) ?_
                refine zj_getr (r := 69) (zdk ttX10_goes 23 rfl rfl) zf_RX10_19 rfl (k_L0 s31) (rf_L0_2 s31) ?_
                refine zj_iconst (zdk ttX10_goes 24 rfl rfl) ?_
                refine zj_callV (av := [.inl 1]) (st := []) (zdk ttX10_goes 25 rfl rfl) mb_X9_passDay mv_RX10_133 (ci := 9) rfl rfl (k_9_0 s31 zWd_69) rfl rfl (Nat.le_of_ble_eq_true rfl) (s2_X9_passDay l h30 69 1 s31 zWd_69 (by omega)) (rm_ok (by decide) (by decide)) (zq_v fun h111 q109 => ?_)
                obtain ⟨s113, f115, u114⟩ := q109
                refine zj_iinc (L' := [some (.inr 0), some (.inl p1), some (.inl p2), some (.inl (x29 + 1))]) (zdk ttX10_goes 26 rfl rfl) rfl (by decide) rfl ?_
                refine zj_goto (t := 34) (zdk ttX10_goes 27 rfl rfl) (by decide) ?_
                have f116 : zfC w_X10_goes h h111 := zfC_t f32 f115 (fun a9 b9 z9 => by
                  rcases z9 with z9 | z9 | z9 | z9 | z9
                  · exact (Or.inl (by omega))
                  · exact (Or.inr (Or.inl (by omega)))
                  · exact (Or.inr (Or.inr (Or.inr (Or.inl (by omega)))))
                  · exact (Or.inr (Or.inr (Or.inr (Or.inr (Or.inr (Or.inr (Or.inr (Or.inr (Or.inr (Or.inr (Or.inl z9)))))))))))
                  · exact (Or.inr (Or.inr (Or.inr (Or.inr (Or.inr (Or.inr (Or.inr (Or.inr (Or.inr (Or.inr (Or.inr (Or.inl z9)))))))))))))
                exact ih94  (x29 + 1) h111 (by omega) s113 f116 (by intro z t0; have tH := u91 z t0; rw [fTd_n (by omega)]; have t2 : xC h111 69 z.e true (fDy z.e true (fTd x29.toNat z.e z.x)) := u114 z.e _ tH; exact t2) (by omega) (by omega)
          have f117 : zfC w_X10_goes h h15 := zfC_t (zfC_r _ _) f24 (fun a9 b9 z9 => by
            rcases z9 with z9 | z9 | z9 | z9 | z9 | z9 | z9 | z9 | z9 | z9 | z9 | z9 | z9 | z9 | z9 | z9 | z9
            · exact (Or.inl z9)
            · exact (Or.inr (Or.inl z9))
            · exact (Or.inr (Or.inr (Or.inl z9)))
            · exact (Or.inr (Or.inr (Or.inr (Or.inl (by omega)))))
            · exact (Or.inr (Or.inr (Or.inr (Or.inr (Or.inl z9)))))
            · exact (Or.inr (Or.inr (Or.inr (Or.inr (Or.inr (Or.inl z9))))))
            · exact (Or.inr (Or.inr (Or.inr (Or.inr (Or.inr (Or.inr (Or.inl z9)))))))
            · exact (Or.inr (Or.inr (Or.inr (Or.inr (Or.inr (Or.inr (Or.inr (Or.inl z9))))))))
            · exact (Or.inr (Or.inr (Or.inr (Or.inr (Or.inr (Or.inr (Or.inr (Or.inr (Or.inl z9)))))))))
            · exact (Or.inr (Or.inr (Or.inr (Or.inr (Or.inr (Or.inr (Or.inr (Or.inr (Or.inr (Or.inl z9))))))))))
            · exact (Or.inr (Or.inr (Or.inr (Or.inr (Or.inr (Or.inr (Or.inr (Or.inr (Or.inr (Or.inr (Or.inl z9)))))))))))
            · exact (Or.inr (Or.inr (Or.inr (Or.inr (Or.inr (Or.inr (Or.inr (Or.inr (Or.inr (Or.inr (Or.inr (Or.inl z9))))))))))))
            · exact (Or.inr (Or.inr (Or.inr (Or.inr (Or.inr (Or.inr (Or.inr (Or.inr (Or.inr (Or.inr (Or.inr (Or.inr (Or.inl z9)))))))))))))
            · exact (Or.inr (Or.inr (Or.inr (Or.inr (Or.inr (Or.inr (Or.inr (Or.inr (Or.inr (Or.inr (Or.inr (Or.inr (Or.inr (Or.inl z9))))))))))))))
            · exact (Or.inr (Or.inr (Or.inr (Or.inr (Or.inr (Or.inr (Or.inr (Or.inr (Or.inr (Or.inr (Or.inr (Or.inr (Or.inr (Or.inr (Or.inl z9)))))))))))))))
            · exact (Or.inr (Or.inr (Or.inr (Or.inr (Or.inr (Or.inr (Or.inr (Or.inr (Or.inr (Or.inr (Or.inr (Or.inr (Or.inr (Or.inr (Or.inr (Or.inl z9))))))))))))))))
            · exact (Or.inr (Or.inr (Or.inr (Or.inr (Or.inr (Or.inr (Or.inr (Or.inr (Or.inr (Or.inr (Or.inr (Or.inr (Or.inr (Or.inr (Or.inr (Or.inr z9)))))))))))))))))
          exact lp89 _ 0 h15 (by omega) s17 f117 (by intro z t0; exact xC_th (xC_cp t0.1 u23)) (by omega) (Nat.lt_succ_self _)
        · exact absurd c12 (by omega)

abbrev q2_X10_lonely (h : zM) : Option zV → zM → Prop := zqi fun v h' => ((-2147483648) ≤ v ∧ v ≤ 2147483647) ∧ okC h' ∧ zfC w_X10_lonely h h' ∧ (∀ z, xK h z → v = vLon z ∧ xK h' z)
set_option maxRecDepth 100000 in
set_option maxHeartbeats 4000000 in
theorem s2_X10_lonely (l : Launch) (h : zM) (s0 : okC h) : zT shC l yX10_lonely cX10_lonely 2 (some .int) (rmL 8) 0 0 [.inr 0] h (q2_X10_lonely h) := by
  refine zT_of (by decide +kernel) (L0 := [some (.inr 0), none]) rfl (Nat.le_of_ble_eq_true rfl) ?_
  refine zj_aload_n (zdk ttX10_lonely 0 rfl rfl) rfl (by decide) ?_
  refine zj_getr (r := 69) (zdk ttX10_lonely 1 rfl rfl) zf_RX10_19 rfl (k_L0 s0) (rf_L0_2 s0) ?_
  refine zj_aload_n (zdk ttX10_lonely 2 rfl rfl) rfl (by decide) ?_
  refine zj_getr (r := 1) (zdk ttX10_lonely 3 rfl rfl) zf_RX10_10 rfl (k_L0 s0) (rf_L0_0 s0) ?_
  refine zj_callV (av := [.inr 1]) (st := []) (zdk ttX10_lonely 4 rfl rfl) mb_X9_copyFrom mv_RX10_237 (ci := 9) rfl rfl (k_9_0 s0 zWd_69) rfl rfl (Nat.le_of_ble_eq_true rfl) (s2_X9_copyFrom l h 69 1 s0 zWd_69 zWd_1) (rm_ok (by decide) (by decide)) (zq_v fun h3 q1 => ?_)
  obtain ⟨s5, f12, u6, u7, u8, u9, u10, u11⟩ := q1
  have b13i : h3.2 70 3 = h.2 2 3 := u10
  have b13 : h3.2 96 2 = h.2 28 2 := u6
  have b14 : h3.2 96 4 = h.2 28 4 := u7
  have b15 : h3.2 96 6 = h.2 28 6 := u8
  have b16 : h3.2 96 9 = h.2 28 9 := u9
  refine zj_iconst (zdk ttX10_lonely 5 rfl rfl) ?_
  refine zj_istore_n (L' := [some (.inr 0), some (.inl 0)]) (zdk ttX10_lonely 6 rfl rfl) (by decide) rfl ?_
  have lp31 : ∀ (n : Nat) (x17 : Int) (h18 : zM), (0 ≤ x17 ∧ x17 ≤ 61) → okC h18 → zfC w_X10_lonely h h18 → (∀ z, xK h z → ∃ y, xC h18 69 z.e true y ∧ fLo z.e (61 - x17).toNat x17 y = vLon z) → (62 - x17).toNat < n → zJ shC l yX10_lonely cX10_lonely 2 (some .int) (rmL 8) 0 0 (q2_X10_lonely h) 0 0 13 [some (.inr 0), some (.inl x17)] [] h18 := by
    intro n
    induction n with
    | zero => intro x17 h18 b32 s19 f20 u33 m34; exact absurd m34 (Nat.not_lt_zero _)
    | succ n ih35 =>
      intro x17 h18 b32 s19 f20 u33 m34
      refine zj_iload_n (zdk ttX10_lonely 7 rfl rfl) rfl ?_
      refine zj_bipush (zdk ttX10_lonely 8 rfl rfl) (by decide) ?_
      refine zj_icmp_gt (t := 48) (zdk ttX10_lonely 9 rfl rfl) (by decide) (by omega) (by decide) (fun c36 => ?_) (fun c36 => ?_)
      · refine zj_iconst (zdk ttX10_lonely 23 rfl rfl) ?_
        exact zj_iret rfl (zdk ttX10_lonely 24 rfl rfl) (Nat.le_refl _) (Nat.le_refl _) ⟨(-1), rfl, by omega, s19, f20, (by intro z t0; obtain ⟨y, tH, r1⟩ := u33 z t0; refine ⟨?_, (xK_f s0 t0 (zfC_a f20 (fun z9 => by unfold w_X10_lonely at z9; first | (revert z9; decide) | omega)) (zfC_a f20 (fun z9 => by unfold w_X10_lonely at z9; first | (revert z9; decide) | omega)) (fun a9 b9 y9 => by unfold zD at y9; exact (zfC_a f20 (fun z9 => by unfold w_X10_lonely at z9; first | (revert z9; decide) | omega))) (fun a9 b9 y9 => by unfold zD at y9; exact (zfC_a f20 (fun z9 => by unfold w_X10_lonely at z9; first | (revert z9; decide) | omega))) (fun a9 b9 y9 z9 => (zfC_a f20 (fun z9 => by unfold w_X10_lonely at z9; first | (revert z9; decide) | omega))))⟩; rw [fLo_e (by omega)] at r1; exact r1)⟩
      · refine zj_aload_n (zdk ttX10_lonely 10 rfl rfl) rfl (by decide) ?_
        refine zj_getr (r := 69) (zdk ttX10_lonely 11 rfl rfl) zf_RX10_19 rfl (k_L0 s19) (rf_L0_2 s19) ?_
        refine zj_getr (r := 70) (zdk ttX10_lonely 12 rfl rfl) zf_RX10_67 rfl (k_9_0 s19 zWd_69) (rf_9_0_0 s19 zWd_69) ?_
        have b37 : -2147483648 ≤ (h18.2 70 4) ∧ (h18.2 70 4) ≤ 2147483647 := fb_1_0_4 s19 zIs_70
        refine zj_geti (v := (h18.2 70 4)) (zdk ttX10_lonely 13 rfl rfl) zf_RX10_240 rfl (k_1_0 s19 zIs_70) rfl ?_
        refine zj_if_ne (t := 34) (zdk ttX10_lonely 14 rfl rfl) (by decide) (by omega) (fun c38 => ?_) (fun c38 => ?_)
        · refine zj_aload_n (zdk ttX10_lonely 17 rfl rfl) rfl (by decide) ?_
          refine zj_getr (r := 69) (zdk ttX10_lonely 18 rfl rfl) zf_RX10_19 rfl (k_L0 s19) (rf_L0_2 s19) ?_
          refine zj_iconst (zdk ttX10_lonely 19 rfl rfl) ?_
          refine zj_callV (av := [.inl 1]) (st := []) (zdk ttX10_lonely 20 rfl rfl) mb_X9_passDay mv_RX10_133 (ci := 9) rfl rfl (k_9_0 s19 zWd_69) rfl rfl (Nat.le_of_ble_eq_true rfl) (s2_X9_passDay l h18 69 1 s19 zWd_69 (by omega)) (rm_ok (by decide) (by decide)) (zq_v fun h41 q39 => ?_)
          obtain ⟨s43, f45, u44⟩ := q39
          refine zj_iinc (L' := [some (.inr 0), some (.inl (x17 + 1))]) (zdk ttX10_lonely 21 rfl rfl) rfl (by decide) rfl ?_
          refine zj_goto (t := 13) (zdk ttX10_lonely 22 rfl rfl) (by decide) ?_
          have f46 : zfC w_X10_lonely h h41 := zfC_t f20 f45 (fun a9 b9 z9 => by
            rcases z9 with z9 | z9 | z9 | z9 | z9
            · exact (Or.inl (by omega))
            · exact (Or.inr (Or.inl (by omega)))
            · exact (Or.inr (Or.inr (Or.inr (Or.inl (by omega)))))
            · exact (Or.inr (Or.inr (Or.inr (Or.inr (Or.inr (Or.inr (Or.inr (Or.inr (Or.inr (Or.inr (Or.inl z9)))))))))))
            · exact (Or.inr (Or.inr (Or.inr (Or.inr (Or.inr (Or.inr (Or.inr (Or.inr (Or.inr (Or.inr (Or.inr (Or.inl z9)))))))))))))
          exact ih35  (x17 + 1) h41 (by omega) s43 f46 (by intro z t0; obtain ⟨y, tH, r1⟩ := u33 z t0; have h9 := xC_h9 tH (by omega); have t2 : xC h41 69 z.e true (fDy z.e true y) := u44 z.e y tH; exact ⟨_, t2, (fLo_n (by omega) (by omega)).symm.trans r1⟩) (by omega)
        · refine zj_iload_n (zdk ttX10_lonely 15 rfl rfl) rfl ?_
          exact zj_iret rfl (zdk ttX10_lonely 16 rfl rfl) (Nat.le_refl _) (Nat.le_refl _) ⟨x17, rfl, by omega, s19, f20, (by intro z t0; obtain ⟨y, tH, r1⟩ := u33 z t0; refine ⟨?_, (xK_f s0 t0 (zfC_a f20 (fun z9 => by unfold w_X10_lonely at z9; first | (revert z9; decide) | omega)) (zfC_a f20 (fun z9 => by unfold w_X10_lonely at z9; first | (revert z9; decide) | omega)) (fun a9 b9 y9 => by unfold zD at y9; exact (zfC_a f20 (fun z9 => by unfold w_X10_lonely at z9; first | (revert z9; decide) | omega))) (fun a9 b9 y9 => by unfold zD at y9; exact (zfC_a f20 (fun z9 => by unfold w_X10_lonely at z9; first | (revert z9; decide) | omega))) (fun a9 b9 y9 z9 => (zfC_a f20 (fun z9 => by unfold w_X10_lonely at z9; first | (revert z9; decide) | omega))))⟩; have h9 := xC_h9 tH (by omega); rw [fLo_y (by omega) (by omega)] at r1; exact r1)⟩
  have f47 : zfC w_X10_lonely h h3 := zfC_t (zfC_r _ _) f12 (fun a9 b9 z9 => by
    rcases z9 with z9 | z9 | z9 | z9 | z9 | z9 | z9 | z9 | z9 | z9 | z9 | z9 | z9 | z9 | z9 | z9 | z9
    · exact (Or.inl z9)
    · exact (Or.inr (Or.inl z9))
    · exact (Or.inr (Or.inr (Or.inl z9)))
    · exact (Or.inr (Or.inr (Or.inr (Or.inl (by omega)))))
    · exact (Or.inr (Or.inr (Or.inr (Or.inr (Or.inl z9)))))
    · exact (Or.inr (Or.inr (Or.inr (Or.inr (Or.inr (Or.inl z9))))))
    · exact (Or.inr (Or.inr (Or.inr (Or.inr (Or.inr (Or.inr (Or.inl z9)))))))
    · exact (Or.inr (Or.inr (Or.inr (Or.inr (Or.inr (Or.inr (Or.inr (Or.inl z9))))))))
    · exact (Or.inr (Or.inr (Or.inr (Or.inr (Or.inr (Or.inr (Or.inr (Or.inr (Or.inl z9)))))))))
    · exact (Or.inr (Or.inr (Or.inr (Or.inr (Or.inr (Or.inr (Or.inr (Or.inr (Or.inr (Or.inl z9))))))))))
    · exact (Or.inr (Or.inr (Or.inr (Or.inr (Or.inr (Or.inr (Or.inr (Or.inr (Or.inr (Or.inr (Or.inl z9)))))))))))
    · exact (Or.inr (Or.inr (Or.inr (Or.inr (Or.inr (Or.inr (Or.inr (Or.inr (Or.inr (Or.inr (Or.inr (Or.inl z9))))))))))))
    · exact (Or.inr (Or.inr (Or.inr (Or.inr (Or.inr (Or.inr (Or.inr (Or.inr (Or.inr (Or.inr (Or.inr (Or.inr (Or.inl z9)))))))))))))
    · exact (Or.inr (Or.inr (Or.inr (Or.inr (Or.inr (Or.inr (Or.inr (Or.inr (Or.inr (Or.inr (Or.inr (Or.inr (Or.inr (Or.inl z9))))))))))))))
    · exact (Or.inr (Or.inr (Or.inr (Or.inr (Or.inr (Or.inr (Or.inr (Or.inr (Or.inr (Or.inr (Or.inr (Or.inr (Or.inr (Or.inr (Or.inl z9)))))))))))))))
    · exact (Or.inr (Or.inr (Or.inr (Or.inr (Or.inr (Or.inr (Or.inr (Or.inr (Or.inr (Or.inr (Or.inr (Or.inr (Or.inr (Or.inr (Or.inr (Or.inl z9))))))))))))))))
    · exact (Or.inr (Or.inr (Or.inr (Or.inr (Or.inr (Or.inr (Or.inr (Or.inr (Or.inr (Or.inr (Or.inr (Or.inr (Or.inr (Or.inr (Or.inr (Or.inr z9)))))))))))))))))
  exact lp31 _ 0 h3 (by omega) s5 f47 (by intro z t0; exact ⟨z.x, xC_th (xC_cp t0.1 u11), rfl⟩) (Nat.lt_succ_self _)
