abbrev q2_X10_days (h : zM) (p1 : Int) : Option zV → zM → Prop := zqi fun v h' => ((-2147483648) ≤ v ∧ v ≤ 2147483647) ∧ okC h' ∧ zfC w_X10_days h h' ∧ (zJP h → zJP h') ∧ (∀ z, xK h z → fWz z → v = (pDays p1 z).1 ∧ xK h' (pDays p1 z).2)
set_option maxRecDepth 100000 in
set_option maxHeartbeats 4000000 in
theorem s2_X10_days (l : Launch) (h : zM) (p1 : Int) (s0 : okC h) (b_p1 : (-2147483648) ≤ p1 ∧ p1 ≤ 2147483647) : zT shC l yX10_days cX10_days 4 (some .int) (rmL 8) 0 0 [.inr 0, .inl p1] h (q2_X10_days h p1) := by
  refine zT_of (by decide +kernel) (L0 := [some (.inr 0), some (.inl p1), none, none]) rfl (Nat.le_of_ble_eq_true rfl) ?_
  refine zj_iload_n (zdk ttX10_days 0 rfl rfl) rfl ?_
  refine zj_iconst (zdk ttX10_days 1 rfl rfl) ?_
  refine zj_bipush (zdk ttX10_days 2 rfl rfl) (by decide) ?_
  refine zj_callS (av := [.inl p1, .inl 1, .inl 60]) (st := []) (zdk ttX10_days 3 rfl rfl) mb_X10_within ms_RX10_77 rfl rfl (Nat.le_of_ble_eq_true rfl) (s_X10_within l h p1 1 60 s0 (by omega) (by omega) (by omega)) (rm_ok (by decide) (by decide)) (zq_i fun v2 h3 q1 => ?_)
  obtain ⟨rfl, ⟨rfl, b4⟩ | ⟨rfl, b4⟩⟩ := q1
  · refine zj_if_eq (t := 28) (zdk ttX10_days 4 rfl rfl) (by decide) (by decide) (fun c5 => ?_) (fun c5 => ?_)
    · refine zj_iconst (zdk ttX10_days 13 rfl rfl) ?_
      exact zj_iret rfl (zdk ttX10_days 14 rfl rfl) (Nat.le_refl _) (Nat.le_refl _) ⟨(-1), rfl, by omega, s0, (zfC_r _ _), (fun j => j), (by intro z t0 w0; have g0 := xK_g t0; have w1 := w0.1; have zd : zwp ((h.2 2 12) + p1) = (h.2 2 12) + p1 ∨ ¬ (1 ≤ p1 ∧ p1 ≤ 60) := (by by_cases q9 : 1 ≤ p1 ∧ p1 ≤ 60; exact Or.inl (zwp_s (by omega)); exact Or.inr q9); unfold pDays; rw [if_neg (by omega)]; exact ⟨rfl, t0⟩)⟩
    · exact absurd c5 (by omega)
  · refine zj_if_eq (t := 28) (zdk ttX10_days 4 rfl rfl) (by decide) (by decide) (fun c6 => ?_) (fun c6 => ?_)
    · exact absurd c6 (by omega)
    · refine zj_aload_n (zdk ttX10_days 5 rfl rfl) rfl (by decide) ?_
      refine zj_getr (r := 1) (zdk ttX10_days 6 rfl rfl) zf_RX10_10 rfl (k_L0 s0) (rf_L0_0 s0) ?_
      refine zj_getr (r := 2) (zdk ttX10_days 7 rfl rfl) zf_RX10_67 rfl (k_9_0 s0 zWd_1) (rf_9_0_0 s0 zWd_1) ?_
      have b7 : -2147483648 ≤ (h.2 2 12) ∧ (h.2 2 12) ≤ 2147483647 := fb_1_0_12 s0 zIs_2
      refine zj_geti (v := (h.2 2 12)) (zdk ttX10_days 8 rfl rfl) zf_RX10_127 rfl (k_1_0 s0 zIs_2) rfl ?_
      refine zj_iload_n (zdk ttX10_days 9 rfl rfl) rfl ?_
      refine zj_iadd (zdk ttX10_days 10 rfl rfl) ?_
      refine zj_wrap ?_
      have b8 := zwp_in ((h.2 2 12) + p1)
      refine zj_sipush (zdk ttX10_days 11 rfl rfl) (by decide) ?_
      refine zj_icmp_le (t := 30) (zdk ttX10_days 12 rfl rfl) (by decide) (by omega) (by decide) (fun c9 => ?_) (fun c9 => ?_)
      · refine zj_aload_n (zdk ttX10_days 15 rfl rfl) rfl (by decide) ?_
        refine zj_getr (r := 1) (zdk ttX10_days 16 rfl rfl) zf_RX10_10 rfl (k_L0 s0) (rf_L0_0 s0) ?_
        refine zj_getr (r := 2) (zdk ttX10_days 17 rfl rfl) zf_RX10_67 rfl (k_9_0 s0 zWd_1) (rf_9_0_0 s0 zWd_1) ?_
        have b10 : -2147483648 ≤ (h.2 2 8) ∧ (h.2 2 8) ≤ 2147483647 := fb_1_0_8 s0 zIs_2
        refine zj_geti (v := (h.2 2 8)) (zdk ttX10_days 18 rfl rfl) zf_RX10_130 rfl (k_1_0 s0 zIs_2) rfl ?_
        refine zj_istore_n (L' := [some (.inr 0), some (.inl p1), some (.inl (h.2 2 8)), none]) (zdk ttX10_days 19 rfl rfl) (by decide) rfl ?_
        refine zj_iconst (zdk ttX10_days 20 rfl rfl) ?_
        refine zj_istore_n (L' := [some (.inr 0), some (.inl p1), some (.inl (h.2 2 8)), some (.inl 0)]) (zdk ttX10_days 21 rfl rfl) (by decide) rfl ?_
        have lp95 : ∀ (n : Nat) (x11 : Int) (h12 : zM), (0 ≤ x11 ∧ x11 ≤ 60) → okC h12 → zfC w_X10_days h h12 → (zJP h → zJP h12) → (∀ z, xK h z → xK h12 (fDs x11.toNat z)) → (x11 ≤ p1) → (61 - x11).toNat < n → zJ shC l yX10_days cX10_days 4 (some .int) (rmL 8) 0 0 (q2_X10_days h p1) 0 0 43 [some (.inr 0), some (.inl p1), some (.inl (h.2 2 8)), some (.inl x11)] [] h12 := by
          intro n
          induction n with
          | zero => intro x11 h12 b96 s13 f14 u97 u98 u99 m100; exact absurd m100 (Nat.not_lt_zero _)
          | succ n ih101 =>
            intro x11 h12 b96 s13 f14 u97 u98 u99 m100
            refine zj_iload_n (zdk ttX10_days 22 rfl rfl) rfl ?_
            refine zj_iload_n (zdk ttX10_days 23 rfl rfl) rfl ?_
            refine zj_icmp_ge (t := 66) (zdk ttX10_days 24 rfl rfl) (by decide) (by omega) (by omega) (fun c102 => ?_) (fun c102 => ?_)
            · refine zj_aload_n (zdk ttX10_days 33 rfl rfl) rfl (by decide) ?_
              refine zj_getr (r := 1) (zdk ttX10_days 34 rfl rfl) zf_RX10_10 rfl (k_L0 s13) (rf_L0_0 s13) ?_
              refine zj_getr (r := 2) (zdk ttX10_days 35 rfl rfl) zf_RX10_67 rfl (k_9_0 s13 zWd_1) (rf_9_0_0 s13 zWd_1) ?_
              have b103 : -2147483648 ≤ (h12.2 2 8) ∧ (h12.2 2 8) ≤ 2147483647 := fb_1_0_8 s13 zIs_2
              refine zj_geti (v := (h12.2 2 8)) (zdk ttX10_days 36 rfl rfl) zf_RX10_130 rfl (k_1_0 s13 zIs_2) rfl ?_
              refine zj_iload_n (zdk ttX10_days 37 rfl rfl) rfl ?_
              refine zj_isub (zdk ttX10_days 38 rfl rfl) ?_
              refine zj_wrap ?_
              have b104 := zwp_in ((h12.2 2 8) - (h.2 2 8))
              exact zj_iret rfl (zdk ttX10_days 39 rfl rfl) (Nat.le_refl _) (Nat.le_refl _) ⟨(zwp ((h12.2 2 8) - (h.2 2 8))), rfl, by omega, s13, f14, u97, (by intro z t0 w0; have g0 := xK_g t0; have w1 := w0.1; have zd : zwp ((h.2 2 12) + p1) = (h.2 2 12) + p1 ∨ ¬ (1 ≤ p1 ∧ p1 ≤ 60) := (by by_cases q9 : 1 ≤ p1 ∧ p1 ≤ 60; exact Or.inl (zwp_s (by omega)); exact Or.inr q9); unfold pDays; rw [if_pos (by omega)]; have tH := u98 z t0; rw [show x11 = p1 by omega] at tH; have g1 := xK_g tH; refine ⟨?_, tH⟩; show (zwp ((h12.2 2 8) - (h.2 2 8))) = zwp ((fDs p1.toNat z).x.1 5 - z.x.1 5); rw [← g1.2.2.2.1, ← g0.2.2.2.1])⟩
            · refine zj_aload_n (zdk ttX10_days 25 rfl rfl) rfl (by decide) ?_
              refine zj_callV (av := []) (st := []) (zdk ttX10_days 26 rfl rfl) mb_X10_remember mv_RX10_114 (ci := 10) rfl rfl (k_L0 s13) rfl rfl (Nat.le_of_ble_eq_true rfl) (s2_X10_remember l h12 s13) (rm_ok (by decide) (by decide)) (zq_v fun h107 q105 => ?_)
              obtain ⟨s109, f112, u110, u111⟩ := q105
              refine zj_aload_n (zdk ttX10_days 27 rfl rfl) rfl (by decide) ?_
              refine zj_getr (r := 1) (zdk ttX10_days 28 rfl rfl) zf_RX10_10 rfl (k_L0 s109) (rf_L0_0 s109) ?_
              refine zj_iconst (zdk ttX10_days 29 rfl rfl) ?_
              refine zj_callV (av := [.inl 0]) (st := []) (zdk ttX10_days 30 rfl rfl) mb_X9_passDay mv_RX10_133 (ci := 9) rfl rfl (k_9_0 s109 zWd_1) rfl rfl (Nat.le_of_ble_eq_true rfl) (s2_X9_passDay l h107 1 0 s109 zWd_1 (by omega)) (rm_ok (by decide) (by decide)) (zq_v fun h115 q113 => ?_)
              obtain ⟨s117, f119, u118⟩ := q113
              refine zj_iinc (L' := [some (.inr 0), some (.inl p1), some (.inl (h.2 2 8)), some (.inl (x11 + 1))]) (zdk ttX10_days 31 rfl rfl) rfl (by decide) rfl ?_
              refine zj_goto (t := 43) (zdk ttX10_days 32 rfl rfl) (by decide) ?_
              have f121 : zfC w_X10_days h h107 := zfC_t f14 f112 (fun a9 b9 z9 => by
                rcases z9 with z9 | z9
                · exact (Or.inl z9)
                · exact (Or.inr (Or.inr (Or.inr (Or.inr (Or.inr (Or.inr z9)))))))
              have f120 : zfC w_X10_days h h115 := zfC_t f121 f119 (fun a9 b9 z9 => by
                rcases z9 with z9 | z9 | z9 | z9 | z9
                · exact (Or.inr (Or.inl z9))
                · exact (Or.inr (Or.inr (Or.inl z9)))
                · exact (Or.inr (Or.inr (Or.inr (Or.inl z9))))
                · exact (Or.inr (Or.inr (Or.inr (Or.inr (Or.inl z9)))))
                · exact (Or.inr (Or.inr (Or.inr (Or.inr (Or.inr (Or.inl z9)))))))
              exact ih101  (x11 + 1) h115 (by omega) s117 f120 (fun j => zJP_g s109 (zfC_a f119 (fun z9 => by unfold w_X9_passDay at z9; first | (revert z9; decide) | omega)) (zfC_a f119 (fun z9 => by unfold w_X9_passDay at z9; first | (revert z9; decide) | omega)) (fun a b z1 z2 => (zfC_a f119 (fun z9 => by unfold w_X9_passDay at z9; first | (revert z9; decide) | omega))) (u110 (u97 j))) (by intro z t0; have tH := u98 z t0; obtain ⟨t1, p1_⟩ := u111 (fDs x11.toNat z).e (fDs x11.toNat z).x (fDs x11.toNat z).u (fDs x11.toNat z).q tH.1 tH.2.1; have t2 : xC h115 1 (fDs x11.toNat z).e false (fDy (fDs x11.toNat z).e false (fDs x11.toNat z).x) := u118 (fDs x11.toNat z).e (fDs x11.toNat z).x t1; rw [fDs_n (by omega)]; exact xK_k s109 tH p1_ t2 (zfC_a f119 (fun z9 => by unfold w_X9_passDay at z9; first | (revert z9; decide) | omega)) (((zfC_a f119 (fun z9 => by unfold w_X9_passDay at z9; first | (revert z9; decide) | omega))).trans (zfC_a f112 (fun z9 => by unfold w_X10_remember at z9; first | (revert z9; decide) | omega))) (fun a9 b9 y9 => by unfold zD at y9; exact ((zfC_a f119 (fun z9 => by unfold w_X9_passDay at z9; first | (revert z9; decide) | omega))).trans (zfC_a f112 (fun z9 => by unfold w_X10_remember at z9; first | (revert z9; decide) | omega))) (fun a9 b9 y9 z9 => (zfC_a f119 (fun z9 => by unfold w_X9_passDay at z9; first | (revert z9; decide) | omega)))) (by omega) (by omega)
        exact lp95 _ 0 h (by omega) s0 (zfC_r _ _) (fun j => j) (fun z t0 => t0) (by omega) (Nat.lt_succ_self _)
      · refine zj_iconst (zdk ttX10_days 13 rfl rfl) ?_
        exact zj_iret rfl (zdk ttX10_days 14 rfl rfl) (Nat.le_refl _) (Nat.le_refl _) ⟨(-1), rfl, by omega, s0, (zfC_r _ _), (fun j => j), (by intro z t0 w0; have g0 := xK_g t0; have w1 := w0.1; have zd : zwp ((h.2 2 12) + p1) = (h.2 2 12) + p1 ∨ ¬ (1 ≤ p1 ∧ p1 ≤ 60) := (by by_cases q9 : 1 ≤ p1 ∧ p1 ≤ 60; exact Or.inl (zwp_s (by omega)); exact Or.inr q9); unfold pDays; rw [if_neg (by omega)]; exact ⟨rfl, t0⟩)⟩

