abbrev q2_X10_addToSums (h : zM) (p1 : Int) (p2 : Int) (p3 : Int) : Option zV → zM → Prop := zqv fun h' => okC h' ∧ zfC w_X10_addToSums h h' ∧ (∀ t, h'.2 140 t = if p1 ≤ t ∧ t ≤ p2 then fAd (h.2 140) p1 p3 t else h.2 140 t)
set_option maxRecDepth 100000 in
set_option maxHeartbeats 4000000 in
theorem s2_X10_addToSums (l : Launch) (h : zM) (p1 : Int) (p2 : Int) (p3 : Int) (s0 : okC h) (b_p1 : 1 ≤ p1 ∧ p1 ≤ 1000) (b_p2 : 0 ≤ p2 ∧ p2 ≤ 9999) (b_p3 : (-2147483648) ≤ p3 ∧ p3 ≤ 2147483647) (u_0 : h.2 0 10 = 140) : zT shC l yX10_addToSums cX10_addToSums 6 none (rmL 3) 0 0 [.inr 0, .inl p1, .inl p2, .inl p3] h (q2_X10_addToSums h p1 p2 p3) := by
  have k10 := u_0
  refine zT_of (by decide +kernel) (L0 := [some (.inr 0), some (.inl p1), some (.inl p2), some (.inl p3), none, none]) rfl (Nat.le_of_ble_eq_true rfl) ?_
  refine zj_iload_n (zdk ttX10_addToSums 0 rfl rfl) rfl ?_
  refine zj_istore (L' := [some (.inr 0), some (.inl p1), some (.inl p2), some (.inl p3), some (.inl p2), none]) (zdk ttX10_addToSums 1 rfl rfl) (by decide) rfl ?_
  have lp13 : ∀ (n : Nat) (x1 : Int) (h2 : zM), (-1 ≤ x1 ∧ x1 ≤ 9999) → okC h2 → zfC w_X10_addToSums h h2 → (x1 ≤ p2 ∧ ∀ t, h2.2 140 t = fAi (h.2 140) p1 p2 p3 x1 t) → (x1 - -2).toNat < n → zJ shC l yX10_addToSums cX10_addToSums 6 none (rmL 3) 0 0 (q2_X10_addToSums h p1 p2 p3) 0 0 3 [some (.inr 0), some (.inl p1), some (.inl p2), some (.inl p3), some (.inl x1), none] [] h2 := by
    intro n
    induction n with
    | zero => intro x1 h2 b14 s3 f4 u15 m16; exact absurd m16 (Nat.not_lt_zero _)
    | succ n ih17 =>
      intro x1 h2 b14 s3 f4 u15 m16
      refine zj_iload (zdk ttX10_addToSums 2 rfl rfl) rfl ?_
      refine zj_iload_n (zdk ttX10_addToSums 3 rfl rfl) rfl ?_
      refine zj_icmp_lt (t := 54) (zdk ttX10_addToSums 4 rfl rfl) (by decide) (by omega) (by omega) (fun c18 => ?_) (fun c18 => ?_)
      · exact zj_vret rfl (zdk ttX10_addToSums 29 rfl rfl) (Nat.le_refl _) (Nat.le_refl _) ⟨rfl, s3, f4, (fun t => (u15.2 t).trans (fAi_e (by omega)))⟩
      · refine zj_aload_n (zdk ttX10_addToSums 5 rfl rfl) rfl (by decide) ?_
        refine zj_getr (r := 140) (zdk ttX10_addToSums 6 rfl rfl) zf_RX10_63 rfl (k_L0 s3) ((zfC_a f4 (fun z9 => by unfold w_X10_addToSums at z9; omega)).trans k10) ?_
        refine zj_iload (zdk ttX10_addToSums 7 rfl rfl) rfl ?_
        refine zj_iload_n (zdk ttX10_addToSums 8 rfl rfl) rfl ?_
        refine zj_isub (zdk ttX10_addToSums 9 rfl rfl) ?_
        have b19 : -2147483648 ≤ (h2.2 140 (x1 - p1)) ∧ (h2.2 140 (x1 - p1)) ≤ 2147483647 := ab_140 s3 (x1 - p1)
        refine zj_iald (v := (h2.2 140 (x1 - p1))) (zdk ttX10_addToSums 10 rfl rfl) (k140 s3 ((zfC_a f4 (fun z9 => by unfold w_X10_addToSums at z9; omega)).trans k10)) (by decide) (by omega) rfl ?_
        refine zj_istore (L' := [some (.inr 0), some (.inl p1), some (.inl p2), some (.inl p3), some (.inl x1), some (.inl (h2.2 140 (x1 - p1)))]) (zdk ttX10_addToSums 11 rfl rfl) (by decide) rfl ?_
        refine zj_iload (zdk ttX10_addToSums 12 rfl rfl) rfl ?_
        refine zj_ldc (z := 2147483647) (zdk ttX10_addToSums 13 rfl rfl) wc_RX10_252 ?_
        refine zj_icmp_eq (t := 48) (zdk ttX10_addToSums 14 rfl rfl) (by decide) (by omega) (by decide) (fun c20 => ?_) (fun c20 => ?_)
        · refine zj_iinc (L' := [some (.inr 0), some (.inl p1), some (.inl p2), some (.inl p3), some (.inl (x1 + (-1))), some (.inl (h2.2 140 (x1 - p1)))]) (zdk ttX10_addToSums 27 rfl rfl) rfl (by decide) rfl ?_
          refine zj_goto (t := 3) (zdk ttX10_addToSums 28 rfl rfl) (by decide) ?_
          refine zj_kill (k := 5) (L' := [some (.inr 0), some (.inl p1), some (.inl p2), some (.inl p3), some (.inl (x1 + (-1))), none]) rfl ?_
          exact ih17  (x1 + (-1)) h2 (by omega) s3 f4 (by have u9 := u15.2; have ux : h2.2 140 x1 = h.2 140 x1 := (u9 x1).trans (fAi_b (by omega)); have uw : h2.2 140 (x1 - p1) = h.2 140 (x1 - p1) := (u9 (x1 - p1)).trans (fAi_b (by omega)); refine ⟨by omega, fun t => ?_⟩; rw [show (x1 + (-1)) = x1 - 1 by omega]; exact (u9 t).trans (fAi_n (by omega) (by omega))) (by omega)
        · refine zj_aload_n (zdk ttX10_addToSums 15 rfl rfl) rfl (by decide) ?_
          refine zj_getr (r := 140) (zdk ttX10_addToSums 16 rfl rfl) zf_RX10_63 rfl (k_L0 s3) ((zfC_a f4 (fun z9 => by unfold w_X10_addToSums at z9; omega)).trans k10) ?_
          refine zj_iload (zdk ttX10_addToSums 17 rfl rfl) rfl ?_
          refine zj_aload_n (zdk ttX10_addToSums 18 rfl rfl) rfl (by decide) ?_
          refine zj_getr (r := 140) (zdk ttX10_addToSums 19 rfl rfl) zf_RX10_63 rfl (k_L0 s3) ((zfC_a f4 (fun z9 => by unfold w_X10_addToSums at z9; omega)).trans k10) ?_
          refine zj_iload (zdk ttX10_addToSums 20 rfl rfl) rfl ?_
          have b21 : -2147483648 ≤ (h2.2 140 x1) ∧ (h2.2 140 x1) ≤ 2147483647 := ab_140 s3 x1
          refine zj_iald (v := (h2.2 140 x1)) (zdk ttX10_addToSums 21 rfl rfl) (k140 s3 ((zfC_a f4 (fun z9 => by unfold w_X10_addToSums at z9; omega)).trans k10)) (by decide) (by omega) rfl ?_
          refine zj_iload (zdk ttX10_addToSums 22 rfl rfl) rfl ?_
          refine zj_iload_n (zdk ttX10_addToSums 23 rfl rfl) rfl ?_
          refine zj_iadd (zdk ttX10_addToSums 24 rfl rfl) ?_
          refine zj_wrap ?_
          have b22 := zwp_in ((h2.2 140 (x1 - p1)) + p3)
          refine zj_min (zdk ttX10_addToSums 25 rfl rfl) mx_RX10_348 (by omega) (by omega) (Nat.le_of_ble_eq_true rfl) (rm_m (by decide)) ?_
          have b23 := zm_min_f (h2.2 140 x1) (zwp ((h2.2 140 (x1 - p1)) + p3))
          refine zj_iast (zdk ttX10_addToSums 26 rfl rfl) (k140 s3 ((zfC_a f4 (fun z9 => by unfold w_X10_addToSums at z9; omega)).trans k10)) (by decide) (by omega) (fun h24 e25 => ?_)
          refine zj_iinc (L' := [some (.inr 0), some (.inl p1), some (.inl p2), some (.inl p3), some (.inl (x1 + (-1))), some (.inl (h2.2 140 (x1 - p1)))]) (zdk ttX10_addToSums 27 rfl rfl) rfl (by decide) rfl ?_
          refine zj_goto (t := 3) (zdk ttX10_addToSums 28 rfl rfl) (by decide) ?_
          refine zj_kill (k := 5) (L' := [some (.inr 0), some (.inl p1), some (.inl p2), some (.inl p3), some (.inl (x1 + (-1))), none]) rfl ?_
          have s26 : okC h24 := aw_140 s3 e25 (by omega)
          have f27 : zfC w_X10_addToSums h h24 := zfC_w f4 e25 (by omega)
          exact ih17  (x1 + (-1)) h24 (by omega) s26 f27 (by have u9 := u15.2; have ux : h2.2 140 x1 = h.2 140 x1 := (u9 x1).trans (fAi_b (by omega)); have uw : h2.2 140 (x1 - p1) = h.2 140 (x1 - p1) := (u9 (x1 - p1)).trans (fAi_b (by omega)); refine ⟨by omega, fun t => ?_⟩; rw [show (x1 + (-1)) = x1 - 1 by omega]; exact fAi_w (g := h2.2 140) u9 (by omega) (by omega) ((zwr_v e25).trans (by rw [ux, uw])) (fun s9 z9 => zwr_r e25 (by omega)) t) (by omega)
  exact lp13 _ p2 h (by omega) s0 (zfC_r _ _) ⟨by omega, fun t => (fAi_b (by omega)).symm⟩ (Nat.lt_succ_self _)

abbrev q2_X10_fewestWinding (h : zM) (p1 : Int) : Option zV → zM → Prop := zqi fun v h' => ((-2147483648) ≤ v ∧ v ≤ 2147483647) ∧ okC h' ∧ zfC w_X10_fewestWinding h h' ∧ (∀ E x, xC h 1 E false x → mE (fWi E x.1) (fHr x.1) E.n.toNat p1 v)
set_option maxRecDepth 100000 in
set_option maxHeartbeats 4000000 in
theorem fw_tail2 (l : Launch) (h0 h : zM) (p1 : Int) (s0 : okC h) (b_p1 : 0 ≤ p1 ∧ p1 ≤ 9999) (k10 : h.2 0 10 = 140) (f00 : zfC w_X10_fewestWinding h0 h) : zJ shC l yX10_fewestWinding cX10_fewestWinding 6 (some .int) (rmS 20) 1 10000 (q2_X10_fewestWinding h0 p1) 1 10000 16 [some (.inr 0), some (.inl p1), none, none, none, none] [] h := by
  refine zj_aload_n (zdk ttX10_fewestWinding 7 rfl rfl) rfl (by decide) ?_
  refine zj_getr (r := 140) (zdk ttX10_fewestWinding 8 rfl rfl) zf_RX10_63 rfl (k_L0 s0) k10 ?_
  refine zj_iconst (zdk ttX10_fewestWinding 9 rfl rfl) ?_
  refine zj_iload_n (zdk ttX10_fewestWinding 10 rfl rfl) rfl ?_
  refine zj_iconst (zdk ttX10_fewestWinding 11 rfl rfl) ?_
  refine zj_iadd (zdk ttX10_fewestWinding 12 rfl rfl) ?_
  refine zj_ldc (z := 2147483647) (zdk ttX10_fewestWinding 13 rfl rfl) wc_RX10_252 ?_
  refine zj_callS (av := [.inr 140, .inl 0, .inl (p1 + 1), .inl 2147483647]) (st := []) (zdk ttX10_fewestWinding 14 rfl rfl) mb_J7_fill_fda19 ms_RX10_342 rfl rfl (Nat.le_of_ble_eq_true rfl) (s_J7_fill_fda19 shC l h 140 0 (p1 + 1) 2147483647 (k140 s0 k10) (by decide) (by omega) (by omega)) (rm_okS (by decide) (by decide)) (zq_v fun h1 e2 => ?_)
  refine zj_aload_n (zdk ttX10_fewestWinding 15 rfl rfl) rfl (by decide) ?_
  have s3 : okC h1 := okC_fill s0 e2 (fun j => pa_140 (v := 2147483647) (by omega) j) (na_140).1 (na_140).2
  refine zj_getr (r := 140) (zdk ttX10_fewestWinding 16 rfl rfl) zf_RX10_63 rfl (k_L0 s3) ((zfill_r e2 (by omega)).trans k10) ?_
  refine zj_iconst (zdk ttX10_fewestWinding 17 rfl rfl) ?_
  refine zj_iconst (zdk ttX10_fewestWinding 18 rfl rfl) ?_
  refine zj_iast (zdk ttX10_fewestWinding 19 rfl rfl) (k140 s3 ((zfill_r e2 (by omega)).trans k10)) (by decide) (by omega) (fun h4 e5 => ?_)
  refine zj_aload_n (zdk ttX10_fewestWinding 20 rfl rfl) rfl (by decide) ?_
  have s6 : okC h4 := aw_140 s3 e5 (by omega)
  refine zj_getr (r := 1) (zdk ttX10_fewestWinding 21 rfl rfl) zf_RX10_10 rfl (k_L0 s6) (rf_L0_0 s6) ?_
  refine zj_getr (r := 2) (zdk ttX10_fewestWinding 22 rfl rfl) zf_RX10_67 rfl (k_9_0 s6 zWd_1) (rf_9_0_0 s6 zWd_1) ?_
  refine zj_astore_n (L' := [some (.inr 0), some (.inl p1), some (.inr 2), none, none, none]) (zdk ttX10_fewestWinding 23 rfl rfl) (by decide) (by decide) rfl ?_
  refine zj_iconst (zdk ttX10_fewestWinding 24 rfl rfl) ?_
  refine zj_istore_n (L' := [some (.inr 0), some (.inl p1), some (.inr 2), some (.inl 0), none, none]) (zdk ttX10_fewestWinding 25 rfl rfl) (by decide) rfl ?_
  refine zj_iconst (zdk ttX10_fewestWinding 26 rfl rfl) ?_
  refine zj_istore (L' := [some (.inr 0), some (.inl p1), some (.inr 2), some (.inl 0), some (.inl 0), none]) (zdk ttX10_fewestWinding 27 rfl rfl) (by decide) rfl ?_
  have lp147 : ∀ (n : Nat) (x7 x8 : Int) (h9 : zM), (0 ≤ x7 ∧ x7 ≤ 9999) → (0 ≤ x8 ∧ x8 ≤ 18) → okC h9 → zfC w_X10_fewestWindingt h h9 → (∀ E x, xC h 1 E false x → x8 ≤ E.n ∧ mS (fWi E x.1) (fHr x.1) x8.toNat p1 x7 (h9.2 140)) → (19 - x8).toNat < n → zJ shC l yX10_fewestWinding cX10_fewestWinding 6 (some .int) (rmS 20) 1 10000 (q2_X10_fewestWinding h0 p1) 1 10000 49 [some (.inr 0), some (.inl p1), some (.inr 2), some (.inl x7), some (.inl x8), none] [] h9 := by
    intro n
    induction n with
    | zero => intro x7 x8 h9 b148 b149 s10 f11 u150 m151; exact absurd m151 (Nat.not_lt_zero _)
    | succ n ih152 =>
      intro x7 x8 h9 b148 b149 s10 f11 u150 m151
      refine zj_iload (zdk ttX10_fewestWinding 28 rfl rfl) rfl ?_
      refine zj_aload_n (zdk ttX10_fewestWinding 29 rfl rfl) rfl (by decide) ?_
      have b153 : 0 ≤ (h.2 2 3) ∧ (h.2 2 3) ≤ 18 := fb_1_0_3 s0 zIs_2
      refine zj_geti (v := (h.2 2 3)) (zdk ttX10_fewestWinding 30 rfl rfl) zf_RX10_81 rfl (k_1_0 s10 zIs_2) (zfC_a f11 (fun z9 => by unfold w_X10_fewestWindingt at z9; omega)) ?_
      refine zj_icmp_ge (t := 118) (zdk ttX10_fewestWinding 31 rfl rfl) (by decide) (by omega) (by omega) (fun c154 => ?_) (fun c154 => ?_)
      · refine zj_aload_n (zdk ttX10_fewestWinding 63 rfl rfl) rfl (by decide) ?_
        refine zj_getr (r := 140) (zdk ttX10_fewestWinding 64 rfl rfl) zf_RX10_63 rfl (k_L0 s10) ((zfC_a f11 (fun z9 => by unfold w_X10_fewestWindingt at z9; omega)).trans k10) ?_
        refine zj_iload_n (zdk ttX10_fewestWinding 65 rfl rfl) rfl ?_
        have b155 : -2147483648 ≤ (h9.2 140 p1) ∧ (h9.2 140 p1) ≤ 2147483647 := ab_140 s10 p1
        refine zj_iald (v := (h9.2 140 p1)) (zdk ttX10_fewestWinding 66 rfl rfl) (k140 s10 ((zfC_a f11 (fun z9 => by unfold w_X10_fewestWindingt at z9; omega)).trans k10)) (by decide) (by omega) rfl ?_
        exact zj_iret rfl (zdk ttX10_fewestWinding 67 rfl rfl) (Nat.le_refl _) (Nat.le_refl _) ⟨(h9.2 140 p1), rfl, by omega, s10, (zfC_t f00 f11 (fun _ _ z9 => by rcases z9 with z9 | z9 <;> first | exact (Or.inr (Or.inl z9)) | exact (Or.inr (Or.inr z9)))), (fun E x t9 => by have t0 : xC h 1 E false x := xC_f t9 (fun a9 b9 y9 => by unfold zD at y9; exact zfC_a f00 (fun z9 => by unfold w_X10_fewestWinding at z9; omega)); have n0 := t0.1.1; have eN : h.2 2 3 = E.n := (xC_g t0).1; obtain ⟨le, d⟩ := u150 E x t0; rw [show x8 = E.n by omega] at d; exact d.2 p1 (by omega) (Int.le_refl _))⟩
      · refine zj_aload_n (zdk ttX10_fewestWinding 32 rfl rfl) rfl (by decide) ?_
        refine zj_iload (zdk ttX10_fewestWinding 33 rfl rfl) rfl ?_
        refine zj_callV (av := [.inl x8]) (st := []) (zdk ttX10_fewestWinding 34 rfl rfl) mb_X1_isHere mv_RX10_204 (ci := 1) rfl rfl (k_1_0 s10 zIs_2) rfl rfl (Nat.le_of_ble_eq_true rfl) (s_X1_isHere l h9 2 x8 s10 zIs_2 (by omega)) (rm_okS (by decide) (by decide)) (zq_i fun v157 h158 q156 => ?_)
        obtain ⟨rfl, b160, ⟨rfl, b159⟩ | ⟨rfl, b159⟩⟩ := q156
        · refine zj_if_eq (t := 80) (zdk ttX10_fewestWinding 35 rfl rfl) (by decide) (by decide) (fun c161 => ?_) (fun c161 => ?_)
          · refine zj_iconst (zdk ttX10_fewestWinding 42 rfl rfl) ?_
            refine zj_istore (L' := [some (.inr 0), some (.inl p1), some (.inr 2), some (.inl x7), some (.inl x8), some (.inl 0)]) (zdk ttX10_fewestWinding 43 rfl rfl) (by decide) rfl ?_
            refine zj_iload (zdk ttX10_fewestWinding 44 rfl rfl) rfl ?_
            refine zj_if_le (t := 112) (zdk ttX10_fewestWinding 45 rfl rfl) (by decide) (by decide) (fun c162 => ?_) (fun c162 => ?_)
            · refine zj_iinc (L' := [some (.inr 0), some (.inl p1), some (.inr 2), some (.inl x7), some (.inl (x8 + 1)), some (.inl 0)]) (zdk ttX10_fewestWinding 61 rfl rfl) rfl (by decide) rfl ?_
              refine zj_goto (t := 49) (zdk ttX10_fewestWinding 62 rfl rfl) (by decide) ?_
              refine zj_kill (k := 5) (L' := [some (.inr 0), some (.inl p1), some (.inr 2), some (.inl x7), some (.inl (x8 + 1)), none]) rfl ?_
              exact ih152  x7 (x8 + 1) h9 (by omega) (by omega) s10 f11 (by intro E x t0; have n0 := t0.1.1; have tH : xC h9 1 E false x := (xC_f t0 (fun a9 b9 y9 => by unfold zD at y9; exact (zfC_a f11 (fun z9 => by unfold w_X10_fewestWindingt at z9; omega)))); have eN : h.2 2 3 = E.n := (xC_g t0).1; obtain ⟨le, d⟩ := u150 E x t0; have b9 : -2147483648 ≤ h9.2 2 4 ∧ h9.2 2 4 ≤ 2147483647 := (by omega); have he := xC_he (w := 1) (i := x8) tH ⟨by omega, by omega⟩ b9; rw [show (1 : Int) + 1 = 2 from rfl] at he; refine ⟨by omega, ?_⟩; exact mS_ni (by omega) d (Or.inl (fun q9 => by have q8 := he.mpr q9; omega)) (fun s9 => rfl)) (by omega)
            · exact absurd c162 (by omega)
          · exact absurd c161 (by omega)
        · refine zj_if_eq (t := 80) (zdk ttX10_fewestWinding 35 rfl rfl) (by decide) (by decide) (fun c163 => ?_) (fun c163 => ?_)
          · exact absurd c163 (by omega)
          · refine zj_aload_n (zdk ttX10_fewestWinding 36 rfl rfl) rfl (by decide) ?_
            refine zj_getr (r := 1) (zdk ttX10_fewestWinding 37 rfl rfl) zf_RX10_10 rfl (k_L0 s10) (rf_L0_0 s10) ?_
            refine zj_iconst (zdk ttX10_fewestWinding 38 rfl rfl) ?_
            refine zj_iload (zdk ttX10_fewestWinding 39 rfl rfl) rfl ?_
            refine zj_callV (av := [.inl 1, .inl x8]) (st := []) (zdk ttX10_fewestWinding 40 rfl rfl) mb_X9_tells mv_RX10_213 (ci := 9) rfl rfl (k_9_0 s10 zWd_1) rfl rfl (Nat.le_of_ble_eq_true rfl) (s2_X9_tells l h9 1 1 x8 s10 zWd_1 (by omega) (by omega)) (rm_okS (by decide) (by decide)) (zq_i fun v165 h166 q164 => ?_)
            obtain ⟨b167, s168, f170, u169⟩ := q164
            refine zj_goto (t := 81) (zdk ttX10_fewestWinding 41 rfl rfl) (by decide) ?_
            refine zj_istore (L' := [some (.inr 0), some (.inl p1), some (.inr 2), some (.inl x7), some (.inl x8), some (.inl v165)]) (zdk ttX10_fewestWinding 43 rfl rfl) (by decide) rfl ?_
            refine zj_iload (zdk ttX10_fewestWinding 44 rfl rfl) rfl ?_
            refine zj_if_le (t := 112) (zdk ttX10_fewestWinding 45 rfl rfl) (by decide) (by omega) (fun c171 => ?_) (fun c171 => ?_)
            · refine zj_iinc (L' := [some (.inr 0), some (.inl p1), some (.inr 2), some (.inl x7), some (.inl (x8 + 1)), some (.inl v165)]) (zdk ttX10_fewestWinding 61 rfl rfl) rfl (by decide) rfl ?_
              refine zj_goto (t := 49) (zdk ttX10_fewestWinding 62 rfl rfl) (by decide) ?_
              refine zj_kill (k := 5) (L' := [some (.inr 0), some (.inl p1), some (.inr 2), some (.inl x7), some (.inl (x8 + 1)), none]) rfl ?_
              have f172 : zfC w_X10_fewestWindingt h h166 := zfC_t f11 f170 (fun a9 b9 z9 => by
                exact (Or.inl z9))
              exact ih152  x7 (x8 + 1) h166 (by omega) (by omega) s168 f172 (by intro E x t0; have n0 := t0.1.1; have tH : xC h9 1 E false x := (xC_f t0 (fun a9 b9 y9 => by unfold zD at y9; exact (zfC_a f11 (fun z9 => by unfold w_X10_fewestWindingt at z9; omega)))); have eN : h.2 2 3 = E.n := (xC_g t0).1; obtain ⟨le, d⟩ := u150 E x t0; have b9 : -2147483648 ≤ h9.2 2 4 ∧ h9.2 2 4 ≤ 2147483647 := (by omega); have he := xC_he (w := 1) (i := x8) tH ⟨by omega, by omega⟩ b9; rw [show (1 : Int) + 1 = 2 from rfl] at he; refine ⟨by omega, ?_⟩; have e1 : v165 = fTl E x.1 1 x8 := u169 E false x tH ⟨by omega, by omega⟩ ⟨by decide, by decide⟩; have e2 := he.mp (by omega); have e3 : h166.2 140 = h9.2 140 := funext fun b9 => (zfC_a f170 (fun z9 => by unfold w_X9_tells at z9; omega)); exact mS_ni (by omega) d (Or.inr (by omega)) (fun s9 => by rw [e3])) (by omega)
            · refine zj_iload_n (zdk ttX10_fewestWinding 46 rfl rfl) rfl ?_
              refine zj_iload_n (zdk ttX10_fewestWinding 47 rfl rfl) rfl ?_
              refine zj_iload (zdk ttX10_fewestWinding 48 rfl rfl) rfl ?_
              refine zj_iadd (zdk ttX10_fewestWinding 49 rfl rfl) ?_
              refine zj_min (zdk ttX10_fewestWinding 50 rfl rfl) mx_RX10_348 (by omega) (by omega) (Nat.le_of_ble_eq_true rfl) (rm_mS (by decide)) ?_
              have b173 := zm_min_f p1 (x7 + v165)
              refine zj_istore_n (L' := [some (.inr 0), some (.inl p1), some (.inr 2), some (.inl (zm_min p1 (x7 + v165))), some (.inl x8), some (.inl v165)]) (zdk ttX10_fewestWinding 51 rfl rfl) (by decide) rfl ?_
              refine zj_aload_n (zdk ttX10_fewestWinding 52 rfl rfl) rfl (by decide) ?_
              refine zj_iload (zdk ttX10_fewestWinding 53 rfl rfl) rfl ?_
              refine zj_iload_n (zdk ttX10_fewestWinding 54 rfl rfl) rfl ?_
              refine zj_ldc_w (z := 262144) (zdk ttX10_fewestWinding 55 rfl rfl) wc_RX10_353 ?_
              refine zj_iconst (zdk ttX10_fewestWinding 56 rfl rfl) ?_
              refine zj_iload (zdk ttX10_fewestWinding 57 rfl rfl) rfl ?_
              refine zj_ishl (zdk ttX10_fewestWinding 58 rfl rfl) ?_
              have b174 := zshl_1 (n := x8) (a := 0) (b := 17) (lo := 1) (hi := 131072) (by omega) (by decide) (by decide) (by decide)
              refine zj_iadd (zdk ttX10_fewestWinding 59 rfl rfl) ?_
              refine zj_callV (av := [.inl v165, .inl (zm_min p1 (x7 + v165)), .inl (262144 + (zshl 1 x8))]) (st := []) (zdk ttX10_fewestWinding 60 rfl rfl) mb_X10_addToSums mv_RX10_354 (ci := 10) rfl rfl (k_L0 s168) rfl rfl (Nat.le_of_ble_eq_true rfl) (s2_X10_addToSums l h166 v165 (zm_min p1 (x7 + v165)) (262144 + (zshl 1 x8)) s168 (by omega) (by omega) (by omega) (((zfC_a f170 (fun z9 => by unfold w_X9_tells at z9; omega)).trans (zfC_a f11 (fun z9 => by unfold w_X10_fewestWindingt at z9; omega))).trans k10)) (rm_okS (by decide) (by decide)) (zq_v fun h177 q175 => ?_)
              obtain ⟨s179, f181, u180⟩ := q175
              refine zj_iinc (L' := [some (.inr 0), some (.inl p1), some (.inr 2), some (.inl (zm_min p1 (x7 + v165))), some (.inl (x8 + 1)), some (.inl v165)]) (zdk ttX10_fewestWinding 61 rfl rfl) rfl (by decide) rfl ?_
              refine zj_goto (t := 49) (zdk ttX10_fewestWinding 62 rfl rfl) (by decide) ?_
              refine zj_kill (k := 5) (L' := [some (.inr 0), some (.inl p1), some (.inr 2), some (.inl (zm_min p1 (x7 + v165))), some (.inl (x8 + 1)), none]) rfl ?_
              have f183 : zfC w_X10_fewestWindingt h h166 := zfC_t f11 f170 (fun a9 b9 z9 => by
                exact (Or.inl z9))
              have f182 : zfC w_X10_fewestWindingt h h177 := zfC_t f183 f181 (fun a9 b9 z9 => by
                exact (Or.inr z9))
              exact ih152  (zm_min p1 (x7 + v165)) (x8 + 1) h177 (by omega) (by omega) s179 f182 (by intro E x t0; have n0 := t0.1.1; have tH : xC h9 1 E false x := (xC_f t0 (fun a9 b9 y9 => by unfold zD at y9; exact (zfC_a f11 (fun z9 => by unfold w_X10_fewestWindingt at z9; omega)))); have eN : h.2 2 3 = E.n := (xC_g t0).1; obtain ⟨le, d⟩ := u150 E x t0; have b9 : -2147483648 ≤ h9.2 2 4 ∧ h9.2 2 4 ≤ 2147483647 := (by omega); have he := xC_he (w := 1) (i := x8) tH ⟨by omega, by omega⟩ b9; rw [show (1 : Int) + 1 = 2 from rfl] at he; refine ⟨by omega, ?_⟩; have e1 : v165 = fTl E x.1 1 x8 := u169 E false x tH ⟨by omega, by omega⟩ ⟨by decide, by decide⟩; have e2 := he.mp (by omega); have e3 : h166.2 140 = h9.2 140 := funext fun b9 => (zfC_a f170 (fun z9 => by unfold w_X9_tells at z9; omega)); have p9 := u180; rw [e3] at p9; exact mS_yi (by omega) d e2 e1 (by omega) rfl rfl p9) (by omega)
  have f185 : zfC w_X10_fewestWindingt h h1 := zfC_fill (zfC_r _ _) e2 (fun _ => (Or.inr (by omega)))
  have f184 : zfC w_X10_fewestWindingt h h4 := zfC_w f185 e5 (Or.inr (by omega))
  exact lp147 _ 0 0 h4 (by omega) (by omega) s6 f184 (fun E x t0 => ⟨t0.1.1.1, mS_0 (by omega) (zwr_v e5) (fun s9 a9 b9 => (zwr_r e5 (by omega)).trans (by rw [e2]; exact if_pos ⟨rfl, by omega, by omega⟩))⟩) (Nat.lt_succ_self _)
set_option maxRecDepth 100000 in
theorem s2_X10_fewestWinding (l : Launch) (h : zM) (p1 : Int) (s0 : okC h) (b_p1 : 0 ≤ p1 ∧ p1 ≤ 9999) : zT shC l yX10_fewestWinding cX10_fewestWinding 6 (some .int) (rmS 20) 1 10000 [.inr 0, .inl p1] h (q2_X10_fewestWinding h p1) := by
  refine zT_of (by decide +kernel) (L0 := [some (.inr 0), some (.inl p1), none, none, none, none]) rfl (Nat.le_of_ble_eq_true rfl) ?_
  refine zj_aload_n (zdk ttX10_fewestWinding 0 rfl rfl) rfl (by decide) ?_
  rcases s0.2.2.2 with ⟨e0, en⟩ | ⟨e0, en⟩
  · refine zj_getr (r := -1) (zdk ttX10_fewestWinding 1 rfl rfl) zf_RX10_63 rfl (k_L0 s0) e0 ?_
    refine zj_ifnonnull (t := 16) (zdk ttX10_fewestWinding 2 rfl rfl) (by decide) (fun q => absurd rfl q) (fun q => ?_)
    refine zj_aload_n (zdk ttX10_fewestWinding 3 rfl rfl) rfl (by decide) ?_
    refine zj_sipush (zdk ttX10_fewestWinding 4 rfl rfl) (by decide) ?_
    refine zj_newi (N := 10000) (zdk ttX10_fewestWinding 5 rfl rfl) wa_int rfl (by decide) (by rw [en]; decide +kernel) ⟨Nat.le_refl _, Nat.le_refl _⟩ (fun h1 e1 => ?_)
    have h140 : (h.1 : Int) = 140 := by omega
    have hk : shC 0 = .inl 10 ∧ (0 : Int) ≤ 0 ∧ (0 : Int) < h1.1 := ⟨(k_L0 s0).1, by decide, by rw [e1]; show (0 : Int) < ((h.1 + 1 : Nat) : Int); omega⟩
    refine zj_putr (zdk ttX10_fewestWinding 6 rfl rfl) zf_RX10_63 rfl hk (Or.inl zw_RX10_63) (k2 := 10) rfl (fun h2 e2 => ?_)
    rw [h140] at e2
    obtain ⟨s2, k2⟩ := okC_new s0 e0 e1 e2
    exact fw_tail2 l h h2 p1 s2 b_p1 k2 (zfC_new s0 e0 e1 e2 (Or.inl (by omega)) (fun _ => (Or.inr (Or.inr rfl))))
  · refine zj_getr (r := 140) (zdk ttX10_fewestWinding 1 rfl rfl) zf_RX10_63 rfl (k_L0 s0) e0 ?_
    refine zj_ifnonnull (t := 16) (zdk ttX10_fewestWinding 2 rfl rfl) (by decide) (fun q => ?_) (fun q => absurd q (by decide))
    exact zj_widen (Nat.zero_le _) (Nat.zero_le _) (fw_tail2 l h h p1 s0 b_p1 e0 (zfC_r _ _))

abbrev q2_X10_must (h : zM) (p1 : Int) (p2 : Int) : Option zV → zM → Prop := zqi fun v h' => ((-2147483648) ≤ v ∧ v ≤ 2147483647) ∧ okC h' ∧ zfC w_X10_must h h' ∧ (∀ E x, xC h 1 E false x → fMc (fWi E x.1) (fHr x.1) E.n.toNat p1 p2 v)
set_option maxRecDepth 100000 in
set_option maxHeartbeats 4000000 in
theorem s2_X10_must (l : Launch) (h : zM) (p1 : Int) (p2 : Int) (s0 : okC h) (b_p1 : (-2147483648) ≤ p1 ∧ p1 ≤ 2147483647) (b_p2 : (-2147483648) ≤ p2 ∧ p2 ≤ 2147483647) : zT shC l yX10_must cX10_must 4 (some .int) (rmS 21) 1 10000 [.inr 0, .inl p1, .inl p2] h (q2_X10_must h p1 p2) := by
  refine zT_of (by decide +kernel) (L0 := [some (.inr 0), some (.inl p1), some (.inl p2), none]) rfl (Nat.le_of_ble_eq_true rfl) ?_
  refine zj_iload_n (zdk ttX10_must 0 rfl rfl) rfl ?_
  refine zj_iconst (zdk ttX10_must 1 rfl rfl) ?_
  refine zj_sipush (zdk ttX10_must 2 rfl rfl) (by decide) ?_
  refine zj_callS (av := [.inl p1, .inl 0, .inl 9999]) (st := []) (zdk ttX10_must 3 rfl rfl) mb_X10_within ms_RX10_77 rfl rfl (Nat.le_of_ble_eq_true rfl) (s_X10_within l h p1 0 9999 s0 (by omega) (by omega) (by omega)) (rm_okS0 (by decide) (by decide)) (zq_i fun v2 h3 q1 => ?_)
  obtain ⟨rfl, ⟨rfl, b4⟩ | ⟨rfl, b4⟩⟩ := q1
  · refine zj_if_eq (t := 20) (zdk ttX10_must 4 rfl rfl) (by decide) (by decide) (fun c5 => ?_) (fun c5 => ?_)
    · refine zj_iconst (zdk ttX10_must 10 rfl rfl) ?_
      exact zj_iret rfl (zdk ttX10_must 11 rfl rfl) (Nat.le_of_ble_eq_true rfl) (Nat.le_of_ble_eq_true rfl) ⟨(-1), rfl, by omega, s0, (zfC_r _ _), (fun E x t0 => ⟨fun q9 => by omega, fun q9 => by omega⟩)⟩
    · exact absurd c5 (by omega)
  · refine zj_if_eq (t := 20) (zdk ttX10_must 4 rfl rfl) (by decide) (by decide) (fun c6 => ?_) (fun c6 => ?_)
    · exact absurd c6 (by omega)
    · refine zj_iload_n (zdk ttX10_must 5 rfl rfl) rfl ?_
      refine zj_iconst (zdk ttX10_must 6 rfl rfl) ?_
      refine zj_iconst (zdk ttX10_must 7 rfl rfl) ?_
      refine zj_callS (av := [.inl p2, .inl 0, .inl 1]) (st := []) (zdk ttX10_must 8 rfl rfl) mb_X10_within ms_RX10_77 rfl rfl (Nat.le_of_ble_eq_true rfl) (s_X10_within l h p2 0 1 s0 (by omega) (by omega) (by omega)) (rm_okS0 (by decide) (by decide)) (zq_i fun v8 h9 q7 => ?_)
      obtain ⟨rfl, ⟨rfl, b10⟩ | ⟨rfl, b10⟩⟩ := q7
      · refine zj_if_ne (t := 22) (zdk ttX10_must 9 rfl rfl) (by decide) (by decide) (fun c11 => ?_) (fun c11 => ?_)
        · exact absurd c11 (by omega)
        · refine zj_iconst (zdk ttX10_must 10 rfl rfl) ?_
          exact zj_iret rfl (zdk ttX10_must 11 rfl rfl) (Nat.le_of_ble_eq_true rfl) (Nat.le_of_ble_eq_true rfl) ⟨(-1), rfl, by omega, s0, (zfC_r _ _), (fun E x t0 => ⟨fun q9 => by omega, fun q9 => by omega⟩)⟩
      · refine zj_if_ne (t := 22) (zdk ttX10_must 9 rfl rfl) (by decide) (by decide) (fun c12 => ?_) (fun c12 => ?_)
        · refine zj_aload_n (zdk ttX10_must 12 rfl rfl) rfl (by decide) ?_
          refine zj_iload_n (zdk ttX10_must 13 rfl rfl) rfl ?_
          refine zj_callV (av := [.inl p1]) (st := []) (zdk ttX10_must 14 rfl rfl) mb_X10_fewestWinding mv_RX10_249 (ci := 10) rfl rfl (k_L0 s0) rfl rfl (Nat.le_of_ble_eq_true rfl) (s2_X10_fewestWinding l h p1 s0 (by omega)) (rm_okS1 (by decide) (by decide)) (zq_i fun v14 h15 q13 => ?_)
          obtain ⟨b16, s17, f19, u18⟩ := q13
          refine zj_istore_n (L' := [some (.inr 0), some (.inl p1), some (.inl p2), some (.inl v14)]) (zdk ttX10_must 15 rfl rfl) (by decide) rfl ?_
          refine zj_iload_n (zdk ttX10_must 16 rfl rfl) rfl ?_
          refine zj_ldc (z := 2147483647) (zdk ttX10_must 17 rfl rfl) wc_RX10_252 ?_
          refine zj_icmp_ne (t := 36) (zdk ttX10_must 18 rfl rfl) (by decide) (by omega) (by decide) (fun c20 => ?_) (fun c20 => ?_)
          · refine zj_iload_n (zdk ttX10_must 21 rfl rfl) rfl ?_
            refine zj_if_ne (t := 47) (zdk ttX10_must 22 rfl rfl) (by decide) (by omega) (fun c21 => ?_) (fun c21 => ?_)
            · refine zj_iload_n (zdk ttX10_must 27 rfl rfl) rfl ?_
              refine zj_ldc (z := 262143) (zdk ttX10_must 28 rfl rfl) wc_RX10_253 ?_
              refine zj_iand (zdk ttX10_must 29 rfl rfl) ?_
              have b22 := zand_m (d := 262144) 18 (by decide) (c := 262143) (by decide) (by decide) v14
              have f23 : zfC w_X10_must h h15 := zfC_t (zfC_r _ _) f19 (fun a9 b9 z9 => by
                rcases z9 with z9 | z9 | z9
                · exact (Or.inl z9)
                · exact (Or.inr (Or.inl z9))
                · exact (Or.inr (Or.inr z9)))
              exact zj_iret rfl (zdk ttX10_must 30 rfl rfl) (Nat.le_of_ble_eq_true rfl) (Nat.le_of_ble_eq_true rfl) ⟨(zand v14 262143), rfl, by omega, s17, f23, (fun E x t0 => ⟨fun q9 => absurd (by omega) q9, fun q9 => ⟨v14, u18 E x t0, Or.inr ⟨by omega, fun q8 => absurd q8 (by omega), fun q8 => rfl⟩⟩⟩)⟩
            · refine zj_iload_n (zdk ttX10_must 23 rfl rfl) rfl ?_
              refine zj_bipush (zdk ttX10_must 24 rfl rfl) (by decide) ?_
              refine zj_ishr (zdk ttX10_must 25 rfl rfl) ?_
              have b24 := zshr_in v14 18
              refine zj_goto (t := 51) (zdk ttX10_must 26 rfl rfl) (by decide) ?_
              have f25 : zfC w_X10_must h h15 := zfC_t (zfC_r _ _) f19 (fun a9 b9 z9 => by
                rcases z9 with z9 | z9 | z9
                · exact (Or.inl z9)
                · exact (Or.inr (Or.inl z9))
                · exact (Or.inr (Or.inr z9)))
              exact zj_iret rfl (zdk ttX10_must 30 rfl rfl) (Nat.le_of_ble_eq_true rfl) (Nat.le_of_ble_eq_true rfl) ⟨(zshr v14 18), rfl, by omega, s17, f25, (fun E x t0 => ⟨fun q9 => absurd (by omega) q9, fun q9 => ⟨v14, u18 E x t0, Or.inr ⟨by omega, fun q8 => rfl, fun q8 => absurd q8 (by omega)⟩⟩⟩)⟩
          · refine zj_iconst (zdk ttX10_must 19 rfl rfl) ?_
            have f26 : zfC w_X10_must h h15 := zfC_t (zfC_r _ _) f19 (fun a9 b9 z9 => by
              rcases z9 with z9 | z9 | z9
              · exact (Or.inl z9)
              · exact (Or.inr (Or.inl z9))
              · exact (Or.inr (Or.inr z9)))
            exact zj_iret rfl (zdk ttX10_must 20 rfl rfl) (Nat.le_of_ble_eq_true rfl) (Nat.le_of_ble_eq_true rfl) ⟨(-1), rfl, by omega, s17, f26, (fun E x t0 => ⟨fun q9 => absurd (by omega) q9, fun q9 => ⟨v14, u18 E x t0, Or.inl ⟨by omega, rfl⟩⟩⟩)⟩
        · exact absurd c12 (by omega)

