abbrev q2_X11_must (h : zM) (p1 : Int) (p2 : Int) : Option zV → zM → Prop := zqi fun v h' => ((-2147483648) ≤ v ∧ v ≤ 2147483647) ∧ okM h' ∧ zfr [0] [20, 21, 22] h h' ∧ (∀ E th x, zY h E th x → fMm (fWi E x.1) (fHr x.1) E.n.toNat p1 p2 v)
set_option maxRecDepth 100000 in
set_option maxHeartbeats 4000000 in
theorem s2_X11_must (l : Launch) (h : zM) (p1 : Int) (p2 : Int) (s0 : okM h) (b_p1 : (-2147483648) ≤ p1 ∧ p1 ≤ 2147483647) (b_p2 : (-2147483648) ≤ p2 ∧ p2 ≤ 2147483647) : zT shM l yX11_must cX11_must 8 (some .int) (rmL 6) 0 0 [.inr 0, .inl p1, .inl p2] h (q2_X11_must h p1 p2) := by
  refine zT_of (by decide +kernel) (L0 := [some (.inr 0), some (.inl p1), some (.inl p2), none, none, none, none, none]) rfl (Nat.le_of_ble_eq_true rfl) ?_
  refine zj_aload_n (zdk ttX11_must 0 rfl rfl) rfl (by decide) ?_
  refine zj_iconst (zdk ttX11_must 1 rfl rfl) ?_
  refine zj_puti (zdk ttX11_must 2 rfl rfl) zf_RX11_120 rfl (k_M s0) (Or.inl zw_RX11_120) (k2 := 0) rfl (fun h1 e2 => ?_)
  refine zj_aload_n (zdk ttX11_must 3 rfl rfl) rfl (by decide) ?_
  refine zj_iload_n (zdk ttX11_must 4 rfl rfl) rfl ?_
  refine zj_iconst (zdk ttX11_must 5 rfl rfl) ?_
  refine zj_sipush (zdk ttX11_must 6 rfl rfl) (by decide) ?_
  have s3 : okM h1 := fwM_0 s0 e2 (by omega)
  refine zj_callV (av := [.inl p1, .inl 0, .inl 9999]) (st := []) (zdk ttX11_must 7 rfl rfl) mb_X11_isIn mv_RX11_139 (ci := 11) rfl rfl (k_M s3) rfl rfl (Nat.le_of_ble_eq_true rfl) (s_X11_isIn l h1 p1 0 9999 s3 (by omega) (by omega) (by omega)) (rm_ok (by decide) (by decide)) (zq_i fun v5 h6 q4 => ?_)
  obtain ⟨rfl, ⟨rfl, b7⟩ | ⟨rfl, b7⟩⟩ := q4
  · refine zj_if_eq (t := 27) (zdk ttX11_must 8 rfl rfl) (by decide) (by decide) (fun c8 => ?_) (fun c8 => ?_)
    · refine zj_iconst (zdk ttX11_must 15 rfl rfl) ?_
      have f9 : zfr [0] [20, 21, 22] h h1 := zfr_wf (zfr_r _ _ _) e2 rfl
      exact zj_iret rfl (zdk ttX11_must 16 rfl rfl) (Nat.le_refl _) (Nat.le_refl _) ⟨(-1), rfl, by omega, s3, f9, (fun E th x t0 => ⟨fun q9 => by omega, fun q9 => by omega⟩)⟩
    · exact absurd c8 (by omega)
  · refine zj_if_eq (t := 27) (zdk ttX11_must 8 rfl rfl) (by decide) (by decide) (fun c10 => ?_) (fun c10 => ?_)
    · exact absurd c10 (by omega)
    · refine zj_aload_n (zdk ttX11_must 9 rfl rfl) rfl (by decide) ?_
      refine zj_iload_n (zdk ttX11_must 10 rfl rfl) rfl ?_
      refine zj_iconst (zdk ttX11_must 11 rfl rfl) ?_
      refine zj_iconst (zdk ttX11_must 12 rfl rfl) ?_
      refine zj_callV (av := [.inl p2, .inl 0, .inl 1]) (st := []) (zdk ttX11_must 13 rfl rfl) mb_X11_isIn mv_RX11_139 (ci := 11) rfl rfl (k_M s3) rfl rfl (Nat.le_of_ble_eq_true rfl) (s_X11_isIn l h1 p2 0 1 s3 (by omega) (by omega) (by omega)) (rm_ok (by decide) (by decide)) (zq_i fun v12 h13 q11 => ?_)
      obtain ⟨rfl, ⟨rfl, b14⟩ | ⟨rfl, b14⟩⟩ := q11
      · refine zj_if_ne (t := 29) (zdk ttX11_must 14 rfl rfl) (by decide) (by decide) (fun c15 => ?_) (fun c15 => ?_)
        · exact absurd c15 (by omega)
        · refine zj_iconst (zdk ttX11_must 15 rfl rfl) ?_
          have f16 : zfr [0] [20, 21, 22] h h1 := zfr_wf (zfr_r _ _ _) e2 rfl
          exact zj_iret rfl (zdk ttX11_must 16 rfl rfl) (Nat.le_refl _) (Nat.le_refl _) ⟨(-1), rfl, by omega, s3, f16, (fun E th x t0 => ⟨fun q9 => by omega, fun q9 => by omega⟩)⟩
      · refine zj_if_ne (t := 29) (zdk ttX11_must 14 rfl rfl) (by decide) (by decide) (fun c17 => ?_) (fun c17 => ?_)
        · refine zj_aload_n (zdk ttX11_must 17 rfl rfl) rfl (by decide) ?_
          refine zj_callV (av := []) (st := []) (zdk ttX11_must 18 rfl rfl) mb_X11_hereSet mv_RX11_313 (ci := 11) rfl rfl (k_M s3) rfl rfl (Nat.le_of_ble_eq_true rfl) (s2_X11_hereSet l h1 s3) (rm_ok (by decide) (by decide)) (zq_i fun v19 h20 q18 => ?_)
          obtain ⟨rfl, b21, u22⟩ := q18
          refine zj_istore_n (L' := [some (.inr 0), some (.inl p1), some (.inl p2), some (.inl v19), none, none, none, none]) (zdk ttX11_must 19 rfl rfl) (by decide) rfl ?_
          refine zj_iconst (zdk ttX11_must 20 rfl rfl) ?_
          refine zj_istore (L' := [some (.inr 0), some (.inl p1), some (.inl p2), some (.inl v19), some (.inl (-1)), none, none, none]) (zdk ttX11_must 21 rfl rfl) (by decide) rfl ?_
          refine zj_iconst (zdk ttX11_must 22 rfl rfl) ?_
          refine zj_istore (L' := [some (.inr 0), some (.inl p1), some (.inl p2), some (.inl v19), some (.inl (-1)), some (.inl 0), none, none]) (zdk ttX11_must 23 rfl rfl) (by decide) rfl ?_
          have lp122 : ∀ (n40 : Nat) (x23 : Int) (h24 : zM), (0 ≤ x23 ∧ x23 ≤ 18) → okM h24 → zfr [0] [20, 21, 22] h h24 → (∀ E th x, zY h E th x → ∀ i, 0 ≤ i → i < x23 → h24.2 22 i = fWi E x.1 i) → (19 - x23).toNat < n40 → zJ shM l yX11_must cX11_must 8 (some .int) (rmL 6) 0 0 (q2_X11_must h p1 p2) 0 0 40 [some (.inr 0), some (.inl p1), some (.inl p2), some (.inl v19), some (.inl (-1)), some (.inl x23), none, none] [] h24 := by
            intro n40
            induction n40 with
            | zero => intro x23 h24 b123 s25 f26 u124 m125; exact absurd m125 (Nat.not_lt_zero _)
            | succ n40 ih126 =>
              intro x23 h24 b123 s25 f26 u124 m125
              refine zj_iload (zdk ttX11_must 24 rfl rfl) rfl ?_
              refine zj_aload_n (zdk ttX11_must 25 rfl rfl) rfl (by decide) ?_
              have b127 : 0 ≤ (h.2 0 6) ∧ (h.2 0 6) ≤ 18 := fM_6 s0
              refine zj_geti (v := (h.2 0 6)) (zdk ttX11_must 26 rfl rfl) zf_RX11_132 rfl (k_M s25) (zfr_f f26 rfl rfl) ?_
              refine zj_icmp_ge (t := 81) (zdk ttX11_must 27 rfl rfl) (by decide) (by omega) (by omega) (fun c128 => ?_) (fun c128 => ?_)
              · refine zj_iconst (zdk ttX11_must 43 rfl rfl) ?_
                refine zj_istore (L' := [some (.inr 0), some (.inl p1), some (.inl p2), some (.inl v19), some (.inl (-1)), some (.inl 0), none, none]) (zdk ttX11_must 44 rfl rfl) (by decide) rfl ?_
                have lp1327 : ∀ (n84 : Nat) (x129 x130 : Int), (-1 ≤ x129 ∧ x129 ≤ 2147483647) → (0 ≤ x130 ∧ x130 ≤ 262144) → (∀ E th x, zY h E th x → mR (fWi E x.1) (fHr x.1) E.n.toNat p1 x130.toNat x129 ∧ x130 ≤ zshl 1 (h.2 0 6)) → (262145 - x130).toNat < n84 → zJ shM l yX11_must cX11_must 8 (some .int) (rmL 6) 0 0 (q2_X11_must h p1 p2) 0 0 84 [some (.inr 0), some (.inl p1), some (.inl p2), some (.inl v19), some (.inl x129), some (.inl x130), none, none] [] h24 := by
                  intro n84
                  induction n84 with
                  | zero => intro x129 x130 b1328 b1329 u1330 m1331; exact absurd m1331 (Nat.not_lt_zero _)
                  | succ n84 ih1332 =>
                    intro x129 x130 b1328 b1329 u1330 m1331
                    refine zj_iload (zdk ttX11_must 45 rfl rfl) rfl ?_
                    refine zj_iconst (zdk ttX11_must 46 rfl rfl) ?_
                    refine zj_aload_n (zdk ttX11_must 47 rfl rfl) rfl (by decide) ?_
                    refine zj_geti (v := (h.2 0 6)) (zdk ttX11_must 48 rfl rfl) zf_RX11_132 rfl (k_M s25) (zfr_f f26 rfl rfl) ?_
                    refine zj_ishl (zdk ttX11_must 49 rfl rfl) ?_
                    have b1333 := zshl_1 (n := (h.2 0 6)) (a := 0) (b := 18) (lo := 1) (hi := 262144) (by omega) (by decide) (by decide) (by decide)
                    refine zj_icmp_ge (t := 188) (zdk ttX11_must 50 rfl rfl) (by decide) (by omega) (by omega) (fun c1334 => ?_) (fun c1334 => ?_)
                    · refine zj_iload (zdk ttX11_must 97 rfl rfl) rfl ?_
                      refine zj_iconst (zdk ttX11_must 98 rfl rfl) ?_
                      refine zj_icmp_eq (t := 199) (zdk ttX11_must 99 rfl rfl) (by decide) (by omega) (by decide) (fun c1335 => ?_) (fun c1335 => ?_)
                      · refine zj_iload (zdk ttX11_must 103 rfl rfl) rfl ?_
                        refine zj_goto (t := 210) (zdk ttX11_must 104 rfl rfl) (by decide) ?_
                        exact zj_iret rfl (zdk ttX11_must 108 rfl rfl) (Nat.le_refl _) (Nat.le_refl _) ⟨x129, rfl, by omega, s25, f26, (by intro E th x t0; have g0 := zY_g t0; have n0 := g0.2; have eN : h.2 0 6 = E.n := g0.1.1; obtain ⟨d, le⟩ := u1330 E th x t0; rw [eN] at le; have es : x130.toNat = 2 ^ E.n.toNat := mPow_e n0 (by rw [← eN]; omega) le; rw [es] at d; refine ⟨fun q9 => absurd (by omega) q9, fun q9 => ⟨x129, d, ?_, ?_⟩⟩; (intro q8; rfl); (intro q8; exact absurd (by omega) q8))⟩
                      · refine zj_iload_n (zdk ttX11_must 100 rfl rfl) rfl ?_
                        refine zj_iconst (zdk ttX11_must 101 rfl rfl) ?_
                        refine zj_icmp_ne (t := 204) (zdk ttX11_must 102 rfl rfl) (by decide) (by omega) (by decide) (fun c1336 => ?_) (fun c1336 => ?_)
                        · refine zj_aload_n (zdk ttX11_must 105 rfl rfl) rfl (by decide) ?_
                          refine zj_iload (zdk ttX11_must 106 rfl rfl) rfl ?_
                          refine zj_callV (av := [.inl x129]) (st := []) (zdk ttX11_must 107 rfl rfl) mb_X11_onesOf mv_RX11_316 (ci := 11) rfl rfl (k_M s25) rfl rfl (Nat.le_of_ble_eq_true rfl) (s2_X11_onezOf l h24 x129 s25 (by omega)) (rm_ok (by decide) (by decide)) (zq_i fun v1338 h1339 q1337 => ?_)
                          obtain ⟨rfl, b1340, u1341⟩ := q1337
                          exact zj_iret rfl (zdk ttX11_must 108 rfl rfl) (Nat.le_refl _) (Nat.le_refl _) ⟨v1338, rfl, by omega, s25, f26, (by intro E th x t0; have g0 := zY_g t0; have n0 := g0.2; have eN : h.2 0 6 = E.n := g0.1.1; obtain ⟨d, le⟩ := u1330 E th x t0; rw [eN] at le; have es : x130.toNat = 2 ^ E.n.toNat := mPow_e n0 (by rw [← eN]; omega) le; rw [es] at d; refine ⟨fun q9 => absurd (by omega) q9, fun q9 => ⟨x129, d, ?_, ?_⟩⟩; (intro q8; exfalso; omega); (intro q8; exact u1341))⟩
                        · refine zj_iload (zdk ttX11_must 103 rfl rfl) rfl ?_
                          refine zj_goto (t := 210) (zdk ttX11_must 104 rfl rfl) (by decide) ?_
                          exact zj_iret rfl (zdk ttX11_must 108 rfl rfl) (Nat.le_refl _) (Nat.le_refl _) ⟨x129, rfl, by omega, s25, f26, (by intro E th x t0; have g0 := zY_g t0; have n0 := g0.2; have eN : h.2 0 6 = E.n := g0.1.1; obtain ⟨d, le⟩ := u1330 E th x t0; rw [eN] at le; have es : x130.toNat = 2 ^ E.n.toNat := mPow_e n0 (by rw [← eN]; omega) le; rw [es] at d; refine ⟨fun q9 => absurd (by omega) q9, fun q9 => ⟨x129, d, ?_, ?_⟩⟩; (intro q8; rfl); (intro q8; exact absurd (by omega) q8))⟩
                    · refine zj_iload (zdk ttX11_must 51 rfl rfl) rfl ?_
                      refine zj_iload_n (zdk ttX11_must 52 rfl rfl) rfl ?_
                      refine zj_iconst (zdk ttX11_must 53 rfl rfl) ?_
                      refine zj_ixor (zdk ttX11_must 54 rfl rfl) ?_
                      have b1342 := zxor_in v19 (-1)
                      refine zj_iand (zdk ttX11_must 55 rfl rfl) ?_
                      have b1343 := zand_l (a := x130) (by omega) (zxor v19 (-1))
                      refine zj_if_ne (t := 182) (zdk ttX11_must 56 rfl rfl) (by decide) (by omega) (fun c1344 => ?_) (fun c1344 => ?_)
                      · refine zj_iinc (L' := [some (.inr 0), some (.inl p1), some (.inl p2), some (.inl v19), some (.inl x129), some (.inl (x130 + 1)), none, none]) (zdk ttX11_must 95 rfl rfl) rfl (by decide) rfl ?_
                        refine zj_goto (t := 84) (zdk ttX11_must 96 rfl rfl) (by decide) ?_
                        exact ih1332  x129 (x130 + 1) (by omega) (by omega) (by intro E th x t0; have g0 := zY_g t0; have n0 := g0.2; have eN : h.2 0 6 = E.n := g0.1.1; have hz : zHs v19 E.n x.1 := u22 E th x (zY_o t0 e2 (by unfold zDm zDe; omega)); obtain ⟨d, le⟩ := u1330 E th x t0; rw [eN] at le; have hs : 0 ≤ x130 ∧ x130 < zshl 1 E.n := ⟨by omega, by rw [← eN]; omega⟩; refine ⟨?_, by rw [eN]; omega⟩; exact mR_h n0 hz (by omega) d hs (by omega)) (by omega)
                      · refine zj_iload (zdk ttX11_must 57 rfl rfl) rfl ?_
                        refine zj_iconst (zdk ttX11_must 58 rfl rfl) ?_
                        refine zj_icmp_eq (t := 128) (zdk ttX11_must 59 rfl rfl) (by decide) (by omega) (by decide) (fun c1345 => ?_) (fun c1345 => ?_)
                        · refine zj_iconst (zdk ttX11_must 68 rfl rfl) ?_
                          refine zj_istore (L' := [some (.inr 0), some (.inl p1), some (.inl p2), some (.inl v19), some (.inl x129), some (.inl x130), some (.inl 0), none]) (zdk ttX11_must 69 rfl rfl) (by decide) rfl ?_
                          refine zj_iconst (zdk ttX11_must 70 rfl rfl) ?_
                          refine zj_istore (L' := [some (.inr 0), some (.inl p1), some (.inl p2), some (.inl v19), some (.inl x129), some (.inl x130), some (.inl 0), some (.inl 0)]) (zdk ttX11_must 71 rfl rfl) (by decide) rfl ?_
                          have lp1392 : ∀ (n134 : Nat) (x1346 x1347 : Int), (-2147483648 ≤ x1346 ∧ x1346 ≤ 2147483647) → (0 ≤ x1347 ∧ x1347 ≤ 18) → (∀ E th x, zY h E th x → x1346 = fsm (fWi E x.1) (fun j => x130.toNat.testBit j) x1347.toNat ∧ x1347 ≤ (h.2 0 6)) → (19 - x1347).toNat < n134 → zJ shM l yX11_must cX11_must 8 (some .int) (rmL 6) 0 0 (q2_X11_must h p1 p2) 0 0 134 [some (.inr 0), some (.inl p1), some (.inl p2), some (.inl v19), some (.inl x129), some (.inl x130), some (.inl x1346), some (.inl x1347)] [] h24 := by
                            intro n134
                            induction n134 with
                            | zero => intro x1346 x1347 b1393 b1394 u1395 m1396; exact absurd m1396 (Nat.not_lt_zero _)
                            | succ n134 ih1397 =>
                              intro x1346 x1347 b1393 b1394 u1395 m1396
                              refine zj_iload (zdk ttX11_must 72 rfl rfl) rfl ?_
                              refine zj_aload_n (zdk ttX11_must 73 rfl rfl) rfl (by decide) ?_
                              refine zj_geti (v := (h.2 0 6)) (zdk ttX11_must 74 rfl rfl) zf_RX11_132 rfl (k_M s25) (zfr_f f26 rfl rfl) ?_
                              refine zj_icmp_ge (t := 172) (zdk ttX11_must 75 rfl rfl) (by decide) (by omega) (by omega) (fun c1398 => ?_) (fun c1398 => ?_)
                              · refine zj_iload (zdk ttX11_must 90 rfl rfl) rfl ?_
                                refine zj_iload_n (zdk ttX11_must 91 rfl rfl) rfl ?_
                                refine zj_icmp_ne (t := 182) (zdk ttX11_must 92 rfl rfl) (by decide) (by omega) (by omega) (fun c1399 => ?_) (fun c1399 => ?_)
                                · refine zj_iinc (L' := [some (.inr 0), some (.inl p1), some (.inl p2), some (.inl v19), some (.inl x129), some (.inl (x130 + 1)), some (.inl x1346), some (.inl x1347)]) (zdk ttX11_must 95 rfl rfl) rfl (by decide) rfl ?_
                                  refine zj_goto (t := 84) (zdk ttX11_must 96 rfl rfl) (by decide) ?_
                                  refine zj_kill (k := 6) (L' := [some (.inr 0), some (.inl p1), some (.inl p2), some (.inl v19), some (.inl x129), some (.inl (x130 + 1)), none, some (.inl x1347)]) rfl ?_
                                  refine zj_kill (k := 7) (L' := [some (.inr 0), some (.inl p1), some (.inl p2), some (.inl v19), some (.inl x129), some (.inl (x130 + 1)), none, none]) rfl ?_
                                  exact ih1332  x129 (x130 + 1) (by omega) (by omega) (by intro E th x t0; have g0 := zY_g t0; have n0 := g0.2; have eN : h.2 0 6 = E.n := g0.1.1; have hz : zHs v19 E.n x.1 := u22 E th x (zY_o t0 e2 (by unfold zDm zDe; omega)); obtain ⟨d, le⟩ := u1330 E th x t0; rw [eN] at le; have hs : 0 ≤ x130 ∧ x130 < zshl 1 E.n := ⟨by omega, by rw [← eN]; omega⟩; refine ⟨?_, by rw [eN]; omega⟩; obtain ⟨e9, l9⟩ := u1395 E th x t0; rw [show x1347 = E.n by omega] at e9; have mr := mR_s n0 hz (by omega) d hs (by omega) e9 (Or.inl (by omega)); exact mr.1 (by omega)) (by omega)
                                · refine zj_iload (zdk ttX11_must 93 rfl rfl) rfl ?_
                                  refine zj_istore (L' := [some (.inr 0), some (.inl p1), some (.inl p2), some (.inl v19), some (.inl x130), some (.inl x130), some (.inl x1346), some (.inl x1347)]) (zdk ttX11_must 94 rfl rfl) (by decide) rfl ?_
                                  refine zj_iinc (L' := [some (.inr 0), some (.inl p1), some (.inl p2), some (.inl v19), some (.inl x130), some (.inl (x130 + 1)), some (.inl x1346), some (.inl x1347)]) (zdk ttX11_must 95 rfl rfl) rfl (by decide) rfl ?_
                                  refine zj_goto (t := 84) (zdk ttX11_must 96 rfl rfl) (by decide) ?_
                                  refine zj_kill (k := 6) (L' := [some (.inr 0), some (.inl p1), some (.inl p2), some (.inl v19), some (.inl x130), some (.inl (x130 + 1)), none, some (.inl x1347)]) rfl ?_
                                  refine zj_kill (k := 7) (L' := [some (.inr 0), some (.inl p1), some (.inl p2), some (.inl v19), some (.inl x130), some (.inl (x130 + 1)), none, none]) rfl ?_
                                  exact ih1332  x130 (x130 + 1) (by omega) (by omega) (by intro E th x t0; have g0 := zY_g t0; have n0 := g0.2; have eN : h.2 0 6 = E.n := g0.1.1; have hz : zHs v19 E.n x.1 := u22 E th x (zY_o t0 e2 (by unfold zDm zDe; omega)); obtain ⟨d, le⟩ := u1330 E th x t0; rw [eN] at le; have hs : 0 ≤ x130 ∧ x130 < zshl 1 E.n := ⟨by omega, by rw [← eN]; omega⟩; refine ⟨?_, by rw [eN]; omega⟩; obtain ⟨e9, l9⟩ := u1395 E th x t0; rw [show x1347 = E.n by omega] at e9; have mr := mR_s n0 hz (by omega) d hs (by omega) e9 (Or.inl (by omega)); exact mr.2 (by omega)) (by omega)
                              · refine zj_aload_n (zdk ttX11_must 76 rfl rfl) rfl (by decide) ?_
                                refine zj_iload (zdk ttX11_must 77 rfl rfl) rfl ?_
                                refine zj_iload (zdk ttX11_must 78 rfl rfl) rfl ?_
                                refine zj_callV (av := [.inl x130, .inl x1347]) (st := []) (zdk ttX11_must 79 rfl rfl) mb_X11_has mv_RX11_309 (ci := 11) rfl rfl (k_M s25) rfl rfl (Nat.le_of_ble_eq_true rfl) (s_X11_has l h24 x130 x1347 s25 (by omega) (by omega)) (rm_ok (by decide) (by decide)) (zq_i fun v1401 h1402 q1400 => ?_)
                                obtain ⟨rfl, ⟨rfl, b1403⟩ | ⟨rfl, b1403⟩⟩ := q1400
                                · refine zj_if_eq (t := 166) (zdk ttX11_must 80 rfl rfl) (by decide) (by decide) (fun c1404 => ?_) (fun c1404 => ?_)
                                  · refine zj_iinc (L' := [some (.inr 0), some (.inl p1), some (.inl p2), some (.inl v19), some (.inl x129), some (.inl x130), some (.inl x1346), some (.inl (x1347 + 1))]) (zdk ttX11_must 88 rfl rfl) rfl (by decide) rfl ?_
                                    refine zj_goto (t := 134) (zdk ttX11_must 89 rfl rfl) (by decide) ?_
                                    exact ih1397  x1346 (x1347 + 1) (by omega) (by omega) (by intro E th x t0; have g0 := zY_g t0; have n0 := g0.2; have eN : h.2 0 6 = E.n := g0.1.1; obtain ⟨e9, l9⟩ := u1395 E th x t0; refine ⟨(fsm_i (x := 0) (by omega) (by omega) e9).2 (by omega), by omega⟩) (by omega)
                                  · exact absurd c1404 (by omega)
                                · refine zj_if_eq (t := 166) (zdk ttX11_must 80 rfl rfl) (by decide) (by decide) (fun c1405 => ?_) (fun c1405 => ?_)
                                  · exact absurd c1405 (by omega)
                                  · refine zj_iload (zdk ttX11_must 81 rfl rfl) rfl ?_
                                    refine zj_aload_n (zdk ttX11_must 82 rfl rfl) rfl (by decide) ?_
                                    refine zj_getr (r := 22) (zdk ttX11_must 83 rfl rfl) zf_RX11_77 rfl (k_M s25) (rfM_41 s25) ?_
                                    refine zj_iload (zdk ttX11_must 84 rfl rfl) rfl ?_
                                    have b1406 : -2147483648 ≤ (h24.2 22 x1347) ∧ (h24.2 22 x1347) ≤ 2147483647 := abM_22 s25 x1347
                                    refine zj_iald (v := (h24.2 22 x1347)) (zdk ttX11_must 85 rfl rfl) (kaM_22 s25) (by decide) (by omega) rfl ?_
                                    refine zj_iadd (zdk ttX11_must 86 rfl rfl) ?_
                                    refine zj_wrap ?_
                                    have b1407 := zwp_in (x1346 + (h24.2 22 x1347))
                                    refine zj_istore (L' := [some (.inr 0), some (.inl p1), some (.inl p2), some (.inl v19), some (.inl x129), some (.inl x130), some (.inl (zwp (x1346 + (h24.2 22 x1347)))), some (.inl x1347)]) (zdk ttX11_must 87 rfl rfl) (by decide) rfl ?_
                                    refine zj_iinc (L' := [some (.inr 0), some (.inl p1), some (.inl p2), some (.inl v19), some (.inl x129), some (.inl x130), some (.inl (zwp (x1346 + (h24.2 22 x1347)))), some (.inl (x1347 + 1))]) (zdk ttX11_must 88 rfl rfl) rfl (by decide) rfl ?_
                                    refine zj_goto (t := 134) (zdk ttX11_must 89 rfl rfl) (by decide) ?_
                                    exact ih1397  (zwp (x1346 + (h24.2 22 x1347))) (x1347 + 1) (by omega) (by omega) (by intro E th x t0; have g0 := zY_g t0; have n0 := g0.2; have eN : h.2 0 6 = E.n := g0.1.1; obtain ⟨e9, l9⟩ := u1395 E th x t0; have x9 := u124 E th x t0 x1347 (by omega) (by omega); refine ⟨(fsm_i (by omega) (by omega) e9).1 (by omega) x9, by omega⟩) (by omega)
                          exact lp1392 _ 0 0 (by omega) (by omega) (fun E th x t0 => ⟨rfl, by have g0 := zY_g t0; omega⟩) (Nat.lt_succ_self _)
                        · refine zj_aload_n (zdk ttX11_must 60 rfl rfl) rfl (by decide) ?_
                          refine zj_iload (zdk ttX11_must 61 rfl rfl) rfl ?_
                          refine zj_callV (av := [.inl x130]) (st := []) (zdk ttX11_must 62 rfl rfl) mb_X11_onesOf mv_RX11_316 (ci := 11) rfl rfl (k_M s25) rfl rfl (Nat.le_of_ble_eq_true rfl) (s2_X11_onezOf l h24 x130 s25 (by omega)) (rm_ok (by decide) (by decide)) (zq_i fun v1409 h1410 q1408 => ?_)
                          obtain ⟨rfl, b1411, u1412⟩ := q1408
                          refine zj_aload_n (zdk ttX11_must 63 rfl rfl) rfl (by decide) ?_
                          refine zj_iload (zdk ttX11_must 64 rfl rfl) rfl ?_
                          refine zj_callV (av := [.inl x129]) (st := [.inl v1409]) (zdk ttX11_must 65 rfl rfl) mb_X11_onesOf mv_RX11_316 (ci := 11) rfl rfl (k_M s25) rfl rfl (Nat.le_of_ble_eq_true rfl) (s2_X11_onezOf l h24 x129 s25 (by omega)) (rm_ok (by decide) (by decide)) (zq_i fun v1414 h1415 q1413 => ?_)
                          obtain ⟨rfl, b1416, u1417⟩ := q1413
                          refine zj_icmp_lt (t := 128) (zdk ttX11_must 66 rfl rfl) (by decide) (by omega) (by omega) (fun c1418 => ?_) (fun c1418 => ?_)
                          · refine zj_iconst (zdk ttX11_must 68 rfl rfl) ?_
                            refine zj_istore (L' := [some (.inr 0), some (.inl p1), some (.inl p2), some (.inl v19), some (.inl x129), some (.inl x130), some (.inl 0), none]) (zdk ttX11_must 69 rfl rfl) (by decide) rfl ?_
                            refine zj_iconst (zdk ttX11_must 70 rfl rfl) ?_
                            refine zj_istore (L' := [some (.inr 0), some (.inl p1), some (.inl p2), some (.inl v19), some (.inl x129), some (.inl x130), some (.inl 0), some (.inl 0)]) (zdk ttX11_must 71 rfl rfl) (by decide) rfl ?_
                            have lp1465 : ∀ (n134 : Nat) (x1419 x1420 : Int), (-2147483648 ≤ x1419 ∧ x1419 ≤ 2147483647) → (0 ≤ x1420 ∧ x1420 ≤ 18) → (∀ E th x, zY h E th x → x1419 = fsm (fWi E x.1) (fun j => x130.toNat.testBit j) x1420.toNat ∧ x1420 ≤ (h.2 0 6)) → (19 - x1420).toNat < n134 → zJ shM l yX11_must cX11_must 8 (some .int) (rmL 6) 0 0 (q2_X11_must h p1 p2) 0 0 134 [some (.inr 0), some (.inl p1), some (.inl p2), some (.inl v19), some (.inl x129), some (.inl x130), some (.inl x1419), some (.inl x1420)] [] h24 := by
                              intro n134
                              induction n134 with
                              | zero => intro x1419 x1420 b1466 b1467 u1468 m1469; exact absurd m1469 (Nat.not_lt_zero _)
                              | succ n134 ih1470 =>
                                intro x1419 x1420 b1466 b1467 u1468 m1469
                                refine zj_iload (zdk ttX11_must 72 rfl rfl) rfl ?_
                                refine zj_aload_n (zdk ttX11_must 73 rfl rfl) rfl (by decide) ?_
                                refine zj_geti (v := (h.2 0 6)) (zdk ttX11_must 74 rfl rfl) zf_RX11_132 rfl (k_M s25) (zfr_f f26 rfl rfl) ?_
                                refine zj_icmp_ge (t := 172) (zdk ttX11_must 75 rfl rfl) (by decide) (by omega) (by omega) (fun c1471 => ?_) (fun c1471 => ?_)
                                · refine zj_iload (zdk ttX11_must 90 rfl rfl) rfl ?_
                                  refine zj_iload_n (zdk ttX11_must 91 rfl rfl) rfl ?_
                                  refine zj_icmp_ne (t := 182) (zdk ttX11_must 92 rfl rfl) (by decide) (by omega) (by omega) (fun c1472 => ?_) (fun c1472 => ?_)
                                  · refine zj_iinc (L' := [some (.inr 0), some (.inl p1), some (.inl p2), some (.inl v19), some (.inl x129), some (.inl (x130 + 1)), some (.inl x1419), some (.inl x1420)]) (zdk ttX11_must 95 rfl rfl) rfl (by decide) rfl ?_
                                    refine zj_goto (t := 84) (zdk ttX11_must 96 rfl rfl) (by decide) ?_
                                    refine zj_kill (k := 6) (L' := [some (.inr 0), some (.inl p1), some (.inl p2), some (.inl v19), some (.inl x129), some (.inl (x130 + 1)), none, some (.inl x1420)]) rfl ?_
                                    refine zj_kill (k := 7) (L' := [some (.inr 0), some (.inl p1), some (.inl p2), some (.inl v19), some (.inl x129), some (.inl (x130 + 1)), none, none]) rfl ?_
                                    exact ih1332  x129 (x130 + 1) (by omega) (by omega) (by intro E th x t0; have g0 := zY_g t0; have n0 := g0.2; have eN : h.2 0 6 = E.n := g0.1.1; have hz : zHs v19 E.n x.1 := u22 E th x (zY_o t0 e2 (by unfold zDm zDe; omega)); obtain ⟨d, le⟩ := u1330 E th x t0; rw [eN] at le; have hs : 0 ≤ x130 ∧ x130 < zshl 1 E.n := ⟨by omega, by rw [← eN]; omega⟩; refine ⟨?_, by rw [eN]; omega⟩; obtain ⟨e9, l9⟩ := u1468 E th x t0; rw [show x1420 = E.n by omega] at e9; have mr := mR_s n0 hz (by omega) d hs (by omega) e9 (Or.inr ⟨by omega, by rw [← u1412, ← u1417]; omega⟩); exact mr.1 (by omega)) (by omega)
                                  · refine zj_iload (zdk ttX11_must 93 rfl rfl) rfl ?_
                                    refine zj_istore (L' := [some (.inr 0), some (.inl p1), some (.inl p2), some (.inl v19), some (.inl x130), some (.inl x130), some (.inl x1419), some (.inl x1420)]) (zdk ttX11_must 94 rfl rfl) (by decide) rfl ?_
                                    refine zj_iinc (L' := [some (.inr 0), some (.inl p1), some (.inl p2), some (.inl v19), some (.inl x130), some (.inl (x130 + 1)), some (.inl x1419), some (.inl x1420)]) (zdk ttX11_must 95 rfl rfl) rfl (by decide) rfl ?_
                                    refine zj_goto (t := 84) (zdk ttX11_must 96 rfl rfl) (by decide) ?_
                                    refine zj_kill (k := 6) (L' := [some (.inr 0), some (.inl p1), some (.inl p2), some (.inl v19), some (.inl x130), some (.inl (x130 + 1)), none, some (.inl x1420)]) rfl ?_
                                    refine zj_kill (k := 7) (L' := [some (.inr 0), some (.inl p1), some (.inl p2), some (.inl v19), some (.inl x130), some (.inl (x130 + 1)), none, none]) rfl ?_
                                    exact ih1332  x130 (x130 + 1) (by omega) (by omega) (by intro E th x t0; have g0 := zY_g t0; have n0 := g0.2; have eN : h.2 0 6 = E.n := g0.1.1; have hz : zHs v19 E.n x.1 := u22 E th x (zY_o t0 e2 (by unfold zDm zDe; omega)); obtain ⟨d, le⟩ := u1330 E th x t0; rw [eN] at le; have hs : 0 ≤ x130 ∧ x130 < zshl 1 E.n := ⟨by omega, by rw [← eN]; omega⟩; refine ⟨?_, by rw [eN]; omega⟩; obtain ⟨e9, l9⟩ := u1468 E th x t0; rw [show x1420 = E.n by omega] at e9; have mr := mR_s n0 hz (by omega) d hs (by omega) e9 (Or.inr ⟨by omega, by rw [← u1412, ← u1417]; omega⟩); exact mr.2 (by omega)) (by omega)
                                · refine zj_aload_n (zdk ttX11_must 76 rfl rfl) rfl (by decide) ?_
                                  refine zj_iload (zdk ttX11_must 77 rfl rfl) rfl ?_
                                  refine zj_iload (zdk ttX11_must 78 rfl rfl) rfl ?_
                                  refine zj_callV (av := [.inl x130, .inl x1420]) (st := []) (zdk ttX11_must 79 rfl rfl) mb_X11_has mv_RX11_309 (ci := 11) rfl rfl (k_M s25) rfl rfl (Nat.le_of_ble_eq_true rfl) (s_X11_has l h24 x130 x1420 s25 (by omega) (by omega)) (rm_ok (by decide) (by decide)) (zq_i fun v1474 h1475 q1473 => ?_)
                                  obtain ⟨rfl, ⟨rfl, b1476⟩ | ⟨rfl, b1476⟩⟩ := q1473
                                  · refine zj_if_eq (t := 166) (zdk ttX11_must 80 rfl rfl) (by decide) (by decide) (fun c1477 => ?_) (fun c1477 => ?_)
                                    · refine zj_iinc (L' := [some (.inr 0), some (.inl p1), some (.inl p2), some (.inl v19), some (.inl x129), some (.inl x130), some (.inl x1419), some (.inl (x1420 + 1))]) (zdk ttX11_must 88 rfl rfl) rfl (by decide) rfl ?_
                                      refine zj_goto (t := 134) (zdk ttX11_must 89 rfl rfl) (by decide) ?_
                                      exact ih1470  x1419 (x1420 + 1) (by omega) (by omega) (by intro E th x t0; have g0 := zY_g t0; have n0 := g0.2; have eN : h.2 0 6 = E.n := g0.1.1; obtain ⟨e9, l9⟩ := u1468 E th x t0; refine ⟨(fsm_i (x := 0) (by omega) (by omega) e9).2 (by omega), by omega⟩) (by omega)
                                    · exact absurd c1477 (by omega)
                                  · refine zj_if_eq (t := 166) (zdk ttX11_must 80 rfl rfl) (by decide) (by decide) (fun c1478 => ?_) (fun c1478 => ?_)
                                    · exact absurd c1478 (by omega)
                                    · refine zj_iload (zdk ttX11_must 81 rfl rfl) rfl ?_
                                      refine zj_aload_n (zdk ttX11_must 82 rfl rfl) rfl (by decide) ?_
                                      refine zj_getr (r := 22) (zdk ttX11_must 83 rfl rfl) zf_RX11_77 rfl (k_M s25) (rfM_41 s25) ?_
                                      refine zj_iload (zdk ttX11_must 84 rfl rfl) rfl ?_
                                      have b1479 : -2147483648 ≤ (h24.2 22 x1420) ∧ (h24.2 22 x1420) ≤ 2147483647 := abM_22 s25 x1420
                                      refine zj_iald (v := (h24.2 22 x1420)) (zdk ttX11_must 85 rfl rfl) (kaM_22 s25) (by decide) (by omega) rfl ?_
                                      refine zj_iadd (zdk ttX11_must 86 rfl rfl) ?_
                                      refine zj_wrap ?_
                                      have b1480 := zwp_in (x1419 + (h24.2 22 x1420))
                                      refine zj_istore (L' := [some (.inr 0), some (.inl p1), some (.inl p2), some (.inl v19), some (.inl x129), some (.inl x130), some (.inl (zwp (x1419 + (h24.2 22 x1420)))), some (.inl x1420)]) (zdk ttX11_must 87 rfl rfl) (by decide) rfl ?_
                                      refine zj_iinc (L' := [some (.inr 0), some (.inl p1), some (.inl p2), some (.inl v19), some (.inl x129), some (.inl x130), some (.inl (zwp (x1419 + (h24.2 22 x1420)))), some (.inl (x1420 + 1))]) (zdk ttX11_must 88 rfl rfl) rfl (by decide) rfl ?_
                                      refine zj_goto (t := 134) (zdk ttX11_must 89 rfl rfl) (by decide) ?_
                                      exact ih1470  (zwp (x1419 + (h24.2 22 x1420))) (x1420 + 1) (by omega) (by omega) (by intro E th x t0; have g0 := zY_g t0; have n0 := g0.2; have eN : h.2 0 6 = E.n := g0.1.1; obtain ⟨e9, l9⟩ := u1468 E th x t0; have x9 := u124 E th x t0 x1420 (by omega) (by omega); refine ⟨(fsm_i (by omega) (by omega) e9).1 (by omega) x9, by omega⟩) (by omega)
                            exact lp1465 _ 0 0 (by omega) (by omega) (fun E th x t0 => ⟨rfl, by have g0 := zY_g t0; omega⟩) (Nat.lt_succ_self _)
                          · refine zj_goto (t := 182) (zdk ttX11_must 67 rfl rfl) (by decide) ?_
                            refine zj_iinc (L' := [some (.inr 0), some (.inl p1), some (.inl p2), some (.inl v19), some (.inl x129), some (.inl (x130 + 1)), none, none]) (zdk ttX11_must 95 rfl rfl) rfl (by decide) rfl ?_
                            refine zj_goto (t := 84) (zdk ttX11_must 96 rfl rfl) (by decide) ?_
                            exact ih1332  x129 (x130 + 1) (by omega) (by omega) (by intro E th x t0; have g0 := zY_g t0; have n0 := g0.2; have eN : h.2 0 6 = E.n := g0.1.1; have hz : zHs v19 E.n x.1 := u22 E th x (zY_o t0 e2 (by unfold zDm zDe; omega)); obtain ⟨d, le⟩ := u1330 E th x t0; rw [eN] at le; have hs : 0 ≤ x130 ∧ x130 < zshl 1 E.n := ⟨by omega, by rw [← eN]; omega⟩; refine ⟨?_, by rw [eN]; omega⟩; exact mR_o n0 d hs (by omega) (by rw [← u1412, ← u1417]; omega)) (by omega)
                exact lp1327 _ (-1) 0 (by omega) (by omega) (fun E th x t0 => ⟨mR_0, by have g0 := zY_g t0; rw [g0.1.1]; exact mPow_0 g0.2⟩) (Nat.lt_succ_self _)
              · refine zj_aload_n (zdk ttX11_must 28 rfl rfl) rfl (by decide) ?_
                refine zj_getr (r := 22) (zdk ttX11_must 29 rfl rfl) zf_RX11_77 rfl (k_M s25) (rfM_41 s25) ?_
                refine zj_iload (zdk ttX11_must 30 rfl rfl) rfl ?_
                refine zj_aload_n (zdk ttX11_must 31 rfl rfl) rfl (by decide) ?_
                refine zj_iload (zdk ttX11_must 32 rfl rfl) rfl ?_
                refine zj_callV (av := [.inl x23]) (st := [.inl x23, .inr 22]) (zdk ttX11_must 33 rfl rfl) mb_X11_isHere mv_RX11_135 (ci := 11) rfl rfl (k_M s25) rfl rfl (Nat.le_of_ble_eq_true rfl) (s_X11_isHere l h24 x23 s25 (by omega)) (rm_ok (by decide) (by decide)) (zq_i fun v1482 h1483 q1481 => ?_)
                obtain ⟨rfl, ⟨rfl, b1484⟩ | ⟨rfl, b1484⟩⟩ := q1481
                · refine zj_if_eq (t := 73) (zdk ttX11_must 34 rfl rfl) (by decide) (by decide) (fun c1485 => ?_) (fun c1485 => ?_)
                  · refine zj_iconst (zdk ttX11_must 39 rfl rfl) ?_
                    refine zj_iast (zdk ttX11_must 40 rfl rfl) (kaM_22 s25) (by decide) (by omega) (fun h1486 e1487 => ?_)
                    refine zj_iinc (L' := [some (.inr 0), some (.inl p1), some (.inl p2), some (.inl v19), some (.inl (-1)), some (.inl (x23 + 1)), none, none]) (zdk ttX11_must 41 rfl rfl) rfl (by decide) rfl ?_
                    refine zj_goto (t := 40) (zdk ttX11_must 42 rfl rfl) (by decide) ?_
                    have s1488 : okM h1486 := awM_22 s25 e1487 (by omega) (by unfold nsp; omega)
                    have f1489 : zfr [0] [20, 21, 22] h h1486 := zfr_wa f26 e1487 rfl
                    exact ih126  (x23 + 1) h1486 (by omega) s1488 f1489 (by intro E th x t0 i9 a9 b9; have g0 := zY_g t0; have tH : zY h24 E th x := (zY_fr t0 f26 rfl); have r8 := zY_r tH (k := 9 + x23) (by omega) (by omega); rw [zwr_if e1487 i9]; by_cases q9 : i9 = x23; (rw [if_pos q9, q9]; exact (fWi_a (by omega)).symm); (rw [if_neg q9]; exact u124 E th x t0 i9 a9 (by omega))) (by omega)
                  · exact absurd c1485 (by omega)
                · refine zj_if_eq (t := 73) (zdk ttX11_must 34 rfl rfl) (by decide) (by decide) (fun c1490 => ?_) (fun c1490 => ?_)
                  · exact absurd c1490 (by omega)
                  · refine zj_aload_n (zdk ttX11_must 35 rfl rfl) rfl (by decide) ?_
                    refine zj_iload (zdk ttX11_must 36 rfl rfl) rfl ?_
                    refine zj_callV (av := [.inl x23]) (st := [.inl x23, .inr 22]) (zdk ttX11_must 37 rfl rfl) mb_X11_windsOf mv_RX11_334 (ci := 11) rfl rfl (k_M s25) rfl rfl (Nat.le_of_ble_eq_true rfl) (s2_X11_windsOf l h24 x23 s25 (by omega)) (rm_ok (by decide) (by decide)) (zq_i fun v1492 h1493 q1491 => ?_)
                    obtain ⟨b1494, s1495, f1497, u1496⟩ := q1491
                    refine zj_goto (t := 74) (zdk ttX11_must 38 rfl rfl) (by decide) ?_
                    refine zj_iast (zdk ttX11_must 40 rfl rfl) (kaM_22 s1495) (by decide) (by omega) (fun h1498 e1499 => ?_)
                    refine zj_iinc (L' := [some (.inr 0), some (.inl p1), some (.inl p2), some (.inl v19), some (.inl (-1)), some (.inl (x23 + 1)), none, none]) (zdk ttX11_must 41 rfl rfl) rfl (by decide) rfl ?_
                    refine zj_goto (t := 40) (zdk ttX11_must 42 rfl rfl) (by decide) ?_
                    have s1500 : okM h1498 := awM_22 s1495 e1499 (by omega) (by unfold nsp; omega)
                    have f1502 : zfr [0] [20, 21, 22] h h1493 := zfr_t f26 f1497 rfl rfl
                    have f1501 : zfr [0] [20, 21, 22] h h1498 := zfr_wa f1502 e1499 rfl
                    exact ih126  (x23 + 1) h1498 (by omega) s1500 f1501 (by intro E th x t0 i9 a9 b9; have g0 := zY_g t0; have tH : zY h24 E th x := (zY_fr t0 f26 rfl); have r8 := zY_r tH (k := 9 + x23) (by omega) (by omega); rw [zwr_if e1499 i9]; by_cases q9 : i9 = x23; (have e1 : v1492 = fTl E x.1 1 x23 := u1496 E th x tH ⟨by omega, by omega⟩; rw [if_pos q9, q9]; exact e1.trans (fWi_h (by omega)).symm); (rw [if_neg q9]; exact ((zfr_a f1497 rfl (by decide))).trans (u124 E th x t0 i9 a9 (by omega)))) (by omega)
          have f1503 : zfr [0] [20, 21, 22] h h1 := zfr_wf (zfr_r _ _ _) e2 rfl
          exact lp122 _ 0 h1 (by omega) s3 f1503 (fun E th x t0 i9 a9 b9 => absurd b9 (by omega)) (Nat.lt_succ_self _)
        · exact absurd c17 (by omega)
