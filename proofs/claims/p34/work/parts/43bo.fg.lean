abbrev q2_X11_onezOf (h : zM) (p1 : Int) : Option zV → zM → Prop := zqi fun v h' => h = h' ∧ (0 ≤ v ∧ v ≤ 31) ∧ (v = fct (fgb p1) 31)
set_option maxRecDepth 100000 in
set_option maxHeartbeats 4000000 in
theorem s2_X11_onezOf (l : Launch) (h : zM) (p1 : Int) (s0 : okM h) (b_p1 : 0 ≤ p1 ∧ p1 ≤ 2147483647) : zT shM l yX11_onesOf cX11_onesOf 4 (some .int) (rmL 1) 0 0 [.inr 0, .inl p1] h (q2_X11_onezOf h p1) := by
  refine zT_of (by decide +kernel) (L0 := [some (.inr 0), some (.inl p1), none, none]) rfl (Nat.le_of_ble_eq_true rfl) ?_
  refine zj_iconst (zdk ttX11_onesOf 0 rfl rfl) ?_
  refine zj_istore_n (L' := [some (.inr 0), some (.inl p1), some (.inl 0), none]) (zdk ttX11_onesOf 1 rfl rfl) (by decide) rfl ?_
  refine zj_iload_n (zdk ttX11_onesOf 2 rfl rfl) rfl ?_
  refine zj_istore_n (L' := [some (.inr 0), some (.inl p1), some (.inl 0), some (.inl p1)]) (zdk ttX11_onesOf 3 rfl rfl) (by decide) rfl ?_
  have lp5 : ∀ (n4 : Nat) (x1 x2 : Int), (0 ≤ x1 ∧ x1 ≤ 31) → (0 ≤ x2 ∧ x2 ≤ 2147483647) → (x1 + fct (fgb x2) 31 = fct (fgb p1) 31) → x2.toNat < n4 → zJ shM l yX11_onesOf cX11_onesOf 4 (some .int) (rmL 1) 0 0 (q2_X11_onezOf h p1) 0 0 4 [some (.inr 0), some (.inl p1), some (.inl x1), some (.inl x2)] [] h := by
    intro n4
    induction n4 with
    | zero => intro x1 x2 b6 b7 u8 m9; exact absurd m9 (Nat.not_lt_zero _)
    | succ n4 ih10 =>
      intro x1 x2 b6 b7 u8 m9
      refine zj_iload_n (zdk ttX11_onesOf 4 rfl rfl) rfl ?_
      refine zj_if_eq (t := 21) (zdk ttX11_onesOf 5 rfl rfl) (by decide) (by omega) (fun c11 => ?_) (fun c11 => ?_)
      · refine zj_iload_n (zdk ttX11_onesOf 17 rfl rfl) rfl ?_
        exact zj_iret rfl (zdk ttX11_onesOf 18 rfl rfl) (Nat.le_refl _) (Nat.le_refl _) ⟨x1, rfl, rfl, by omega, (by have e9 := u8; rw [show x2 = 0 by omega, fct_0] at e9; omega)⟩
      · refine zj_iload_n (zdk ttX11_onesOf 6 rfl rfl) rfl ?_
        refine zj_iconst (zdk ttX11_onesOf 7 rfl rfl) ?_
        refine zj_iadd (zdk ttX11_onesOf 8 rfl rfl) ?_
        refine zj_istore_n (L' := [some (.inr 0), some (.inl p1), some (.inl (x1 + 1)), some (.inl x2)]) (zdk ttX11_onesOf 9 rfl rfl) (by decide) rfl ?_
        refine zj_iload_n (zdk ttX11_onesOf 10 rfl rfl) rfl ?_
        refine zj_iload_n (zdk ttX11_onesOf 11 rfl rfl) rfl ?_
        refine zj_iconst (zdk ttX11_onesOf 12 rfl rfl) ?_
        refine zj_isub (zdk ttX11_onesOf 13 rfl rfl) ?_
        refine zj_iand (zdk ttX11_onesOf 14 rfl rfl) ?_
        have b12 := And.intro (zand_l (a := x2) (by omega) (x2 - 1)) (zand_r x2 (b := (x2 - 1)) (by omega))
        refine zj_istore_n (L' := [some (.inr 0), some (.inl p1), some (.inl (x1 + 1)), some (.inl (zand x2 (x2 - 1)))]) (zdk ttX11_onesOf 15 rfl rfl) (by decide) rfl ?_
        refine zj_goto (t := 4) (zdk ttX11_onesOf 16 rfl rfl) (by decide) ?_
        have b13 := fct_1 (x := x2) (by omega)
        have b13a := fct_b (fgb (zand x2 (x2 - 1))) 31
        have b13b := fct_b (fgb p1) 31
        exact ih10  (x1 + 1) (zand x2 (x2 - 1)) (by omega) (by omega) (by omega) (by omega)
  exact lp5 _ 0 p1 (by omega) (by omega) (by omega) (Nat.lt_succ_self _)

abbrev q2_X11_hereSet (h : zM) : Option zV → zM → Prop := zqi fun v h' => h = h' ∧ (0 ≤ v ∧ v ≤ 262143) ∧ (∀ E th x, zY h E th x → zHs v E.n x.1)
set_option maxRecDepth 100000 in
set_option maxHeartbeats 4000000 in
theorem s2_X11_hereSet (l : Launch) (h : zM) (s0 : okM h) : zT shM l yX11_hereSet cX11_hereSet 3 (some .int) (rmL 2) 0 0 [.inr 0] h (q2_X11_hereSet h) := by
  refine zT_of (by decide +kernel) (L0 := [some (.inr 0), none, none]) rfl (Nat.le_of_ble_eq_true rfl) ?_
  have zn9 := fM_6 s0
  refine zj_iconst (zdk ttX11_hereSet 0 rfl rfl) ?_
  refine zj_istore_n (L' := [some (.inr 0), some (.inl 0), none]) (zdk ttX11_hereSet 1 rfl rfl) (by decide) rfl ?_
  refine zj_iconst (zdk ttX11_hereSet 2 rfl rfl) ?_
  refine zj_istore_n (L' := [some (.inr 0), some (.inl 0), some (.inl 0)]) (zdk ttX11_hereSet 3 rfl rfl) (by decide) rfl ?_
  have lp53 : ∀ (n4 : Nat) (x1 x2 : Int), (0 ≤ x1 ∧ x1 ≤ 262143) → (0 ≤ x2 ∧ x2 ≤ 18) → (∀ E th x, zY h E th x → zHs x1 x2 x.1) → (x2 ≤ (h.2 0 6)) → (19 - x2).toNat < n4 → zJ shM l yX11_hereSet cX11_hereSet 3 (some .int) (rmL 2) 0 0 (q2_X11_hereSet h) 0 0 4 [some (.inr 0), some (.inl x1), some (.inl x2)] [] h := by
    intro n4
    induction n4 with
    | zero => intro x1 x2 b54 b55 u56 u57 m58; exact absurd m58 (Nat.not_lt_zero _)
    | succ n4 ih59 =>
      intro x1 x2 b54 b55 u56 u57 m58
      refine zj_iload_n (zdk ttX11_hereSet 4 rfl rfl) rfl ?_
      refine zj_aload_n (zdk ttX11_hereSet 5 rfl rfl) rfl (by decide) ?_
      have b60 : 0 ≤ (h.2 0 6) ∧ (h.2 0 6) ≤ 18 := fM_6 s0
      refine zj_geti (v := (h.2 0 6)) (zdk ttX11_hereSet 6 rfl rfl) zf_RX11_132 rfl (k_M s0) rfl ?_
      refine zj_icmp_ge (t := 32) (zdk ttX11_hereSet 7 rfl rfl) (by decide) (by omega) (by omega) (fun c61 => ?_) (fun c61 => ?_)
      · refine zj_iload_n (zdk ttX11_hereSet 20 rfl rfl) rfl ?_
        exact zj_iret rfl (zdk ttX11_hereSet 21 rfl rfl) (Nat.le_refl _) (Nat.le_refl _) ⟨x1, rfl, rfl, by omega, (fun E th x t0 => by have z9 := u56 E th x t0; have g9 := zY_g t0; rw [show x2 = E.n by omega] at z9; exact z9)⟩
      · refine zj_aload_n (zdk ttX11_hereSet 8 rfl rfl) rfl (by decide) ?_
        refine zj_iload_n (zdk ttX11_hereSet 9 rfl rfl) rfl ?_
        refine zj_callV (av := [.inl x2]) (st := []) (zdk ttX11_hereSet 10 rfl rfl) mb_X11_isHere mv_RX11_135 (ci := 11) rfl rfl (k_M s0) rfl rfl (Nat.le_of_ble_eq_true rfl) (s_X11_isHere l h x2 s0 (by omega)) (rm_ok (by decide) (by decide)) (zq_i fun v63 h64 q62 => ?_)
        obtain ⟨rfl, ⟨rfl, b65⟩ | ⟨rfl, b65⟩⟩ := q62
        · refine zj_if_eq (t := 26) (zdk ttX11_hereSet 11 rfl rfl) (by decide) (by decide) (fun c66 => ?_) (fun c66 => ?_)
          · refine zj_iinc (L' := [some (.inr 0), some (.inl x1), some (.inl (x2 + 1))]) (zdk ttX11_hereSet 18 rfl rfl) rfl (by decide) rfl ?_
            refine zj_goto (t := 4) (zdk ttX11_hereSet 19 rfl rfl) (by decide) ?_
            exact ih59  x1 (x2 + 1) (by omega) (by omega) (fun E th x t0 => zHs_n (u56 E th x t0) (by have r9 := zY_r t0 (k := 9 + x2) (by omega) (by omega); omega)) (by omega) (by omega)
          · exact absurd c66 (by omega)
        · refine zj_if_eq (t := 26) (zdk ttX11_hereSet 11 rfl rfl) (by decide) (by decide) (fun c67 => ?_) (fun c67 => ?_)
          · exact absurd c67 (by omega)
          · refine zj_iload_n (zdk ttX11_hereSet 12 rfl rfl) rfl ?_
            refine zj_iconst (zdk ttX11_hereSet 13 rfl rfl) ?_
            refine zj_iload_n (zdk ttX11_hereSet 14 rfl rfl) rfl ?_
            refine zj_ishl (zdk ttX11_hereSet 15 rfl rfl) ?_
            have b68 := zshl_1 (n := x2) (a := 0) (b := 17) (lo := 1) (hi := 131072) (by omega) (by decide) (by decide) (by decide)
            refine zj_ior (zdk ttX11_hereSet 16 rfl rfl) ?_
            have b69 := zor_k (a := x1) (b := (zshl 1 x2)) (K := 262144) 18 (by decide) (by decide) (by omega) (by omega)
            refine zj_istore_n (L' := [some (.inr 0), some (.inl (zor x1 (zshl 1 x2))), some (.inl x2)]) (zdk ttX11_hereSet 17 rfl rfl) (by decide) rfl ?_
            refine zj_iinc (L' := [some (.inr 0), some (.inl (zor x1 (zshl 1 x2))), some (.inl (x2 + 1))]) (zdk ttX11_hereSet 18 rfl rfl) rfl (by decide) rfl ?_
            refine zj_goto (t := 4) (zdk ttX11_hereSet 19 rfl rfl) (by decide) ?_
            exact ih59  (zor x1 (zshl 1 x2)) (x2 + 1) (by omega) (by omega) (fun E th x t0 => zHs_y (u56 E th x t0) (by omega) (by have r9 := zY_r t0 (k := 9 + x2) (by omega) (by omega); omega)) (by omega) (by omega)
  exact lp53 _ 0 0 (by omega) (by omega) (fun E th x t0 => zHs_0 x.1) (by omega) (Nat.lt_succ_self _)

abbrev q2_X11_kinApart (h : zM) (p1 : Int) : Option zV → zM → Prop := zqi fun v h' => h = h' ∧ (0 ≤ v ∧ v ≤ 18) ∧ (∀ E th x, zY h E th x → (0 ≤ p1 ∧ p1 < E.n) → v = fct (fAp E x.1 p1) E.n.toNat)
set_option maxRecDepth 100000 in
set_option maxHeartbeats 4000000 in
theorem s2_X11_kinApart (l : Launch) (h : zM) (p1 : Int) (s0 : okM h) (b_p1 : 0 ≤ p1 ∧ p1 ≤ 17) : zT shM l yX11_kinApart cX11_kinApart 4 (some .int) (rmL 2) 0 0 [.inr 0, .inl p1] h (q2_X11_kinApart h p1) := by
  refine zT_of (by decide +kernel) (L0 := [some (.inr 0), some (.inl p1), none, none]) rfl (Nat.le_of_ble_eq_true rfl) ?_
  have zn9 := fM_6 s0
  refine zj_iconst (zdk ttX11_kinApart 0 rfl rfl) ?_
  refine zj_istore_n (L' := [some (.inr 0), some (.inl p1), some (.inl 0), none]) (zdk ttX11_kinApart 1 rfl rfl) (by decide) rfl ?_
  refine zj_iconst (zdk ttX11_kinApart 2 rfl rfl) ?_
  refine zj_istore_n (L' := [some (.inr 0), some (.inl p1), some (.inl 0), some (.inl 0)]) (zdk ttX11_kinApart 3 rfl rfl) (by decide) rfl ?_
  have lp28 : ∀ (n4 : Nat) (x1 x2 : Int), (0 ≤ x1 ∧ x1 ≤ 18) → (0 ≤ x2 ∧ x2 ≤ 18) → (∀ E th x, zY h E th x → (0 ≤ p1 ∧ p1 < E.n) → x1 = fct (fAp E x.1 p1) x2.toNat) → (x2 ≤ (h.2 0 6)) → (x1 ≤ x2) → (19 - x2).toNat < n4 → zJ shM l yX11_kinApart cX11_kinApart 4 (some .int) (rmL 2) 0 0 (q2_X11_kinApart h p1) 0 0 4 [some (.inr 0), some (.inl p1), some (.inl x1), some (.inl x2)] [] h := by
    intro n4
    induction n4 with
    | zero => intro x1 x2 b29 b30 u31 u32 u33 m34; exact absurd m34 (Nat.not_lt_zero _)
    | succ n4 ih35 =>
      intro x1 x2 b29 b30 u31 u32 u33 m34
      refine zj_iload_n (zdk ttX11_kinApart 4 rfl rfl) rfl ?_
      refine zj_aload_n (zdk ttX11_kinApart 5 rfl rfl) rfl (by decide) ?_
      have b36 : 0 ≤ (h.2 0 6) ∧ (h.2 0 6) ≤ 18 := fM_6 s0
      refine zj_geti (v := (h.2 0 6)) (zdk ttX11_kinApart 6 rfl rfl) zf_RX11_132 rfl (k_M s0) rfl ?_
      refine zj_icmp_ge (t := 49) (zdk ttX11_kinApart 7 rfl rfl) (by decide) (by omega) (by omega) (fun c37 => ?_) (fun c37 => ?_)
      · refine zj_iload_n (zdk ttX11_kinApart 29 rfl rfl) rfl ?_
        exact zj_iret rfl (zdk ttX11_kinApart 30 rfl rfl) (Nat.le_refl _) (Nat.le_refl _) ⟨x1, rfl, rfl, by omega, (fun E th x t0 i0 => by have z9 := u31 E th x t0 i0; have g9 := zY_g t0; rw [show x2 = E.n by omega] at z9; exact z9)⟩
      · refine zj_aload_n (zdk ttX11_kinApart 8 rfl rfl) rfl (by decide) ?_
        refine zj_aload_n (zdk ttX11_kinApart 9 rfl rfl) rfl (by decide) ?_
        refine zj_getr (r := 19) (zdk ttX11_kinApart 10 rfl rfl) zf_RX11_68 rfl (k_M s0) (rfM_38 s0) ?_
        refine zj_iload_n (zdk ttX11_kinApart 11 rfl rfl) rfl ?_
        have b38 : -2147483648 ≤ (h.2 19 p1) ∧ (h.2 19 p1) ≤ 2147483647 := abM_19 s0 p1
        refine zj_iald (v := (h.2 19 p1)) (zdk ttX11_kinApart 12 rfl rfl) (kaM_19 s0) (by decide) (by omega) rfl ?_
        refine zj_iload_n (zdk ttX11_kinApart 13 rfl rfl) rfl ?_
        refine zj_callV (av := [.inl (h.2 19 p1), .inl x2]) (st := []) (zdk ttX11_kinApart 14 rfl rfl) mb_X11_has mv_RX11_309 (ci := 11) rfl rfl (k_M s0) rfl rfl (Nat.le_of_ble_eq_true rfl) (s_X11_has l h (h.2 19 p1) x2 s0 (by omega) (by omega)) (rm_ok (by decide) (by decide)) (zq_i fun v40 h41 q39 => ?_)
        obtain ⟨rfl, ⟨rfl, b42⟩ | ⟨rfl, b42⟩⟩ := q39
        · refine zj_if_eq (t := 43) (zdk ttX11_kinApart 15 rfl rfl) (by decide) (by decide) (fun c43 => ?_) (fun c43 => ?_)
          · refine zj_iinc (L' := [some (.inr 0), some (.inl p1), some (.inl x1), some (.inl (x2 + 1))]) (zdk ttX11_kinApart 27 rfl rfl) rfl (by decide) rfl ?_
            refine zj_goto (t := 4) (zdk ttX11_kinApart 28 rfl rfl) (by decide) ?_
            exact ih35  x1 (x2 + 1) (by omega) (by omega) (by intro E th x t0 i0; have z9 := u31 E th x t0 i0; have g9 := zY_g t0; have kn := zY_kn (i := p1) (o := x2) t0 (by omega) (by omega); have r8 := zY_r t0 (k := 9 + x2) (by omega) (by omega); have r9 := zY_r t0 (k := 9 + p1) (by omega) (by omega); rw [fct_n (fAp E x.1 p1) (k := x2) (by omega) (by first | exact fAp_k (fun q9 => by have q8 := kn.2 q9; omega) | exact fAp_n (by omega) (by omega))]; exact z9) (by omega) (by omega) (by omega)
          · exact absurd c43 (by omega)
        · refine zj_if_eq (t := 43) (zdk ttX11_kinApart 15 rfl rfl) (by decide) (by decide) (fun c44 => ?_) (fun c44 => ?_)
          · exact absurd c44 (by omega)
          · refine zj_aload_n (zdk ttX11_kinApart 16 rfl rfl) rfl (by decide) ?_
            refine zj_iload_n (zdk ttX11_kinApart 17 rfl rfl) rfl ?_
            refine zj_callV (av := [.inl x2]) (st := []) (zdk ttX11_kinApart 18 rfl rfl) mb_X11_isHere mv_RX11_135 (ci := 11) rfl rfl (k_M s0) rfl rfl (Nat.le_of_ble_eq_true rfl) (s_X11_isHere l h x2 s0 (by omega)) (rm_ok (by decide) (by decide)) (zq_i fun v46 h47 q45 => ?_)
            obtain ⟨rfl, ⟨rfl, b48⟩ | ⟨rfl, b48⟩⟩ := q45
            · refine zj_aload_n (zdk ttX11_kinApart 19 rfl rfl) rfl (by decide) ?_
              refine zj_iload_n (zdk ttX11_kinApart 20 rfl rfl) rfl ?_
              refine zj_callV (av := [.inl p1]) (st := [.inl 0]) (zdk ttX11_kinApart 21 rfl rfl) mb_X11_isHere mv_RX11_135 (ci := 11) rfl rfl (k_M s0) rfl rfl (Nat.le_of_ble_eq_true rfl) (s_X11_isHere l h p1 s0 (by omega)) (rm_ok (by decide) (by decide)) (zq_i fun v50 h51 q49 => ?_)
              obtain ⟨rfl, ⟨rfl, b52⟩ | ⟨rfl, b52⟩⟩ := q49
              · refine zj_icmp_eq (t := 43) (zdk ttX11_kinApart 22 rfl rfl) (by decide) (by decide) (by decide) (fun c53 => ?_) (fun c53 => ?_)
                · refine zj_iinc (L' := [some (.inr 0), some (.inl p1), some (.inl x1), some (.inl (x2 + 1))]) (zdk ttX11_kinApart 27 rfl rfl) rfl (by decide) rfl ?_
                  refine zj_goto (t := 4) (zdk ttX11_kinApart 28 rfl rfl) (by decide) ?_
                  exact ih35  x1 (x2 + 1) (by omega) (by omega) (by intro E th x t0 i0; have z9 := u31 E th x t0 i0; have g9 := zY_g t0; have kn := zY_kn (i := p1) (o := x2) t0 (by omega) (by omega); have r8 := zY_r t0 (k := 9 + x2) (by omega) (by omega); have r9 := zY_r t0 (k := 9 + p1) (by omega) (by omega); rw [fct_n (fAp E x.1 p1) (k := x2) (by omega) (by first | exact fAp_k (fun q9 => by have q8 := kn.2 q9; omega) | exact fAp_n (by omega) (by omega))]; exact z9) (by omega) (by omega) (by omega)
                · exact absurd c53 (by omega)
              · refine zj_icmp_eq (t := 43) (zdk ttX11_kinApart 22 rfl rfl) (by decide) (by decide) (by decide) (fun c54 => ?_) (fun c54 => ?_)
                · exact absurd c54 (by omega)
                · refine zj_iload_n (zdk ttX11_kinApart 23 rfl rfl) rfl ?_
                  refine zj_iconst (zdk ttX11_kinApart 24 rfl rfl) ?_
                  refine zj_iadd (zdk ttX11_kinApart 25 rfl rfl) ?_
                  refine zj_istore_n (L' := [some (.inr 0), some (.inl p1), some (.inl (x1 + 1)), some (.inl x2)]) (zdk ttX11_kinApart 26 rfl rfl) (by decide) rfl ?_
                  refine zj_iinc (L' := [some (.inr 0), some (.inl p1), some (.inl (x1 + 1)), some (.inl (x2 + 1))]) (zdk ttX11_kinApart 27 rfl rfl) rfl (by decide) rfl ?_
                  refine zj_goto (t := 4) (zdk ttX11_kinApart 28 rfl rfl) (by decide) ?_
                  exact ih35  (x1 + 1) (x2 + 1) (by omega) (by omega) (by intro E th x t0 i0; have z9 := u31 E th x t0 i0; have g9 := zY_g t0; have kn := zY_kn (i := p1) (o := x2) t0 (by omega) (by omega); have r8 := zY_r t0 (k := 9 + x2) (by omega) (by omega); have r9 := zY_r t0 (k := 9 + p1) (by omega) (by omega); rw [fct_y (fAp E x.1 p1) (k := x2) (by omega) (fAp_y (by omega) (kn.1 (by omega)) (by omega))]; omega) (by omega) (by omega) (by omega)
            · refine zj_aload_n (zdk ttX11_kinApart 19 rfl rfl) rfl (by decide) ?_
              refine zj_iload_n (zdk ttX11_kinApart 20 rfl rfl) rfl ?_
              refine zj_callV (av := [.inl p1]) (st := [.inl 1]) (zdk ttX11_kinApart 21 rfl rfl) mb_X11_isHere mv_RX11_135 (ci := 11) rfl rfl (k_M s0) rfl rfl (Nat.le_of_ble_eq_true rfl) (s_X11_isHere l h p1 s0 (by omega)) (rm_ok (by decide) (by decide)) (zq_i fun v56 h57 q55 => ?_)
              obtain ⟨rfl, ⟨rfl, b58⟩ | ⟨rfl, b58⟩⟩ := q55
              · refine zj_icmp_eq (t := 43) (zdk ttX11_kinApart 22 rfl rfl) (by decide) (by decide) (by decide) (fun c59 => ?_) (fun c59 => ?_)
                · exact absurd c59 (by omega)
                · refine zj_iload_n (zdk ttX11_kinApart 23 rfl rfl) rfl ?_
                  refine zj_iconst (zdk ttX11_kinApart 24 rfl rfl) ?_
                  refine zj_iadd (zdk ttX11_kinApart 25 rfl rfl) ?_
                  refine zj_istore_n (L' := [some (.inr 0), some (.inl p1), some (.inl (x1 + 1)), some (.inl x2)]) (zdk ttX11_kinApart 26 rfl rfl) (by decide) rfl ?_
                  refine zj_iinc (L' := [some (.inr 0), some (.inl p1), some (.inl (x1 + 1)), some (.inl (x2 + 1))]) (zdk ttX11_kinApart 27 rfl rfl) rfl (by decide) rfl ?_
                  refine zj_goto (t := 4) (zdk ttX11_kinApart 28 rfl rfl) (by decide) ?_
                  exact ih35  (x1 + 1) (x2 + 1) (by omega) (by omega) (by intro E th x t0 i0; have z9 := u31 E th x t0 i0; have g9 := zY_g t0; have kn := zY_kn (i := p1) (o := x2) t0 (by omega) (by omega); have r8 := zY_r t0 (k := 9 + x2) (by omega) (by omega); have r9 := zY_r t0 (k := 9 + p1) (by omega) (by omega); rw [fct_y (fAp E x.1 p1) (k := x2) (by omega) (fAp_y (by omega) (kn.1 (by omega)) (by omega))]; omega) (by omega) (by omega) (by omega)
              · refine zj_icmp_eq (t := 43) (zdk ttX11_kinApart 22 rfl rfl) (by decide) (by decide) (by decide) (fun c60 => ?_) (fun c60 => ?_)
                · refine zj_iinc (L' := [some (.inr 0), some (.inl p1), some (.inl x1), some (.inl (x2 + 1))]) (zdk ttX11_kinApart 27 rfl rfl) rfl (by decide) rfl ?_
                  refine zj_goto (t := 4) (zdk ttX11_kinApart 28 rfl rfl) (by decide) ?_
                  exact ih35  x1 (x2 + 1) (by omega) (by omega) (by intro E th x t0 i0; have z9 := u31 E th x t0 i0; have g9 := zY_g t0; have kn := zY_kn (i := p1) (o := x2) t0 (by omega) (by omega); have r8 := zY_r t0 (k := 9 + x2) (by omega) (by omega); have r9 := zY_r t0 (k := 9 + p1) (by omega) (by omega); rw [fct_n (fAp E x.1 p1) (k := x2) (by omega) (by first | exact fAp_k (fun q9 => by have q8 := kn.2 q9; omega) | exact fAp_n (by omega) (by omega))]; exact z9) (by omega) (by omega) (by omega)
                · exact absurd c60 (by omega)
  exact lp28 _ 0 0 (by omega) (by omega) (fun E th x t0 i0 => rfl) (by omega) (by omega) (Nat.lt_succ_self _)

abbrev q2_X11_asks (h : zM) (p1 : Int) : Option zV → zM → Prop := zqv fun h' => okM h' ∧ zfr [] [20] h h' ∧ (∀ E th x, zY h E th x → (0 ≤ p1 ∧ p1 < E.n) → zAs h' E x.1 p1)
set_option maxRecDepth 100000 in
set_option maxHeartbeats 4000000 in
theorem s2_X11_asks (l : Launch) (h : zM) (p1 : Int) (s0 : okM h) (b_p1 : 0 ≤ p1 ∧ p1 ≤ 17) : zT shM l yX11_asks cX11_asks 2 none (rmL 3) 0 0 [.inr 0, .inl p1] h (q2_X11_asks h p1) := by
  refine zT_of (by decide +kernel) (L0 := [some (.inr 0), some (.inl p1)]) rfl (Nat.le_of_ble_eq_true rfl) ?_
  refine zj_aload_n (zdk ttX11_asks 0 rfl rfl) rfl (by decide) ?_
  refine zj_getr (r := 20) (zdk ttX11_asks 1 rfl rfl) zf_RX11_71 rfl (k_M s0) (rfM_39 s0) ?_
  refine zj_iconst (zdk ttX11_asks 2 rfl rfl) ?_
  refine zj_aload_n (zdk ttX11_asks 3 rfl rfl) rfl (by decide) ?_
  refine zj_getr (r := 4) (zdk ttX11_asks 4 rfl rfl) zf_RX11_19 rfl (k_M s0) (rfM_7 s0) ?_
  refine zj_iload_n (zdk ttX11_asks 5 rfl rfl) rfl ?_
  have b1 : -2147483648 ≤ (h.2 4 p1) ∧ (h.2 4 p1) ≤ 2147483647 := abM_4 s0 p1
  refine zj_iald (v := (h.2 4 p1)) (zdk ttX11_asks 6 rfl rfl) (kaM_4 s0) (by decide) (by omega) rfl ?_
  refine zj_iast (zdk ttX11_asks 7 rfl rfl) (kaM_20 s0) (by decide) (by omega) (fun h2 e3 => ?_)
  refine zj_aload_n (zdk ttX11_asks 8 rfl rfl) rfl (by decide) ?_
  have s4 : okM h2 := awM_20 s0 e3 (by omega) (by unfold nsp; omega)
  refine zj_getr (r := 20) (zdk ttX11_asks 9 rfl rfl) zf_RX11_71 rfl (k_M s4) (rfM_39 s4) ?_
  refine zj_iconst (zdk ttX11_asks 10 rfl rfl) ?_
  refine zj_aload_n (zdk ttX11_asks 11 rfl rfl) rfl (by decide) ?_
  refine zj_getr (r := 5) (zdk ttX11_asks 12 rfl rfl) zf_RX11_22 rfl (k_M s4) (rfM_8 s4) ?_
  refine zj_iload_n (zdk ttX11_asks 13 rfl rfl) rfl ?_
  have b5 : -2147483648 ≤ (h.2 5 p1) ∧ (h.2 5 p1) ≤ 2147483647 := abM_5 s0 p1
  refine zj_iald (v := (h.2 5 p1)) (zdk ttX11_asks 14 rfl rfl) (kaM_5 s4) (by decide) (by omega) (zwr_r e3 (by first | decide | exact (absurd ·.1 (by decide)) | exact (absurd ·.2 (by decide)) | omega)) ?_
  refine zj_iast (zdk ttX11_asks 15 rfl rfl) (kaM_20 s4) (by decide) (by omega) (fun h6 e7 => ?_)
  refine zj_aload_n (zdk ttX11_asks 16 rfl rfl) rfl (by decide) ?_
  have s8 : okM h6 := awM_20 s4 e7 (by omega) (by unfold nsp; omega)
  refine zj_getr (r := 20) (zdk ttX11_asks 17 rfl rfl) zf_RX11_71 rfl (k_M s8) (rfM_39 s8) ?_
  refine zj_iconst (zdk ttX11_asks 18 rfl rfl) ?_
  refine zj_aload_n (zdk ttX11_asks 19 rfl rfl) rfl (by decide) ?_
  refine zj_getr (r := 1) (zdk ttX11_asks 20 rfl rfl) zf_RX11_7 rfl (k_M s8) (rfM_1 s8) ?_
  refine zj_bipush (zdk ttX11_asks 21 rfl rfl) (by decide) ?_
  refine zj_iload_n (zdk ttX11_asks 22 rfl rfl) rfl ?_
  refine zj_iadd (zdk ttX11_asks 23 rfl rfl) ?_
  have b9 := (rM_b s0 1 (45 + p1) (by omega)).2
  have b10 : -2147483648 ≤ (h.2 1 (45 + p1)) ∧ (h.2 1 (45 + p1)) ≤ 2147483647 := (rM_b s0 1 (45 + p1) (by omega)).1
  refine zj_iald (v := (h.2 1 (45 + p1))) (zdk ttX11_asks 24 rfl rfl) (kaM_1 s8) (by decide) (by omega) ((zwr_r e7 (by first | decide | exact (absurd ·.1 (by decide)) | exact (absurd ·.2 (by decide)) | omega)).trans (zwr_r e3 (by first | decide | exact (absurd ·.1 (by decide)) | exact (absurd ·.2 (by decide)) | omega))) ?_
  refine zj_iast (zdk ttX11_asks 25 rfl rfl) (kaM_20 s8) (by decide) (by omega) (fun h11 e12 => ?_)
  refine zj_aload_n (zdk ttX11_asks 26 rfl rfl) rfl (by decide) ?_
  have s13 : okM h11 := awM_20 s8 e12 (by omega) (by unfold nsp; omega)
  refine zj_getr (r := 20) (zdk ttX11_asks 27 rfl rfl) zf_RX11_71 rfl (k_M s13) (rfM_39 s13) ?_
  refine zj_iconst (zdk ttX11_asks 28 rfl rfl) ?_
  refine zj_aload_n (zdk ttX11_asks 29 rfl rfl) rfl (by decide) ?_
  refine zj_aload_n (zdk ttX11_asks 30 rfl rfl) rfl (by decide) ?_
  refine zj_callV (av := []) (st := [.inr 0, .inl 3, .inr 20]) (zdk ttX11_asks 31 rfl rfl) mb_X11_hereSet mv_RX11_313 (ci := 11) rfl rfl (k_M s13) rfl rfl (Nat.le_of_ble_eq_true rfl) (s2_X11_hereSet l h11 s13) (rm_ok (by decide) (by decide)) (zq_i fun v15 h16 q14 => ?_)
  obtain ⟨rfl, b17, u18⟩ := q14
  refine zj_callV (av := [.inl v15]) (st := [.inl 3, .inr 20]) (zdk ttX11_asks 32 rfl rfl) mb_X11_onesOf mv_RX11_316 (ci := 11) rfl rfl (k_M s13) rfl rfl (Nat.le_of_ble_eq_true rfl) (s2_X11_onezOf l h11 v15 s13 (by omega)) (rm_ok (by decide) (by decide)) (zq_i fun v20 h21 q19 => ?_)
  obtain ⟨rfl, b22, u23⟩ := q19
  refine zj_iast (zdk ttX11_asks 33 rfl rfl) (kaM_20 s13) (by decide) (by omega) (fun h24 e25 => ?_)
  refine zj_aload_n (zdk ttX11_asks 34 rfl rfl) rfl (by decide) ?_
  have s26 : okM h24 := awM_20 s13 e25 (by omega) (by unfold nsp; omega)
  refine zj_getr (r := 20) (zdk ttX11_asks 35 rfl rfl) zf_RX11_71 rfl (k_M s26) (rfM_39 s26) ?_
  refine zj_iconst (zdk ttX11_asks 36 rfl rfl) ?_
  refine zj_aload_n (zdk ttX11_asks 37 rfl rfl) rfl (by decide) ?_
  have b27 : 0 ≤ (h.2 0 6) ∧ (h.2 0 6) ≤ 18 := fM_6 s0
  refine zj_geti (v := (h.2 0 6)) (zdk ttX11_asks 38 rfl rfl) zf_RX11_132 rfl (k_M s26) ((((zwr_r e25 (by first | decide | exact (absurd ·.1 (by decide)) | exact (absurd ·.2 (by decide)) | omega)).trans (zwr_r e12 (by first | decide | exact (absurd ·.1 (by decide)) | exact (absurd ·.2 (by decide)) | omega))).trans (zwr_r e7 (by first | decide | exact (absurd ·.1 (by decide)) | exact (absurd ·.2 (by decide)) | omega))).trans (zwr_r e3 (by first | decide | exact (absurd ·.1 (by decide)) | exact (absurd ·.2 (by decide)) | omega))) ?_
  refine zj_iast (zdk ttX11_asks 39 rfl rfl) (kaM_20 s26) (by decide) (by omega) (fun h28 e29 => ?_)
  refine zj_aload_n (zdk ttX11_asks 40 rfl rfl) rfl (by decide) ?_
  have s30 : okM h28 := awM_20 s26 e29 (by omega) (by unfold nsp; omega)
  refine zj_getr (r := 20) (zdk ttX11_asks 41 rfl rfl) zf_RX11_71 rfl (k_M s30) (rfM_39 s30) ?_
  refine zj_iconst (zdk ttX11_asks 42 rfl rfl) ?_
  refine zj_aload_n (zdk ttX11_asks 43 rfl rfl) rfl (by decide) ?_
  refine zj_aload_n (zdk ttX11_asks 44 rfl rfl) rfl (by decide) ?_
  refine zj_getr (r := 1) (zdk ttX11_asks 45 rfl rfl) zf_RX11_7 rfl (k_M s30) (rfM_1 s30) ?_
  refine zj_iconst (zdk ttX11_asks 46 rfl rfl) ?_
  have b32 : -2147483648 ≤ (h.2 1 4) ∧ (h.2 1 4) ≤ 2147483647 := (rM_b s0 1 4 (by omega)).1
  refine zj_iald (v := (h.2 1 4)) (zdk ttX11_asks 47 rfl rfl) (kaM_1 s30) (by decide) (by omega) (((((zwr_r e29 (by first | decide | exact (absurd ·.1 (by decide)) | exact (absurd ·.2 (by decide)) | omega)).trans (zwr_r e25 (by first | decide | exact (absurd ·.1 (by decide)) | exact (absurd ·.2 (by decide)) | omega))).trans (zwr_r e12 (by first | decide | exact (absurd ·.1 (by decide)) | exact (absurd ·.2 (by decide)) | omega))).trans (zwr_r e7 (by first | decide | exact (absurd ·.1 (by decide)) | exact (absurd ·.2 (by decide)) | omega))).trans (zwr_r e3 (by first | decide | exact (absurd ·.1 (by decide)) | exact (absurd ·.2 (by decide)) | omega))) ?_
  refine zj_sipush (zdk ttX11_asks 48 rfl rfl) (by decide) ?_
  refine zj_sipush (zdk ttX11_asks 49 rfl rfl) (by decide) ?_
  refine zj_callV (av := [.inl (h.2 1 4), .inl (-9999), .inl 9999]) (st := [.inl 5, .inr 20]) (zdk ttX11_asks 50 rfl rfl) mb_X11_held mv_RX11_319 (ci := 11) rfl rfl (k_M s30) rfl rfl (Nat.le_of_ble_eq_true rfl) (s_X11_held l h28 (h.2 1 4) (-9999) 9999 s30 (by omega) (by omega) (by omega)) (rm_ok (by decide) (by decide)) (zq_i fun v34 h35 q33 => ?_)
  obtain ⟨rfl, b36⟩ := q33
  have b37 : -9999 ≤ v34 ∧ v34 ≤ 9999 := by omega
  refine zj_iast (zdk ttX11_asks 51 rfl rfl) (kaM_20 s30) (by decide) (by omega) (fun h38 e39 => ?_)
  refine zj_aload_n (zdk ttX11_asks 52 rfl rfl) rfl (by decide) ?_
  have s40 : okM h38 := awM_20 s30 e39 (by omega) (by unfold nsp; omega)
  refine zj_getr (r := 20) (zdk ttX11_asks 53 rfl rfl) zf_RX11_71 rfl (k_M s40) (rfM_39 s40) ?_
  refine zj_bipush (zdk ttX11_asks 54 rfl rfl) (by decide) ?_
  refine zj_aload_n (zdk ttX11_asks 55 rfl rfl) rfl (by decide) ?_
  refine zj_getr (r := 1) (zdk ttX11_asks 56 rfl rfl) zf_RX11_7 rfl (k_M s40) (rfM_1 s40) ?_
  refine zj_iconst (zdk ttX11_asks 57 rfl rfl) ?_
  have b42 : -2147483648 ≤ (h.2 1 3) ∧ (h.2 1 3) ≤ 2147483647 := (rM_b s0 1 3 (by omega)).1
  refine zj_iald (v := (h.2 1 3)) (zdk ttX11_asks 58 rfl rfl) (kaM_1 s40) (by decide) (by omega) ((((((zwr_r e39 (by first | decide | exact (absurd ·.1 (by decide)) | exact (absurd ·.2 (by decide)) | omega)).trans (zwr_r e29 (by first | decide | exact (absurd ·.1 (by decide)) | exact (absurd ·.2 (by decide)) | omega))).trans (zwr_r e25 (by first | decide | exact (absurd ·.1 (by decide)) | exact (absurd ·.2 (by decide)) | omega))).trans (zwr_r e12 (by first | decide | exact (absurd ·.1 (by decide)) | exact (absurd ·.2 (by decide)) | omega))).trans (zwr_r e7 (by first | decide | exact (absurd ·.1 (by decide)) | exact (absurd ·.2 (by decide)) | omega))).trans (zwr_r e3 (by first | decide | exact (absurd ·.1 (by decide)) | exact (absurd ·.2 (by decide)) | omega))) ?_
  refine zj_iast (zdk ttX11_asks 59 rfl rfl) (kaM_20 s40) (by decide) (by omega) (fun h43 e44 => ?_)
  refine zj_aload_n (zdk ttX11_asks 60 rfl rfl) rfl (by decide) ?_
  have s45 : okM h43 := awM_20 s40 e44 (by omega) (by unfold nsp; omega)
  refine zj_getr (r := 20) (zdk ttX11_asks 61 rfl rfl) zf_RX11_71 rfl (k_M s45) (rfM_39 s45) ?_
  refine zj_bipush (zdk ttX11_asks 62 rfl rfl) (by decide) ?_
  refine zj_iconst (zdk ttX11_asks 63 rfl rfl) ?_
  refine zj_aload_n (zdk ttX11_asks 64 rfl rfl) rfl (by decide) ?_
  refine zj_getr (r := 1) (zdk ttX11_asks 65 rfl rfl) zf_RX11_7 rfl (k_M s45) (rfM_1 s45) ?_
  refine zj_bipush (zdk ttX11_asks 66 rfl rfl) (by decide) ?_
  have b47 : -2147483648 ≤ (h.2 1 7) ∧ (h.2 1 7) ≤ 2147483647 := (rM_b s0 1 7 (by omega)).1
  refine zj_iald (v := (h.2 1 7)) (zdk ttX11_asks 67 rfl rfl) (kaM_1 s45) (by decide) (by omega) (((((((zwr_r e44 (by first | decide | exact (absurd ·.1 (by decide)) | exact (absurd ·.2 (by decide)) | omega)).trans (zwr_r e39 (by first | decide | exact (absurd ·.1 (by decide)) | exact (absurd ·.2 (by decide)) | omega))).trans (zwr_r e29 (by first | decide | exact (absurd ·.1 (by decide)) | exact (absurd ·.2 (by decide)) | omega))).trans (zwr_r e25 (by first | decide | exact (absurd ·.1 (by decide)) | exact (absurd ·.2 (by decide)) | omega))).trans (zwr_r e12 (by first | decide | exact (absurd ·.1 (by decide)) | exact (absurd ·.2 (by decide)) | omega))).trans (zwr_r e7 (by first | decide | exact (absurd ·.1 (by decide)) | exact (absurd ·.2 (by decide)) | omega))).trans (zwr_r e3 (by first | decide | exact (absurd ·.1 (by decide)) | exact (absurd ·.2 (by decide)) | omega))) ?_
  refine zj_isub (zdk ttX11_asks 68 rfl rfl) ?_
  refine zj_wrap ?_
  have b48 := zwp_in (1 - (h.2 1 7))
  refine zj_iast (zdk ttX11_asks 69 rfl rfl) (kaM_20 s45) (by decide) (by omega) (fun h49 e50 => ?_)
  refine zj_aload_n (zdk ttX11_asks 70 rfl rfl) rfl (by decide) ?_
  have s51 : okM h49 := awM_20 s45 e50 (by omega) (by unfold nsp; omega)
  refine zj_getr (r := 20) (zdk ttX11_asks 71 rfl rfl) zf_RX11_71 rfl (k_M s51) (rfM_39 s51) ?_
  refine zj_bipush (zdk ttX11_asks 72 rfl rfl) (by decide) ?_
  refine zj_aload_n (zdk ttX11_asks 73 rfl rfl) rfl (by decide) ?_
  refine zj_iload_n (zdk ttX11_asks 74 rfl rfl) rfl ?_
  refine zj_callV (av := [.inl p1]) (st := [.inl 8, .inr 20]) (zdk ttX11_asks 75 rfl rfl) mb_X11_kinApart mv_RX11_322 (ci := 11) rfl rfl (k_M s51) rfl rfl (Nat.le_of_ble_eq_true rfl) (s2_X11_kinApart l h49 p1 s51 (by omega)) (rm_ok (by decide) (by decide)) (zq_i fun v53 h54 q52 => ?_)
  obtain ⟨rfl, b55, u56⟩ := q52
  refine zj_iast (zdk ttX11_asks 76 rfl rfl) (kaM_20 s51) (by decide) (by omega) (fun h57 e58 => ?_)
  refine zj_aload_n (zdk ttX11_asks 77 rfl rfl) rfl (by decide) ?_
  have s59 : okM h57 := awM_20 s51 e58 (by omega) (by unfold nsp; omega)
  refine zj_getr (r := 20) (zdk ttX11_asks 78 rfl rfl) zf_RX11_71 rfl (k_M s59) (rfM_39 s59) ?_
  refine zj_bipush (zdk ttX11_asks 79 rfl rfl) (by decide) ?_
  refine zj_aload_n (zdk ttX11_asks 80 rfl rfl) rfl (by decide) ?_
  refine zj_getr (r := 1) (zdk ttX11_asks 81 rfl rfl) zf_RX11_7 rfl (k_M s59) (rfM_1 s59) ?_
  refine zj_iconst (zdk ttX11_asks 82 rfl rfl) ?_
  have b61 : -2147483648 ≤ (h.2 1 0) ∧ (h.2 1 0) ≤ 2147483647 := (rM_b s0 1 0 (by omega)).1
  refine zj_iald (v := (h.2 1 0)) (zdk ttX11_asks 83 rfl rfl) (kaM_1 s59) (by decide) (by omega) (((((((((zwr_r e58 (by first | decide | exact (absurd ·.1 (by decide)) | exact (absurd ·.2 (by decide)) | omega)).trans (zwr_r e50 (by first | decide | exact (absurd ·.1 (by decide)) | exact (absurd ·.2 (by decide)) | omega))).trans (zwr_r e44 (by first | decide | exact (absurd ·.1 (by decide)) | exact (absurd ·.2 (by decide)) | omega))).trans (zwr_r e39 (by first | decide | exact (absurd ·.1 (by decide)) | exact (absurd ·.2 (by decide)) | omega))).trans (zwr_r e29 (by first | decide | exact (absurd ·.1 (by decide)) | exact (absurd ·.2 (by decide)) | omega))).trans (zwr_r e25 (by first | decide | exact (absurd ·.1 (by decide)) | exact (absurd ·.2 (by decide)) | omega))).trans (zwr_r e12 (by first | decide | exact (absurd ·.1 (by decide)) | exact (absurd ·.2 (by decide)) | omega))).trans (zwr_r e7 (by first | decide | exact (absurd ·.1 (by decide)) | exact (absurd ·.2 (by decide)) | omega))).trans (zwr_r e3 (by first | decide | exact (absurd ·.1 (by decide)) | exact (absurd ·.2 (by decide)) | omega))) ?_
  refine zj_iast (zdk ttX11_asks 84 rfl rfl) (kaM_20 s59) (by decide) (by omega) (fun h62 e63 => ?_)
  have s64 : okM h62 := awM_20 s59 e63 (by omega) (by unfold nsp; omega)
  have f74 : zfr [] [20] h h2 := zfr_wa (zfr_r _ _ _) e3 rfl
  have f73 : zfr [] [20] h h6 := zfr_wa f74 e7 rfl
  have f72 : zfr [] [20] h h11 := zfr_wa f73 e12 rfl
  have f71 : zfr [] [20] h h24 := zfr_wa f72 e25 rfl
  have f70 : zfr [] [20] h h28 := zfr_wa f71 e29 rfl
  have f69 : zfr [] [20] h h38 := zfr_wa f70 e39 rfl
  have f68 : zfr [] [20] h h43 := zfr_wa f69 e44 rfl
  have f67 : zfr [] [20] h h49 := zfr_wa f68 e50 rfl
  have f66 : zfr [] [20] h h57 := zfr_wa f67 e58 rfl
  have f65 : zfr [] [20] h h62 := zfr_wa f66 e63 rfl
  have b75 : h62.2 20 0 = (h.2 4 p1) := ((((((((((zwr_r e63 (by first | decide | exact (absurd ·.1 (by decide)) | exact (absurd ·.2 (by decide)) | omega)).trans (zwr_r e58 (by first | decide | exact (absurd ·.1 (by decide)) | exact (absurd ·.2 (by decide)) | omega))).trans (zwr_r e50 (by first | decide | exact (absurd ·.1 (by decide)) | exact (absurd ·.2 (by decide)) | omega))).trans (zwr_r e44 (by first | decide | exact (absurd ·.1 (by decide)) | exact (absurd ·.2 (by decide)) | omega))).trans (zwr_r e39 (by first | decide | exact (absurd ·.1 (by decide)) | exact (absurd ·.2 (by decide)) | omega))).trans (zwr_r e29 (by first | decide | exact (absurd ·.1 (by decide)) | exact (absurd ·.2 (by decide)) | omega))).trans (zwr_r e25 (by first | decide | exact (absurd ·.1 (by decide)) | exact (absurd ·.2 (by decide)) | omega))).trans (zwr_r e12 (by first | decide | exact (absurd ·.1 (by decide)) | exact (absurd ·.2 (by decide)) | omega))).trans (zwr_r e7 (by first | decide | exact (absurd ·.1 (by decide)) | exact (absurd ·.2 (by decide)) | omega))).trans (zwr_v e3))
  have b76 : h62.2 20 1 = (h.2 5 p1) := (((((((((zwr_r e63 (by first | decide | exact (absurd ·.1 (by decide)) | exact (absurd ·.2 (by decide)) | omega)).trans (zwr_r e58 (by first | decide | exact (absurd ·.1 (by decide)) | exact (absurd ·.2 (by decide)) | omega))).trans (zwr_r e50 (by first | decide | exact (absurd ·.1 (by decide)) | exact (absurd ·.2 (by decide)) | omega))).trans (zwr_r e44 (by first | decide | exact (absurd ·.1 (by decide)) | exact (absurd ·.2 (by decide)) | omega))).trans (zwr_r e39 (by first | decide | exact (absurd ·.1 (by decide)) | exact (absurd ·.2 (by decide)) | omega))).trans (zwr_r e29 (by first | decide | exact (absurd ·.1 (by decide)) | exact (absurd ·.2 (by decide)) | omega))).trans (zwr_r e25 (by first | decide | exact (absurd ·.1 (by decide)) | exact (absurd ·.2 (by decide)) | omega))).trans (zwr_r e12 (by first | decide | exact (absurd ·.1 (by decide)) | exact (absurd ·.2 (by decide)) | omega))).trans (zwr_v e7))
  have b77 : h62.2 20 2 = (h.2 1 (45 + p1)) := ((((((((zwr_r e63 (by first | decide | exact (absurd ·.1 (by decide)) | exact (absurd ·.2 (by decide)) | omega)).trans (zwr_r e58 (by first | decide | exact (absurd ·.1 (by decide)) | exact (absurd ·.2 (by decide)) | omega))).trans (zwr_r e50 (by first | decide | exact (absurd ·.1 (by decide)) | exact (absurd ·.2 (by decide)) | omega))).trans (zwr_r e44 (by first | decide | exact (absurd ·.1 (by decide)) | exact (absurd ·.2 (by decide)) | omega))).trans (zwr_r e39 (by first | decide | exact (absurd ·.1 (by decide)) | exact (absurd ·.2 (by decide)) | omega))).trans (zwr_r e29 (by first | decide | exact (absurd ·.1 (by decide)) | exact (absurd ·.2 (by decide)) | omega))).trans (zwr_r e25 (by first | decide | exact (absurd ·.1 (by decide)) | exact (absurd ·.2 (by decide)) | omega))).trans (zwr_v e12))
  have b78 : h62.2 20 3 = v20 := (((((((zwr_r e63 (by first | decide | exact (absurd ·.1 (by decide)) | exact (absurd ·.2 (by decide)) | omega)).trans (zwr_r e58 (by first | decide | exact (absurd ·.1 (by decide)) | exact (absurd ·.2 (by decide)) | omega))).trans (zwr_r e50 (by first | decide | exact (absurd ·.1 (by decide)) | exact (absurd ·.2 (by decide)) | omega))).trans (zwr_r e44 (by first | decide | exact (absurd ·.1 (by decide)) | exact (absurd ·.2 (by decide)) | omega))).trans (zwr_r e39 (by first | decide | exact (absurd ·.1 (by decide)) | exact (absurd ·.2 (by decide)) | omega))).trans (zwr_r e29 (by first | decide | exact (absurd ·.1 (by decide)) | exact (absurd ·.2 (by decide)) | omega))).trans (zwr_v e25))
  have b79 : h62.2 20 4 = (h.2 0 6) := ((((((zwr_r e63 (by first | decide | exact (absurd ·.1 (by decide)) | exact (absurd ·.2 (by decide)) | omega)).trans (zwr_r e58 (by first | decide | exact (absurd ·.1 (by decide)) | exact (absurd ·.2 (by decide)) | omega))).trans (zwr_r e50 (by first | decide | exact (absurd ·.1 (by decide)) | exact (absurd ·.2 (by decide)) | omega))).trans (zwr_r e44 (by first | decide | exact (absurd ·.1 (by decide)) | exact (absurd ·.2 (by decide)) | omega))).trans (zwr_r e39 (by first | decide | exact (absurd ·.1 (by decide)) | exact (absurd ·.2 (by decide)) | omega))).trans (zwr_v e29))
  have b80 : h62.2 20 5 = v34 := (((((zwr_r e63 (by first | decide | exact (absurd ·.1 (by decide)) | exact (absurd ·.2 (by decide)) | omega)).trans (zwr_r e58 (by first | decide | exact (absurd ·.1 (by decide)) | exact (absurd ·.2 (by decide)) | omega))).trans (zwr_r e50 (by first | decide | exact (absurd ·.1 (by decide)) | exact (absurd ·.2 (by decide)) | omega))).trans (zwr_r e44 (by first | decide | exact (absurd ·.1 (by decide)) | exact (absurd ·.2 (by decide)) | omega))).trans (zwr_v e39))
  have b81 : h62.2 20 6 = (h.2 1 3) := ((((zwr_r e63 (by first | decide | exact (absurd ·.1 (by decide)) | exact (absurd ·.2 (by decide)) | omega)).trans (zwr_r e58 (by first | decide | exact (absurd ·.1 (by decide)) | exact (absurd ·.2 (by decide)) | omega))).trans (zwr_r e50 (by first | decide | exact (absurd ·.1 (by decide)) | exact (absurd ·.2 (by decide)) | omega))).trans (zwr_v e44))
  have b82 : h62.2 20 7 = (zwp (1 - (h.2 1 7))) := (((zwr_r e63 (by first | decide | exact (absurd ·.1 (by decide)) | exact (absurd ·.2 (by decide)) | omega)).trans (zwr_r e58 (by first | decide | exact (absurd ·.1 (by decide)) | exact (absurd ·.2 (by decide)) | omega))).trans (zwr_v e50))
  have b83 : h62.2 20 8 = v53 := ((zwr_r e63 (by first | decide | exact (absurd ·.1 (by decide)) | exact (absurd ·.2 (by decide)) | omega)).trans (zwr_v e58))
  have b84 : h62.2 20 9 = (h.2 1 0) := (zwr_v e63)
  exact zj_vret rfl (zdk ttX11_asks 85 rfl rfl) (Nat.le_refl _) (Nat.le_refl _) ⟨rfl, s64, f65, (by intro E th x t0 i0; have g9 := zY_g t0; have i1 := zY_i t0 i0.1 (by omega); have r45 := zY_r t0 (k := 45 + p1) (by omega) (by omega); have r0 := zY_r t0 (k := 0) (by decide) (by decide); have r3 := zY_r t0 (k := 3) (by decide) (by decide); have r4 := zY_r t0 (k := 4) (by decide) (by decide); have r7 := zY_r t0 (k := 7) (by decide) (by decide); have zh := u18 E th x (zY_o (zY_o (zY_o t0 e3 (by unfold zDm zDe; omega)) e7 (by unfold zDm zDe; omega)) e12 (by unfold zDm zDe; omega)); have zo := u23; rw [zHs_c zh g9.2] at zo; have zk := u56 E th x (zY_o (zY_o (zY_o (zY_o (zY_o (zY_o (zY_o (zY_o t0 e3 (by unfold zDm zDe; omega)) e7 (by unfold zDm zDe; omega)) e12 (by unfold zDm zDe; omega)) e25 (by unfold zDm zDe; omega)) e29 (by unfold zDm zDe; omega)) e39 (by unfold zDm zDe; omega)) e44 (by unfold zDm zDe; omega)) e50 (by unfold zDm zDe; omega)) i0; have f5 := fHeld_f (x.1 4) (-9999) 9999; have w7 := t0.2.1.2.2.2; have z7 : zwp (1 - (h.2 1 7)) = 1 - (h.2 1 7) := zwp_s (by omega); exact zAs_i (by omega) (by omega) (by omega) (by omega) (by omega) (by omega) (by omega) (by omega) (by omega) (by omega))⟩

