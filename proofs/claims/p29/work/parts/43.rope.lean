def zrp (a b c v : Int) : Prop := (¬ (0 ≤ a ∧ a ≤ 20) → v = -1) ∧ (¬ (1 ≤ b ∧ b ≤ 9) → v = -1) ∧ (¬ (c = 0 ∨ c = 1) → v = -1) ∧ (0 ≤ a ∧ a ≤ 20 → 1 ≤ b ∧ b ≤ 9 → c = 0 → v = b * zshl 1 a + 1) ∧ (0 ≤ a ∧ a ≤ 20 → 1 ≤ b ∧ b ≤ 9 → c = 1 → v = zshl 1 a - 1)
abbrev q2_X11_rope (h : zM) (p1 : Int) (p2 : Int) (p3 : Int) : Option zV → zM → Prop := zqi fun v h' => ((-2147483648) ≤ v ∧ v ≤ 2147483647) ∧ okM h' ∧ zfr [0] [] h h' ∧ (zrp p1 p2 p3 v)
set_option maxRecDepth 100000 in
set_option maxHeartbeats 4000000 in
theorem s2_X11_rope (l : Launch) (h : zM) (p1 : Int) (p2 : Int) (p3 : Int) (s0 : okM h) (b_p1 : (-2147483648) ≤ p1 ∧ p1 ≤ 2147483647) (b_p2 : (-2147483648) ≤ p2 ∧ p2 ≤ 2147483647) (b_p3 : (-2147483648) ≤ p3 ∧ p3 ≤ 2147483647) : zT shM l yX11_rope cX11_rope 4 (some .int) (rmL 2) 0 0 [.inr 0, .inl p1, .inl p2, .inl p3] h (q2_X11_rope h p1 p2 p3) := by
  refine zT_of (by decide +kernel) (L0 := [some (.inr 0), some (.inl p1), some (.inl p2), some (.inl p3)]) rfl (Nat.le_of_ble_eq_true rfl) ?_
  refine zj_aload_n (zdk ttX11_rope 0 rfl rfl) rfl (by decide) ?_
  refine zj_iconst (zdk ttX11_rope 1 rfl rfl) ?_
  refine zj_puti (zdk ttX11_rope 2 rfl rfl) zf_RX11_120 rfl (k_M s0) (Or.inl zw_RX11_120) (k2 := 0) rfl (fun h1 e2 => ?_)
  refine zj_aload_n (zdk ttX11_rope 3 rfl rfl) rfl (by decide) ?_
  refine zj_iload_n (zdk ttX11_rope 4 rfl rfl) rfl ?_
  refine zj_iconst (zdk ttX11_rope 5 rfl rfl) ?_
  refine zj_bipush (zdk ttX11_rope 6 rfl rfl) (by decide) ?_
  have s3 : okM h1 := fwM_0 s0 e2 (by omega)
  refine zj_callV (av := [.inl p1, .inl 0, .inl 20]) (st := []) (zdk ttX11_rope 7 rfl rfl) mb_X11_isIn mv_RX11_139 (ci := 11) rfl rfl (k_M s3) rfl rfl (Nat.le_of_ble_eq_true rfl) (s_X11_isIn l h1 p1 0 20 s3 (by omega) (by omega) (by omega)) (rm_ok (by decide) (by decide)) (zq_i fun v5 h6 q4 => ?_)
  obtain ⟨rfl, ⟨rfl, b7⟩ | ⟨rfl, b7⟩⟩ := q4
  · refine zj_if_eq (t := 37) (zdk ttX11_rope 8 rfl rfl) (by decide) (by decide) (fun c8 => ?_) (fun c8 => ?_)
    · refine zj_iconst (zdk ttX11_rope 21 rfl rfl) ?_
      have f9 : zfr [0] [] h h1 := zfr_wf (zfr_r _ _ _) e2 rfl
      exact zj_iret rfl (zdk ttX11_rope 22 rfl rfl) (Nat.le_refl _) (Nat.le_refl _) ⟨(-1), rfl, by omega, s3, f9, by unfold zrp; omega⟩
    · exact absurd c8 (by omega)
  · refine zj_if_eq (t := 37) (zdk ttX11_rope 8 rfl rfl) (by decide) (by decide) (fun c10 => ?_) (fun c10 => ?_)
    · exact absurd c10 (by omega)
    · refine zj_aload_n (zdk ttX11_rope 9 rfl rfl) rfl (by decide) ?_
      refine zj_iload_n (zdk ttX11_rope 10 rfl rfl) rfl ?_
      refine zj_iconst (zdk ttX11_rope 11 rfl rfl) ?_
      refine zj_bipush (zdk ttX11_rope 12 rfl rfl) (by decide) ?_
      refine zj_callV (av := [.inl p2, .inl 1, .inl 9]) (st := []) (zdk ttX11_rope 13 rfl rfl) mb_X11_isIn mv_RX11_139 (ci := 11) rfl rfl (k_M s3) rfl rfl (Nat.le_of_ble_eq_true rfl) (s_X11_isIn l h1 p2 1 9 s3 (by omega) (by omega) (by omega)) (rm_ok (by decide) (by decide)) (zq_i fun v12 h13 q11 => ?_)
      obtain ⟨rfl, ⟨rfl, b14⟩ | ⟨rfl, b14⟩⟩ := q11
      · refine zj_if_eq (t := 37) (zdk ttX11_rope 14 rfl rfl) (by decide) (by decide) (fun c15 => ?_) (fun c15 => ?_)
        · refine zj_iconst (zdk ttX11_rope 21 rfl rfl) ?_
          have f16 : zfr [0] [] h h1 := zfr_wf (zfr_r _ _ _) e2 rfl
          exact zj_iret rfl (zdk ttX11_rope 22 rfl rfl) (Nat.le_refl _) (Nat.le_refl _) ⟨(-1), rfl, by omega, s3, f16, by unfold zrp; omega⟩
        · exact absurd c15 (by omega)
      · refine zj_if_eq (t := 37) (zdk ttX11_rope 14 rfl rfl) (by decide) (by decide) (fun c17 => ?_) (fun c17 => ?_)
        · exact absurd c17 (by omega)
        · refine zj_aload_n (zdk ttX11_rope 15 rfl rfl) rfl (by decide) ?_
          refine zj_iload_n (zdk ttX11_rope 16 rfl rfl) rfl ?_
          refine zj_iconst (zdk ttX11_rope 17 rfl rfl) ?_
          refine zj_iconst (zdk ttX11_rope 18 rfl rfl) ?_
          refine zj_callV (av := [.inl p3, .inl 0, .inl 1]) (st := []) (zdk ttX11_rope 19 rfl rfl) mb_X11_isIn mv_RX11_139 (ci := 11) rfl rfl (k_M s3) rfl rfl (Nat.le_of_ble_eq_true rfl) (s_X11_isIn l h1 p3 0 1 s3 (by omega) (by omega) (by omega)) (rm_ok (by decide) (by decide)) (zq_i fun v19 h20 q18 => ?_)
          obtain ⟨rfl, ⟨rfl, b21⟩ | ⟨rfl, b21⟩⟩ := q18
          · refine zj_if_ne (t := 39) (zdk ttX11_rope 20 rfl rfl) (by decide) (by decide) (fun c22 => ?_) (fun c22 => ?_)
            · exact absurd c22 (by omega)
            · refine zj_iconst (zdk ttX11_rope 21 rfl rfl) ?_
              have f23 : zfr [0] [] h h1 := zfr_wf (zfr_r _ _ _) e2 rfl
              exact zj_iret rfl (zdk ttX11_rope 22 rfl rfl) (Nat.le_refl _) (Nat.le_refl _) ⟨(-1), rfl, by omega, s3, f23, by unfold zrp; omega⟩
          · refine zj_if_ne (t := 39) (zdk ttX11_rope 20 rfl rfl) (by decide) (by decide) (fun c24 => ?_) (fun c24 => ?_)
            · refine zj_iload_n (zdk ttX11_rope 23 rfl rfl) rfl ?_
              refine zj_if_ne (t := 53) (zdk ttX11_rope 24 rfl rfl) (by decide) (by omega) (fun c25 => ?_) (fun c25 => ?_)
              · refine zj_iconst (zdk ttX11_rope 33 rfl rfl) ?_
                refine zj_iload_n (zdk ttX11_rope 34 rfl rfl) rfl ?_
                refine zj_ishl (zdk ttX11_rope 35 rfl rfl) ?_
                have b26 := zshl_1 (n := p1) (a := 0) (b := 20) (lo := 1) (hi := 1048576) (by omega) (by decide) (by decide) (by decide)
                refine zj_iconst (zdk ttX11_rope 36 rfl rfl) ?_
                refine zj_isub (zdk ttX11_rope 37 rfl rfl) ?_
                have f27 : zfr [0] [] h h1 := zfr_wf (zfr_r _ _ _) e2 rfl
                exact zj_iret rfl (zdk ttX11_rope 38 rfl rfl) (Nat.le_refl _) (Nat.le_refl _) ⟨((zshl 1 p1) - 1), rfl, by omega, s3, f27, by unfold zrp; omega⟩
              · refine zj_iload_n (zdk ttX11_rope 25 rfl rfl) rfl ?_
                refine zj_iconst (zdk ttX11_rope 26 rfl rfl) ?_
                refine zj_iload_n (zdk ttX11_rope 27 rfl rfl) rfl ?_
                refine zj_ishl (zdk ttX11_rope 28 rfl rfl) ?_
                have b28 := zshl_1 (n := p1) (a := 0) (b := 20) (lo := 1) (hi := 1048576) (by omega) (by decide) (by decide) (by decide)
                refine zj_imul (zdk ttX11_rope 29 rfl rfl) ?_
                have b29 : 1 ≤ (p2 * (zshl 1 p1)) ∧ (p2 * (zshl 1 p1)) ≤ 9437184 := zmul_b (a := 1) (b := 9) (c := 1) (d := 1048576) (by omega) (by omega) (by decide)
                refine zj_iconst (zdk ttX11_rope 30 rfl rfl) ?_
                refine zj_iadd (zdk ttX11_rope 31 rfl rfl) ?_
                refine zj_goto (t := 58) (zdk ttX11_rope 32 rfl rfl) (by decide) ?_
                have f30 : zfr [0] [] h h1 := zfr_wf (zfr_r _ _ _) e2 rfl
                exact zj_iret rfl (zdk ttX11_rope 38 rfl rfl) (Nat.le_refl _) (Nat.le_refl _) ⟨((p2 * (zshl 1 p1)) + 1), rfl, by omega, s3, f30, by unfold zrp; omega⟩
            · exact absurd c24 (by omega)
