def zgd (ab y : Int) : Prop := (1 ≤ ab.tmod 1000 ∧ ab.tmod 1000 ≤ 400) ∧ (0 ≤ ab.tdiv 1000 ∧ ab.tdiv 1000 ≤ ab.tmod 1000 - 1) ∧ (0 ≤ y ∧ y ≤ 9999)
def zcal (ab y w v : Int) : Prop := (¬ zgd ab y → v = -1) ∧ (¬ (w = 0 ∨ w = 1) → v = -1) ∧ (zgd ab y → w = 0 → v = (y * (ab.tdiv 1000)) / (ab.tmod 1000)) ∧ (zgd ab y → w = 1 → y = 0 → v = 0) ∧ (zgd ab y → w = 1 → ¬ y = 0 → v = (y * (ab.tdiv 1000)) / (ab.tmod 1000) - ((y - 1) * (ab.tdiv 1000)) / (ab.tmod 1000))
theorem zcal_u {ab y w v v' : Int} (a : zcal ab y w v) (b : zcal ab y w v') : v = v' := by
  by_cases g : zgd ab y
  · by_cases w0 : w = 0
    · rw [a.2.2.1 g w0, b.2.2.1 g w0]
    · by_cases w1 : w = 1
      · by_cases y0 : y = 0
        · rw [a.2.2.2.1 g w1 y0, b.2.2.2.1 g w1 y0]
        · rw [a.2.2.2.2 g w1 y0, b.2.2.2.2 g w1 y0]
      · rw [a.2.1 (by omega), b.2.1 (by omega)]
  · rw [a.1 g, b.1 g]
theorem zcal_d {y a b : Int} (ha : 0 ≤ a ∧ a < b) : 0 ≤ (y * a) / b - ((y - 1) * a) / b ∧ (y * a) / b - ((y - 1) * a) / b ≤ 1 := by
  have e : y * a = (y - 1) * a + a := by rw [Int.sub_mul]; omega
  rw [e]
  have hb : 0 < b := by omega
  have h1 := Int.mul_ediv_add_emod ((y - 1) * a) b
  have h2 := Int.emod_nonneg ((y - 1) * a) (show b ≠ 0 by omega)
  have h3 := Int.emod_lt_of_pos ((y - 1) * a) hb
  have l1 : (((y - 1) * a) / b) * b ≤ (y - 1) * a + a := by rw [Int.mul_comm]; omega
  have l2 := (Int.le_ediv_iff_mul_le hb).mpr l1
  have l3 : (y - 1) * a + a < (((y - 1) * a) / b + 2) * b := by rw [Int.add_mul, Int.mul_comm (((y - 1) * a) / b) b]; omega
  have l4 := (Int.ediv_lt_iff_lt_mul hb).mpr l3
  omega

abbrev q2_X10_calendar (h : zM) (p1 : Int) (p2 : Int) (p3 : Int) : Option zV → zM → Prop := zqi fun v h' => ((-2147483648) ≤ v ∧ v ≤ 2147483647) ∧ okC h' ∧ (zcal p1 p2 p3 v)
set_option maxRecDepth 100000 in
set_option maxHeartbeats 4000000 in
theorem s2_X10_calendar (l : Launch) (h : zM) (p1 : Int) (p2 : Int) (p3 : Int) (s0 : okC h) (b_p1 : (-2147483648) ≤ p1 ∧ p1 ≤ 2147483647) (b_p2 : (-2147483648) ≤ p2 ∧ p2 ≤ 2147483647) (b_p3 : (-2147483648) ≤ p3 ∧ p3 ≤ 2147483647) : zT shC l yX10_calendar cX10_calendar 6 (some .int) (rmL 2) 0 0 [.inr 0, .inl p1, .inl p2, .inl p3] h (q2_X10_calendar h p1 p2 p3) := by
  refine zT_of (by decide +kernel) (L0 := [some (.inr 0), some (.inl p1), some (.inl p2), some (.inl p3), none, none]) rfl (Nat.le_of_ble_eq_true rfl) ?_
  refine zj_iload_n (zdk ttX10_calendar 0 rfl rfl) rfl ?_
  refine zj_sipush (zdk ttX10_calendar 1 rfl rfl) (by decide) ?_
  refine zj_idiv (zdk ttX10_calendar 2 rfl rfl) (by omega) (by decide) (by omega) ?_
  have b1 := ztd_c p1 1000 (by decide)
  refine zj_istore (L' := [some (.inr 0), some (.inl p1), some (.inl p2), some (.inl p3), some (.inl (p1.tdiv 1000)), none]) (zdk ttX10_calendar 3 rfl rfl) (by decide) rfl ?_
  refine zj_iload_n (zdk ttX10_calendar 4 rfl rfl) rfl ?_
  refine zj_sipush (zdk ttX10_calendar 5 rfl rfl) (by decide) ?_
  refine zj_irem (zdk ttX10_calendar 6 rfl rfl) (by omega) (by decide) (by omega) ?_
  have b2 := ztm_c p1 1000 (by decide)
  refine zj_istore (L' := [some (.inr 0), some (.inl p1), some (.inl p2), some (.inl p3), some (.inl (p1.tdiv 1000)), some (.inl (p1.tmod 1000))]) (zdk ttX10_calendar 7 rfl rfl) (by decide) rfl ?_
  refine zj_iload (zdk ttX10_calendar 8 rfl rfl) rfl ?_
  refine zj_iconst (zdk ttX10_calendar 9 rfl rfl) ?_
  refine zj_sipush (zdk ttX10_calendar 10 rfl rfl) (by decide) ?_
  refine zj_callS (av := [.inl (p1.tmod 1000), .inl 1, .inl 400]) (st := []) (zdk ttX10_calendar 11 rfl rfl) mb_X10_within ms_RX10_77 rfl rfl (Nat.le_of_ble_eq_true rfl) (s_X10_within l h (p1.tmod 1000) 1 400 s0 (by omega) (by omega) (by omega)) (rm_ok (by decide) (by decide)) (zq_i fun v4 h5 q3 => ?_)
  obtain ⟨rfl, ⟨rfl, b6⟩ | ⟨rfl, b6⟩⟩ := q3
  · refine zj_if_eq (t := 50) (zdk ttX10_calendar 12 rfl rfl) (by decide) (by decide) (fun c7 => ?_) (fun c7 => ?_)
    · refine zj_iconst (zdk ttX10_calendar 25 rfl rfl) ?_
      exact zj_iret rfl (zdk ttX10_calendar 26 rfl rfl) (Nat.le_refl _) (Nat.le_refl _) ⟨(-1), rfl, by omega, s0, by unfold zcal zgd; omega⟩
    · exact absurd c7 (by omega)
  · refine zj_if_eq (t := 50) (zdk ttX10_calendar 12 rfl rfl) (by decide) (by decide) (fun c8 => ?_) (fun c8 => ?_)
    · exact absurd c8 (by omega)
    · refine zj_iload (zdk ttX10_calendar 13 rfl rfl) rfl ?_
      refine zj_iconst (zdk ttX10_calendar 14 rfl rfl) ?_
      refine zj_iload (zdk ttX10_calendar 15 rfl rfl) rfl ?_
      refine zj_iconst (zdk ttX10_calendar 16 rfl rfl) ?_
      refine zj_isub (zdk ttX10_calendar 17 rfl rfl) ?_
      refine zj_callS (av := [.inl (p1.tdiv 1000), .inl 0, .inl ((p1.tmod 1000) - 1)]) (st := []) (zdk ttX10_calendar 18 rfl rfl) mb_X10_within ms_RX10_77 rfl rfl (Nat.le_of_ble_eq_true rfl) (s_X10_within l h (p1.tdiv 1000) 0 ((p1.tmod 1000) - 1) s0 (by omega) (by omega) (by omega)) (rm_ok (by decide) (by decide)) (zq_i fun v10 h11 q9 => ?_)
      obtain ⟨rfl, ⟨rfl, b12⟩ | ⟨rfl, b12⟩⟩ := q9
      · refine zj_if_eq (t := 50) (zdk ttX10_calendar 19 rfl rfl) (by decide) (by decide) (fun c13 => ?_) (fun c13 => ?_)
        · refine zj_iconst (zdk ttX10_calendar 25 rfl rfl) ?_
          exact zj_iret rfl (zdk ttX10_calendar 26 rfl rfl) (Nat.le_refl _) (Nat.le_refl _) ⟨(-1), rfl, by omega, s0, by unfold zcal zgd; omega⟩
        · exact absurd c13 (by omega)
      · refine zj_if_eq (t := 50) (zdk ttX10_calendar 19 rfl rfl) (by decide) (by decide) (fun c14 => ?_) (fun c14 => ?_)
        · exact absurd c14 (by omega)
        · refine zj_iload_n (zdk ttX10_calendar 20 rfl rfl) rfl ?_
          refine zj_iconst (zdk ttX10_calendar 21 rfl rfl) ?_
          refine zj_sipush (zdk ttX10_calendar 22 rfl rfl) (by decide) ?_
          refine zj_callS (av := [.inl p2, .inl 0, .inl 9999]) (st := []) (zdk ttX10_calendar 23 rfl rfl) mb_X10_within ms_RX10_77 rfl rfl (Nat.le_of_ble_eq_true rfl) (s_X10_within l h p2 0 9999 s0 (by omega) (by omega) (by omega)) (rm_ok (by decide) (by decide)) (zq_i fun v16 h17 q15 => ?_)
          obtain ⟨rfl, ⟨rfl, b18⟩ | ⟨rfl, b18⟩⟩ := q15
          · refine zj_if_ne (t := 52) (zdk ttX10_calendar 24 rfl rfl) (by decide) (by decide) (fun c19 => ?_) (fun c19 => ?_)
            · exact absurd c19 (by omega)
            · refine zj_iconst (zdk ttX10_calendar 25 rfl rfl) ?_
              exact zj_iret rfl (zdk ttX10_calendar 26 rfl rfl) (Nat.le_refl _) (Nat.le_refl _) ⟨(-1), rfl, by omega, s0, by unfold zcal zgd; omega⟩
          · refine zj_if_ne (t := 52) (zdk ttX10_calendar 24 rfl rfl) (by decide) (by decide) (fun c20 => ?_) (fun c20 => ?_)
            · refine zj_iload_n (zdk ttX10_calendar 27 rfl rfl) rfl ?_
              have k22 : (¬ p3 = 0 ∧ ¬ p3 = 1) → zJ shC l yX10_calendar cX10_calendar 6 (some .int) (rmL 2) 0 0 (q2_X10_calendar h p1 p2 p3) 0 0 114 [some (.inr 0), some (.inl p1), some (.inl p2), some (.inl p3), some (.inl (p1.tdiv 1000)), some (.inl (p1.tmod 1000))] [] h := by
                intro c21
                refine zj_iconst (zdk ttX10_calendar 53 rfl rfl) ?_
                exact zj_iret rfl (zdk ttX10_calendar 54 rfl rfl) (Nat.le_refl _) (Nat.le_refl _) ⟨(-1), rfl, by omega, s0, by unfold zcal zgd; omega⟩
              have k23 : p3 = 0 → zJ shC l yX10_calendar cX10_calendar 6 (some .int) (rmL 2) 0 0 (q2_X10_calendar h p1 p2 p3) 0 0 80 [some (.inr 0), some (.inl p1), some (.inl p2), some (.inl p3), some (.inl (p1.tdiv 1000)), some (.inl (p1.tmod 1000))] [] h := by
                intro c21
                refine zj_iload_n (zdk ttX10_calendar 29 rfl rfl) rfl ?_
                refine zj_iload (zdk ttX10_calendar 30 rfl rfl) rfl ?_
                refine zj_imul (zdk ttX10_calendar 31 rfl rfl) ?_
                have b24 : 0 ≤ (p2 * (p1.tdiv 1000)) ∧ (p2 * (p1.tdiv 1000)) ≤ 3989601 := zmul_b (a := 0) (b := 9999) (c := 0) (d := 399) (by omega) (by omega) (by decide)
                refine zj_iload (zdk ttX10_calendar 32 rfl rfl) rfl ?_
                refine zj_idivP (zdk ttX10_calendar 33 rfl rfl) (by omega) (by omega) ?_
                have b25 := zdiv_b (x := (p2 * (p1.tdiv 1000))) (b := (p1.tmod 1000)) (by omega) (by omega)
                exact zj_iret rfl (zdk ttX10_calendar 34 rfl rfl) (Nat.le_refl _) (Nat.le_refl _) ⟨((p2 * (p1.tdiv 1000)) / (p1.tmod 1000)), rfl, by omega, s0, by unfold zcal zgd; omega⟩
              have k26 : p3 = 1 → zJ shC l yX10_calendar cX10_calendar 6 (some .int) (rmL 2) 0 0 (q2_X10_calendar h p1 p2 p3) 0 0 88 [some (.inr 0), some (.inl p1), some (.inl p2), some (.inl p3), some (.inl (p1.tdiv 1000)), some (.inl (p1.tmod 1000))] [] h := by
                intro c21
                refine zj_iload_n (zdk ttX10_calendar 35 rfl rfl) rfl ?_
                refine zj_if_ne (t := 96) (zdk ttX10_calendar 36 rfl rfl) (by decide) (by omega) (fun c27 => ?_) (fun c27 => ?_)
                · refine zj_iload_n (zdk ttX10_calendar 39 rfl rfl) rfl ?_
                  refine zj_iload (zdk ttX10_calendar 40 rfl rfl) rfl ?_
                  refine zj_imul (zdk ttX10_calendar 41 rfl rfl) ?_
                  have b28 : 0 ≤ (p2 * (p1.tdiv 1000)) ∧ (p2 * (p1.tdiv 1000)) ≤ 3989601 := zmul_b (a := 1) (b := 9999) (c := 0) (d := 399) (by omega) (by omega) (by decide)
                  refine zj_iload (zdk ttX10_calendar 42 rfl rfl) rfl ?_
                  refine zj_idivP (zdk ttX10_calendar 43 rfl rfl) (by omega) (by omega) ?_
                  have b29 := zdiv_b (x := (p2 * (p1.tdiv 1000))) (b := (p1.tmod 1000)) (by omega) (by omega)
                  refine zj_iload_n (zdk ttX10_calendar 44 rfl rfl) rfl ?_
                  refine zj_iconst (zdk ttX10_calendar 45 rfl rfl) ?_
                  refine zj_isub (zdk ttX10_calendar 46 rfl rfl) ?_
                  refine zj_iload (zdk ttX10_calendar 47 rfl rfl) rfl ?_
                  refine zj_imul (zdk ttX10_calendar 48 rfl rfl) ?_
                  have b30 : 0 ≤ ((p2 - 1) * (p1.tdiv 1000)) ∧ ((p2 - 1) * (p1.tdiv 1000)) ≤ 3989202 := zmul_b (a := 0) (b := 9998) (c := 0) (d := 399) (by omega) (by omega) (by decide)
                  refine zj_iload (zdk ttX10_calendar 49 rfl rfl) rfl ?_
                  refine zj_idivP (zdk ttX10_calendar 50 rfl rfl) (by omega) (by omega) ?_
                  have b31 := zdiv_b (x := ((p2 - 1) * (p1.tdiv 1000))) (b := (p1.tmod 1000)) (by omega) (by omega)
                  refine zj_isub (zdk ttX10_calendar 51 rfl rfl) ?_
                  exact zj_iret rfl (zdk ttX10_calendar 52 rfl rfl) (Nat.le_refl _) (Nat.le_refl _) ⟨(((p2 * (p1.tdiv 1000)) / (p1.tmod 1000)) - (((p2 - 1) * (p1.tdiv 1000)) / (p1.tmod 1000))), rfl, by omega, s0, by unfold zcal zgd; omega⟩
                · refine zj_iconst (zdk ttX10_calendar 37 rfl rfl) ?_
                  refine zj_goto (t := 113) (zdk ttX10_calendar 38 rfl rfl) (by decide) ?_
                  exact zj_iret rfl (zdk ttX10_calendar 52 rfl rfl) (Nat.le_refl _) (Nat.le_refl _) ⟨0, rfl, by omega, s0, by unfold zcal zgd; omega⟩
              by_cases z32 : p3 = 0
              · exact zj_lookup (t := 80) (zdk ttX10_calendar 28 rfl rfl) (by omega) rfl (by rw [z32] <;> rfl) (by decide) (k23 z32)
              by_cases z33 : p3 = 1
              · exact zj_lookup (t := 88) (zdk ttX10_calendar 28 rfl rfl) (by omega) rfl (by rw [z33] <;> rfl) (by decide) (k26 z33)
              exact zj_lookup (t := 114) (zdk ttX10_calendar 28 rfl rfl) (by omega) rfl (by show Op.lookupswitch.offset [(0, 27), (1, 35)] 61 p3 = _; rw [Op.lookupswitch.offset_cons, if_neg (by omega), Op.lookupswitch.offset_cons, if_neg (by omega), Op.lookupswitch.offset_nil]) (by decide) (k22 (by omega))
            · exact absurd c20 (by omega)

abbrev q2_X11_calendar (h : zM) (p1 : Int) (p2 : Int) (p3 : Int) : Option zV → zM → Prop := zqi fun v h' => ((-2147483648) ≤ v ∧ v ≤ 2147483647) ∧ okM h' ∧ zfr [0] [] h h' ∧ (zcal p1 p2 p3 v)
set_option maxRecDepth 100000 in
set_option maxHeartbeats 4000000 in
theorem s2_X11_calendar (l : Launch) (h : zM) (p1 : Int) (p2 : Int) (p3 : Int) (s0 : okM h) (b_p1 : (-2147483648) ≤ p1 ∧ p1 ≤ 2147483647) (b_p2 : (-2147483648) ≤ p2 ∧ p2 ≤ 2147483647) (b_p3 : (-2147483648) ≤ p3 ∧ p3 ≤ 2147483647) : zT shM l yX11_calendar cX11_calendar 6 (some .int) (rmL 2) 0 0 [.inr 0, .inl p1, .inl p2, .inl p3] h (q2_X11_calendar h p1 p2 p3) := by
  refine zT_of (by decide +kernel) (L0 := [some (.inr 0), some (.inl p1), some (.inl p2), some (.inl p3), none, none]) rfl (Nat.le_of_ble_eq_true rfl) ?_
  refine zj_aload_n (zdk ttX11_calendar 0 rfl rfl) rfl (by decide) ?_
  refine zj_iconst (zdk ttX11_calendar 1 rfl rfl) ?_
  refine zj_puti (zdk ttX11_calendar 2 rfl rfl) zf_RX11_120 rfl (k_M s0) (Or.inl zw_RX11_120) (k2 := 0) rfl (fun h1 e2 => ?_)
  refine zj_iload_n (zdk ttX11_calendar 3 rfl rfl) rfl ?_
  refine zj_sipush (zdk ttX11_calendar 4 rfl rfl) (by decide) ?_
  refine zj_idiv (zdk ttX11_calendar 5 rfl rfl) (by omega) (by decide) (by omega) ?_
  have b3 := ztd_c p1 1000 (by decide)
  refine zj_istore (L' := [some (.inr 0), some (.inl p1), some (.inl p2), some (.inl p3), some (.inl (p1.tdiv 1000)), none]) (zdk ttX11_calendar 6 rfl rfl) (by decide) rfl ?_
  refine zj_iload_n (zdk ttX11_calendar 7 rfl rfl) rfl ?_
  refine zj_sipush (zdk ttX11_calendar 8 rfl rfl) (by decide) ?_
  refine zj_irem (zdk ttX11_calendar 9 rfl rfl) (by omega) (by decide) (by omega) ?_
  have b4 := ztm_c p1 1000 (by decide)
  refine zj_istore (L' := [some (.inr 0), some (.inl p1), some (.inl p2), some (.inl p3), some (.inl (p1.tdiv 1000)), some (.inl (p1.tmod 1000))]) (zdk ttX11_calendar 10 rfl rfl) (by decide) rfl ?_
  refine zj_aload_n (zdk ttX11_calendar 11 rfl rfl) rfl (by decide) ?_
  refine zj_iload_n (zdk ttX11_calendar 12 rfl rfl) rfl ?_
  refine zj_iconst (zdk ttX11_calendar 13 rfl rfl) ?_
  refine zj_ldc_w (z := 399400) (zdk ttX11_calendar 14 rfl rfl) wc_RX11_444 ?_
  have s5 : okM h1 := fwM_0 s0 e2 (by omega)
  refine zj_callV (av := [.inl p1, .inl 0, .inl 399400]) (st := []) (zdk ttX11_calendar 15 rfl rfl) mb_X11_isIn mv_RX11_139 (ci := 11) rfl rfl (k_M s5) rfl rfl (Nat.le_of_ble_eq_true rfl) (s_X11_isIn l h1 p1 0 399400 s5 (by omega) (by omega) (by omega)) (rm_ok (by decide) (by decide)) (zq_i fun v7 h8 q6 => ?_)
  obtain ⟨rfl, ⟨rfl, b9⟩ | ⟨rfl, b9⟩⟩ := q6
  · refine zj_if_eq (t := 73) (zdk ttX11_calendar 16 rfl rfl) (by decide) (by decide) (fun c10 => ?_) (fun c10 => ?_)
    · refine zj_iconst (zdk ttX11_calendar 38 rfl rfl) ?_
      have f11 : zfr [0] [] h h1 := zfr_wf (zfr_r _ _ _) e2 rfl
      have b12 := zcal_d (y := p2) (a := p1.tdiv 1000) (b := p1.tmod 1000)
      exact zj_iret rfl (zdk ttX11_calendar 39 rfl rfl) (Nat.le_refl _) (Nat.le_refl _) ⟨(-1), rfl, by omega, s5, f11, by unfold zcal zgd; omega⟩
    · exact absurd c10 (by omega)
  · refine zj_if_eq (t := 73) (zdk ttX11_calendar 16 rfl rfl) (by decide) (by decide) (fun c13 => ?_) (fun c13 => ?_)
    · exact absurd c13 (by omega)
    · refine zj_aload_n (zdk ttX11_calendar 17 rfl rfl) rfl (by decide) ?_
      refine zj_iload (zdk ttX11_calendar 18 rfl rfl) rfl ?_
      refine zj_iconst (zdk ttX11_calendar 19 rfl rfl) ?_
      refine zj_sipush (zdk ttX11_calendar 20 rfl rfl) (by decide) ?_
      refine zj_callV (av := [.inl (p1.tmod 1000), .inl 1, .inl 400]) (st := []) (zdk ttX11_calendar 21 rfl rfl) mb_X11_isIn mv_RX11_139 (ci := 11) rfl rfl (k_M s5) rfl rfl (Nat.le_of_ble_eq_true rfl) (s_X11_isIn l h1 (p1.tmod 1000) 1 400 s5 (by omega) (by omega) (by omega)) (rm_ok (by decide) (by decide)) (zq_i fun v15 h16 q14 => ?_)
      obtain ⟨rfl, ⟨rfl, b17⟩ | ⟨rfl, b17⟩⟩ := q14
      · refine zj_if_eq (t := 73) (zdk ttX11_calendar 22 rfl rfl) (by decide) (by decide) (fun c18 => ?_) (fun c18 => ?_)
        · refine zj_iconst (zdk ttX11_calendar 38 rfl rfl) ?_
          have f19 : zfr [0] [] h h1 := zfr_wf (zfr_r _ _ _) e2 rfl
          have b20 := zcal_d (y := p2) (a := p1.tdiv 1000) (b := p1.tmod 1000)
          exact zj_iret rfl (zdk ttX11_calendar 39 rfl rfl) (Nat.le_refl _) (Nat.le_refl _) ⟨(-1), rfl, by omega, s5, f19, by unfold zcal zgd; omega⟩
        · exact absurd c18 (by omega)
      · refine zj_if_eq (t := 73) (zdk ttX11_calendar 22 rfl rfl) (by decide) (by decide) (fun c21 => ?_) (fun c21 => ?_)
        · exact absurd c21 (by omega)
        · refine zj_iload (zdk ttX11_calendar 23 rfl rfl) rfl ?_
          refine zj_iload (zdk ttX11_calendar 24 rfl rfl) rfl ?_
          refine zj_icmp_ge (t := 73) (zdk ttX11_calendar 25 rfl rfl) (by decide) (by omega) (by omega) (fun c22 => ?_) (fun c22 => ?_)
          · refine zj_iconst (zdk ttX11_calendar 38 rfl rfl) ?_
            have f23 : zfr [0] [] h h1 := zfr_wf (zfr_r _ _ _) e2 rfl
            have b24 := zcal_d (y := p2) (a := p1.tdiv 1000) (b := p1.tmod 1000)
            exact zj_iret rfl (zdk ttX11_calendar 39 rfl rfl) (Nat.le_refl _) (Nat.le_refl _) ⟨(-1), rfl, by omega, s5, f23, by unfold zcal zgd; omega⟩
          · refine zj_aload_n (zdk ttX11_calendar 26 rfl rfl) rfl (by decide) ?_
            refine zj_iload_n (zdk ttX11_calendar 27 rfl rfl) rfl ?_
            refine zj_iconst (zdk ttX11_calendar 28 rfl rfl) ?_
            refine zj_sipush (zdk ttX11_calendar 29 rfl rfl) (by decide) ?_
            refine zj_callV (av := [.inl p2, .inl 0, .inl 9999]) (st := []) (zdk ttX11_calendar 30 rfl rfl) mb_X11_isIn mv_RX11_139 (ci := 11) rfl rfl (k_M s5) rfl rfl (Nat.le_of_ble_eq_true rfl) (s_X11_isIn l h1 p2 0 9999 s5 (by omega) (by omega) (by omega)) (rm_ok (by decide) (by decide)) (zq_i fun v26 h27 q25 => ?_)
            obtain ⟨rfl, ⟨rfl, b28⟩ | ⟨rfl, b28⟩⟩ := q25
            · refine zj_if_eq (t := 73) (zdk ttX11_calendar 31 rfl rfl) (by decide) (by decide) (fun c29 => ?_) (fun c29 => ?_)
              · refine zj_iconst (zdk ttX11_calendar 38 rfl rfl) ?_
                have f30 : zfr [0] [] h h1 := zfr_wf (zfr_r _ _ _) e2 rfl
                have b31 := zcal_d (y := p2) (a := p1.tdiv 1000) (b := p1.tmod 1000)
                exact zj_iret rfl (zdk ttX11_calendar 39 rfl rfl) (Nat.le_refl _) (Nat.le_refl _) ⟨(-1), rfl, by omega, s5, f30, by unfold zcal zgd; omega⟩
              · exact absurd c29 (by omega)
            · refine zj_if_eq (t := 73) (zdk ttX11_calendar 31 rfl rfl) (by decide) (by decide) (fun c32 => ?_) (fun c32 => ?_)
              · exact absurd c32 (by omega)
              · refine zj_aload_n (zdk ttX11_calendar 32 rfl rfl) rfl (by decide) ?_
                refine zj_iload_n (zdk ttX11_calendar 33 rfl rfl) rfl ?_
                refine zj_iconst (zdk ttX11_calendar 34 rfl rfl) ?_
                refine zj_iconst (zdk ttX11_calendar 35 rfl rfl) ?_
                refine zj_callV (av := [.inl p3, .inl 0, .inl 1]) (st := []) (zdk ttX11_calendar 36 rfl rfl) mb_X11_isIn mv_RX11_139 (ci := 11) rfl rfl (k_M s5) rfl rfl (Nat.le_of_ble_eq_true rfl) (s_X11_isIn l h1 p3 0 1 s5 (by omega) (by omega) (by omega)) (rm_ok (by decide) (by decide)) (zq_i fun v34 h35 q33 => ?_)
                obtain ⟨rfl, ⟨rfl, b36⟩ | ⟨rfl, b36⟩⟩ := q33
                · refine zj_if_ne (t := 75) (zdk ttX11_calendar 37 rfl rfl) (by decide) (by decide) (fun c37 => ?_) (fun c37 => ?_)
                  · exact absurd c37 (by omega)
                  · refine zj_iconst (zdk ttX11_calendar 38 rfl rfl) ?_
                    have f38 : zfr [0] [] h h1 := zfr_wf (zfr_r _ _ _) e2 rfl
                    have b39 := zcal_d (y := p2) (a := p1.tdiv 1000) (b := p1.tmod 1000)
                    exact zj_iret rfl (zdk ttX11_calendar 39 rfl rfl) (Nat.le_refl _) (Nat.le_refl _) ⟨(-1), rfl, by omega, s5, f38, by unfold zcal zgd; omega⟩
                · refine zj_if_ne (t := 75) (zdk ttX11_calendar 37 rfl rfl) (by decide) (by decide) (fun c40 => ?_) (fun c40 => ?_)
                  · refine zj_iload_n (zdk ttX11_calendar 40 rfl rfl) rfl ?_
                    refine zj_if_ne (t := 87) (zdk ttX11_calendar 41 rfl rfl) (by decide) (by omega) (fun c41 => ?_) (fun c41 => ?_)
                    · refine zj_iload_n (zdk ttX11_calendar 48 rfl rfl) rfl ?_
                      refine zj_if_le (t := 114) (zdk ttX11_calendar 49 rfl rfl) (by decide) (by omega) (fun c42 => ?_) (fun c42 => ?_)
                      · refine zj_iconst (zdk ttX11_calendar 65 rfl rfl) ?_
                        have f43 : zfr [0] [] h h1 := zfr_wf (zfr_r _ _ _) e2 rfl
                        have b44 := zcal_d (y := p2) (a := p1.tdiv 1000) (b := p1.tmod 1000)
                        exact zj_iret rfl (zdk ttX11_calendar 66 rfl rfl) (Nat.le_refl _) (Nat.le_refl _) ⟨0, rfl, by omega, s5, f43, by unfold zcal zgd; omega⟩
                      · refine zj_iload_n (zdk ttX11_calendar 50 rfl rfl) rfl ?_
                        refine zj_iload (zdk ttX11_calendar 51 rfl rfl) rfl ?_
                        have b45 : 0 ≤ (p1.tdiv 1000) ∧ (p1.tdiv 1000) ≤ 399 := by omega
                        refine zj_imul (zdk ttX11_calendar 52 rfl rfl) ?_
                        have b46 : 0 ≤ (p2 * (p1.tdiv 1000)) ∧ (p2 * (p1.tdiv 1000)) ≤ 3989601 := zmul_b (a := 1) (b := 9999) (c := 0) (d := 399) (by omega) (by omega) (by decide)
                        refine zj_iload (zdk ttX11_calendar 53 rfl rfl) rfl ?_
                        refine zj_idivP (zdk ttX11_calendar 54 rfl rfl) (by omega) (by omega) ?_
                        have b47 := zdiv_b (x := (p2 * (p1.tdiv 1000))) (b := (p1.tmod 1000)) (by omega) (by omega)
                        have b47p := zdiv_p (x := (p2 * (p1.tdiv 1000))) (b := (p1.tmod 1000)) (by omega)
                        refine zj_iload_n (zdk ttX11_calendar 55 rfl rfl) rfl ?_
                        refine zj_iconst (zdk ttX11_calendar 56 rfl rfl) ?_
                        refine zj_isub (zdk ttX11_calendar 57 rfl rfl) ?_
                        refine zj_iload (zdk ttX11_calendar 58 rfl rfl) rfl ?_
                        have b48 : 0 ≤ (p1.tdiv 1000) ∧ (p1.tdiv 1000) ≤ 399 := by omega
                        refine zj_imul (zdk ttX11_calendar 59 rfl rfl) ?_
                        have b49 : 0 ≤ ((p2 - 1) * (p1.tdiv 1000)) ∧ ((p2 - 1) * (p1.tdiv 1000)) ≤ 3989202 := zmul_b (a := 0) (b := 9998) (c := 0) (d := 399) (by omega) (by omega) (by decide)
                        refine zj_iload (zdk ttX11_calendar 60 rfl rfl) rfl ?_
                        refine zj_idivP (zdk ttX11_calendar 61 rfl rfl) (by omega) (by omega) ?_
                        have b50 := zdiv_b (x := ((p2 - 1) * (p1.tdiv 1000))) (b := (p1.tmod 1000)) (by omega) (by omega)
                        have b50p := zdiv_p (x := ((p2 - 1) * (p1.tdiv 1000))) (b := (p1.tmod 1000)) (by omega)
                        refine zj_icmp_le (t := 114) (zdk ttX11_calendar 62 rfl rfl) (by decide) (by omega) (by omega) (fun c51 => ?_) (fun c51 => ?_)
                        · refine zj_iconst (zdk ttX11_calendar 65 rfl rfl) ?_
                          have f52 : zfr [0] [] h h1 := zfr_wf (zfr_r _ _ _) e2 rfl
                          have b53 := zcal_d (y := p2) (a := p1.tdiv 1000) (b := p1.tmod 1000)
                          exact zj_iret rfl (zdk ttX11_calendar 66 rfl rfl) (Nat.le_refl _) (Nat.le_refl _) ⟨0, rfl, by omega, s5, f52, by unfold zcal zgd; omega⟩
                        · refine zj_iconst (zdk ttX11_calendar 63 rfl rfl) ?_
                          refine zj_goto (t := 115) (zdk ttX11_calendar 64 rfl rfl) (by decide) ?_
                          have f54 : zfr [0] [] h h1 := zfr_wf (zfr_r _ _ _) e2 rfl
                          have b55 := zcal_d (y := p2) (a := p1.tdiv 1000) (b := p1.tmod 1000)
                          exact zj_iret rfl (zdk ttX11_calendar 66 rfl rfl) (Nat.le_refl _) (Nat.le_refl _) ⟨1, rfl, by omega, s5, f54, by unfold zcal zgd; omega⟩
                    · refine zj_iload_n (zdk ttX11_calendar 42 rfl rfl) rfl ?_
                      refine zj_iload (zdk ttX11_calendar 43 rfl rfl) rfl ?_
                      have b56 : 0 ≤ (p1.tdiv 1000) ∧ (p1.tdiv 1000) ≤ 399 := by omega
                      refine zj_imul (zdk ttX11_calendar 44 rfl rfl) ?_
                      have b57 : 0 ≤ (p2 * (p1.tdiv 1000)) ∧ (p2 * (p1.tdiv 1000)) ≤ 3989601 := zmul_b (a := 0) (b := 9999) (c := 0) (d := 399) (by omega) (by omega) (by decide)
                      refine zj_iload (zdk ttX11_calendar 45 rfl rfl) rfl ?_
                      refine zj_idivP (zdk ttX11_calendar 46 rfl rfl) (by omega) (by omega) ?_
                      have b58 := zdiv_b (x := (p2 * (p1.tdiv 1000))) (b := (p1.tmod 1000)) (by omega) (by omega)
                      have b58p := zdiv_p (x := (p2 * (p1.tdiv 1000))) (b := (p1.tmod 1000)) (by omega)
                      have f59 : zfr [0] [] h h1 := zfr_wf (zfr_r _ _ _) e2 rfl
                      have b60 := zcal_d (y := p2) (a := p1.tdiv 1000) (b := p1.tmod 1000)
                      exact zj_iret rfl (zdk ttX11_calendar 47 rfl rfl) (Nat.le_refl _) (Nat.le_refl _) ⟨((p2 * (p1.tdiv 1000)) / (p1.tmod 1000)), rfl, by omega, s5, f59, by unfold zcal zgd; omega⟩
                  · exact absurd c40 (by omega)
