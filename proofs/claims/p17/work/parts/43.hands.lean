def zhc (v : Int) : Nat → Int
  | 0 => 0
  | n + 1 => zhc v n + (if zm_min ((11 * (n : Int)) % 720) (720 - ((11 * (n : Int)) % 720)) = v then 1 else 0)
theorem zhc_s (v : Int) {t : Int} (ht : 0 ≤ t) : (zm_min ((11 * t) % 720) (720 - ((11 * t) % 720)) = v → zhc v (t + 1).toNat = zhc v t.toNat + 1) ∧ (¬ zm_min ((11 * t) % 720) (720 - ((11 * t) % 720)) = v → zhc v (t + 1).toNat = zhc v t.toNat) := by
  have e : (t + 1).toNat = t.toNat + 1 := by omega
  have e2 : ((t.toNat : Nat) : Int) = t := by omega
  rw [e]
  show (_ → zhc v t.toNat + (if zm_min ((11 * (t.toNat : Int)) % 720) (720 - ((11 * (t.toNat : Int)) % 720)) = v then 1 else 0) = _) ∧ (_ → zhc v t.toNat + (if zm_min ((11 * (t.toNat : Int)) % 720) (720 - ((11 * (t.toNat : Int)) % 720)) = v then 1 else 0) = _)
  rw [e2]
  constructor
  · intro q; rw [if_pos q]
  · intro q; rw [if_neg q]; omega
def zhd (a b v : Int) : Prop := (b = 0 → 0 ≤ a → a ≤ 719 → v = zm_min ((11 * a) % 720) (720 - ((11 * a) % 720))) ∧ (b = 1 → 0 ≤ a → a ≤ 360 → v = zhc a 720) ∧ ((¬ b = 0 ∧ ¬ b = 1) → v = -1) ∧ (b = 0 → (a < 0 ∨ 719 < a) → v = -1) ∧ (b = 1 → (a < 0 ∨ 360 < a) → v = -1)
theorem zhd_u {a b v v' : Int} (p : zhd a b v) (q : zhd a b v') : v = v' := by
  by_cases b0 : b = 0
  · by_cases g : 0 ≤ a ∧ a ≤ 719
    · rw [p.1 b0 g.1 g.2, q.1 b0 g.1 g.2]
    · rw [p.2.2.2.1 b0 (by omega), q.2.2.2.1 b0 (by omega)]
  · by_cases b1 : b = 1
    · by_cases g : 0 ≤ a ∧ a ≤ 360
      · rw [p.2.1 b1 g.1 g.2, q.2.1 b1 g.1 g.2]
      · rw [p.2.2.2.2 b1 (by omega), q.2.2.2.2 b1 (by omega)]
    · rw [p.2.2.1 ⟨b0, b1⟩, q.2.2.1 ⟨b0, b1⟩]

abbrev q2_X8_minutesApartBy (h : zM) (p1 : Int) : Option zV → zM → Prop := zqi fun v h' => h = h' ∧ ((-2147483648) ≤ v ∧ v ≤ 2147483647) ∧ (v = zhc p1 720)
set_option maxRecDepth 100000 in
set_option maxHeartbeats 4000000 in
theorem s2_X8_minutesApartBy (l : Launch) (h : zM) (p1 : Int) (s0 : okC h) (b_p1 : (-2147483648) ≤ p1 ∧ p1 ≤ 2147483647) : zT shC l yX8_minutesApartBy cX8_minutesApartBy 3 (some .int) (rmL 3) 0 0 [.inl p1] h (q2_X8_minutesApartBy h p1) := by
  refine zT_of (by decide +kernel) (L0 := [some (.inl p1), none, none]) rfl (Nat.le_of_ble_eq_true rfl) ?_
  refine zj_iconst (zdk ttX8_minutesApartBy 0 rfl rfl) ?_
  refine zj_istore_n (L' := [some (.inl p1), some (.inl 0), none]) (zdk ttX8_minutesApartBy 1 rfl rfl) (by decide) rfl ?_
  refine zj_iconst (zdk ttX8_minutesApartBy 2 rfl rfl) ?_
  refine zj_istore_n (L' := [some (.inl p1), some (.inl 0), some (.inl 0)]) (zdk ttX8_minutesApartBy 3 rfl rfl) (by decide) rfl ?_
  have lp10 : ∀ (n : Nat) (x1 x2 : Int), (0 ≤ x1 ∧ x1 ≤ 720) → (0 ≤ x2 ∧ x2 ≤ 720) → (x1 = zhc p1 x2.toNat) → (x1 ≤ x2) → (721 - x2).toNat < n → zJ shC l yX8_minutesApartBy cX8_minutesApartBy 3 (some .int) (rmL 3) 0 0 (q2_X8_minutesApartBy h p1) 0 0 4 [some (.inl p1), some (.inl x1), some (.inl x2)] [] h := by
    intro n
    induction n with
    | zero => intro x1 x2 b11 b12 u13 u14 m15; exact absurd m15 (Nat.not_lt_zero _)
    | succ n ih16 =>
      intro x1 x2 b11 b12 u13 u14 m15
      refine zj_iload_n (zdk ttX8_minutesApartBy 4 rfl rfl) rfl ?_
      refine zj_sipush (zdk ttX8_minutesApartBy 5 rfl rfl) (by decide) ?_
      refine zj_icmp_ge (t := 28) (zdk ttX8_minutesApartBy 6 rfl rfl) (by decide) (by omega) (by decide) (fun c17 => ?_) (fun c17 => ?_)
      · refine zj_iload_n (zdk ttX8_minutesApartBy 14 rfl rfl) rfl ?_
        have b18 : x2 = 720 := by omega
        subst b18
        exact zj_iret rfl (zdk ttX8_minutesApartBy 15 rfl rfl) (Nat.le_refl _) (Nat.le_refl _) ⟨x1, rfl, rfl, by omega, by assumption⟩
      · refine zj_iload_n (zdk ttX8_minutesApartBy 7 rfl rfl) rfl ?_
        refine zj_callS (av := [.inl x2]) (st := []) (zdk ttX8_minutesApartBy 8 rfl rfl) mb_X8_handsApart ms_RX8_33 rfl rfl (Nat.le_of_ble_eq_true rfl) (s_X8_handsApart l h x2 s0 (by omega)) (rm_ok (by decide) (by decide)) (zq_i fun v20 h21 q19 => ?_)
        obtain ⟨rfl, b22⟩ := q19
        have b23 : 0 ≤ v20 ∧ v20 ≤ 719 := by omega
        refine zj_iload_n (zdk ttX8_minutesApartBy 9 rfl rfl) rfl ?_
        refine zj_icmp_ne (t := 22) (zdk ttX8_minutesApartBy 10 rfl rfl) (by decide) (by omega) (by omega) (fun c24 => ?_) (fun c24 => ?_)
        · refine zj_iinc (L' := [some (.inl p1), some (.inl x1), some (.inl (x2 + 1))]) (zdk ttX8_minutesApartBy 12 rfl rfl) rfl (by decide) rfl ?_
          refine zj_goto (t := 4) (zdk ttX8_minutesApartBy 13 rfl rfl) (by decide) ?_
          have b25 := zhc_s p1 (t := x2) (by omega)
          exact ih16  x1 (x2 + 1) (by omega) (by omega) (by omega) (by omega) (by omega)
        · refine zj_iinc (L' := [some (.inl p1), some (.inl (x1 + 1)), some (.inl x2)]) (zdk ttX8_minutesApartBy 11 rfl rfl) rfl (by decide) rfl ?_
          refine zj_iinc (L' := [some (.inl p1), some (.inl (x1 + 1)), some (.inl (x2 + 1))]) (zdk ttX8_minutesApartBy 12 rfl rfl) rfl (by decide) rfl ?_
          refine zj_goto (t := 4) (zdk ttX8_minutesApartBy 13 rfl rfl) (by decide) ?_
          have b26 := zhc_s p1 (t := x2) (by omega)
          exact ih16  (x1 + 1) (x2 + 1) (by omega) (by omega) (by omega) (by omega) (by omega)
  exact lp10 _ 0 0 (by omega) (by omega) rfl (by omega) (Nat.lt_succ_self _)

abbrev q2_X10_hands (h : zM) (p1 : Int) (p2 : Int) : Option zV → zM → Prop := zqi fun v h' => ((-2147483648) ≤ v ∧ v ≤ 2147483647) ∧ okC h' ∧ (zhd p1 p2 v)
set_option maxRecDepth 100000 in
set_option maxHeartbeats 4000000 in
theorem s2_X10_hands (l : Launch) (h : zM) (p1 : Int) (p2 : Int) (s0 : okC h) (b_p1 : (-2147483648) ≤ p1 ∧ p1 ≤ 2147483647) (b_p2 : (-2147483648) ≤ p2 ∧ p2 ≤ 2147483647) : zT shC l yX10_hands cX10_hands 3 (some .int) (rmL 4) 0 0 [.inr 0, .inl p1, .inl p2] h (q2_X10_hands h p1 p2) := by
  refine zT_of (by decide +kernel) (L0 := [some (.inr 0), some (.inl p1), some (.inl p2)]) rfl (Nat.le_of_ble_eq_true rfl) ?_
  refine zj_iload_n (zdk ttX10_hands 0 rfl rfl) rfl ?_
  refine zj_if_ne (t := 20) (zdk ttX10_hands 1 rfl rfl) (by decide) (by omega) (fun c1 => ?_) (fun c1 => ?_)
  · refine zj_iload_n (zdk ttX10_hands 10 rfl rfl) rfl ?_
    refine zj_iconst (zdk ttX10_hands 11 rfl rfl) ?_
    refine zj_icmp_ne (t := 41) (zdk ttX10_hands 12 rfl rfl) (by decide) (by omega) (by decide) (fun c2 => ?_) (fun c2 => ?_)
    · refine zj_iconst (zdk ttX10_hands 21 rfl rfl) ?_
      exact zj_iret rfl (zdk ttX10_hands 22 rfl rfl) (Nat.le_refl _) (Nat.le_refl _) ⟨(-1), rfl, by omega, s0, by unfold zhd; omega⟩
    · refine zj_iload_n (zdk ttX10_hands 13 rfl rfl) rfl ?_
      refine zj_iconst (zdk ttX10_hands 14 rfl rfl) ?_
      refine zj_sipush (zdk ttX10_hands 15 rfl rfl) (by decide) ?_
      refine zj_callS (av := [.inl p1, .inl 0, .inl 360]) (st := []) (zdk ttX10_hands 16 rfl rfl) mb_X10_within ms_RX10_77 rfl rfl (Nat.le_of_ble_eq_true rfl) (s_X10_within l h p1 0 360 s0 (by omega) (by omega) (by omega)) (rm_ok (by decide) (by decide)) (zq_i fun v4 h5 q3 => ?_)
      obtain ⟨rfl, ⟨rfl, b6⟩ | ⟨rfl, b6⟩⟩ := q3
      · refine zj_if_eq (t := 41) (zdk ttX10_hands 17 rfl rfl) (by decide) (by decide) (fun c7 => ?_) (fun c7 => ?_)
        · refine zj_iconst (zdk ttX10_hands 21 rfl rfl) ?_
          exact zj_iret rfl (zdk ttX10_hands 22 rfl rfl) (Nat.le_refl _) (Nat.le_refl _) ⟨(-1), rfl, by omega, s0, by unfold zhd; omega⟩
        · exact absurd c7 (by omega)
      · refine zj_if_eq (t := 41) (zdk ttX10_hands 17 rfl rfl) (by decide) (by decide) (fun c8 => ?_) (fun c8 => ?_)
        · exact absurd c8 (by omega)
        · refine zj_iload_n (zdk ttX10_hands 18 rfl rfl) rfl ?_
          refine zj_callS (av := [.inl p1]) (st := []) (zdk ttX10_hands 19 rfl rfl) mb_X8_minutesApartBy ms_RX10_260 rfl rfl (Nat.le_of_ble_eq_true rfl) (s2_X8_minutesApartBy l h p1 s0 (by omega)) (rm_ok (by decide) (by decide)) (zq_i fun v10 h11 q9 => ?_)
          obtain ⟨rfl, b12, u13⟩ := q9
          exact zj_iret rfl (zdk ttX10_hands 20 rfl rfl) (Nat.le_refl _) (Nat.le_refl _) ⟨v10, rfl, by omega, s0, by unfold zhd; omega⟩
  · refine zj_iload_n (zdk ttX10_hands 2 rfl rfl) rfl ?_
    refine zj_iconst (zdk ttX10_hands 3 rfl rfl) ?_
    refine zj_sipush (zdk ttX10_hands 4 rfl rfl) (by decide) ?_
    refine zj_callS (av := [.inl p1, .inl 0, .inl 719]) (st := []) (zdk ttX10_hands 5 rfl rfl) mb_X10_within ms_RX10_77 rfl rfl (Nat.le_of_ble_eq_true rfl) (s_X10_within l h p1 0 719 s0 (by omega) (by omega) (by omega)) (rm_ok (by decide) (by decide)) (zq_i fun v15 h16 q14 => ?_)
    obtain ⟨rfl, ⟨rfl, b17⟩ | ⟨rfl, b17⟩⟩ := q14
    · refine zj_if_eq (t := 20) (zdk ttX10_hands 6 rfl rfl) (by decide) (by decide) (fun c18 => ?_) (fun c18 => ?_)
      · refine zj_iload_n (zdk ttX10_hands 10 rfl rfl) rfl ?_
        refine zj_iconst (zdk ttX10_hands 11 rfl rfl) ?_
        refine zj_icmp_ne (t := 41) (zdk ttX10_hands 12 rfl rfl) (by decide) (by omega) (by decide) (fun c19 => ?_) (fun c19 => ?_)
        · refine zj_iconst (zdk ttX10_hands 21 rfl rfl) ?_
          exact zj_iret rfl (zdk ttX10_hands 22 rfl rfl) (Nat.le_refl _) (Nat.le_refl _) ⟨(-1), rfl, by omega, s0, by unfold zhd; omega⟩
        · exact absurd c19 (by omega)
      · exact absurd c18 (by omega)
    · refine zj_if_eq (t := 20) (zdk ttX10_hands 6 rfl rfl) (by decide) (by decide) (fun c20 => ?_) (fun c20 => ?_)
      · exact absurd c20 (by omega)
      · refine zj_iload_n (zdk ttX10_hands 7 rfl rfl) rfl ?_
        refine zj_callS (av := [.inl p1]) (st := []) (zdk ttX10_hands 8 rfl rfl) mb_X8_handsApart ms_RX10_257 rfl rfl (Nat.le_of_ble_eq_true rfl) (s_X8_handsApart l h p1 s0 (by omega)) (rm_ok (by decide) (by decide)) (zq_i fun v22 h23 q21 => ?_)
        obtain ⟨rfl, b24⟩ := q21
        have b25 : 0 ≤ v22 ∧ v22 ≤ 719 := by omega
        exact zj_iret rfl (zdk ttX10_hands 9 rfl rfl) (Nat.le_refl _) (Nat.le_refl _) ⟨v22, rfl, by omega, s0, by unfold zhd; omega⟩

abbrev q2_X11_handsAt (h : zM) (p1 : Int) : Option zV → zM → Prop := zqi fun v h' => h = h' ∧ (0 ≤ v ∧ v ≤ 360) ∧ (v = zm_min ((11 * p1) % 720) (720 - ((11 * p1) % 720)))
set_option maxRecDepth 100000 in
set_option maxHeartbeats 4000000 in
theorem s2_X11_handsAt (l : Launch) (h : zM) (p1 : Int) (s0 : okM h) (b_p1 : 0 ≤ p1 ∧ p1 ≤ 719) : zT shM l yX11_handsAt cX11_handsAt 2 (some .int) (rmL 2) 0 0 [.inr 0, .inl p1] h (q2_X11_handsAt h p1) := by
  refine zT_of (by decide +kernel) (L0 := [some (.inr 0), some (.inl p1)]) rfl (Nat.le_of_ble_eq_true rfl) ?_
  refine zj_aload_n (zdk ttX11_handsAt 0 rfl rfl) rfl (by decide) ?_
  refine zj_bipush (zdk ttX11_handsAt 1 rfl rfl) (by decide) ?_
  refine zj_iload_n (zdk ttX11_handsAt 2 rfl rfl) rfl ?_
  refine zj_imul (zdk ttX11_handsAt 3 rfl rfl) ?_
  refine zj_sipush (zdk ttX11_handsAt 4 rfl rfl) (by decide) ?_
  refine zj_iremP (zdk ttX11_handsAt 5 rfl rfl) (by omega) (by omega) ?_
  refine zj_sipush (zdk ttX11_handsAt 6 rfl rfl) (by decide) ?_
  refine zj_bipush (zdk ttX11_handsAt 7 rfl rfl) (by decide) ?_
  refine zj_iload_n (zdk ttX11_handsAt 8 rfl rfl) rfl ?_
  refine zj_imul (zdk ttX11_handsAt 9 rfl rfl) ?_
  refine zj_sipush (zdk ttX11_handsAt 10 rfl rfl) (by decide) ?_
  refine zj_iremP (zdk ttX11_handsAt 11 rfl rfl) (by omega) (by omega) ?_
  refine zj_isub (zdk ttX11_handsAt 12 rfl rfl) ?_
  refine zj_callV (av := [.inl ((11 * p1) % 720), .inl (720 - ((11 * p1) % 720))]) (st := []) (zdk ttX11_handsAt 13 rfl rfl) mb_X11_lesser mv_RX11_371 (ci := 11) rfl rfl (k_M s0) rfl rfl (Nat.le_of_ble_eq_true rfl) (s_X11_lesser l h ((11 * p1) % 720) (720 - ((11 * p1) % 720)) s0 (by omega) (by omega)) (rm_ok (by decide) (by decide)) (zq_i fun v2 h3 q1 => ?_)
  obtain ⟨rfl, b4⟩ := q1
  have b5 : 0 ≤ v2 ∧ v2 ≤ 360 := by omega
  have b6 := zm_min_f ((11 * p1) % 720) (720 - ((11 * p1) % 720))
  exact zj_iret rfl (zdk ttX11_handsAt 14 rfl rfl) (Nat.le_refl _) (Nat.le_refl _) ⟨v2, rfl, rfl, by omega, by omega⟩

abbrev q2_X11_hands (h : zM) (p1 : Int) (p2 : Int) : Option zV → zM → Prop := zqi fun v h' => ((-2147483648) ≤ v ∧ v ≤ 2147483647) ∧ okM h' ∧ zfr [0] [] h h' ∧ (zhd p1 p2 v)
set_option maxRecDepth 100000 in
set_option maxHeartbeats 4000000 in
theorem s2_X11_hands (l : Launch) (h : zM) (p1 : Int) (p2 : Int) (s0 : okM h) (b_p1 : (-2147483648) ≤ p1 ∧ p1 ≤ 2147483647) (b_p2 : (-2147483648) ≤ p2 ∧ p2 ≤ 2147483647) : zT shM l yX11_hands cX11_hands 5 (some .int) (rmL 3) 0 0 [.inr 0, .inl p1, .inl p2] h (q2_X11_hands h p1 p2) := by
  refine zT_of (by decide +kernel) (L0 := [some (.inr 0), some (.inl p1), some (.inl p2), none, none]) rfl (Nat.le_of_ble_eq_true rfl) ?_
  refine zj_aload_n (zdk ttX11_hands 0 rfl rfl) rfl (by decide) ?_
  refine zj_iconst (zdk ttX11_hands 1 rfl rfl) ?_
  refine zj_puti (zdk ttX11_hands 2 rfl rfl) zf_RX11_120 rfl (k_M s0) (Or.inl zw_RX11_120) (k2 := 0) rfl (fun h1 e2 => ?_)
  refine zj_iload_n (zdk ttX11_hands 3 rfl rfl) rfl ?_
  refine zj_if_ne (t := 31) (zdk ttX11_hands 4 rfl rfl) (by decide) (by omega) (fun c3 => ?_) (fun c3 => ?_)
  · refine zj_iload_n (zdk ttX11_hands 17 rfl rfl) rfl ?_
    refine zj_iconst (zdk ttX11_hands 18 rfl rfl) ?_
    refine zj_icmp_ne (t := 48) (zdk ttX11_hands 19 rfl rfl) (by decide) (by omega) (by decide) (fun c4 => ?_) (fun c4 => ?_)
    · refine zj_iconst (zdk ttX11_hands 26 rfl rfl) ?_
      have s5 : okM h1 := fwM_0 s0 e2 (by omega)
      have f6 : zfr [0] [] h h1 := zfr_wf (zfr_r _ _ _) e2 rfl
      exact zj_iret rfl (zdk ttX11_hands 27 rfl rfl) (Nat.le_refl _) (Nat.le_refl _) ⟨(-1), rfl, by omega, s5, f6, by unfold zhd; omega⟩
    · refine zj_aload_n (zdk ttX11_hands 20 rfl rfl) rfl (by decide) ?_
      refine zj_iload_n (zdk ttX11_hands 21 rfl rfl) rfl ?_
      refine zj_iconst (zdk ttX11_hands 22 rfl rfl) ?_
      refine zj_sipush (zdk ttX11_hands 23 rfl rfl) (by decide) ?_
      have s7 : okM h1 := fwM_0 s0 e2 (by omega)
      refine zj_callV (av := [.inl p1, .inl 0, .inl 360]) (st := []) (zdk ttX11_hands 24 rfl rfl) mb_X11_isIn mv_RX11_139 (ci := 11) rfl rfl (k_M s7) rfl rfl (Nat.le_of_ble_eq_true rfl) (s_X11_isIn l h1 p1 0 360 s7 (by omega) (by omega) (by omega)) (rm_ok (by decide) (by decide)) (zq_i fun v9 h10 q8 => ?_)
      obtain ⟨rfl, ⟨rfl, b11⟩ | ⟨rfl, b11⟩⟩ := q8
      · refine zj_if_ne (t := 50) (zdk ttX11_hands 25 rfl rfl) (by decide) (by decide) (fun c12 => ?_) (fun c12 => ?_)
        · exact absurd c12 (by omega)
        · refine zj_iconst (zdk ttX11_hands 26 rfl rfl) ?_
          have f13 : zfr [0] [] h h1 := zfr_wf (zfr_r _ _ _) e2 rfl
          exact zj_iret rfl (zdk ttX11_hands 27 rfl rfl) (Nat.le_refl _) (Nat.le_refl _) ⟨(-1), rfl, by omega, s7, f13, by unfold zhd; omega⟩
      · refine zj_if_ne (t := 50) (zdk ttX11_hands 25 rfl rfl) (by decide) (by decide) (fun c14 => ?_) (fun c14 => ?_)
        · refine zj_iconst (zdk ttX11_hands 28 rfl rfl) ?_
          refine zj_istore_n (L' := [some (.inr 0), some (.inl p1), some (.inl p2), some (.inl 0), none]) (zdk ttX11_hands 29 rfl rfl) (by decide) rfl ?_
          refine zj_iconst (zdk ttX11_hands 30 rfl rfl) ?_
          refine zj_istore (L' := [some (.inr 0), some (.inl p1), some (.inl p2), some (.inl 0), some (.inl 0)]) (zdk ttX11_hands 31 rfl rfl) (by decide) rfl ?_
          have lp24 : ∀ (n55 : Nat) (x15 x16 : Int), (0 ≤ x15 ∧ x15 ≤ 720) → (0 ≤ x16 ∧ x16 ≤ 720) → (x15 = zhc p1 x16.toNat) → (x15 ≤ x16) → (721 - x16).toNat < n55 → zJ shM l yX11_hands cX11_hands 5 (some .int) (rmL 3) 0 0 (q2_X11_hands h p1 p2) 0 0 55 [some (.inr 0), some (.inl p1), some (.inl p2), some (.inl x15), some (.inl x16)] [] h1 := by
            intro n55
            induction n55 with
            | zero => intro x15 x16 b25 b26 u27 u28 m29; exact absurd m29 (Nat.not_lt_zero _)
            | succ n55 ih30 =>
              intro x15 x16 b25 b26 u27 u28 m29
              refine zj_iload (zdk ttX11_hands 32 rfl rfl) rfl ?_
              refine zj_sipush (zdk ttX11_hands 33 rfl rfl) (by decide) ?_
              refine zj_icmp_ge (t := 83) (zdk ttX11_hands 34 rfl rfl) (by decide) (by omega) (by decide) (fun c31 => ?_) (fun c31 => ?_)
              · refine zj_iload_n (zdk ttX11_hands 46 rfl rfl) rfl ?_
                have f32 : zfr [0] [] h h1 := zfr_wf (zfr_r _ _ _) e2 rfl
                have b33 : x16 = 720 := by omega
                subst b33
                have b33 : zhc p1 (720 : Int).toNat = zhc p1 720 := rfl
                exact zj_iret rfl (zdk ttX11_hands 47 rfl rfl) (Nat.le_refl _) (Nat.le_refl _) ⟨x15, rfl, by omega, s7, f32, by unfold zhd; omega⟩
              · refine zj_aload_n (zdk ttX11_hands 35 rfl rfl) rfl (by decide) ?_
                refine zj_iload (zdk ttX11_hands 36 rfl rfl) rfl ?_
                refine zj_callV (av := [.inl x16]) (st := []) (zdk ttX11_hands 37 rfl rfl) mb_X11_handsAt mv_RX11_398 (ci := 11) rfl rfl (k_M s7) rfl rfl (Nat.le_of_ble_eq_true rfl) (s2_X11_handsAt l h1 x16 s7 (by omega)) (rm_ok (by decide) (by decide)) (zq_i fun v35 h36 q34 => ?_)
                obtain ⟨rfl, b37, u38⟩ := q34
                refine zj_iload_n (zdk ttX11_hands 38 rfl rfl) rfl ?_
                refine zj_icmp_ne (t := 77) (zdk ttX11_hands 39 rfl rfl) (by decide) (by omega) (by omega) (fun c39 => ?_) (fun c39 => ?_)
                · refine zj_iinc (L' := [some (.inr 0), some (.inl p1), some (.inl p2), some (.inl x15), some (.inl (x16 + 1))]) (zdk ttX11_hands 44 rfl rfl) rfl (by decide) rfl ?_
                  refine zj_goto (t := 55) (zdk ttX11_hands 45 rfl rfl) (by decide) ?_
                  have b40 := zhc_s p1 (t := x16) (by omega)
                  exact ih30  x15 (x16 + 1) (by omega) (by omega) (by omega) (by omega) (by omega)
                · refine zj_iload_n (zdk ttX11_hands 40 rfl rfl) rfl ?_
                  refine zj_iconst (zdk ttX11_hands 41 rfl rfl) ?_
                  refine zj_iadd (zdk ttX11_hands 42 rfl rfl) ?_
                  refine zj_istore_n (L' := [some (.inr 0), some (.inl p1), some (.inl p2), some (.inl (x15 + 1)), some (.inl x16)]) (zdk ttX11_hands 43 rfl rfl) (by decide) rfl ?_
                  refine zj_iinc (L' := [some (.inr 0), some (.inl p1), some (.inl p2), some (.inl (x15 + 1)), some (.inl (x16 + 1))]) (zdk ttX11_hands 44 rfl rfl) rfl (by decide) rfl ?_
                  refine zj_goto (t := 55) (zdk ttX11_hands 45 rfl rfl) (by decide) ?_
                  have b41 := zhc_s p1 (t := x16) (by omega)
                  exact ih30  (x15 + 1) (x16 + 1) (by omega) (by omega) (by omega) (by omega) (by omega)
          exact lp24 _ 0 0 (by omega) (by omega) rfl (by omega) (Nat.lt_succ_self _)
        · exact absurd c14 (by omega)
  · refine zj_aload_n (zdk ttX11_hands 5 rfl rfl) rfl (by decide) ?_
    refine zj_iload_n (zdk ttX11_hands 6 rfl rfl) rfl ?_
    refine zj_iconst (zdk ttX11_hands 7 rfl rfl) ?_
    refine zj_sipush (zdk ttX11_hands 8 rfl rfl) (by decide) ?_
    have s42 : okM h1 := fwM_0 s0 e2 (by omega)
    refine zj_callV (av := [.inl p1, .inl 0, .inl 719]) (st := []) (zdk ttX11_hands 9 rfl rfl) mb_X11_isIn mv_RX11_139 (ci := 11) rfl rfl (k_M s42) rfl rfl (Nat.le_of_ble_eq_true rfl) (s_X11_isIn l h1 p1 0 719 s42 (by omega) (by omega) (by omega)) (rm_ok (by decide) (by decide)) (zq_i fun v44 h45 q43 => ?_)
    obtain ⟨rfl, ⟨rfl, b46⟩ | ⟨rfl, b46⟩⟩ := q43
    · refine zj_if_eq (t := 29) (zdk ttX11_hands 10 rfl rfl) (by decide) (by decide) (fun c47 => ?_) (fun c47 => ?_)
      · refine zj_iconst (zdk ttX11_hands 15 rfl rfl) ?_
        have f48 : zfr [0] [] h h1 := zfr_wf (zfr_r _ _ _) e2 rfl
        exact zj_iret rfl (zdk ttX11_hands 16 rfl rfl) (Nat.le_refl _) (Nat.le_refl _) ⟨(-1), rfl, by omega, s42, f48, by unfold zhd; omega⟩
      · exact absurd c47 (by omega)
    · refine zj_if_eq (t := 29) (zdk ttX11_hands 10 rfl rfl) (by decide) (by decide) (fun c49 => ?_) (fun c49 => ?_)
      · exact absurd c49 (by omega)
      · refine zj_aload_n (zdk ttX11_hands 11 rfl rfl) rfl (by decide) ?_
        refine zj_iload_n (zdk ttX11_hands 12 rfl rfl) rfl ?_
        refine zj_callV (av := [.inl p1]) (st := []) (zdk ttX11_hands 13 rfl rfl) mb_X11_handsAt mv_RX11_398 (ci := 11) rfl rfl (k_M s42) rfl rfl (Nat.le_of_ble_eq_true rfl) (s2_X11_handsAt l h1 p1 s42 (by omega)) (rm_ok (by decide) (by decide)) (zq_i fun v51 h52 q50 => ?_)
        obtain ⟨rfl, b53, u54⟩ := q50
        refine zj_goto (t := 30) (zdk ttX11_hands 14 rfl rfl) (by decide) ?_
        have f55 : zfr [0] [] h h1 := zfr_wf (zfr_r _ _ _) e2 rfl
        exact zj_iret rfl (zdk ttX11_hands 16 rfl rfl) (Nat.le_refl _) (Nat.le_refl _) ⟨v51, rfl, by omega, s42, f55, by unfold zhd; omega⟩
