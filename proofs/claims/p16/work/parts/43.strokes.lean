def zsk (t : Int) : Int := if t % 60 = 0 then (if (t / 60) % 12 = 0 then 12 else (t / 60) % 12) else 0
theorem zsk_f (t : Int) : (¬ t % 60 = 0 ∧ zsk t = 0) ∨ (t % 60 = 0 ∧ (t / 60) % 12 = 0 ∧ zsk t = 12) ∨ (t % 60 = 0 ∧ ¬ (t / 60) % 12 = 0 ∧ zsk t = (t / 60) % 12) := by
  unfold zsk
  by_cases h1 : t % 60 = 0
  · rw [if_pos h1]
    by_cases h2 : (t / 60) % 12 = 0
    · rw [if_pos h2]; omega
    · rw [if_neg h2]; omega
  · rw [if_neg h1]; omega
theorem zsk_p {t u : Int} (e : t % 720 = u % 720) : zsk t = zsk u := by
  have e1 : t % 60 = u % 60 := by omega
  have e2 : (t / 60) % 12 = (u / 60) % 12 := by omega
  unfold zsk; rw [e1, e2]
def zss (a : Int) : Nat → Int
  | 0 => 0
  | n + 1 => zss a n + zsk (a + n + 1)
theorem zss_s (a : Int) {k : Int} (hk : 0 ≤ k) : zss a (k + 1).toNat = zss a k.toNat + zsk (a + k + 1) := by
  have e : (k + 1).toNat = k.toNat + 1 := by omega
  have e2 : ((k.toNat : Nat) : Int) = k := by omega
  rw [e]
  show zss a k.toNat + zsk (a + (k.toNat : Int) + 1) = _
  rw [e2]
theorem zss_g (a t : Int) (ht : t % 60 = 0) (n m : Nat) (h : n ≤ m) (h1 : t - 60 ≤ a + n) (h2 : a + m < t) : zss a m = zss a n := by
  induction m with
  | zero => have e : n = 0 := by omega
            rw [e]
  | succ m ih =>
    by_cases q : n = m + 1
    · rw [q]
    · have e := ih (by omega) (by omega)
      show zss a m + zsk (a + m + 1) = _
      have f := zsk_f (a + m + 1)
      have f2 : ¬ (a + (m : Int) + 1) % 60 = 0 := by omega
      omega
theorem zss_t {a t : Int} (ht : t % 60 = 0) (h1 : a + 1 ≤ t) : zss a (t - a).toNat = zss a (t - 60 - a).toNat + zsk t := by
  have e : t - a = (t - a - 1) + 1 := by omega
  rw [e, zss_s a (show (0 : Int) ≤ t - a - 1 by omega)]
  have e2 : a + (t - a - 1) + 1 = t := by omega
  rw [e2, zss_g a t ht (t - 60 - a).toNat (t - a - 1).toNat (by omega) (by omega) (by omega)]
def zsd (a b v : Int) : Prop := (((0 ≤ a ∧ a ≤ 719) ∧ (0 ≤ b ∧ b ≤ 719)) → v = zss a ((b - a) % 720).toNat) ∧ (¬ ((0 ≤ a ∧ a ≤ 719) ∧ (0 ≤ b ∧ b ≤ 719)) → v = -1)
theorem zsd_u {a b v v' : Int} (p : zsd a b v) (q : zsd a b v') : v = v' := by
  by_cases g : ((0 ≤ a ∧ a ≤ 719) ∧ (0 ≤ b ∧ b ≤ 719))
  · rw [p.1 g, q.1 g]
  · rw [p.2 g, q.2 g]

abbrev q2_X8_strokesOver (h : zM) (p1 : Int) (p2 : Int) : Option zV → zM → Prop := zqi fun v h' => h = h' ∧ ((-2147483648) ≤ v ∧ v ≤ 2147483647) ∧ (v = zss p1 p2.toNat)
set_option maxRecDepth 100000 in
set_option maxHeartbeats 4000000 in
theorem s2_X8_strokesOver (l : Launch) (h : zM) (p1 : Int) (p2 : Int) (s0 : okC h) (b_p1 : 0 ≤ p1 ∧ p1 ≤ 719) (b_p2 : 0 ≤ p2 ∧ p2 ≤ 719) : zT shC l yX8_strokesOver cX8_strokesOver 5 (some .int) (rmL 1) 0 0 [.inl p1, .inl p2] h (q2_X8_strokesOver h p1 p2) := by
  refine zT_of (by decide +kernel) (L0 := [some (.inl p1), some (.inl p2), none, none, none]) rfl (Nat.le_of_ble_eq_true rfl) ?_
  refine zj_iconst (zdk ttX8_strokesOver 0 rfl rfl) ?_
  refine zj_istore_n (L' := [some (.inl p1), some (.inl p2), some (.inl 0), none, none]) (zdk ttX8_strokesOver 1 rfl rfl) (by decide) rfl ?_
  refine zj_iload_n (zdk ttX8_strokesOver 2 rfl rfl) rfl ?_
  refine zj_bipush (zdk ttX8_strokesOver 3 rfl rfl) (by decide) ?_
  refine zj_idivP (zdk ttX8_strokesOver 4 rfl rfl) (by omega) (by omega) ?_
  refine zj_bipush (zdk ttX8_strokesOver 5 rfl rfl) (by decide) ?_
  refine zj_imul (zdk ttX8_strokesOver 6 rfl rfl) ?_
  refine zj_bipush (zdk ttX8_strokesOver 7 rfl rfl) (by decide) ?_
  refine zj_iadd (zdk ttX8_strokesOver 8 rfl rfl) ?_
  refine zj_istore_n (L' := [some (.inl p1), some (.inl p2), some (.inl 0), some (.inl (((p1 / 60) * 60) + 60)), none]) (zdk ttX8_strokesOver 9 rfl rfl) (by decide) rfl ?_
  have lp5 : ∀ (n : Nat) (x1 x2 : Int), (0 ≤ x1 ∧ x1 ≤ 444) → (60 ≤ x2 ∧ x2 ≤ 1498) → (x1 = zss p1 (x2 - 60 - p1).toNat) → (x1 * 5 ≤ x2 - 60) → (x2 % 60 = 0 ∧ p1 + 1 ≤ x2 ∧ (x2 - 60 ≤ p1 ∨ x2 - 60 ≤ p1 + p2)) → (1499 - x2).toNat < n → zJ shC l yX8_strokesOver cX8_strokesOver 5 (some .int) (rmL 1) 0 0 (q2_X8_strokesOver h p1 p2) 0 0 13 [some (.inl p1), some (.inl p2), some (.inl x1), some (.inl x2), none] [] h := by
    intro n
    induction n with
    | zero => intro x1 x2 b6 b7 u8 u9 u10 m11; exact absurd m11 (Nat.not_lt_zero _)
    | succ n ih12 =>
      intro x1 x2 b6 b7 u8 u9 u10 m11
      refine zj_iload_n (zdk ttX8_strokesOver 10 rfl rfl) rfl ?_
      refine zj_iload_n (zdk ttX8_strokesOver 11 rfl rfl) rfl ?_
      refine zj_iload_n (zdk ttX8_strokesOver 12 rfl rfl) rfl ?_
      refine zj_iadd (zdk ttX8_strokesOver 13 rfl rfl) ?_
      refine zj_icmp_gt (t := 50) (zdk ttX8_strokesOver 14 rfl rfl) (by decide) (by omega) (by omega) (fun c13 => ?_) (fun c13 => ?_)
      · refine zj_iload_n (zdk ttX8_strokesOver 31 rfl rfl) rfl ?_
        have b14 := zss_g p1 x2 (by omega) (x2 - 60 - p1).toNat p2.toNat (by omega) (by omega) (by omega)
        exact zj_iret rfl (zdk ttX8_strokesOver 32 rfl rfl) (Nat.le_refl _) (Nat.le_refl _) ⟨x1, rfl, rfl, by omega, by omega⟩
      · refine zj_iload_n (zdk ttX8_strokesOver 15 rfl rfl) rfl ?_
        refine zj_bipush (zdk ttX8_strokesOver 16 rfl rfl) (by decide) ?_
        refine zj_idivP (zdk ttX8_strokesOver 17 rfl rfl) (by omega) (by omega) ?_
        refine zj_bipush (zdk ttX8_strokesOver 18 rfl rfl) (by decide) ?_
        refine zj_iremP (zdk ttX8_strokesOver 19 rfl rfl) (by omega) (by omega) ?_
        refine zj_istore (L' := [some (.inl p1), some (.inl p2), some (.inl x1), some (.inl x2), some (.inl ((x2 / 60) % 12))]) (zdk ttX8_strokesOver 20 rfl rfl) (by decide) rfl ?_
        refine zj_iload_n (zdk ttX8_strokesOver 21 rfl rfl) rfl ?_
        refine zj_iload (zdk ttX8_strokesOver 22 rfl rfl) rfl ?_
        refine zj_if_ne (t := 40) (zdk ttX8_strokesOver 23 rfl rfl) (by decide) (by omega) (fun c15 => ?_) (fun c15 => ?_)
        · refine zj_iload (zdk ttX8_strokesOver 26 rfl rfl) rfl ?_
          refine zj_iadd (zdk ttX8_strokesOver 27 rfl rfl) ?_
          refine zj_istore_n (L' := [some (.inl p1), some (.inl p2), some (.inl (x1 + ((x2 / 60) % 12))), some (.inl x2), some (.inl ((x2 / 60) % 12))]) (zdk ttX8_strokesOver 28 rfl rfl) (by decide) rfl ?_
          refine zj_iinc (L' := [some (.inl p1), some (.inl p2), some (.inl (x1 + ((x2 / 60) % 12))), some (.inl (x2 + 60)), some (.inl ((x2 / 60) % 12))]) (zdk ttX8_strokesOver 29 rfl rfl) rfl (by decide) rfl ?_
          refine zj_goto (t := 13) (zdk ttX8_strokesOver 30 rfl rfl) (by decide) ?_
          refine zj_kill (k := 4) (L' := [some (.inl p1), some (.inl p2), some (.inl (x1 + ((x2 / 60) % 12))), some (.inl (x2 + 60)), none]) rfl ?_
          have b16 := zss_t (a := p1) (t := x2) (by omega) (by omega)
          have b16f := zsk_f x2
          have b16e : (x2 + 60 - 60 - p1) = x2 - p1 := by omega
          exact ih12  (x1 + ((x2 / 60) % 12)) (x2 + 60) (by omega) (by omega) (by rw [b16e]; omega) (by omega) (by omega) (by omega)
        · refine zj_bipush (zdk ttX8_strokesOver 24 rfl rfl) (by decide) ?_
          refine zj_goto (t := 42) (zdk ttX8_strokesOver 25 rfl rfl) (by decide) ?_
          refine zj_iadd (zdk ttX8_strokesOver 27 rfl rfl) ?_
          refine zj_istore_n (L' := [some (.inl p1), some (.inl p2), some (.inl (x1 + 12)), some (.inl x2), some (.inl ((x2 / 60) % 12))]) (zdk ttX8_strokesOver 28 rfl rfl) (by decide) rfl ?_
          refine zj_iinc (L' := [some (.inl p1), some (.inl p2), some (.inl (x1 + 12)), some (.inl (x2 + 60)), some (.inl ((x2 / 60) % 12))]) (zdk ttX8_strokesOver 29 rfl rfl) rfl (by decide) rfl ?_
          refine zj_goto (t := 13) (zdk ttX8_strokesOver 30 rfl rfl) (by decide) ?_
          refine zj_kill (k := 4) (L' := [some (.inl p1), some (.inl p2), some (.inl (x1 + 12)), some (.inl (x2 + 60)), none]) rfl ?_
          have b17 := zss_t (a := p1) (t := x2) (by omega) (by omega)
          have b17f := zsk_f x2
          have b17e : (x2 + 60 - 60 - p1) = x2 - p1 := by omega
          exact ih12  (x1 + 12) (x2 + 60) (by omega) (by omega) (by rw [b17e]; omega) (by omega) (by omega) (by omega)
  have b18 : ((((p1 / 60) * 60) + 60) - 60 - p1).toNat = 0 := by omega
  exact lp5 _ 0 (((p1 / 60) * 60) + 60) (by omega) (by omega) (by rw [b18]; rfl) (by omega) (by omega) (Nat.lt_succ_self _)

abbrev q2_X10_strokes (h : zM) (p1 : Int) (p2 : Int) : Option zV → zM → Prop := zqi fun v h' => ((-2147483648) ≤ v ∧ v ≤ 2147483647) ∧ okC h' ∧ (zsd p1 p2 v)
set_option maxRecDepth 100000 in
set_option maxHeartbeats 4000000 in
theorem s2_X10_strokes (l : Launch) (h : zM) (p1 : Int) (p2 : Int) (s0 : okC h) (b_p1 : (-2147483648) ≤ p1 ∧ p1 ≤ 2147483647) (b_p2 : (-2147483648) ≤ p2 ∧ p2 ≤ 2147483647) : zT shC l yX10_strokes cX10_strokes 3 (some .int) (rmL 2) 0 0 [.inr 0, .inl p1, .inl p2] h (q2_X10_strokes h p1 p2) := by
  refine zT_of (by decide +kernel) (L0 := [some (.inr 0), some (.inl p1), some (.inl p2)]) rfl (Nat.le_of_ble_eq_true rfl) ?_
  refine zj_iload_n (zdk ttX10_strokes 0 rfl rfl) rfl ?_
  refine zj_iconst (zdk ttX10_strokes 1 rfl rfl) ?_
  refine zj_sipush (zdk ttX10_strokes 2 rfl rfl) (by decide) ?_
  refine zj_callS (av := [.inl p1, .inl 0, .inl 719]) (st := []) (zdk ttX10_strokes 3 rfl rfl) mb_X10_within ms_RX10_77 rfl rfl (Nat.le_of_ble_eq_true rfl) (s_X10_within l h p1 0 719 s0 (by omega) (by omega) (by omega)) (rm_ok (by decide) (by decide)) (zq_i fun v2 h3 q1 => ?_)
  obtain ⟨rfl, ⟨rfl, b4⟩ | ⟨rfl, b4⟩⟩ := q1
  · refine zj_if_eq (t := 22) (zdk ttX10_strokes 4 rfl rfl) (by decide) (by decide) (fun c5 => ?_) (fun c5 => ?_)
    · refine zj_iconst (zdk ttX10_strokes 10 rfl rfl) ?_
      exact zj_iret rfl (zdk ttX10_strokes 11 rfl rfl) (Nat.le_refl _) (Nat.le_refl _) ⟨(-1), rfl, by omega, s0, by unfold zsd; first | omega | (have e9 : (p2 - p1) % 720 = p2 - p1 := (by omega); rw [e9]; omega) | (have e9 : (p2 - p1) % 720 = p2 + 720 - p1 := (by omega); rw [e9]; omega)⟩
    · exact absurd c5 (by omega)
  · refine zj_if_eq (t := 22) (zdk ttX10_strokes 4 rfl rfl) (by decide) (by decide) (fun c6 => ?_) (fun c6 => ?_)
    · exact absurd c6 (by omega)
    · refine zj_iload_n (zdk ttX10_strokes 5 rfl rfl) rfl ?_
      refine zj_iconst (zdk ttX10_strokes 6 rfl rfl) ?_
      refine zj_sipush (zdk ttX10_strokes 7 rfl rfl) (by decide) ?_
      refine zj_callS (av := [.inl p2, .inl 0, .inl 719]) (st := []) (zdk ttX10_strokes 8 rfl rfl) mb_X10_within ms_RX10_77 rfl rfl (Nat.le_of_ble_eq_true rfl) (s_X10_within l h p2 0 719 s0 (by omega) (by omega) (by omega)) (rm_ok (by decide) (by decide)) (zq_i fun v8 h9 q7 => ?_)
      obtain ⟨rfl, ⟨rfl, b10⟩ | ⟨rfl, b10⟩⟩ := q7
      · refine zj_if_ne (t := 24) (zdk ttX10_strokes 9 rfl rfl) (by decide) (by decide) (fun c11 => ?_) (fun c11 => ?_)
        · exact absurd c11 (by omega)
        · refine zj_iconst (zdk ttX10_strokes 10 rfl rfl) ?_
          exact zj_iret rfl (zdk ttX10_strokes 11 rfl rfl) (Nat.le_refl _) (Nat.le_refl _) ⟨(-1), rfl, by omega, s0, by unfold zsd; first | omega | (have e9 : (p2 - p1) % 720 = p2 - p1 := (by omega); rw [e9]; omega) | (have e9 : (p2 - p1) % 720 = p2 + 720 - p1 := (by omega); rw [e9]; omega)⟩
      · refine zj_if_ne (t := 24) (zdk ttX10_strokes 9 rfl rfl) (by decide) (by decide) (fun c12 => ?_) (fun c12 => ?_)
        · refine zj_iload_n (zdk ttX10_strokes 12 rfl rfl) rfl ?_
          refine zj_iload_n (zdk ttX10_strokes 13 rfl rfl) rfl ?_
          refine zj_iload_n (zdk ttX10_strokes 14 rfl rfl) rfl ?_
          refine zj_icmp_gt (t := 36) (zdk ttX10_strokes 15 rfl rfl) (by decide) (by omega) (by omega) (fun c13 => ?_) (fun c13 => ?_)
          · refine zj_iload_n (zdk ttX10_strokes 20 rfl rfl) rfl ?_
            refine zj_sipush (zdk ttX10_strokes 21 rfl rfl) (by decide) ?_
            refine zj_iadd (zdk ttX10_strokes 22 rfl rfl) ?_
            refine zj_iload_n (zdk ttX10_strokes 23 rfl rfl) rfl ?_
            refine zj_isub (zdk ttX10_strokes 24 rfl rfl) ?_
            refine zj_callS (av := [.inl p1, .inl ((p2 + 720) - p1)]) (st := []) (zdk ttX10_strokes 25 rfl rfl) mb_X8_strokesOver ms_RX10_254 rfl rfl (Nat.le_of_ble_eq_true rfl) (s2_X8_strokesOver l h p1 ((p2 + 720) - p1) s0 (by omega) (by omega)) (rm_ok (by decide) (by decide)) (zq_i fun v15 h16 q14 => ?_)
            obtain ⟨rfl, b17, u18⟩ := q14
            exact zj_iret rfl (zdk ttX10_strokes 26 rfl rfl) (Nat.le_refl _) (Nat.le_refl _) ⟨v15, rfl, by omega, s0, by unfold zsd; first | omega | (have e9 : (p2 - p1) % 720 = p2 - p1 := (by omega); rw [e9]; omega) | (have e9 : (p2 - p1) % 720 = p2 + 720 - p1 := (by omega); rw [e9]; omega)⟩
          · refine zj_iload_n (zdk ttX10_strokes 16 rfl rfl) rfl ?_
            refine zj_iload_n (zdk ttX10_strokes 17 rfl rfl) rfl ?_
            refine zj_isub (zdk ttX10_strokes 18 rfl rfl) ?_
            refine zj_goto (t := 43) (zdk ttX10_strokes 19 rfl rfl) (by decide) ?_
            refine zj_callS (av := [.inl p1, .inl (p2 - p1)]) (st := []) (zdk ttX10_strokes 25 rfl rfl) mb_X8_strokesOver ms_RX10_254 rfl rfl (Nat.le_of_ble_eq_true rfl) (s2_X8_strokesOver l h p1 (p2 - p1) s0 (by omega) (by omega)) (rm_ok (by decide) (by decide)) (zq_i fun v20 h21 q19 => ?_)
            obtain ⟨rfl, b22, u23⟩ := q19
            exact zj_iret rfl (zdk ttX10_strokes 26 rfl rfl) (Nat.le_refl _) (Nat.le_refl _) ⟨v20, rfl, by omega, s0, by unfold zsd; first | omega | (have e9 : (p2 - p1) % 720 = p2 - p1 := (by omega); rw [e9]; omega) | (have e9 : (p2 - p1) % 720 = p2 + 720 - p1 := (by omega); rw [e9]; omega)⟩
        · exact absurd c12 (by omega)

abbrev q2_X11_strokesAt (h : zM) (p1 : Int) : Option zV → zM → Prop := zqi fun v h' => h = h' ∧ (0 ≤ v ∧ v ≤ 12) ∧ (v = zsk p1)
set_option maxRecDepth 100000 in
set_option maxHeartbeats 4000000 in
theorem s2_X11_strokesAt (l : Launch) (h : zM) (p1 : Int) (s0 : okM h) (b_p1 : 0 ≤ p1 ∧ p1 ≤ 719) : zT shM l yX11_strokesAt cX11_strokesAt 2 (some .int) (rmL 1) 0 0 [.inr 0, .inl p1] h (q2_X11_strokesAt h p1) := by
  refine zT_of (by decide +kernel) (L0 := [some (.inr 0), some (.inl p1)]) rfl (Nat.le_of_ble_eq_true rfl) ?_
  refine zj_iload_n (zdk ttX11_strokesAt 0 rfl rfl) rfl ?_
  refine zj_bipush (zdk ttX11_strokesAt 1 rfl rfl) (by decide) ?_
  refine zj_iremP (zdk ttX11_strokesAt 2 rfl rfl) (by omega) (by omega) ?_
  refine zj_if_eq (t := 11) (zdk ttX11_strokesAt 3 rfl rfl) (by decide) (by omega) (fun c1 => ?_) (fun c1 => ?_)
  · refine zj_iload_n (zdk ttX11_strokesAt 6 rfl rfl) rfl ?_
    refine zj_if_ne (t := 20) (zdk ttX11_strokesAt 7 rfl rfl) (by decide) (by omega) (fun c2 => ?_) (fun c2 => ?_)
    · refine zj_iload_n (zdk ttX11_strokesAt 10 rfl rfl) rfl ?_
      refine zj_bipush (zdk ttX11_strokesAt 11 rfl rfl) (by decide) ?_
      refine zj_idivP (zdk ttX11_strokesAt 12 rfl rfl) (by omega) (by omega) ?_
      have b3 := zsk_f p1
      exact zj_iret rfl (zdk ttX11_strokesAt 13 rfl rfl) (Nat.le_refl _) (Nat.le_refl _) ⟨(p1 / 60), rfl, rfl, by omega, by omega⟩
    · refine zj_bipush (zdk ttX11_strokesAt 8 rfl rfl) (by decide) ?_
      refine zj_goto (t := 24) (zdk ttX11_strokesAt 9 rfl rfl) (by decide) ?_
      have b4 := zsk_f p1
      exact zj_iret rfl (zdk ttX11_strokesAt 13 rfl rfl) (Nat.le_refl _) (Nat.le_refl _) ⟨12, rfl, rfl, by omega, by omega⟩
  · refine zj_iconst (zdk ttX11_strokesAt 4 rfl rfl) ?_
    refine zj_goto (t := 24) (zdk ttX11_strokesAt 5 rfl rfl) (by decide) ?_
    have b5 := zsk_f p1
    exact zj_iret rfl (zdk ttX11_strokesAt 13 rfl rfl) (Nat.le_refl _) (Nat.le_refl _) ⟨0, rfl, rfl, by omega, by omega⟩

abbrev q2_X11_strokes (h : zM) (p1 : Int) (p2 : Int) : Option zV → zM → Prop := zqi fun v h' => ((-2147483648) ≤ v ∧ v ≤ 2147483647) ∧ okM h' ∧ zfr [0] [] h h' ∧ (zsd p1 p2 v)
set_option maxRecDepth 100000 in
set_option maxHeartbeats 4000000 in
theorem s2_X11_strokes (l : Launch) (h : zM) (p1 : Int) (p2 : Int) (s0 : okM h) (b_p1 : (-2147483648) ≤ p1 ∧ p1 ≤ 2147483647) (b_p2 : (-2147483648) ≤ p2 ∧ p2 ≤ 2147483647) : zT shM l yX11_strokes cX11_strokes 5 (some .int) (rmL 2) 0 0 [.inr 0, .inl p1, .inl p2] h (q2_X11_strokes h p1 p2) := by
  refine zT_of (by decide +kernel) (L0 := [some (.inr 0), some (.inl p1), some (.inl p2), none, none]) rfl (Nat.le_of_ble_eq_true rfl) ?_
  refine zj_aload_n (zdk ttX11_strokes 0 rfl rfl) rfl (by decide) ?_
  refine zj_iconst (zdk ttX11_strokes 1 rfl rfl) ?_
  refine zj_puti (zdk ttX11_strokes 2 rfl rfl) zf_RX11_120 rfl (k_M s0) (Or.inl zw_RX11_120) (k2 := 0) rfl (fun h1 e2 => ?_)
  refine zj_aload_n (zdk ttX11_strokes 3 rfl rfl) rfl (by decide) ?_
  refine zj_iload_n (zdk ttX11_strokes 4 rfl rfl) rfl ?_
  refine zj_iconst (zdk ttX11_strokes 5 rfl rfl) ?_
  refine zj_sipush (zdk ttX11_strokes 6 rfl rfl) (by decide) ?_
  have s3 : okM h1 := fwM_0 s0 e2 (by omega)
  refine zj_callV (av := [.inl p1, .inl 0, .inl 719]) (st := []) (zdk ttX11_strokes 7 rfl rfl) mb_X11_isIn mv_RX11_139 (ci := 11) rfl rfl (k_M s3) rfl rfl (Nat.le_of_ble_eq_true rfl) (s_X11_isIn l h1 p1 0 719 s3 (by omega) (by omega) (by omega)) (rm_ok (by decide) (by decide)) (zq_i fun v5 h6 q4 => ?_)
  obtain ⟨rfl, ⟨rfl, b7⟩ | ⟨rfl, b7⟩⟩ := q4
  · refine zj_if_eq (t := 29) (zdk ttX11_strokes 8 rfl rfl) (by decide) (by decide) (fun c8 => ?_) (fun c8 => ?_)
    · refine zj_iconst (zdk ttX11_strokes 15 rfl rfl) ?_
      have f9 : zfr [0] [] h h1 := zfr_wf (zfr_r _ _ _) e2 rfl
      exact zj_iret rfl (zdk ttX11_strokes 16 rfl rfl) (Nat.le_refl _) (Nat.le_refl _) ⟨(-1), rfl, by omega, s3, f9, by unfold zsd; omega⟩
    · exact absurd c8 (by omega)
  · refine zj_if_eq (t := 29) (zdk ttX11_strokes 8 rfl rfl) (by decide) (by decide) (fun c10 => ?_) (fun c10 => ?_)
    · exact absurd c10 (by omega)
    · refine zj_aload_n (zdk ttX11_strokes 9 rfl rfl) rfl (by decide) ?_
      refine zj_iload_n (zdk ttX11_strokes 10 rfl rfl) rfl ?_
      refine zj_iconst (zdk ttX11_strokes 11 rfl rfl) ?_
      refine zj_sipush (zdk ttX11_strokes 12 rfl rfl) (by decide) ?_
      refine zj_callV (av := [.inl p2, .inl 0, .inl 719]) (st := []) (zdk ttX11_strokes 13 rfl rfl) mb_X11_isIn mv_RX11_139 (ci := 11) rfl rfl (k_M s3) rfl rfl (Nat.le_of_ble_eq_true rfl) (s_X11_isIn l h1 p2 0 719 s3 (by omega) (by omega) (by omega)) (rm_ok (by decide) (by decide)) (zq_i fun v12 h13 q11 => ?_)
      obtain ⟨rfl, ⟨rfl, b14⟩ | ⟨rfl, b14⟩⟩ := q11
      · refine zj_if_ne (t := 31) (zdk ttX11_strokes 14 rfl rfl) (by decide) (by decide) (fun c15 => ?_) (fun c15 => ?_)
        · exact absurd c15 (by omega)
        · refine zj_iconst (zdk ttX11_strokes 15 rfl rfl) ?_
          have f16 : zfr [0] [] h h1 := zfr_wf (zfr_r _ _ _) e2 rfl
          exact zj_iret rfl (zdk ttX11_strokes 16 rfl rfl) (Nat.le_refl _) (Nat.le_refl _) ⟨(-1), rfl, by omega, s3, f16, by unfold zsd; omega⟩
      · refine zj_if_ne (t := 31) (zdk ttX11_strokes 14 rfl rfl) (by decide) (by decide) (fun c17 => ?_) (fun c17 => ?_)
        · refine zj_iconst (zdk ttX11_strokes 17 rfl rfl) ?_
          refine zj_istore_n (L' := [some (.inr 0), some (.inl p1), some (.inl p2), some (.inl 0), none]) (zdk ttX11_strokes 18 rfl rfl) (by decide) rfl ?_
          refine zj_iload_n (zdk ttX11_strokes 19 rfl rfl) rfl ?_
          refine zj_istore (L' := [some (.inr 0), some (.inl p1), some (.inl p2), some (.inl 0), some (.inl p1)]) (zdk ttX11_strokes 20 rfl rfl) (by decide) rfl ?_
          have lp26 : ∀ (n36 : Nat) (x18 x19 : Int), (0 ≤ x18 ∧ x18 ≤ 8640) → (0 ≤ x19 ∧ x19 ≤ 719) → (x18 = zss p1 ((x19 - p1) % 720).toNat) → (x18 ≤ 12 * ((x19 - p1) % 720)) → ((x19 - p1) % 720 ≤ (p2 - p1) % 720) → ((p2 - x19) % 720).toNat < n36 → zJ shM l yX11_strokes cX11_strokes 5 (some .int) (rmL 2) 0 0 (q2_X11_strokes h p1 p2) 0 0 36 [some (.inr 0), some (.inl p1), some (.inl p2), some (.inl x18), some (.inl x19)] [] h1 := by
            intro n36
            induction n36 with
            | zero => intro x18 x19 b27 b28 u29 u30 u31 m32; exact absurd m32 (Nat.not_lt_zero _)
            | succ n36 ih33 =>
              intro x18 x19 b27 b28 u29 u30 u31 m32
              refine zj_iload (zdk ttX11_strokes 21 rfl rfl) rfl ?_
              refine zj_iload_n (zdk ttX11_strokes 22 rfl rfl) rfl ?_
              refine zj_icmp_eq (t := 70) (zdk ttX11_strokes 23 rfl rfl) (by decide) (by omega) (by omega) (fun c34 => ?_) (fun c34 => ?_)
              · refine zj_iload_n (zdk ttX11_strokes 41 rfl rfl) rfl ?_
                have f35 : zfr [0] [] h h1 := zfr_wf (zfr_r _ _ _) e2 rfl
                exact zj_iret rfl (zdk ttX11_strokes 42 rfl rfl) (Nat.le_refl _) (Nat.le_refl _) ⟨x18, rfl, by omega, s3, f35, by unfold zsd; have e9 : x19 = p2 := (by omega); rw [← e9]; omega⟩
              · refine zj_iload_n (zdk ttX11_strokes 24 rfl rfl) rfl ?_
                refine zj_aload_n (zdk ttX11_strokes 25 rfl rfl) rfl (by decide) ?_
                refine zj_iload (zdk ttX11_strokes 26 rfl rfl) rfl ?_
                refine zj_iconst (zdk ttX11_strokes 27 rfl rfl) ?_
                refine zj_iadd (zdk ttX11_strokes 28 rfl rfl) ?_
                refine zj_sipush (zdk ttX11_strokes 29 rfl rfl) (by decide) ?_
                refine zj_iremP (zdk ttX11_strokes 30 rfl rfl) (by omega) (by omega) ?_
                refine zj_callV (av := [.inl ((x19 + 1) % 720)]) (st := [.inl x18]) (zdk ttX11_strokes 31 rfl rfl) mb_X11_strokesAt mv_RX11_374 (ci := 11) rfl rfl (k_M s3) rfl rfl (Nat.le_of_ble_eq_true rfl) (s2_X11_strokesAt l h1 ((x19 + 1) % 720) s3 (by omega)) (rm_ok (by decide) (by decide)) (zq_i fun v37 h38 q36 => ?_)
                obtain ⟨rfl, b39, u40⟩ := q36
                refine zj_iadd (zdk ttX11_strokes 32 rfl rfl) ?_
                refine zj_istore_n (L' := [some (.inr 0), some (.inl p1), some (.inl p2), some (.inl (x18 + v37)), some (.inl x19)]) (zdk ttX11_strokes 33 rfl rfl) (by decide) rfl ?_
                refine zj_iload (zdk ttX11_strokes 34 rfl rfl) rfl ?_
                refine zj_iconst (zdk ttX11_strokes 35 rfl rfl) ?_
                refine zj_iadd (zdk ttX11_strokes 36 rfl rfl) ?_
                refine zj_sipush (zdk ttX11_strokes 37 rfl rfl) (by decide) ?_
                refine zj_iremP (zdk ttX11_strokes 38 rfl rfl) (by omega) (by omega) ?_
                refine zj_istore (L' := [some (.inr 0), some (.inl p1), some (.inl p2), some (.inl (x18 + v37)), some (.inl ((x19 + 1) % 720))]) (zdk ttX11_strokes 39 rfl rfl) (by decide) rfl ?_
                refine zj_goto (t := 36) (zdk ttX11_strokes 40 rfl rfl) (by decide) ?_
                have b41 := zss_s p1 (k := ((x19 - p1) % 720)) (by omega)
                have b41p := zsk_p (t := p1 + ((x19 - p1) % 720) + 1) (u := ((x19 + 1) % 720)) (by omega)
                have b41e : ((((x19 + 1) % 720) - p1) % 720) = ((x19 - p1) % 720) + 1 := by omega
                exact ih33  (x18 + v37) ((x19 + 1) % 720) (by omega) (by omega) (by rw [b41e]; omega) (by omega) (by omega) (by omega)
          have b42 : ((p1 - p1) % 720).toNat = 0 := by omega
          exact lp26 _ 0 p1 (by omega) (by omega) (by rw [b42]; rfl) (by omega) (by omega) (Nat.lt_succ_self _)
        · exact absurd c17 (by omega)
