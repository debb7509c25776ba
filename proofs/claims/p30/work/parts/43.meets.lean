def zmh (s p t q j : Int) : Prop := t ≤ s + j * p ∧ (s + j * p - t) % q = 0
def zmi (s p t q k m : Int) : Prop := 0 ≤ k ∧ m = s + k * p ∧ ∀ j, 0 ≤ j → j < k → ¬ zmh s p t q j
def zmt (s p t q v : Int) : Prop := (∃ k, zmi s p t q k v ∧ zmh s p t q k) ∨ (v = -1 ∧ ∀ j, 0 ≤ j → ¬ zmh s p t q j)
section ZMT
variable {s p t q k m : Int}
theorem zmi_0 : zmi s p t q 0 s := ⟨by omega, by rw [Int.zero_mul]; omega, fun j a b => absurd b (by omega)⟩
theorem zmi_e {k' m' : Int} (h : zmi s p t q k m) (e : k' = k) (e2 : m' = m) : zmi s p t q k' m' := by rw [e, e2]; exact h
theorem zmi_s (h : zmi s p t q k m) (n : ¬ (t ≤ m ∧ (m - t) % q = 0)) : zmi s p t q (k + 1) (m + p) := by
  obtain ⟨h1, h2, h3⟩ := h
  refine ⟨by omega, by rw [h2, Int.add_mul, Int.one_mul]; omega, fun j a b => ?_⟩
  by_cases e : j = k
  · subst e; unfold zmh; rw [← h2]; exact n
  · exact h3 j a (by omega)
theorem zmi_h (h : zmi s p t q k m) (a : t ≤ m) (b : (m - t) % q = 0) : zmt s p t q m := Or.inl ⟨k, h, by unfold zmh; rw [← h.2.1]; exact ⟨a, b⟩⟩
theorem zmi_n {w : Int} (h : zmi s p t q k m) (hw : 0 ≤ w) (hp : 1 ≤ p) (hq : 1 ≤ q) (h1 : t ≤ s + w * p) (h2 : w + q ≤ k) : zmt s p t q (-1) := by
  right; refine ⟨rfl, ?_⟩
  have key : ∀ n : Nat, ∀ j : Int, 0 ≤ j → j.toNat < n → ¬ zmh s p t q j := by
    intro n
    induction n with
    | zero => intro j _ h; omega
    | succ n ih =>
      intro j j0 jn hj
      by_cases c : j < k
      · exact h.2.2 j j0 c hj
      · refine ih (j - q) (by omega) (by omega) ⟨?_, ?_⟩
        · have z := Int.mul_le_mul_of_nonneg_right (show w ≤ j - q by omega) (show 0 ≤ p by omega)
          omega
        · have e : s + j * p - t = (s + (j - q) * p - t) + q * p := by rw [Int.sub_mul]; omega
          have hj2 := hj.2
          rw [e, Int.add_mul_emod_self_left] at hj2
          exact hj2
  exact fun j j0 => key (j.toNat + 1) j j0 (by omega)
theorem zmt_u {v v' : Int} (a : zmt s p t q v) (b : zmt s p t q v') : v = v' := by
  rcases a with ⟨k, ⟨k0, ke, kn⟩, kh⟩ | ⟨ve, vn⟩ <;> rcases b with ⟨k', ⟨k0', ke', kn'⟩, kh'⟩ | ⟨ve', vn'⟩
  · have e : k = k' := by
      rcases Int.lt_trichotomy k k' with c | c | c
      · exact absurd kh (kn' k k0 c)
      · exact c
      · exact absurd kh' (kn k' k0' c)
    subst e; omega
  · exact absurd kh (vn' k k0)
  · exact absurd kh' (vn k' k0')
  · omega
theorem zmi_w (hp : 1 ≤ p) (hst : s < t) : zmi s p t q ((t - s + p - 1).tdiv p) (s + ((t - s + p - 1).tdiv p) * p) ∧ t ≤ s + ((t - s + p - 1).tdiv p) * p ∧ 0 ≤ (t - s + p - 1).tdiv p := by
  rw [Int.tdiv_eq_ediv_of_nonneg (show 0 ≤ t - s + p - 1 by omega)]
  have h1 := Int.mul_ediv_add_emod (t - s + p - 1) p
  have h2 := Int.emod_nonneg (t - s + p - 1) (show p ≠ 0 by omega)
  have h3 := Int.emod_lt_of_pos (t - s + p - 1) (show 0 < p by omega)
  have h4 : 0 ≤ (t - s + p - 1) / p := Int.ediv_nonneg (by omega) (by omega)
  rw [Int.mul_comm] at h1
  generalize (t - s + p - 1) / p = w at h1 h4 ⊢
  refine ⟨⟨h4, rfl, fun j j0 jw hj => ?_⟩, by omega, h4⟩
  have z := Int.mul_le_mul_of_nonneg_right (show j + 1 ≤ w by omega) (show 0 ≤ p by omega)
  rw [Int.add_mul, Int.one_mul] at z
  have z2 := hj.1
  omega
end ZMT
def zmg (s p t q : Int) : Prop := (0 ≤ s ∧ s ≤ 499) ∧ (1 ≤ p ∧ p ≤ 500) ∧ (0 ≤ t ∧ t ≤ 499) ∧ (1 ≤ q ∧ q ≤ 500)
def zmd (s p t q v : Int) : Prop := (zmg s p t q → zmt s p t q v) ∧ (¬ zmg s p t q → v = -1)
theorem zmd_y {s p t q v : Int} (g : zmg s p t q) (h : zmt s p t q v) : zmd s p t q v := ⟨fun _ => h, fun z => absurd g z⟩
theorem zmd_n {s p t q v : Int} (g : ¬ zmg s p t q) (h : v = -1) : zmd s p t q v := ⟨fun z => absurd z g, fun _ => h⟩
theorem zmd_u {s p t q v v' : Int} (a : zmd s p t q v) (b : zmd s p t q v') : v = v' := by
  by_cases g : zmg s p t q
  · exact zmt_u (a.1 g) (b.1 g)
  · rw [a.2 g, b.2 g]

abbrev q2_X8_firstMeeting (h : zM) (p1 : Int) (p2 : Int) (p3 : Int) (p4 : Int) : Option zV → zM → Prop := zqi fun v h' => h = h' ∧ ((-2147483648) ≤ v ∧ v ≤ 2147483647) ∧ (zmt p1 p2 p3 p4 v)
set_option maxRecDepth 100000 in
set_option maxHeartbeats 4000000 in
theorem s2_X8_firstMeeting (l : Launch) (h : zM) (p1 : Int) (p2 : Int) (p3 : Int) (p4 : Int) (s0 : okC h) (b_p1 : 0 ≤ p1 ∧ p1 ≤ 499) (b_p2 : 1 ≤ p2 ∧ p2 ≤ 500) (b_p3 : 0 ≤ p3 ∧ p3 ≤ 499) (b_p4 : 1 ≤ p4 ∧ p4 ≤ 500) : zT shC l yX8_firstMeeting cX8_firstMeeting 7 (some .int) (rmL 1) 0 0 [.inl p1, .inl p2, .inl p3, .inl p4] h (q2_X8_firstMeeting h p1 p2 p3 p4) := by
  refine zT_of (by decide +kernel) (L0 := [some (.inl p1), some (.inl p2), some (.inl p3), some (.inl p4), none, none, none]) rfl (Nat.le_of_ble_eq_true rfl) ?_
  refine zj_iload_n (zdk ttX8_firstMeeting 0 rfl rfl) rfl ?_
  refine zj_iload_n (zdk ttX8_firstMeeting 1 rfl rfl) rfl ?_
  refine zj_icmp_le (t := 17) (zdk ttX8_firstMeeting 2 rfl rfl) (by decide) (by omega) (by omega) (fun c1 => ?_) (fun c1 => ?_)
  · refine zj_iconst (zdk ttX8_firstMeeting 13 rfl rfl) ?_
    refine zj_istore (L' := [some (.inl p1), some (.inl p2), some (.inl p3), some (.inl p4), some (.inl 0), none, none]) (zdk ttX8_firstMeeting 14 rfl rfl) (by decide) rfl ?_
    refine zj_iload_n (zdk ttX8_firstMeeting 15 rfl rfl) rfl ?_
    refine zj_iload (zdk ttX8_firstMeeting 16 rfl rfl) rfl ?_
    refine zj_iload_n (zdk ttX8_firstMeeting 17 rfl rfl) rfl ?_
    refine zj_imul (zdk ttX8_firstMeeting 18 rfl rfl) ?_
    refine zj_iadd (zdk ttX8_firstMeeting 19 rfl rfl) ?_
    refine zj_istore (L' := [some (.inl p1), some (.inl p2), some (.inl p3), some (.inl p4), some (.inl 0), some (.inl (p1 + (0 * p2))), none]) (zdk ttX8_firstMeeting 20 rfl rfl) (by decide) rfl ?_
    refine zj_iconst (zdk ttX8_firstMeeting 21 rfl rfl) ?_
    refine zj_istore (L' := [some (.inl p1), some (.inl p2), some (.inl p3), some (.inl p4), some (.inl 0), some (.inl (p1 + (0 * p2))), some (.inl 0)]) (zdk ttX8_firstMeeting 22 rfl rfl) (by decide) rfl ?_
    have lp7 : ∀ (n : Nat) (x2 x3 : Int), (0 ≤ x2 ∧ x2 ≤ 749999) → (0 ≤ x3 ∧ x3 ≤ 500) → (zmi p1 p2 p3 p4 (0 + x3) x2) → (x2 ≤ 499499 + 500 * x3 ∧ p3 ≤ x2) → (p3 ≤ p1 + 0 * p2 ∧ 0 ≤ 0) → (501 - x3).toNat < n → zJ shC l yX8_firstMeeting cX8_firstMeeting 7 (some .int) (rmL 1) 0 0 (q2_X8_firstMeeting h p1 p2 p3 p4) 0 0 31 [some (.inl p1), some (.inl p2), some (.inl p3), some (.inl p4), some (.inl 0), some (.inl x2), some (.inl x3)] [] h := by
      intro n
      induction n with
      | zero => intro x2 x3 b8 b9 u10 u11 u12 m13; exact absurd m13 (Nat.not_lt_zero _)
      | succ n ih14 =>
        intro x2 x3 b8 b9 u10 u11 u12 m13
        refine zj_iload (zdk ttX8_firstMeeting 23 rfl rfl) rfl ?_
        refine zj_iload_n (zdk ttX8_firstMeeting 24 rfl rfl) rfl ?_
        refine zj_icmp_ge (t := 61) (zdk ttX8_firstMeeting 25 rfl rfl) (by decide) (by omega) (by omega) (fun c15 => ?_) (fun c15 => ?_)
        · refine zj_iconst (zdk ttX8_firstMeeting 40 rfl rfl) ?_
          have b16 := Int.tmod_eq_emod_of_nonneg (a := x2 - p3) (b := p4) (by omega)
          exact zj_iret rfl (zdk ttX8_firstMeeting 41 rfl rfl) (Nat.le_refl _) (Nat.le_refl _) ⟨(-1), rfl, rfl, by omega, by first | exact zmi_h u10 (by omega) (by omega) | exact zmi_n (w := 0) u10 (by omega) (by omega) (by omega) (by omega) (by omega)⟩
        · refine zj_iload (zdk ttX8_firstMeeting 26 rfl rfl) rfl ?_
          refine zj_iload_n (zdk ttX8_firstMeeting 27 rfl rfl) rfl ?_
          refine zj_isub (zdk ttX8_firstMeeting 28 rfl rfl) ?_
          refine zj_iload_n (zdk ttX8_firstMeeting 29 rfl rfl) rfl ?_
          refine zj_irem (zdk ttX8_firstMeeting 30 rfl rfl) (by omega) (by omega) (by omega) ?_
          have b17 := ztm_b (x2 - p3) p4 (by omega)
          refine zj_if_ne (t := 49) (zdk ttX8_firstMeeting 31 rfl rfl) (by decide) (by omega) (fun c18 => ?_) (fun c18 => ?_)
          · refine zj_iload (zdk ttX8_firstMeeting 34 rfl rfl) rfl ?_
            refine zj_iload_n (zdk ttX8_firstMeeting 35 rfl rfl) rfl ?_
            refine zj_iadd (zdk ttX8_firstMeeting 36 rfl rfl) ?_
            refine zj_istore (L' := [some (.inl p1), some (.inl p2), some (.inl p3), some (.inl p4), some (.inl 0), some (.inl (x2 + p2)), some (.inl x3)]) (zdk ttX8_firstMeeting 37 rfl rfl) (by decide) rfl ?_
            refine zj_iinc (L' := [some (.inl p1), some (.inl p2), some (.inl p3), some (.inl p4), some (.inl 0), some (.inl (x2 + p2)), some (.inl (x3 + 1))]) (zdk ttX8_firstMeeting 38 rfl rfl) rfl (by decide) rfl ?_
            refine zj_goto (t := 31) (zdk ttX8_firstMeeting 39 rfl rfl) (by decide) ?_
            exact ih14  (x2 + p2) (x3 + 1) (by omega) (by omega) (zmi_e (zmi_s u10 (by intro q9; have b9 := Int.tmod_eq_emod_of_nonneg (a := x2 - p3) (b := p4) (by omega); omega)) (by omega) (by omega)) (by omega) (by omega) (by omega)
          · refine zj_iload (zdk ttX8_firstMeeting 32 rfl rfl) rfl ?_
            have b19 := Int.tmod_eq_emod_of_nonneg (a := x2 - p3) (b := p4) (by omega)
            exact zj_iret rfl (zdk ttX8_firstMeeting 33 rfl rfl) (Nat.le_refl _) (Nat.le_refl _) ⟨x2, rfl, rfl, by omega, by first | exact zmi_h u10 (by omega) (by omega) | exact zmi_n (w := 0) u10 (by omega) (by omega) (by omega) (by omega) (by omega)⟩
    exact lp7 _ (p1 + (0 * p2)) 0 (by omega) (by omega) (zmi_e zmi_0 (by omega) (by omega)) (by omega) (by omega) (Nat.lt_succ_self _)
  · refine zj_iload_n (zdk ttX8_firstMeeting 3 rfl rfl) rfl ?_
    refine zj_iload_n (zdk ttX8_firstMeeting 4 rfl rfl) rfl ?_
    refine zj_isub (zdk ttX8_firstMeeting 5 rfl rfl) ?_
    refine zj_iload_n (zdk ttX8_firstMeeting 6 rfl rfl) rfl ?_
    refine zj_iadd (zdk ttX8_firstMeeting 7 rfl rfl) ?_
    refine zj_iconst (zdk ttX8_firstMeeting 8 rfl rfl) ?_
    refine zj_isub (zdk ttX8_firstMeeting 9 rfl rfl) ?_
    refine zj_iload_n (zdk ttX8_firstMeeting 10 rfl rfl) rfl ?_
    refine zj_idiv (zdk ttX8_firstMeeting 11 rfl rfl) (by omega) (by omega) (by omega) ?_
    have b20 := ztd_b (((p3 - p1) + p2) - 1) p2
    refine zj_goto (t := 18) (zdk ttX8_firstMeeting 12 rfl rfl) (by decide) ?_
    refine zj_istore (L' := [some (.inl p1), some (.inl p2), some (.inl p3), some (.inl p4), some (.inl ((((p3 - p1) + p2) - 1).tdiv p2)), none, none]) (zdk ttX8_firstMeeting 14 rfl rfl) (by decide) rfl ?_
    refine zj_iload_n (zdk ttX8_firstMeeting 15 rfl rfl) rfl ?_
    refine zj_iload (zdk ttX8_firstMeeting 16 rfl rfl) rfl ?_
    refine zj_iload_n (zdk ttX8_firstMeeting 17 rfl rfl) rfl ?_
    refine zj_imul (zdk ttX8_firstMeeting 18 rfl rfl) ?_
    have b21 : -499000 ≤ (((((p3 - p1) + p2) - 1).tdiv p2) * p2) ∧ (((((p3 - p1) + p2) - 1).tdiv p2) * p2) ≤ 499000 := zmul_b (a := -998) (b := 998) (c := 1) (d := 500) (by omega) (by omega) (by decide)
    refine zj_iadd (zdk ttX8_firstMeeting 19 rfl rfl) ?_
    refine zj_istore (L' := [some (.inl p1), some (.inl p2), some (.inl p3), some (.inl p4), some (.inl ((((p3 - p1) + p2) - 1).tdiv p2)), some (.inl (p1 + (((((p3 - p1) + p2) - 1).tdiv p2) * p2))), none]) (zdk ttX8_firstMeeting 20 rfl rfl) (by decide) rfl ?_
    refine zj_iconst (zdk ttX8_firstMeeting 21 rfl rfl) ?_
    refine zj_istore (L' := [some (.inl p1), some (.inl p2), some (.inl p3), some (.inl p4), some (.inl ((((p3 - p1) + p2) - 1).tdiv p2)), some (.inl (p1 + (((((p3 - p1) + p2) - 1).tdiv p2) * p2))), some (.inl 0)]) (zdk ttX8_firstMeeting 22 rfl rfl) (by decide) rfl ?_
    have lp27 : ∀ (n : Nat) (x22 x23 : Int), (0 ≤ x22 ∧ x22 ≤ 749999) → (0 ≤ x23 ∧ x23 ≤ 500) → (zmi p1 p2 p3 p4 (((((p3 - p1) + p2) - 1).tdiv p2) + x23) x22) → (x22 ≤ 499499 + 500 * x23 ∧ p3 ≤ x22) → (p3 ≤ p1 + ((((p3 - p1) + p2) - 1).tdiv p2) * p2 ∧ 0 ≤ ((((p3 - p1) + p2) - 1).tdiv p2)) → (501 - x23).toNat < n → zJ shC l yX8_firstMeeting cX8_firstMeeting 7 (some .int) (rmL 1) 0 0 (q2_X8_firstMeeting h p1 p2 p3 p4) 0 0 31 [some (.inl p1), some (.inl p2), some (.inl p3), some (.inl p4), some (.inl ((((p3 - p1) + p2) - 1).tdiv p2)), some (.inl x22), some (.inl x23)] [] h := by
      intro n
      induction n with
      | zero => intro x22 x23 b28 b29 u30 u31 u32 m33; exact absurd m33 (Nat.not_lt_zero _)
      | succ n ih34 =>
        intro x22 x23 b28 b29 u30 u31 u32 m33
        refine zj_iload (zdk ttX8_firstMeeting 23 rfl rfl) rfl ?_
        refine zj_iload_n (zdk ttX8_firstMeeting 24 rfl rfl) rfl ?_
        refine zj_icmp_ge (t := 61) (zdk ttX8_firstMeeting 25 rfl rfl) (by decide) (by omega) (by omega) (fun c35 => ?_) (fun c35 => ?_)
        · refine zj_iconst (zdk ttX8_firstMeeting 40 rfl rfl) ?_
          have b36 := Int.tmod_eq_emod_of_nonneg (a := x22 - p3) (b := p4) (by omega)
          exact zj_iret rfl (zdk ttX8_firstMeeting 41 rfl rfl) (Nat.le_refl _) (Nat.le_refl _) ⟨(-1), rfl, rfl, by omega, by first | exact zmi_h u30 (by omega) (by omega) | exact zmi_n (w := ((((p3 - p1) + p2) - 1).tdiv p2)) u30 (by omega) (by omega) (by omega) (by omega) (by omega)⟩
        · refine zj_iload (zdk ttX8_firstMeeting 26 rfl rfl) rfl ?_
          refine zj_iload_n (zdk ttX8_firstMeeting 27 rfl rfl) rfl ?_
          refine zj_isub (zdk ttX8_firstMeeting 28 rfl rfl) ?_
          refine zj_iload_n (zdk ttX8_firstMeeting 29 rfl rfl) rfl ?_
          refine zj_irem (zdk ttX8_firstMeeting 30 rfl rfl) (by omega) (by omega) (by omega) ?_
          have b37 := ztm_b (x22 - p3) p4 (by omega)
          refine zj_if_ne (t := 49) (zdk ttX8_firstMeeting 31 rfl rfl) (by decide) (by omega) (fun c38 => ?_) (fun c38 => ?_)
          · refine zj_iload (zdk ttX8_firstMeeting 34 rfl rfl) rfl ?_
            refine zj_iload_n (zdk ttX8_firstMeeting 35 rfl rfl) rfl ?_
            refine zj_iadd (zdk ttX8_firstMeeting 36 rfl rfl) ?_
            refine zj_istore (L' := [some (.inl p1), some (.inl p2), some (.inl p3), some (.inl p4), some (.inl ((((p3 - p1) + p2) - 1).tdiv p2)), some (.inl (x22 + p2)), some (.inl x23)]) (zdk ttX8_firstMeeting 37 rfl rfl) (by decide) rfl ?_
            refine zj_iinc (L' := [some (.inl p1), some (.inl p2), some (.inl p3), some (.inl p4), some (.inl ((((p3 - p1) + p2) - 1).tdiv p2)), some (.inl (x22 + p2)), some (.inl (x23 + 1))]) (zdk ttX8_firstMeeting 38 rfl rfl) rfl (by decide) rfl ?_
            refine zj_goto (t := 31) (zdk ttX8_firstMeeting 39 rfl rfl) (by decide) ?_
            exact ih34  (x22 + p2) (x23 + 1) (by omega) (by omega) (zmi_e (zmi_s u30 (by intro q9; have b9 := Int.tmod_eq_emod_of_nonneg (a := x22 - p3) (b := p4) (by omega); omega)) (by omega) (by omega)) (by omega) (by omega) (by omega)
          · refine zj_iload (zdk ttX8_firstMeeting 32 rfl rfl) rfl ?_
            have b39 := Int.tmod_eq_emod_of_nonneg (a := x22 - p3) (b := p4) (by omega)
            exact zj_iret rfl (zdk ttX8_firstMeeting 33 rfl rfl) (Nat.le_refl _) (Nat.le_refl _) ⟨x22, rfl, rfl, by omega, by first | exact zmi_h u30 (by omega) (by omega) | exact zmi_n (w := ((((p3 - p1) + p2) - 1).tdiv p2)) u30 (by omega) (by omega) (by omega) (by omega) (by omega)⟩
    have b40 := zmi_w (s := p1) (p := p2) (t := p3) (q := p4) (by omega) (by omega)
    exact lp27 _ (p1 + (((((p3 - p1) + p2) - 1).tdiv p2) * p2)) 0 (by omega) (by omega) (zmi_e b40.1 (by omega) (by omega)) (by omega) (by omega) (Nat.lt_succ_self _)

abbrev q2_X10_meets (h : zM) (p1 : Int) (p2 : Int) (p3 : Int) (p4 : Int) : Option zV → zM → Prop := zqi fun v h' => ((-2147483648) ≤ v ∧ v ≤ 2147483647) ∧ okC h' ∧ (zmd p1 p2 p3 p4 v)
set_option maxRecDepth 100000 in
set_option maxHeartbeats 4000000 in
theorem s2_X10_meets (l : Launch) (h : zM) (p1 : Int) (p2 : Int) (p3 : Int) (p4 : Int) (s0 : okC h) (b_p1 : (-2147483648) ≤ p1 ∧ p1 ≤ 2147483647) (b_p2 : (-2147483648) ≤ p2 ∧ p2 ≤ 2147483647) (b_p3 : (-2147483648) ≤ p3 ∧ p3 ≤ 2147483647) (b_p4 : (-2147483648) ≤ p4 ∧ p4 ≤ 2147483647) : zT shC l yX10_meets cX10_meets 5 (some .int) (rmL 2) 0 0 [.inr 0, .inl p1, .inl p2, .inl p3, .inl p4] h (q2_X10_meets h p1 p2 p3 p4) := by
  refine zT_of (by decide +kernel) (L0 := [some (.inr 0), some (.inl p1), some (.inl p2), some (.inl p3), some (.inl p4)]) rfl (Nat.le_of_ble_eq_true rfl) ?_
  refine zj_iload_n (zdk ttX10_meets 0 rfl rfl) rfl ?_
  refine zj_iconst (zdk ttX10_meets 1 rfl rfl) ?_
  refine zj_sipush (zdk ttX10_meets 2 rfl rfl) (by decide) ?_
  refine zj_callS (av := [.inl p1, .inl 0, .inl 499]) (st := []) (zdk ttX10_meets 3 rfl rfl) mb_X10_within ms_RX10_77 rfl rfl (Nat.le_of_ble_eq_true rfl) (s_X10_within l h p1 0 499 s0 (by omega) (by omega) (by omega)) (rm_ok (by decide) (by decide)) (zq_i fun v2 h3 q1 => ?_)
  obtain ⟨rfl, ⟨rfl, b4⟩ | ⟨rfl, b4⟩⟩ := q1
  · refine zj_if_eq (t := 45) (zdk ttX10_meets 4 rfl rfl) (by decide) (by decide) (fun c5 => ?_) (fun c5 => ?_)
    · refine zj_iconst (zdk ttX10_meets 20 rfl rfl) ?_
      exact zj_iret rfl (zdk ttX10_meets 21 rfl rfl) (Nat.le_refl _) (Nat.le_refl _) ⟨(-1), rfl, by omega, s0, by first | exact zmd_n (by unfold zmg; omega) (by omega) | exact zmd_y (by unfold zmg; omega) (by assumption)⟩
    · exact absurd c5 (by omega)
  · refine zj_if_eq (t := 45) (zdk ttX10_meets 4 rfl rfl) (by decide) (by decide) (fun c6 => ?_) (fun c6 => ?_)
    · exact absurd c6 (by omega)
    · refine zj_iload_n (zdk ttX10_meets 5 rfl rfl) rfl ?_
      refine zj_iconst (zdk ttX10_meets 6 rfl rfl) ?_
      refine zj_sipush (zdk ttX10_meets 7 rfl rfl) (by decide) ?_
      refine zj_callS (av := [.inl p3, .inl 0, .inl 499]) (st := []) (zdk ttX10_meets 8 rfl rfl) mb_X10_within ms_RX10_77 rfl rfl (Nat.le_of_ble_eq_true rfl) (s_X10_within l h p3 0 499 s0 (by omega) (by omega) (by omega)) (rm_ok (by decide) (by decide)) (zq_i fun v8 h9 q7 => ?_)
      obtain ⟨rfl, ⟨rfl, b10⟩ | ⟨rfl, b10⟩⟩ := q7
      · refine zj_if_eq (t := 45) (zdk ttX10_meets 9 rfl rfl) (by decide) (by decide) (fun c11 => ?_) (fun c11 => ?_)
        · refine zj_iconst (zdk ttX10_meets 20 rfl rfl) ?_
          exact zj_iret rfl (zdk ttX10_meets 21 rfl rfl) (Nat.le_refl _) (Nat.le_refl _) ⟨(-1), rfl, by omega, s0, by first | exact zmd_n (by unfold zmg; omega) (by omega) | exact zmd_y (by unfold zmg; omega) (by assumption)⟩
        · exact absurd c11 (by omega)
      · refine zj_if_eq (t := 45) (zdk ttX10_meets 9 rfl rfl) (by decide) (by decide) (fun c12 => ?_) (fun c12 => ?_)
        · exact absurd c12 (by omega)
        · refine zj_iload_n (zdk ttX10_meets 10 rfl rfl) rfl ?_
          refine zj_iconst (zdk ttX10_meets 11 rfl rfl) ?_
          refine zj_sipush (zdk ttX10_meets 12 rfl rfl) (by decide) ?_
          refine zj_callS (av := [.inl p2, .inl 1, .inl 500]) (st := []) (zdk ttX10_meets 13 rfl rfl) mb_X10_within ms_RX10_77 rfl rfl (Nat.le_of_ble_eq_true rfl) (s_X10_within l h p2 1 500 s0 (by omega) (by omega) (by omega)) (rm_ok (by decide) (by decide)) (zq_i fun v14 h15 q13 => ?_)
          obtain ⟨rfl, ⟨rfl, b16⟩ | ⟨rfl, b16⟩⟩ := q13
          · refine zj_if_eq (t := 45) (zdk ttX10_meets 14 rfl rfl) (by decide) (by decide) (fun c17 => ?_) (fun c17 => ?_)
            · refine zj_iconst (zdk ttX10_meets 20 rfl rfl) ?_
              exact zj_iret rfl (zdk ttX10_meets 21 rfl rfl) (Nat.le_refl _) (Nat.le_refl _) ⟨(-1), rfl, by omega, s0, by first | exact zmd_n (by unfold zmg; omega) (by omega) | exact zmd_y (by unfold zmg; omega) (by assumption)⟩
            · exact absurd c17 (by omega)
          · refine zj_if_eq (t := 45) (zdk ttX10_meets 14 rfl rfl) (by decide) (by decide) (fun c18 => ?_) (fun c18 => ?_)
            · exact absurd c18 (by omega)
            · refine zj_iload (zdk ttX10_meets 15 rfl rfl) rfl ?_
              refine zj_iconst (zdk ttX10_meets 16 rfl rfl) ?_
              refine zj_sipush (zdk ttX10_meets 17 rfl rfl) (by decide) ?_
              refine zj_callS (av := [.inl p4, .inl 1, .inl 500]) (st := []) (zdk ttX10_meets 18 rfl rfl) mb_X10_within ms_RX10_77 rfl rfl (Nat.le_of_ble_eq_true rfl) (s_X10_within l h p4 1 500 s0 (by omega) (by omega) (by omega)) (rm_ok (by decide) (by decide)) (zq_i fun v20 h21 q19 => ?_)
              obtain ⟨rfl, ⟨rfl, b22⟩ | ⟨rfl, b22⟩⟩ := q19
              · refine zj_if_ne (t := 47) (zdk ttX10_meets 19 rfl rfl) (by decide) (by decide) (fun c23 => ?_) (fun c23 => ?_)
                · exact absurd c23 (by omega)
                · refine zj_iconst (zdk ttX10_meets 20 rfl rfl) ?_
                  exact zj_iret rfl (zdk ttX10_meets 21 rfl rfl) (Nat.le_refl _) (Nat.le_refl _) ⟨(-1), rfl, by omega, s0, by first | exact zmd_n (by unfold zmg; omega) (by omega) | exact zmd_y (by unfold zmg; omega) (by assumption)⟩
              · refine zj_if_ne (t := 47) (zdk ttX10_meets 19 rfl rfl) (by decide) (by decide) (fun c24 => ?_) (fun c24 => ?_)
                · refine zj_iload_n (zdk ttX10_meets 22 rfl rfl) rfl ?_
                  refine zj_iload_n (zdk ttX10_meets 23 rfl rfl) rfl ?_
                  refine zj_iload_n (zdk ttX10_meets 24 rfl rfl) rfl ?_
                  refine zj_iload (zdk ttX10_meets 25 rfl rfl) rfl ?_
                  refine zj_callS (av := [.inl p1, .inl p2, .inl p3, .inl p4]) (st := []) (zdk ttX10_meets 26 rfl rfl) mb_X8_firstMeeting ms_RX10_312 rfl rfl (Nat.le_of_ble_eq_true rfl) (s2_X8_firstMeeting l h p1 p2 p3 p4 s0 (by omega) (by omega) (by omega) (by omega)) (rm_ok (by decide) (by decide)) (zq_i fun v26 h27 q25 => ?_)
                  obtain ⟨rfl, b28, u29⟩ := q25
                  exact zj_iret rfl (zdk ttX10_meets 27 rfl rfl) (Nat.le_refl _) (Nat.le_refl _) ⟨v26, rfl, by omega, s0, by first | exact zmd_n (by unfold zmg; omega) (by omega) | exact zmd_y (by unfold zmg; omega) (by assumption)⟩
                · exact absurd c24 (by omega)

abbrev q2_X11_meets (h : zM) (p1 : Int) (p2 : Int) (p3 : Int) (p4 : Int) : Option zV → zM → Prop := zqi fun v h' => ((-2147483648) ≤ v ∧ v ≤ 2147483647) ∧ okM h' ∧ zfr [0] [] h h' ∧ (zmd p1 p2 p3 p4 v)
set_option maxRecDepth 100000 in
set_option maxHeartbeats 4000000 in
theorem s2_X11_meets (l : Launch) (h : zM) (p1 : Int) (p2 : Int) (p3 : Int) (p4 : Int) (s0 : okM h) (b_p1 : (-2147483648) ≤ p1 ∧ p1 ≤ 2147483647) (b_p2 : (-2147483648) ≤ p2 ∧ p2 ≤ 2147483647) (b_p3 : (-2147483648) ≤ p3 ∧ p3 ≤ 2147483647) (b_p4 : (-2147483648) ≤ p4 ∧ p4 ≤ 2147483647) : zT shM l yX11_meets cX11_meets 7 (some .int) (rmL 2) 0 0 [.inr 0, .inl p1, .inl p2, .inl p3, .inl p4] h (q2_X11_meets h p1 p2 p3 p4) := by
  refine zT_of (by decide +kernel) (L0 := [some (.inr 0), some (.inl p1), some (.inl p2), some (.inl p3), some (.inl p4), none, none]) rfl (Nat.le_of_ble_eq_true rfl) ?_
  refine zj_aload_n (zdk ttX11_meets 0 rfl rfl) rfl (by decide) ?_
  refine zj_iconst (zdk ttX11_meets 1 rfl rfl) ?_
  refine zj_puti (zdk ttX11_meets 2 rfl rfl) zf_RX11_120 rfl (k_M s0) (Or.inl zw_RX11_120) (k2 := 0) rfl (fun h1 e2 => ?_)
  refine zj_aload_n (zdk ttX11_meets 3 rfl rfl) rfl (by decide) ?_
  refine zj_iload_n (zdk ttX11_meets 4 rfl rfl) rfl ?_
  refine zj_iconst (zdk ttX11_meets 5 rfl rfl) ?_
  refine zj_sipush (zdk ttX11_meets 6 rfl rfl) (by decide) ?_
  have s3 : okM h1 := fwM_0 s0 e2 (by omega)
  refine zj_callV (av := [.inl p1, .inl 0, .inl 499]) (st := []) (zdk ttX11_meets 7 rfl rfl) mb_X11_isIn mv_RX11_139 (ci := 11) rfl rfl (k_M s3) rfl rfl (Nat.le_of_ble_eq_true rfl) (s_X11_isIn l h1 p1 0 499 s3 (by omega) (by omega) (by omega)) (rm_ok (by decide) (by decide)) (zq_i fun v5 h6 q4 => ?_)
  obtain ⟨rfl, ⟨rfl, b7⟩ | ⟨rfl, b7⟩⟩ := q4
  · refine zj_if_eq (t := 54) (zdk ttX11_meets 8 rfl rfl) (by decide) (by decide) (fun c8 => ?_) (fun c8 => ?_)
    · refine zj_iconst (zdk ttX11_meets 27 rfl rfl) ?_
      have f9 : zfr [0] [] h h1 := zfr_wf (zfr_r _ _ _) e2 rfl
      exact zj_iret rfl (zdk ttX11_meets 28 rfl rfl) (Nat.le_refl _) (Nat.le_refl _) ⟨(-1), rfl, by omega, s3, f9, zmd_n (by unfold zmg; omega) (by omega)⟩
    · exact absurd c8 (by omega)
  · refine zj_if_eq (t := 54) (zdk ttX11_meets 8 rfl rfl) (by decide) (by decide) (fun c10 => ?_) (fun c10 => ?_)
    · exact absurd c10 (by omega)
    · refine zj_aload_n (zdk ttX11_meets 9 rfl rfl) rfl (by decide) ?_
      refine zj_iload_n (zdk ttX11_meets 10 rfl rfl) rfl ?_
      refine zj_iconst (zdk ttX11_meets 11 rfl rfl) ?_
      refine zj_sipush (zdk ttX11_meets 12 rfl rfl) (by decide) ?_
      refine zj_callV (av := [.inl p2, .inl 1, .inl 500]) (st := []) (zdk ttX11_meets 13 rfl rfl) mb_X11_isIn mv_RX11_139 (ci := 11) rfl rfl (k_M s3) rfl rfl (Nat.le_of_ble_eq_true rfl) (s_X11_isIn l h1 p2 1 500 s3 (by omega) (by omega) (by omega)) (rm_ok (by decide) (by decide)) (zq_i fun v12 h13 q11 => ?_)
      obtain ⟨rfl, ⟨rfl, b14⟩ | ⟨rfl, b14⟩⟩ := q11
      · refine zj_if_eq (t := 54) (zdk ttX11_meets 14 rfl rfl) (by decide) (by decide) (fun c15 => ?_) (fun c15 => ?_)
        · refine zj_iconst (zdk ttX11_meets 27 rfl rfl) ?_
          have f16 : zfr [0] [] h h1 := zfr_wf (zfr_r _ _ _) e2 rfl
          exact zj_iret rfl (zdk ttX11_meets 28 rfl rfl) (Nat.le_refl _) (Nat.le_refl _) ⟨(-1), rfl, by omega, s3, f16, zmd_n (by unfold zmg; omega) (by omega)⟩
        · exact absurd c15 (by omega)
      · refine zj_if_eq (t := 54) (zdk ttX11_meets 14 rfl rfl) (by decide) (by decide) (fun c17 => ?_) (fun c17 => ?_)
        · exact absurd c17 (by omega)
        · refine zj_aload_n (zdk ttX11_meets 15 rfl rfl) rfl (by decide) ?_
          refine zj_iload_n (zdk ttX11_meets 16 rfl rfl) rfl ?_
          refine zj_iconst (zdk ttX11_meets 17 rfl rfl) ?_
          refine zj_sipush (zdk ttX11_meets 18 rfl rfl) (by decide) ?_
          refine zj_callV (av := [.inl p3, .inl 0, .inl 499]) (st := []) (zdk ttX11_meets 19 rfl rfl) mb_X11_isIn mv_RX11_139 (ci := 11) rfl rfl (k_M s3) rfl rfl (Nat.le_of_ble_eq_true rfl) (s_X11_isIn l h1 p3 0 499 s3 (by omega) (by omega) (by omega)) (rm_ok (by decide) (by decide)) (zq_i fun v19 h20 q18 => ?_)
          obtain ⟨rfl, ⟨rfl, b21⟩ | ⟨rfl, b21⟩⟩ := q18
          · refine zj_if_eq (t := 54) (zdk ttX11_meets 20 rfl rfl) (by decide) (by decide) (fun c22 => ?_) (fun c22 => ?_)
            · refine zj_iconst (zdk ttX11_meets 27 rfl rfl) ?_
              have f23 : zfr [0] [] h h1 := zfr_wf (zfr_r _ _ _) e2 rfl
              exact zj_iret rfl (zdk ttX11_meets 28 rfl rfl) (Nat.le_refl _) (Nat.le_refl _) ⟨(-1), rfl, by omega, s3, f23, zmd_n (by unfold zmg; omega) (by omega)⟩
            · exact absurd c22 (by omega)
          · refine zj_if_eq (t := 54) (zdk ttX11_meets 20 rfl rfl) (by decide) (by decide) (fun c24 => ?_) (fun c24 => ?_)
            · exact absurd c24 (by omega)
            · refine zj_aload_n (zdk ttX11_meets 21 rfl rfl) rfl (by decide) ?_
              refine zj_iload (zdk ttX11_meets 22 rfl rfl) rfl ?_
              refine zj_iconst (zdk ttX11_meets 23 rfl rfl) ?_
              refine zj_sipush (zdk ttX11_meets 24 rfl rfl) (by decide) ?_
              refine zj_callV (av := [.inl p4, .inl 1, .inl 500]) (st := []) (zdk ttX11_meets 25 rfl rfl) mb_X11_isIn mv_RX11_139 (ci := 11) rfl rfl (k_M s3) rfl rfl (Nat.le_of_ble_eq_true rfl) (s_X11_isIn l h1 p4 1 500 s3 (by omega) (by omega) (by omega)) (rm_ok (by decide) (by decide)) (zq_i fun v26 h27 q25 => ?_)
              obtain ⟨rfl, ⟨rfl, b28⟩ | ⟨rfl, b28⟩⟩ := q25
              · refine zj_if_ne (t := 56) (zdk ttX11_meets 26 rfl rfl) (by decide) (by decide) (fun c29 => ?_) (fun c29 => ?_)
                · exact absurd c29 (by omega)
                · refine zj_iconst (zdk ttX11_meets 27 rfl rfl) ?_
                  have f30 : zfr [0] [] h h1 := zfr_wf (zfr_r _ _ _) e2 rfl
                  exact zj_iret rfl (zdk ttX11_meets 28 rfl rfl) (Nat.le_refl _) (Nat.le_refl _) ⟨(-1), rfl, by omega, s3, f30, zmd_n (by unfold zmg; omega) (by omega)⟩
              · refine zj_if_ne (t := 56) (zdk ttX11_meets 26 rfl rfl) (by decide) (by decide) (fun c31 => ?_) (fun c31 => ?_)
                · refine zj_iload_n (zdk ttX11_meets 29 rfl rfl) rfl ?_
                  refine zj_istore (L' := [some (.inr 0), some (.inl p1), some (.inl p2), some (.inl p3), some (.inl p4), some (.inl p1), none]) (zdk ttX11_meets 30 rfl rfl) (by decide) rfl ?_
                  refine zj_iconst (zdk ttX11_meets 31 rfl rfl) ?_
                  refine zj_istore (L' := [some (.inr 0), some (.inl p1), some (.inl p2), some (.inl p3), some (.inl p4), some (.inl p1), some (.inl 0)]) (zdk ttX11_meets 32 rfl rfl) (by decide) rfl ?_
                  have lp38 : ∀ (n62 : Nat) (x32 x33 : Int), (0 ≤ x32 ∧ x32 ≤ 550499) → (0 ≤ x33 ∧ x33 ≤ 1100) → (zmi p1 p2 p3 p4 x33 x32) → (x32 ≤ 499 + 500 * x33) → (1101 - x33).toNat < n62 → zJ shM l yX11_meets cX11_meets 7 (some .int) (rmL 2) 0 0 (q2_X11_meets h p1 p2 p3 p4) 0 0 62 [some (.inr 0), some (.inl p1), some (.inl p2), some (.inl p3), some (.inl p4), some (.inl x32), some (.inl x33)] [] h1 := by
                    intro n62
                    induction n62 with
                    | zero => intro x32 x33 b39 b40 u41 u42 m43; exact absurd m43 (Nat.not_lt_zero _)
                    | succ n62 ih44 =>
                      intro x32 x33 b39 b40 u41 u42 m43
                      refine zj_iload (zdk ttX11_meets 33 rfl rfl) rfl ?_
                      refine zj_sipush (zdk ttX11_meets 34 rfl rfl) (by decide) ?_
                      refine zj_icmp_ge (t := 101) (zdk ttX11_meets 35 rfl rfl) (by decide) (by omega) (by decide) (fun c45 => ?_) (fun c45 => ?_)
                      · refine zj_iconst (zdk ttX11_meets 53 rfl rfl) ?_
                        have f46 : zfr [0] [] h h1 := zfr_wf (zfr_r _ _ _) e2 rfl
                        exact zj_iret rfl (zdk ttX11_meets 54 rfl rfl) (Nat.le_refl _) (Nat.le_refl _) ⟨(-1), rfl, by omega, s3, f46, zmd_y (by unfold zmg; omega) (by first | exact zmi_h u41 (by omega) (by have b9 := Int.tmod_eq_emod_of_nonneg (a := x32 - p3) (b := p4) (by omega); omega) | exact zmi_n (w := 500) u41 (by omega) (by omega) (by omega) (by omega) (by omega))⟩
                      · refine zj_iload (zdk ttX11_meets 36 rfl rfl) rfl ?_
                        refine zj_iload_n (zdk ttX11_meets 37 rfl rfl) rfl ?_
                        refine zj_icmp_lt (t := 89) (zdk ttX11_meets 38 rfl rfl) (by decide) (by omega) (by omega) (fun c48 => ?_) (fun c48 => ?_)
                        · refine zj_iload (zdk ttX11_meets 47 rfl rfl) rfl ?_
                          refine zj_iload_n (zdk ttX11_meets 48 rfl rfl) rfl ?_
                          refine zj_iadd (zdk ttX11_meets 49 rfl rfl) ?_
                          refine zj_istore (L' := [some (.inr 0), some (.inl p1), some (.inl p2), some (.inl p3), some (.inl p4), some (.inl (x32 + p2)), some (.inl x33)]) (zdk ttX11_meets 50 rfl rfl) (by decide) rfl ?_
                          refine zj_iinc (L' := [some (.inr 0), some (.inl p1), some (.inl p2), some (.inl p3), some (.inl p4), some (.inl (x32 + p2)), some (.inl (x33 + 1))]) (zdk ttX11_meets 51 rfl rfl) rfl (by decide) rfl ?_
                          refine zj_goto (t := 62) (zdk ttX11_meets 52 rfl rfl) (by decide) ?_
                          exact ih44  (x32 + p2) (x33 + 1) (by omega) (by omega) (zmi_e (zmi_s u41 (by intro q9; have b9 := Int.tmod_eq_emod_of_nonneg (a := x32 - p3) (b := p4) (by omega); omega)) (by omega) (by omega)) (by omega) (by omega)
                        · refine zj_iload (zdk ttX11_meets 39 rfl rfl) rfl ?_
                          refine zj_iload_n (zdk ttX11_meets 40 rfl rfl) rfl ?_
                          refine zj_isub (zdk ttX11_meets 41 rfl rfl) ?_
                          refine zj_iload (zdk ttX11_meets 42 rfl rfl) rfl ?_
                          refine zj_irem (zdk ttX11_meets 43 rfl rfl) (by omega) (by omega) (by omega) ?_
                          have b49 := ztm_b (x32 - p3) p4 (by omega)
                          refine zj_if_ne (t := 89) (zdk ttX11_meets 44 rfl rfl) (by decide) (by omega) (fun c50 => ?_) (fun c50 => ?_)
                          · refine zj_iload (zdk ttX11_meets 47 rfl rfl) rfl ?_
                            refine zj_iload_n (zdk ttX11_meets 48 rfl rfl) rfl ?_
                            refine zj_iadd (zdk ttX11_meets 49 rfl rfl) ?_
                            refine zj_istore (L' := [some (.inr 0), some (.inl p1), some (.inl p2), some (.inl p3), some (.inl p4), some (.inl (x32 + p2)), some (.inl x33)]) (zdk ttX11_meets 50 rfl rfl) (by decide) rfl ?_
                            refine zj_iinc (L' := [some (.inr 0), some (.inl p1), some (.inl p2), some (.inl p3), some (.inl p4), some (.inl (x32 + p2)), some (.inl (x33 + 1))]) (zdk ttX11_meets 51 rfl rfl) rfl (by decide) rfl ?_
                            refine zj_goto (t := 62) (zdk ttX11_meets 52 rfl rfl) (by decide) ?_
                            exact ih44  (x32 + p2) (x33 + 1) (by omega) (by omega) (zmi_e (zmi_s u41 (by intro q9; have b9 := Int.tmod_eq_emod_of_nonneg (a := x32 - p3) (b := p4) (by omega); omega)) (by omega) (by omega)) (by omega) (by omega)
                          · refine zj_iload (zdk ttX11_meets 45 rfl rfl) rfl ?_
                            have f51 : zfr [0] [] h h1 := zfr_wf (zfr_r _ _ _) e2 rfl
                            exact zj_iret rfl (zdk ttX11_meets 46 rfl rfl) (Nat.le_refl _) (Nat.le_refl _) ⟨x32, rfl, by omega, s3, f51, zmd_y (by unfold zmg; omega) (by first | exact zmi_h u41 (by omega) (by have b9 := Int.tmod_eq_emod_of_nonneg (a := x32 - p3) (b := p4) (by omega); omega) | exact zmi_n (w := 500) u41 (by omega) (by omega) (by omega) (by omega) (by omega))⟩
                  exact lp38 _ p1 0 (by omega) (by omega) (zmi_e zmi_0 (by omega) (by omega)) (by omega) (Nat.lt_succ_self _)
                · exact absurd c31 (by omega)
