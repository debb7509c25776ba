def zaj (r l : Int) : Int := if (r % l) % 2 = 0 then (r % l) / 2 else (r % l + l) / 2
theorem zaj_b {l : Int} (r : Int) (hl : l % 2 = 1 ∧ 1 ≤ l ∧ l ≤ 17) : 0 ≤ zaj r l ∧ zaj r l < l := by
  have z : l = 1 ∨ l = 3 ∨ l = 5 ∨ l = 7 ∨ l = 9 ∨ l = 11 ∨ l = 13 ∨ l = 15 ∨ l = 17 := by omega
  unfold zaj
  rcases z with rfl | rfl | rfl | rfl | rfl | rfl | rfl | rfl | rfl <;> split <;> omega
theorem zaf1 {l j : Int} (r : Int) (hl : l % 2 = 1 ∧ 1 ≤ l ∧ l ≤ 17) (hj : 0 ≤ j ∧ j < l) : ((2 * j) % l = r % l ∧ j = zaj r l) ∨ (¬ (2 * j) % l = r % l ∧ ¬ j = zaj r l) := by
  have z : l = 1 ∨ l = 3 ∨ l = 5 ∨ l = 7 ∨ l = 9 ∨ l = 11 ∨ l = 13 ∨ l = 15 ∨ l = 17 := by omega
  unfold zaj
  rcases z with rfl | rfl | rfl | rfl | rfl | rfl | rfl | rfl | rfl <;> split <;> omega
theorem zaf3 {l j : Int} (r : Int) (hl : l % 2 = 1 ∧ 1 ≤ l ∧ l ≤ 17) (hj : 0 ≤ j ∧ j < l) : ((j + j) % l = r % l ∧ j = zaj r l) ∨ (¬ (j + j) % l = r % l ∧ ¬ j = zaj r l) := by
  have e : j + j = 2 * j := by omega
  rw [e]; exact zaf1 r hl hj
theorem zaf2 {l j : Int} (r i : Int) (hl : l % 2 = 1 ∧ 1 ≤ l ∧ l ≤ 17) (hj : 0 ≤ j ∧ j < l) : ((i + j) % l = r % l ∧ j = (r - i) % l) ∨ (¬ (i + j) % l = r % l ∧ ¬ j = (r - i) % l) := by
  have z : l = 1 ∨ l = 3 ∨ l = 5 ∨ l = 7 ∨ l = 9 ∨ l = 11 ∨ l = 13 ∨ l = 15 ∨ l = 17 := by omega
  rcases z with rfl | rfl | rfl | rfl | rfl | rfl | rfl | rfl | rfl <;> omega
def zagl (n r i l v : Int) : Prop := (i = l → v = zaj r l) ∧ (i < l → ¬ (r - i) % l = i → v = (r - i) % l) ∧ (i < l → (r - i) % l = i → l = n → v = -1) ∧ (i < l → (r - i) % l = i → ¬ l = n → v = l)
def zagg (n r i : Int) : Prop := (2 ≤ n ∧ n ≤ 16) ∧ (0 ≤ r ∧ r ≤ 999) ∧ (0 ≤ i ∧ i ≤ n - 1)
def zaga (n r i v : Int) : Prop := ∀ l, l % 2 = 1 → (l = n ∨ l = n - 1) → zagl n r i l v
def zagd (n r i v : Int) : Prop := (zagg n r i → zaga n r i v) ∧ (¬ zagg n r i → v = -1)
theorem zagd_y {n r i v : Int} (g : zagg n r i) (h : zaga n r i v) : zagd n r i v := ⟨fun _ => h, fun z => absurd g z⟩
theorem zagd_n {n r i v : Int} (g : ¬ zagg n r i) (h : v = -1) : zagd n r i v := ⟨fun z => absurd z g, fun _ => h⟩
theorem zagd_u {n r i v v' : Int} (a : zagd n r i v) (b : zagd n r i v') : v = v' := by
  by_cases g : zagg n r i
  · have ga := g
    unfold zagg at ga
    by_cases c : n % 2 = 0
    · have a1 := a.1 g (n - 1) (by omega) (by omega)
      have b1 := b.1 g (n - 1) (by omega) (by omega)
      unfold zagl at a1 b1
      omega
    · have a1 := a.1 g n (by omega) (by omega)
      have b1 := b.1 g n (by omega) (by omega)
      unfold zagl at a1 b1
      omega
  · rw [a.2 g, b.2 g]

abbrev q2_X8_meetsLast (h : zM) (p1 : Int) (p2 : Int) : Option zV → zM → Prop := zqi fun v h' => h = h' ∧ ((-1) ≤ v ∧ v ≤ 17) ∧ (p1 % 2 = 1 → v = zaj p2 p1)
set_option maxRecDepth 100000 in
set_option maxHeartbeats 4000000 in
theorem s2_X8_meetsLast (l : Launch) (h : zM) (p1 : Int) (p2 : Int) (s0 : okC h) (b_p1 : 1 ≤ p1 ∧ p1 ≤ 17) (b_p2 : 0 ≤ p2 ∧ p2 ≤ 999) : zT shC l yX8_meetsLast cX8_meetsLast 3 (some .int) (rmL 1) 0 0 [.inl p1, .inl p2] h (q2_X8_meetsLast h p1 p2) := by
  refine zT_of (by decide +kernel) (L0 := [some (.inl p1), some (.inl p2), none]) rfl (Nat.le_of_ble_eq_true rfl) ?_
  refine zj_iconst (zdk ttX8_meetsLast 0 rfl rfl) ?_
  refine zj_istore_n (L' := [some (.inl p1), some (.inl p2), some (.inl 0)]) (zdk ttX8_meetsLast 1 rfl rfl) (by decide) rfl ?_
  have lp22 : ∀ (n : Nat) (x1 : Int), (0 ≤ x1 ∧ x1 ≤ 17) → (p1 % 2 = 1 → x1 ≤ zaj p2 p1) → (18 - x1).toNat < n → zJ shC l yX8_meetsLast cX8_meetsLast 3 (some .int) (rmL 1) 0 0 (q2_X8_meetsLast h p1 p2) 0 0 2 [some (.inl p1), some (.inl p2), some (.inl x1)] [] h := by
    intro n
    induction n with
    | zero => intro x1 b23 u24 m25; exact absurd m25 (Nat.not_lt_zero _)
    | succ n ih26 =>
      intro x1 b23 u24 m25
      refine zj_iload_n (zdk ttX8_meetsLast 2 rfl rfl) rfl ?_
      refine zj_iload_n (zdk ttX8_meetsLast 3 rfl rfl) rfl ?_
      refine zj_icmp_ge (t := 26) (zdk ttX8_meetsLast 4 rfl rfl) (by decide) (by omega) (by omega) (fun c27 => ?_) (fun c27 => ?_)
      · refine zj_iconst (zdk ttX8_meetsLast 18 rfl rfl) ?_
        exact zj_iret rfl (zdk ttX8_meetsLast 19 rfl rfl) (Nat.le_refl _) (Nat.le_refl _) ⟨(-1), rfl, rfl, by omega, by intro z9; have b8 := zaj_b p2 (l := p1) (by omega); have b9 := zaf1 p2 (l := p1) (j := x1); first | omega | (have b7 := b9 (by omega) (by omega); omega)⟩
      · refine zj_iconst (zdk ttX8_meetsLast 5 rfl rfl) ?_
        refine zj_iload_n (zdk ttX8_meetsLast 6 rfl rfl) rfl ?_
        refine zj_imul (zdk ttX8_meetsLast 7 rfl rfl) ?_
        refine zj_iload_n (zdk ttX8_meetsLast 8 rfl rfl) rfl ?_
        refine zj_iremP (zdk ttX8_meetsLast 9 rfl rfl) (by omega) (by omega) ?_
        have b29 := zmod_b (x := (2 * x1)) (b := p1) (by omega) (by omega)
        refine zj_iload_n (zdk ttX8_meetsLast 10 rfl rfl) rfl ?_
        refine zj_iload_n (zdk ttX8_meetsLast 11 rfl rfl) rfl ?_
        refine zj_iremP (zdk ttX8_meetsLast 12 rfl rfl) (by omega) (by omega) ?_
        have b30 := zmod_b (x := p2) (b := p1) (by omega) (by omega)
        refine zj_icmp_ne (t := 20) (zdk ttX8_meetsLast 13 rfl rfl) (by decide) (by omega) (by omega) (fun c31 => ?_) (fun c31 => ?_)
        · refine zj_iinc (L' := [some (.inl p1), some (.inl p2), some (.inl (x1 + 1))]) (zdk ttX8_meetsLast 16 rfl rfl) rfl (by decide) rfl ?_
          refine zj_goto (t := 2) (zdk ttX8_meetsLast 17 rfl rfl) (by decide) ?_
          exact ih26  (x1 + 1) (by omega) (by intro z9; have b9 := zaf1 p2 (l := p1) (j := x1) (by omega) (by omega); omega) (by omega)
        · refine zj_iload_n (zdk ttX8_meetsLast 14 rfl rfl) rfl ?_
          exact zj_iret rfl (zdk ttX8_meetsLast 15 rfl rfl) (Nat.le_refl _) (Nat.le_refl _) ⟨x1, rfl, rfl, by omega, by intro z9; have b8 := zaj_b p2 (l := p1) (by omega); have b9 := zaf1 p2 (l := p1) (j := x1); first | omega | (have b7 := b9 (by omega) (by omega); omega)⟩
  exact lp22 _ 0 (by omega) (by intro z9; have b8 := zaj_b p2 (l := p1) (by omega); omega) (Nat.lt_succ_self _)

abbrev q2_X8_opponent (h : zM) (p1 : Int) (p2 : Int) (p3 : Int) : Option zV → zM → Prop := zqi fun v h' => h = h' ∧ ((-2147483648) ≤ v ∧ v ≤ 2147483647) ∧ (zaga p1 p2 p3 v)
set_option maxRecDepth 100000 in
set_option maxHeartbeats 4000000 in
theorem s2_X8_opponent (l : Launch) (h : zM) (p1 : Int) (p2 : Int) (p3 : Int) (s0 : okC h) (b_p1 : 2 ≤ p1 ∧ p1 ≤ 16) (b_p2 : 0 ≤ p2 ∧ p2 ≤ 999) (b_p3 : 0 ≤ p3 ∧ p3 ≤ 15) : zT shC l yX8_opponent cX8_opponent 5 (some .int) (rmL 2) 0 0 [.inl p1, .inl p2, .inl p3] h (q2_X8_opponent h p1 p2 p3) := by
  refine zT_of (by decide +kernel) (L0 := [some (.inl p1), some (.inl p2), some (.inl p3), none, none]) rfl (Nat.le_of_ble_eq_true rfl) ?_
  refine zj_iload_n (zdk ttX8_opponent 0 rfl rfl) rfl ?_
  refine zj_iconst (zdk ttX8_opponent 1 rfl rfl) ?_
  refine zj_iremP (zdk ttX8_opponent 2 rfl rfl) (by omega) (by omega) ?_
  refine zj_if_ne (t := 12) (zdk ttX8_opponent 3 rfl rfl) (by decide) (by omega) (fun c1 => ?_) (fun c1 => ?_)
  · refine zj_iload_n (zdk ttX8_opponent 8 rfl rfl) rfl ?_
    refine zj_istore_n (L' := [some (.inl p1), some (.inl p2), some (.inl p3), some (.inl p1), none]) (zdk ttX8_opponent 9 rfl rfl) (by decide) rfl ?_
    refine zj_iload_n (zdk ttX8_opponent 10 rfl rfl) rfl ?_
    refine zj_iload_n (zdk ttX8_opponent 11 rfl rfl) rfl ?_
    refine zj_icmp_ne (t := 25) (zdk ttX8_opponent 12 rfl rfl) (by decide) (by omega) (by omega) (fun c2 => ?_) (fun c2 => ?_)
    · refine zj_iload_n (zdk ttX8_opponent 17 rfl rfl) rfl ?_
      refine zj_iload_n (zdk ttX8_opponent 18 rfl rfl) rfl ?_
      refine zj_isub (zdk ttX8_opponent 19 rfl rfl) ?_
      refine zj_iconst (zdk ttX8_opponent 20 rfl rfl) ?_
      refine zj_iload_n (zdk ttX8_opponent 21 rfl rfl) rfl ?_
      refine zj_max (zdk ttX8_opponent 22 rfl rfl) mx_RX8_37 (by decide) (by omega) (Nat.le_of_ble_eq_true rfl) (rm_m (by decide)) ?_
      have b3 := zm_max_f 1 p1
      refine zj_callS (av := [.inl (p2 - p3), .inl (zm_max 1 p1)]) (st := []) (zdk ttX8_opponent 23 rfl rfl) mb_J9_floorMod_7cf53 ms_RX8_104 rfl rfl (Nat.le_of_ble_eq_true rfl) (s_J9_floorMod_7cf53 shC l h (p2 - p3) (zm_max 1 p1) (by omega) (by omega)) (rm_ok (by decide) (by decide)) (zq_i fun v4 h5 q6 => ?_)
      obtain ⟨rfl, b7⟩ := q6
      have b7n := Int.emod_nonneg (p2 - p3) (show (zm_max 1 p1) ≠ 0 by omega)
      have b7l := Int.emod_lt_of_pos (p2 - p3) (show 0 < (zm_max 1 p1) by omega)
      refine zj_istore (L' := [some (.inl p1), some (.inl p2), some (.inl p3), some (.inl p1), some (.inl v4)]) (zdk ttX8_opponent 24 rfl rfl) (by decide) rfl ?_
      refine zj_iload (zdk ttX8_opponent 25 rfl rfl) rfl ?_
      refine zj_iload_n (zdk ttX8_opponent 26 rfl rfl) rfl ?_
      refine zj_icmp_eq (t := 47) (zdk ttX8_opponent 27 rfl rfl) (by decide) (by omega) (by omega) (fun c8 => ?_) (fun c8 => ?_)
      · refine zj_iload_n (zdk ttX8_opponent 30 rfl rfl) rfl ?_
        refine zj_iload_n (zdk ttX8_opponent 31 rfl rfl) rfl ?_
        refine zj_icmp_ne (t := 56) (zdk ttX8_opponent 32 rfl rfl) (by decide) (by omega) (by omega) (fun c9 => ?_) (fun c9 => ?_)
        · exact absurd c9 (by omega)
        · refine zj_iconst (zdk ttX8_opponent 33 rfl rfl) ?_
          refine zj_goto (t := 57) (zdk ttX8_opponent 34 rfl rfl) (by decide) ?_
          exact zj_iret rfl (zdk ttX8_opponent 36 rfl rfl) (Nat.le_refl _) (Nat.le_refl _) ⟨(-1), rfl, rfl, by omega, by intro l8 z8 z9; have e9 : l8 = p1 := (by omega); rw [e9]; have f9 := zm_max_f 1 p1; have g9 : zm_max 1 p1 = p1 := (by omega); have e8 : (p2 - p3) % zm_max 1 p1 = (p2 - p3) % p1 := (by rw [g9]); unfold zagl; omega⟩
      · refine zj_iload (zdk ttX8_opponent 28 rfl rfl) rfl ?_
        exact zj_iret rfl (zdk ttX8_opponent 29 rfl rfl) (Nat.le_refl _) (Nat.le_refl _) ⟨v4, rfl, rfl, by omega, by intro l8 z8 z9; have e9 : l8 = p1 := (by omega); rw [e9]; have f9 := zm_max_f 1 p1; have g9 : zm_max 1 p1 = p1 := (by omega); have e8 : (p2 - p3) % zm_max 1 p1 = (p2 - p3) % p1 := (by rw [g9]); unfold zagl; omega⟩
    · refine zj_iload_n (zdk ttX8_opponent 13 rfl rfl) rfl ?_
      refine zj_iload_n (zdk ttX8_opponent 14 rfl rfl) rfl ?_
      refine zj_callS (av := [.inl p1, .inl p2]) (st := []) (zdk ttX8_opponent 15 rfl rfl) mb_X8_meetsLast ms_RX8_101 rfl rfl (Nat.le_of_ble_eq_true rfl) (s2_X8_meetsLast l h p1 p2 s0 (by omega) (by omega)) (rm_ok (by decide) (by decide)) (zq_i fun v11 h12 q10 => ?_)
      obtain ⟨rfl, b13, u14⟩ := q10
      exact zj_iret rfl (zdk ttX8_opponent 16 rfl rfl) (Nat.le_refl _) (Nat.le_refl _) ⟨v11, rfl, rfl, by omega, by intro l8 z8 z9; have e9 : l8 = p1 := (by omega); rw [e9]; have f9 := zm_max_f 1 p1; have g9 : zm_max 1 p1 = p1 := (by omega); have e8 : (p2 - p3) % zm_max 1 p1 = (p2 - p3) % p1 := (by rw [g9]); unfold zagl; omega⟩
  · refine zj_iload_n (zdk ttX8_opponent 4 rfl rfl) rfl ?_
    refine zj_iconst (zdk ttX8_opponent 5 rfl rfl) ?_
    refine zj_isub (zdk ttX8_opponent 6 rfl rfl) ?_
    refine zj_goto (t := 13) (zdk ttX8_opponent 7 rfl rfl) (by decide) ?_
    refine zj_istore_n (L' := [some (.inl p1), some (.inl p2), some (.inl p3), some (.inl (p1 - 1)), none]) (zdk ttX8_opponent 9 rfl rfl) (by decide) rfl ?_
    refine zj_iload_n (zdk ttX8_opponent 10 rfl rfl) rfl ?_
    refine zj_iload_n (zdk ttX8_opponent 11 rfl rfl) rfl ?_
    refine zj_icmp_ne (t := 25) (zdk ttX8_opponent 12 rfl rfl) (by decide) (by omega) (by omega) (fun c15 => ?_) (fun c15 => ?_)
    · refine zj_iload_n (zdk ttX8_opponent 17 rfl rfl) rfl ?_
      refine zj_iload_n (zdk ttX8_opponent 18 rfl rfl) rfl ?_
      refine zj_isub (zdk ttX8_opponent 19 rfl rfl) ?_
      refine zj_iconst (zdk ttX8_opponent 20 rfl rfl) ?_
      refine zj_iload_n (zdk ttX8_opponent 21 rfl rfl) rfl ?_
      refine zj_max (zdk ttX8_opponent 22 rfl rfl) mx_RX8_37 (by decide) (by omega) (Nat.le_of_ble_eq_true rfl) (rm_m (by decide)) ?_
      have b16 := zm_max_f 1 (p1 - 1)
      refine zj_callS (av := [.inl (p2 - p3), .inl (zm_max 1 (p1 - 1))]) (st := []) (zdk ttX8_opponent 23 rfl rfl) mb_J9_floorMod_7cf53 ms_RX8_104 rfl rfl (Nat.le_of_ble_eq_true rfl) (s_J9_floorMod_7cf53 shC l h (p2 - p3) (zm_max 1 (p1 - 1)) (by omega) (by omega)) (rm_ok (by decide) (by decide)) (zq_i fun v17 h18 q19 => ?_)
      obtain ⟨rfl, b20⟩ := q19
      have b20n := Int.emod_nonneg (p2 - p3) (show (zm_max 1 (p1 - 1)) ≠ 0 by omega)
      have b20l := Int.emod_lt_of_pos (p2 - p3) (show 0 < (zm_max 1 (p1 - 1)) by omega)
      refine zj_istore (L' := [some (.inl p1), some (.inl p2), some (.inl p3), some (.inl (p1 - 1)), some (.inl v17)]) (zdk ttX8_opponent 24 rfl rfl) (by decide) rfl ?_
      refine zj_iload (zdk ttX8_opponent 25 rfl rfl) rfl ?_
      refine zj_iload_n (zdk ttX8_opponent 26 rfl rfl) rfl ?_
      refine zj_icmp_eq (t := 47) (zdk ttX8_opponent 27 rfl rfl) (by decide) (by omega) (by omega) (fun c21 => ?_) (fun c21 => ?_)
      · refine zj_iload_n (zdk ttX8_opponent 30 rfl rfl) rfl ?_
        refine zj_iload_n (zdk ttX8_opponent 31 rfl rfl) rfl ?_
        refine zj_icmp_ne (t := 56) (zdk ttX8_opponent 32 rfl rfl) (by decide) (by omega) (by omega) (fun c22 => ?_) (fun c22 => ?_)
        · refine zj_iload_n (zdk ttX8_opponent 35 rfl rfl) rfl ?_
          exact zj_iret rfl (zdk ttX8_opponent 36 rfl rfl) (Nat.le_refl _) (Nat.le_refl _) ⟨(p1 - 1), rfl, rfl, by omega, by intro l8 z8 z9; have e9 : l8 = (p1 - 1) := (by omega); rw [e9]; have f9 := zm_max_f 1 (p1 - 1); have g9 : zm_max 1 (p1 - 1) = (p1 - 1) := (by omega); have e8 : (p2 - p3) % zm_max 1 (p1 - 1) = (p2 - p3) % (p1 - 1) := (by rw [g9]); unfold zagl; omega⟩
        · exact absurd c22 (by omega)
      · refine zj_iload (zdk ttX8_opponent 28 rfl rfl) rfl ?_
        exact zj_iret rfl (zdk ttX8_opponent 29 rfl rfl) (Nat.le_refl _) (Nat.le_refl _) ⟨v17, rfl, rfl, by omega, by intro l8 z8 z9; have e9 : l8 = (p1 - 1) := (by omega); rw [e9]; have f9 := zm_max_f 1 (p1 - 1); have g9 : zm_max 1 (p1 - 1) = (p1 - 1) := (by omega); have e8 : (p2 - p3) % zm_max 1 (p1 - 1) = (p2 - p3) % (p1 - 1) := (by rw [g9]); unfold zagl; omega⟩
    · refine zj_iload_n (zdk ttX8_opponent 13 rfl rfl) rfl ?_
      refine zj_iload_n (zdk ttX8_opponent 14 rfl rfl) rfl ?_
      refine zj_callS (av := [.inl (p1 - 1), .inl p2]) (st := []) (zdk ttX8_opponent 15 rfl rfl) mb_X8_meetsLast ms_RX8_101 rfl rfl (Nat.le_of_ble_eq_true rfl) (s2_X8_meetsLast l h (p1 - 1) p2 s0 (by omega) (by omega)) (rm_ok (by decide) (by decide)) (zq_i fun v24 h25 q23 => ?_)
      obtain ⟨rfl, b26, u27⟩ := q23
      exact zj_iret rfl (zdk ttX8_opponent 16 rfl rfl) (Nat.le_refl _) (Nat.le_refl _) ⟨v24, rfl, rfl, by omega, by intro l8 z8 z9; have e9 : l8 = (p1 - 1) := (by omega); rw [e9]; have f9 := zm_max_f 1 (p1 - 1); have g9 : zm_max 1 (p1 - 1) = (p1 - 1) := (by omega); have e8 : (p2 - p3) % zm_max 1 (p1 - 1) = (p2 - p3) % (p1 - 1) := (by rw [g9]); unfold zagl; omega⟩

abbrev q2_X10_against (h : zM) (p1 : Int) (p2 : Int) (p3 : Int) : Option zV → zM → Prop := zqi fun v h' => ((-2147483648) ≤ v ∧ v ≤ 2147483647) ∧ okC h' ∧ (zagd p1 p2 p3 v)
set_option maxRecDepth 100000 in
set_option maxHeartbeats 4000000 in
theorem s2_X10_against (l : Launch) (h : zM) (p1 : Int) (p2 : Int) (p3 : Int) (s0 : okC h) (b_p1 : (-2147483648) ≤ p1 ∧ p1 ≤ 2147483647) (b_p2 : (-2147483648) ≤ p2 ∧ p2 ≤ 2147483647) (b_p3 : (-2147483648) ≤ p3 ∧ p3 ≤ 2147483647) : zT shC l yX10_against cX10_against 4 (some .int) (rmL 3) 0 0 [.inr 0, .inl p1, .inl p2, .inl p3] h (q2_X10_against h p1 p2 p3) := by
  refine zT_of (by decide +kernel) (L0 := [some (.inr 0), some (.inl p1), some (.inl p2), some (.inl p3)]) rfl (Nat.le_of_ble_eq_true rfl) ?_
  refine zj_iload_n (zdk ttX10_against 0 rfl rfl) rfl ?_
  refine zj_iconst (zdk ttX10_against 1 rfl rfl) ?_
  refine zj_bipush (zdk ttX10_against 2 rfl rfl) (by decide) ?_
  refine zj_callS (av := [.inl p1, .inl 2, .inl 16]) (st := []) (zdk ttX10_against 3 rfl rfl) mb_X10_within ms_RX10_77 rfl rfl (Nat.le_of_ble_eq_true rfl) (s_X10_within l h p1 2 16 s0 (by omega) (by omega) (by omega)) (rm_ok (by decide) (by decide)) (zq_i fun v2 h3 q1 => ?_)
  obtain ⟨rfl, ⟨rfl, b4⟩ | ⟨rfl, b4⟩⟩ := q1
  · refine zj_if_eq (t := 32) (zdk ttX10_against 4 rfl rfl) (by decide) (by decide) (fun c5 => ?_) (fun c5 => ?_)
    · refine zj_iconst (zdk ttX10_against 17 rfl rfl) ?_
      exact zj_iret rfl (zdk ttX10_against 18 rfl rfl) (Nat.le_refl _) (Nat.le_refl _) ⟨(-1), rfl, by omega, s0, by first | exact zagd_n (by unfold zagg; omega) (by omega) | exact zagd_y (by unfold zagg; omega) (by assumption)⟩
    · exact absurd c5 (by omega)
  · refine zj_if_eq (t := 32) (zdk ttX10_against 4 rfl rfl) (by decide) (by decide) (fun c6 => ?_) (fun c6 => ?_)
    · exact absurd c6 (by omega)
    · refine zj_iload_n (zdk ttX10_against 5 rfl rfl) rfl ?_
      refine zj_iconst (zdk ttX10_against 6 rfl rfl) ?_
      refine zj_sipush (zdk ttX10_against 7 rfl rfl) (by decide) ?_
      refine zj_callS (av := [.inl p2, .inl 0, .inl 999]) (st := []) (zdk ttX10_against 8 rfl rfl) mb_X10_within ms_RX10_77 rfl rfl (Nat.le_of_ble_eq_true rfl) (s_X10_within l h p2 0 999 s0 (by omega) (by omega) (by omega)) (rm_ok (by decide) (by decide)) (zq_i fun v8 h9 q7 => ?_)
      obtain ⟨rfl, ⟨rfl, b10⟩ | ⟨rfl, b10⟩⟩ := q7
      · refine zj_if_eq (t := 32) (zdk ttX10_against 9 rfl rfl) (by decide) (by decide) (fun c11 => ?_) (fun c11 => ?_)
        · refine zj_iconst (zdk ttX10_against 17 rfl rfl) ?_
          exact zj_iret rfl (zdk ttX10_against 18 rfl rfl) (Nat.le_refl _) (Nat.le_refl _) ⟨(-1), rfl, by omega, s0, by first | exact zagd_n (by unfold zagg; omega) (by omega) | exact zagd_y (by unfold zagg; omega) (by assumption)⟩
        · exact absurd c11 (by omega)
      · refine zj_if_eq (t := 32) (zdk ttX10_against 9 rfl rfl) (by decide) (by decide) (fun c12 => ?_) (fun c12 => ?_)
        · exact absurd c12 (by omega)
        · refine zj_iload_n (zdk ttX10_against 10 rfl rfl) rfl ?_
          refine zj_iconst (zdk ttX10_against 11 rfl rfl) ?_
          refine zj_iload_n (zdk ttX10_against 12 rfl rfl) rfl ?_
          refine zj_iconst (zdk ttX10_against 13 rfl rfl) ?_
          refine zj_isub (zdk ttX10_against 14 rfl rfl) ?_
          refine zj_callS (av := [.inl p3, .inl 0, .inl (p1 - 1)]) (st := []) (zdk ttX10_against 15 rfl rfl) mb_X10_within ms_RX10_77 rfl rfl (Nat.le_of_ble_eq_true rfl) (s_X10_within l h p3 0 (p1 - 1) s0 (by omega) (by omega) (by omega)) (rm_ok (by decide) (by decide)) (zq_i fun v14 h15 q13 => ?_)
          obtain ⟨rfl, ⟨rfl, b16⟩ | ⟨rfl, b16⟩⟩ := q13
          · refine zj_if_ne (t := 34) (zdk ttX10_against 16 rfl rfl) (by decide) (by decide) (fun c17 => ?_) (fun c17 => ?_)
            · exact absurd c17 (by omega)
            · refine zj_iconst (zdk ttX10_against 17 rfl rfl) ?_
              exact zj_iret rfl (zdk ttX10_against 18 rfl rfl) (Nat.le_refl _) (Nat.le_refl _) ⟨(-1), rfl, by omega, s0, by first | exact zagd_n (by unfold zagg; omega) (by omega) | exact zagd_y (by unfold zagg; omega) (by assumption)⟩
          · refine zj_if_ne (t := 34) (zdk ttX10_against 16 rfl rfl) (by decide) (by decide) (fun c18 => ?_) (fun c18 => ?_)
            · refine zj_iload_n (zdk ttX10_against 19 rfl rfl) rfl ?_
              refine zj_iload_n (zdk ttX10_against 20 rfl rfl) rfl ?_
              refine zj_iload_n (zdk ttX10_against 21 rfl rfl) rfl ?_
              refine zj_callS (av := [.inl p1, .inl p2, .inl p3]) (st := []) (zdk ttX10_against 22 rfl rfl) mb_X8_opponent ms_RX10_309 rfl rfl (Nat.le_of_ble_eq_true rfl) (s2_X8_opponent l h p1 p2 p3 s0 (by omega) (by omega) (by omega)) (rm_ok (by decide) (by decide)) (zq_i fun v20 h21 q19 => ?_)
              obtain ⟨rfl, b22, u23⟩ := q19
              exact zj_iret rfl (zdk ttX10_against 23 rfl rfl) (Nat.le_refl _) (Nat.le_refl _) ⟨v20, rfl, by omega, s0, by first | exact zagd_n (by unfold zagg; omega) (by omega) | exact zagd_y (by unfold zagg; omega) (by assumption)⟩
            · exact absurd c18 (by omega)

abbrev q2_X11_against (h : zM) (p1 : Int) (p2 : Int) (p3 : Int) : Option zV → zM → Prop := zqi fun v h' => ((-2147483648) ≤ v ∧ v ≤ 2147483647) ∧ okM h' ∧ zfr [0] [] h h' ∧ (zagd p1 p2 p3 v)
set_option maxRecDepth 100000 in
set_option maxHeartbeats 4000000 in
theorem s2_X11_against (l : Launch) (h : zM) (p1 : Int) (p2 : Int) (p3 : Int) (s0 : okM h) (b_p1 : (-2147483648) ≤ p1 ∧ p1 ≤ 2147483647) (b_p2 : (-2147483648) ≤ p2 ∧ p2 ≤ 2147483647) (b_p3 : (-2147483648) ≤ p3 ∧ p3 ≤ 2147483647) : zT shM l yX11_against cX11_against 7 (some .int) (rmL 2) 0 0 [.inr 0, .inl p1, .inl p2, .inl p3] h (q2_X11_against h p1 p2 p3) := by
  refine zT_of (by decide +kernel) (L0 := [some (.inr 0), some (.inl p1), some (.inl p2), some (.inl p3), none, none, none]) rfl (Nat.le_of_ble_eq_true rfl) ?_
  refine zj_aload_n (zdk ttX11_against 0 rfl rfl) rfl (by decide) ?_
  refine zj_iconst (zdk ttX11_against 1 rfl rfl) ?_
  refine zj_puti (zdk ttX11_against 2 rfl rfl) zf_RX11_120 rfl (k_M s0) (Or.inl zw_RX11_120) (k2 := 0) rfl (fun h1 e2 => ?_)
  refine zj_aload_n (zdk ttX11_against 3 rfl rfl) rfl (by decide) ?_
  refine zj_iload_n (zdk ttX11_against 4 rfl rfl) rfl ?_
  refine zj_iconst (zdk ttX11_against 5 rfl rfl) ?_
  refine zj_bipush (zdk ttX11_against 6 rfl rfl) (by decide) ?_
  have s3 : okM h1 := fwM_0 s0 e2 (by omega)
  refine zj_callV (av := [.inl p1, .inl 2, .inl 16]) (st := []) (zdk ttX11_against 7 rfl rfl) mb_X11_isIn mv_RX11_139 (ci := 11) rfl rfl (k_M s3) rfl rfl (Nat.le_of_ble_eq_true rfl) (s_X11_isIn l h1 p1 2 16 s3 (by omega) (by omega) (by omega)) (rm_ok (by decide) (by decide)) (zq_i fun v5 h6 q4 => ?_)
  obtain ⟨rfl, ⟨rfl, b7⟩ | ⟨rfl, b7⟩⟩ := q4
  · refine zj_if_eq (t := 40) (zdk ttX11_against 8 rfl rfl) (by decide) (by decide) (fun c8 => ?_) (fun c8 => ?_)
    · refine zj_iconst (zdk ttX11_against 23 rfl rfl) ?_
      have f9 : zfr [0] [] h h1 := zfr_wf (zfr_r _ _ _) e2 rfl
      exact zj_iret rfl (zdk ttX11_against 24 rfl rfl) (Nat.le_refl _) (Nat.le_refl _) ⟨(-1), rfl, by omega, s3, f9, zagd_n (by unfold zagg; omega) (by omega)⟩
    · exact absurd c8 (by omega)
  · refine zj_if_eq (t := 40) (zdk ttX11_against 8 rfl rfl) (by decide) (by decide) (fun c10 => ?_) (fun c10 => ?_)
    · exact absurd c10 (by omega)
    · refine zj_aload_n (zdk ttX11_against 9 rfl rfl) rfl (by decide) ?_
      refine zj_iload_n (zdk ttX11_against 10 rfl rfl) rfl ?_
      refine zj_iconst (zdk ttX11_against 11 rfl rfl) ?_
      refine zj_sipush (zdk ttX11_against 12 rfl rfl) (by decide) ?_
      refine zj_callV (av := [.inl p2, .inl 0, .inl 999]) (st := []) (zdk ttX11_against 13 rfl rfl) mb_X11_isIn mv_RX11_139 (ci := 11) rfl rfl (k_M s3) rfl rfl (Nat.le_of_ble_eq_true rfl) (s_X11_isIn l h1 p2 0 999 s3 (by omega) (by omega) (by omega)) (rm_ok (by decide) (by decide)) (zq_i fun v12 h13 q11 => ?_)
      obtain ⟨rfl, ⟨rfl, b14⟩ | ⟨rfl, b14⟩⟩ := q11
      · refine zj_if_eq (t := 40) (zdk ttX11_against 14 rfl rfl) (by decide) (by decide) (fun c15 => ?_) (fun c15 => ?_)
        · refine zj_iconst (zdk ttX11_against 23 rfl rfl) ?_
          have f16 : zfr [0] [] h h1 := zfr_wf (zfr_r _ _ _) e2 rfl
          exact zj_iret rfl (zdk ttX11_against 24 rfl rfl) (Nat.le_refl _) (Nat.le_refl _) ⟨(-1), rfl, by omega, s3, f16, zagd_n (by unfold zagg; omega) (by omega)⟩
        · exact absurd c15 (by omega)
      · refine zj_if_eq (t := 40) (zdk ttX11_against 14 rfl rfl) (by decide) (by decide) (fun c17 => ?_) (fun c17 => ?_)
        · exact absurd c17 (by omega)
        · refine zj_aload_n (zdk ttX11_against 15 rfl rfl) rfl (by decide) ?_
          refine zj_iload_n (zdk ttX11_against 16 rfl rfl) rfl ?_
          refine zj_iconst (zdk ttX11_against 17 rfl rfl) ?_
          refine zj_iload_n (zdk ttX11_against 18 rfl rfl) rfl ?_
          refine zj_iconst (zdk ttX11_against 19 rfl rfl) ?_
          refine zj_isub (zdk ttX11_against 20 rfl rfl) ?_
          refine zj_callV (av := [.inl p3, .inl 0, .inl (p1 - 1)]) (st := []) (zdk ttX11_against 21 rfl rfl) mb_X11_isIn mv_RX11_139 (ci := 11) rfl rfl (k_M s3) rfl rfl (Nat.le_of_ble_eq_true rfl) (s_X11_isIn l h1 p3 0 (p1 - 1) s3 (by omega) (by omega) (by omega)) (rm_ok (by decide) (by decide)) (zq_i fun v19 h20 q18 => ?_)
          obtain ⟨rfl, ⟨rfl, b21⟩ | ⟨rfl, b21⟩⟩ := q18
          · refine zj_if_ne (t := 42) (zdk ttX11_against 22 rfl rfl) (by decide) (by decide) (fun c22 => ?_) (fun c22 => ?_)
            · exact absurd c22 (by omega)
            · refine zj_iconst (zdk ttX11_against 23 rfl rfl) ?_
              have f23 : zfr [0] [] h h1 := zfr_wf (zfr_r _ _ _) e2 rfl
              exact zj_iret rfl (zdk ttX11_against 24 rfl rfl) (Nat.le_refl _) (Nat.le_refl _) ⟨(-1), rfl, by omega, s3, f23, zagd_n (by unfold zagg; omega) (by omega)⟩
          · refine zj_if_ne (t := 42) (zdk ttX11_against 22 rfl rfl) (by decide) (by decide) (fun c24 => ?_) (fun c24 => ?_)
            · refine zj_iload_n (zdk ttX11_against 25 rfl rfl) rfl ?_
              refine zj_iconst (zdk ttX11_against 26 rfl rfl) ?_
              refine zj_iremP (zdk ttX11_against 27 rfl rfl) (by omega) (by omega) ?_
              refine zj_if_ne (t := 54) (zdk ttX11_against 28 rfl rfl) (by decide) (by omega) (fun c25 => ?_) (fun c25 => ?_)
              · refine zj_iload_n (zdk ttX11_against 33 rfl rfl) rfl ?_
                refine zj_istore (L' := [some (.inr 0), some (.inl p1), some (.inl p2), some (.inl p3), some (.inl p1), none, none]) (zdk ttX11_against 34 rfl rfl) (by decide) rfl ?_
                refine zj_iconst (zdk ttX11_against 35 rfl rfl) ?_
                refine zj_istore (L' := [some (.inr 0), some (.inl p1), some (.inl p2), some (.inl p3), some (.inl p1), some (.inl (-1)), none]) (zdk ttX11_against 36 rfl rfl) (by decide) rfl ?_
                refine zj_iconst (zdk ttX11_against 37 rfl rfl) ?_
                refine zj_istore (L' := [some (.inr 0), some (.inl p1), some (.inl p2), some (.inl p3), some (.inl p1), some (.inl (-1)), some (.inl 0)]) (zdk ttX11_against 38 rfl rfl) (by decide) rfl ?_
                have lp48 : ∀ (n63 : Nat) (x26 x27 : Int), (-1 ≤ x26 ∧ x26 ≤ 16) → (0 ≤ x27 ∧ x27 ≤ 16) → (p3 = p1 → zaj p2 p1 < x27 → x26 = zaj p2 p1) → (p3 < p1 → (p2 - p3) % p1 < x27 → ¬ (p2 - p3) % p1 = p3 → x26 = (p2 - p3) % p1) → (p3 < p1 → (p2 - p3) % p1 < x27 → (p2 - p3) % p1 = p3 → x26 = p1) → (x27 ≤ p1) → (17 - x27).toNat < n63 → zJ shM l yX11_against cX11_against 7 (some .int) (rmL 2) 0 0 (q2_X11_against h p1 p2 p3) 0 0 63 [some (.inr 0), some (.inl p1), some (.inl p2), some (.inl p3), some (.inl p1), some (.inl x26), some (.inl x27)] [] h1 := by
                  intro n63
                  induction n63 with
                  | zero => intro x26 x27 b49 b50 u51 u52 u53 u54 m55; exact absurd m55 (Nat.not_lt_zero _)
                  | succ n63 ih56 =>
                    intro x26 x27 b49 b50 u51 u52 u53 u54 m55
                    refine zj_iload (zdk ttX11_against 39 rfl rfl) rfl ?_
                    refine zj_iload (zdk ttX11_against 40 rfl rfl) rfl ?_
                    refine zj_icmp_ge (t := 136) (zdk ttX11_against 41 rfl rfl) (by decide) (by omega) (by omega) (fun c57 => ?_) (fun c57 => ?_)
                    · refine zj_iload (zdk ttX11_against 77 rfl rfl) rfl ?_
                      refine zj_iload_n (zdk ttX11_against 78 rfl rfl) rfl ?_
                      refine zj_icmp_lt (t := 146) (zdk ttX11_against 79 rfl rfl) (by decide) (by omega) (by omega) (fun c58 => ?_) (fun c58 => ?_)
                      · refine zj_iload (zdk ttX11_against 82 rfl rfl) rfl ?_
                        have f59 : zfr [0] [] h h1 := zfr_wf (zfr_r _ _ _) e2 rfl
                        exact zj_iret rfl (zdk ttX11_against 83 rfl rfl) (Nat.le_refl _) (Nat.le_refl _) ⟨x26, rfl, by omega, s3, f59, zagd_y (by unfold zagg; omega) (by intro l8 z8 z9; have e9 : l8 = p1 := (by omega); rw [e9]; have b8 := zaj_b p2 (l := p1) (by omega); have f8 := Int.emod_nonneg (p2 - p3) (show p1 ≠ 0 by omega); have f9 := Int.emod_lt_of_pos (p2 - p3) (show 0 < p1 by omega); unfold zagl; omega)⟩
                      · refine zj_iconst (zdk ttX11_against 80 rfl rfl) ?_
                        refine zj_goto (t := 148) (zdk ttX11_against 81 rfl rfl) (by decide) ?_
                        have f60 : zfr [0] [] h h1 := zfr_wf (zfr_r _ _ _) e2 rfl
                        exact zj_iret rfl (zdk ttX11_against 83 rfl rfl) (Nat.le_refl _) (Nat.le_refl _) ⟨(-1), rfl, by omega, s3, f60, zagd_y (by unfold zagg; omega) (by intro l8 z8 z9; have e9 : l8 = p1 := (by omega); rw [e9]; have b8 := zaj_b p2 (l := p1) (by omega); have f8 := Int.emod_nonneg (p2 - p3) (show p1 ≠ 0 by omega); have f9 := Int.emod_lt_of_pos (p2 - p3) (show 0 < p1 by omega); unfold zagl; omega)⟩
                    · refine zj_iload_n (zdk ttX11_against 42 rfl rfl) rfl ?_
                      refine zj_iload (zdk ttX11_against 43 rfl rfl) rfl ?_
                      refine zj_icmp_ne (t := 95) (zdk ttX11_against 44 rfl rfl) (by decide) (by omega) (by omega) (fun c61 => ?_) (fun c61 => ?_)
                      · refine zj_iload_n (zdk ttX11_against 56 rfl rfl) rfl ?_
                        refine zj_iload (zdk ttX11_against 57 rfl rfl) rfl ?_
                        refine zj_icmp_ge (t := 130) (zdk ttX11_against 58 rfl rfl) (by decide) (by omega) (by omega) (fun c62 => ?_) (fun c62 => ?_)
                        · refine zj_iinc (L' := [some (.inr 0), some (.inl p1), some (.inl p2), some (.inl p3), some (.inl p1), some (.inl x26), some (.inl (x27 + 1))]) (zdk ttX11_against 75 rfl rfl) rfl (by decide) rfl ?_
                          refine zj_goto (t := 63) (zdk ttX11_against 76 rfl rfl) (by decide) ?_
                          have b63 := zaf3 p2 (l := p1) (j := x27) (by omega) (by omega)
                          have b63f := zaf2 p2 p3 (l := p1) (j := x27) (by omega) (by omega)
                          exact ih56  x26 (x27 + 1) (by omega) (by omega) (by omega) (by omega) (by omega) (by omega) (by omega)
                        · refine zj_iload_n (zdk ttX11_against 59 rfl rfl) rfl ?_
                          refine zj_iload (zdk ttX11_against 60 rfl rfl) rfl ?_
                          refine zj_iadd (zdk ttX11_against 61 rfl rfl) ?_
                          refine zj_iload (zdk ttX11_against 62 rfl rfl) rfl ?_
                          refine zj_iremP (zdk ttX11_against 63 rfl rfl) (by omega) (by omega) ?_
                          have b64 := zmod_b (x := (p3 + x27)) (b := p1) (by omega) (by omega)
                          refine zj_iload_n (zdk ttX11_against 64 rfl rfl) rfl ?_
                          refine zj_iload (zdk ttX11_against 65 rfl rfl) rfl ?_
                          refine zj_iremP (zdk ttX11_against 66 rfl rfl) (by omega) (by omega) ?_
                          have b65 := zmod_b (x := p2) (b := p1) (by omega) (by omega)
                          refine zj_icmp_ne (t := 130) (zdk ttX11_against 67 rfl rfl) (by decide) (by omega) (by omega) (fun c66 => ?_) (fun c66 => ?_)
                          · refine zj_iinc (L' := [some (.inr 0), some (.inl p1), some (.inl p2), some (.inl p3), some (.inl p1), some (.inl x26), some (.inl (x27 + 1))]) (zdk ttX11_against 75 rfl rfl) rfl (by decide) rfl ?_
                            refine zj_goto (t := 63) (zdk ttX11_against 76 rfl rfl) (by decide) ?_
                            have b67 := zaf3 p2 (l := p1) (j := x27) (by omega) (by omega)
                            have b67f := zaf2 p2 p3 (l := p1) (j := x27) (by omega) (by omega)
                            exact ih56  x26 (x27 + 1) (by omega) (by omega) (by omega) (by omega) (by omega) (by omega) (by omega)
                          · refine zj_iload (zdk ttX11_against 68 rfl rfl) rfl ?_
                            refine zj_iload_n (zdk ttX11_against 69 rfl rfl) rfl ?_
                            refine zj_icmp_ne (t := 126) (zdk ttX11_against 70 rfl rfl) (by decide) (by omega) (by omega) (fun c68 => ?_) (fun c68 => ?_)
                            · refine zj_iload (zdk ttX11_against 73 rfl rfl) rfl ?_
                              refine zj_istore (L' := [some (.inr 0), some (.inl p1), some (.inl p2), some (.inl p3), some (.inl p1), some (.inl x27), some (.inl x27)]) (zdk ttX11_against 74 rfl rfl) (by decide) rfl ?_
                              refine zj_iinc (L' := [some (.inr 0), some (.inl p1), some (.inl p2), some (.inl p3), some (.inl p1), some (.inl x27), some (.inl (x27 + 1))]) (zdk ttX11_against 75 rfl rfl) rfl (by decide) rfl ?_
                              refine zj_goto (t := 63) (zdk ttX11_against 76 rfl rfl) (by decide) ?_
                              have b69 := zaf3 p2 (l := p1) (j := x27) (by omega) (by omega)
                              have b69f := zaf2 p2 p3 (l := p1) (j := x27) (by omega) (by omega)
                              exact ih56  x27 (x27 + 1) (by omega) (by omega) (by omega) (by omega) (by omega) (by omega) (by omega)
                            · refine zj_iload (zdk ttX11_against 71 rfl rfl) rfl ?_
                              refine zj_goto (t := 128) (zdk ttX11_against 72 rfl rfl) (by decide) ?_
                              refine zj_istore (L' := [some (.inr 0), some (.inl p1), some (.inl p2), some (.inl p3), some (.inl p1), some (.inl p1), some (.inl x27)]) (zdk ttX11_against 74 rfl rfl) (by decide) rfl ?_
                              refine zj_iinc (L' := [some (.inr 0), some (.inl p1), some (.inl p2), some (.inl p3), some (.inl p1), some (.inl p1), some (.inl (x27 + 1))]) (zdk ttX11_against 75 rfl rfl) rfl (by decide) rfl ?_
                              refine zj_goto (t := 63) (zdk ttX11_against 76 rfl rfl) (by decide) ?_
                              have b70 := zaf3 p2 (l := p1) (j := x27) (by omega) (by omega)
                              have b70f := zaf2 p2 p3 (l := p1) (j := x27) (by omega) (by omega)
                              exact ih56  p1 (x27 + 1) (by omega) (by omega) (by omega) (by omega) (by omega) (by omega) (by omega)
                      · refine zj_iload (zdk ttX11_against 45 rfl rfl) rfl ?_
                        refine zj_iload (zdk ttX11_against 46 rfl rfl) rfl ?_
                        refine zj_iadd (zdk ttX11_against 47 rfl rfl) ?_
                        refine zj_iload (zdk ttX11_against 48 rfl rfl) rfl ?_
                        refine zj_iremP (zdk ttX11_against 49 rfl rfl) (by omega) (by omega) ?_
                        have b71 := zmod_b (x := (x27 + x27)) (b := p1) (by omega) (by omega)
                        refine zj_iload_n (zdk ttX11_against 50 rfl rfl) rfl ?_
                        refine zj_iload (zdk ttX11_against 51 rfl rfl) rfl ?_
                        refine zj_iremP (zdk ttX11_against 52 rfl rfl) (by omega) (by omega) ?_
                        have b72 := zmod_b (x := p2) (b := p1) (by omega) (by omega)
                        refine zj_icmp_ne (t := 95) (zdk ttX11_against 53 rfl rfl) (by decide) (by omega) (by omega) (fun c73 => ?_) (fun c73 => ?_)
                        · refine zj_iload_n (zdk ttX11_against 56 rfl rfl) rfl ?_
                          refine zj_iload (zdk ttX11_against 57 rfl rfl) rfl ?_
                          refine zj_icmp_ge (t := 130) (zdk ttX11_against 58 rfl rfl) (by decide) (by omega) (by omega) (fun c74 => ?_) (fun c74 => ?_)
                          · refine zj_iinc (L' := [some (.inr 0), some (.inl p1), some (.inl p2), some (.inl p3), some (.inl p1), some (.inl x26), some (.inl (x27 + 1))]) (zdk ttX11_against 75 rfl rfl) rfl (by decide) rfl ?_
                            refine zj_goto (t := 63) (zdk ttX11_against 76 rfl rfl) (by decide) ?_
                            have b75 := zaf3 p2 (l := p1) (j := x27) (by omega) (by omega)
                            have b75f := zaf2 p2 p3 (l := p1) (j := x27) (by omega) (by omega)
                            exact ih56  x26 (x27 + 1) (by omega) (by omega) (by omega) (by omega) (by omega) (by omega) (by omega)
                          · refine zj_iload_n (zdk ttX11_against 59 rfl rfl) rfl ?_
                            refine zj_iload (zdk ttX11_against 60 rfl rfl) rfl ?_
                            refine zj_iadd (zdk ttX11_against 61 rfl rfl) ?_
                            refine zj_iload (zdk ttX11_against 62 rfl rfl) rfl ?_
                            refine zj_iremP (zdk ttX11_against 63 rfl rfl) (by omega) (by omega) ?_
                            have b76 := zmod_b (x := (p3 + x27)) (b := p1) (by omega) (by omega)
                            refine zj_iload_n (zdk ttX11_against 64 rfl rfl) rfl ?_
                            refine zj_iload (zdk ttX11_against 65 rfl rfl) rfl ?_
                            refine zj_iremP (zdk ttX11_against 66 rfl rfl) (by omega) (by omega) ?_
                            have b77 := zmod_b (x := p2) (b := p1) (by omega) (by omega)
                            refine zj_icmp_ne (t := 130) (zdk ttX11_against 67 rfl rfl) (by decide) (by omega) (by omega) (fun c78 => ?_) (fun c78 => ?_)
                            · refine zj_iinc (L' := [some (.inr 0), some (.inl p1), some (.inl p2), some (.inl p3), some (.inl p1), some (.inl x26), some (.inl (x27 + 1))]) (zdk ttX11_against 75 rfl rfl) rfl (by decide) rfl ?_
                              refine zj_goto (t := 63) (zdk ttX11_against 76 rfl rfl) (by decide) ?_
                              have b79 := zaf3 p2 (l := p1) (j := x27) (by omega) (by omega)
                              have b79f := zaf2 p2 p3 (l := p1) (j := x27) (by omega) (by omega)
                              exact ih56  x26 (x27 + 1) (by omega) (by omega) (by omega) (by omega) (by omega) (by omega) (by omega)
                            · refine zj_iload (zdk ttX11_against 68 rfl rfl) rfl ?_
                              refine zj_iload_n (zdk ttX11_against 69 rfl rfl) rfl ?_
                              refine zj_icmp_ne (t := 126) (zdk ttX11_against 70 rfl rfl) (by decide) (by omega) (by omega) (fun c80 => ?_) (fun c80 => ?_)
                              · refine zj_iload (zdk ttX11_against 73 rfl rfl) rfl ?_
                                refine zj_istore (L' := [some (.inr 0), some (.inl p1), some (.inl p2), some (.inl p3), some (.inl p1), some (.inl x27), some (.inl x27)]) (zdk ttX11_against 74 rfl rfl) (by decide) rfl ?_
                                refine zj_iinc (L' := [some (.inr 0), some (.inl p1), some (.inl p2), some (.inl p3), some (.inl p1), some (.inl x27), some (.inl (x27 + 1))]) (zdk ttX11_against 75 rfl rfl) rfl (by decide) rfl ?_
                                refine zj_goto (t := 63) (zdk ttX11_against 76 rfl rfl) (by decide) ?_
                                have b81 := zaf3 p2 (l := p1) (j := x27) (by omega) (by omega)
                                have b81f := zaf2 p2 p3 (l := p1) (j := x27) (by omega) (by omega)
                                exact ih56  x27 (x27 + 1) (by omega) (by omega) (by omega) (by omega) (by omega) (by omega) (by omega)
                              · refine zj_iload (zdk ttX11_against 71 rfl rfl) rfl ?_
                                refine zj_goto (t := 128) (zdk ttX11_against 72 rfl rfl) (by decide) ?_
                                refine zj_istore (L' := [some (.inr 0), some (.inl p1), some (.inl p2), some (.inl p3), some (.inl p1), some (.inl p1), some (.inl x27)]) (zdk ttX11_against 74 rfl rfl) (by decide) rfl ?_
                                refine zj_iinc (L' := [some (.inr 0), some (.inl p1), some (.inl p2), some (.inl p3), some (.inl p1), some (.inl p1), some (.inl (x27 + 1))]) (zdk ttX11_against 75 rfl rfl) rfl (by decide) rfl ?_
                                refine zj_goto (t := 63) (zdk ttX11_against 76 rfl rfl) (by decide) ?_
                                have b82 := zaf3 p2 (l := p1) (j := x27) (by omega) (by omega)
                                have b82f := zaf2 p2 p3 (l := p1) (j := x27) (by omega) (by omega)
                                exact ih56  p1 (x27 + 1) (by omega) (by omega) (by omega) (by omega) (by omega) (by omega) (by omega)
                        · refine zj_iload (zdk ttX11_against 54 rfl rfl) rfl ?_
                          refine zj_istore (L' := [some (.inr 0), some (.inl p1), some (.inl p2), some (.inl p3), some (.inl p1), some (.inl x27), some (.inl x27)]) (zdk ttX11_against 55 rfl rfl) (by decide) rfl ?_
                          refine zj_iload_n (zdk ttX11_against 56 rfl rfl) rfl ?_
                          refine zj_iload (zdk ttX11_against 57 rfl rfl) rfl ?_
                          refine zj_icmp_ge (t := 130) (zdk ttX11_against 58 rfl rfl) (by decide) (by omega) (by omega) (fun c83 => ?_) (fun c83 => ?_)
                          · refine zj_iinc (L' := [some (.inr 0), some (.inl p1), some (.inl p2), some (.inl p3), some (.inl p1), some (.inl x27), some (.inl (x27 + 1))]) (zdk ttX11_against 75 rfl rfl) rfl (by decide) rfl ?_
                            refine zj_goto (t := 63) (zdk ttX11_against 76 rfl rfl) (by decide) ?_
                            have b84 := zaf3 p2 (l := p1) (j := x27) (by omega) (by omega)
                            have b84f := zaf2 p2 p3 (l := p1) (j := x27) (by omega) (by omega)
                            exact ih56  x27 (x27 + 1) (by omega) (by omega) (by omega) (by omega) (by omega) (by omega) (by omega)
                          · refine zj_iload_n (zdk ttX11_against 59 rfl rfl) rfl ?_
                            refine zj_iload (zdk ttX11_against 60 rfl rfl) rfl ?_
                            refine zj_iadd (zdk ttX11_against 61 rfl rfl) ?_
                            refine zj_iload (zdk ttX11_against 62 rfl rfl) rfl ?_
                            refine zj_iremP (zdk ttX11_against 63 rfl rfl) (by omega) (by omega) ?_
                            have b85 := zmod_b (x := (p3 + x27)) (b := p1) (by omega) (by omega)
                            refine zj_iload_n (zdk ttX11_against 64 rfl rfl) rfl ?_
                            refine zj_iload (zdk ttX11_against 65 rfl rfl) rfl ?_
                            refine zj_iremP (zdk ttX11_against 66 rfl rfl) (by omega) (by omega) ?_
                            have b86 := zmod_b (x := p2) (b := p1) (by omega) (by omega)
                            refine zj_icmp_ne (t := 130) (zdk ttX11_against 67 rfl rfl) (by decide) (by omega) (by omega) (fun c87 => ?_) (fun c87 => ?_)
                            · refine zj_iinc (L' := [some (.inr 0), some (.inl p1), some (.inl p2), some (.inl p3), some (.inl p1), some (.inl x27), some (.inl (x27 + 1))]) (zdk ttX11_against 75 rfl rfl) rfl (by decide) rfl ?_
                              refine zj_goto (t := 63) (zdk ttX11_against 76 rfl rfl) (by decide) ?_
                              have b88 := zaf3 p2 (l := p1) (j := x27) (by omega) (by omega)
                              have b88f := zaf2 p2 p3 (l := p1) (j := x27) (by omega) (by omega)
                              exact ih56  x27 (x27 + 1) (by omega) (by omega) (by omega) (by omega) (by omega) (by omega) (by omega)
                            · refine zj_iload (zdk ttX11_against 68 rfl rfl) rfl ?_
                              refine zj_iload_n (zdk ttX11_against 69 rfl rfl) rfl ?_
                              refine zj_icmp_ne (t := 126) (zdk ttX11_against 70 rfl rfl) (by decide) (by omega) (by omega) (fun c89 => ?_) (fun c89 => ?_)
                              · refine zj_iload (zdk ttX11_against 73 rfl rfl) rfl ?_
                                refine zj_istore (L' := [some (.inr 0), some (.inl p1), some (.inl p2), some (.inl p3), some (.inl p1), some (.inl x27), some (.inl x27)]) (zdk ttX11_against 74 rfl rfl) (by decide) rfl ?_
                                refine zj_iinc (L' := [some (.inr 0), some (.inl p1), some (.inl p2), some (.inl p3), some (.inl p1), some (.inl x27), some (.inl (x27 + 1))]) (zdk ttX11_against 75 rfl rfl) rfl (by decide) rfl ?_
                                refine zj_goto (t := 63) (zdk ttX11_against 76 rfl rfl) (by decide) ?_
                                have b90 := zaf3 p2 (l := p1) (j := x27) (by omega) (by omega)
                                have b90f := zaf2 p2 p3 (l := p1) (j := x27) (by omega) (by omega)
                                exact ih56  x27 (x27 + 1) (by omega) (by omega) (by omega) (by omega) (by omega) (by omega) (by omega)
                              · refine zj_iload (zdk ttX11_against 71 rfl rfl) rfl ?_
                                refine zj_goto (t := 128) (zdk ttX11_against 72 rfl rfl) (by decide) ?_
                                refine zj_istore (L' := [some (.inr 0), some (.inl p1), some (.inl p2), some (.inl p3), some (.inl p1), some (.inl p1), some (.inl x27)]) (zdk ttX11_against 74 rfl rfl) (by decide) rfl ?_
                                refine zj_iinc (L' := [some (.inr 0), some (.inl p1), some (.inl p2), some (.inl p3), some (.inl p1), some (.inl p1), some (.inl (x27 + 1))]) (zdk ttX11_against 75 rfl rfl) rfl (by decide) rfl ?_
                                refine zj_goto (t := 63) (zdk ttX11_against 76 rfl rfl) (by decide) ?_
                                have b91 := zaf3 p2 (l := p1) (j := x27) (by omega) (by omega)
                                have b91f := zaf2 p2 p3 (l := p1) (j := x27) (by omega) (by omega)
                                exact ih56  p1 (x27 + 1) (by omega) (by omega) (by omega) (by omega) (by omega) (by omega) (by omega)
                have b92 := zaj_b p2 (l := p1) (by omega)
                have b92f := Int.emod_nonneg (p2 - p3) (show p1 ≠ 0 by omega)
                exact lp48 _ (-1) 0 (by omega) (by omega) (by omega) (by omega) (by omega) (by omega) (Nat.lt_succ_self _)
              · refine zj_iload_n (zdk ttX11_against 29 rfl rfl) rfl ?_
                refine zj_iconst (zdk ttX11_against 30 rfl rfl) ?_
                refine zj_isub (zdk ttX11_against 31 rfl rfl) ?_
                refine zj_goto (t := 55) (zdk ttX11_against 32 rfl rfl) (by decide) ?_
                refine zj_istore (L' := [some (.inr 0), some (.inl p1), some (.inl p2), some (.inl p3), some (.inl (p1 - 1)), none, none]) (zdk ttX11_against 34 rfl rfl) (by decide) rfl ?_
                refine zj_iconst (zdk ttX11_against 35 rfl rfl) ?_
                refine zj_istore (L' := [some (.inr 0), some (.inl p1), some (.inl p2), some (.inl p3), some (.inl (p1 - 1)), some (.inl (-1)), none]) (zdk ttX11_against 36 rfl rfl) (by decide) rfl ?_
                refine zj_iconst (zdk ttX11_against 37 rfl rfl) ?_
                refine zj_istore (L' := [some (.inr 0), some (.inl p1), some (.inl p2), some (.inl p3), some (.inl (p1 - 1)), some (.inl (-1)), some (.inl 0)]) (zdk ttX11_against 38 rfl rfl) (by decide) rfl ?_
                have lp115 : ∀ (n63 : Nat) (x93 x94 : Int), (-1 ≤ x93 ∧ x93 ≤ 16) → (0 ≤ x94 ∧ x94 ≤ 16) → (p3 = (p1 - 1) → zaj p2 (p1 - 1) < x94 → x93 = zaj p2 (p1 - 1)) → (p3 < (p1 - 1) → (p2 - p3) % (p1 - 1) < x94 → ¬ (p2 - p3) % (p1 - 1) = p3 → x93 = (p2 - p3) % (p1 - 1)) → (p3 < (p1 - 1) → (p2 - p3) % (p1 - 1) < x94 → (p2 - p3) % (p1 - 1) = p3 → x93 = (p1 - 1)) → (x94 ≤ (p1 - 1)) → (17 - x94).toNat < n63 → zJ shM l yX11_against cX11_against 7 (some .int) (rmL 2) 0 0 (q2_X11_against h p1 p2 p3) 0 0 63 [some (.inr 0), some (.inl p1), some (.inl p2), some (.inl p3), some (.inl (p1 - 1)), some (.inl x93), some (.inl x94)] [] h1 := by
                  intro n63
                  induction n63 with
                  | zero => intro x93 x94 b116 b117 u118 u119 u120 u121 m122; exact absurd m122 (Nat.not_lt_zero _)
                  | succ n63 ih123 =>
                    intro x93 x94 b116 b117 u118 u119 u120 u121 m122
                    refine zj_iload (zdk ttX11_against 39 rfl rfl) rfl ?_
                    refine zj_iload (zdk ttX11_against 40 rfl rfl) rfl ?_
                    refine zj_icmp_ge (t := 136) (zdk ttX11_against 41 rfl rfl) (by decide) (by omega) (by omega) (fun c124 => ?_) (fun c124 => ?_)
                    · refine zj_iload (zdk ttX11_against 77 rfl rfl) rfl ?_
                      refine zj_iload_n (zdk ttX11_against 78 rfl rfl) rfl ?_
                      refine zj_icmp_lt (t := 146) (zdk ttX11_against 79 rfl rfl) (by decide) (by omega) (by omega) (fun c125 => ?_) (fun c125 => ?_)
                      · refine zj_iload (zdk ttX11_against 82 rfl rfl) rfl ?_
                        have f126 : zfr [0] [] h h1 := zfr_wf (zfr_r _ _ _) e2 rfl
                        exact zj_iret rfl (zdk ttX11_against 83 rfl rfl) (Nat.le_refl _) (Nat.le_refl _) ⟨x93, rfl, by omega, s3, f126, zagd_y (by unfold zagg; omega) (by intro l8 z8 z9; have e9 : l8 = (p1 - 1) := (by omega); rw [e9]; have b8 := zaj_b p2 (l := (p1 - 1)) (by omega); have f8 := Int.emod_nonneg (p2 - p3) (show (p1 - 1) ≠ 0 by omega); have f9 := Int.emod_lt_of_pos (p2 - p3) (show 0 < (p1 - 1) by omega); unfold zagl; omega)⟩
                      · refine zj_iconst (zdk ttX11_against 80 rfl rfl) ?_
                        refine zj_goto (t := 148) (zdk ttX11_against 81 rfl rfl) (by decide) ?_
                        have f127 : zfr [0] [] h h1 := zfr_wf (zfr_r _ _ _) e2 rfl
                        exact zj_iret rfl (zdk ttX11_against 83 rfl rfl) (Nat.le_refl _) (Nat.le_refl _) ⟨(-1), rfl, by omega, s3, f127, zagd_y (by unfold zagg; omega) (by intro l8 z8 z9; have e9 : l8 = (p1 - 1) := (by omega); rw [e9]; have b8 := zaj_b p2 (l := (p1 - 1)) (by omega); have f8 := Int.emod_nonneg (p2 - p3) (show (p1 - 1) ≠ 0 by omega); have f9 := Int.emod_lt_of_pos (p2 - p3) (show 0 < (p1 - 1) by omega); unfold zagl; omega)⟩
                    · refine zj_iload_n (zdk ttX11_against 42 rfl rfl) rfl ?_
                      refine zj_iload (zdk ttX11_against 43 rfl rfl) rfl ?_
                      refine zj_icmp_ne (t := 95) (zdk ttX11_against 44 rfl rfl) (by decide) (by omega) (by omega) (fun c128 => ?_) (fun c128 => ?_)
                      · refine zj_iload_n (zdk ttX11_against 56 rfl rfl) rfl ?_
                        refine zj_iload (zdk ttX11_against 57 rfl rfl) rfl ?_
                        refine zj_icmp_ge (t := 130) (zdk ttX11_against 58 rfl rfl) (by decide) (by omega) (by omega) (fun c129 => ?_) (fun c129 => ?_)
                        · refine zj_iinc (L' := [some (.inr 0), some (.inl p1), some (.inl p2), some (.inl p3), some (.inl (p1 - 1)), some (.inl x93), some (.inl (x94 + 1))]) (zdk ttX11_against 75 rfl rfl) rfl (by decide) rfl ?_
                          refine zj_goto (t := 63) (zdk ttX11_against 76 rfl rfl) (by decide) ?_
                          have b130 := zaf3 p2 (l := (p1 - 1)) (j := x94) (by omega) (by omega)
                          have b130f := zaf2 p2 p3 (l := (p1 - 1)) (j := x94) (by omega) (by omega)
                          exact ih123  x93 (x94 + 1) (by omega) (by omega) (by omega) (by omega) (by omega) (by omega) (by omega)
                        · refine zj_iload_n (zdk ttX11_against 59 rfl rfl) rfl ?_
                          refine zj_iload (zdk ttX11_against 60 rfl rfl) rfl ?_
                          refine zj_iadd (zdk ttX11_against 61 rfl rfl) ?_
                          refine zj_iload (zdk ttX11_against 62 rfl rfl) rfl ?_
                          refine zj_iremP (zdk ttX11_against 63 rfl rfl) (by omega) (by omega) ?_
                          have b131 := zmod_b (x := (p3 + x94)) (b := (p1 - 1)) (by omega) (by omega)
                          refine zj_iload_n (zdk ttX11_against 64 rfl rfl) rfl ?_
                          refine zj_iload (zdk ttX11_against 65 rfl rfl) rfl ?_
                          refine zj_iremP (zdk ttX11_against 66 rfl rfl) (by omega) (by omega) ?_
                          have b132 := zmod_b (x := p2) (b := (p1 - 1)) (by omega) (by omega)
                          refine zj_icmp_ne (t := 130) (zdk ttX11_against 67 rfl rfl) (by decide) (by omega) (by omega) (fun c133 => ?_) (fun c133 => ?_)
                          · refine zj_iinc (L' := [some (.inr 0), some (.inl p1), some (.inl p2), some (.inl p3), some (.inl (p1 - 1)), some (.inl x93), some (.inl (x94 + 1))]) (zdk ttX11_against 75 rfl rfl) rfl (by decide) rfl ?_
                            refine zj_goto (t := 63) (zdk ttX11_against 76 rfl rfl) (by decide) ?_
                            have b134 := zaf3 p2 (l := (p1 - 1)) (j := x94) (by omega) (by omega)
                            have b134f := zaf2 p2 p3 (l := (p1 - 1)) (j := x94) (by omega) (by omega)
                            exact ih123  x93 (x94 + 1) (by omega) (by omega) (by omega) (by omega) (by omega) (by omega) (by omega)
                          · refine zj_iload (zdk ttX11_against 68 rfl rfl) rfl ?_
                            refine zj_iload_n (zdk ttX11_against 69 rfl rfl) rfl ?_
                            refine zj_icmp_ne (t := 126) (zdk ttX11_against 70 rfl rfl) (by decide) (by omega) (by omega) (fun c135 => ?_) (fun c135 => ?_)
                            · refine zj_iload (zdk ttX11_against 73 rfl rfl) rfl ?_
                              refine zj_istore (L' := [some (.inr 0), some (.inl p1), some (.inl p2), some (.inl p3), some (.inl (p1 - 1)), some (.inl x94), some (.inl x94)]) (zdk ttX11_against 74 rfl rfl) (by decide) rfl ?_
                              refine zj_iinc (L' := [some (.inr 0), some (.inl p1), some (.inl p2), some (.inl p3), some (.inl (p1 - 1)), some (.inl x94), some (.inl (x94 + 1))]) (zdk ttX11_against 75 rfl rfl) rfl (by decide) rfl ?_
                              refine zj_goto (t := 63) (zdk ttX11_against 76 rfl rfl) (by decide) ?_
                              have b136 := zaf3 p2 (l := (p1 - 1)) (j := x94) (by omega) (by omega)
                              have b136f := zaf2 p2 p3 (l := (p1 - 1)) (j := x94) (by omega) (by omega)
                              exact ih123  x94 (x94 + 1) (by omega) (by omega) (by omega) (by omega) (by omega) (by omega) (by omega)
                            · refine zj_iload (zdk ttX11_against 71 rfl rfl) rfl ?_
                              refine zj_goto (t := 128) (zdk ttX11_against 72 rfl rfl) (by decide) ?_
                              refine zj_istore (L' := [some (.inr 0), some (.inl p1), some (.inl p2), some (.inl p3), some (.inl (p1 - 1)), some (.inl (p1 - 1)), some (.inl x94)]) (zdk ttX11_against 74 rfl rfl) (by decide) rfl ?_
                              refine zj_iinc (L' := [some (.inr 0), some (.inl p1), some (.inl p2), some (.inl p3), some (.inl (p1 - 1)), some (.inl (p1 - 1)), some (.inl (x94 + 1))]) (zdk ttX11_against 75 rfl rfl) rfl (by decide) rfl ?_
                              refine zj_goto (t := 63) (zdk ttX11_against 76 rfl rfl) (by decide) ?_
                              have b137 := zaf3 p2 (l := (p1 - 1)) (j := x94) (by omega) (by omega)
                              have b137f := zaf2 p2 p3 (l := (p1 - 1)) (j := x94) (by omega) (by omega)
                              exact ih123  (p1 - 1) (x94 + 1) (by omega) (by omega) (by omega) (by omega) (by omega) (by omega) (by omega)
                      · refine zj_iload (zdk ttX11_against 45 rfl rfl) rfl ?_
                        refine zj_iload (zdk ttX11_against 46 rfl rfl) rfl ?_
                        refine zj_iadd (zdk ttX11_against 47 rfl rfl) ?_
                        refine zj_iload (zdk ttX11_against 48 rfl rfl) rfl ?_
                        refine zj_iremP (zdk ttX11_against 49 rfl rfl) (by omega) (by omega) ?_
                        have b138 := zmod_b (x := (x94 + x94)) (b := (p1 - 1)) (by omega) (by omega)
                        refine zj_iload_n (zdk ttX11_against 50 rfl rfl) rfl ?_
                        refine zj_iload (zdk ttX11_against 51 rfl rfl) rfl ?_
                        refine zj_iremP (zdk ttX11_against 52 rfl rfl) (by omega) (by omega) ?_
                        have b139 := zmod_b (x := p2) (b := (p1 - 1)) (by omega) (by omega)
                        refine zj_icmp_ne (t := 95) (zdk ttX11_against 53 rfl rfl) (by decide) (by omega) (by omega) (fun c140 => ?_) (fun c140 => ?_)
                        · refine zj_iload_n (zdk ttX11_against 56 rfl rfl) rfl ?_
                          refine zj_iload (zdk ttX11_against 57 rfl rfl) rfl ?_
                          refine zj_icmp_ge (t := 130) (zdk ttX11_against 58 rfl rfl) (by decide) (by omega) (by omega) (fun c141 => ?_) (fun c141 => ?_)
                          · refine zj_iinc (L' := [some (.inr 0), some (.inl p1), some (.inl p2), some (.inl p3), some (.inl (p1 - 1)), some (.inl x93), some (.inl (x94 + 1))]) (zdk ttX11_against 75 rfl rfl) rfl (by decide) rfl ?_
                            refine zj_goto (t := 63) (zdk ttX11_against 76 rfl rfl) (by decide) ?_
                            have b142 := zaf3 p2 (l := (p1 - 1)) (j := x94) (by omega) (by omega)
                            have b142f := zaf2 p2 p3 (l := (p1 - 1)) (j := x94) (by omega) (by omega)
                            exact ih123  x93 (x94 + 1) (by omega) (by omega) (by omega) (by omega) (by omega) (by omega) (by omega)
                          · refine zj_iload_n (zdk ttX11_against 59 rfl rfl) rfl ?_
                            refine zj_iload (zdk ttX11_against 60 rfl rfl) rfl ?_
                            refine zj_iadd (zdk ttX11_against 61 rfl rfl) ?_
                            refine zj_iload (zdk ttX11_against 62 rfl rfl) rfl ?_
                            refine zj_iremP (zdk ttX11_against 63 rfl rfl) (by omega) (by omega) ?_
                            have b143 := zmod_b (x := (p3 + x94)) (b := (p1 - 1)) (by omega) (by omega)
                            refine zj_iload_n (zdk ttX11_against 64 rfl rfl) rfl ?_
                            refine zj_iload (zdk ttX11_against 65 rfl rfl) rfl ?_
                            refine zj_iremP (zdk ttX11_against 66 rfl rfl) (by omega) (by omega) ?_
                            have b144 := zmod_b (x := p2) (b := (p1 - 1)) (by omega) (by omega)
                            refine zj_icmp_ne (t := 130) (zdk ttX11_against 67 rfl rfl) (by decide) (by omega) (by omega) (fun c145 => ?_) (fun c145 => ?_)
                            · refine zj_iinc (L' := [some (.inr 0), some (.inl p1), some (.inl p2), some (.inl p3), some (.inl (p1 - 1)), some (.inl x93), some (.inl (x94 + 1))]) (zdk ttX11_against 75 rfl rfl) rfl (by decide) rfl ?_
                              refine zj_goto (t := 63) (zdk ttX11_against 76 rfl rfl) (by decide) ?_
                              have b146 := zaf3 p2 (l := (p1 - 1)) (j := x94) (by omega) (by omega)
                              have b146f := zaf2 p2 p3 (l := (p1 - 1)) (j := x94) (by omega) (by omega)
                              exact ih123  x93 (x94 + 1) (by omega) (by omega) (by omega) (by omega) (by omega) (by omega) (by omega)
                            · refine zj_iload (zdk ttX11_against 68 rfl rfl) rfl ?_
                              refine zj_iload_n (zdk ttX11_against 69 rfl rfl) rfl ?_
                              refine zj_icmp_ne (t := 126) (zdk ttX11_against 70 rfl rfl) (by decide) (by omega) (by omega) (fun c147 => ?_) (fun c147 => ?_)
                              · refine zj_iload (zdk ttX11_against 73 rfl rfl) rfl ?_
                                refine zj_istore (L' := [some (.inr 0), some (.inl p1), some (.inl p2), some (.inl p3), some (.inl (p1 - 1)), some (.inl x94), some (.inl x94)]) (zdk ttX11_against 74 rfl rfl) (by decide) rfl ?_
                                refine zj_iinc (L' := [some (.inr 0), some (.inl p1), some (.inl p2), some (.inl p3), some (.inl (p1 - 1)), some (.inl x94), some (.inl (x94 + 1))]) (zdk ttX11_against 75 rfl rfl) rfl (by decide) rfl ?_
                                refine zj_goto (t := 63) (zdk ttX11_against 76 rfl rfl) (by decide) ?_
                                have b148 := zaf3 p2 (l := (p1 - 1)) (j := x94) (by omega) (by omega)
                                have b148f := zaf2 p2 p3 (l := (p1 - 1)) (j := x94) (by omega) (by omega)
                                exact ih123  x94 (x94 + 1) (by omega) (by omega) (by omega) (by omega) (by omega) (by omega) (by omega)
                              · refine zj_iload (zdk ttX11_against 71 rfl rfl) rfl ?_
                                refine zj_goto (t := 128) (zdk ttX11_against 72 rfl rfl) (by decide) ?_
                                refine zj_istore (L' := [some (.inr 0), some (.inl p1), some (.inl p2), some (.inl p3), some (.inl (p1 - 1)), some (.inl (p1 - 1)), some (.inl x94)]) (zdk ttX11_against 74 rfl rfl) (by decide) rfl ?_
                                refine zj_iinc (L' := [some (.inr 0), some (.inl p1), some (.inl p2), some (.inl p3), some (.inl (p1 - 1)), some (.inl (p1 - 1)), some (.inl (x94 + 1))]) (zdk ttX11_against 75 rfl rfl) rfl (by decide) rfl ?_
                                refine zj_goto (t := 63) (zdk ttX11_against 76 rfl rfl) (by decide) ?_
                                have b149 := zaf3 p2 (l := (p1 - 1)) (j := x94) (by omega) (by omega)
                                have b149f := zaf2 p2 p3 (l := (p1 - 1)) (j := x94) (by omega) (by omega)
                                exact ih123  (p1 - 1) (x94 + 1) (by omega) (by omega) (by omega) (by omega) (by omega) (by omega) (by omega)
                        · refine zj_iload (zdk ttX11_against 54 rfl rfl) rfl ?_
                          refine zj_istore (L' := [some (.inr 0), some (.inl p1), some (.inl p2), some (.inl p3), some (.inl (p1 - 1)), some (.inl x94), some (.inl x94)]) (zdk ttX11_against 55 rfl rfl) (by decide) rfl ?_
                          refine zj_iload_n (zdk ttX11_against 56 rfl rfl) rfl ?_
                          refine zj_iload (zdk ttX11_against 57 rfl rfl) rfl ?_
                          refine zj_icmp_ge (t := 130) (zdk ttX11_against 58 rfl rfl) (by decide) (by omega) (by omega) (fun c150 => ?_) (fun c150 => ?_)
                          · refine zj_iinc (L' := [some (.inr 0), some (.inl p1), some (.inl p2), some (.inl p3), some (.inl (p1 - 1)), some (.inl x94), some (.inl (x94 + 1))]) (zdk ttX11_against 75 rfl rfl) rfl (by decide) rfl ?_
                            refine zj_goto (t := 63) (zdk ttX11_against 76 rfl rfl) (by decide) ?_
                            have b151 := zaf3 p2 (l := (p1 - 1)) (j := x94) (by omega) (by omega)
                            have b151f := zaf2 p2 p3 (l := (p1 - 1)) (j := x94) (by omega) (by omega)
                            exact ih123  x94 (x94 + 1) (by omega) (by omega) (by omega) (by omega) (by omega) (by omega) (by omega)
                          · refine zj_iload_n (zdk ttX11_against 59 rfl rfl) rfl ?_
                            refine zj_iload (zdk ttX11_against 60 rfl rfl) rfl ?_
                            refine zj_iadd (zdk ttX11_against 61 rfl rfl) ?_
                            refine zj_iload (zdk ttX11_against 62 rfl rfl) rfl ?_
                            refine zj_iremP (zdk ttX11_against 63 rfl rfl) (by omega) (by omega) ?_
                            have b152 := zmod_b (x := (p3 + x94)) (b := (p1 - 1)) (by omega) (by omega)
                            refine zj_iload_n (zdk ttX11_against 64 rfl rfl) rfl ?_
                            refine zj_iload (zdk ttX11_against 65 rfl rfl) rfl ?_
                            refine zj_iremP (zdk ttX11_against 66 rfl rfl) (by omega) (by omega) ?_
                            have b153 := zmod_b (x := p2) (b := (p1 - 1)) (by omega) (by omega)
                            refine zj_icmp_ne (t := 130) (zdk ttX11_against 67 rfl rfl) (by decide) (by omega) (by omega) (fun c154 => ?_) (fun c154 => ?_)
                            · refine zj_iinc (L' := [some (.inr 0), some (.inl p1), some (.inl p2), some (.inl p3), some (.inl (p1 - 1)), some (.inl x94), some (.inl (x94 + 1))]) (zdk ttX11_against 75 rfl rfl) rfl (by decide) rfl ?_
                              refine zj_goto (t := 63) (zdk ttX11_against 76 rfl rfl) (by decide) ?_
                              have b155 := zaf3 p2 (l := (p1 - 1)) (j := x94) (by omega) (by omega)
                              have b155f := zaf2 p2 p3 (l := (p1 - 1)) (j := x94) (by omega) (by omega)
                              exact ih123  x94 (x94 + 1) (by omega) (by omega) (by omega) (by omega) (by omega) (by omega) (by omega)
                            · refine zj_iload (zdk ttX11_against 68 rfl rfl) rfl ?_
                              refine zj_iload_n (zdk ttX11_against 69 rfl rfl) rfl ?_
                              refine zj_icmp_ne (t := 126) (zdk ttX11_against 70 rfl rfl) (by decide) (by omega) (by omega) (fun c156 => ?_) (fun c156 => ?_)
                              · refine zj_iload (zdk ttX11_against 73 rfl rfl) rfl ?_
                                refine zj_istore (L' := [some (.inr 0), some (.inl p1), some (.inl p2), some (.inl p3), some (.inl (p1 - 1)), some (.inl x94), some (.inl x94)]) (zdk ttX11_against 74 rfl rfl) (by decide) rfl ?_
                                refine zj_iinc (L' := [some (.inr 0), some (.inl p1), some (.inl p2), some (.inl p3), some (.inl (p1 - 1)), some (.inl x94), some (.inl (x94 + 1))]) (zdk ttX11_against 75 rfl rfl) rfl (by decide) rfl ?_
                                refine zj_goto (t := 63) (zdk ttX11_against 76 rfl rfl) (by decide) ?_
                                have b157 := zaf3 p2 (l := (p1 - 1)) (j := x94) (by omega) (by omega)
                                have b157f := zaf2 p2 p3 (l := (p1 - 1)) (j := x94) (by omega) (by omega)
                                exact ih123  x94 (x94 + 1) (by omega) (by omega) (by omega) (by omega) (by omega) (by omega) (by omega)
                              · refine zj_iload (zdk ttX11_against 71 rfl rfl) rfl ?_
                                refine zj_goto (t := 128) (zdk ttX11_against 72 rfl rfl) (by decide) ?_
                                refine zj_istore (L' := [some (.inr 0), some (.inl p1), some (.inl p2), some (.inl p3), some (.inl (p1 - 1)), some (.inl (p1 - 1)), some (.inl x94)]) (zdk ttX11_against 74 rfl rfl) (by decide) rfl ?_
                                refine zj_iinc (L' := [some (.inr 0), some (.inl p1), some (.inl p2), some (.inl p3), some (.inl (p1 - 1)), some (.inl (p1 - 1)), some (.inl (x94 + 1))]) (zdk ttX11_against 75 rfl rfl) rfl (by decide) rfl ?_
                                refine zj_goto (t := 63) (zdk ttX11_against 76 rfl rfl) (by decide) ?_
                                have b158 := zaf3 p2 (l := (p1 - 1)) (j := x94) (by omega) (by omega)
                                have b158f := zaf2 p2 p3 (l := (p1 - 1)) (j := x94) (by omega) (by omega)
                                exact ih123  (p1 - 1) (x94 + 1) (by omega) (by omega) (by omega) (by omega) (by omega) (by omega) (by omega)
                have b159 := zaj_b p2 (l := (p1 - 1)) (by omega)
                have b159f := Int.emod_nonneg (p2 - p3) (show (p1 - 1) ≠ 0 by omega)
                exact lp115 _ (-1) 0 (by omega) (by omega) (by omega) (by omega) (by omega) (by omega) (Nat.lt_succ_self _)
            · exact absurd c24 (by omega)
