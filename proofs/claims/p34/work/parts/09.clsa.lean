def zfC (W : Int → Int → Prop) (h h' : zM) : Prop := ∀ a b, ¬ W a b → h'.2 a b = h.2 a b
theorem zfC_r (W : Int → Int → Prop) (h : zM) : zfC W h h := fun _ _ _ => rfl
theorem zfC_a {W : Int → Int → Prop} {h h' : zM} (q : zfC W h h') {a b : Int} (n : ¬ W a b) : h'.2 a b = h.2 a b := q a b n
theorem zfC_w {W : Int → Int → Prop} {h h1 h2 : zM} {c k v : Int} (q : zfC W h h1) (e : h2 = zwr h1 c k v) (n : W c k) : zfC W h h2 := fun a b z => by
  rw [e, zwr_n (fun w => z (by rw [w.1, w.2]; exact n))]; exact q a b z
theorem zfC_fill {W : Int → Int → Prop} {h h1 h2 : zM} {c x y v : Int} (q : zfC W h h1) (e : h2 = zfill h1 c x y v) (n : ∀ j, W c j) : zfC W h h2 := fun a b z => by
  have e9 : h2.2 a b = h1.2 a b := by rw [e]; exact if_neg (fun w => z (by rw [w.1]; exact n b))
  rw [e9]; exact q a b z
theorem zfC_cp {W : Int → Int → Prop} {h h1 h2 : zM} {c0 sp c dp k : Int} (q : zfC W h h1) (e : h2 = zcp h1 c0 sp c dp k) (n : ∀ j, W c j) : zfC W h h2 := fun a b z => by
  have e9 : h2.2 a b = h1.2 a b := by rw [e]; exact if_neg (fun w => z (by rw [w.1]; exact n b))
  rw [e9]; exact q a b z
theorem zfC_t {W V : Int → Int → Prop} {h h1 h2 : zM} (q : zfC W h h1) (q2 : zfC V h1 h2) (n : ∀ a b, V a b → W a b) : zfC W h h2 := fun a b z => (q2 a b (fun w => z (n a b w))).trans (q a b z)
theorem zcp_r {h h' : zM} {c0 sp c1 dp k a b : Int} (e : h' = zcp h c0 sp c1 dp k) (n : ¬ (a = c1 ∧ dp ≤ b ∧ b < dp + k)) : h'.2 a b = h.2 a b := by rw [e]; exact if_neg n
theorem zcp_v {h h' : zM} {c0 sp c1 dp k b x : Int} (e : h' = zcp h c0 sp c1 dp k) (n : dp ≤ b ∧ b < dp + k) (ex : x = sp + (b - dp)) : h'.2 c1 b = h.2 c0 x := by rw [e, ex]; exact if_pos ⟨rfl, n⟩
theorem zfill_r {h h' : zM} {c x y v a b : Int} (e : h' = zfill h c x y v) (n : ¬ (a = c ∧ x ≤ b ∧ b < y)) : h'.2 a b = h.2 a b := by rw [e]; exact if_neg n
theorem zPast_b {c : Int} (hc : zPast c) : 116 ≤ c ∧ c ≤ 136 := by unfold zPast at hc; omega
theorem zIs_sep {c d : Int} (hc : zIs c) (hd : zIs d) : c = d ∨ 4 ≤ c - d ∨ 4 ≤ d - c := by unfold zIs at hc hd; omega
theorem zWd_sep {c d : Int} (hc : zWd c) (hd : zWd d) : c = d ∨ 34 ≤ c - d ∨ 34 ≤ d - c := by unfold zWd at hc hd; omega
def zcw (R V : Prop) (m n v n' : Int) : Prop := (R → v = 0 ∧ n' = 0) ∧ (¬ R → V → n < m → v = n + 1 ∧ n' = n + 1) ∧ (¬ R → ¬ V → v = -1 ∧ n' = n) ∧ (¬ R → m ≤ n → v = -1 ∧ n' = n)
def zfd (n v n' : Int) : Prop := (n ≤ 380 → v = n + 20 ∧ n' = n + 20) ∧ (380 < n → v = -1 ∧ n' = n)
def zen (p n v n' : Int) : Prop := (0 ≤ p → p ≤ n → v = 1 ∧ n' = p) ∧ (p < 0 → v = 0 ∧ n' = n) ∧ (n < p → v = 0 ∧ n' = n)
def zimc (p q v q' : Int) : Prop := (¬ p = 0 → v = 1 ∧ q' = 1) ∧ (p = 0 → q' = q) ∧ (p = 0 → q = 0 → v = 0) ∧ (p = 0 → ¬ q = 0 → v = 1)
def zimx (p q n k n' k' : Int) : Prop := (¬ p = 0 → k' = n ∧ n' = n) ∧ (p = 0 → k' = k) ∧ (p = 0 → q = 0 → n' = n) ∧ (p = 0 → ¬ q = 0 → n' = k)
def zcm (n v n' : Int) : Prop := (n < 18 → v = n ∧ n' = n + 1) ∧ (18 ≤ n → v = -1 ∧ n' = n)
def zisG (w l n : Int) : Prop := (1 ≤ w ∧ w ≤ 200) ∧ (0 ≤ l ∧ l ≤ 9) ∧ n < 18
def zis (w l n v n' : Int) : Prop := (zisG w l n → v = n ∧ n' = n + 1) ∧ (¬ zisG w l n → v = -1 ∧ n' = n)
def zstG (p q x n : Int) : Prop := (p = 0 ∧ (0 ≤ q ∧ q < n) ∧ (1 ≤ x ∧ x ≤ 200)) ∨ (p = 1 ∧ (0 ≤ q ∧ q < n) ∧ (0 ≤ x ∧ x ≤ 9)) ∨ (p = 2 ∧ (0 ≤ x ∧ x ≤ 719)) ∨ (p = 3 ∧ (-9999 ≤ x ∧ x ≤ 9999)) ∨ (p = 4 ∧ (0 ≤ x ∧ x ≤ 9999))
def zst9 (p q x n v : Int) : Prop := (zstG p q x n → v = 1) ∧ (¬ zstG p q x n → v = 0)
theorem zPu_sep {c d : Int} (hc : zPu c) (hd : zPu d) : c = d ∨ 34 ≤ c - d ∨ 34 ≤ d - c := by unfold zPu at hc hd; omega
abbrev tX10_within : List (Nat × Instr × Nat) := [(0, .iload_n 0, 1), (1, .iload_n 1, 1), (2, .if_icmp .lt 12, 3), (5, .iload_n 0, 1), (6, .iload_n 2, 1), (7, .if_icmp .gt 7, 3), (10, .iconst 1, 1), (11, .goto 4, 3), (14, .iconst 0, 1), (15, .ireturn, 1)]
theorem ttX10_within : zdt cX10_within tX10_within = true := by decide +kernel
abbrev q_X10_within (h : zM) (p1 : Int) (p2 : Int) (p3 : Int) : Option zV → zM → Prop := zqi fun v h' => h = h' ∧ ((v = 0 ∧ ((p1 < p2) ∨ (p2 ≤ p1 ∧ p3 < p1))) ∨ (v = 1 ∧ (p2 ≤ p1 ∧ p1 ≤ p3)))
set_option maxRecDepth 100000 in
set_option maxHeartbeats 4000000 in
theorem s_X10_within (l : Launch) (h : zM) (p1 : Int) (p2 : Int) (p3 : Int) (s0 : okC h) (b_p1 : (-2147483648) ≤ p1 ∧ p1 ≤ 2147483647) (b_p2 : (-2147483648) ≤ p2 ∧ p2 ≤ 2147483647) (b_p3 : (-2147483648) ≤ p3 ∧ p3 ≤ 2147483647) : zT shC l yX10_within cX10_within 3 (some .boolean) (rmL 1) 0 0 [.inl p1, .inl p2, .inl p3] h (q_X10_within h p1 p2 p3) := by
  refine zT_of (by decide +kernel) (L0 := [some (.inl p1), some (.inl p2), some (.inl p3)]) rfl (Nat.le_of_ble_eq_true rfl) ?_
  refine zj_iload_n (zdk ttX10_within 0 rfl rfl) rfl ?_
  refine zj_iload_n (zdk ttX10_within 1 rfl rfl) rfl ?_
  refine zj_icmp_lt (t := 14) (zdk ttX10_within 2 rfl rfl) (by decide) (by omega) (by omega) (fun c1 => ?_) (fun c1 => ?_)
  · refine zj_iconst (zdk ttX10_within 8 rfl rfl) ?_
    exact zj_zret rfl (zdk ttX10_within 9 rfl rfl) (Nat.le_refl _) (Nat.le_refl _) (by omega) ⟨0, rfl, rfl, (Or.inl ⟨rfl, (Or.inl (by omega))⟩)⟩
  · refine zj_iload_n (zdk ttX10_within 3 rfl rfl) rfl ?_
    refine zj_iload_n (zdk ttX10_within 4 rfl rfl) rfl ?_
    refine zj_icmp_gt (t := 14) (zdk ttX10_within 5 rfl rfl) (by decide) (by omega) (by omega) (fun c2 => ?_) (fun c2 => ?_)
    · refine zj_iconst (zdk ttX10_within 8 rfl rfl) ?_
      exact zj_zret rfl (zdk ttX10_within 9 rfl rfl) (Nat.le_refl _) (Nat.le_refl _) (by omega) ⟨0, rfl, rfl, (Or.inl ⟨rfl, (Or.inr (by omega))⟩)⟩
    · refine zj_iconst (zdk ttX10_within 6 rfl rfl) ?_
      refine zj_goto (t := 15) (zdk ttX10_within 7 rfl rfl) (by decide) ?_
      exact zj_zret rfl (zdk ttX10_within 9 rfl rfl) (Nat.le_refl _) (Nat.le_refl _) (by omega) ⟨1, rfl, rfl, (Or.inr ⟨rfl, by omega⟩)⟩

abbrev tX1_knows : List (Nat × Instr × Nat) := [(0, .iload_n 1, 1), (1, .ifCond .lt 15, 3), (4, .iload_n 1, 1), (5, .aload_n 0, 1), (6, .getfield 21, 3), (9, .if_icmp .ge 7, 3), (12, .iconst 1, 1), (13, .goto 4, 3), (16, .iconst 0, 1), (17, .ireturn, 1)]
theorem ttX1_knows : zdt cX1_knows tX1_knows = true := by decide +kernel
abbrev q_X1_knows (h : zM) (c : Int) (p1 : Int) : Option zV → zM → Prop := zqi fun v h' => h = h' ∧ (0 ≤ (h.2 c 3) ∧ (h.2 c 3) ≤ 18) ∧ ((v = 0 ∧ ((p1 < 0) ∨ (0 ≤ p1 ∧ (h.2 c 3) ≤ p1))) ∨ (v = 1 ∧ (0 ≤ p1 ∧ p1 < (h.2 c 3))))
set_option maxRecDepth 100000 in
set_option maxHeartbeats 4000000 in
theorem s_X1_knows (l : Launch) (h : zM) (c : Int) (p1 : Int) (s0 : okC h) (hc : zIs c) (b_p1 : (-2147483648) ≤ p1 ∧ p1 ≤ 2147483647) : zT shC l yX1_knows cX1_knows 2 (some .boolean) (rmL 1) 0 0 [.inr c, .inl p1] h (q_X1_knows h c p1) := by
  refine zT_of (by decide +kernel) (L0 := [some (.inr c), some (.inl p1)]) rfl (Nat.le_of_ble_eq_true rfl) ?_
  have b1 := zIs_b hc
  have b2 : 0 ≤ (h.2 c 3) ∧ (h.2 c 3) ≤ 18 := fb_1_0_3 s0 hc
  refine zj_iload_n (zdk ttX1_knows 0 rfl rfl) rfl ?_
  refine zj_if_lt (t := 16) (zdk ttX1_knows 1 rfl rfl) (by decide) (by omega) (fun c3 => ?_) (fun c3 => ?_)
  · refine zj_iconst (zdk ttX1_knows 8 rfl rfl) ?_
    exact zj_zret rfl (zdk ttX1_knows 9 rfl rfl) (Nat.le_refl _) (Nat.le_refl _) (by omega) ⟨0, rfl, rfl, b2, (Or.inl ⟨rfl, (Or.inl (by omega))⟩)⟩
  · refine zj_iload_n (zdk ttX1_knows 2 rfl rfl) rfl ?_
    refine zj_aload_n (zdk ttX1_knows 3 rfl rfl) rfl (by omega) ?_
    refine zj_geti (v := (h.2 c 3)) (zdk ttX1_knows 4 rfl rfl) zf_RX1_21 rfl (k_1_0 s0 hc) rfl ?_
    refine zj_icmp_ge (t := 16) (zdk ttX1_knows 5 rfl rfl) (by decide) (by omega) (by omega) (fun c4 => ?_) (fun c4 => ?_)
    · refine zj_iconst (zdk ttX1_knows 8 rfl rfl) ?_
      exact zj_zret rfl (zdk ttX1_knows 9 rfl rfl) (Nat.le_refl _) (Nat.le_refl _) (by omega) ⟨0, rfl, rfl, b2, (Or.inl ⟨rfl, (Or.inr (by omega))⟩)⟩
    · refine zj_iconst (zdk ttX1_knows 6 rfl rfl) ?_
      refine zj_goto (t := 17) (zdk ttX1_knows 7 rfl rfl) (by decide) ?_
      exact zj_zret rfl (zdk ttX1_knows 9 rfl rfl) (Nat.le_refl _) (Nat.le_refl _) (by omega) ⟨1, rfl, rfl, b2, (Or.inr ⟨rfl, by omega⟩)⟩

abbrev tX1_isHere : List (Nat × Instr × Nat) := [(0, .aload_n 0, 1), (1, .getfield 25, 3), (4, .iload_n 1, 1), (5, .ishr, 1), (6, .iconst 1, 1), (7, .iand, 1), (8, .iconst 1, 1), (9, .if_icmp .ne 7, 3), (12, .iconst 1, 1), (13, .goto 4, 3), (16, .iconst 0, 1), (17, .ireturn, 1)]
theorem ttX1_isHere : zdt cX1_isHere tX1_isHere = true := by decide +kernel
abbrev q_X1_isHere (h : zM) (c : Int) (p1 : Int) : Option zV → zM → Prop := zqi fun v h' => h = h' ∧ ((-2147483648) ≤ (h.2 c 4) ∧ (h.2 c 4) ≤ 2147483647) ∧ ((v = 0 ∧ (¬ (zand (zshr (h.2 c 4) p1) 1) = 1)) ∨ (v = 1 ∧ ((zand (zshr (h.2 c 4) p1) 1) = 1)))
set_option maxRecDepth 100000 in
set_option maxHeartbeats 4000000 in
theorem s_X1_isHere (l : Launch) (h : zM) (c : Int) (p1 : Int) (s0 : okC h) (hc : zIs c) (b_p1 : (-2147483648) ≤ p1 ∧ p1 ≤ 2147483647) : zT shC l yX1_isHere cX1_isHere 2 (some .boolean) (rmL 1) 0 0 [.inr c, .inl p1] h (q_X1_isHere h c p1) := by
  refine zT_of (by decide +kernel) (L0 := [some (.inr c), some (.inl p1)]) rfl (Nat.le_of_ble_eq_true rfl) ?_
  have b1 := zIs_b hc
  have b2 : (-2147483648) ≤ (h.2 c 4) ∧ (h.2 c 4) ≤ 2147483647 := fb_1_0_4 s0 hc
  refine zj_aload_n (zdk ttX1_isHere 0 rfl rfl) rfl (by omega) ?_
  refine zj_geti (v := (h.2 c 4)) (zdk ttX1_isHere 1 rfl rfl) zf_RX1_25 rfl (k_1_0 s0 hc) rfl ?_
  refine zj_iload_n (zdk ttX1_isHere 2 rfl rfl) rfl ?_
  refine zj_ishr (zdk ttX1_isHere 3 rfl rfl) ?_
  have b3 := zshr_in (h.2 c 4) p1
  refine zj_iconst (zdk ttX1_isHere 4 rfl rfl) ?_
  refine zj_iand (zdk ttX1_isHere 5 rfl rfl) ?_
  have b4 := zand_m (d := 2) 1 (by decide) (c := 1) (by decide) (by decide) (zshr (h.2 c 4) p1)
  refine zj_iconst (zdk ttX1_isHere 6 rfl rfl) ?_
  refine zj_icmp_ne (t := 16) (zdk ttX1_isHere 7 rfl rfl) (by decide) (by omega) (by decide) (fun c5 => ?_) (fun c5 => ?_)
  · refine zj_iconst (zdk ttX1_isHere 10 rfl rfl) ?_
    exact zj_zret rfl (zdk ttX1_isHere 11 rfl rfl) (Nat.le_refl _) (Nat.le_refl _) (by omega) ⟨0, rfl, rfl, b2, (Or.inl ⟨rfl, by omega⟩)⟩
  · refine zj_iconst (zdk ttX1_isHere 8 rfl rfl) ?_
    refine zj_goto (t := 17) (zdk ttX1_isHere 9 rfl rfl) (by decide) ?_
    exact zj_zret rfl (zdk ttX1_isHere 11 rfl rfl) (Nat.le_refl _) (Nat.le_refl _) (by omega) ⟨1, rfl, rfl, b2, (Or.inr ⟨rfl, by omega⟩)⟩

abbrev tX1_isBegged : List (Nat × Instr × Nat) := [(0, .aload_n 0, 1), (1, .getfield 28, 3), (4, .iload_n 1, 1), (5, .ishr, 1), (6, .iconst 1, 1), (7, .iand, 1), (8, .iconst 1, 1), (9, .if_icmp .ne 7, 3), (12, .iconst 1, 1), (13, .goto 4, 3), (16, .iconst 0, 1), (17, .ireturn, 1)]
theorem ttX1_isBegged : zdt cX1_isBegged tX1_isBegged = true := by decide +kernel
abbrev q_X1_isBegged (h : zM) (c : Int) (p1 : Int) : Option zV → zM → Prop := zqi fun v h' => h = h' ∧ ((-2147483648) ≤ (h.2 c 5) ∧ (h.2 c 5) ≤ 2147483647) ∧ ((v = 0 ∧ (¬ (zand (zshr (h.2 c 5) p1) 1) = 1)) ∨ (v = 1 ∧ ((zand (zshr (h.2 c 5) p1) 1) = 1)))
set_option maxRecDepth 100000 in
set_option maxHeartbeats 4000000 in
theorem s_X1_isBegged (l : Launch) (h : zM) (c : Int) (p1 : Int) (s0 : okC h) (hc : zIs c) (b_p1 : (-2147483648) ≤ p1 ∧ p1 ≤ 2147483647) : zT shC l yX1_isBegged cX1_isBegged 2 (some .boolean) (rmL 1) 0 0 [.inr c, .inl p1] h (q_X1_isBegged h c p1) := by
  refine zT_of (by decide +kernel) (L0 := [some (.inr c), some (.inl p1)]) rfl (Nat.le_of_ble_eq_true rfl) ?_
  have b1 := zIs_b hc
  have b2 : (-2147483648) ≤ (h.2 c 5) ∧ (h.2 c 5) ≤ 2147483647 := fb_1_0_5 s0 hc
  refine zj_aload_n (zdk ttX1_isBegged 0 rfl rfl) rfl (by omega) ?_
  refine zj_geti (v := (h.2 c 5)) (zdk ttX1_isBegged 1 rfl rfl) zf_RX1_28 rfl (k_1_0 s0 hc) rfl ?_
  refine zj_iload_n (zdk ttX1_isBegged 2 rfl rfl) rfl ?_
  refine zj_ishr (zdk ttX1_isBegged 3 rfl rfl) ?_
  have b3 := zshr_in (h.2 c 5) p1
  refine zj_iconst (zdk ttX1_isBegged 4 rfl rfl) ?_
  refine zj_iand (zdk ttX1_isBegged 5 rfl rfl) ?_
  have b4 := zand_m (d := 2) 1 (by decide) (c := 1) (by decide) (by decide) (zshr (h.2 c 5) p1)
  refine zj_iconst (zdk ttX1_isBegged 6 rfl rfl) ?_
  refine zj_icmp_ne (t := 16) (zdk ttX1_isBegged 7 rfl rfl) (by decide) (by omega) (by decide) (fun c5 => ?_) (fun c5 => ?_)
  · refine zj_iconst (zdk ttX1_isBegged 10 rfl rfl) ?_
    exact zj_zret rfl (zdk ttX1_isBegged 11 rfl rfl) (Nat.le_refl _) (Nat.le_refl _) (by omega) ⟨0, rfl, rfl, b2, (Or.inl ⟨rfl, by omega⟩)⟩
  · refine zj_iconst (zdk ttX1_isBegged 8 rfl rfl) ?_
    refine zj_goto (t := 17) (zdk ttX1_isBegged 9 rfl rfl) (by decide) ?_
    exact zj_zret rfl (zdk ttX1_isBegged 11 rfl rfl) (Nat.le_refl _) (Nat.le_refl _) (by omega) ⟨1, rfl, rfl, b2, (Or.inr ⟨rfl, by omega⟩)⟩

abbrev tX9_held : List (Nat × Instr × Nat) := [(0, .iconst 0, 1), (1, .iload_n 1, 1), (2, .iload_n 0, 1), (3, .invokestatic 166, 3), (6, .invokestatic 171, 3), (9, .ireturn, 1)]
theorem ttX9_held : zdt cX9_held tX9_held = true := by decide +kernel
abbrev q_X9_held (h : zM) (p1 : Int) (p2 : Int) : Option zV → zM → Prop := zqi fun v h' => h = h' ∧ (0 ≤ v ∧ v ≤ 2147483647) ∧ (0 ≤ p2 → v ≤ p2) ∧ (v = zm_max 0 (zm_min p2 p1))
set_option maxRecDepth 100000 in
set_option maxHeartbeats 4000000 in
theorem s_X9_held (l : Launch) (h : zM) (p1 : Int) (p2 : Int) (s0 : okC h) (b_p1 : (-2147483648) ≤ p1 ∧ p1 ≤ 2147483647) (b_p2 : (-2147483648) ≤ p2 ∧ p2 ≤ 2147483647) : zT shC l yX9_held cX9_held 2 (some .int) (rmL 2) 0 0 [.inl p1, .inl p2] h (q_X9_held h p1 p2) := by
  refine zT_of (by decide +kernel) (L0 := [some (.inl p1), some (.inl p2)]) rfl (Nat.le_of_ble_eq_true rfl) ?_
  refine zj_iconst (zdk ttX9_held 0 rfl rfl) ?_
  refine zj_iload_n (zdk ttX9_held 1 rfl rfl) rfl ?_
  refine zj_iload_n (zdk ttX9_held 2 rfl rfl) rfl ?_
  refine zj_min (zdk ttX9_held 3 rfl rfl) mx_RX9_166 (by omega) (by omega) (Nat.le_of_ble_eq_true rfl) (rm_m (by decide)) ?_
  have b1 := zm_min_f p2 p1
  refine zj_max (zdk ttX9_held 4 rfl rfl) mx_RX9_171 (by decide) (by omega) (Nat.le_of_ble_eq_true rfl) (rm_m (by decide)) ?_
  have b2 := zm_max_f 0 (zm_min p2 p1)
  exact zj_iret rfl (zdk ttX9_held 5 rfl rfl) (Nat.le_refl _) (Nat.le_refl _) ⟨(zm_max 0 (zm_min p2 p1)), rfl, rfl, by omega, by omega, by omega⟩

abbrev tX3_joined : List (Nat × Instr × Nat) := [(0, .iload_n 0, 1), (1, .lookupswitch 136 #[(5, 132), (42, 83), (43, 75), (45, 79), (47, 87), (60, 99), (61, 110), (62, 121)], 75), (76, .iload_n 1, 1), (77, .iload_n 2, 1), (78, .iadd, 1), (79, .ireturn, 1), (80, .iload_n 1, 1), (81, .iload_n 2, 1), (82, .isub, 1), (83, .ireturn, 1), (84, .iload_n 1, 1), (85, .iload_n 2, 1), (86, .imul, 1), (87, .ireturn, 1), (88, .iload_n 2, 1), (89, .ifCond .ne 7, 3), (92, .iconst 0, 1), (93, .goto 6, 3), (96, .iload_n 1, 1), (97, .iload_n 2, 1), (98, .idiv, 1), (99, .ireturn, 1), (100, .iload_n 1, 1), (101, .iload_n 2, 1), (102, .if_icmp .ge 7, 3), (105, .iconst 1, 1), (106, .goto 4, 3), (109, .iconst 0, 1), (110, .ireturn, 1), (111, .iload_n 1, 1), (112, .iload_n 2, 1), (113, .if_icmp .ne 7, 3), (116, .iconst 1, 1), (117, .goto 4, 3), (120, .iconst 0, 1), (121, .ireturn, 1), (122, .iload_n 1, 1), (123, .iload_n 2, 1), (124, .if_icmp .le 7, 3), (127, .iconst 1, 1), (128, .goto 4, 3), (131, .iconst 0, 1), (132, .ireturn, 1), (133, .iload_n 1, 1), (134, .iload_n 2, 1), (135, .iand, 1), (136, .ireturn, 1), (137, .iload_n 1, 1), (138, .iload_n 2, 1), (139, .ior, 1), (140, .ireturn, 1)]
theorem ttX3_joined : zdt cX3_joined tX3_joined = true := by decide +kernel
abbrev q_X3_joined (h : zM) (p1 : Int) (p2 : Int) (p3 : Int) : Option zV → zM → Prop := zqi fun v h' => h = h' ∧ ((-2147483648) ≤ v ∧ v ≤ 2147483647)
set_option maxRecDepth 100000 in
set_option maxHeartbeats 4000000 in
theorem s_X3_joined (l : Launch) (h : zM) (p1 : Int) (p2 : Int) (p3 : Int) (s0 : okC h) (b_p1 : (-2147483648) ≤ p1 ∧ p1 ≤ 2147483647) (b_p2 : (-2147483648) ≤ p2 ∧ p2 ≤ 2147483647) (b_p3 : (-2147483648) ≤ p3 ∧ p3 ≤ 2147483647) : zT shC l yX3_joined cX3_joined 3 (some .int) (rmL 1) 0 0 [.inl p1, .inl p2, .inl p3] h (q_X3_joined h p1 p2 p3) := by
  refine zT_of (by decide +kernel) (L0 := [some (.inl p1), some (.inl p2), some (.inl p3)]) rfl (Nat.le_of_ble_eq_true rfl) ?_
  refine zj_iload_n (zdk ttX3_joined 0 rfl rfl) rfl ?_
  have k2 : (¬ p1 = 5 ∧ ¬ p1 = 42 ∧ ¬ p1 = 43 ∧ ¬ p1 = 45 ∧ ¬ p1 = 47 ∧ ¬ p1 = 60 ∧ ¬ p1 = 61 ∧ ¬ p1 = 62) → zJ shC l yX3_joined cX3_joined 3 (some .int) (rmL 1) 0 0 (q_X3_joined h p1 p2 p3) 0 0 137 [some (.inl p1), some (.inl p2), some (.inl p3)] [] h := by
    intro c1
    refine zj_iload_n (zdk ttX3_joined 47 rfl rfl) rfl ?_
    refine zj_iload_n (zdk ttX3_joined 48 rfl rfl) rfl ?_
    refine zj_ior (zdk ttX3_joined 49 rfl rfl) ?_
    have b3 := zor_in p2 p3
    exact zj_iret rfl (zdk ttX3_joined 50 rfl rfl) (Nat.le_refl _) (Nat.le_refl _) ⟨(zor p2 p3), rfl, rfl, by omega⟩
  have k4 : p1 = 5 → zJ shC l yX3_joined cX3_joined 3 (some .int) (rmL 1) 0 0 (q_X3_joined h p1 p2 p3) 0 0 133 [some (.inl p1), some (.inl p2), some (.inl p3)] [] h := by
    intro c1
    refine zj_iload_n (zdk ttX3_joined 43 rfl rfl) rfl ?_
    refine zj_iload_n (zdk ttX3_joined 44 rfl rfl) rfl ?_
    refine zj_iand (zdk ttX3_joined 45 rfl rfl) ?_
    have b5 := zand_in p2 p3
    exact zj_iret rfl (zdk ttX3_joined 46 rfl rfl) (Nat.le_refl _) (Nat.le_refl _) ⟨(zand p2 p3), rfl, rfl, by omega⟩
  have k6 : p1 = 42 → zJ shC l yX3_joined cX3_joined 3 (some .int) (rmL 1) 0 0 (q_X3_joined h p1 p2 p3) 0 0 84 [some (.inl p1), some (.inl p2), some (.inl p3)] [] h := by
    intro c1
    refine zj_iload_n (zdk ttX3_joined 10 rfl rfl) rfl ?_
    refine zj_iload_n (zdk ttX3_joined 11 rfl rfl) rfl ?_
    refine zj_imul (zdk ttX3_joined 12 rfl rfl) ?_
    refine zj_wrap ?_
    have b7 := zwp_in (p2 * p3)
    exact zj_iret rfl (zdk ttX3_joined 13 rfl rfl) (Nat.le_refl _) (Nat.le_refl _) ⟨(zwp (p2 * p3)), rfl, rfl, by omega⟩
  have k8 : p1 = 43 → zJ shC l yX3_joined cX3_joined 3 (some .int) (rmL 1) 0 0 (q_X3_joined h p1 p2 p3) 0 0 76 [some (.inl p1), some (.inl p2), some (.inl p3)] [] h := by
    intro c1
    refine zj_iload_n (zdk ttX3_joined 2 rfl rfl) rfl ?_
    refine zj_iload_n (zdk ttX3_joined 3 rfl rfl) rfl ?_
    refine zj_iadd (zdk ttX3_joined 4 rfl rfl) ?_
    refine zj_wrap ?_
    have b9 := zwp_in (p2 + p3)
    exact zj_iret rfl (zdk ttX3_joined 5 rfl rfl) (Nat.le_refl _) (Nat.le_refl _) ⟨(zwp (p2 + p3)), rfl, rfl, by omega⟩
  have k10 : p1 = 45 → zJ shC l yX3_joined cX3_joined 3 (some .int) (rmL 1) 0 0 (q_X3_joined h p1 p2 p3) 0 0 80 [some (.inl p1), some (.inl p2), some (.inl p3)] [] h := by
    intro c1
    refine zj_iload_n (zdk ttX3_joined 6 rfl rfl) rfl ?_
    refine zj_iload_n (zdk ttX3_joined 7 rfl rfl) rfl ?_
    refine zj_isub (zdk ttX3_joined 8 rfl rfl) ?_
    refine zj_wrap ?_
    have b11 := zwp_in (p2 - p3)
    exact zj_iret rfl (zdk ttX3_joined 9 rfl rfl) (Nat.le_refl _) (Nat.le_refl _) ⟨(zwp (p2 - p3)), rfl, rfl, by omega⟩
  have k12 : p1 = 47 → zJ shC l yX3_joined cX3_joined 3 (some .int) (rmL 1) 0 0 (q_X3_joined h p1 p2 p3) 0 0 88 [some (.inl p1), some (.inl p2), some (.inl p3)] [] h := by
    intro c1
    refine zj_iload_n (zdk ttX3_joined 14 rfl rfl) rfl ?_
    refine zj_if_ne (t := 96) (zdk ttX3_joined 15 rfl rfl) (by decide) (by omega) (fun c13 => ?_) (fun c13 => ?_)
    · refine zj_iload_n (zdk ttX3_joined 18 rfl rfl) rfl ?_
      refine zj_iload_n (zdk ttX3_joined 19 rfl rfl) rfl ?_
      refine zj_idiv (zdk ttX3_joined 20 rfl rfl) (by omega) (by omega) (by omega) ?_
      have b14 := ztd_b p2 p3
      refine zj_wrap ?_
      have b15 := zwp_in (p2.tdiv p3)
      exact zj_iret rfl (zdk ttX3_joined 21 rfl rfl) (Nat.le_refl _) (Nat.le_refl _) ⟨(zwp (p2.tdiv p3)), rfl, rfl, by omega⟩
    · refine zj_iconst (zdk ttX3_joined 16 rfl rfl) ?_
      refine zj_goto (t := 99) (zdk ttX3_joined 17 rfl rfl) (by decide) ?_
      exact zj_iret rfl (zdk ttX3_joined 21 rfl rfl) (Nat.le_refl _) (Nat.le_refl _) ⟨0, rfl, rfl, by omega⟩
  have k16 : p1 = 60 → zJ shC l yX3_joined cX3_joined 3 (some .int) (rmL 1) 0 0 (q_X3_joined h p1 p2 p3) 0 0 100 [some (.inl p1), some (.inl p2), some (.inl p3)] [] h := by
    intro c1
    refine zj_iload_n (zdk ttX3_joined 22 rfl rfl) rfl ?_
    refine zj_iload_n (zdk ttX3_joined 23 rfl rfl) rfl ?_
    refine zj_icmp_ge (t := 109) (zdk ttX3_joined 24 rfl rfl) (by decide) (by omega) (by omega) (fun c17 => ?_) (fun c17 => ?_)
    · refine zj_iconst (zdk ttX3_joined 27 rfl rfl) ?_
      exact zj_iret rfl (zdk ttX3_joined 28 rfl rfl) (Nat.le_refl _) (Nat.le_refl _) ⟨0, rfl, rfl, by omega⟩
    · refine zj_iconst (zdk ttX3_joined 25 rfl rfl) ?_
      refine zj_goto (t := 110) (zdk ttX3_joined 26 rfl rfl) (by decide) ?_
      exact zj_iret rfl (zdk ttX3_joined 28 rfl rfl) (Nat.le_refl _) (Nat.le_refl _) ⟨1, rfl, rfl, by omega⟩
  have k18 : p1 = 61 → zJ shC l yX3_joined cX3_joined 3 (some .int) (rmL 1) 0 0 (q_X3_joined h p1 p2 p3) 0 0 111 [some (.inl p1), some (.inl p2), some (.inl p3)] [] h := by
    intro c1
    refine zj_iload_n (zdk ttX3_joined 29 rfl rfl) rfl ?_
    refine zj_iload_n (zdk ttX3_joined 30 rfl rfl) rfl ?_
    refine zj_icmp_ne (t := 120) (zdk ttX3_joined 31 rfl rfl) (by decide) (by omega) (by omega) (fun c19 => ?_) (fun c19 => ?_)
    · refine zj_iconst (zdk ttX3_joined 34 rfl rfl) ?_
      exact zj_iret rfl (zdk ttX3_joined 35 rfl rfl) (Nat.le_refl _) (Nat.le_refl _) ⟨0, rfl, rfl, by omega⟩
    · refine zj_iconst (zdk ttX3_joined 32 rfl rfl) ?_
      refine zj_goto (t := 121) (zdk ttX3_joined 33 rfl rfl) (by decide) ?_
      exact zj_iret rfl (zdk ttX3_joined 35 rfl rfl) (Nat.le_refl _) (Nat.le_refl _) ⟨1, rfl, rfl, by omega⟩
  have k20 : p1 = 62 → zJ shC l yX3_joined cX3_joined 3 (some .int) (rmL 1) 0 0 (q_X3_joined h p1 p2 p3) 0 0 122 [some (.inl p1), some (.inl p2), some (.inl p3)] [] h := by
    intro c1
    refine zj_iload_n (zdk ttX3_joined 36 rfl rfl) rfl ?_
    refine zj_iload_n (zdk ttX3_joined 37 rfl rfl) rfl ?_
    refine zj_icmp_le (t := 131) (zdk ttX3_joined 38 rfl rfl) (by decide) (by omega) (by omega) (fun c21 => ?_) (fun c21 => ?_)
    · refine zj_iconst (zdk ttX3_joined 41 rfl rfl) ?_
      exact zj_iret rfl (zdk ttX3_joined 42 rfl rfl) (Nat.le_refl _) (Nat.le_refl _) ⟨0, rfl, rfl, by omega⟩
    · refine zj_iconst (zdk ttX3_joined 39 rfl rfl) ?_
      refine zj_goto (t := 132) (zdk ttX3_joined 40 rfl rfl) (by decide) ?_
      exact zj_iret rfl (zdk ttX3_joined 42 rfl rfl) (Nat.le_refl _) (Nat.le_refl _) ⟨1, rfl, rfl, by omega⟩
  by_cases z22 : p1 = 5
  · exact zj_lookup (t := 133) (zdk ttX3_joined 1 rfl rfl) (by omega) rfl (by rw [z22] <;> rfl) (by decide) (k4 z22)
  by_cases z23 : p1 = 42
  · exact zj_lookup (t := 84) (zdk ttX3_joined 1 rfl rfl) (by omega) rfl (by rw [z23] <;> rfl) (by decide) (k6 z23)
  by_cases z24 : p1 = 43
  · exact zj_lookup (t := 76) (zdk ttX3_joined 1 rfl rfl) (by omega) rfl (by rw [z24] <;> rfl) (by decide) (k8 z24)
  by_cases z25 : p1 = 45
  · exact zj_lookup (t := 80) (zdk ttX3_joined 1 rfl rfl) (by omega) rfl (by rw [z25] <;> rfl) (by decide) (k10 z25)
  by_cases z26 : p1 = 47
  · exact zj_lookup (t := 88) (zdk ttX3_joined 1 rfl rfl) (by omega) rfl (by rw [z26] <;> rfl) (by decide) (k12 z26)
  by_cases z27 : p1 = 60
  · exact zj_lookup (t := 100) (zdk ttX3_joined 1 rfl rfl) (by omega) rfl (by rw [z27] <;> rfl) (by decide) (k16 z27)
  by_cases z28 : p1 = 61
  · exact zj_lookup (t := 111) (zdk ttX3_joined 1 rfl rfl) (by omega) rfl (by rw [z28] <;> rfl) (by decide) (k18 z28)
  by_cases z29 : p1 = 62
  · exact zj_lookup (t := 122) (zdk ttX3_joined 1 rfl rfl) (by omega) rfl (by rw [z29] <;> rfl) (by decide) (k20 z29)
  exact zj_lookup (t := 137) (zdk ttX3_joined 1 rfl rfl) (by omega) rfl (by show Op.lookupswitch.offset [(5, 132), (42, 83), (43, 75), (45, 79), (47, 87), (60, 99), (61, 110), (62, 121)] 136 p1 = _; rw [Op.lookupswitch.offset_cons, if_neg (by omega), Op.lookupswitch.offset_cons, if_neg (by omega), Op.lookupswitch.offset_cons, if_neg (by omega), Op.lookupswitch.offset_cons, if_neg (by omega), Op.lookupswitch.offset_cons, if_neg (by omega), Op.lookupswitch.offset_cons, if_neg (by omega), Op.lookupswitch.offset_cons, if_neg (by omega), Op.lookupswitch.offset_cons, if_neg (by omega), Op.lookupswitch.offset_nil]) (by decide) (k2 (by omega))

abbrev tX0_copyFrom : List (Nat × Instr × Nat) := [(0, .aload_n 1, 1), (1, .getfield 9, 3), (4, .iconst 0, 1), (5, .aload_n 0, 1), (6, .getfield 9, 3), (9, .iconst 0, 1), (10, .sipush 150, 3), (13, .invokestatic 26, 3), (16, .aload_n 1, 1), (17, .getfield 13, 3), (20, .iconst 0, 1), (21, .aload_n 0, 1), (22, .getfield 13, 3), (25, .iconst 0, 1), (26, .sipush 150, 3), (29, .invokestatic 26, 3), (32, .aload_n 1, 1), (33, .getfield 16, 3), (36, .iconst 0, 1), (37, .aload_n 0, 1), (38, .getfield 16, 3), (41, .iconst 0, 1), (42, .sipush 150, 3), (45, .invokestatic 26, 3), (48, .aload_n 1, 1), (49, .getfield 19, 3), (52, .iconst 0, 1), (53, .aload_n 0, 1), (54, .getfield 19, 3), (57, .iconst 0, 1), (58, .sipush 150, 3), (61, .invokestatic 26, 3), (64, .aload_n 0, 1), (65, .aload_n 1, 1), (66, .getfield 22, 3), (69, .putfield 22, 3), (72, .return_, 1)]
theorem ttX0_copyFrom : zdt cX0_copyFrom tX0_copyFrom = true := by decide +kernel
abbrev w_X0_copyFrom (c a b : Int) : Prop := (a = c ∧ b = 4) ∨ (c + 1 ≤ a ∧ a ≤ c + 4)
abbrev tX0_write : List (Nat × Instr × Nat) := [(0, .aload_n 0, 1), (1, .getfield 22, 3), (4, .sipush 150, 3), (7, .if_icmp .lt 4, 3), (10, .return_, 1), (11, .aload_n 0, 1), (12, .getfield 9, 3), (15, .aload_n 0, 1), (16, .getfield 22, 3), (19, .iload_n 1, 1), (20, .iastore, 1), (21, .aload_n 0, 1), (22, .getfield 13, 3), (25, .aload_n 0, 1), (26, .getfield 22, 3), (29, .iload_n 2, 1), (30, .iastore, 1), (31, .aload_n 0, 1), (32, .getfield 16, 3), (35, .aload_n 0, 1), (36, .getfield 22, 3), (39, .iload_n 3, 1), (40, .iastore, 1), (41, .aload_n 0, 1), (42, .getfield 19, 3), (45, .aload_n 0, 1), (46, .getfield 22, 3), (49, .iload 4, 2), (51, .iastore, 1), (52, .aload_n 0, 1), (53, .dup, 1), (54, .getfield 22, 3), (57, .iconst 1, 1), (58, .iadd, 1), (59, .putfield 22, 3), (62, .return_, 1)]
theorem ttX0_write : zdt cX0_write tX0_write = true := by decide +kernel
abbrev w_X0_write (c a b : Int) : Prop := (a = c ∧ b = 4) ∨ (c + 1 ≤ a ∧ a ≤ c + 4)
abbrev tX1_copyFrom : List (Nat × Instr × Nat) := [(0, .aload_n 1, 1), (1, .getfield 9, 3), (4, .iconst 0, 1), (5, .aload_n 0, 1), (6, .getfield 9, 3), (9, .iconst 0, 1), (10, .bipush 18, 2), (12, .invokestatic 55, 3), (15, .aload_n 1, 1), (16, .getfield 15, 3), (19, .iconst 0, 1), (20, .aload_n 0, 1), (21, .getfield 15, 3), (24, .iconst 0, 1), (25, .bipush 18, 2), (27, .invokestatic 55, 3), (30, .aload_n 1, 1), (31, .getfield 18, 3), (34, .iconst 0, 1), (35, .aload_n 0, 1), (36, .getfield 18, 3), (39, .iconst 0, 1), (40, .bipush 18, 2), (42, .invokestatic 55, 3), (45, .aload_n 0, 1), (46, .aload_n 1, 1), (47, .getfield 21, 3), (50, .putfield 21, 3), (53, .aload_n 0, 1), (54, .aload_n 1, 1), (55, .getfield 25, 3), (58, .putfield 25, 3), (61, .aload_n 0, 1), (62, .aload_n 1, 1), (63, .getfield 28, 3), (66, .putfield 28, 3), (69, .aload_n 0, 1), (70, .aload_n 1, 1), (71, .getfield 31, 3), (74, .putfield 31, 3), (77, .aload_n 0, 1), (78, .aload_n 1, 1), (79, .getfield 34, 3), (82, .putfield 34, 3), (85, .aload_n 0, 1), (86, .aload_n 1, 1), (87, .getfield 37, 3), (90, .putfield 37, 3), (93, .aload_n 0, 1), (94, .aload_n 1, 1), (95, .getfield 40, 3), (98, .putfield 40, 3), (101, .aload_n 0, 1), (102, .aload_n 1, 1), (103, .getfield 43, 3), (106, .putfield 43, 3), (109, .aload_n 0, 1), (110, .aload_n 1, 1), (111, .getfield 46, 3), (114, .putfield 46, 3), (117, .aload_n 0, 1), (118, .aload_n 1, 1), (119, .getfield 49, 3), (122, .putfield 49, 3), (125, .aload_n 0, 1), (126, .aload_n 1, 1), (127, .getfield 52, 3), (130, .putfield 52, 3), (133, .return_, 1)]
theorem ttX1_copyFrom : zdt cX1_copyFrom tX1_copyFrom = true := by decide +kernel
abbrev w_X1_copyFrom (c a b : Int) : Prop := (a = c ∧ 3 ≤ b ∧ b ≤ 13) ∨ (c + 1 ≤ a ∧ a ≤ c + 3)
/-- what can be undone has as many people as there are -/
def zJP (h : zM) : Prop := ∀ i, 0 ≤ i → i < h.2 0 8 → h.2 (h.2 114 i) 3 = h.2 2 3
theorem zJP_0 {h : zM} (e : h.2 0 8 = 0) : zJP h := fun i a b => absurd b (by omega)
theorem zJP_sh {h0 h1 h2 : zM} {v : Int} (s2 : okC h2) (e1 : h1 = zwr h0 114 5 v) (e2 : h2 = zwr h1 0 8 5) (f : ∀ i, 0 ≤ i → i < 6 → h0.2 (h0.2 114 i) 3 = h0.2 2 3) : zJP h2 := by
  have g : ∀ a b, ¬ a = 0 → ¬ a = 114 → h2.2 a b = h0.2 a b := fun a b z1 z2 => (zwr_r e2 (by first | decide | exact (absurd ·.1 (by decide)) | exact (absurd ·.2 (by decide)) | omega)).trans (zwr_r e1 (by first | decide | exact (absurd ·.1 (by decide)) | exact (absurd ·.2 (by decide)) | omega))
  have g2 : ∀ i, i < 5 → h2.2 114 i = h0.2 114 i := fun i z => (zwr_r e2 (by first | decide | exact (absurd ·.1 (by decide)) | exact (absurd ·.2 (by decide)) | omega)).trans (zwr_r e1 (by first | decide | exact (absurd ·.1 (by decide)) | exact (absurd ·.2 (by decide)) | omega))
  have e8 : h2.2 0 8 = 5 := zwr_v e2
  intro i a b
  have pb := zPast_b (s2.2.2.1 i a (by omega))
  have e9 := g2 i (by omega)
  rw [e9] at pb
  rw [e9, g (h0.2 114 i) 3 (by omega) (by omega), g 2 3 (by decide) (by decide)]
  exact f i a (by omega)
theorem zJP_row {m0 m1 m2 : zM} {x v y w : Int} (s : okC m0) (e1 : m1 = zwr m0 114 x v) (hv : ∃ k, 0 ≤ k ∧ k < 6 ∧ v = m0.2 114 k) (e2 : m2 = zwr m1 115 y w) (f : ∀ i, 0 ≤ i → i < 6 → m0.2 (m0.2 114 i) 3 = m0.2 2 3) : ∀ i, 0 ≤ i → i < 6 → m2.2 (m2.2 114 i) 3 = m2.2 2 3 := by
  have g : ∀ a b, ¬ a = 115 → ¬ a = 114 → m2.2 a b = m0.2 a b := fun a b z1 z2 => (zwr_r e2 (by first | decide | exact (absurd ·.1 (by decide)) | exact (absurd ·.2 (by decide)) | omega)).trans (zwr_r e1 (by first | decide | exact (absurd ·.1 (by decide)) | exact (absurd ·.2 (by decide)) | omega))
  intro i a b
  have z : ∃ k, 0 ≤ k ∧ k < 6 ∧ m2.2 114 i = m0.2 114 k := by
    have e3 : m2.2 114 i = m1.2 114 i := zwr_r e2 (by first | decide | exact (absurd ·.1 (by decide)) | exact (absurd ·.2 (by decide)) | omega)
    by_cases q : i = x
    · obtain ⟨k, k0, k1, k2⟩ := hv
      exact ⟨k, k0, k1, by rw [e3, q, zwr_v e1]; exact k2⟩
    · exact ⟨i, a, b, by rw [e3]; exact zwr_r e1 (by first | decide | exact (absurd ·.1 (by decide)) | exact (absurd ·.2 (by decide)) | omega)⟩
  obtain ⟨k, k0, k1, k2⟩ := z
  have pb := zPast_b (s.2.2.1 k k0 k1)
  rw [k2, g (m0.2 114 k) 3 (by omega) (by omega), g 2 3 (by decide) (by decide)]
  exact f k k0 k1
theorem zJP_g {h h' : zM} (s : okC h) (e8 : h'.2 0 8 = h.2 0 8) (e3 : h'.2 2 3 = h.2 2 3) (f : ∀ a b, 114 ≤ a → a ≤ 139 → h'.2 a b = h.2 a b) (j : zJP h) : zJP h' := by
  intro i a b
  have u : 0 ≤ h.2 0 8 ∧ h.2 0 8 ≤ 6 := fb_L0_8 s
  have p := zPast_b (s.2.2.1 i a (by omega))
  rw [f 114 i (by decide) (by decide), f (h.2 114 i) 3 (by omega) (by omega), e3]
  exact j i a (by omega)
theorem zJP_push {h h1 h2 h3 : zM} {u x : Int} (s : okC h) (j : zJP h) (hu : h.2 0 8 = u) (u0 : 0 ≤ u ∧ u < 6) (f : zfC (w_X1_copyFrom (h.2 114 u)) h h1) (e : h1.2 (h.2 114 u) 3 = h.2 2 3) (e2 : h2 = zwr h1 115 u x) (e3 : h3 = zwr h2 0 8 (u + 1)) : zJP h3 := by
  have P := s.2.2.1 u u0.1 u0.2
  have pb := zPast_b P
  have e8 : h3.2 0 8 = u + 1 := zwr_v e3
  have g : ∀ a b, ¬ a = 0 → ¬ a = 115 → h3.2 a b = h1.2 a b := fun a b z1 z2 => (zwr_r e3 (by first | decide | exact (absurd ·.1 (by decide)) | exact (absurd ·.2 (by decide)) | omega)).trans (zwr_r e2 (by first | decide | exact (absurd ·.1 (by decide)) | exact (absurd ·.2 (by decide)) | omega))
  have g1 : ∀ a b, a < 115 → h1.2 a b = h.2 a b := fun a b z => zfC_a f (fun w => by unfold w_X1_copyFrom at w; first | (revert w; decide) | omega)
  intro i a b
  have Q := s.2.2.1 i a (by omega)
  have qb := zPast_b Q
  rw [g 114 i (by decide) (by decide), g1 114 i (by decide), g _ 3 (by omega) (by omega), g 2 3 (by decide) (by decide), g1 2 3 (by decide)]
  by_cases z : h.2 114 i = h.2 114 u
  · rw [z]; exact e
  · have sp := zIs_sep (zPast_Is Q) (zPast_Is P)
    rw [zfC_a f (fun w => by unfold w_X1_copyFrom at w; first | (revert w; decide) | omega)]
    refine j i a ?_
    by_cases y : i = u
    · rw [y] at z; exact absurd rfl z
    · omega
theorem zJP_undo {h h1 h2 h3 : zM} {u x : Int} (s : okC h) (hu : h.2 0 8 = u) (u0 : 1 ≤ u) (e1 : h1 = zwr h 0 8 (u - 1)) (f : zfC (w_X1_copyFrom 2) h1 h2) (e : h2.2 2 3 = h1.2 (h1.2 114 (u - 1)) 3) (e3 : h3 = zwr h2 23 4 x) : zJP h → zJP h3 ∧ h3.2 2 3 = h.2 2 3 := by
  intro j
  have ub : 0 ≤ h.2 0 8 ∧ h.2 0 8 ≤ 6 := fb_L0_8 s
  have pb := zPast_b (s.2.2.1 (u - 1) (by omega) (by omega))
  have g1 : ∀ a b, ¬ a = 0 → h1.2 a b = h.2 a b := fun a b z => zwr_r e1 (by first | decide | exact (absurd ·.1 (by decide)) | exact (absurd ·.2 (by decide)) | omega)
  have e23 : h3.2 2 3 = h.2 2 3 := by
    rw [zwr_r e3 (by decide), e, g1 114 _ (by decide), g1 _ 3 (by omega)]
    exact j (u - 1) (by omega) (by omega)
  have g3 : ∀ a b, 100 ≤ a → h3.2 a b = h.2 a b := fun a b z => (zwr_r e3 (by first | decide | exact (absurd ·.1 (by decide)) | exact (absurd ·.2 (by decide)) | omega)).trans ((zfC_a f (fun w => by unfold w_X1_copyFrom at w; first | (revert w; decide) | omega)).trans (g1 a b (by omega)))
  have e8 : h3.2 0 8 = u - 1 := (zwr_r e3 (by decide)).trans ((zfC_a f (fun w => by unfold w_X1_copyFrom at w; first | (revert w; decide) | omega)).trans (zwr_v e1))
  refine ⟨fun i a b => ?_, e23⟩
  have qb := zPast_b (s.2.2.1 i a (by omega))
  rw [g3 114 i (by decide), g3 _ 3 (by omega), e23]
  exact j i a (by omega)

abbrev tX1_moveHands : List (Nat × Instr × Nat) := [(0, .aload_n 0, 1), (1, .getfield 31, 3), (4, .iload_n 1, 1), (5, .iadd, 1), (6, .istore_n 2, 1), (7, .aload_n 0, 1), (8, .dup, 1), (9, .getfield 40, 3), (12, .iload_n 2, 1), (13, .sipush 720, 3), (16, .invokestatic 63, 3), (19, .iadd, 1), (20, .putfield 40, 3), (23, .aload_n 0, 1), (24, .iload_n 2, 1), (25, .sipush 720, 3), (28, .invokestatic 69, 3), (31, .putfield 31, 3), (34, .return_, 1)]
theorem ttX1_moveHands : zdt cX1_moveHands tX1_moveHands = true := by decide +kernel
abbrev w_X1_moveHands (c a b : Int) : Prop := (a = c ∧ b = 6) ∨ (a = c ∧ b = 9)
abbrev tX1_comes : List (Nat × Instr × Nat) := [(0, .aload_n 0, 1), (1, .getfield 21, 3), (4, .bipush 18, 2), (6, .if_icmp .lt 5, 3), (9, .iconst (-1), 1), (10, .ireturn, 1), (11, .aload_n 0, 1), (12, .getfield 9, 3), (15, .aload_n 0, 1), (16, .getfield 21, 3), (19, .iload_n 1, 1), (20, .iastore, 1), (21, .aload_n 0, 1), (22, .getfield 15, 3), (25, .aload_n 0, 1), (26, .getfield 21, 3), (29, .iload_n 2, 1), (30, .iastore, 1), (31, .aload_n 0, 1), (32, .getfield 18, 3), (35, .aload_n 0, 1), (36, .getfield 21, 3), (39, .iconst 0, 1), (40, .iastore, 1), (41, .aload_n 0, 1), (42, .dup, 1), (43, .getfield 25, 3), (46, .iconst 1, 1), (47, .aload_n 0, 1), (48, .getfield 21, 3), (51, .ishl, 1), (52, .ior, 1), (53, .putfield 25, 3), (56, .aload_n 0, 1), (57, .dup, 1), (58, .getfield 21, 3), (61, .dup_x1, 1), (62, .iconst 1, 1), (63, .iadd, 1), (64, .putfield 21, 3), (67, .ireturn, 1)]
theorem ttX1_comes : zdt cX1_comes tX1_comes = true := by decide +kernel
abbrev w_X1_comes (c a b : Int) : Prop := (a = c ∧ 3 ≤ b ∧ b ≤ 4) ∨ (c + 1 ≤ a ∧ a ≤ c + 3)
abbrev tX1_drawOfThousand : List (Nat × Instr × Nat) := [(0, .aload_n 0, 1), (1, .ldc 61, 2), (3, .aload_n 0, 1), (4, .getfield 52, 3), (7, .imul, 1), (8, .ldc 62, 2), (10, .iadd, 1), (11, .putfield 52, 3), (14, .aload_n 0, 1), (15, .getfield 52, 3), (18, .bipush 8, 2), (20, .iushr, 1), (21, .sipush 1000, 3), (24, .irem, 1), (25, .ireturn, 1)]
theorem ttX1_drawOfThousand : zdt cX1_drawOfThousand tX1_drawOfThousand = true := by decide +kernel
abbrev w_X1_drawOfThousand (c a b : Int) : Prop := (a = c ∧ b = 13)
abbrev tX4_copyFrom : List (Nat × Instr × Nat) := [(0, .aload_n 1, 1), (1, .getfield 9, 3), (4, .iconst 0, 1), (5, .aload_n 0, 1), (6, .getfield 9, 3), (9, .iconst 0, 1), (10, .bipush 16, 2), (12, .invokestatic 25, 3), (15, .aload_n 1, 1), (16, .getfield 15, 3), (19, .iconst 0, 1), (20, .aload_n 0, 1), (21, .getfield 15, 3), (24, .iconst 0, 1), (25, .bipush 16, 2), (27, .invokestatic 25, 3), (30, .aload_n 1, 1), (31, .getfield 18, 3), (34, .iconst 0, 1), (35, .aload_n 0, 1), (36, .getfield 18, 3), (39, .iconst 0, 1), (40, .bipush 16, 2), (42, .invokestatic 25, 3), (45, .aload_n 0, 1), (46, .aload_n 1, 1), (47, .getfield 21, 3), (50, .putfield 21, 3), (53, .return_, 1)]
theorem ttX4_copyFrom : zdt cX4_copyFrom tX4_copyFrom = true := by decide +kernel
abbrev w_X4_copyFrom (c a b : Int) : Prop := (a = c ∧ b = 3) ∨ (c + 1 ≤ a ∧ a ≤ c + 3)
abbrev tX2_copyFrom : List (Nat × Instr × Nat) := [(0, .aload_n 1, 1), (1, .getfield 9, 3), (4, .iconst 0, 1), (5, .aload_n 0, 1), (6, .getfield 9, 3), (9, .iconst 0, 1), (10, .bipush 18, 2), (12, .invokestatic 19, 3), (15, .aload_n 0, 1), (16, .aload_n 1, 1), (17, .getfield 15, 3), (20, .putfield 15, 3), (23, .return_, 1)]
theorem ttX2_copyFrom : zdt cX2_copyFrom tX2_copyFrom = true := by decide +kernel
abbrev w_X2_copyFrom (c a b : Int) : Prop := (a = c ∧ b = 1) ∨ a = c + 1
abbrev tX2_clear : List (Nat × Instr × Nat) := [(0, .aload_n 0, 1), (1, .getfield 9, 3), (4, .iconst 0, 1), (5, .invokestatic 25, 3), (8, .aload_n 0, 1), (9, .iconst 0, 1), (10, .putfield 15, 3), (13, .return_, 1)]
theorem ttX2_clear : zdt cX2_clear tX2_clear = true := by decide +kernel
abbrev w_X2_clear (c a b : Int) : Prop := (a = c ∧ b = 1) ∨ a = c + 1
abbrev tX2_join : List (Nat × Instr × Nat) := [(0, .iload_n 1, 1), (1, .iconst 0, 1), (2, .bipush 17, 2), (4, .invokestatic 31, 3), (7, .ifCond .eq 37, 3), (10, .iload_n 2, 1), (11, .iconst 0, 1), (12, .bipush 17, 2), (14, .invokestatic 31, 3), (17, .ifCond .eq 27, 3), (20, .aload_n 0, 1), (21, .getfield 9, 3), (24, .iload_n 1, 1), (25, .dup2, 1), (26, .iaload, 1), (27, .iconst 1, 1), (28, .iload_n 2, 1), (29, .ishl, 1), (30, .ior, 1), (31, .iastore, 1), (32, .aload_n 0, 1), (33, .getfield 9, 3), (36, .iload_n 2, 1), (37, .dup2, 1), (38, .iaload, 1), (39, .iconst 1, 1), (40, .iload_n 1, 1), (41, .ishl, 1), (42, .ior, 1), (43, .iastore, 1), (44, .return_, 1)]
theorem ttX2_join : zdt cX2_join tX2_join = true := by decide +kernel
abbrev w_X2_join (c a b : Int) : Prop := a = c + 1
abbrev tX2_areKin : List (Nat × Instr × Nat) := [(0, .aload_n 0, 1), (1, .getfield 9, 3), (4, .iload_n 1, 1), (5, .iaload, 1), (6, .iload_n 2, 1), (7, .ishr, 1), (8, .iconst 1, 1), (9, .iand, 1), (10, .iconst 1, 1), (11, .if_icmp .ne 7, 3), (14, .iconst 1, 1), (15, .goto 4, 3), (18, .iconst 0, 1), (19, .ireturn, 1)]
theorem ttX2_areKin : zdt cX2_areKin tX2_areKin = true := by decide +kernel
abbrev q_X2_areKin (h : zM) (c : Int) (p1 : Int) (p2 : Int) : Option zV → zM → Prop := zqi fun v h' => h = h' ∧ ((v = 0 ∧ (¬ (zand (zshr (h.2 (c + 1) p1) p2) 1) = 1)) ∨ (v = 1 ∧ ((zand (zshr (h.2 (c + 1) p1) p2) 1) = 1)))
set_option maxRecDepth 100000 in
set_option maxHeartbeats 4000000 in
theorem s_X2_areKin (l : Launch) (h : zM) (c : Int) (p1 : Int) (p2 : Int) (s0 : okC h) (hc : zKi c) (b_p1 : 0 ≤ p1 ∧ p1 ≤ 17) (b_p2 : (-2147483648) ≤ p2 ∧ p2 ≤ 2147483647) : zT shC l yX2_areKin cX2_areKin 3 (some .boolean) (rmL 1) 0 0 [.inr c, .inl p1, .inl p2] h (q_X2_areKin h c p1 p2) := by
  refine zT_of (by decide +kernel) (L0 := [some (.inr c), some (.inl p1), some (.inl p2)]) rfl (Nat.le_of_ble_eq_true rfl) ?_
  have b1 := zKi_b hc
  refine zj_aload_n (zdk ttX2_areKin 0 rfl rfl) rfl (by omega) ?_
  refine zj_getr (r := (c + 1)) (zdk ttX2_areKin 1 rfl rfl) zf_RX2_9 rfl (k_2_0 s0 hc) (rf_2_0_0 s0 hc) ?_
  refine zj_iload_n (zdk ttX2_areKin 2 rfl rfl) rfl ?_
  have b2 : -2147483648 ≤ (h.2 (c + 1) p1) ∧ (h.2 (c + 1) p1) ≤ 2147483647 := ab_2_0_0 s0 hc p1
  refine zj_iald (v := (h.2 (c + 1) p1)) (zdk ttX2_areKin 3 rfl rfl) (ka_2_0_0 s0 hc) (by decide) (by omega) rfl ?_
  refine zj_iload_n (zdk ttX2_areKin 4 rfl rfl) rfl ?_
  refine zj_ishr (zdk ttX2_areKin 5 rfl rfl) ?_
  have b3 := zshr_in (h.2 (c + 1) p1) p2
  refine zj_iconst (zdk ttX2_areKin 6 rfl rfl) ?_
  refine zj_iand (zdk ttX2_areKin 7 rfl rfl) ?_
  have b4 := zand_m (d := 2) 1 (by decide) (c := 1) (by decide) (by decide) (zshr (h.2 (c + 1) p1) p2)
  refine zj_iconst (zdk ttX2_areKin 8 rfl rfl) ?_
  refine zj_icmp_ne (t := 18) (zdk ttX2_areKin 9 rfl rfl) (by decide) (by omega) (by decide) (fun c5 => ?_) (fun c5 => ?_)
  · refine zj_iconst (zdk ttX2_areKin 12 rfl rfl) ?_
    exact zj_zret rfl (zdk ttX2_areKin 13 rfl rfl) (Nat.le_refl _) (Nat.le_refl _) (by omega) ⟨0, rfl, rfl, (Or.inl ⟨rfl, by omega⟩)⟩
  · refine zj_iconst (zdk ttX2_areKin 10 rfl rfl) ?_
    refine zj_goto (t := 19) (zdk ttX2_areKin 11 rfl rfl) (by decide) ?_
    exact zj_zret rfl (zdk ttX2_areKin 13 rfl rfl) (Nat.le_refl _) (Nat.le_refl _) (by omega) ⟨1, rfl, rfl, (Or.inr ⟨rfl, by omega⟩)⟩

abbrev tX3_copyFrom : List (Nat × Instr × Nat) := [(0, .aload_n 1, 1), (1, .getfield 9, 3), (4, .iconst 0, 1), (5, .aload_n 0, 1), (6, .getfield 9, 3), (9, .iconst 0, 1), (10, .bipush 16, 2), (12, .invokestatic 39, 3), (15, .aload_n 1, 1), (16, .getfield 15, 3), (19, .iconst 0, 1), (20, .aload_n 0, 1), (21, .getfield 15, 3), (24, .iconst 0, 1), (25, .bipush 16, 2), (27, .invokestatic 39, 3), (30, .aload_n 1, 1), (31, .getfield 18, 3), (34, .iconst 0, 1), (35, .aload_n 0, 1), (36, .getfield 18, 3), (39, .iconst 0, 1), (40, .bipush 16, 2), (42, .invokestatic 39, 3), (45, .aload_n 1, 1), (46, .getfield 21, 3), (49, .iconst 0, 1), (50, .aload_n 0, 1), (51, .getfield 21, 3), (54, .iconst 0, 1), (55, .bipush 16, 2), (57, .invokestatic 39, 3), (60, .aload_n 1, 1), (61, .getfield 26, 3), (64, .iconst 0, 1), (65, .aload_n 0, 1), (66, .getfield 26, 3), (69, .iconst 0, 1), (70, .sipush 400, 3), (73, .invokestatic 39, 3), (76, .aload_n 0, 1), (77, .aload_n 1, 1), (78, .getfield 32, 3), (81, .putfield 32, 3), (84, .aload_n 0, 1), (85, .aload_n 1, 1), (86, .getfield 36, 3), (89, .putfield 36, 3), (92, .return_, 1)]
theorem ttX3_copyFrom : zdt cX3_copyFrom tX3_copyFrom = true := by decide +kernel
abbrev w_X3_copyFrom (c a b : Int) : Prop := (a = c ∧ 6 ≤ b ∧ b ≤ 7) ∨ (c + 1 ≤ a ∧ a ≤ c + 5)
abbrev tX3_put : List (Nat × Instr × Nat) := [(0, .aload_n 0, 1), (1, .getfield 36, 3), (4, .sipush 400, 3), (7, .if_icmp .ge 20, 3), (10, .aload_n 0, 1), (11, .getfield 26, 3), (14, .aload_n 0, 1), (15, .dup, 1), (16, .getfield 36, 3), (19, .dup_x1, 1), (20, .iconst 1, 1), (21, .iadd, 1), (22, .putfield 36, 3), (25, .iload_n 1, 1), (26, .iastore, 1), (27, .return_, 1)]
theorem ttX3_put : zdt cX3_put tX3_put = true := by decide +kernel
abbrev w_X3_put (c a b : Int) : Prop := (a = c ∧ b = 7) ∨ a = c + 5
abbrev tX8_strokesOver : List (Nat × Instr × Nat) := [(0, .iconst 0, 1), (1, .istore_n 2, 1), (2, .iload_n 0, 1), (3, .bipush 60, 2), (5, .idiv, 1), (6, .bipush 60, 2), (8, .imul, 1), (9, .bipush 60, 2), (11, .iadd, 1), (12, .istore_n 3, 1), (13, .iload_n 3, 1), (14, .iload_n 0, 1), (15, .iload_n 1, 1), (16, .iadd, 1), (17, .if_icmp .gt 33, 3), (20, .iload_n 3, 1), (21, .bipush 60, 2), (23, .idiv, 1), (24, .bipush 12, 2), (26, .irem, 1), (27, .istore 4, 2), (29, .iload_n 2, 1), (30, .iload 4, 2), (32, .ifCond .ne 8, 3), (35, .bipush 12, 2), (37, .goto 5, 3), (40, .iload 4, 2), (42, .iadd, 1), (43, .istore_n 2, 1), (44, .iinc 3 60, 3), (47, .goto (-34), 3), (50, .iload_n 2, 1), (51, .ireturn, 1)]
theorem ttX8_strokesOver : zdt cX8_strokesOver tX8_strokesOver = true := by decide +kernel
abbrev q_X8_strokesOver (h : zM) (p1 : Int) (p2 : Int) : Option zV → zM → Prop := zqi fun v h' => h = h' ∧ ((-2147483648) ≤ v ∧ v ≤ 2147483647)
set_option maxRecDepth 100000 in
set_option maxHeartbeats 4000000 in
theorem s_X8_strokesOver (l : Launch) (h : zM) (p1 : Int) (p2 : Int) (s0 : okC h) (b_p1 : 0 ≤ p1 ∧ p1 ≤ 719) (b_p2 : (-1440) ≤ p2 ∧ p2 ≤ 1440) : zT shC l yX8_strokesOver cX8_strokesOver 5 (some .int) (rmL 1) 0 0 [.inl p1, .inl p2] h (q_X8_strokesOver h p1 p2) := by
  refine zT_of (by decide +kernel) (L0 := [some (.inl p1), some (.inl p2), none, none, none]) rfl (Nat.le_of_ble_eq_true rfl) ?_
  refine zj_iconst (zdk ttX8_strokesOver 0 rfl rfl) ?_
  refine zj_istore_n (L' := [some (.inl p1), some (.inl p2), some (.inl 0), none, none]) (zdk ttX8_strokesOver 1 rfl rfl) (by decide) rfl ?_
  refine zj_iload_n (zdk ttX8_strokesOver 2 rfl rfl) rfl ?_
  refine zj_bipush (zdk ttX8_strokesOver 3 rfl rfl) (by decide) ?_
  refine zj_idivP (zdk ttX8_strokesOver 4 rfl rfl) (by omega) (by omega) ?_
  refine zj_bipush (zdk ttX8_strokesOver 5 rfl rfl) (by decide) ?_
  refine zj_imul (zdk ttX8_strokesOver 6 rfl rfl) ?_
  refine zj_bipush (zdk ttX8_strokesOver 7 rfl rfl) (by decide) ?_
  refine zj_iadd (zdk ttX8_strokesOver 8 rfl rfl) ?_
  refine zj_istore_n (L' := [some (.inl p1), some (.inl p2), some (.inl 0), some (.inl (((p1 / 60) * 60) + 60)), none]) (zdk ttX8_strokesOver 9 rfl rfl) (by decide) rfl ?_
  have lp29 : ∀ (n : Nat) (x1 x2 : Int), (-2147483648 ≤ x1 ∧ x1 ≤ 2147483647) → (60 ≤ x2 ∧ x2 ≤ 2219) → (2220 - x2).toNat < n → zJ shC l yX8_strokesOver cX8_strokesOver 5 (some .int) (rmL 1) 0 0 (q_X8_strokesOver h p1 p2) 0 0 13 [some (.inl p1), some (.inl p2), some (.inl x1), some (.inl x2), none] [] h := by
    intro n
    induction n with
    | zero => intro x1 x2 b30 b31 m32; exact absurd m32 (Nat.not_lt_zero _)
    | succ n ih33 =>
      intro x1 x2 b30 b31 m32
      refine zj_iload_n (zdk ttX8_strokesOver 10 rfl rfl) rfl ?_
      refine zj_iload_n (zdk ttX8_strokesOver 11 rfl rfl) rfl ?_
      refine zj_iload_n (zdk ttX8_strokesOver 12 rfl rfl) rfl ?_
      refine zj_iadd (zdk ttX8_strokesOver 13 rfl rfl) ?_
      refine zj_icmp_gt (t := 50) (zdk ttX8_strokesOver 14 rfl rfl) (by decide) (by omega) (by omega) (fun c34 => ?_) (fun c34 => ?_)
      · refine zj_iload_n (zdk ttX8_strokesOver 31 rfl rfl) rfl ?_
        exact zj_iret rfl (zdk ttX8_strokesOver 32 rfl rfl) (Nat.le_refl _) (Nat.le_refl _) ⟨x1, rfl, rfl, by omega⟩
      · refine zj_iload_n (zdk ttX8_strokesOver 15 rfl rfl) rfl ?_
        refine zj_bipush (zdk ttX8_strokesOver 16 rfl rfl) (by decide) ?_
        refine zj_idivP (zdk ttX8_strokesOver 17 rfl rfl) (by omega) (by omega) ?_
        refine zj_bipush (zdk ttX8_strokesOver 18 rfl rfl) (by decide) ?_
        refine zj_iremP (zdk ttX8_strokesOver 19 rfl rfl) (by omega) (by omega) ?_
        refine zj_istore (L' := [some (.inl p1), some (.inl p2), some (.inl x1), some (.inl x2), some (.inl ((x2 / 60) % 12))]) (zdk ttX8_strokesOver 20 rfl rfl) (by decide) rfl ?_
        refine zj_iload_n (zdk ttX8_strokesOver 21 rfl rfl) rfl ?_
        refine zj_iload (zdk ttX8_strokesOver 22 rfl rfl) rfl ?_
        refine zj_if_ne (t := 40) (zdk ttX8_strokesOver 23 rfl rfl) (by decide) (by omega) (fun c35 => ?_) (fun c35 => ?_)
        · refine zj_iload (zdk ttX8_strokesOver 26 rfl rfl) rfl ?_
          refine zj_iadd (zdk ttX8_strokesOver 27 rfl rfl) ?_
          refine zj_wrap ?_
          have b36 := zwp_in (x1 + ((x2 / 60) % 12))
          refine zj_istore_n (L' := [some (.inl p1), some (.inl p2), some (.inl (zwp (x1 + ((x2 / 60) % 12)))), some (.inl x2), some (.inl ((x2 / 60) % 12))]) (zdk ttX8_strokesOver 28 rfl rfl) (by decide) rfl ?_
          refine zj_iinc (L' := [some (.inl p1), some (.inl p2), some (.inl (zwp (x1 + ((x2 / 60) % 12)))), some (.inl (x2 + 60)), some (.inl ((x2 / 60) % 12))]) (zdk ttX8_strokesOver 29 rfl rfl) rfl (by decide) rfl ?_
          refine zj_goto (t := 13) (zdk ttX8_strokesOver 30 rfl rfl) (by decide) ?_
          refine zj_kill (k := 4) (L' := [some (.inl p1), some (.inl p2), some (.inl (zwp (x1 + ((x2 / 60) % 12)))), some (.inl (x2 + 60)), none]) rfl ?_
          exact ih33  (zwp (x1 + ((x2 / 60) % 12))) (x2 + 60) (by omega) (by omega) (by omega)
        · refine zj_bipush (zdk ttX8_strokesOver 24 rfl rfl) (by decide) ?_
          refine zj_goto (t := 42) (zdk ttX8_strokesOver 25 rfl rfl) (by decide) ?_
          refine zj_iadd (zdk ttX8_strokesOver 27 rfl rfl) ?_
          refine zj_wrap ?_
          have b37 := zwp_in (x1 + 12)
          refine zj_istore_n (L' := [some (.inl p1), some (.inl p2), some (.inl (zwp (x1 + 12))), some (.inl x2), some (.inl ((x2 / 60) % 12))]) (zdk ttX8_strokesOver 28 rfl rfl) (by decide) rfl ?_
          refine zj_iinc (L' := [some (.inl p1), some (.inl p2), some (.inl (zwp (x1 + 12))), some (.inl (x2 + 60)), some (.inl ((x2 / 60) % 12))]) (zdk ttX8_strokesOver 29 rfl rfl) rfl (by decide) rfl ?_
          refine zj_goto (t := 13) (zdk ttX8_strokesOver 30 rfl rfl) (by decide) ?_
          refine zj_kill (k := 4) (L' := [some (.inl p1), some (.inl p2), some (.inl (zwp (x1 + 12))), some (.inl (x2 + 60)), none]) rfl ?_
          exact ih33  (zwp (x1 + 12)) (x2 + 60) (by omega) (by omega) (by omega)
  exact lp29 _ 0 (((p1 / 60) * 60) + 60) (by omega) (by omega) (Nat.lt_succ_self _)

abbrev tX8_handsApart : List (Nat × Instr × Nat) := [(0, .bipush 11, 2), (2, .iload_n 0, 1), (3, .imul, 1), (4, .sipush 720, 3), (7, .irem, 1), (8, .istore_n 1, 1), (9, .iload_n 1, 1), (10, .sipush 720, 3), (13, .iload_n 1, 1), (14, .isub, 1), (15, .invokestatic 27, 3), (18, .ireturn, 1)]
theorem ttX8_handsApart : zdt cX8_handsApart tX8_handsApart = true := by decide +kernel
abbrev q_X8_handsApart (h : zM) (p1 : Int) : Option zV → zM → Prop := zqi fun v h' => h = h' ∧ (v = (zm_min ((11 * p1) % 720) (720 - ((11 * p1) % 720))) ∧ 0 ≤ v ∧ v ≤ 719)
set_option maxRecDepth 100000 in
set_option maxHeartbeats 4000000 in
theorem s_X8_handsApart (l : Launch) (h : zM) (p1 : Int) (s0 : okC h) (b_p1 : 0 ≤ p1 ∧ p1 ≤ 719) : zT shC l yX8_handsApart cX8_handsApart 2 (some .int) (rmL 2) 0 0 [.inl p1] h (q_X8_handsApart h p1) := by
  refine zT_of (by decide +kernel) (L0 := [some (.inl p1), none]) rfl (Nat.le_of_ble_eq_true rfl) ?_
  refine zj_bipush (zdk ttX8_handsApart 0 rfl rfl) (by decide) ?_
  refine zj_iload_n (zdk ttX8_handsApart 1 rfl rfl) rfl ?_
  refine zj_imul (zdk ttX8_handsApart 2 rfl rfl) ?_
  refine zj_sipush (zdk ttX8_handsApart 3 rfl rfl) (by decide) ?_
  refine zj_iremP (zdk ttX8_handsApart 4 rfl rfl) (by omega) (by omega) ?_
  refine zj_istore_n (L' := [some (.inl p1), some (.inl ((11 * p1) % 720))]) (zdk ttX8_handsApart 5 rfl rfl) (by decide) rfl ?_
  refine zj_iload_n (zdk ttX8_handsApart 6 rfl rfl) rfl ?_
  refine zj_sipush (zdk ttX8_handsApart 7 rfl rfl) (by decide) ?_
  refine zj_iload_n (zdk ttX8_handsApart 8 rfl rfl) rfl ?_
  refine zj_isub (zdk ttX8_handsApart 9 rfl rfl) ?_
  refine zj_min (zdk ttX8_handsApart 10 rfl rfl) mx_RX8_27 (by omega) (by omega) (Nat.le_of_ble_eq_true rfl) (rm_m (by decide)) ?_
  have b1 := zm_min_f ((11 * p1) % 720) (720 - ((11 * p1) % 720))
  exact zj_iret rfl (zdk ttX8_handsApart 11 rfl rfl) (Nat.le_refl _) (Nat.le_refl _) ⟨(zm_min ((11 * p1) % 720) (720 - ((11 * p1) % 720))), rfl, rfl, by omega⟩

abbrev tX8_minutesApartBy : List (Nat × Instr × Nat) := [(0, .iconst 0, 1), (1, .istore_n 1, 1), (2, .iconst 0, 1), (3, .istore_n 2, 1), (4, .iload_n 2, 1), (5, .sipush 720, 3), (8, .if_icmp .ge 20, 3), (11, .iload_n 2, 1), (12, .invokestatic 33, 3), (15, .iload_n 0, 1), (16, .if_icmp .ne 6, 3), (19, .iinc 1 1, 3), (22, .iinc 2 1, 3), (25, .goto (-21), 3), (28, .iload_n 1, 1), (29, .ireturn, 1)]
theorem ttX8_minutesApartBy : zdt cX8_minutesApartBy tX8_minutesApartBy = true := by decide +kernel
abbrev q_X8_minutesApartBy (h : zM) (p1 : Int) : Option zV → zM → Prop := zqi fun v h' => h = h' ∧ ((-2147483648) ≤ v ∧ v ≤ 2147483647)
set_option maxRecDepth 100000 in
set_option maxHeartbeats 4000000 in
theorem s_X8_minutesApartBy (l : Launch) (h : zM) (p1 : Int) (s0 : okC h) (b_p1 : (-2147483648) ≤ p1 ∧ p1 ≤ 2147483647) : zT shC l yX8_minutesApartBy cX8_minutesApartBy 3 (some .int) (rmL 3) 0 0 [.inl p1] h (q_X8_minutesApartBy h p1) := by
  refine zT_of (by decide +kernel) (L0 := [some (.inl p1), none, none]) rfl (Nat.le_of_ble_eq_true rfl) ?_
  refine zj_iconst (zdk ttX8_minutesApartBy 0 rfl rfl) ?_
  refine zj_istore_n (L' := [some (.inl p1), some (.inl 0), none]) (zdk ttX8_minutesApartBy 1 rfl rfl) (by decide) rfl ?_
  refine zj_iconst (zdk ttX8_minutesApartBy 2 rfl rfl) ?_
  refine zj_istore_n (L' := [some (.inl p1), some (.inl 0), some (.inl 0)]) (zdk ttX8_minutesApartBy 3 rfl rfl) (by decide) rfl ?_
  have lp61 : ∀ (n : Nat) (x1 x2 : Int), (-2147483648 ≤ x1 ∧ x1 ≤ 2147483647) → (0 ≤ x2 ∧ x2 ≤ 720) → (721 - x2).toNat < n → zJ shC l yX8_minutesApartBy cX8_minutesApartBy 3 (some .int) (rmL 3) 0 0 (q_X8_minutesApartBy h p1) 0 0 4 [some (.inl p1), some (.inl x1), some (.inl x2)] [] h := by
    intro n
    induction n with
    | zero => intro x1 x2 b62 b63 m64; exact absurd m64 (Nat.not_lt_zero _)
    | succ n ih65 =>
      intro x1 x2 b62 b63 m64
      refine zj_iload_n (zdk ttX8_minutesApartBy 4 rfl rfl) rfl ?_
      refine zj_sipush (zdk ttX8_minutesApartBy 5 rfl rfl) (by decide) ?_
      refine zj_icmp_ge (t := 28) (zdk ttX8_minutesApartBy 6 rfl rfl) (by decide) (by omega) (by decide) (fun c66 => ?_) (fun c66 => ?_)
      · refine zj_iload_n (zdk ttX8_minutesApartBy 14 rfl rfl) rfl ?_
        exact zj_iret rfl (zdk ttX8_minutesApartBy 15 rfl rfl) (Nat.le_refl _) (Nat.le_refl _) ⟨x1, rfl, rfl, by omega⟩
      · refine zj_iload_n (zdk ttX8_minutesApartBy 7 rfl rfl) rfl ?_
        refine zj_callS (av := [.inl x2]) (st := []) (zdk ttX8_minutesApartBy 8 rfl rfl) mb_X8_handsApart ms_RX8_33 rfl rfl (Nat.le_of_ble_eq_true rfl) (s_X8_handsApart l h x2 s0 (by omega)) (rm_ok (by decide) (by decide)) (zq_i fun v68 h69 q67 => ?_)
        obtain ⟨rfl, b70⟩ := q67
        have b71 : 0 ≤ v68 ∧ v68 ≤ 719 := by omega
        refine zj_iload_n (zdk ttX8_minutesApartBy 9 rfl rfl) rfl ?_
        refine zj_icmp_ne (t := 22) (zdk ttX8_minutesApartBy 10 rfl rfl) (by decide) (by omega) (by omega) (fun c72 => ?_) (fun c72 => ?_)
        · refine zj_iinc (L' := [some (.inl p1), some (.inl x1), some (.inl (x2 + 1))]) (zdk ttX8_minutesApartBy 12 rfl rfl) rfl (by decide) rfl ?_
          refine zj_goto (t := 4) (zdk ttX8_minutesApartBy 13 rfl rfl) (by decide) ?_
          exact ih65  x1 (x2 + 1) (by omega) (by omega) (by omega)
        · refine zj_iinc (L' := [some (.inl p1), some (.inl (x1 + 1)), some (.inl x2)]) (zdk ttX8_minutesApartBy 11 rfl rfl) rfl (by decide) rfl ?_
          have b73 := zwp_in (x1 + 1)
          refine zj_wrapl (k := 1) (L' := [some (.inl p1), some (.inl (zwp (x1 + 1))), some (.inl x2)]) rfl rfl ?_
          refine zj_iinc (L' := [some (.inl p1), some (.inl (zwp (x1 + 1))), some (.inl (x2 + 1))]) (zdk ttX8_minutesApartBy 12 rfl rfl) rfl (by decide) rfl ?_
          refine zj_goto (t := 4) (zdk ttX8_minutesApartBy 13 rfl rfl) (by decide) ?_
          exact ih65  (zwp (x1 + 1)) (x2 + 1) (by omega) (by omega) (by omega)
  exact lp61 _ 0 0 (by omega) (by omega) (Nat.lt_succ_self _)

abbrev tX8_commonPart : List (Nat × Instr × Nat) := [(0, .iload_n 0, 1), (1, .istore_n 2, 1), (2, .iload_n 1, 1), (3, .istore_n 3, 1), (4, .iconst 0, 1), (5, .istore 4, 2), (7, .iload 4, 2), (9, .bipush 64, 2), (11, .if_icmp .ge 23, 3), (14, .iload_n 3, 1), (15, .ifCond .eq 19, 3), (18, .iload_n 2, 1), (19, .iload_n 3, 1), (20, .irem, 1), (21, .istore 5, 2), (23, .iload_n 3, 1), (24, .istore_n 2, 1), (25, .iload 5, 2), (27, .istore_n 3, 1), (28, .iinc 4 1, 3), (31, .goto (-24), 3), (34, .iconst 1, 1), (35, .iload_n 2, 1), (36, .invokestatic 37, 3), (39, .ireturn, 1)]
theorem ttX8_commonPart : zdt cX8_commonPart tX8_commonPart = true := by decide +kernel
abbrev q_X8_commonPart (h : zM) (p1 : Int) (p2 : Int) : Option zV → zM → Prop := zqi fun v h' => h = h' ∧ (1 ≤ v ∧ v ≤ 2147483647)
set_option maxRecDepth 100000 in
set_option maxHeartbeats 4000000 in
theorem s_X8_commonPart (l : Launch) (h : zM) (p1 : Int) (p2 : Int) (s0 : okC h) (b_p1 : (-2147483648) ≤ p1 ∧ p1 ≤ 2147483647) (b_p2 : (-2147483648) ≤ p2 ∧ p2 ≤ 2147483647) : zT shC l yX8_commonPart cX8_commonPart 6 (some .int) (rmL 2) 0 0 [.inl p1, .inl p2] h (q_X8_commonPart h p1 p2) := by
  refine zT_of (by decide +kernel) (L0 := [some (.inl p1), some (.inl p2), none, none, none, none]) rfl (Nat.le_of_ble_eq_true rfl) ?_
  refine zj_iload_n (zdk ttX8_commonPart 0 rfl rfl) rfl ?_
  refine zj_istore_n (L' := [some (.inl p1), some (.inl p2), some (.inl p1), none, none, none]) (zdk ttX8_commonPart 1 rfl rfl) (by decide) rfl ?_
  refine zj_iload_n (zdk ttX8_commonPart 2 rfl rfl) rfl ?_
  refine zj_istore_n (L' := [some (.inl p1), some (.inl p2), some (.inl p1), some (.inl p2), none, none]) (zdk ttX8_commonPart 3 rfl rfl) (by decide) rfl ?_
  refine zj_iconst (zdk ttX8_commonPart 4 rfl rfl) ?_
  refine zj_istore (L' := [some (.inl p1), some (.inl p2), some (.inl p1), some (.inl p2), some (.inl 0), none]) (zdk ttX8_commonPart 5 rfl rfl) (by decide) rfl ?_
  have lp19 : ∀ (n : Nat) (x1 x2 x3 : Int), (-2147483648 ≤ x1 ∧ x1 ≤ 2147483647) → (-2147483648 ≤ x2 ∧ x2 ≤ 2147483647) → (0 ≤ x3 ∧ x3 ≤ 64) → (65 - x3).toNat < n → zJ shC l yX8_commonPart cX8_commonPart 6 (some .int) (rmL 2) 0 0 (q_X8_commonPart h p1 p2) 0 0 7 [some (.inl p1), some (.inl p2), some (.inl x1), some (.inl x2), some (.inl x3), none] [] h := by
    intro n
    induction n with
    | zero => intro x1 x2 x3 b20 b21 b22 m23; exact absurd m23 (Nat.not_lt_zero _)
    | succ n ih24 =>
      intro x1 x2 x3 b20 b21 b22 m23
      refine zj_iload (zdk ttX8_commonPart 6 rfl rfl) rfl ?_
      refine zj_bipush (zdk ttX8_commonPart 7 rfl rfl) (by decide) ?_
      refine zj_icmp_ge (t := 34) (zdk ttX8_commonPart 8 rfl rfl) (by decide) (by omega) (by decide) (fun c25 => ?_) (fun c25 => ?_)
      · refine zj_iconst (zdk ttX8_commonPart 21 rfl rfl) ?_
        refine zj_iload_n (zdk ttX8_commonPart 22 rfl rfl) rfl ?_
        refine zj_max (zdk ttX8_commonPart 23 rfl rfl) mx_RX8_37 (by decide) (by omega) (Nat.le_of_ble_eq_true rfl) (rm_m (by decide)) ?_
        have b26 := zm_max_f 1 x1
        exact zj_iret rfl (zdk ttX8_commonPart 24 rfl rfl) (Nat.le_refl _) (Nat.le_refl _) ⟨(zm_max 1 x1), rfl, rfl, by omega⟩
      · refine zj_iload_n (zdk ttX8_commonPart 9 rfl rfl) rfl ?_
        refine zj_if_eq (t := 34) (zdk ttX8_commonPart 10 rfl rfl) (by decide) (by omega) (fun c27 => ?_) (fun c27 => ?_)
        · refine zj_iconst (zdk ttX8_commonPart 21 rfl rfl) ?_
          refine zj_iload_n (zdk ttX8_commonPart 22 rfl rfl) rfl ?_
          refine zj_max (zdk ttX8_commonPart 23 rfl rfl) mx_RX8_37 (by decide) (by omega) (Nat.le_of_ble_eq_true rfl) (rm_m (by decide)) ?_
          have b28 := zm_max_f 1 x1
          exact zj_iret rfl (zdk ttX8_commonPart 24 rfl rfl) (Nat.le_refl _) (Nat.le_refl _) ⟨(zm_max 1 x1), rfl, rfl, by omega⟩
        · refine zj_iload_n (zdk ttX8_commonPart 11 rfl rfl) rfl ?_
          refine zj_iload_n (zdk ttX8_commonPart 12 rfl rfl) rfl ?_
          refine zj_irem (zdk ttX8_commonPart 13 rfl rfl) (by omega) (by omega) (by omega) ?_
          have b29 := ztm_b x1 x2 (by omega)
          refine zj_istore (L' := [some (.inl p1), some (.inl p2), some (.inl x1), some (.inl x2), some (.inl x3), some (.inl (x1.tmod x2))]) (zdk ttX8_commonPart 14 rfl rfl) (by decide) rfl ?_
          refine zj_iload_n (zdk ttX8_commonPart 15 rfl rfl) rfl ?_
          refine zj_istore_n (L' := [some (.inl p1), some (.inl p2), some (.inl x2), some (.inl x2), some (.inl x3), some (.inl (x1.tmod x2))]) (zdk ttX8_commonPart 16 rfl rfl) (by decide) rfl ?_
          refine zj_iload (zdk ttX8_commonPart 17 rfl rfl) rfl ?_
          refine zj_istore_n (L' := [some (.inl p1), some (.inl p2), some (.inl x2), some (.inl (x1.tmod x2)), some (.inl x3), some (.inl (x1.tmod x2))]) (zdk ttX8_commonPart 18 rfl rfl) (by decide) rfl ?_
          refine zj_iinc (L' := [some (.inl p1), some (.inl p2), some (.inl x2), some (.inl (x1.tmod x2)), some (.inl (x3 + 1)), some (.inl (x1.tmod x2))]) (zdk ttX8_commonPart 19 rfl rfl) rfl (by decide) rfl ?_
          refine zj_goto (t := 7) (zdk ttX8_commonPart 20 rfl rfl) (by decide) ?_
          refine zj_kill (k := 5) (L' := [some (.inl p1), some (.inl p2), some (.inl x2), some (.inl (x1.tmod x2)), some (.inl (x3 + 1)), none]) rfl ?_
          exact ih24  x2 (x1.tmod x2) (x3 + 1) (by omega) (by omega) (by omega) (by omega)
  exact lp19 _ p1 p2 0 (by omega) (by omega) (by omega) (Nat.lt_succ_self _)

abbrev tX8_quotients : List (Nat × Instr × Nat) := [(0, .iload_n 0, 1), (1, .istore_n 2, 1), (2, .iload_n 1, 1), (3, .istore_n 3, 1), (4, .iconst 0, 1), (5, .istore 4, 2), (7, .iconst 0, 1), (8, .istore 5, 2), (10, .iload 5, 2), (12, .bipush 64, 2), (14, .if_icmp .ge 26, 3), (17, .iload_n 3, 1), (18, .ifCond .eq 22, 3), (21, .iload_n 2, 1), (22, .iload_n 3, 1), (23, .irem, 1), (24, .istore 6, 2), (26, .iload_n 3, 1), (27, .istore_n 2, 1), (28, .iload 6, 2), (30, .istore_n 3, 1), (31, .iinc 4 1, 3), (34, .iinc 5 1, 3), (37, .goto (-27), 3), (40, .iload 4, 2), (42, .ireturn, 1)]
theorem ttX8_quotients : zdt cX8_quotients tX8_quotients = true := by decide +kernel
abbrev q_X8_quotients (h : zM) (p1 : Int) (p2 : Int) : Option zV → zM → Prop := zqi fun v h' => h = h' ∧ ((-2147483648) ≤ v ∧ v ≤ 2147483647)
set_option maxRecDepth 100000 in
set_option maxHeartbeats 4000000 in
theorem s_X8_quotients (l : Launch) (h : zM) (p1 : Int) (p2 : Int) (s0 : okC h) (b_p1 : 1 ≤ p1 ∧ p1 ≤ 9999) (b_p2 : 1 ≤ p2 ∧ p2 ≤ 9999) : zT shC l yX8_quotients cX8_quotients 7 (some .int) (rmL 1) 0 0 [.inl p1, .inl p2] h (q_X8_quotients h p1 p2) := by
  refine zT_of (by decide +kernel) (L0 := [some (.inl p1), some (.inl p2), none, none, none, none, none]) rfl (Nat.le_of_ble_eq_true rfl) ?_
  refine zj_iload_n (zdk ttX8_quotients 0 rfl rfl) rfl ?_
  refine zj_istore_n (L' := [some (.inl p1), some (.inl p2), some (.inl p1), none, none, none, none]) (zdk ttX8_quotients 1 rfl rfl) (by decide) rfl ?_
  refine zj_iload_n (zdk ttX8_quotients 2 rfl rfl) rfl ?_
  refine zj_istore_n (L' := [some (.inl p1), some (.inl p2), some (.inl p1), some (.inl p2), none, none, none]) (zdk ttX8_quotients 3 rfl rfl) (by decide) rfl ?_
  refine zj_iconst (zdk ttX8_quotients 4 rfl rfl) ?_
  refine zj_istore (L' := [some (.inl p1), some (.inl p2), some (.inl p1), some (.inl p2), some (.inl 0), none, none]) (zdk ttX8_quotients 5 rfl rfl) (by decide) rfl ?_
  refine zj_iconst (zdk ttX8_quotients 6 rfl rfl) ?_
  refine zj_istore (L' := [some (.inl p1), some (.inl p2), some (.inl p1), some (.inl p2), some (.inl 0), some (.inl 0), none]) (zdk ttX8_quotients 7 rfl rfl) (by decide) rfl ?_
  have lp40 : ∀ (n : Nat) (x1 x2 x3 x4 : Int), (1 ≤ x1 ∧ x1 ≤ 9999) → (0 ≤ x2 ∧ x2 ≤ 9999) → (-2147483648 ≤ x3 ∧ x3 ≤ 2147483647) → (0 ≤ x4 ∧ x4 ≤ 64) → (65 - x4).toNat < n → zJ shC l yX8_quotients cX8_quotients 7 (some .int) (rmL 1) 0 0 (q_X8_quotients h p1 p2) 0 0 10 [some (.inl p1), some (.inl p2), some (.inl x1), some (.inl x2), some (.inl x3), some (.inl x4), none] [] h := by
    intro n
    induction n with
    | zero => intro x1 x2 x3 x4 b41 b42 b43 b44 m45; exact absurd m45 (Nat.not_lt_zero _)
    | succ n ih46 =>
      intro x1 x2 x3 x4 b41 b42 b43 b44 m45
      refine zj_iload (zdk ttX8_quotients 8 rfl rfl) rfl ?_
      refine zj_bipush (zdk ttX8_quotients 9 rfl rfl) (by decide) ?_
      refine zj_icmp_ge (t := 40) (zdk ttX8_quotients 10 rfl rfl) (by decide) (by omega) (by decide) (fun c47 => ?_) (fun c47 => ?_)
      · refine zj_iload (zdk ttX8_quotients 24 rfl rfl) rfl ?_
        exact zj_iret rfl (zdk ttX8_quotients 25 rfl rfl) (Nat.le_refl _) (Nat.le_refl _) ⟨x3, rfl, rfl, by omega⟩
      · refine zj_iload_n (zdk ttX8_quotients 11 rfl rfl) rfl ?_
        refine zj_if_eq (t := 40) (zdk ttX8_quotients 12 rfl rfl) (by decide) (by omega) (fun c48 => ?_) (fun c48 => ?_)
        · refine zj_iload (zdk ttX8_quotients 24 rfl rfl) rfl ?_
          exact zj_iret rfl (zdk ttX8_quotients 25 rfl rfl) (Nat.le_refl _) (Nat.le_refl _) ⟨x3, rfl, rfl, by omega⟩
        · refine zj_iload_n (zdk ttX8_quotients 13 rfl rfl) rfl ?_
          refine zj_iload_n (zdk ttX8_quotients 14 rfl rfl) rfl ?_
          refine zj_iremP (zdk ttX8_quotients 15 rfl rfl) (by omega) (by omega) ?_
          have b49 := zmod_b (x := x1) (b := x2) (by omega) (by omega)
          refine zj_istore (L' := [some (.inl p1), some (.inl p2), some (.inl x1), some (.inl x2), some (.inl x3), some (.inl x4), some (.inl (x1 % x2))]) (zdk ttX8_quotients 16 rfl rfl) (by decide) rfl ?_
          refine zj_iload_n (zdk ttX8_quotients 17 rfl rfl) rfl ?_
          refine zj_istore_n (L' := [some (.inl p1), some (.inl p2), some (.inl x2), some (.inl x2), some (.inl x3), some (.inl x4), some (.inl (x1 % x2))]) (zdk ttX8_quotients 18 rfl rfl) (by decide) rfl ?_
          refine zj_iload (zdk ttX8_quotients 19 rfl rfl) rfl ?_
          refine zj_istore_n (L' := [some (.inl p1), some (.inl p2), some (.inl x2), some (.inl (x1 % x2)), some (.inl x3), some (.inl x4), some (.inl (x1 % x2))]) (zdk ttX8_quotients 20 rfl rfl) (by decide) rfl ?_
          refine zj_iinc (L' := [some (.inl p1), some (.inl p2), some (.inl x2), some (.inl (x1 % x2)), some (.inl (x3 + 1)), some (.inl x4), some (.inl (x1 % x2))]) (zdk ttX8_quotients 21 rfl rfl) rfl (by decide) rfl ?_
          have b50 := zwp_in (x3 + 1)
          refine zj_wrapl (k := 4) (L' := [some (.inl p1), some (.inl p2), some (.inl x2), some (.inl (x1 % x2)), some (.inl (zwp (x3 + 1))), some (.inl x4), some (.inl (x1 % x2))]) rfl rfl ?_
          refine zj_iinc (L' := [some (.inl p1), some (.inl p2), some (.inl x2), some (.inl (x1 % x2)), some (.inl (zwp (x3 + 1))), some (.inl (x4 + 1)), some (.inl (x1 % x2))]) (zdk ttX8_quotients 22 rfl rfl) rfl (by decide) rfl ?_
          refine zj_goto (t := 10) (zdk ttX8_quotients 23 rfl rfl) (by decide) ?_
          refine zj_kill (k := 6) (L' := [some (.inl p1), some (.inl p2), some (.inl x2), some (.inl (x1 % x2)), some (.inl (zwp (x3 + 1))), some (.inl (x4 + 1)), none]) rfl ?_
          exact ih46  x2 (x1 % x2) (zwp (x3 + 1)) (x4 + 1) (by omega) (by omega) (by omega) (by omega) (by omega)
  exact lp40 _ p1 p2 0 0 (by omega) (by omega) (by omega) (by omega) (Nat.lt_succ_self _)

abbrev tX8_partOf : List (Nat × Instr × Nat) := [(0, .iload_n 0, 1), (1, .istore 4, 2), (3, .iload_n 1, 1), (4, .istore 5, 2), (6, .iconst 1, 1), (7, .istore 6, 2), (9, .iconst 0, 1), (10, .istore 7, 2), (12, .iconst 0, 1), (13, .istore 8, 2), (15, .iconst 1, 1), (16, .istore 9, 2), (18, .iconst 0, 1), (19, .istore 10, 2), (21, .iload 10, 2), (23, .iload_n 3, 1), (24, .if_icmp .gt 101, 3), (27, .iload 5, 2), (29, .ifCond .eq 96, 3), (32, .iload 4, 2), (34, .iload 5, 2), (36, .idiv, 1), (37, .istore 11, 2), (39, .iload 4, 2), (41, .iload 5, 2), (43, .irem, 1), (44, .istore 12, 2), (46, .iload 5, 2), (48, .istore 4, 2), (50, .iload 12, 2), (52, .istore 5, 2), (54, .iload 11, 2), (56, .iload 6, 2), (58, .imul, 1), (59, .iload 7, 2), (61, .iadd, 1), (62, .istore 13, 2), (64, .iload 6, 2), (66, .istore 7, 2), (68, .iload 13, 2), (70, .istore 6, 2), (72, .iload 11, 2), (74, .iload 8, 2), (76, .imul, 1), (77, .iload 9, 2), (79, .iadd, 1), (80, .istore 14, 2), (82, .iload 8, 2), (84, .istore 9, 2), (86, .iload 14, 2), (88, .istore 8, 2), (90, .iload 10, 2), (92, .iload_n 3, 1), (93, .if_icmp .ne 26, 3), (96, .iload_n 2, 1), (97, .iconst 1, 1), (98, .if_icmp .ne 8, 3), (101, .iload 11, 2), (103, .goto 15, 3), (106, .iload_n 2, 1), (107, .iconst 2, 1), (108, .if_icmp .ne 8, 3), (111, .iload 6, 2), (113, .goto 5, 3), (116, .iload 8, 2), (118, .ireturn, 1), (119, .iinc 10 1, 3), (122, .goto (-101), 3), (125, .iconst (-1), 1), (126, .ireturn, 1)]
theorem ttX8_partOf : zdt cX8_partOf tX8_partOf = true := by decide +kernel
abbrev q_X8_partOf (h : zM) (p1 : Int) (p2 : Int) (p3 : Int) (p4 : Int) : Option zV → zM → Prop := zqi fun v h' => h = h' ∧ ((-2147483648) ≤ v ∧ v ≤ 2147483647)
set_option maxRecDepth 100000 in
set_option maxHeartbeats 4000000 in
theorem s_X8_partOf (l : Launch) (h : zM) (p1 : Int) (p2 : Int) (p3 : Int) (p4 : Int) (s0 : okC h) (b_p1 : 1 ≤ p1 ∧ p1 ≤ 9999) (b_p2 : 1 ≤ p2 ∧ p2 ≤ 9999) (b_p3 : (-2147483648) ≤ p3 ∧ p3 ≤ 2147483647) (b_p4 : 0 ≤ p4 ∧ p4 ≤ 99) : zT shC l yX8_partOf cX8_partOf 15 (some .int) (rmL 1) 0 0 [.inl p1, .inl p2, .inl p3, .inl p4] h (q_X8_partOf h p1 p2 p3 p4) := by
  refine zT_of (by decide +kernel) (L0 := [some (.inl p1), some (.inl p2), some (.inl p3), some (.inl p4), none, none, none, none, none, none, none, none, none, none, none]) rfl (Nat.le_of_ble_eq_true rfl) ?_
  refine zj_iload_n (zdk ttX8_partOf 0 rfl rfl) rfl ?_
  refine zj_istore (L' := [some (.inl p1), some (.inl p2), some (.inl p3), some (.inl p4), some (.inl p1), none, none, none, none, none, none, none, none, none, none]) (zdk ttX8_partOf 1 rfl rfl) (by decide) rfl ?_
  refine zj_iload_n (zdk ttX8_partOf 2 rfl rfl) rfl ?_
  refine zj_istore (L' := [some (.inl p1), some (.inl p2), some (.inl p3), some (.inl p4), some (.inl p1), some (.inl p2), none, none, none, none, none, none, none, none, none]) (zdk ttX8_partOf 3 rfl rfl) (by decide) rfl ?_
  refine zj_iconst (zdk ttX8_partOf 4 rfl rfl) ?_
  refine zj_istore (L' := [some (.inl p1), some (.inl p2), some (.inl p3), some (.inl p4), some (.inl p1), some (.inl p2), some (.inl 1), none, none, none, none, none, none, none, none]) (zdk ttX8_partOf 5 rfl rfl) (by decide) rfl ?_
  refine zj_iconst (zdk ttX8_partOf 6 rfl rfl) ?_
  refine zj_istore (L' := [some (.inl p1), some (.inl p2), some (.inl p3), some (.inl p4), some (.inl p1), some (.inl p2), some (.inl 1), some (.inl 0), none, none, none, none, none, none, none]) (zdk ttX8_partOf 7 rfl rfl) (by decide) rfl ?_
  refine zj_iconst (zdk ttX8_partOf 8 rfl rfl) ?_
  refine zj_istore (L' := [some (.inl p1), some (.inl p2), some (.inl p3), some (.inl p4), some (.inl p1), some (.inl p2), some (.inl 1), some (.inl 0), some (.inl 0), none, none, none, none, none, none]) (zdk ttX8_partOf 9 rfl rfl) (by decide) rfl ?_
  refine zj_iconst (zdk ttX8_partOf 10 rfl rfl) ?_
  refine zj_istore (L' := [some (.inl p1), some (.inl p2), some (.inl p3), some (.inl p4), some (.inl p1), some (.inl p2), some (.inl 1), some (.inl 0), some (.inl 0), some (.inl 1), none, none, none, none, none]) (zdk ttX8_partOf 11 rfl rfl) (by decide) rfl ?_
  refine zj_iconst (zdk ttX8_partOf 12 rfl rfl) ?_
  refine zj_istore (L' := [some (.inl p1), some (.inl p2), some (.inl p3), some (.inl p4), some (.inl p1), some (.inl p2), some (.inl 1), some (.inl 0), some (.inl 0), some (.inl 1), some (.inl 0), none, none, none, none]) (zdk ttX8_partOf 13 rfl rfl) (by decide) rfl ?_
  have lp57 : ∀ (n : Nat) (x1 x2 x3 x4 x5 x6 x7 : Int), (1 ≤ x1 ∧ x1 ≤ 9999) → (0 ≤ x2 ∧ x2 ≤ 9999) → (-2147483648 ≤ x3 ∧ x3 ≤ 2147483647) → (-2147483648 ≤ x4 ∧ x4 ≤ 2147483647) → (-2147483648 ≤ x5 ∧ x5 ≤ 2147483647) → (-2147483648 ≤ x6 ∧ x6 ≤ 2147483647) → (0 ≤ x7 ∧ x7 ≤ 100) → (101 - x7).toNat < n → zJ shC l yX8_partOf cX8_partOf 15 (some .int) (rmL 1) 0 0 (q_X8_partOf h p1 p2 p3 p4) 0 0 21 [some (.inl p1), some (.inl p2), some (.inl p3), some (.inl p4), some (.inl x1), some (.inl x2), some (.inl x3), some (.inl x4), some (.inl x5), some (.inl x6), some (.inl x7), none, none, none, none] [] h := by
    intro n
    induction n with
    | zero => intro x1 x2 x3 x4 x5 x6 x7 b58 b59 b60 b61 b62 b63 b64 m65; exact absurd m65 (Nat.not_lt_zero _)
    | succ n ih66 =>
      intro x1 x2 x3 x4 x5 x6 x7 b58 b59 b60 b61 b62 b63 b64 m65
      refine zj_iload (zdk ttX8_partOf 14 rfl rfl) rfl ?_
      refine zj_iload_n (zdk ttX8_partOf 15 rfl rfl) rfl ?_
      refine zj_icmp_gt (t := 125) (zdk ttX8_partOf 16 rfl rfl) (by decide) (by omega) (by omega) (fun c67 => ?_) (fun c67 => ?_)
      · refine zj_iconst (zdk ttX8_partOf 68 rfl rfl) ?_
        exact zj_iret rfl (zdk ttX8_partOf 69 rfl rfl) (Nat.le_refl _) (Nat.le_refl _) ⟨(-1), rfl, rfl, by omega⟩
      · refine zj_iload (zdk ttX8_partOf 17 rfl rfl) rfl ?_
        refine zj_if_eq (t := 125) (zdk ttX8_partOf 18 rfl rfl) (by decide) (by omega) (fun c68 => ?_) (fun c68 => ?_)
        · refine zj_iconst (zdk ttX8_partOf 68 rfl rfl) ?_
          exact zj_iret rfl (zdk ttX8_partOf 69 rfl rfl) (Nat.le_refl _) (Nat.le_refl _) ⟨(-1), rfl, rfl, by omega⟩
        · refine zj_iload (zdk ttX8_partOf 19 rfl rfl) rfl ?_
          refine zj_iload (zdk ttX8_partOf 20 rfl rfl) rfl ?_
          refine zj_idivP (zdk ttX8_partOf 21 rfl rfl) (by omega) (by omega) ?_
          have b69 := zdiv_b (x := x1) (b := x2) (by omega) (by omega)
          refine zj_istore (L' := [some (.inl p1), some (.inl p2), some (.inl p3), some (.inl p4), some (.inl x1), some (.inl x2), some (.inl x3), some (.inl x4), some (.inl x5), some (.inl x6), some (.inl x7), some (.inl (x1 / x2)), none, none, none]) (zdk ttX8_partOf 22 rfl rfl) (by decide) rfl ?_
          refine zj_iload (zdk ttX8_partOf 23 rfl rfl) rfl ?_
          refine zj_iload (zdk ttX8_partOf 24 rfl rfl) rfl ?_
          refine zj_iremP (zdk ttX8_partOf 25 rfl rfl) (by omega) (by omega) ?_
          have b70 := zmod_b (x := x1) (b := x2) (by omega) (by omega)
          refine zj_istore (L' := [some (.inl p1), some (.inl p2), some (.inl p3), some (.inl p4), some (.inl x1), some (.inl x2), some (.inl x3), some (.inl x4), some (.inl x5), some (.inl x6), some (.inl x7), some (.inl (x1 / x2)), some (.inl (x1 % x2)), none, none]) (zdk ttX8_partOf 26 rfl rfl) (by decide) rfl ?_
          refine zj_iload (zdk ttX8_partOf 27 rfl rfl) rfl ?_
          refine zj_istore (L' := [some (.inl p1), some (.inl p2), some (.inl p3), some (.inl p4), some (.inl x2), some (.inl x2), some (.inl x3), some (.inl x4), some (.inl x5), some (.inl x6), some (.inl x7), some (.inl (x1 / x2)), some (.inl (x1 % x2)), none, none]) (zdk ttX8_partOf 28 rfl rfl) (by decide) rfl ?_
          refine zj_iload (zdk ttX8_partOf 29 rfl rfl) rfl ?_
          refine zj_istore (L' := [some (.inl p1), some (.inl p2), some (.inl p3), some (.inl p4), some (.inl x2), some (.inl (x1 % x2)), some (.inl x3), some (.inl x4), some (.inl x5), some (.inl x6), some (.inl x7), some (.inl (x1 / x2)), some (.inl (x1 % x2)), none, none]) (zdk ttX8_partOf 30 rfl rfl) (by decide) rfl ?_
          refine zj_iload (zdk ttX8_partOf 31 rfl rfl) rfl ?_
          refine zj_iload (zdk ttX8_partOf 32 rfl rfl) rfl ?_
          refine zj_imul (zdk ttX8_partOf 33 rfl rfl) ?_
          refine zj_wrap ?_
          have b71 := zwp_in ((x1 / x2) * x3)
          refine zj_iload (zdk ttX8_partOf 34 rfl rfl) rfl ?_
          refine zj_iadd (zdk ttX8_partOf 35 rfl rfl) ?_
          refine zj_wrap ?_
          have b72 := zwp_in ((zwp ((x1 / x2) * x3)) + x4)
          refine zj_istore (L' := [some (.inl p1), some (.inl p2), some (.inl p3), some (.inl p4), some (.inl x2), some (.inl (x1 % x2)), some (.inl x3), some (.inl x4), some (.inl x5), some (.inl x6), some (.inl x7), some (.inl (x1 / x2)), some (.inl (x1 % x2)), some (.inl (zwp ((zwp ((x1 / x2) * x3)) + x4))), none]) (zdk ttX8_partOf 36 rfl rfl) (by decide) rfl ?_
          refine zj_iload (zdk ttX8_partOf 37 rfl rfl) rfl ?_
          refine zj_istore (L' := [some (.inl p1), some (.inl p2), some (.inl p3), some (.inl p4), some (.inl x2), some (.inl (x1 % x2)), some (.inl x3), some (.inl x3), some (.inl x5), some (.inl x6), some (.inl x7), some (.inl (x1 / x2)), some (.inl (x1 % x2)), some (.inl (zwp ((zwp ((x1 / x2) * x3)) + x4))), none]) (zdk ttX8_partOf 38 rfl rfl) (by decide) rfl ?_
          refine zj_iload (zdk ttX8_partOf 39 rfl rfl) rfl ?_
          refine zj_istore (L' := [some (.inl p1), some (.inl p2), some (.inl p3), some (.inl p4), some (.inl x2), some (.inl (x1 % x2)), some (.inl (zwp ((zwp ((x1 / x2) * x3)) + x4))), some (.inl x3), some (.inl x5), some (.inl x6), some (.inl x7), some (.inl (x1 / x2)), some (.inl (x1 % x2)), some (.inl (zwp ((zwp ((x1 / x2) * x3)) + x4))), none]) (zdk ttX8_partOf 40 rfl rfl) (by decide) rfl ?_
          refine zj_iload (zdk ttX8_partOf 41 rfl rfl) rfl ?_
          refine zj_iload (zdk ttX8_partOf 42 rfl rfl) rfl ?_
          refine zj_imul (zdk ttX8_partOf 43 rfl rfl) ?_
          refine zj_wrap ?_
          have b73 := zwp_in ((x1 / x2) * x5)
          refine zj_iload (zdk ttX8_partOf 44 rfl rfl) rfl ?_
          refine zj_iadd (zdk ttX8_partOf 45 rfl rfl) ?_
          refine zj_wrap ?_
          have b74 := zwp_in ((zwp ((x1 / x2) * x5)) + x6)
          refine zj_istore (L' := [some (.inl p1), some (.inl p2), some (.inl p3), some (.inl p4), some (.inl x2), some (.inl (x1 % x2)), some (.inl (zwp ((zwp ((x1 / x2) * x3)) + x4))), some (.inl x3), some (.inl x5), some (.inl x6), some (.inl x7), some (.inl (x1 / x2)), some (.inl (x1 % x2)), some (.inl (zwp ((zwp ((x1 / x2) * x3)) + x4))), some (.inl (zwp ((zwp ((x1 / x2) * x5)) + x6)))]) (zdk ttX8_partOf 46 rfl rfl) (by decide) rfl ?_
          refine zj_iload (zdk ttX8_partOf 47 rfl rfl) rfl ?_
          refine zj_istore (L' := [some (.inl p1), some (.inl p2), some (.inl p3), some (.inl p4), some (.inl x2), some (.inl (x1 % x2)), some (.inl (zwp ((zwp ((x1 / x2) * x3)) + x4))), some (.inl x3), some (.inl x5), some (.inl x5), some (.inl x7), some (.inl (x1 / x2)), some (.inl (x1 % x2)), some (.inl (zwp ((zwp ((x1 / x2) * x3)) + x4))), some (.inl (zwp ((zwp ((x1 / x2) * x5)) + x6)))]) (zdk ttX8_partOf 48 rfl rfl) (by decide) rfl ?_
          refine zj_iload (zdk ttX8_partOf 49 rfl rfl) rfl ?_
          refine zj_istore (L' := [some (.inl p1), some (.inl p2), some (.inl p3), some (.inl p4), some (.inl x2), some (.inl (x1 % x2)), some (.inl (zwp ((zwp ((x1 / x2) * x3)) + x4))), some (.inl x3), some (.inl (zwp ((zwp ((x1 / x2) * x5)) + x6))), some (.inl x5), some (.inl x7), some (.inl (x1 / x2)), some (.inl (x1 % x2)), some (.inl (zwp ((zwp ((x1 / x2) * x3)) + x4))), some (.inl (zwp ((zwp ((x1 / x2) * x5)) + x6)))]) (zdk ttX8_partOf 50 rfl rfl) (by decide) rfl ?_
          refine zj_iload (zdk ttX8_partOf 51 rfl rfl) rfl ?_
          refine zj_iload_n (zdk ttX8_partOf 52 rfl rfl) rfl ?_
          refine zj_icmp_ne (t := 119) (zdk ttX8_partOf 53 rfl rfl) (by decide) (by omega) (by omega) (fun c75 => ?_) (fun c75 => ?_)
          · refine zj_iinc (L' := [some (.inl p1), some (.inl p2), some (.inl p3), some (.inl p4), some (.inl x2), some (.inl (x1 % x2)), some (.inl (zwp ((zwp ((x1 / x2) * x3)) + x4))), some (.inl x3), some (.inl (zwp ((zwp ((x1 / x2) * x5)) + x6))), some (.inl x5), some (.inl (x7 + 1)), some (.inl (x1 / x2)), some (.inl (x1 % x2)), some (.inl (zwp ((zwp ((x1 / x2) * x3)) + x4))), some (.inl (zwp ((zwp ((x1 / x2) * x5)) + x6)))]) (zdk ttX8_partOf 66 rfl rfl) rfl (by decide) rfl ?_
            refine zj_goto (t := 21) (zdk ttX8_partOf 67 rfl rfl) (by decide) ?_
            refine zj_kill (k := 11) (L' := [some (.inl p1), some (.inl p2), some (.inl p3), some (.inl p4), some (.inl x2), some (.inl (x1 % x2)), some (.inl (zwp ((zwp ((x1 / x2) * x3)) + x4))), some (.inl x3), some (.inl (zwp ((zwp ((x1 / x2) * x5)) + x6))), some (.inl x5), some (.inl (x7 + 1)), none, some (.inl (x1 % x2)), some (.inl (zwp ((zwp ((x1 / x2) * x3)) + x4))), some (.inl (zwp ((zwp ((x1 / x2) * x5)) + x6)))]) rfl ?_
            refine zj_kill (k := 12) (L' := [some (.inl p1), some (.inl p2), some (.inl p3), some (.inl p4), some (.inl x2), some (.inl (x1 % x2)), some (.inl (zwp ((zwp ((x1 / x2) * x3)) + x4))), some (.inl x3), some (.inl (zwp ((zwp ((x1 / x2) * x5)) + x6))), some (.inl x5), some (.inl (x7 + 1)), none, none, some (.inl (zwp ((zwp ((x1 / x2) * x3)) + x4))), some (.inl (zwp ((zwp ((x1 / x2) * x5)) + x6)))]) rfl ?_
            refine zj_kill (k := 13) (L' := [some (.inl p1), some (.inl p2), some (.inl p3), some (.inl p4), some (.inl x2), some (.inl (x1 % x2)), some (.inl (zwp ((zwp ((x1 / x2) * x3)) + x4))), some (.inl x3), some (.inl (zwp ((zwp ((x1 / x2) * x5)) + x6))), some (.inl x5), some (.inl (x7 + 1)), none, none, none, some (.inl (zwp ((zwp ((x1 / x2) * x5)) + x6)))]) rfl ?_
            refine zj_kill (k := 14) (L' := [some (.inl p1), some (.inl p2), some (.inl p3), some (.inl p4), some (.inl x2), some (.inl (x1 % x2)), some (.inl (zwp ((zwp ((x1 / x2) * x3)) + x4))), some (.inl x3), some (.inl (zwp ((zwp ((x1 / x2) * x5)) + x6))), some (.inl x5), some (.inl (x7 + 1)), none, none, none, none]) rfl ?_
            exact ih66  x2 (x1 % x2) (zwp ((zwp ((x1 / x2) * x3)) + x4)) x3 (zwp ((zwp ((x1 / x2) * x5)) + x6)) x5 (x7 + 1) (by omega) (by omega) (by omega) (by omega) (by omega) (by omega) (by omega) (by omega)
          · refine zj_iload_n (zdk ttX8_partOf 54 rfl rfl) rfl ?_
            refine zj_iconst (zdk ttX8_partOf 55 rfl rfl) ?_
            refine zj_icmp_ne (t := 106) (zdk ttX8_partOf 56 rfl rfl) (by decide) (by omega) (by decide) (fun c76 => ?_) (fun c76 => ?_)
            · refine zj_iload_n (zdk ttX8_partOf 59 rfl rfl) rfl ?_
              refine zj_iconst (zdk ttX8_partOf 60 rfl rfl) ?_
              refine zj_icmp_ne (t := 116) (zdk ttX8_partOf 61 rfl rfl) (by decide) (by omega) (by decide) (fun c77 => ?_) (fun c77 => ?_)
              · refine zj_iload (zdk ttX8_partOf 64 rfl rfl) rfl ?_
                exact zj_iret rfl (zdk ttX8_partOf 65 rfl rfl) (Nat.le_refl _) (Nat.le_refl _) ⟨(zwp ((zwp ((x1 / x2) * x5)) + x6)), rfl, rfl, by omega⟩
              · refine zj_iload (zdk ttX8_partOf 62 rfl rfl) rfl ?_
                refine zj_goto (t := 118) (zdk ttX8_partOf 63 rfl rfl) (by decide) ?_
                exact zj_iret rfl (zdk ttX8_partOf 65 rfl rfl) (Nat.le_refl _) (Nat.le_refl _) ⟨(zwp ((zwp ((x1 / x2) * x3)) + x4)), rfl, rfl, by omega⟩
            · refine zj_iload (zdk ttX8_partOf 57 rfl rfl) rfl ?_
              refine zj_goto (t := 118) (zdk ttX8_partOf 58 rfl rfl) (by decide) ?_
              exact zj_iret rfl (zdk ttX8_partOf 65 rfl rfl) (Nat.le_refl _) (Nat.le_refl _) ⟨(x1 / x2), rfl, rfl, by omega⟩
  exact lp57 _ p1 p2 1 0 0 1 0 (by omega) (by omega) (by omega) (by omega) (by omega) (by omega) (by omega) (Nat.lt_succ_self _)

abbrev tX8_meetsLast : List (Nat × Instr × Nat) := [(0, .iconst 0, 1), (1, .istore_n 2, 1), (2, .iload_n 2, 1), (3, .iload_n 0, 1), (4, .if_icmp .ge 22, 3), (7, .iconst 2, 1), (8, .iload_n 2, 1), (9, .imul, 1), (10, .iload_n 0, 1), (11, .irem, 1), (12, .iload_n 1, 1), (13, .iload_n 0, 1), (14, .irem, 1), (15, .if_icmp .ne 5, 3), (18, .iload_n 2, 1), (19, .ireturn, 1), (20, .iinc 2 1, 3), (23, .goto (-21), 3), (26, .iconst (-1), 1), (27, .ireturn, 1)]
theorem ttX8_meetsLast : zdt cX8_meetsLast tX8_meetsLast = true := by decide +kernel
abbrev q_X8_meetsLast (h : zM) (p1 : Int) (p2 : Int) : Option zV → zM → Prop := zqi fun v h' => h = h' ∧ ((-2147483648) ≤ v ∧ v ≤ 2147483647)
set_option maxRecDepth 100000 in
set_option maxHeartbeats 4000000 in
theorem s_X8_meetsLast (l : Launch) (h : zM) (p1 : Int) (p2 : Int) (s0 : okC h) (b_p1 : 1 ≤ p1 ∧ p1 ≤ 17) (b_p2 : 0 ≤ p2 ∧ p2 ≤ 999) : zT shC l yX8_meetsLast cX8_meetsLast 3 (some .int) (rmL 1) 0 0 [.inl p1, .inl p2] h (q_X8_meetsLast h p1 p2) := by
  refine zT_of (by decide +kernel) (L0 := [some (.inl p1), some (.inl p2), none]) rfl (Nat.le_of_ble_eq_true rfl) ?_
  refine zj_iconst (zdk ttX8_meetsLast 0 rfl rfl) ?_
  refine zj_istore_n (L' := [some (.inl p1), some (.inl p2), some (.inl 0)]) (zdk ttX8_meetsLast 1 rfl rfl) (by decide) rfl ?_
  have lp22 : ∀ (n : Nat) (x1 : Int), (0 ≤ x1 ∧ x1 ≤ 17) → (18 - x1).toNat < n → zJ shC l yX8_meetsLast cX8_meetsLast 3 (some .int) (rmL 1) 0 0 (q_X8_meetsLast h p1 p2) 0 0 2 [some (.inl p1), some (.inl p2), some (.inl x1)] [] h := by
    intro n
    induction n with
    | zero => intro x1 b23 m24; exact absurd m24 (Nat.not_lt_zero _)
    | succ n ih25 =>
      intro x1 b23 m24
      refine zj_iload_n (zdk ttX8_meetsLast 2 rfl rfl) rfl ?_
      refine zj_iload_n (zdk ttX8_meetsLast 3 rfl rfl) rfl ?_
      refine zj_icmp_ge (t := 26) (zdk ttX8_meetsLast 4 rfl rfl) (by decide) (by omega) (by omega) (fun c26 => ?_) (fun c26 => ?_)
      · refine zj_iconst (zdk ttX8_meetsLast 18 rfl rfl) ?_
        exact zj_iret rfl (zdk ttX8_meetsLast 19 rfl rfl) (Nat.le_refl _) (Nat.le_refl _) ⟨(-1), rfl, rfl, by omega⟩
      · refine zj_iconst (zdk ttX8_meetsLast 5 rfl rfl) ?_
        refine zj_iload_n (zdk ttX8_meetsLast 6 rfl rfl) rfl ?_
        refine zj_imul (zdk ttX8_meetsLast 7 rfl rfl) ?_
        refine zj_iload_n (zdk ttX8_meetsLast 8 rfl rfl) rfl ?_
        refine zj_iremP (zdk ttX8_meetsLast 9 rfl rfl) (by omega) (by omega) ?_
        have b27 := zmod_b (x := (2 * x1)) (b := p1) (by omega) (by omega)
        refine zj_iload_n (zdk ttX8_meetsLast 10 rfl rfl) rfl ?_
        refine zj_iload_n (zdk ttX8_meetsLast 11 rfl rfl) rfl ?_
        refine zj_iremP (zdk ttX8_meetsLast 12 rfl rfl) (by omega) (by omega) ?_
        have b28 := zmod_b (x := p2) (b := p1) (by omega) (by omega)
        refine zj_icmp_ne (t := 20) (zdk ttX8_meetsLast 13 rfl rfl) (by decide) (by omega) (by omega) (fun c29 => ?_) (fun c29 => ?_)
        · refine zj_iinc (L' := [some (.inl p1), some (.inl p2), some (.inl (x1 + 1))]) (zdk ttX8_meetsLast 16 rfl rfl) rfl (by decide) rfl ?_
          refine zj_goto (t := 2) (zdk ttX8_meetsLast 17 rfl rfl) (by decide) ?_
          exact ih25  (x1 + 1) (by omega) (by omega)
        · refine zj_iload_n (zdk ttX8_meetsLast 14 rfl rfl) rfl ?_
          exact zj_iret rfl (zdk ttX8_meetsLast 15 rfl rfl) (Nat.le_refl _) (Nat.le_refl _) ⟨x1, rfl, rfl, by omega⟩
  exact lp22 _ 0 (by omega) (Nat.lt_succ_self _)

abbrev tX8_opponent : List (Nat × Instr × Nat) := [(0, .iload_n 0, 1), (1, .iconst 2, 1), (2, .irem, 1), (3, .ifCond .ne 9, 3), (6, .iload_n 0, 1), (7, .iconst 1, 1), (8, .isub, 1), (9, .goto 4, 3), (12, .iload_n 0, 1), (13, .istore_n 3, 1), (14, .iload_n 2, 1), (15, .iload_n 3, 1), (16, .if_icmp .ne 9, 3), (19, .iload_n 3, 1), (20, .iload_n 1, 1), (21, .invokestatic 101, 3), (24, .ireturn, 1), (25, .iload_n 1, 1), (26, .iload_n 2, 1), (27, .isub, 1), (28, .iconst 1, 1), (29, .iload_n 3, 1), (30, .invokestatic 37, 3), (33, .invokestatic 104, 3), (36, .istore 4, 2), (38, .iload 4, 2), (40, .iload_n 2, 1), (41, .if_icmp .eq 6, 3), (44, .iload 4, 2), (46, .ireturn, 1), (47, .iload_n 3, 1), (48, .iload_n 0, 1), (49, .if_icmp .ne 7, 3), (52, .iconst (-1), 1), (53, .goto 4, 3), (56, .iload_n 3, 1), (57, .ireturn, 1)]
theorem ttX8_opponent : zdt cX8_opponent tX8_opponent = true := by decide +kernel
abbrev q_X8_opponent (h : zM) (p1 : Int) (p2 : Int) (p3 : Int) : Option zV → zM → Prop := zqi fun v h' => h = h' ∧ ((-2147483648) ≤ v ∧ v ≤ 2147483647)
set_option maxRecDepth 100000 in
set_option maxHeartbeats 4000000 in
theorem s_X8_opponent (l : Launch) (h : zM) (p1 : Int) (p2 : Int) (p3 : Int) (s0 : okC h) (b_p1 : 2 ≤ p1 ∧ p1 ≤ 16) (b_p2 : 0 ≤ p2 ∧ p2 ≤ 999) (b_p3 : 0 ≤ p3 ∧ p3 ≤ 15) : zT shC l yX8_opponent cX8_opponent 5 (some .int) (rmL 2) 0 0 [.inl p1, .inl p2, .inl p3] h (q_X8_opponent h p1 p2 p3) := by
  refine zT_of (by decide +kernel) (L0 := [some (.inl p1), some (.inl p2), some (.inl p3), none, none]) rfl (Nat.le_of_ble_eq_true rfl) ?_
  refine zj_iload_n (zdk ttX8_opponent 0 rfl rfl) rfl ?_
  refine zj_iconst (zdk ttX8_opponent 1 rfl rfl) ?_
  refine zj_iremP (zdk ttX8_opponent 2 rfl rfl) (by omega) (by omega) ?_
  have j3 : ∀ (y2 : Int), (1 ≤ y2 ∧ y2 ≤ 16) → zJ shC l yX8_opponent cX8_opponent 5 (some .int) (rmL 2) 0 0 (q_X8_opponent h p1 p2 p3) 0 0 13 [some (.inl p1), some (.inl p2), some (.inl p3), none, none] [.inl y2] h := by
    intro y2 b4
    refine zj_istore_n (L' := [some (.inl p1), some (.inl p2), some (.inl p3), some (.inl y2), none]) (zdk ttX8_opponent 9 rfl rfl) (by decide) rfl ?_
    refine zj_iload_n (zdk ttX8_opponent 10 rfl rfl) rfl ?_
    refine zj_iload_n (zdk ttX8_opponent 11 rfl rfl) rfl ?_
    refine zj_icmp_ne (t := 25) (zdk ttX8_opponent 12 rfl rfl) (by decide) (by omega) (by omega) (fun c5 => ?_) (fun c5 => ?_)
    · refine zj_iload_n (zdk ttX8_opponent 17 rfl rfl) rfl ?_
      refine zj_iload_n (zdk ttX8_opponent 18 rfl rfl) rfl ?_
      refine zj_isub (zdk ttX8_opponent 19 rfl rfl) ?_
      refine zj_iconst (zdk ttX8_opponent 20 rfl rfl) ?_
      refine zj_iload_n (zdk ttX8_opponent 21 rfl rfl) rfl ?_
      refine zj_max (zdk ttX8_opponent 22 rfl rfl) mx_RX8_37 (by decide) (by omega) (Nat.le_of_ble_eq_true rfl) (rm_m (by decide)) ?_
      have b6 := zm_max_f 1 y2
      refine zj_callS (av := [.inl (p2 - p3), .inl (zm_max 1 y2)]) (st := []) (zdk ttX8_opponent 23 rfl rfl) mb_J9_floorMod_7cf53 ms_RX8_104 rfl rfl (Nat.le_of_ble_eq_true rfl) (s_J9_floorMod_7cf53 shC l h (p2 - p3) (zm_max 1 y2) (by omega) (by omega)) (rm_ok (by decide) (by decide)) (zq_i fun v7 h8 q9 => ?_)
      obtain ⟨rfl, b10⟩ := q9
      have b10n := Int.emod_nonneg (p2 - p3) (show (zm_max 1 y2) ≠ 0 by omega)
      have b10l := Int.emod_lt_of_pos (p2 - p3) (show 0 < (zm_max 1 y2) by omega)
      refine zj_istore (L' := [some (.inl p1), some (.inl p2), some (.inl p3), some (.inl y2), some (.inl v7)]) (zdk ttX8_opponent 24 rfl rfl) (by decide) rfl ?_
      refine zj_iload (zdk ttX8_opponent 25 rfl rfl) rfl ?_
      refine zj_iload_n (zdk ttX8_opponent 26 rfl rfl) rfl ?_
      refine zj_icmp_eq (t := 47) (zdk ttX8_opponent 27 rfl rfl) (by decide) (by omega) (by omega) (fun c11 => ?_) (fun c11 => ?_)
      · refine zj_iload_n (zdk ttX8_opponent 30 rfl rfl) rfl ?_
        refine zj_iload_n (zdk ttX8_opponent 31 rfl rfl) rfl ?_
        refine zj_icmp_ne (t := 56) (zdk ttX8_opponent 32 rfl rfl) (by decide) (by omega) (by omega) (fun c12 => ?_) (fun c12 => ?_)
        · refine zj_iload_n (zdk ttX8_opponent 35 rfl rfl) rfl ?_
          exact zj_iret rfl (zdk ttX8_opponent 36 rfl rfl) (Nat.le_refl _) (Nat.le_refl _) ⟨y2, rfl, rfl, by omega⟩
        · refine zj_iconst (zdk ttX8_opponent 33 rfl rfl) ?_
          refine zj_goto (t := 57) (zdk ttX8_opponent 34 rfl rfl) (by decide) ?_
          exact zj_iret rfl (zdk ttX8_opponent 36 rfl rfl) (Nat.le_refl _) (Nat.le_refl _) ⟨(-1), rfl, rfl, by omega⟩
      · refine zj_iload (zdk ttX8_opponent 28 rfl rfl) rfl ?_
        exact zj_iret rfl (zdk ttX8_opponent 29 rfl rfl) (Nat.le_refl _) (Nat.le_refl _) ⟨v7, rfl, rfl, by omega⟩
    · refine zj_iload_n (zdk ttX8_opponent 13 rfl rfl) rfl ?_
      refine zj_iload_n (zdk ttX8_opponent 14 rfl rfl) rfl ?_
      refine zj_callS (av := [.inl y2, .inl p2]) (st := []) (zdk ttX8_opponent 15 rfl rfl) mb_X8_meetsLast ms_RX8_101 rfl rfl (Nat.le_of_ble_eq_true rfl) (s_X8_meetsLast l h y2 p2 s0 (by omega) (by omega)) (rm_ok (by decide) (by decide)) (zq_i fun v14 h15 q13 => ?_)
      obtain ⟨rfl, b16⟩ := q13
      exact zj_iret rfl (zdk ttX8_opponent 16 rfl rfl) (Nat.le_refl _) (Nat.le_refl _) ⟨v14, rfl, rfl, by omega⟩
  refine zj_if_ne (t := 12) (zdk ttX8_opponent 3 rfl rfl) (by decide) (by omega) (fun c1 => ?_) (fun c1 => ?_)
  · refine zj_iload_n (zdk ttX8_opponent 8 rfl rfl) rfl ?_
    exact j3 p1 (by omega)
  · refine zj_iload_n (zdk ttX8_opponent 4 rfl rfl) rfl ?_
    refine zj_iconst (zdk ttX8_opponent 5 rfl rfl) ?_
    refine zj_isub (zdk ttX8_opponent 6 rfl rfl) ?_
    refine zj_goto (t := 13) (zdk ttX8_opponent 7 rfl rfl) (by decide) ?_
    exact j3 (p1 - 1) (by omega)

abbrev tX8_firstMeeting : List (Nat × Instr × Nat) := [(0, .iload_n 2, 1), (1, .iload_n 0, 1), (2, .if_icmp .le 15, 3), (5, .iload_n 2, 1), (6, .iload_n 0, 1), (7, .isub, 1), (8, .iload_n 1, 1), (9, .iadd, 1), (10, .iconst 1, 1), (11, .isub, 1), (12, .iload_n 1, 1), (13, .idiv, 1), (14, .goto 4, 3), (17, .iconst 0, 1), (18, .istore 4, 2), (20, .iload_n 0, 1), (21, .iload 4, 2), (23, .iload_n 1, 1), (24, .imul, 1), (25, .iadd, 1), (26, .istore 5, 2), (28, .iconst 0, 1), (29, .istore 6, 2), (31, .iload 6, 2), (33, .iload_n 3, 1), (34, .if_icmp .ge 27, 3), (37, .iload 5, 2), (39, .iload_n 2, 1), (40, .isub, 1), (41, .iload_n 3, 1), (42, .irem, 1), (43, .ifCond .ne 6, 3), (46, .iload 5, 2), (48, .ireturn, 1), (49, .iload 5, 2), (51, .iload_n 1, 1), (52, .iadd, 1), (53, .istore 5, 2), (55, .iinc 6 1, 3), (58, .goto (-27), 3), (61, .iconst (-1), 1), (62, .ireturn, 1)]
theorem ttX8_firstMeeting : zdt cX8_firstMeeting tX8_firstMeeting = true := by decide +kernel
abbrev q_X8_firstMeeting (h : zM) (p1 : Int) (p2 : Int) (p3 : Int) (p4 : Int) : Option zV → zM → Prop := zqi fun v h' => h = h' ∧ ((-2147483648) ≤ v ∧ v ≤ 2147483647)
set_option maxRecDepth 100000 in
set_option maxHeartbeats 4000000 in
theorem s_X8_firstMeeting (l : Launch) (h : zM) (p1 : Int) (p2 : Int) (p3 : Int) (p4 : Int) (s0 : okC h) (b_p1 : 0 ≤ p1 ∧ p1 ≤ 499) (b_p2 : 1 ≤ p2 ∧ p2 ≤ 500) (b_p3 : 0 ≤ p3 ∧ p3 ≤ 499) (b_p4 : 1 ≤ p4 ∧ p4 ≤ 500) : zT shC l yX8_firstMeeting cX8_firstMeeting 7 (some .int) (rmL 1) 0 0 [.inl p1, .inl p2, .inl p3, .inl p4] h (q_X8_firstMeeting h p1 p2 p3 p4) := by
  refine zT_of (by decide +kernel) (L0 := [some (.inl p1), some (.inl p2), some (.inl p3), some (.inl p4), none, none, none]) rfl (Nat.le_of_ble_eq_true rfl) ?_
  refine zj_iload_n (zdk ttX8_firstMeeting 0 rfl rfl) rfl ?_
  refine zj_iload_n (zdk ttX8_firstMeeting 1 rfl rfl) rfl ?_
  have j4 : ∀ (y3 : Int), (-998 ≤ y3 ∧ y3 ≤ 998) → zJ shC l yX8_firstMeeting cX8_firstMeeting 7 (some .int) (rmL 1) 0 0 (q_X8_firstMeeting h p1 p2 p3 p4) 0 0 18 [some (.inl p1), some (.inl p2), some (.inl p3), some (.inl p4), none, none, none] [.inl y3] h := by
    intro y3 b5
    refine zj_istore (L' := [some (.inl p1), some (.inl p2), some (.inl p3), some (.inl p4), some (.inl y3), none, none]) (zdk ttX8_firstMeeting 14 rfl rfl) (by decide) rfl ?_
    refine zj_iload_n (zdk ttX8_firstMeeting 15 rfl rfl) rfl ?_
    refine zj_iload (zdk ttX8_firstMeeting 16 rfl rfl) rfl ?_
    refine zj_iload_n (zdk ttX8_firstMeeting 17 rfl rfl) rfl ?_
    refine zj_imul (zdk ttX8_firstMeeting 18 rfl rfl) ?_
    have b6 : -499000 ≤ (y3 * p2) ∧ (y3 * p2) ≤ 499000 := zmul_b (a := -998) (b := 998) (c := 1) (d := 500) (by omega) (by omega) (by decide)
    refine zj_iadd (zdk ttX8_firstMeeting 19 rfl rfl) ?_
    refine zj_istore (L' := [some (.inl p1), some (.inl p2), some (.inl p3), some (.inl p4), some (.inl y3), some (.inl (p1 + (y3 * p2))), none]) (zdk ttX8_firstMeeting 20 rfl rfl) (by decide) rfl ?_
    refine zj_iconst (zdk ttX8_firstMeeting 21 rfl rfl) ?_
    refine zj_istore (L' := [some (.inl p1), some (.inl p2), some (.inl p3), some (.inl p4), some (.inl y3), some (.inl (p1 + (y3 * p2))), some (.inl 0)]) (zdk ttX8_firstMeeting 22 rfl rfl) (by decide) rfl ?_
    have lp27 : ∀ (n : Nat) (x7 x8 : Int), (-2147483648 ≤ x7 ∧ x7 ≤ 2147483647) → (0 ≤ x8 ∧ x8 ≤ 500) → (501 - x8).toNat < n → zJ shC l yX8_firstMeeting cX8_firstMeeting 7 (some .int) (rmL 1) 0 0 (q_X8_firstMeeting h p1 p2 p3 p4) 0 0 31 [some (.inl p1), some (.inl p2), some (.inl p3), some (.inl p4), some (.inl y3), some (.inl x7), some (.inl x8)] [] h := by
      intro n
      induction n with
      | zero => intro x7 x8 b28 b29 m30; exact absurd m30 (Nat.not_lt_zero _)
      | succ n ih31 =>
        intro x7 x8 b28 b29 m30
        refine zj_iload (zdk ttX8_firstMeeting 23 rfl rfl) rfl ?_
        refine zj_iload_n (zdk ttX8_firstMeeting 24 rfl rfl) rfl ?_
        refine zj_icmp_ge (t := 61) (zdk ttX8_firstMeeting 25 rfl rfl) (by decide) (by omega) (by omega) (fun c32 => ?_) (fun c32 => ?_)
        · refine zj_iconst (zdk ttX8_firstMeeting 40 rfl rfl) ?_
          exact zj_iret rfl (zdk ttX8_firstMeeting 41 rfl rfl) (Nat.le_refl _) (Nat.le_refl _) ⟨(-1), rfl, rfl, by omega⟩
        · refine zj_iload (zdk ttX8_firstMeeting 26 rfl rfl) rfl ?_
          refine zj_iload_n (zdk ttX8_firstMeeting 27 rfl rfl) rfl ?_
          refine zj_isub (zdk ttX8_firstMeeting 28 rfl rfl) ?_
          refine zj_wrap ?_
          have b33 := zwp_in (x7 - p3)
          refine zj_iload_n (zdk ttX8_firstMeeting 29 rfl rfl) rfl ?_
          refine zj_irem (zdk ttX8_firstMeeting 30 rfl rfl) (by omega) (by omega) (by omega) ?_
          have b34 := ztm_b (zwp (x7 - p3)) p4 (by omega)
          refine zj_if_ne (t := 49) (zdk ttX8_firstMeeting 31 rfl rfl) (by decide) (by omega) (fun c35 => ?_) (fun c35 => ?_)
          · refine zj_iload (zdk ttX8_firstMeeting 34 rfl rfl) rfl ?_
            refine zj_iload_n (zdk ttX8_firstMeeting 35 rfl rfl) rfl ?_
            refine zj_iadd (zdk ttX8_firstMeeting 36 rfl rfl) ?_
            refine zj_wrap ?_
            have b36 := zwp_in (x7 + p2)
            refine zj_istore (L' := [some (.inl p1), some (.inl p2), some (.inl p3), some (.inl p4), some (.inl y3), some (.inl (zwp (x7 + p2))), some (.inl x8)]) (zdk ttX8_firstMeeting 37 rfl rfl) (by decide) rfl ?_
            refine zj_iinc (L' := [some (.inl p1), some (.inl p2), some (.inl p3), some (.inl p4), some (.inl y3), some (.inl (zwp (x7 + p2))), some (.inl (x8 + 1))]) (zdk ttX8_firstMeeting 38 rfl rfl) rfl (by decide) rfl ?_
            refine zj_goto (t := 31) (zdk ttX8_firstMeeting 39 rfl rfl) (by decide) ?_
            exact ih31  (zwp (x7 + p2)) (x8 + 1) (by omega) (by omega) (by omega)
          · refine zj_iload (zdk ttX8_firstMeeting 32 rfl rfl) rfl ?_
            exact zj_iret rfl (zdk ttX8_firstMeeting 33 rfl rfl) (Nat.le_refl _) (Nat.le_refl _) ⟨x7, rfl, rfl, by omega⟩
    exact lp27 _ (p1 + (y3 * p2)) 0 (by omega) (by omega) (Nat.lt_succ_self _)
  refine zj_icmp_le (t := 17) (zdk ttX8_firstMeeting 2 rfl rfl) (by decide) (by omega) (by omega) (fun c1 => ?_) (fun c1 => ?_)
  · refine zj_iconst (zdk ttX8_firstMeeting 13 rfl rfl) ?_
    exact j4 0 (by omega)
  · refine zj_iload_n (zdk ttX8_firstMeeting 3 rfl rfl) rfl ?_
    refine zj_iload_n (zdk ttX8_firstMeeting 4 rfl rfl) rfl ?_
    refine zj_isub (zdk ttX8_firstMeeting 5 rfl rfl) ?_
    refine zj_iload_n (zdk ttX8_firstMeeting 6 rfl rfl) rfl ?_
    refine zj_iadd (zdk ttX8_firstMeeting 7 rfl rfl) ?_
    refine zj_iconst (zdk ttX8_firstMeeting 8 rfl rfl) ?_
    refine zj_isub (zdk ttX8_firstMeeting 9 rfl rfl) ?_
    refine zj_iload_n (zdk ttX8_firstMeeting 10 rfl rfl) rfl ?_
    refine zj_idiv (zdk ttX8_firstMeeting 11 rfl rfl) (by omega) (by omega) (by omega) ?_
    have b37 := ztd_b (((p3 - p1) + p2) - 1) p2
    refine zj_goto (t := 18) (zdk ttX8_firstMeeting 12 rfl rfl) (by decide) ?_
    exact j4 ((((p3 - p1) + p2) - 1).tdiv p2) (by omega)

abbrev tX5_copyFrom : List (Nat × Instr × Nat) := [(0, .aload_n 1, 1), (1, .getfield 11, 3), (4, .iconst 0, 1), (5, .aload_n 0, 1), (6, .getfield 11, 3), (9, .iconst 0, 1), (10, .iconst 5, 1), (11, .invokestatic 44, 3), (14, .iconst 0, 1), (15, .istore_n 2, 1), (16, .iload_n 2, 1), (17, .iconst 5, 1), (18, .if_icmp .ge 21, 3), (21, .aload_n 0, 1), (22, .getfield 15, 3), (25, .iload_n 2, 1), (26, .aload_n 1, 1), (27, .getfield 15, 3), (30, .iload_n 2, 1), (31, .baload, 1), (32, .bastore, 1), (33, .iinc 2 1, 3), (36, .goto (-20), 3), (39, .aload_n 1, 1), (40, .getfield 23, 3), (43, .iconst 0, 1), (44, .aload_n 0, 1), (45, .getfield 23, 3), (48, .iconst 0, 1), (49, .bipush 8, 2), (51, .invokestatic 44, 3), (54, .aload_n 1, 1), (55, .getfield 29, 3), (58, .iconst 0, 1), (59, .aload_n 0, 1), (60, .getfield 29, 3), (63, .iconst 0, 1), (64, .bipush 7, 2), (66, .invokestatic 44, 3), (69, .aload_n 1, 1), (70, .getfield 35, 3), (73, .iconst 0, 1), (74, .aload_n 0, 1), (75, .getfield 35, 3), (78, .iconst 0, 1), (79, .bipush 6, 2), (81, .invokestatic 44, 3), (84, .aload_n 1, 1), (85, .getfield 38, 3), (88, .iconst 0, 1), (89, .aload_n 0, 1), (90, .getfield 38, 3), (93, .iconst 0, 1), (94, .bipush 6, 2), (96, .invokestatic 44, 3), (99, .aload_n 0, 1), (100, .aload_n 1, 1), (101, .getfield 19, 3), (104, .putfield 19, 3), (107, .aload_n 0, 1), (108, .aload_n 1, 1), (109, .getfield 26, 3), (112, .putfield 26, 3), (115, .aload_n 0, 1), (116, .aload_n 1, 1), (117, .getfield 32, 3), (120, .putfield 32, 3), (123, .aload_n 0, 1), (124, .aload_n 1, 1), (125, .getfield 41, 3), (128, .putfield 41, 3), (131, .return_, 1)]
theorem ttX5_copyFrom : zdt cX5_copyFrom tX5_copyFrom = true := by decide +kernel
abbrev w_X5_copyFrom (c a b : Int) : Prop := (a = c ∧ b = 2) ∨ (a = c ∧ b = 4) ∨ (a = c ∧ b = 6) ∨ (a = c ∧ b = 9) ∨ (c + 1 ≤ a ∧ a ≤ c + 6)
abbrev q_X5_copyFrom (h : zM) (c : Int) (p1 : Int) : Option zV → zM → Prop := zqv fun h' => okC h' ∧ zfC (w_X5_copyFrom c) h h' ∧ (h'.2 c 2 = h.2 p1 2) ∧ (h'.2 c 4 = h.2 p1 4) ∧ (h'.2 c 6 = h.2 p1 6) ∧ (h'.2 c 9 = h.2 p1 9)
set_option maxRecDepth 100000 in
set_option maxHeartbeats 4000000 in
theorem s_X5_copyFrom (l : Launch) (h : zM) (c : Int) (p1 : Int) (s0 : okC h) (hc : zPu c) (r_p1 : zPu p1) : zT shC l yX5_copyFrom cX5_copyFrom 3 none (rmL 1) 0 0 [.inr c, .inr p1] h (q_X5_copyFrom h c p1) := by
  refine zT_of (by decide +kernel) (L0 := [some (.inr c), some (.inr p1), none]) rfl (Nat.le_of_ble_eq_true rfl) ?_
  have b1 := zPu_b hc
  have b2 := zPu_b r_p1
  have sep9 := zPu_sep hc r_p1
  refine zj_aload_n (zdk ttX5_copyFrom 0 rfl rfl) rfl (by omega) ?_
  refine zj_getr (r := (p1 + 1)) (zdk ttX5_copyFrom 1 rfl rfl) zf_RX5_11 rfl (k_5_0 s0 r_p1) (rf_5_0_0 s0 r_p1) ?_
  refine zj_iconst (zdk ttX5_copyFrom 2 rfl rfl) ?_
  refine zj_aload_n (zdk ttX5_copyFrom 3 rfl rfl) rfl (by omega) ?_
  refine zj_getr (r := (c + 1)) (zdk ttX5_copyFrom 4 rfl rfl) zf_RX5_11 rfl (k_5_0 s0 hc) (rf_5_0_0 s0 hc) ?_
  refine zj_iconst (zdk ttX5_copyFrom 5 rfl rfl) ?_
  refine zj_iconst (zdk ttX5_copyFrom 6 rfl rfl) ?_
  refine zj_copy (zdk ttX5_copyFrom 7 rfl rfl) mc_RX5_44 (ka_5_0_0 s0 r_p1) (ka_5_0_0 s0 hc) (by decide) (by decide) (by decide) (by decide) (Nat.le_of_ble_eq_true rfl) (rm_c (by decide)) (fun h3 e4 => ?_)
  refine zj_iconst (zdk ttX5_copyFrom 8 rfl rfl) ?_
  refine zj_istore_n (L' := [some (.inr c), some (.inr p1), some (.inl 0)]) (zdk ttX5_copyFrom 9 rfl rfl) (by decide) rfl ?_
  have lp29 : ∀ (n : Nat) (x5 : Int) (h6 : zM), (0 ≤ x5 ∧ x5 ≤ 5) → okC h6 → zfC (w_X5_copyFrom c) h h6 → (h6.2 p1 2 = h.2 p1 2) → (h6.2 p1 4 = h.2 p1 4) → (h6.2 p1 6 = h.2 p1 6) → (h6.2 p1 9 = h.2 p1 9) → (6 - x5).toNat < n → zJ shC l yX5_copyFrom cX5_copyFrom 3 none (rmL 1) 0 0 (q_X5_copyFrom h c p1) 0 0 16 [some (.inr c), some (.inr p1), some (.inl x5)] [] h6 := by
    intro n
    induction n with
    | zero => intro x5 h6 b30 s7 f8 u31 u32 u33 u34 m35; exact absurd m35 (Nat.not_lt_zero _)
    | succ n ih36 =>
      intro x5 h6 b30 s7 f8 u31 u32 u33 u34 m35
      refine zj_iload_n (zdk ttX5_copyFrom 10 rfl rfl) rfl ?_
      refine zj_iconst (zdk ttX5_copyFrom 11 rfl rfl) ?_
      refine zj_icmp_ge (t := 39) (zdk ttX5_copyFrom 12 rfl rfl) (by decide) (by omega) (by decide) (fun c37 => ?_) (fun c37 => ?_)
      · refine zj_aload_n (zdk ttX5_copyFrom 23 rfl rfl) rfl (by omega) ?_
        refine zj_getr (r := (p1 + 3)) (zdk ttX5_copyFrom 24 rfl rfl) zf_RX5_23 rfl (k_5_0 s7 r_p1) (rf_5_0_3 s7 r_p1) ?_
        refine zj_iconst (zdk ttX5_copyFrom 25 rfl rfl) ?_
        refine zj_aload_n (zdk ttX5_copyFrom 26 rfl rfl) rfl (by omega) ?_
        refine zj_getr (r := (c + 3)) (zdk ttX5_copyFrom 27 rfl rfl) zf_RX5_23 rfl (k_5_0 s7 hc) (rf_5_0_3 s7 hc) ?_
        refine zj_iconst (zdk ttX5_copyFrom 28 rfl rfl) ?_
        refine zj_bipush (zdk ttX5_copyFrom 29 rfl rfl) (by decide) ?_
        refine zj_copy (zdk ttX5_copyFrom 30 rfl rfl) mc_RX5_44 (ka_5_0_3 s7 r_p1) (ka_5_0_3 s7 hc) (by decide) (by decide) (by decide) (by decide) (Nat.le_of_ble_eq_true rfl) (rm_c (by decide)) (fun h38 e39 => ?_)
        refine zj_aload_n (zdk ttX5_copyFrom 31 rfl rfl) rfl (by omega) ?_
        have s40 : okC h38 := okC_cp s7 e39 (fun j i => pa_5_0_3 hc (ab_5_0_3 s7 r_p1 i) j) (na_5_0_3 hc).1 (na_5_0_3 hc).2
        refine zj_getr (r := (p1 + 4)) (zdk ttX5_copyFrom 32 rfl rfl) zf_RX5_29 rfl (k_5_0 s40 r_p1) (rf_5_0_5 s40 r_p1) ?_
        refine zj_iconst (zdk ttX5_copyFrom 33 rfl rfl) ?_
        refine zj_aload_n (zdk ttX5_copyFrom 34 rfl rfl) rfl (by omega) ?_
        refine zj_getr (r := (c + 4)) (zdk ttX5_copyFrom 35 rfl rfl) zf_RX5_29 rfl (k_5_0 s40 hc) (rf_5_0_5 s40 hc) ?_
        refine zj_iconst (zdk ttX5_copyFrom 36 rfl rfl) ?_
        refine zj_bipush (zdk ttX5_copyFrom 37 rfl rfl) (by decide) ?_
        refine zj_copy (zdk ttX5_copyFrom 38 rfl rfl) mc_RX5_44 (ka_5_0_5 s40 r_p1) (ka_5_0_5 s40 hc) (by decide) (by decide) (by decide) (by decide) (Nat.le_of_ble_eq_true rfl) (rm_c (by decide)) (fun h41 e42 => ?_)
        refine zj_aload_n (zdk ttX5_copyFrom 39 rfl rfl) rfl (by omega) ?_
        have s43 : okC h41 := okC_cp s40 e42 (fun j i => pa_5_0_5 hc (ab_5_0_5 s40 r_p1 i) j) (na_5_0_5 hc).1 (na_5_0_5 hc).2
        refine zj_getr (r := (p1 + 5)) (zdk ttX5_copyFrom 40 rfl rfl) zf_RX5_35 rfl (k_5_0 s43 r_p1) (rf_5_0_7 s43 r_p1) ?_
        refine zj_iconst (zdk ttX5_copyFrom 41 rfl rfl) ?_
        refine zj_aload_n (zdk ttX5_copyFrom 42 rfl rfl) rfl (by omega) ?_
        refine zj_getr (r := (c + 5)) (zdk ttX5_copyFrom 43 rfl rfl) zf_RX5_35 rfl (k_5_0 s43 hc) (rf_5_0_7 s43 hc) ?_
        refine zj_iconst (zdk ttX5_copyFrom 44 rfl rfl) ?_
        refine zj_bipush (zdk ttX5_copyFrom 45 rfl rfl) (by decide) ?_
        refine zj_copy (zdk ttX5_copyFrom 46 rfl rfl) mc_RX5_44 (ka_5_0_7 s43 r_p1) (ka_5_0_7 s43 hc) (by decide) (by decide) (by decide) (by decide) (Nat.le_of_ble_eq_true rfl) (rm_c (by decide)) (fun h44 e45 => ?_)
        refine zj_aload_n (zdk ttX5_copyFrom 47 rfl rfl) rfl (by omega) ?_
        have s46 : okC h44 := okC_cp s43 e45 (fun j i => pa_5_0_7 hc (ab_5_0_7 s43 r_p1 i) j) (na_5_0_7 hc).1 (na_5_0_7 hc).2
        refine zj_getr (r := (p1 + 6)) (zdk ttX5_copyFrom 48 rfl rfl) zf_RX5_38 rfl (k_5_0 s46 r_p1) (rf_5_0_8 s46 r_p1) ?_
        refine zj_iconst (zdk ttX5_copyFrom 49 rfl rfl) ?_
        refine zj_aload_n (zdk ttX5_copyFrom 50 rfl rfl) rfl (by omega) ?_
        refine zj_getr (r := (c + 6)) (zdk ttX5_copyFrom 51 rfl rfl) zf_RX5_38 rfl (k_5_0 s46 hc) (rf_5_0_8 s46 hc) ?_
        refine zj_iconst (zdk ttX5_copyFrom 52 rfl rfl) ?_
        refine zj_bipush (zdk ttX5_copyFrom 53 rfl rfl) (by decide) ?_
        refine zj_copy (zdk ttX5_copyFrom 54 rfl rfl) mc_RX5_44 (ka_5_0_8 s46 r_p1) (ka_5_0_8 s46 hc) (by decide) (by decide) (by decide) (by decide) (Nat.le_of_ble_eq_true rfl) (rm_c (by decide)) (fun h47 e48 => ?_)
        refine zj_aload_n (zdk ttX5_copyFrom 55 rfl rfl) rfl (by omega) ?_
        refine zj_aload_n (zdk ttX5_copyFrom 56 rfl rfl) rfl (by omega) ?_
        have b49 : 0 ≤ (h6.2 p1 2) ∧ (h6.2 p1 2) ≤ 5 := fb_5_0_2 s7 r_p1
        have s50 : okC h47 := okC_cp s46 e48 (fun j i => pa_5_0_8 hc (ab_5_0_8 s46 r_p1 i) j) (na_5_0_8 hc).1 (na_5_0_8 hc).2
        refine zj_geti (v := (h6.2 p1 2)) (zdk ttX5_copyFrom 57 rfl rfl) zf_RX5_19 rfl (k_5_0 s50 r_p1) ((((zcp_r e48 (by omega)).trans (zcp_r e45 (by omega))).trans (zcp_r e42 (by omega))).trans (zcp_r e39 (by omega))) ?_
        refine zj_puti (zdk ttX5_copyFrom 58 rfl rfl) zf_RX5_19 rfl (k_5_0 s50 hc) (Or.inl zw_RX5_19) (k2 := 2) rfl (fun h51 e52 => ?_)
        refine zj_aload_n (zdk ttX5_copyFrom 59 rfl rfl) rfl (by omega) ?_
        refine zj_aload_n (zdk ttX5_copyFrom 60 rfl rfl) rfl (by omega) ?_
        have b53 : 0 ≤ (h6.2 p1 4) ∧ (h6.2 p1 4) ≤ 8 := fb_5_0_4 s7 r_p1
        have s54 : okC h51 := fw_5_0_2 s50 hc e52 (by omega)
        refine zj_geti (v := (h6.2 p1 4)) (zdk ttX5_copyFrom 61 rfl rfl) zf_RX5_26 rfl (k_5_0 s54 r_p1) (((((zwr_r e52 (by first | decide | exact (absurd ·.1 (by decide)) | exact (absurd ·.2 (by decide)) | omega)).trans (zcp_r e48 (by omega))).trans (zcp_r e45 (by omega))).trans (zcp_r e42 (by omega))).trans (zcp_r e39 (by omega))) ?_
        refine zj_puti (zdk ttX5_copyFrom 62 rfl rfl) zf_RX5_26 rfl (k_5_0 s54 hc) (Or.inl zw_RX5_26) (k2 := 4) rfl (fun h55 e56 => ?_)
        refine zj_aload_n (zdk ttX5_copyFrom 63 rfl rfl) rfl (by omega) ?_
        refine zj_aload_n (zdk ttX5_copyFrom 64 rfl rfl) rfl (by omega) ?_
        have b57 : 0 ≤ (h6.2 p1 6) ∧ (h6.2 p1 6) ≤ 7 := fb_5_0_6 s7 r_p1
        have s58 : okC h55 := fw_5_0_4 s54 hc e56 (by omega)
        refine zj_geti (v := (h6.2 p1 6)) (zdk ttX5_copyFrom 65 rfl rfl) zf_RX5_32 rfl (k_5_0 s58 r_p1) ((((((zwr_r e56 (by first | decide | exact (absurd ·.1 (by decide)) | exact (absurd ·.2 (by decide)) | omega)).trans (zwr_r e52 (by first | decide | exact (absurd ·.1 (by decide)) | exact (absurd ·.2 (by decide)) | omega))).trans (zcp_r e48 (by omega))).trans (zcp_r e45 (by omega))).trans (zcp_r e42 (by omega))).trans (zcp_r e39 (by omega))) ?_
        refine zj_puti (zdk ttX5_copyFrom 66 rfl rfl) zf_RX5_32 rfl (k_5_0 s58 hc) (Or.inl zw_RX5_32) (k2 := 6) rfl (fun h59 e60 => ?_)
        refine zj_aload_n (zdk ttX5_copyFrom 67 rfl rfl) rfl (by omega) ?_
        refine zj_aload_n (zdk ttX5_copyFrom 68 rfl rfl) rfl (by omega) ?_
        have b61 : 0 ≤ (h6.2 p1 9) ∧ (h6.2 p1 9) ≤ 6 := fb_5_0_9 s7 r_p1
        have s62 : okC h59 := fw_5_0_6 s58 hc e60 (by omega)
        refine zj_geti (v := (h6.2 p1 9)) (zdk ttX5_copyFrom 69 rfl rfl) zf_RX5_41 rfl (k_5_0 s62 r_p1) (((((((zwr_r e60 (by first | decide | exact (absurd ·.1 (by decide)) | exact (absurd ·.2 (by decide)) | omega)).trans (zwr_r e56 (by first | decide | exact (absurd ·.1 (by decide)) | exact (absurd ·.2 (by decide)) | omega))).trans (zwr_r e52 (by first | decide | exact (absurd ·.1 (by decide)) | exact (absurd ·.2 (by decide)) | omega))).trans (zcp_r e48 (by omega))).trans (zcp_r e45 (by omega))).trans (zcp_r e42 (by omega))).trans (zcp_r e39 (by omega))) ?_
        refine zj_puti (zdk ttX5_copyFrom 70 rfl rfl) zf_RX5_41 rfl (k_5_0 s62 hc) (Or.inl zw_RX5_41) (k2 := 9) rfl (fun h63 e64 => ?_)
        have s65 : okC h63 := fw_5_0_9 s62 hc e64 (by omega)
        have f73 : zfC (w_X5_copyFrom c) h h38 := zfC_cp f8 e39 (fun _ => (Or.inr (Or.inr (Or.inr (Or.inr (by omega))))))
        have f72 : zfC (w_X5_copyFrom c) h h41 := zfC_cp f73 e42 (fun _ => (Or.inr (Or.inr (Or.inr (Or.inr (by omega))))))
        have f71 : zfC (w_X5_copyFrom c) h h44 := zfC_cp f72 e45 (fun _ => (Or.inr (Or.inr (Or.inr (Or.inr (by omega))))))
        have f70 : zfC (w_X5_copyFrom c) h h47 := zfC_cp f71 e48 (fun _ => (Or.inr (Or.inr (Or.inr (Or.inr (by omega))))))
        have f69 : zfC (w_X5_copyFrom c) h h51 := zfC_w f70 e52 (Or.inl (by omega))
        have f68 : zfC (w_X5_copyFrom c) h h55 := zfC_w f69 e56 (Or.inr (Or.inl (by omega)))
        have f67 : zfC (w_X5_copyFrom c) h h59 := zfC_w f68 e60 (Or.inr (Or.inr (Or.inl (by omega))))
        have f66 : zfC (w_X5_copyFrom c) h h63 := zfC_w f67 e64 (Or.inr (Or.inr (Or.inr (Or.inl (by omega)))))
        have b74 : h63.2 c 2 = (h6.2 p1 2) := ((((zwr_r e64 (by first | decide | exact (absurd ·.1 (by decide)) | exact (absurd ·.2 (by decide)) | omega)).trans (zwr_r e60 (by first | decide | exact (absurd ·.1 (by decide)) | exact (absurd ·.2 (by decide)) | omega))).trans (zwr_r e56 (by first | decide | exact (absurd ·.1 (by decide)) | exact (absurd ·.2 (by decide)) | omega))).trans (zwr_v e52))
        have b75 : h63.2 c 4 = (h6.2 p1 4) := (((zwr_r e64 (by first | decide | exact (absurd ·.1 (by decide)) | exact (absurd ·.2 (by decide)) | omega)).trans (zwr_r e60 (by first | decide | exact (absurd ·.1 (by decide)) | exact (absurd ·.2 (by decide)) | omega))).trans (zwr_v e56))
        have b76 : h63.2 c 6 = (h6.2 p1 6) := ((zwr_r e64 (by first | decide | exact (absurd ·.1 (by decide)) | exact (absurd ·.2 (by decide)) | omega)).trans (zwr_v e60))
        have b77 : h63.2 c 9 = (h6.2 p1 9) := (zwr_v e64)
        exact zj_vret rfl (zdk ttX5_copyFrom 71 rfl rfl) (Nat.le_refl _) (Nat.le_refl _) ⟨rfl, s65, f66, by omega, by omega, by omega, by omega⟩
      · refine zj_aload_n (zdk ttX5_copyFrom 13 rfl rfl) rfl (by omega) ?_
        refine zj_getr (r := (c + 2)) (zdk ttX5_copyFrom 14 rfl rfl) zf_RX5_15 rfl (k_5_0 s7 hc) (rf_5_0_1 s7 hc) ?_
        refine zj_iload_n (zdk ttX5_copyFrom 15 rfl rfl) rfl ?_
        refine zj_aload_n (zdk ttX5_copyFrom 16 rfl rfl) rfl (by omega) ?_
        refine zj_getr (r := (p1 + 2)) (zdk ttX5_copyFrom 17 rfl rfl) zf_RX5_15 rfl (k_5_0 s7 r_p1) (rf_5_0_1 s7 r_p1) ?_
        refine zj_iload_n (zdk ttX5_copyFrom 18 rfl rfl) rfl ?_
        have b78 : 0 ≤ (h6.2 (p1 + 2) x5) ∧ (h6.2 (p1 + 2) x5) ≤ 1 := ab_5_0_1 s7 r_p1 x5
        refine zj_zald (v := (h6.2 (p1 + 2) x5)) (zdk ttX5_copyFrom 19 rfl rfl) (ka_5_0_1 s7 r_p1) (by decide) (by omega) rfl ?_
        refine zj_zast (zdk ttX5_copyFrom 20 rfl rfl) (ka_5_0_1 s7 hc) (by decide) (by omega) (by omega) (fun h79 e80 => ?_)
        refine zj_iinc (L' := [some (.inr c), some (.inr p1), some (.inl (x5 + 1))]) (zdk ttX5_copyFrom 21 rfl rfl) rfl (by decide) rfl ?_
        refine zj_goto (t := 16) (zdk ttX5_copyFrom 22 rfl rfl) (by decide) ?_
        have b81 : h79.2 p1 2 = (h6.2 p1 2) := (zwr_r e80 (by first | decide | exact (absurd ·.1 (by decide)) | exact (absurd ·.2 (by decide)) | omega))
        have b82 : h79.2 p1 4 = (h6.2 p1 4) := (zwr_r e80 (by first | decide | exact (absurd ·.1 (by decide)) | exact (absurd ·.2 (by decide)) | omega))
        have b83 : h79.2 p1 6 = (h6.2 p1 6) := (zwr_r e80 (by first | decide | exact (absurd ·.1 (by decide)) | exact (absurd ·.2 (by decide)) | omega))
        have b84 : h79.2 p1 9 = (h6.2 p1 9) := (zwr_r e80 (by first | decide | exact (absurd ·.1 (by decide)) | exact (absurd ·.2 (by decide)) | omega))
        have s85 : okC h79 := aw_5_0_1 s7 hc e80 (by omega)
        have f86 : zfC (w_X5_copyFrom c) h h79 := zfC_w f8 e80 (Or.inr (Or.inr (Or.inr (Or.inr (by omega)))))
        exact ih36  (x5 + 1) h79 (by omega) s85 f86 (by omega) (by omega) (by omega) (by omega) (by omega)
  have b87 : h3.2 p1 2 = (h.2 p1 2) := (zcp_r e4 (by omega))
  have b88 : h3.2 p1 4 = (h.2 p1 4) := (zcp_r e4 (by omega))
  have b89 : h3.2 p1 6 = (h.2 p1 6) := (zcp_r e4 (by omega))
  have b90 : h3.2 p1 9 = (h.2 p1 9) := (zcp_r e4 (by omega))
  have s91 : okC h3 := okC_cp s0 e4 (fun j i => pa_5_0_0 hc (ab_5_0_0 s0 r_p1 i) j) (na_5_0_0 hc).1 (na_5_0_0 hc).2
  have f92 : zfC (w_X5_copyFrom c) h h3 := zfC_cp (zfC_r _ _) e4 (fun _ => (Or.inr (Or.inr (Or.inr (Or.inr (by omega))))))
  exact lp29 _ 0 h3 (by omega) s91 f92 (by omega) (by omega) (by omega) (by omega) (Nat.lt_succ_self _)

abbrev tX5_tellWheel : List (Nat × Instr × Nat) := [(0, .iload_n 1, 1), (1, .iconst (-1), 1), (2, .if_icmp .ne 10, 3), (5, .aload_n 0, 1), (6, .iconst 0, 1), (7, .putfield 19, 3), (10, .iconst 0, 1), (11, .ireturn, 1), (12, .iload_n 1, 1), (13, .bipush 6, 2), (15, .bipush 99, 2), (17, .invokestatic 50, 3), (20, .ifCond .eq 11, 3), (23, .aload_n 0, 1), (24, .getfield 19, 3), (27, .iconst 5, 1), (28, .if_icmp .lt 5, 3), (31, .iconst (-1), 1), (32, .ireturn, 1), (33, .aload_n 0, 1), (34, .getfield 11, 3), (37, .aload_n 0, 1), (38, .getfield 19, 3), (41, .iload_n 1, 1), (42, .iastore, 1), (43, .aload_n 0, 1), (44, .getfield 15, 3), (47, .aload_n 0, 1), (48, .getfield 19, 3), (51, .iload_n 2, 1), (52, .bastore, 1), (53, .aload_n 0, 1), (54, .dup, 1), (55, .getfield 19, 3), (58, .iconst 1, 1), (59, .iadd, 1), (60, .dup_x1, 1), (61, .putfield 19, 3), (64, .ireturn, 1)]
theorem ttX5_tellWheel : zdt cX5_tellWheel tX5_tellWheel = true := by decide +kernel
abbrev w_X5_tellWheel (c a b : Int) : Prop := (a = c ∧ b = 2) ∨ (c + 1 ≤ a ∧ a ≤ c + 2)
abbrev q_X5_tellWheel (h : zM) (c : Int) (p1 : Int) (p2 : Int) : Option zV → zM → Prop := zqi fun v h' => ((-2147483648) ≤ v ∧ v ≤ 2147483647) ∧ okC h' ∧ zfC (w_X5_tellWheel c) h h' ∧ (zcw (p1 = -1) (6 ≤ p1 ∧ p1 ≤ 99) 5 (h.2 c 2) v (h'.2 c 2))
set_option maxRecDepth 100000 in
set_option maxHeartbeats 4000000 in
theorem s_X5_tellWheel (l : Launch) (h : zM) (c : Int) (p1 : Int) (p2 : Int) (s0 : okC h) (hc : zPu c) (b_p1 : (-2147483648) ≤ p1 ∧ p1 ≤ 2147483647) (b_p2 : 0 ≤ p2 ∧ p2 ≤ 1) : zT shC l yX5_tellWheel cX5_tellWheel 3 (some .int) (rmL 2) 0 0 [.inr c, .inl p1, .inl p2] h (q_X5_tellWheel h c p1 p2) := by
  refine zT_of (by decide +kernel) (L0 := [some (.inr c), some (.inl p1), some (.inl p2)]) rfl (Nat.le_of_ble_eq_true rfl) ?_
  have b1 := zPu_b hc
  refine zj_iload_n (zdk ttX5_tellWheel 0 rfl rfl) rfl ?_
  refine zj_iconst (zdk ttX5_tellWheel 1 rfl rfl) ?_
  refine zj_icmp_ne (t := 12) (zdk ttX5_tellWheel 2 rfl rfl) (by decide) (by omega) (by decide) (fun c2 => ?_) (fun c2 => ?_)
  · refine zj_iload_n (zdk ttX5_tellWheel 8 rfl rfl) rfl ?_
    refine zj_bipush (zdk ttX5_tellWheel 9 rfl rfl) (by decide) ?_
    refine zj_bipush (zdk ttX5_tellWheel 10 rfl rfl) (by decide) ?_
    refine zj_callS (av := [.inl p1, .inl 6, .inl 99]) (st := []) (zdk ttX5_tellWheel 11 rfl rfl) mb_X10_within ms_RX5_50 rfl rfl (Nat.le_of_ble_eq_true rfl) (s_X10_within l h p1 6 99 s0 (by omega) (by omega) (by omega)) (rm_ok (by decide) (by decide)) (zq_i fun v4 h5 q3 => ?_)
    obtain ⟨rfl, ⟨rfl, b6⟩ | ⟨rfl, b6⟩⟩ := q3
    · refine zj_if_eq (t := 31) (zdk ttX5_tellWheel 12 rfl rfl) (by decide) (by decide) (fun c7 => ?_) (fun c7 => ?_)
      · refine zj_iconst (zdk ttX5_tellWheel 17 rfl rfl) ?_
        exact zj_iret rfl (zdk ttX5_tellWheel 18 rfl rfl) (Nat.le_refl _) (Nat.le_refl _) ⟨(-1), rfl, by omega, s0, (zfC_r _ _), by unfold zcw; omega⟩
      · exact absurd c7 (by omega)
    · refine zj_if_eq (t := 31) (zdk ttX5_tellWheel 12 rfl rfl) (by decide) (by decide) (fun c8 => ?_) (fun c8 => ?_)
      · exact absurd c8 (by omega)
      · refine zj_aload_n (zdk ttX5_tellWheel 13 rfl rfl) rfl (by omega) ?_
        have b9 : 0 ≤ (h.2 c 2) ∧ (h.2 c 2) ≤ 5 := fb_5_0_2 s0 hc
        refine zj_geti (v := (h.2 c 2)) (zdk ttX5_tellWheel 14 rfl rfl) zf_RX5_19 rfl (k_5_0 s0 hc) rfl ?_
        refine zj_iconst (zdk ttX5_tellWheel 15 rfl rfl) ?_
        refine zj_icmp_lt (t := 33) (zdk ttX5_tellWheel 16 rfl rfl) (by decide) (by omega) (by decide) (fun c10 => ?_) (fun c10 => ?_)
        · refine zj_aload_n (zdk ttX5_tellWheel 19 rfl rfl) rfl (by omega) ?_
          refine zj_getr (r := (c + 1)) (zdk ttX5_tellWheel 20 rfl rfl) zf_RX5_11 rfl (k_5_0 s0 hc) (rf_5_0_0 s0 hc) ?_
          refine zj_aload_n (zdk ttX5_tellWheel 21 rfl rfl) rfl (by omega) ?_
          refine zj_geti (v := (h.2 c 2)) (zdk ttX5_tellWheel 22 rfl rfl) zf_RX5_19 rfl (k_5_0 s0 hc) rfl ?_
          refine zj_iload_n (zdk ttX5_tellWheel 23 rfl rfl) rfl ?_
          refine zj_iast (zdk ttX5_tellWheel 24 rfl rfl) (ka_5_0_0 s0 hc) (by decide) (by omega) (fun h11 e12 => ?_)
          refine zj_aload_n (zdk ttX5_tellWheel 25 rfl rfl) rfl (by omega) ?_
          have s13 : okC h11 := aw_5_0_0 s0 hc e12 (by omega)
          refine zj_getr (r := (c + 2)) (zdk ttX5_tellWheel 26 rfl rfl) zf_RX5_15 rfl (k_5_0 s13 hc) (rf_5_0_1 s13 hc) ?_
          refine zj_aload_n (zdk ttX5_tellWheel 27 rfl rfl) rfl (by omega) ?_
          refine zj_geti (v := (h.2 c 2)) (zdk ttX5_tellWheel 28 rfl rfl) zf_RX5_19 rfl (k_5_0 s13 hc) (zwr_r e12 (by first | decide | exact (absurd ·.1 (by decide)) | exact (absurd ·.2 (by decide)) | omega)) ?_
          refine zj_iload_n (zdk ttX5_tellWheel 29 rfl rfl) rfl ?_
          refine zj_zast (zdk ttX5_tellWheel 30 rfl rfl) (ka_5_0_1 s13 hc) (by decide) (by omega) (by omega) (fun h14 e15 => ?_)
          refine zj_aload_n (zdk ttX5_tellWheel 31 rfl rfl) rfl (by omega) ?_
          refine zj_dup (zdk ttX5_tellWheel 32 rfl rfl) ?_
          have s16 : okC h14 := aw_5_0_1 s13 hc e15 (by omega)
          refine zj_geti (v := (h.2 c 2)) (zdk ttX5_tellWheel 33 rfl rfl) zf_RX5_19 rfl (k_5_0 s16 hc) ((zwr_r e15 (by first | decide | exact (absurd ·.1 (by decide)) | exact (absurd ·.2 (by decide)) | omega)).trans (zwr_r e12 (by first | decide | exact (absurd ·.1 (by decide)) | exact (absurd ·.2 (by decide)) | omega))) ?_
          refine zj_iconst (zdk ttX5_tellWheel 34 rfl rfl) ?_
          refine zj_iadd (zdk ttX5_tellWheel 35 rfl rfl) ?_
          refine zj_dup_x1 (zdk ttX5_tellWheel 36 rfl rfl) ?_
          refine zj_puti (zdk ttX5_tellWheel 37 rfl rfl) zf_RX5_19 rfl (k_5_0 s16 hc) (Or.inl zw_RX5_19) (k2 := 2) rfl (fun h17 e18 => ?_)
          have s19 : okC h17 := fw_5_0_2 s16 hc e18 (by omega)
          have f22 : zfC (w_X5_tellWheel c) h h11 := zfC_w (zfC_r _ _) e12 (Or.inr (by omega))
          have f21 : zfC (w_X5_tellWheel c) h h14 := zfC_w f22 e15 (Or.inr (by omega))
          have f20 : zfC (w_X5_tellWheel c) h h17 := zfC_w f21 e18 (Or.inl (by omega))
          have b23 : h17.2 c 2 = ((h.2 c 2) + 1) := (zwr_v e18)
          exact zj_iret rfl (zdk ttX5_tellWheel 38 rfl rfl) (Nat.le_refl _) (Nat.le_refl _) ⟨((h.2 c 2) + 1), rfl, by omega, s19, f20, by unfold zcw; omega⟩
        · refine zj_iconst (zdk ttX5_tellWheel 17 rfl rfl) ?_
          exact zj_iret rfl (zdk ttX5_tellWheel 18 rfl rfl) (Nat.le_refl _) (Nat.le_refl _) ⟨(-1), rfl, by omega, s0, (zfC_r _ _), by unfold zcw; omega⟩
  · refine zj_aload_n (zdk ttX5_tellWheel 3 rfl rfl) rfl (by omega) ?_
    refine zj_iconst (zdk ttX5_tellWheel 4 rfl rfl) ?_
    refine zj_puti (zdk ttX5_tellWheel 5 rfl rfl) zf_RX5_19 rfl (k_5_0 s0 hc) (Or.inl zw_RX5_19) (k2 := 2) rfl (fun h24 e25 => ?_)
    refine zj_iconst (zdk ttX5_tellWheel 6 rfl rfl) ?_
    have s26 : okC h24 := fw_5_0_2 s0 hc e25 (by omega)
    have f27 : zfC (w_X5_tellWheel c) h h24 := zfC_w (zfC_r _ _) e25 (Or.inl (by omega))
    have b28 : h24.2 c 2 = 0 := (zwr_v e25)
    exact zj_iret rfl (zdk ttX5_tellWheel 7 rfl rfl) (Nat.le_refl _) (Nat.le_refl _) ⟨0, rfl, by omega, s26, f27, by unfold zcw; omega⟩

