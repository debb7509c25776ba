def zch (n s : Int) (f : Int → Int) (j : Int) : Int := if s ≤ j ∧ (j - s) % 2 = 0 ∧ j + 1 < n then f (j + 1) else if s + 1 ≤ j ∧ (j - s) % 2 = 1 ∧ j < n then f (j - 1) else f j
def zci (n s p : Int) (h H : zM) : Prop := ∀ j, H.2 30 j = if j < p then zch n s (h.2 30) j else h.2 30 j
theorem zci_0 {n s : Int} {h : zM} : zci n s s h h := by
  intro j
  split
  · unfold zch; rw [if_neg (by omega), if_neg (by omega)]
  · rfl
theorem zci_s {n s p : Int} {h H h1 h2 : zM} (q : zci n s p h H) (e1 : h1 = zwr H 30 p (H.2 30 (p + 1))) (e2 : h2 = zwr h1 30 (p + 1) (H.2 30 p)) (hp : s ≤ p ∧ (p - s) % 2 = 0 ∧ p + 1 < n) : zci n s (p + 2) h h2 := by
  intro j
  have a1 := q p
  have a2 := q (p + 1)
  rw [if_neg (by omega)] at a1 a2
  by_cases q1 : j = p + 1
  · rw [if_pos (by omega), e2, q1, zwr_s, a1]
    unfold zch; rw [if_neg (by omega), if_pos (by omega), show p + 1 - 1 = p by omega]
  · rw [e2, zwr_n (by omega)]
    by_cases q2 : j = p
    · rw [if_pos (by omega), e1, q2, zwr_s, a2]
      unfold zch; rw [if_pos (by omega)]
    · rw [e1, zwr_n (by omega), q j]
      by_cases q3 : j < p
      · rw [if_pos q3, if_pos (by omega)]
      · rw [if_neg q3, if_neg (by omega)]
theorem zci_e {n s p : Int} {h H : zM} (q : zci n s p h H) (hp : s ≤ p ∧ (p - s) % 2 = 0 ∧ n ≤ p + 1) : ∀ j, H.2 30 j = zch n s (h.2 30) j := by
  intro j
  rw [q j]
  split
  · rfl
  · unfold zch; rw [if_neg (by omega), if_neg (by omega)]
def zst (n : Int) : Nat → Int → Int
  | 0, j => j
  | k + 1, j => zch n ((k : Int) % 2) (zst n k) j
theorem zst_ok : ∀ n : Nat, n < 9 → 3 ≤ n → ∀ j : Nat, j < n → zst (n : Int) (2 * n) (j : Int) = (j : Int) := by decide +kernel
theorem zst_o {n k : Int} (hn : 3 ≤ n ∧ n ≤ 8) (hk : k = 2 * n) (j : Int) (hj : 0 ≤ j ∧ j < n) : zst n k.toNat j = j := by
  have := zst_ok n.toNat (by omega) (by omega) j.toNat (by omega)
  rw [show ((n.toNat : Nat) : Int) = n by omega, show ((j.toNat : Nat) : Int) = j by omega, show 2 * n.toNat = k.toNat by omega] at this
  exact this
theorem zst_s {n k : Int} {H h1 : zM} (hk : 0 ≤ k) (hn : n ≤ 8) (q : ∀ j, 0 ≤ j → j < 8 → H.2 30 j = zst n k.toNat j) (e : ∀ j, h1.2 30 j = zch n (k % 2) (H.2 30) j) : ∀ j, 0 ≤ j → j < 8 → h1.2 30 j = zst n (k + 1).toNat j := by
  intro j j1 j2
  rw [e j, show (k + 1).toNat = k.toNat + 1 by omega]
  show _ = zch n ((k.toNat : Int) % 2) (zst n k.toNat) j
  rw [show ((k.toNat : Nat) : Int) = k by omega]
  unfold zch
  split
  · exact q _ (by omega) (by omega)
  · split
    · exact q _ (by omega) (by omega)
    · exact q _ j1 j2
abbrev tX11_changes : List (Nat × Instr × Nat) := [(0, .iload_n 2, 1), (1, .iconst 2, 1), (2, .irem, 1), (3, .istore_n 3, 1), (4, .iload_n 3, 1), (5, .iconst 1, 1), (6, .iadd, 1), (7, .iload_n 1, 1), (8, .if_icmp .ge 42, 3), (11, .aload_n 0, 1), (12, .getfield 102, 3), (15, .iload_n 3, 1), (16, .iaload, 1), (17, .istore 4, 2), (19, .aload_n 0, 1), (20, .getfield 102, 3), (23, .iload_n 3, 1), (24, .aload_n 0, 1), (25, .getfield 102, 3), (28, .iload_n 3, 1), (29, .iconst 1, 1), (30, .iadd, 1), (31, .iaload, 1), (32, .iastore, 1), (33, .aload_n 0, 1), (34, .getfield 102, 3), (37, .iload_n 3, 1), (38, .iconst 1, 1), (39, .iadd, 1), (40, .iload 4, 2), (42, .iastore, 1), (43, .iload_n 3, 1), (44, .iconst 2, 1), (45, .iadd, 1), (46, .istore_n 3, 1), (47, .goto (-43), 3), (50, .return_, 1)]
theorem ttX11_changes : zdt cX11_changes tX11_changes = true := by decide +kernel
abbrev q_X11_changes (h : zM) (p1 : Int) (p2 : Int) : Option zV → zM → Prop := zqv fun h' => okM h' ∧ zfr [] [30] h h' ∧ (∀ j, h'.2 30 j = zch p1 (p2 % 2) (h.2 30) j)
set_option maxRecDepth 100000 in
set_option maxHeartbeats 4000000 in
theorem s_X11_changes (l : Launch) (h : zM) (p1 : Int) (p2 : Int) (s0 : okM h) (b_p1 : 3 ≤ p1 ∧ p1 ≤ 8) (b_p2 : 0 ≤ p2 ∧ p2 ≤ 1000000) : zT shM l yX11_changes cX11_changes 5 none (rmL 1) 0 0 [.inr 0, .inl p1, .inl p2] h (q_X11_changes h p1 p2) := by
  refine zT_of (by decide +kernel) (L0 := [some (.inr 0), some (.inl p1), some (.inl p2), none, none]) rfl (Nat.le_of_ble_eq_true rfl) ?_
  refine zj_iload_n (zdk ttX11_changes 0 rfl rfl) rfl ?_
  refine zj_iconst (zdk ttX11_changes 1 rfl rfl) ?_
  refine zj_iremP (zdk ttX11_changes 2 rfl rfl) (by omega) (by omega) ?_
  refine zj_istore_n (L' := [some (.inr 0), some (.inl p1), some (.inl p2), some (.inl (p2 % 2)), none]) (zdk ttX11_changes 3 rfl rfl) (by decide) rfl ?_
  have lp37 : ∀ (n4 : Nat) (x1 : Int) (h2 : zM), (0 ≤ x1 ∧ x1 ≤ 8) → okM h2 → zfr [] [30] h h2 → (zci p1 (p2 % 2) x1 h h2) → (p2 % 2 ≤ x1 ∧ (x1 - p2 % 2) % 2 = 0) → (9 - x1).toNat < n4 → zJ shM l yX11_changes cX11_changes 5 none (rmL 1) 0 0 (q_X11_changes h p1 p2) 0 0 4 [some (.inr 0), some (.inl p1), some (.inl p2), some (.inl x1), none] [] h2 := by
    intro n4
    induction n4 with
    | zero => intro x1 h2 b38 s3 f4 u39 u40 m41; exact absurd m41 (Nat.not_lt_zero _)
    | succ n4 ih42 =>
      intro x1 h2 b38 s3 f4 u39 u40 m41
      refine zj_iload_n (zdk ttX11_changes 4 rfl rfl) rfl ?_
      refine zj_iconst (zdk ttX11_changes 5 rfl rfl) ?_
      refine zj_iadd (zdk ttX11_changes 6 rfl rfl) ?_
      refine zj_iload_n (zdk ttX11_changes 7 rfl rfl) rfl ?_
      refine zj_icmp_ge (t := 50) (zdk ttX11_changes 8 rfl rfl) (by decide) (by omega) (by omega) (fun c43 => ?_) (fun c43 => ?_)
      · exact zj_vret rfl (zdk ttX11_changes 36 rfl rfl) (Nat.le_refl _) (Nat.le_refl _) ⟨rfl, s3, f4, (zci_e u39 (by omega))⟩
      · refine zj_aload_n (zdk ttX11_changes 9 rfl rfl) rfl (by decide) ?_
        refine zj_getr (r := 30) (zdk ttX11_changes 10 rfl rfl) zf_RX11_102 rfl (k_M s3) (rfM_52 s3) ?_
        refine zj_iload_n (zdk ttX11_changes 11 rfl rfl) rfl ?_
        have b44 : -2147483648 ≤ (h2.2 30 x1) ∧ (h2.2 30 x1) ≤ 2147483647 := abM_30 s3 x1
        refine zj_iald (v := (h2.2 30 x1)) (zdk ttX11_changes 12 rfl rfl) (kaM_30 s3) (by decide) (by omega) rfl ?_
        refine zj_istore (L' := [some (.inr 0), some (.inl p1), some (.inl p2), some (.inl x1), some (.inl (h2.2 30 x1))]) (zdk ttX11_changes 13 rfl rfl) (by decide) rfl ?_
        refine zj_aload_n (zdk ttX11_changes 14 rfl rfl) rfl (by decide) ?_
        refine zj_getr (r := 30) (zdk ttX11_changes 15 rfl rfl) zf_RX11_102 rfl (k_M s3) (rfM_52 s3) ?_
        refine zj_iload_n (zdk ttX11_changes 16 rfl rfl) rfl ?_
        refine zj_aload_n (zdk ttX11_changes 17 rfl rfl) rfl (by decide) ?_
        refine zj_getr (r := 30) (zdk ttX11_changes 18 rfl rfl) zf_RX11_102 rfl (k_M s3) (rfM_52 s3) ?_
        refine zj_iload_n (zdk ttX11_changes 19 rfl rfl) rfl ?_
        refine zj_iconst (zdk ttX11_changes 20 rfl rfl) ?_
        refine zj_iadd (zdk ttX11_changes 21 rfl rfl) ?_
        have b45 : -2147483648 ≤ (h2.2 30 (x1 + 1)) ∧ (h2.2 30 (x1 + 1)) ≤ 2147483647 := abM_30 s3 (x1 + 1)
        refine zj_iald (v := (h2.2 30 (x1 + 1))) (zdk ttX11_changes 22 rfl rfl) (kaM_30 s3) (by decide) (by omega) rfl ?_
        refine zj_iast (zdk ttX11_changes 23 rfl rfl) (kaM_30 s3) (by decide) (by omega) (fun h46 e47 => ?_)
        refine zj_aload_n (zdk ttX11_changes 24 rfl rfl) rfl (by decide) ?_
        have s48 : okM h46 := awM_30 s3 e47 (by omega) (by unfold nsp; omega)
        refine zj_getr (r := 30) (zdk ttX11_changes 25 rfl rfl) zf_RX11_102 rfl (k_M s48) (rfM_52 s48) ?_
        refine zj_iload_n (zdk ttX11_changes 26 rfl rfl) rfl ?_
        refine zj_iconst (zdk ttX11_changes 27 rfl rfl) ?_
        refine zj_iadd (zdk ttX11_changes 28 rfl rfl) ?_
        refine zj_iload (zdk ttX11_changes 29 rfl rfl) rfl ?_
        refine zj_iast (zdk ttX11_changes 30 rfl rfl) (kaM_30 s48) (by decide) (by omega) (fun h49 e50 => ?_)
        refine zj_iload_n (zdk ttX11_changes 31 rfl rfl) rfl ?_
        refine zj_iconst (zdk ttX11_changes 32 rfl rfl) ?_
        refine zj_iadd (zdk ttX11_changes 33 rfl rfl) ?_
        refine zj_istore_n (L' := [some (.inr 0), some (.inl p1), some (.inl p2), some (.inl (x1 + 2)), some (.inl (h2.2 30 x1))]) (zdk ttX11_changes 34 rfl rfl) (by decide) rfl ?_
        refine zj_goto (t := 4) (zdk ttX11_changes 35 rfl rfl) (by decide) ?_
        refine zj_kill (k := 4) (L' := [some (.inr 0), some (.inl p1), some (.inl p2), some (.inl (x1 + 2)), none]) rfl ?_
        have s51 : okM h49 := awM_30 s48 e50 (by omega) (by unfold nsp; omega)
        have f53 : zfr [] [30] h h46 := zfr_wa f4 e47 rfl
        have f52 : zfr [] [30] h h49 := zfr_wa f53 e50 rfl
        exact ih42  (x1 + 2) h49 (by omega) s51 f52 (zci_s u39 e47 e50 (by omega)) (by omega) (by omega)
  exact lp37 _ (p2 % 2) h (by omega) s0 (zfr_r _ _ _) zci_0 (by omega) (Nat.lt_succ_self _)

abbrev tX11_areInOrder : List (Nat × Instr × Nat) := [(0, .iconst 0, 1), (1, .istore_n 2, 1), (2, .iload_n 2, 1), (3, .iload_n 1, 1), (4, .if_icmp .ge 21, 3), (7, .aload_n 0, 1), (8, .getfield 102, 3), (11, .iload_n 2, 1), (12, .iaload, 1), (13, .iload_n 2, 1), (14, .if_icmp .eq 5, 3), (17, .iconst 0, 1), (18, .ireturn, 1), (19, .iinc 2 1, 3), (22, .goto (-20), 3), (25, .iconst 1, 1), (26, .ireturn, 1)]
theorem ttX11_areInOrder : zdt cX11_areInOrder tX11_areInOrder = true := by decide +kernel
abbrev q_X11_areInOrder (h : zM) (p1 : Int) : Option zV → zM → Prop := zqi fun v h' => h = h' ∧ (0 ≤ v ∧ v ≤ 1) ∧ (v = 1 ↔ ∀ j, 0 ≤ j → j < p1 → h.2 30 j = j)
set_option maxRecDepth 100000 in
set_option maxHeartbeats 4000000 in
theorem s_X11_areInOrder (l : Launch) (h : zM) (p1 : Int) (s0 : okM h) (b_p1 : 3 ≤ p1 ∧ p1 ≤ 8) : zT shM l yX11_areInOrder cX11_areInOrder 3 (some .boolean) (rmL 1) 0 0 [.inr 0, .inl p1] h (q_X11_areInOrder h p1) := by
  refine zT_of (by decide +kernel) (L0 := [some (.inr 0), some (.inl p1), none]) rfl (Nat.le_of_ble_eq_true rfl) ?_
  refine zj_iconst (zdk ttX11_areInOrder 0 rfl rfl) ?_
  refine zj_istore_n (L' := [some (.inr 0), some (.inl p1), some (.inl 0)]) (zdk ttX11_areInOrder 1 rfl rfl) (by decide) rfl ?_
  have lp17 : ∀ (n2 : Nat) (x1 : Int), (0 ≤ x1 ∧ x1 ≤ 8) → (∀ j, 0 ≤ j → j < x1 → h.2 30 j = j) → (9 - x1).toNat < n2 → zJ shM l yX11_areInOrder cX11_areInOrder 3 (some .boolean) (rmL 1) 0 0 (q_X11_areInOrder h p1) 0 0 2 [some (.inr 0), some (.inl p1), some (.inl x1)] [] h := by
    intro n2
    induction n2 with
    | zero => intro x1 b18 u19 m20; exact absurd m20 (Nat.not_lt_zero _)
    | succ n2 ih21 =>
      intro x1 b18 u19 m20
      refine zj_iload_n (zdk ttX11_areInOrder 2 rfl rfl) rfl ?_
      refine zj_iload_n (zdk ttX11_areInOrder 3 rfl rfl) rfl ?_
      refine zj_icmp_ge (t := 25) (zdk ttX11_areInOrder 4 rfl rfl) (by decide) (by omega) (by omega) (fun c22 => ?_) (fun c22 => ?_)
      · refine zj_iconst (zdk ttX11_areInOrder 15 rfl rfl) ?_
        exact zj_zret rfl (zdk ttX11_areInOrder 16 rfl rfl) (Nat.le_refl _) (Nat.le_refl _) (by omega) ⟨1, rfl, rfl, by omega, (by first | exact ⟨fun _ => fun j q1 q2 => u19 j q1 (by omega), fun _ => rfl⟩ | exact ⟨fun q => absurd q (by decide), fun q => absurd (q x1 (by omega) (by omega)) (by omega)⟩)⟩
      · refine zj_aload_n (zdk ttX11_areInOrder 5 rfl rfl) rfl (by decide) ?_
        refine zj_getr (r := 30) (zdk ttX11_areInOrder 6 rfl rfl) zf_RX11_102 rfl (k_M s0) (rfM_52 s0) ?_
        refine zj_iload_n (zdk ttX11_areInOrder 7 rfl rfl) rfl ?_
        have b23 : -2147483648 ≤ (h.2 30 x1) ∧ (h.2 30 x1) ≤ 2147483647 := abM_30 s0 x1
        refine zj_iald (v := (h.2 30 x1)) (zdk ttX11_areInOrder 8 rfl rfl) (kaM_30 s0) (by decide) (by omega) rfl ?_
        refine zj_iload_n (zdk ttX11_areInOrder 9 rfl rfl) rfl ?_
        refine zj_icmp_eq (t := 19) (zdk ttX11_areInOrder 10 rfl rfl) (by decide) (by omega) (by omega) (fun c24 => ?_) (fun c24 => ?_)
        · refine zj_iinc (L' := [some (.inr 0), some (.inl p1), some (.inl (x1 + 1))]) (zdk ttX11_areInOrder 13 rfl rfl) rfl (by decide) rfl ?_
          refine zj_goto (t := 2) (zdk ttX11_areInOrder 14 rfl rfl) (by decide) ?_
          exact ih21  (x1 + 1) (by omega) (fun j q1 q2 => (Classical.em (j = x1)).elim (fun q => by rw [q]; omega) (fun q => u19 j q1 (by omega))) (by omega)
        · refine zj_iconst (zdk ttX11_areInOrder 11 rfl rfl) ?_
          exact zj_zret rfl (zdk ttX11_areInOrder 12 rfl rfl) (Nat.le_refl _) (Nat.le_refl _) (by omega) ⟨0, rfl, rfl, by omega, (by first | exact ⟨fun _ => fun j q1 q2 => u19 j q1 (by omega), fun _ => rfl⟩ | exact ⟨fun q => absurd q (by decide), fun q => absurd (q x1 (by omega) (by omega)) (by omega)⟩)⟩
  exact lp17 _ 0 (by omega) (fun j q1 q2 => absurd q1 (by omega)) (Nat.lt_succ_self _)

abbrev tX11_againAt : List (Nat × Instr × Nat) := [(0, .iconst 0, 1), (1, .istore_n 2, 1), (2, .iload_n 2, 1), (3, .bipush 8, 2), (5, .if_icmp .ge 16, 3), (8, .aload_n 0, 1), (9, .getfield 102, 3), (12, .iload_n 2, 1), (13, .iload_n 2, 1), (14, .iastore, 1), (15, .iinc 2 1, 3), (18, .goto (-16), 3), (21, .iconst 0, 1), (22, .istore_n 2, 1), (23, .aload_n 0, 1), (24, .iload_n 1, 1), (25, .iload_n 2, 1), (26, .invokevirtual 434, 3), (29, .iload_n 2, 1), (30, .iconst 1, 1), (31, .iadd, 1), (32, .istore_n 2, 1), (33, .aload_n 0, 1), (34, .iload_n 1, 1), (35, .invokevirtual 437, 3), (38, .ifCond .eq (-15), 3), (41, .iload_n 2, 1), (42, .ireturn, 1)]
theorem ttX11_againAt : zdt cX11_againAt tX11_againAt = true := by decide +kernel
abbrev q_X11_againAt (h : zM) (p1 : Int) : Option zV → zM → Prop := zqi fun v h' => (1 ≤ v ∧ v ≤ 16) ∧ okM h' ∧ zfr [] [30] h h'
set_option maxRecDepth 100000 in
set_option maxHeartbeats 4000000 in
theorem s_X11_againAt (l : Launch) (h : zM) (p1 : Int) (s0 : okM h) (b_p1 : 3 ≤ p1 ∧ p1 ≤ 8) : zT shM l yX11_againAt cX11_againAt 3 (some .int) (rmL 2) 0 0 [.inr 0, .inl p1] h (q_X11_againAt h p1) := by
  refine zT_of (by decide +kernel) (L0 := [some (.inr 0), some (.inl p1), none]) rfl (Nat.le_of_ble_eq_true rfl) ?_
  refine zj_iconst (zdk ttX11_againAt 0 rfl rfl) ?_
  refine zj_istore_n (L' := [some (.inr 0), some (.inl p1), some (.inl 0)]) (zdk ttX11_againAt 1 rfl rfl) (by decide) rfl ?_
  have lp23 : ∀ (n2 : Nat) (x1 : Int) (h2 : zM), (0 ≤ x1 ∧ x1 ≤ 8) → okM h2 → zfr [] [30] h h2 → (∀ j, 0 ≤ j → j < x1 → h2.2 30 j = j) → (9 - x1).toNat < n2 → zJ shM l yX11_againAt cX11_againAt 3 (some .int) (rmL 2) 0 0 (q_X11_againAt h p1) 0 0 2 [some (.inr 0), some (.inl p1), some (.inl x1)] [] h2 := by
    intro n2
    induction n2 with
    | zero => intro x1 h2 b24 s3 f4 u25 m26; exact absurd m26 (Nat.not_lt_zero _)
    | succ n2 ih27 =>
      intro x1 h2 b24 s3 f4 u25 m26
      refine zj_iload_n (zdk ttX11_againAt 2 rfl rfl) rfl ?_
      refine zj_bipush (zdk ttX11_againAt 3 rfl rfl) (by decide) ?_
      refine zj_icmp_ge (t := 21) (zdk ttX11_againAt 4 rfl rfl) (by decide) (by omega) (by decide) (fun c28 => ?_) (fun c28 => ?_)
      · refine zj_iconst (zdk ttX11_againAt 12 rfl rfl) ?_
        refine zj_istore_n (L' := [some (.inr 0), some (.inl p1), some (.inl 0)]) (zdk ttX11_againAt 13 rfl rfl) (by decide) rfl ?_
        have lp47 : ∀ (n23 : Nat) (x29 : Int) (h30 : zM), (0 ≤ x29 ∧ x29 ≤ 15) → okM h30 → zfr [] [30] h h30 → (∀ j, 0 ≤ j → j < 8 → h30.2 30 j = zst p1 x29.toNat j) → (x29 < 2 * p1) → (17 - x29).toNat < n23 → zJ shM l yX11_againAt cX11_againAt 3 (some .int) (rmL 2) 0 0 (q_X11_againAt h p1) 0 0 23 [some (.inr 0), some (.inl p1), some (.inl x29)] [] h30 := by
          intro n23
          induction n23 with
          | zero => intro x29 h30 b48 s31 f32 u49 u50 m51; exact absurd m51 (Nat.not_lt_zero _)
          | succ n23 ih52 =>
            intro x29 h30 b48 s31 f32 u49 u50 m51
            refine zj_aload_n (zdk ttX11_againAt 14 rfl rfl) rfl (by decide) ?_
            refine zj_iload_n (zdk ttX11_againAt 15 rfl rfl) rfl ?_
            refine zj_iload_n (zdk ttX11_againAt 16 rfl rfl) rfl ?_
            refine zj_callV (av := [.inl p1, .inl x29]) (st := []) (zdk ttX11_againAt 17 rfl rfl) mb_X11_changes mv_RX11_434 (ci := 11) rfl rfl (k_M s31) rfl rfl (Nat.le_of_ble_eq_true rfl) (s_X11_changes l h30 p1 x29 s31 (by omega) (by omega)) (rm_ok (by decide) (by decide)) (zq_v fun h55 q53 => ?_)
            obtain ⟨s57, f59, u58⟩ := q53
            have z60 := zst_s (by omega) (by omega) u49 u58
            refine zj_iload_n (zdk ttX11_againAt 18 rfl rfl) rfl ?_
            refine zj_iconst (zdk ttX11_againAt 19 rfl rfl) ?_
            refine zj_iadd (zdk ttX11_againAt 20 rfl rfl) ?_
            refine zj_istore_n (L' := [some (.inr 0), some (.inl p1), some (.inl (x29 + 1))]) (zdk ttX11_againAt 21 rfl rfl) (by decide) rfl ?_
            refine zj_aload_n (zdk ttX11_againAt 22 rfl rfl) rfl (by decide) ?_
            refine zj_iload_n (zdk ttX11_againAt 23 rfl rfl) rfl ?_
            refine zj_callV (av := [.inl p1]) (st := []) (zdk ttX11_againAt 24 rfl rfl) mb_X11_areInOrder mv_RX11_437 (ci := 11) rfl rfl (k_M s57) rfl rfl (Nat.le_of_ble_eq_true rfl) (s_X11_areInOrder l h55 p1 s57 (by omega)) (rm_ok (by decide) (by decide)) (zq_i fun v62 h63 q61 => ?_)
            obtain ⟨rfl, b64, u65⟩ := q61
            refine zj_if_eq (t := 23) (zdk ttX11_againAt 25 rfl rfl) (by decide) (by omega) (fun c66 => ?_) (fun c66 => ?_)
            · have f67 : zfr [] [30] h h55 := zfr_t f32 f59 rfl rfl
              have z68 : ¬ (x29 + 1) = 2 * p1 := fun q => by
                have q9 := u65.mpr (fun j j1 j2 => (z60 j j1 (by omega)).trans (zst_o (by omega) q j (by omega)))
                omega
              exact ih52  (x29 + 1) h55 (by omega) s57 f67 z60 (by omega) (by omega)
            · refine zj_iload_n (zdk ttX11_againAt 26 rfl rfl) rfl ?_
              have f69 : zfr [] [30] h h55 := zfr_t f32 f59 rfl rfl
              exact zj_iret rfl (zdk ttX11_againAt 27 rfl rfl) (Nat.le_refl _) (Nat.le_refl _) ⟨(x29 + 1), rfl, by omega, s57, f69⟩
        exact lp47 _ 0 h2 (by omega) s3 f4 (fun j q1 q2 => u25 j q1 (by omega)) (by omega) (Nat.lt_succ_self _)
      · refine zj_aload_n (zdk ttX11_againAt 5 rfl rfl) rfl (by decide) ?_
        refine zj_getr (r := 30) (zdk ttX11_againAt 6 rfl rfl) zf_RX11_102 rfl (k_M s3) (rfM_52 s3) ?_
        refine zj_iload_n (zdk ttX11_againAt 7 rfl rfl) rfl ?_
        refine zj_iload_n (zdk ttX11_againAt 8 rfl rfl) rfl ?_
        refine zj_iast (zdk ttX11_againAt 9 rfl rfl) (kaM_30 s3) (by decide) (by omega) (fun h70 e71 => ?_)
        refine zj_iinc (L' := [some (.inr 0), some (.inl p1), some (.inl (x1 + 1))]) (zdk ttX11_againAt 10 rfl rfl) rfl (by decide) rfl ?_
        refine zj_goto (t := 2) (zdk ttX11_againAt 11 rfl rfl) (by decide) ?_
        have s72 : okM h70 := awM_30 s3 e71 (by omega) (by unfold nsp; omega)
        have f73 : zfr [] [30] h h70 := zfr_wa f4 e71 rfl
        exact ih27  (x1 + 1) h70 (by omega) s72 f73 (fun j q1 q2 => (Classical.em (j = x1)).elim (fun q => by rw [q, zwr_v e71]) (fun q => by rw [zwr_r e71 (by first | decide | exact (absurd ·.1 (by decide)) | exact (absurd ·.2 (by decide)) | omega)]; exact u25 j q1 (by omega))) (by omega)
  exact lp23 _ 0 h (by omega) s0 (zfr_r _ _ _) (fun j q1 q2 => absurd q1 (by omega)) (Nat.lt_succ_self _)

abbrev tX11_bells : List (Nat × Instr × Nat) := [(0, .aload_n 0, 1), (1, .iconst 0, 1), (2, .putfield 120, 3), (5, .aload_n 0, 1), (6, .iload_n 1, 1), (7, .iconst 3, 1), (8, .bipush 8, 2), (10, .invokevirtual 139, 3), (13, .ifCond .ne 5, 3), (16, .iconst (-1), 1), (17, .ireturn, 1), (18, .aload_n 0, 1), (19, .iload_n 1, 1), (20, .invokevirtual 440, 3), (23, .istore 4, 2), (25, .iload_n 3, 1), (26, .iconst (-1), 1), (27, .if_icmp .ne 6, 3), (30, .iload 4, 2), (32, .ireturn, 1), (33, .aload_n 0, 1), (34, .iload_n 2, 1), (35, .iconst 0, 1), (36, .ldc_w 443, 3), (39, .invokevirtual 139, 3), (42, .ifCond .eq 15, 3), (45, .aload_n 0, 1), (46, .iload_n 3, 1), (47, .iconst 0, 1), (48, .iload_n 1, 1), (49, .iconst 1, 1), (50, .isub, 1), (51, .invokevirtual 139, 3), (54, .ifCond .ne 5, 3), (57, .iconst (-1), 1), (58, .ireturn, 1), (59, .iconst 0, 1), (60, .istore 5, 2), (62, .iload 5, 2), (64, .iload_n 2, 1), (65, .iconst 2, 1), (66, .iload 4, 2), (68, .imul, 1), (69, .irem, 1), (70, .if_icmp .ge 16, 3), (73, .aload_n 0, 1), (74, .iload_n 1, 1), (75, .iload 5, 2), (77, .invokevirtual 434, 3), (80, .iinc 5 1, 3), (83, .goto (-21), 3), (86, .aload_n 0, 1), (87, .getfield 102, 3), (90, .iload_n 3, 1), (91, .iaload, 1), (92, .ireturn, 1)]
theorem ttX11_bells : zdt cX11_bells tX11_bells = true := by decide +kernel
abbrev q_X11_bells (h : zM) (p1 : Int) (p2 : Int) (p3 : Int) : Option zV → zM → Prop := zqi fun v h' => ((-2147483648) ≤ v ∧ v ≤ 2147483647) ∧ okM h' ∧ zfr [0] [30] h h'
set_option maxRecDepth 100000 in
set_option maxHeartbeats 4000000 in
theorem s_X11_bells (l : Launch) (h : zM) (p1 : Int) (p2 : Int) (p3 : Int) (s0 : okM h) (b_p1 : (-2147483648) ≤ p1 ∧ p1 ≤ 2147483647) (b_p2 : (-2147483648) ≤ p2 ∧ p2 ≤ 2147483647) (b_p3 : (-2147483648) ≤ p3 ∧ p3 ≤ 2147483647) : zT shM l yX11_bells cX11_bells 6 (some .int) (rmL 3) 0 0 [.inr 0, .inl p1, .inl p2, .inl p3] h (q_X11_bells h p1 p2 p3) := by
  refine zT_of (by decide +kernel) (L0 := [some (.inr 0), some (.inl p1), some (.inl p2), some (.inl p3), none, none]) rfl (Nat.le_of_ble_eq_true rfl) ?_
  refine zj_aload_n (zdk ttX11_bells 0 rfl rfl) rfl (by decide) ?_
  refine zj_iconst (zdk ttX11_bells 1 rfl rfl) ?_
  refine zj_puti (zdk ttX11_bells 2 rfl rfl) zf_RX11_120 rfl (k_M s0) (Or.inl zw_RX11_120) (k2 := 0) rfl (fun h1 e2 => ?_)
  refine zj_aload_n (zdk ttX11_bells 3 rfl rfl) rfl (by decide) ?_
  refine zj_iload_n (zdk ttX11_bells 4 rfl rfl) rfl ?_
  refine zj_iconst (zdk ttX11_bells 5 rfl rfl) ?_
  refine zj_bipush (zdk ttX11_bells 6 rfl rfl) (by decide) ?_
  have s3 : okM h1 := fwM_0 s0 e2 (by omega)
  refine zj_callV (av := [.inl p1, .inl 3, .inl 8]) (st := []) (zdk ttX11_bells 7 rfl rfl) mb_X11_isIn mv_RX11_139 (ci := 11) rfl rfl (k_M s3) rfl rfl (Nat.le_of_ble_eq_true rfl) (s_X11_isIn l h1 p1 3 8 s3 (by omega) (by omega) (by omega)) (rm_ok (by decide) (by decide)) (zq_i fun v5 h6 q4 => ?_)
  obtain ⟨rfl, ⟨rfl, b7⟩ | ⟨rfl, b7⟩⟩ := q4
  · refine zj_if_ne (t := 18) (zdk ttX11_bells 8 rfl rfl) (by decide) (by decide) (fun c8 => ?_) (fun c8 => ?_)
    · exact absurd c8 (by omega)
    · refine zj_iconst (zdk ttX11_bells 9 rfl rfl) ?_
      have f9 : zfr [0] [30] h h1 := zfr_wf (zfr_r _ _ _) e2 rfl
      exact zj_iret rfl (zdk ttX11_bells 10 rfl rfl) (Nat.le_refl _) (Nat.le_refl _) ⟨(-1), rfl, by omega, s3, f9⟩
  · refine zj_if_ne (t := 18) (zdk ttX11_bells 8 rfl rfl) (by decide) (by decide) (fun c10 => ?_) (fun c10 => ?_)
    · refine zj_aload_n (zdk ttX11_bells 11 rfl rfl) rfl (by decide) ?_
      refine zj_iload_n (zdk ttX11_bells 12 rfl rfl) rfl ?_
      refine zj_callV (av := [.inl p1]) (st := []) (zdk ttX11_bells 13 rfl rfl) mb_X11_againAt mv_RX11_440 (ci := 11) rfl rfl (k_M s3) rfl rfl (Nat.le_of_ble_eq_true rfl) (s_X11_againAt l h1 p1 s3 (by omega)) (rm_ok (by decide) (by decide)) (zq_i fun v12 h13 q11 => ?_)
      obtain ⟨b14, s15, f16⟩ := q11
      refine zj_istore (L' := [some (.inr 0), some (.inl p1), some (.inl p2), some (.inl p3), some (.inl v12), none]) (zdk ttX11_bells 14 rfl rfl) (by decide) rfl ?_
      refine zj_iload_n (zdk ttX11_bells 15 rfl rfl) rfl ?_
      refine zj_iconst (zdk ttX11_bells 16 rfl rfl) ?_
      refine zj_icmp_ne (t := 33) (zdk ttX11_bells 17 rfl rfl) (by decide) (by omega) (by decide) (fun c17 => ?_) (fun c17 => ?_)
      · refine zj_aload_n (zdk ttX11_bells 20 rfl rfl) rfl (by decide) ?_
        refine zj_iload_n (zdk ttX11_bells 21 rfl rfl) rfl ?_
        refine zj_iconst (zdk ttX11_bells 22 rfl rfl) ?_
        refine zj_ldc_w (z := 1000000) (zdk ttX11_bells 23 rfl rfl) wc_RX11_443 ?_
        refine zj_callV (av := [.inl p2, .inl 0, .inl 1000000]) (st := []) (zdk ttX11_bells 24 rfl rfl) mb_X11_isIn mv_RX11_139 (ci := 11) rfl rfl (k_M s15) rfl rfl (Nat.le_of_ble_eq_true rfl) (s_X11_isIn l h13 p2 0 1000000 s15 (by omega) (by omega) (by omega)) (rm_ok (by decide) (by decide)) (zq_i fun v19 h20 q18 => ?_)
        obtain ⟨rfl, ⟨rfl, b21⟩ | ⟨rfl, b21⟩⟩ := q18
        · refine zj_if_eq (t := 57) (zdk ttX11_bells 25 rfl rfl) (by decide) (by decide) (fun c22 => ?_) (fun c22 => ?_)
          · refine zj_iconst (zdk ttX11_bells 34 rfl rfl) ?_
            have f24 : zfr [0] [30] h h1 := zfr_wf (zfr_r _ _ _) e2 rfl
            have f23 : zfr [0] [30] h h13 := zfr_t f24 f16 rfl rfl
            exact zj_iret rfl (zdk ttX11_bells 35 rfl rfl) (Nat.le_refl _) (Nat.le_refl _) ⟨(-1), rfl, by omega, s15, f23⟩
          · exact absurd c22 (by omega)
        · refine zj_if_eq (t := 57) (zdk ttX11_bells 25 rfl rfl) (by decide) (by decide) (fun c25 => ?_) (fun c25 => ?_)
          · exact absurd c25 (by omega)
          · refine zj_aload_n (zdk ttX11_bells 26 rfl rfl) rfl (by decide) ?_
            refine zj_iload_n (zdk ttX11_bells 27 rfl rfl) rfl ?_
            refine zj_iconst (zdk ttX11_bells 28 rfl rfl) ?_
            refine zj_iload_n (zdk ttX11_bells 29 rfl rfl) rfl ?_
            refine zj_iconst (zdk ttX11_bells 30 rfl rfl) ?_
            refine zj_isub (zdk ttX11_bells 31 rfl rfl) ?_
            refine zj_callV (av := [.inl p3, .inl 0, .inl (p1 - 1)]) (st := []) (zdk ttX11_bells 32 rfl rfl) mb_X11_isIn mv_RX11_139 (ci := 11) rfl rfl (k_M s15) rfl rfl (Nat.le_of_ble_eq_true rfl) (s_X11_isIn l h13 p3 0 (p1 - 1) s15 (by omega) (by omega) (by omega)) (rm_ok (by decide) (by decide)) (zq_i fun v27 h28 q26 => ?_)
            obtain ⟨rfl, ⟨rfl, b29⟩ | ⟨rfl, b29⟩⟩ := q26
            · refine zj_if_ne (t := 59) (zdk ttX11_bells 33 rfl rfl) (by decide) (by decide) (fun c30 => ?_) (fun c30 => ?_)
              · exact absurd c30 (by omega)
              · refine zj_iconst (zdk ttX11_bells 34 rfl rfl) ?_
                have f32 : zfr [0] [30] h h1 := zfr_wf (zfr_r _ _ _) e2 rfl
                have f31 : zfr [0] [30] h h13 := zfr_t f32 f16 rfl rfl
                exact zj_iret rfl (zdk ttX11_bells 35 rfl rfl) (Nat.le_refl _) (Nat.le_refl _) ⟨(-1), rfl, by omega, s15, f31⟩
            · refine zj_if_ne (t := 59) (zdk ttX11_bells 33 rfl rfl) (by decide) (by decide) (fun c33 => ?_) (fun c33 => ?_)
              · refine zj_iconst (zdk ttX11_bells 36 rfl rfl) ?_
                refine zj_istore (L' := [some (.inr 0), some (.inl p1), some (.inl p2), some (.inl p3), some (.inl v12), some (.inl 0)]) (zdk ttX11_bells 37 rfl rfl) (by decide) rfl ?_
                have lp47 : ∀ (n62 : Nat) (x34 : Int) (h35 : zM), (0 ≤ x34 ∧ x34 ≤ 32) → okM h35 → zfr [0] [30] h h35 → (33 - x34).toNat < n62 → zJ shM l yX11_bells cX11_bells 6 (some .int) (rmL 3) 0 0 (q_X11_bells h p1 p2 p3) 0 0 62 [some (.inr 0), some (.inl p1), some (.inl p2), some (.inl p3), some (.inl v12), some (.inl x34)] [] h35 := by
                  intro n62
                  induction n62 with
                  | zero => intro x34 h35 b48 s36 f37 m49; exact absurd m49 (Nat.not_lt_zero _)
                  | succ n62 ih50 =>
                    intro x34 h35 b48 s36 f37 m49
                    refine zj_iload (zdk ttX11_bells 38 rfl rfl) rfl ?_
                    refine zj_iload_n (zdk ttX11_bells 39 rfl rfl) rfl ?_
                    refine zj_iconst (zdk ttX11_bells 40 rfl rfl) ?_
                    refine zj_iload (zdk ttX11_bells 41 rfl rfl) rfl ?_
                    refine zj_imul (zdk ttX11_bells 42 rfl rfl) ?_
                    refine zj_iremP (zdk ttX11_bells 43 rfl rfl) (by omega) (by omega) ?_
                    have b51 := zmod_b (x := p2) (b := (2 * v12)) (by omega) (by omega)
                    refine zj_icmp_ge (t := 86) (zdk ttX11_bells 44 rfl rfl) (by decide) (by omega) (by omega) (fun c52 => ?_) (fun c52 => ?_)
                    · refine zj_aload_n (zdk ttX11_bells 51 rfl rfl) rfl (by decide) ?_
                      refine zj_getr (r := 30) (zdk ttX11_bells 52 rfl rfl) zf_RX11_102 rfl (k_M s36) (rfM_52 s36) ?_
                      refine zj_iload_n (zdk ttX11_bells 53 rfl rfl) rfl ?_
                      have b53 : -2147483648 ≤ (h35.2 30 p3) ∧ (h35.2 30 p3) ≤ 2147483647 := abM_30 s36 p3
                      refine zj_iald (v := (h35.2 30 p3)) (zdk ttX11_bells 54 rfl rfl) (kaM_30 s36) (by decide) (by omega) rfl ?_
                      exact zj_iret rfl (zdk ttX11_bells 55 rfl rfl) (Nat.le_refl _) (Nat.le_refl _) ⟨(h35.2 30 p3), rfl, by omega, s36, f37⟩
                    · refine zj_aload_n (zdk ttX11_bells 45 rfl rfl) rfl (by decide) ?_
                      refine zj_iload_n (zdk ttX11_bells 46 rfl rfl) rfl ?_
                      refine zj_iload (zdk ttX11_bells 47 rfl rfl) rfl ?_
                      refine zj_callV (av := [.inl p1, .inl x34]) (st := []) (zdk ttX11_bells 48 rfl rfl) mb_X11_changes mv_RX11_434 (ci := 11) rfl rfl (k_M s36) rfl rfl (Nat.le_of_ble_eq_true rfl) (s_X11_changes l h35 p1 x34 s36 (by omega) (by omega)) (rm_ok (by decide) (by decide)) (zq_v fun h56 q54 => ?_)
                      obtain ⟨s58, f60, u59⟩ := q54
                      refine zj_iinc (L' := [some (.inr 0), some (.inl p1), some (.inl p2), some (.inl p3), some (.inl v12), some (.inl (x34 + 1))]) (zdk ttX11_bells 49 rfl rfl) rfl (by decide) rfl ?_
                      refine zj_goto (t := 62) (zdk ttX11_bells 50 rfl rfl) (by decide) ?_
                      have f61 : zfr [0] [30] h h56 := zfr_t f37 f60 rfl rfl
                      exact ih50  (x34 + 1) h56 (by omega) s58 f61 (by omega)
                have f63 : zfr [0] [30] h h1 := zfr_wf (zfr_r _ _ _) e2 rfl
                have f62 : zfr [0] [30] h h13 := zfr_t f63 f16 rfl rfl
                exact lp47 _ 0 h13 (by omega) s15 f62 (Nat.lt_succ_self _)
              · exact absurd c33 (by omega)
      · refine zj_iload (zdk ttX11_bells 18 rfl rfl) rfl ?_
        have f65 : zfr [0] [30] h h1 := zfr_wf (zfr_r _ _ _) e2 rfl
        have f64 : zfr [0] [30] h h13 := zfr_t f65 f16 rfl rfl
        exact zj_iret rfl (zdk ttX11_bells 19 rfl rfl) (Nat.le_refl _) (Nat.le_refl _) ⟨v12, rfl, by omega, s15, f64⟩
    · exact absurd c10 (by omega)
