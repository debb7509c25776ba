theorem zwr_vk {h h' : zM} {c k v l : Int} (e : h' = zwr h c k v) (hk : k = l) : h'.2 c l = v := by subst hk; rw [e, zwr_s]
theorem okM_law {h h' : zM} {n : Int} (s : okM h) (B : okB h') (f : zfr [] [9, 10, 11, 12, 13, 14, 15] h h') (hn : h'.2 9 0 = n) (hl : ∀ l, 0 ≤ l → l < n → h'.2 11 l = h.2 11 (32 + l) ∧ h'.2 12 l = h.2 12 (32 + l) ∧ h'.2 13 l = h.2 13 (32 + l)) (hc : ∀ i, 0 ≤ i → i < h.2 0 25 → h'.2 14 i = h.2 14 (800 + i) ∧ h'.2 15 i = h.2 15 (800 + i)) (q : zLn h n) : okM h' := by
  obtain ⟨s1, s2, s3, s4, s5, s6⟩ := s
  have p25 : 0 ≤ h.2 0 25 ∧ h.2 0 25 ≤ 400 := s2 0 25
  refine ⟨B.1, B.2, fun a j q1 => ?_, ⟨fun k q1 q2 => ?_, fun j q1 q2 => ?_, fun l l1 l2 => ?_⟩, fun z => ?_, ?_⟩
  · have : h'.2 a j = h.2 a j := by
      rcases (show a = 1 ∨ a = 2 ∨ a = 3 by omega) with rfl | rfl | rfl <;> exact zfr_a f rfl (by decide)
    rw [this]; exact s3 a j q1
  · rw [zfr_f f rfl rfl] at q2
    rw [zfr_a f rfl (by decide)]; exact s4.1 k q1 q2
  · rw [zfr_a f rfl (by decide), zfr_a f rfl (by decide)]; exact s4.2.1 j q1 q2
  · rw [hn] at l2
    obtain ⟨r1, r2, r3⟩ := q l l1 l2
    obtain ⟨o1, o2, o3⟩ := hl l l1 l2
    have e1 := wfS_le r1
    have e2 := wfS_le r2
    rw [o1, o2, o3]
    exact ⟨wfS_ext (fun k k1 k2 => hc k (by omega) (by omega)) r1, wfS_ext (fun k k1 k2 => hc k (by omega) (by omega)) r2, by omega⟩
  · rw [zfr_f f rfl rfl] at z
    obtain ⟨h0, r1, r2, r3⟩ := s5 z
    exact ⟨h0, fun j j1 j2 => by rw [zfr_a f rfl (by decide)]; exact r1 j j1 j2, r2, r3⟩
  · show h'.2 8 149 = 32
    rw [zfr_a f rfl (by decide)]; exact s6
theorem okM_deeds {h h' : zM} {n : Int} (s : okM h) (B : okB h') (f : zfr [3, 33, 35, 37] [17, 18, 19] h h') (d1 : ∀ j, 0 ≤ j → j < 3 * n → h'.2 18 j = h.2 18 (48 + j)) (d2 : ∀ j, 0 ≤ j → 3 * n ≤ j → h'.2 18 j = h.2 18 j) (hv : ∀ j, 0 ≤ j → j < n → wfD1 (h.2 18 (48 + 3 * j + 1)) (h.2 18 (48 + 3 * j + 2))) : okM h' := by
  obtain ⟨s1, s2, s3, s4, s5, s6⟩ := s
  refine ⟨B.1, B.2, fun a j q1 => ?_, ⟨fun k q1 q2 => ?_, fun j q1 q2 => ?_, ?_⟩, fun z => ?_, ?_⟩
  · have : h'.2 a j = h.2 a j := by
      rcases (show a = 1 ∨ a = 2 ∨ a = 3 by omega) with rfl | rfl | rfl <;> exact zfr_a f rfl (by decide)
    rw [this]; exact s3 a j q1
  · rw [zfr_f f rfl rfl] at q2
    rw [zfr_a f rfl (by decide)]; exact s4.1 k q1 q2
  · by_cases e : j < n
    · rw [d1 _ (by omega) (by omega), d1 _ (by omega) (by omega), show 48 + (3 * j + 1) = 48 + 3 * j + 1 by omega, show 48 + (3 * j + 2) = 48 + 3 * j + 2 by omega]
      exact hv j q1 e
    · rw [d2 _ (by omega) (by omega), d2 _ (by omega) (by omega)]; exact s4.2.1 j q1 q2
  · exact wfL_ext (zfr_a f rfl (by decide)) (s2 9 0).2 (fun l _ _ => ⟨zfr_a f rfl (by decide), zfr_a f rfl (by decide), zfr_a f rfl (by decide)⟩) (fun l _ _ => ⟨zfr_a f rfl (by decide), zfr_a f rfl (by decide)⟩) s4.2.2
  · rw [zfr_f f rfl rfl] at z
    obtain ⟨h0, r1, r2, r3⟩ := s5 z
    exact ⟨h0, fun j j1 j2 => by rw [zfr_a f rfl (by decide)]; exact r1 j j1 j2, r2, r3⟩
  · show h'.2 8 149 = 32
    rw [zfr_a f rfl (by decide)]; exact s6
theorem zLn_f {h h' : zM} {k v n : Int} (q : zLn h n) (e : h' = zwr h 0 k v) (hk : ¬ k = 25) : zLn h' n := by
  have en : ∀ a b, ¬ a = 0 → h'.2 a b = h.2 a b := fun a b z => by rw [e, zwr_n (fun w => z w.1)]
  have d1 : dop h' = dop h := funext fun _ => en 14 _ (by decide)
  have d2 : dar h' = dar h := funext fun _ => en 15 _ (by decide)
  have e25 : h'.2 0 25 = h.2 0 25 := by rw [e, zwr_n (fun w => hk w.2.symm)]
  intro l l1 l2
  rw [d1, d2, e25, en 11 _ (by decide), en 12 _ (by decide), en 13 _ (by decide)]
  exact q l l1 l2
abbrev tX11_takesLaw : List (Nat × Instr × Nat) := [(0, .iconst 0, 1), (1, .istore_n 2, 1), (2, .iload_n 2, 1), (3, .iload_n 1, 1), (4, .if_icmp .ge 101, 3), (7, .aload_n 0, 1), (8, .getfield 37, 3), (11, .bipush 16, 2), (13, .aload_n 0, 1), (14, .getfield 245, 3), (17, .imul, 1), (18, .iload_n 2, 1), (19, .iadd, 1), (20, .aload_n 0, 1), (21, .getfield 37, 3), (24, .bipush 32, 2), (26, .iload_n 2, 1), (27, .iadd, 1), (28, .iaload, 1), (29, .iastore, 1), (30, .aload_n 0, 1), (31, .getfield 40, 3), (34, .bipush 16, 2), (36, .aload_n 0, 1), (37, .getfield 245, 3), (40, .imul, 1), (41, .iload_n 2, 1), (42, .iadd, 1), (43, .aload_n 0, 1), (44, .getfield 40, 3), (47, .bipush 32, 2), (49, .iload_n 2, 1), (50, .iadd, 1), (51, .iaload, 1), (52, .iastore, 1), (53, .aload_n 0, 1), (54, .getfield 43, 3), (57, .bipush 16, 2), (59, .aload_n 0, 1), (60, .getfield 245, 3), (63, .imul, 1), (64, .iload_n 2, 1), (65, .iadd, 1), (66, .aload_n 0, 1), (67, .getfield 43, 3), (70, .bipush 32, 2), (72, .iload_n 2, 1), (73, .iadd, 1), (74, .iaload, 1), (75, .iastore, 1), (76, .aload_n 0, 1), (77, .getfield 46, 3), (80, .bipush 16, 2), (82, .aload_n 0, 1), (83, .getfield 245, 3), (86, .imul, 1), (87, .iload_n 2, 1), (88, .iadd, 1), (89, .aload_n 0, 1), (90, .getfield 46, 3), (93, .bipush 32, 2), (95, .iload_n 2, 1), (96, .iadd, 1), (97, .iaload, 1), (98, .iastore, 1), (99, .iinc 2 1, 3), (102, .goto (-100), 3), (105, .iconst 0, 1), (106, .istore_n 2, 1), (107, .iload_n 2, 1), (108, .aload_n 0, 1), (109, .getfield 191, 3), (112, .if_icmp .ge 59, 3), (115, .aload_n 0, 1), (116, .getfield 49, 3), (119, .sipush 400, 3), (122, .aload_n 0, 1), (123, .getfield 245, 3), (126, .imul, 1), (127, .iload_n 2, 1), (128, .iadd, 1), (129, .aload_n 0, 1), (130, .getfield 49, 3), (133, .sipush 800, 3), (136, .iload_n 2, 1), (137, .iadd, 1), (138, .iaload, 1), (139, .iastore, 1), (140, .aload_n 0, 1), (141, .getfield 52, 3), (144, .sipush 400, 3), (147, .aload_n 0, 1), (148, .getfield 245, 3), (151, .imul, 1), (152, .iload_n 2, 1), (153, .iadd, 1), (154, .aload_n 0, 1), (155, .getfield 52, 3), (158, .sipush 800, 3), (161, .iload_n 2, 1), (162, .iadd, 1), (163, .iaload, 1), (164, .iastore, 1), (165, .iinc 2 1, 3), (168, .goto (-61), 3), (171, .aload_n 0, 1), (172, .getfield 34, 3), (175, .aload_n 0, 1), (176, .getfield 245, 3), (179, .iload_n 1, 1), (180, .iastore, 1), (181, .return_, 1)]
theorem ttX11_takesLaw : zdt cX11_takesLaw tX11_takesLaw = true := by decide +kernel
abbrev q_X11_takesLaw (h : zM) (p1 : Int) : Option zV → zM → Prop := zqv fun h' => okM h' ∧ zfr [] [9, 10, 11, 12, 13, 14, 15] h h'
set_option maxRecDepth 100000 in
set_option maxHeartbeats 4000000 in
theorem s_X11_takesLaw (l : Launch) (h : zM) (p1 : Int) (s0 : okM h) (b_p1 : 0 ≤ p1 ∧ p1 ≤ 16) (u_0 : zLn h p1) : zT shM l yX11_takesLaw cX11_takesLaw 3 none (rmL 1) 0 0 [.inr 0, .inl p1] h (q_X11_takesLaw h p1) := by
  refine zT_of (by decide +kernel) (L0 := [some (.inr 0), some (.inl p1), none]) rfl (Nat.le_of_ble_eq_true rfl) ?_
  have sB := s0.B
  refine zj_iconst (zdk ttX11_takesLaw 0 rfl rfl) ?_
  refine zj_istore_n (L' := [some (.inr 0), some (.inl p1), some (.inl 0)]) (zdk ttX11_takesLaw 1 rfl rfl) (by decide) rfl ?_
  have lp90 : ∀ (n2 : Nat) (x1 : Int) (h2 : zM), (0 ≤ x1 ∧ x1 ≤ 16) → okB h2 → zfr [] [9, 10, 11, 12, 13, 14, 15] h h2 → (∀ l, 0 ≤ l → l < x1 → h2.2 11 l = h.2 11 (32 + l) ∧ h2.2 12 l = h.2 12 (32 + l) ∧ h2.2 13 l = h.2 13 (32 + l)) → (∀ j, 32 ≤ j → h2.2 11 j = h.2 11 j ∧ h2.2 12 j = h.2 12 j ∧ h2.2 13 j = h.2 13 j) → (∀ j, h2.2 14 j = h.2 14 j ∧ h2.2 15 j = h.2 15 j) → (17 - x1).toNat < n2 → zJ shM l yX11_takesLaw cX11_takesLaw 3 none (rmL 1) 0 0 (q_X11_takesLaw h p1) 0 0 2 [some (.inr 0), some (.inl p1), some (.inl x1)] [] h2 := by
    intro n2
    induction n2 with
    | zero => intro x1 h2 b91 s3 f4 u92 u93 u94 m95; exact absurd m95 (Nat.not_lt_zero _)
    | succ n2 ih96 =>
      intro x1 h2 b91 s3 f4 u92 u93 u94 m95
      refine zj_iload_n (zdk ttX11_takesLaw 2 rfl rfl) rfl ?_
      refine zj_iload_n (zdk ttX11_takesLaw 3 rfl rfl) rfl ?_
      refine zj_icmp_ge (t := 105) (zdk ttX11_takesLaw 4 rfl rfl) (by decide) (by omega) (by omega) (fun c97 => ?_) (fun c97 => ?_)
      · refine zj_iconst (zdk ttX11_takesLaw 67 rfl rfl) ?_
        refine zj_istore_n (L' := [some (.inr 0), some (.inl p1), some (.inl 0)]) (zdk ttX11_takesLaw 68 rfl rfl) (by decide) rfl ?_
        have lp212 : ∀ (n107 : Nat) (x98 : Int) (h99 : zM), (0 ≤ x98 ∧ x98 ≤ 400) → okB h99 → zfr [] [9, 10, 11, 12, 13, 14, 15] h h99 → (∀ l, 0 ≤ l → l < p1 → h99.2 11 l = h.2 11 (32 + l) ∧ h99.2 12 l = h.2 12 (32 + l) ∧ h99.2 13 l = h.2 13 (32 + l)) → (∀ i, 0 ≤ i → i < x98 → h99.2 14 i = h.2 14 (800 + i) ∧ h99.2 15 i = h.2 15 (800 + i)) → (∀ j, 800 ≤ j → h99.2 14 j = h.2 14 j ∧ h99.2 15 j = h.2 15 j) → (401 - x98).toNat < n107 → zJ shM l yX11_takesLaw cX11_takesLaw 3 none (rmL 1) 0 0 (q_X11_takesLaw h p1) 0 0 107 [some (.inr 0), some (.inl p1), some (.inl x98)] [] h99 := by
          intro n107
          induction n107 with
          | zero => intro x98 h99 b213 s100 f101 u214 u215 u216 m217; exact absurd m217 (Nat.not_lt_zero _)
          | succ n107 ih218 =>
            intro x98 h99 b213 s100 f101 u214 u215 u216 m217
            refine zj_iload_n (zdk ttX11_takesLaw 69 rfl rfl) rfl ?_
            refine zj_aload_n (zdk ttX11_takesLaw 70 rfl rfl) rfl (by decide) ?_
            have b219 : 0 ≤ (h.2 0 25) ∧ (h.2 0 25) ≤ 400 := fB_25 sB
            refine zj_geti (v := (h.2 0 25)) (zdk ttX11_takesLaw 71 rfl rfl) zf_RX11_191 rfl (k_B s100) (zfr_f f101 rfl rfl) ?_
            refine zj_icmp_ge (t := 171) (zdk ttX11_takesLaw 72 rfl rfl) (by decide) (by omega) (by omega) (fun c220 => ?_) (fun c220 => ?_)
            · refine zj_aload_n (zdk ttX11_takesLaw 105 rfl rfl) rfl (by decide) ?_
              refine zj_getr (r := 9) (zdk ttX11_takesLaw 106 rfl rfl) zf_RX11_34 rfl (k_B s100) (rfB_17 s100) ?_
              refine zj_aload_n (zdk ttX11_takesLaw 107 rfl rfl) rfl (by decide) ?_
              have b221 : 0 ≤ (h.2 0 24) ∧ (h.2 0 24) ≤ 0 := fB_24 sB
              refine zj_geti (v := (h.2 0 24)) (zdk ttX11_takesLaw 108 rfl rfl) zf_RX11_245 rfl (k_B s100) (zfr_f f101 rfl rfl) ?_
              refine zj_iload_n (zdk ttX11_takesLaw 109 rfl rfl) rfl ?_
              refine zj_iast (zdk ttX11_takesLaw 110 rfl rfl) (kaB_9 s100) (by decide) (by omega) (fun h222 e223 => ?_)
              have s224 : okB h222 := awB_9 s100 e223 (by omega)
              have f225 : zfr [] [9, 10, 11, 12, 13, 14, 15] h h222 := zfr_wa f101 e223 rfl
              exact zj_vret rfl (zdk ttX11_takesLaw 111 rfl rfl) (Nat.le_refl _) (Nat.le_refl _) ⟨rfl, (okM_law s0 s224 f225 (zwr_vk e223 (by omega)) (fun l q1 q2 => ⟨(zwr_r e223 (by first | decide | exact (absurd ·.1 (by decide)) | exact (absurd ·.2 (by decide)) | omega)).trans (u214 l q1 q2).1, (zwr_r e223 (by first | decide | exact (absurd ·.1 (by decide)) | exact (absurd ·.2 (by decide)) | omega)).trans (u214 l q1 q2).2.1, (zwr_r e223 (by first | decide | exact (absurd ·.1 (by decide)) | exact (absurd ·.2 (by decide)) | omega)).trans (u214 l q1 q2).2.2⟩) (fun l q1 q2 => ⟨(zwr_r e223 (by first | decide | exact (absurd ·.1 (by decide)) | exact (absurd ·.2 (by decide)) | omega)).trans (u215 l q1 (by omega)).1, (zwr_r e223 (by first | decide | exact (absurd ·.1 (by decide)) | exact (absurd ·.2 (by decide)) | omega)).trans (u215 l q1 (by omega)).2⟩) u_0), f225⟩
            · refine zj_aload_n (zdk ttX11_takesLaw 73 rfl rfl) rfl (by decide) ?_
              refine zj_getr (r := 14) (zdk ttX11_takesLaw 74 rfl rfl) zf_RX11_49 rfl (k_B s100) (rfB_22 s100) ?_
              refine zj_sipush (zdk ttX11_takesLaw 75 rfl rfl) (by decide) ?_
              refine zj_aload_n (zdk ttX11_takesLaw 76 rfl rfl) rfl (by decide) ?_
              have b226 : 0 ≤ (h.2 0 24) ∧ (h.2 0 24) ≤ 0 := fB_24 sB
              refine zj_geti (v := (h.2 0 24)) (zdk ttX11_takesLaw 77 rfl rfl) zf_RX11_245 rfl (k_B s100) (zfr_f f101 rfl rfl) ?_
              refine zj_imul (zdk ttX11_takesLaw 78 rfl rfl) ?_
              refine zj_iload_n (zdk ttX11_takesLaw 79 rfl rfl) rfl ?_
              refine zj_iadd (zdk ttX11_takesLaw 80 rfl rfl) ?_
              refine zj_aload_n (zdk ttX11_takesLaw 81 rfl rfl) rfl (by decide) ?_
              refine zj_getr (r := 14) (zdk ttX11_takesLaw 82 rfl rfl) zf_RX11_49 rfl (k_B s100) (rfB_22 s100) ?_
              refine zj_sipush (zdk ttX11_takesLaw 83 rfl rfl) (by decide) ?_
              refine zj_iload_n (zdk ttX11_takesLaw 84 rfl rfl) rfl ?_
              refine zj_iadd (zdk ttX11_takesLaw 85 rfl rfl) ?_
              have b227 : -2147483648 ≤ (h99.2 14 (800 + x98)) ∧ (h99.2 14 (800 + x98)) ≤ 2147483647 := abB_14 s100 (800 + x98)
              refine zj_iald (v := (h99.2 14 (800 + x98))) (zdk ttX11_takesLaw 86 rfl rfl) (kaB_14 s100) (by decide) (by omega) rfl ?_
              refine zj_iast (zdk ttX11_takesLaw 87 rfl rfl) (kaB_14 s100) (by decide) (by omega) (fun h228 e229 => ?_)
              refine zj_aload_n (zdk ttX11_takesLaw 88 rfl rfl) rfl (by decide) ?_
              have s230 : okB h228 := awB_14 s100 e229 (by omega)
              refine zj_getr (r := 15) (zdk ttX11_takesLaw 89 rfl rfl) zf_RX11_52 rfl (k_B s230) (rfB_23 s230) ?_
              refine zj_sipush (zdk ttX11_takesLaw 90 rfl rfl) (by decide) ?_
              refine zj_aload_n (zdk ttX11_takesLaw 91 rfl rfl) rfl (by decide) ?_
              refine zj_geti (v := (h.2 0 24)) (zdk ttX11_takesLaw 92 rfl rfl) zf_RX11_245 rfl (k_B s230) ((zwr_r e229 (by first | decide | exact (absurd ·.1 (by decide)) | exact (absurd ·.2 (by decide)) | omega)).trans (zfr_f f101 rfl rfl)) ?_
              refine zj_imul (zdk ttX11_takesLaw 93 rfl rfl) ?_
              refine zj_iload_n (zdk ttX11_takesLaw 94 rfl rfl) rfl ?_
              refine zj_iadd (zdk ttX11_takesLaw 95 rfl rfl) ?_
              refine zj_aload_n (zdk ttX11_takesLaw 96 rfl rfl) rfl (by decide) ?_
              refine zj_getr (r := 15) (zdk ttX11_takesLaw 97 rfl rfl) zf_RX11_52 rfl (k_B s230) (rfB_23 s230) ?_
              refine zj_sipush (zdk ttX11_takesLaw 98 rfl rfl) (by decide) ?_
              refine zj_iload_n (zdk ttX11_takesLaw 99 rfl rfl) rfl ?_
              refine zj_iadd (zdk ttX11_takesLaw 100 rfl rfl) ?_
              have b231 : -2147483648 ≤ (h99.2 15 (800 + x98)) ∧ (h99.2 15 (800 + x98)) ≤ 2147483647 := abB_15 s100 (800 + x98)
              refine zj_iald (v := (h99.2 15 (800 + x98))) (zdk ttX11_takesLaw 101 rfl rfl) (kaB_15 s230) (by decide) (by omega) (zwr_r e229 (by first | decide | exact (absurd ·.1 (by decide)) | exact (absurd ·.2 (by decide)) | omega)) ?_
              refine zj_iast (zdk ttX11_takesLaw 102 rfl rfl) (kaB_15 s230) (by decide) (by omega) (fun h232 e233 => ?_)
              refine zj_iinc (L' := [some (.inr 0), some (.inl p1), some (.inl (x98 + 1))]) (zdk ttX11_takesLaw 103 rfl rfl) rfl (by decide) rfl ?_
              refine zj_goto (t := 107) (zdk ttX11_takesLaw 104 rfl rfl) (by decide) ?_
              have s234 : okB h232 := awB_15 s230 e233 (by omega)
              have f236 : zfr [] [9, 10, 11, 12, 13, 14, 15] h h228 := zfr_wa f101 e229 rfl
              have f235 : zfr [] [9, 10, 11, 12, 13, 14, 15] h h232 := zfr_wa f236 e233 rfl
              exact ih218  (x98 + 1) h232 (by omega) s234 f235 (fun l q1 q2 => ⟨((zwr_r e233 (by first | decide | exact (absurd ·.1 (by decide)) | exact (absurd ·.2 (by decide)) | omega)).trans (zwr_r e229 (by first | decide | exact (absurd ·.1 (by decide)) | exact (absurd ·.2 (by decide)) | omega))).trans (u214 l q1 q2).1, ((zwr_r e233 (by first | decide | exact (absurd ·.1 (by decide)) | exact (absurd ·.2 (by decide)) | omega)).trans (zwr_r e229 (by first | decide | exact (absurd ·.1 (by decide)) | exact (absurd ·.2 (by decide)) | omega))).trans (u214 l q1 q2).2.1, ((zwr_r e233 (by first | decide | exact (absurd ·.1 (by decide)) | exact (absurd ·.2 (by decide)) | omega)).trans (zwr_r e229 (by first | decide | exact (absurd ·.1 (by decide)) | exact (absurd ·.2 (by decide)) | omega))).trans (u214 l q1 q2).2.2⟩) (fun l q1 q2 => (Classical.em (l = x98)).elim (fun q => by rw [q]; exact ⟨((zwr_r e233 (by first | decide | exact (absurd ·.1 (by decide)) | exact (absurd ·.2 (by decide)) | omega)).trans (zwr_vk e229 (by omega))).trans (u216 (800 + x98) (by omega)).1, (zwr_vk e233 (by omega)).trans (u216 (800 + x98) (by omega)).2⟩) (fun q => ⟨((zwr_r e233 (by first | decide | exact (absurd ·.1 (by decide)) | exact (absurd ·.2 (by decide)) | omega)).trans (zwr_r e229 (by first | decide | exact (absurd ·.1 (by decide)) | exact (absurd ·.2 (by decide)) | omega))).trans (u215 l q1 (by omega)).1, ((zwr_r e233 (by first | decide | exact (absurd ·.1 (by decide)) | exact (absurd ·.2 (by decide)) | omega)).trans (zwr_r e229 (by first | decide | exact (absurd ·.1 (by decide)) | exact (absurd ·.2 (by decide)) | omega))).trans (u215 l q1 (by omega)).2⟩)) (fun j q => ⟨((zwr_r e233 (by first | decide | exact (absurd ·.1 (by decide)) | exact (absurd ·.2 (by decide)) | omega)).trans (zwr_r e229 (by first | decide | exact (absurd ·.1 (by decide)) | exact (absurd ·.2 (by decide)) | omega))).trans (u216 j q).1, ((zwr_r e233 (by first | decide | exact (absurd ·.1 (by decide)) | exact (absurd ·.2 (by decide)) | omega)).trans (zwr_r e229 (by first | decide | exact (absurd ·.1 (by decide)) | exact (absurd ·.2 (by decide)) | omega))).trans (u216 j q).2⟩) (by omega)
        exact lp212 _ 0 h2 (by omega) s3 f4 (fun l q1 q2 => u92 l q1 (by omega)) (fun l q1 q2 => absurd q1 (by omega)) (fun j q => ⟨(u94 j).1, (u94 j).2⟩) (Nat.lt_succ_self _)
      · refine zj_aload_n (zdk ttX11_takesLaw 5 rfl rfl) rfl (by decide) ?_
        refine zj_getr (r := 10) (zdk ttX11_takesLaw 6 rfl rfl) zf_RX11_37 rfl (k_B s3) (rfB_18 s3) ?_
        refine zj_bipush (zdk ttX11_takesLaw 7 rfl rfl) (by decide) ?_
        refine zj_aload_n (zdk ttX11_takesLaw 8 rfl rfl) rfl (by decide) ?_
        have b237 : 0 ≤ (h.2 0 24) ∧ (h.2 0 24) ≤ 0 := fB_24 sB
        refine zj_geti (v := (h.2 0 24)) (zdk ttX11_takesLaw 9 rfl rfl) zf_RX11_245 rfl (k_B s3) (zfr_f f4 rfl rfl) ?_
        refine zj_imul (zdk ttX11_takesLaw 10 rfl rfl) ?_
        refine zj_iload_n (zdk ttX11_takesLaw 11 rfl rfl) rfl ?_
        refine zj_iadd (zdk ttX11_takesLaw 12 rfl rfl) ?_
        refine zj_aload_n (zdk ttX11_takesLaw 13 rfl rfl) rfl (by decide) ?_
        refine zj_getr (r := 10) (zdk ttX11_takesLaw 14 rfl rfl) zf_RX11_37 rfl (k_B s3) (rfB_18 s3) ?_
        refine zj_bipush (zdk ttX11_takesLaw 15 rfl rfl) (by decide) ?_
        refine zj_iload_n (zdk ttX11_takesLaw 16 rfl rfl) rfl ?_
        refine zj_iadd (zdk ttX11_takesLaw 17 rfl rfl) ?_
        have b238 : -2147483648 ≤ (h2.2 10 (32 + x1)) ∧ (h2.2 10 (32 + x1)) ≤ 2147483647 := abB_10 s3 (32 + x1)
        refine zj_iald (v := (h2.2 10 (32 + x1))) (zdk ttX11_takesLaw 18 rfl rfl) (kaB_10 s3) (by decide) (by omega) rfl ?_
        refine zj_iast (zdk ttX11_takesLaw 19 rfl rfl) (kaB_10 s3) (by decide) (by omega) (fun h239 e240 => ?_)
        refine zj_aload_n (zdk ttX11_takesLaw 20 rfl rfl) rfl (by decide) ?_
        have s241 : okB h239 := awB_10 s3 e240 (by omega)
        refine zj_getr (r := 11) (zdk ttX11_takesLaw 21 rfl rfl) zf_RX11_40 rfl (k_B s241) (rfB_19 s241) ?_
        refine zj_bipush (zdk ttX11_takesLaw 22 rfl rfl) (by decide) ?_
        refine zj_aload_n (zdk ttX11_takesLaw 23 rfl rfl) rfl (by decide) ?_
        refine zj_geti (v := (h.2 0 24)) (zdk ttX11_takesLaw 24 rfl rfl) zf_RX11_245 rfl (k_B s241) ((zwr_r e240 (by first | decide | exact (absurd ·.1 (by decide)) | exact (absurd ·.2 (by decide)) | omega)).trans (zfr_f f4 rfl rfl)) ?_
        refine zj_imul (zdk ttX11_takesLaw 25 rfl rfl) ?_
        refine zj_iload_n (zdk ttX11_takesLaw 26 rfl rfl) rfl ?_
        refine zj_iadd (zdk ttX11_takesLaw 27 rfl rfl) ?_
        refine zj_aload_n (zdk ttX11_takesLaw 28 rfl rfl) rfl (by decide) ?_
        refine zj_getr (r := 11) (zdk ttX11_takesLaw 29 rfl rfl) zf_RX11_40 rfl (k_B s241) (rfB_19 s241) ?_
        refine zj_bipush (zdk ttX11_takesLaw 30 rfl rfl) (by decide) ?_
        refine zj_iload_n (zdk ttX11_takesLaw 31 rfl rfl) rfl ?_
        refine zj_iadd (zdk ttX11_takesLaw 32 rfl rfl) ?_
        have b242 : 0 ≤ (h2.2 11 (32 + x1)) ∧ (h2.2 11 (32 + x1)) ≤ 400 := abB_11 s3 (32 + x1)
        refine zj_iald (v := (h2.2 11 (32 + x1))) (zdk ttX11_takesLaw 33 rfl rfl) (kaB_11 s241) (by decide) (by omega) (zwr_r e240 (by first | decide | exact (absurd ·.1 (by decide)) | exact (absurd ·.2 (by decide)) | omega)) ?_
        refine zj_iast (zdk ttX11_takesLaw 34 rfl rfl) (kaB_11 s241) (by decide) (by omega) (fun h243 e244 => ?_)
        refine zj_aload_n (zdk ttX11_takesLaw 35 rfl rfl) rfl (by decide) ?_
        have s245 : okB h243 := awB_11 s241 e244 (by omega)
        refine zj_getr (r := 12) (zdk ttX11_takesLaw 36 rfl rfl) zf_RX11_43 rfl (k_B s245) (rfB_20 s245) ?_
        refine zj_bipush (zdk ttX11_takesLaw 37 rfl rfl) (by decide) ?_
        refine zj_aload_n (zdk ttX11_takesLaw 38 rfl rfl) rfl (by decide) ?_
        refine zj_geti (v := (h.2 0 24)) (zdk ttX11_takesLaw 39 rfl rfl) zf_RX11_245 rfl (k_B s245) (((zwr_r e244 (by first | decide | exact (absurd ·.1 (by decide)) | exact (absurd ·.2 (by decide)) | omega)).trans (zwr_r e240 (by first | decide | exact (absurd ·.1 (by decide)) | exact (absurd ·.2 (by decide)) | omega))).trans (zfr_f f4 rfl rfl)) ?_
        refine zj_imul (zdk ttX11_takesLaw 40 rfl rfl) ?_
        refine zj_iload_n (zdk ttX11_takesLaw 41 rfl rfl) rfl ?_
        refine zj_iadd (zdk ttX11_takesLaw 42 rfl rfl) ?_
        refine zj_aload_n (zdk ttX11_takesLaw 43 rfl rfl) rfl (by decide) ?_
        refine zj_getr (r := 12) (zdk ttX11_takesLaw 44 rfl rfl) zf_RX11_43 rfl (k_B s245) (rfB_20 s245) ?_
        refine zj_bipush (zdk ttX11_takesLaw 45 rfl rfl) (by decide) ?_
        refine zj_iload_n (zdk ttX11_takesLaw 46 rfl rfl) rfl ?_
        refine zj_iadd (zdk ttX11_takesLaw 47 rfl rfl) ?_
        have b246 : 0 ≤ (h2.2 12 (32 + x1)) ∧ (h2.2 12 (32 + x1)) ≤ 400 := abB_12 s3 (32 + x1)
        refine zj_iald (v := (h2.2 12 (32 + x1))) (zdk ttX11_takesLaw 48 rfl rfl) (kaB_12 s245) (by decide) (by omega) ((zwr_r e244 (by first | decide | exact (absurd ·.1 (by decide)) | exact (absurd ·.2 (by decide)) | omega)).trans (zwr_r e240 (by first | decide | exact (absurd ·.1 (by decide)) | exact (absurd ·.2 (by decide)) | omega))) ?_
        refine zj_iast (zdk ttX11_takesLaw 49 rfl rfl) (kaB_12 s245) (by decide) (by omega) (fun h247 e248 => ?_)
        refine zj_aload_n (zdk ttX11_takesLaw 50 rfl rfl) rfl (by decide) ?_
        have s249 : okB h247 := awB_12 s245 e248 (by omega)
        refine zj_getr (r := 13) (zdk ttX11_takesLaw 51 rfl rfl) zf_RX11_46 rfl (k_B s249) (rfB_21 s249) ?_
        refine zj_bipush (zdk ttX11_takesLaw 52 rfl rfl) (by decide) ?_
        refine zj_aload_n (zdk ttX11_takesLaw 53 rfl rfl) rfl (by decide) ?_
        refine zj_geti (v := (h.2 0 24)) (zdk ttX11_takesLaw 54 rfl rfl) zf_RX11_245 rfl (k_B s249) ((((zwr_r e248 (by first | decide | exact (absurd ·.1 (by decide)) | exact (absurd ·.2 (by decide)) | omega)).trans (zwr_r e244 (by first | decide | exact (absurd ·.1 (by decide)) | exact (absurd ·.2 (by decide)) | omega))).trans (zwr_r e240 (by first | decide | exact (absurd ·.1 (by decide)) | exact (absurd ·.2 (by decide)) | omega))).trans (zfr_f f4 rfl rfl)) ?_
        refine zj_imul (zdk ttX11_takesLaw 55 rfl rfl) ?_
        refine zj_iload_n (zdk ttX11_takesLaw 56 rfl rfl) rfl ?_
        refine zj_iadd (zdk ttX11_takesLaw 57 rfl rfl) ?_
        refine zj_aload_n (zdk ttX11_takesLaw 58 rfl rfl) rfl (by decide) ?_
        refine zj_getr (r := 13) (zdk ttX11_takesLaw 59 rfl rfl) zf_RX11_46 rfl (k_B s249) (rfB_21 s249) ?_
        refine zj_bipush (zdk ttX11_takesLaw 60 rfl rfl) (by decide) ?_
        refine zj_iload_n (zdk ttX11_takesLaw 61 rfl rfl) rfl ?_
        refine zj_iadd (zdk ttX11_takesLaw 62 rfl rfl) ?_
        have b250 : 0 ≤ (h2.2 13 (32 + x1)) ∧ (h2.2 13 (32 + x1)) ≤ 400 := abB_13 s3 (32 + x1)
        refine zj_iald (v := (h2.2 13 (32 + x1))) (zdk ttX11_takesLaw 63 rfl rfl) (kaB_13 s249) (by decide) (by omega) (((zwr_r e248 (by first | decide | exact (absurd ·.1 (by decide)) | exact (absurd ·.2 (by decide)) | omega)).trans (zwr_r e244 (by first | decide | exact (absurd ·.1 (by decide)) | exact (absurd ·.2 (by decide)) | omega))).trans (zwr_r e240 (by first | decide | exact (absurd ·.1 (by decide)) | exact (absurd ·.2 (by decide)) | omega))) ?_
        refine zj_iast (zdk ttX11_takesLaw 64 rfl rfl) (kaB_13 s249) (by decide) (by omega) (fun h251 e252 => ?_)
        refine zj_iinc (L' := [some (.inr 0), some (.inl p1), some (.inl (x1 + 1))]) (zdk ttX11_takesLaw 65 rfl rfl) rfl (by decide) rfl ?_
        refine zj_goto (t := 2) (zdk ttX11_takesLaw 66 rfl rfl) (by decide) ?_
        have s253 : okB h251 := awB_13 s249 e252 (by omega)
        have f257 : zfr [] [9, 10, 11, 12, 13, 14, 15] h h239 := zfr_wa f4 e240 rfl
        have f256 : zfr [] [9, 10, 11, 12, 13, 14, 15] h h243 := zfr_wa f257 e244 rfl
        have f255 : zfr [] [9, 10, 11, 12, 13, 14, 15] h h247 := zfr_wa f256 e248 rfl
        have f254 : zfr [] [9, 10, 11, 12, 13, 14, 15] h h251 := zfr_wa f255 e252 rfl
        exact ih96  (x1 + 1) h251 (by omega) s253 f254 (fun l q1 q2 => (Classical.em (l = x1)).elim (fun q => by rw [q]; exact ⟨(((zwr_r e252 (by first | decide | exact (absurd ·.1 (by decide)) | exact (absurd ·.2 (by decide)) | omega)).trans (zwr_r e248 (by first | decide | exact (absurd ·.1 (by decide)) | exact (absurd ·.2 (by decide)) | omega))).trans (zwr_vk e244 (by omega))).trans (u93 (32 + x1) (by omega)).1, ((zwr_r e252 (by first | decide | exact (absurd ·.1 (by decide)) | exact (absurd ·.2 (by decide)) | omega)).trans (zwr_vk e248 (by omega))).trans (u93 (32 + x1) (by omega)).2.1, (zwr_vk e252 (by omega)).trans (u93 (32 + x1) (by omega)).2.2⟩) (fun q => ⟨((((zwr_r e252 (by first | decide | exact (absurd ·.1 (by decide)) | exact (absurd ·.2 (by decide)) | omega)).trans (zwr_r e248 (by first | decide | exact (absurd ·.1 (by decide)) | exact (absurd ·.2 (by decide)) | omega))).trans (zwr_r e244 (by first | decide | exact (absurd ·.1 (by decide)) | exact (absurd ·.2 (by decide)) | omega))).trans (zwr_r e240 (by first | decide | exact (absurd ·.1 (by decide)) | exact (absurd ·.2 (by decide)) | omega))).trans (u92 l q1 (by omega)).1, ((((zwr_r e252 (by first | decide | exact (absurd ·.1 (by decide)) | exact (absurd ·.2 (by decide)) | omega)).trans (zwr_r e248 (by first | decide | exact (absurd ·.1 (by decide)) | exact (absurd ·.2 (by decide)) | omega))).trans (zwr_r e244 (by first | decide | exact (absurd ·.1 (by decide)) | exact (absurd ·.2 (by decide)) | omega))).trans (zwr_r e240 (by first | decide | exact (absurd ·.1 (by decide)) | exact (absurd ·.2 (by decide)) | omega))).trans (u92 l q1 (by omega)).2.1, ((((zwr_r e252 (by first | decide | exact (absurd ·.1 (by decide)) | exact (absurd ·.2 (by decide)) | omega)).trans (zwr_r e248 (by first | decide | exact (absurd ·.1 (by decide)) | exact (absurd ·.2 (by decide)) | omega))).trans (zwr_r e244 (by first | decide | exact (absurd ·.1 (by decide)) | exact (absurd ·.2 (by decide)) | omega))).trans (zwr_r e240 (by first | decide | exact (absurd ·.1 (by decide)) | exact (absurd ·.2 (by decide)) | omega))).trans (u92 l q1 (by omega)).2.2⟩)) (fun j q => ⟨((((zwr_r e252 (by first | decide | exact (absurd ·.1 (by decide)) | exact (absurd ·.2 (by decide)) | omega)).trans (zwr_r e248 (by first | decide | exact (absurd ·.1 (by decide)) | exact (absurd ·.2 (by decide)) | omega))).trans (zwr_r e244 (by first | decide | exact (absurd ·.1 (by decide)) | exact (absurd ·.2 (by decide)) | omega))).trans (zwr_r e240 (by first | decide | exact (absurd ·.1 (by decide)) | exact (absurd ·.2 (by decide)) | omega))).trans (u93 j q).1, ((((zwr_r e252 (by first | decide | exact (absurd ·.1 (by decide)) | exact (absurd ·.2 (by decide)) | omega)).trans (zwr_r e248 (by first | decide | exact (absurd ·.1 (by decide)) | exact (absurd ·.2 (by decide)) | omega))).trans (zwr_r e244 (by first | decide | exact (absurd ·.1 (by decide)) | exact (absurd ·.2 (by decide)) | omega))).trans (zwr_r e240 (by first | decide | exact (absurd ·.1 (by decide)) | exact (absurd ·.2 (by decide)) | omega))).trans (u93 j q).2.1, ((((zwr_r e252 (by first | decide | exact (absurd ·.1 (by decide)) | exact (absurd ·.2 (by decide)) | omega)).trans (zwr_r e248 (by first | decide | exact (absurd ·.1 (by decide)) | exact (absurd ·.2 (by decide)) | omega))).trans (zwr_r e244 (by first | decide | exact (absurd ·.1 (by decide)) | exact (absurd ·.2 (by decide)) | omega))).trans (zwr_r e240 (by first | decide | exact (absurd ·.1 (by decide)) | exact (absurd ·.2 (by decide)) | omega))).trans (u93 j q).2.2⟩) (fun j => ⟨((((zwr_r e252 (by first | decide | exact (absurd ·.1 (by decide)) | exact (absurd ·.2 (by decide)) | omega)).trans (zwr_r e248 (by first | decide | exact (absurd ·.1 (by decide)) | exact (absurd ·.2 (by decide)) | omega))).trans (zwr_r e244 (by first | decide | exact (absurd ·.1 (by decide)) | exact (absurd ·.2 (by decide)) | omega))).trans (zwr_r e240 (by first | decide | exact (absurd ·.1 (by decide)) | exact (absurd ·.2 (by decide)) | omega))).trans (u94 j).1, ((((zwr_r e252 (by first | decide | exact (absurd ·.1 (by decide)) | exact (absurd ·.2 (by decide)) | omega)).trans (zwr_r e248 (by first | decide | exact (absurd ·.1 (by decide)) | exact (absurd ·.2 (by decide)) | omega))).trans (zwr_r e244 (by first | decide | exact (absurd ·.1 (by decide)) | exact (absurd ·.2 (by decide)) | omega))).trans (zwr_r e240 (by first | decide | exact (absurd ·.1 (by decide)) | exact (absurd ·.2 (by decide)) | omega))).trans (u94 j).2⟩) (by omega)
  exact lp90 _ 0 h (by omega) sB (zfr_r _ _ _) (fun l q1 q2 => absurd q1 (by omega)) (fun j q => ⟨rfl, rfl, rfl⟩) (fun j => ⟨rfl, rfl⟩) (Nat.lt_succ_self _)

abbrev tX11_takesOther : List (Nat × Instr × Nat) := [(0, .iload_n 1, 1), (1, .iconst 3, 1), (2, .if_icmp .ne 38, 3), (5, .iconst 0, 1), (6, .istore_n 3, 1), (7, .iload_n 3, 1), (8, .bipush 18, 2), (10, .if_icmp .ge 24, 3), (13, .aload_n 0, 1), (14, .getfield 68, 3), (17, .iload_n 3, 1), (18, .aload_n 0, 1), (19, .getfield 68, 3), (22, .bipush 18, 2), (24, .iload_n 3, 1), (25, .iadd, 1), (26, .iaload, 1), (27, .iastore, 1), (28, .iinc 3 1, 3), (31, .goto (-24), 3), (34, .aload_n 0, 1), (35, .iload_n 2, 1), (36, .putfield 282, 3), (39, .return_, 1), (40, .iload_n 1, 1), (41, .iconst 1, 1), (42, .if_icmp .ne 41, 3), (45, .iconst 0, 1), (46, .istore_n 3, 1), (47, .iload_n 3, 1), (48, .iconst 3, 1), (49, .iload_n 2, 1), (50, .imul, 1), (51, .if_icmp .ge 24, 3), (54, .aload_n 0, 1), (55, .getfield 62, 3), (58, .iload_n 3, 1), (59, .aload_n 0, 1), (60, .getfield 62, 3), (63, .bipush 48, 2), (65, .iload_n 3, 1), (66, .iadd, 1), (67, .iaload, 1), (68, .iastore, 1), (69, .iinc 3 1, 3), (72, .goto (-25), 3), (75, .aload_n 0, 1), (76, .iload_n 2, 1), (77, .putfield 285, 3), (80, .goto 38, 3), (83, .iconst 0, 1), (84, .istore_n 3, 1), (85, .iload_n 3, 1), (86, .iconst 3, 1), (87, .iload_n 2, 1), (88, .imul, 1), (89, .if_icmp .ge 24, 3), (92, .aload_n 0, 1), (93, .getfield 65, 3), (96, .iload_n 3, 1), (97, .aload_n 0, 1), (98, .getfield 65, 3), (101, .bipush 48, 2), (103, .iload_n 3, 1), (104, .iadd, 1), (105, .iaload, 1), (106, .iastore, 1), (107, .iinc 3 1, 3), (110, .goto (-25), 3), (113, .aload_n 0, 1), (114, .iload_n 2, 1), (115, .putfield 288, 3), (118, .aload_n 0, 1), (119, .iconst 0, 1), (120, .putfield 123, 3), (123, .return_, 1)]
theorem ttX11_takesOther : zdt cX11_takesOther tX11_takesOther = true := by decide +kernel
abbrev q_X11_takesOther (h : zM) (p1 : Int) (p2 : Int) : Option zV → zM → Prop := zqv fun h' => okM h' ∧ zfr [3, 33, 35, 37] [17, 18, 19] h h'
set_option maxRecDepth 100000 in
set_option maxHeartbeats 4000000 in
theorem s_X11_takesOther (l : Launch) (h : zM) (p1 : Int) (p2 : Int) (s0 : okM h) (b_p1 : 1 ≤ p1 ∧ p1 ≤ 3) (b_p2 : 0 ≤ p2 ∧ p2 ≤ 16) (u_0 : p1 = 2 → ∀ j, 0 ≤ j → j < p2 → wfD1 (h.2 18 (48 + 3 * j + 1)) (h.2 18 (48 + 3 * j + 2))) : zT shM l yX11_takesOther cX11_takesOther 4 none (rmL 1) 0 0 [.inr 0, .inl p1, .inl p2] h (q_X11_takesOther h p1 p2) := by
  refine zT_of (by decide +kernel) (L0 := [some (.inr 0), some (.inl p1), some (.inl p2), none]) rfl (Nat.le_of_ble_eq_true rfl) ?_
  have sB := s0.B
  refine zj_iload_n (zdk ttX11_takesOther 0 rfl rfl) rfl ?_
  refine zj_iconst (zdk ttX11_takesOther 1 rfl rfl) ?_
  refine zj_icmp_ne (t := 40) (zdk ttX11_takesOther 2 rfl rfl) (by decide) (by omega) (by decide) (fun c1 => ?_) (fun c1 => ?_)
  · refine zj_iload_n (zdk ttX11_takesOther 24 rfl rfl) rfl ?_
    refine zj_iconst (zdk ttX11_takesOther 25 rfl rfl) ?_
    refine zj_icmp_ne (t := 83) (zdk ttX11_takesOther 26 rfl rfl) (by decide) (by omega) (by decide) (fun c2 => ?_) (fun c2 => ?_)
    · refine zj_iconst (zdk ttX11_takesOther 50 rfl rfl) ?_
      refine zj_istore_n (L' := [some (.inr 0), some (.inl p1), some (.inl p2), some (.inl 0)]) (zdk ttX11_takesOther 51 rfl rfl) (by decide) rfl ?_
      have lp51 : ∀ (n85 : Nat) (x3 : Int) (h4 : zM), (0 ≤ x3 ∧ x3 ≤ 48) → okB h4 → zfr [3, 33, 35, 37] [17, 18, 19] h h4 → (∀ j, 0 ≤ j → j < x3 → h4.2 18 j = h.2 18 (48 + j)) → (∀ j, x3 ≤ j → h4.2 18 j = h.2 18 j) → (x3 ≤ 3 * p2) → (49 - x3).toNat < n85 → zJ shM l yX11_takesOther cX11_takesOther 4 none (rmL 1) 0 0 (q_X11_takesOther h p1 p2) 0 0 85 [some (.inr 0), some (.inl p1), some (.inl p2), some (.inl x3)] [] h4 := by
        intro n85
        induction n85 with
        | zero => intro x3 h4 b52 s5 f6 u53 u54 u55 m56; exact absurd m56 (Nat.not_lt_zero _)
        | succ n85 ih57 =>
          intro x3 h4 b52 s5 f6 u53 u54 u55 m56
          refine zj_iload_n (zdk ttX11_takesOther 52 rfl rfl) rfl ?_
          refine zj_iconst (zdk ttX11_takesOther 53 rfl rfl) ?_
          refine zj_iload_n (zdk ttX11_takesOther 54 rfl rfl) rfl ?_
          refine zj_imul (zdk ttX11_takesOther 55 rfl rfl) ?_
          refine zj_icmp_ge (t := 113) (zdk ttX11_takesOther 56 rfl rfl) (by decide) (by omega) (by omega) (fun c58 => ?_) (fun c58 => ?_)
          · refine zj_aload_n (zdk ttX11_takesOther 69 rfl rfl) rfl (by decide) ?_
            refine zj_iload_n (zdk ttX11_takesOther 70 rfl rfl) rfl ?_
            refine zj_puti (zdk ttX11_takesOther 71 rfl rfl) zf_RX11_288 rfl (k_B s5) (Or.inl zw_RX11_288) (k2 := 35) rfl (fun h59 e60 => ?_)
            refine zj_aload_n (zdk ttX11_takesOther 72 rfl rfl) rfl (by decide) ?_
            refine zj_iconst (zdk ttX11_takesOther 73 rfl rfl) ?_
            have s61 : okB h59 := fwB_35 s5 e60 (by omega)
            refine zj_puti (zdk ttX11_takesOther 74 rfl rfl) zf_RX11_123 rfl (k_B s61) (Or.inl zw_RX11_123) (k2 := 3) rfl (fun h62 e63 => ?_)
            have s64 : okB h62 := fwB_3 s61 e63 (by omega)
            have f66 : zfr [3, 33, 35, 37] [17, 18, 19] h h59 := zfr_wf f6 e60 rfl
            have f65 : zfr [3, 33, 35, 37] [17, 18, 19] h h62 := zfr_wf f66 e63 rfl
            exact zj_vret rfl (zdk ttX11_takesOther 75 rfl rfl) (Nat.le_refl _) (Nat.le_refl _) ⟨rfl, (okM_deeds (n := p2) s0 s64 f65 (fun j q1 q2 => (((zwr_r e63 (by first | decide | exact (absurd ·.1 (by decide)) | exact (absurd ·.2 (by decide)) | omega)).trans (zwr_r e60 (by first | decide | exact (absurd ·.1 (by decide)) | exact (absurd ·.2 (by decide)) | omega))).trans (u53 j q1 (by omega)))) (fun j q1 q2 => (((zwr_r e63 (by first | decide | exact (absurd ·.1 (by decide)) | exact (absurd ·.2 (by decide)) | omega)).trans (zwr_r e60 (by first | decide | exact (absurd ·.1 (by decide)) | exact (absurd ·.2 (by decide)) | omega))).trans (u54 j (by omega)))) (u_0 (by omega))), f65⟩
          · refine zj_aload_n (zdk ttX11_takesOther 57 rfl rfl) rfl (by decide) ?_
            refine zj_getr (r := 18) (zdk ttX11_takesOther 58 rfl rfl) zf_RX11_65 rfl (k_B s5) (rfB_36 s5) ?_
            refine zj_iload_n (zdk ttX11_takesOther 59 rfl rfl) rfl ?_
            refine zj_aload_n (zdk ttX11_takesOther 60 rfl rfl) rfl (by decide) ?_
            refine zj_getr (r := 18) (zdk ttX11_takesOther 61 rfl rfl) zf_RX11_65 rfl (k_B s5) (rfB_36 s5) ?_
            refine zj_bipush (zdk ttX11_takesOther 62 rfl rfl) (by decide) ?_
            refine zj_iload_n (zdk ttX11_takesOther 63 rfl rfl) rfl ?_
            refine zj_iadd (zdk ttX11_takesOther 64 rfl rfl) ?_
            have b67 : -2147483648 ≤ (h4.2 18 (48 + x3)) ∧ (h4.2 18 (48 + x3)) ≤ 2147483647 := abB_18 s5 (48 + x3)
            refine zj_iald (v := (h4.2 18 (48 + x3))) (zdk ttX11_takesOther 65 rfl rfl) (kaB_18 s5) (by decide) (by omega) rfl ?_
            refine zj_iast (zdk ttX11_takesOther 66 rfl rfl) (kaB_18 s5) (by decide) (by omega) (fun h68 e69 => ?_)
            refine zj_iinc (L' := [some (.inr 0), some (.inl p1), some (.inl p2), some (.inl (x3 + 1))]) (zdk ttX11_takesOther 67 rfl rfl) rfl (by decide) rfl ?_
            refine zj_goto (t := 85) (zdk ttX11_takesOther 68 rfl rfl) (by decide) ?_
            have s70 : okB h68 := awB_18 s5 e69 (by omega)
            have f71 : zfr [3, 33, 35, 37] [17, 18, 19] h h68 := zfr_wa f6 e69 rfl
            exact ih57  (x3 + 1) h68 (by omega) s70 f71 (fun j q1 q2 => (Classical.em (j = x3)).elim (fun q => by rw [q]; exact (zwr_v e69).trans (u54 (48 + x3) (by omega))) (fun q => (zwr_r e69 (by first | decide | exact (absurd ·.1 (by decide)) | exact (absurd ·.2 (by decide)) | omega)).trans (u53 j q1 (by omega)))) (fun j q => (zwr_r e69 (by first | decide | exact (absurd ·.1 (by decide)) | exact (absurd ·.2 (by decide)) | omega)).trans (u54 j (by omega))) (by omega) (by omega)
      exact lp51 _ 0 h (by omega) sB (zfr_r _ _ _) (fun j q1 q2 => absurd q1 (by omega)) (fun j q => rfl) (by omega) (Nat.lt_succ_self _)
    · refine zj_iconst (zdk ttX11_takesOther 27 rfl rfl) ?_
      refine zj_istore_n (L' := [some (.inr 0), some (.inl p1), some (.inl p2), some (.inl 0)]) (zdk ttX11_takesOther 28 rfl rfl) (by decide) rfl ?_
      have lp120 : ∀ (n47 : Nat) (x72 : Int) (h73 : zM), (0 ≤ x72 ∧ x72 ≤ 48) → okB h73 → zfr [3, 33, 35, 37] [17, 18, 19] h h73 → (∀ j, h73.2 18 j = h.2 18 j) → (49 - x72).toNat < n47 → zJ shM l yX11_takesOther cX11_takesOther 4 none (rmL 1) 0 0 (q_X11_takesOther h p1 p2) 0 0 47 [some (.inr 0), some (.inl p1), some (.inl p2), some (.inl x72)] [] h73 := by
        intro n47
        induction n47 with
        | zero => intro x72 h73 b121 s74 f75 u122 m123; exact absurd m123 (Nat.not_lt_zero _)
        | succ n47 ih124 =>
          intro x72 h73 b121 s74 f75 u122 m123
          refine zj_iload_n (zdk ttX11_takesOther 29 rfl rfl) rfl ?_
          refine zj_iconst (zdk ttX11_takesOther 30 rfl rfl) ?_
          refine zj_iload_n (zdk ttX11_takesOther 31 rfl rfl) rfl ?_
          refine zj_imul (zdk ttX11_takesOther 32 rfl rfl) ?_
          refine zj_icmp_ge (t := 75) (zdk ttX11_takesOther 33 rfl rfl) (by decide) (by omega) (by omega) (fun c125 => ?_) (fun c125 => ?_)
          · refine zj_aload_n (zdk ttX11_takesOther 46 rfl rfl) rfl (by decide) ?_
            refine zj_iload_n (zdk ttX11_takesOther 47 rfl rfl) rfl ?_
            refine zj_puti (zdk ttX11_takesOther 48 rfl rfl) zf_RX11_285 rfl (k_B s74) (Or.inl zw_RX11_285) (k2 := 33) rfl (fun h126 e127 => ?_)
            refine zj_goto (t := 118) (zdk ttX11_takesOther 49 rfl rfl) (by decide) ?_
            refine zj_aload_n (zdk ttX11_takesOther 72 rfl rfl) rfl (by decide) ?_
            refine zj_iconst (zdk ttX11_takesOther 73 rfl rfl) ?_
            have s128 : okB h126 := fwB_33 s74 e127 (by omega)
            refine zj_puti (zdk ttX11_takesOther 74 rfl rfl) zf_RX11_123 rfl (k_B s128) (Or.inl zw_RX11_123) (k2 := 3) rfl (fun h129 e130 => ?_)
            have s131 : okB h129 := fwB_3 s128 e130 (by omega)
            have f133 : zfr [3, 33, 35, 37] [17, 18, 19] h h126 := zfr_wf f75 e127 rfl
            have f132 : zfr [3, 33, 35, 37] [17, 18, 19] h h129 := zfr_wf f133 e130 rfl
            exact zj_vret rfl (zdk ttX11_takesOther 75 rfl rfl) (Nat.le_refl _) (Nat.le_refl _) ⟨rfl, (okM_deeds (n := 0) s0 s131 f132 (fun j q1 q2 => absurd q1 (by omega)) (fun j q1 q2 => (((zwr_r e130 (by first | decide | exact (absurd ·.1 (by decide)) | exact (absurd ·.2 (by decide)) | omega)).trans (zwr_r e127 (by first | decide | exact (absurd ·.1 (by decide)) | exact (absurd ·.2 (by decide)) | omega))).trans (u122 j))) (fun j q1 q2 => absurd q1 (by omega))), f132⟩
          · refine zj_aload_n (zdk ttX11_takesOther 34 rfl rfl) rfl (by decide) ?_
            refine zj_getr (r := 17) (zdk ttX11_takesOther 35 rfl rfl) zf_RX11_62 rfl (k_B s74) (rfB_34 s74) ?_
            refine zj_iload_n (zdk ttX11_takesOther 36 rfl rfl) rfl ?_
            refine zj_aload_n (zdk ttX11_takesOther 37 rfl rfl) rfl (by decide) ?_
            refine zj_getr (r := 17) (zdk ttX11_takesOther 38 rfl rfl) zf_RX11_62 rfl (k_B s74) (rfB_34 s74) ?_
            refine zj_bipush (zdk ttX11_takesOther 39 rfl rfl) (by decide) ?_
            refine zj_iload_n (zdk ttX11_takesOther 40 rfl rfl) rfl ?_
            refine zj_iadd (zdk ttX11_takesOther 41 rfl rfl) ?_
            have b134 : -2147483648 ≤ (h73.2 17 (48 + x72)) ∧ (h73.2 17 (48 + x72)) ≤ 2147483647 := abB_17 s74 (48 + x72)
            refine zj_iald (v := (h73.2 17 (48 + x72))) (zdk ttX11_takesOther 42 rfl rfl) (kaB_17 s74) (by decide) (by omega) rfl ?_
            refine zj_iast (zdk ttX11_takesOther 43 rfl rfl) (kaB_17 s74) (by decide) (by omega) (fun h135 e136 => ?_)
            refine zj_iinc (L' := [some (.inr 0), some (.inl p1), some (.inl p2), some (.inl (x72 + 1))]) (zdk ttX11_takesOther 44 rfl rfl) rfl (by decide) rfl ?_
            refine zj_goto (t := 47) (zdk ttX11_takesOther 45 rfl rfl) (by decide) ?_
            have s137 : okB h135 := awB_17 s74 e136 (by omega)
            have f138 : zfr [3, 33, 35, 37] [17, 18, 19] h h135 := zfr_wa f75 e136 rfl
            exact ih124  (x72 + 1) h135 (by omega) s137 f138 (fun j => (zwr_r e136 (by first | decide | exact (absurd ·.1 (by decide)) | exact (absurd ·.2 (by decide)) | omega)).trans (u122 j)) (by omega)
      exact lp120 _ 0 h (by omega) sB (zfr_r _ _ _) (fun j => rfl) (Nat.lt_succ_self _)
  · refine zj_iconst (zdk ttX11_takesOther 3 rfl rfl) ?_
    refine zj_istore_n (L' := [some (.inr 0), some (.inl p1), some (.inl p2), some (.inl 0)]) (zdk ttX11_takesOther 4 rfl rfl) (by decide) rfl ?_
    have lp187 : ∀ (n7 : Nat) (x139 : Int) (h140 : zM), (0 ≤ x139 ∧ x139 ≤ 18) → okB h140 → zfr [3, 33, 35, 37] [17, 18, 19] h h140 → (∀ j, h140.2 18 j = h.2 18 j) → (19 - x139).toNat < n7 → zJ shM l yX11_takesOther cX11_takesOther 4 none (rmL 1) 0 0 (q_X11_takesOther h p1 p2) 0 0 7 [some (.inr 0), some (.inl p1), some (.inl p2), some (.inl x139)] [] h140 := by
      intro n7
      induction n7 with
      | zero => intro x139 h140 b188 s141 f142 u189 m190; exact absurd m190 (Nat.not_lt_zero _)
      | succ n7 ih191 =>
        intro x139 h140 b188 s141 f142 u189 m190
        refine zj_iload_n (zdk ttX11_takesOther 5 rfl rfl) rfl ?_
        refine zj_bipush (zdk ttX11_takesOther 6 rfl rfl) (by decide) ?_
        refine zj_icmp_ge (t := 34) (zdk ttX11_takesOther 7 rfl rfl) (by decide) (by omega) (by decide) (fun c192 => ?_) (fun c192 => ?_)
        · refine zj_aload_n (zdk ttX11_takesOther 20 rfl rfl) rfl (by decide) ?_
          refine zj_iload_n (zdk ttX11_takesOther 21 rfl rfl) rfl ?_
          refine zj_puti (zdk ttX11_takesOther 22 rfl rfl) zf_RX11_282 rfl (k_B s141) (Or.inl zw_RX11_282) (k2 := 37) rfl (fun h193 e194 => ?_)
          have s195 : okB h193 := fwB_37 s141 e194 (by omega)
          have f196 : zfr [3, 33, 35, 37] [17, 18, 19] h h193 := zfr_wf f142 e194 rfl
          exact zj_vret rfl (zdk ttX11_takesOther 23 rfl rfl) (Nat.le_refl _) (Nat.le_refl _) ⟨rfl, (okM_deeds (n := 0) s0 s195 f196 (fun j q1 q2 => absurd q1 (by omega)) (fun j q1 q2 => ((zwr_r e194 (by first | decide | exact (absurd ·.1 (by decide)) | exact (absurd ·.2 (by decide)) | omega)).trans (u189 j))) (fun j q1 q2 => absurd q1 (by omega))), f196⟩
        · refine zj_aload_n (zdk ttX11_takesOther 8 rfl rfl) rfl (by decide) ?_
          refine zj_getr (r := 19) (zdk ttX11_takesOther 9 rfl rfl) zf_RX11_68 rfl (k_B s141) (rfB_38 s141) ?_
          refine zj_iload_n (zdk ttX11_takesOther 10 rfl rfl) rfl ?_
          refine zj_aload_n (zdk ttX11_takesOther 11 rfl rfl) rfl (by decide) ?_
          refine zj_getr (r := 19) (zdk ttX11_takesOther 12 rfl rfl) zf_RX11_68 rfl (k_B s141) (rfB_38 s141) ?_
          refine zj_bipush (zdk ttX11_takesOther 13 rfl rfl) (by decide) ?_
          refine zj_iload_n (zdk ttX11_takesOther 14 rfl rfl) rfl ?_
          refine zj_iadd (zdk ttX11_takesOther 15 rfl rfl) ?_
          have b197 : -2147483648 ≤ (h140.2 19 (18 + x139)) ∧ (h140.2 19 (18 + x139)) ≤ 2147483647 := abB_19 s141 (18 + x139)
          refine zj_iald (v := (h140.2 19 (18 + x139))) (zdk ttX11_takesOther 16 rfl rfl) (kaB_19 s141) (by decide) (by omega) rfl ?_
          refine zj_iast (zdk ttX11_takesOther 17 rfl rfl) (kaB_19 s141) (by decide) (by omega) (fun h198 e199 => ?_)
          refine zj_iinc (L' := [some (.inr 0), some (.inl p1), some (.inl p2), some (.inl (x139 + 1))]) (zdk ttX11_takesOther 18 rfl rfl) rfl (by decide) rfl ?_
          refine zj_goto (t := 7) (zdk ttX11_takesOther 19 rfl rfl) (by decide) ?_
          have s200 : okB h198 := awB_19 s141 e199 (by omega)
          have f201 : zfr [3, 33, 35, 37] [17, 18, 19] h h198 := zfr_wa f142 e199 rfl
          exact ih191  (x139 + 1) h198 (by omega) s200 f201 (fun j => (zwr_r e199 (by first | decide | exact (absurd ·.1 (by decide)) | exact (absurd ·.2 (by decide)) | omega)).trans (u189 j)) (by omega)
    exact lp187 _ 0 h (by omega) sB (zfr_r _ _ _) (fun j => rfl) (Nat.lt_succ_self _)

abbrev tX11_readsText : List (Nat × Instr × Nat) := [(0, .aload_n 0, 1), (1, .iconst 0, 1), (2, .putfield 245, 3), (5, .aload_n 0, 1), (6, .invokevirtual 204, 3), (9, .iload_n 1, 1), (10, .iconst 1, 1), (11, .if_icmp .ne 8, 3), (14, .aload_n 0, 1), (15, .invokevirtual 270, 3), (18, .ireturn, 1), (19, .iload_n 1, 1), (20, .iconst 2, 1), (21, .if_icmp .ne 8, 3), (24, .aload_n 0, 1), (25, .invokevirtual 273, 3), (28, .ireturn, 1), (29, .iload_n 1, 1), (30, .iconst 3, 1), (31, .if_icmp .ne 10, 3), (34, .aload_n 0, 1), (35, .invokevirtual 276, 3), (38, .goto 7, 3), (41, .aload_n 0, 1), (42, .invokevirtual 279, 3), (45, .ireturn, 1)]
theorem ttX11_readsText : zdt cX11_readsText tX11_readsText = true := by decide +kernel
abbrev q_X11_readsText (h : zM) (p1 : Int) : Option zV → zM → Prop := zqi fun v h' => ((-1) ≤ v ∧ v ≤ 16) ∧ okM h' ∧ zfr [12, 13, 14, 15, 24, 25, 26, 28, 29, 30] [10, 11, 12, 13, 14, 15, 16, 17, 18, 19] h h' ∧ (p1 = 0 → 0 ≤ v → zLn h' v) ∧ (p1 = 2 → ∀ j, 0 ≤ j → j < v → wfD1 (h'.2 18 (48 + 3 * j + 1)) (h'.2 18 (48 + 3 * j + 2)))
set_option maxRecDepth 100000 in
set_option maxHeartbeats 4000000 in
theorem s_X11_readsText (l : Launch) (h : zM) (p1 : Int) (s0 : okM h) (b_p1 : 0 ≤ p1 ∧ p1 ≤ 3) (u_0 : h.2 0 25 = 0) : zT shM l yX11_readsText cX11_readsText 2 (some .int) (rmL 10) 0 0 [.inr 0, .inl p1] h (q_X11_readsText h p1) := by
  refine zT_of (by decide +kernel) (L0 := [some (.inr 0), some (.inl p1)]) rfl (Nat.le_of_ble_eq_true rfl) ?_
  refine zj_aload_n (zdk ttX11_readsText 0 rfl rfl) rfl (by decide) ?_
  refine zj_iconst (zdk ttX11_readsText 1 rfl rfl) ?_
  refine zj_puti (zdk ttX11_readsText 2 rfl rfl) zf_RX11_245 rfl (k_M s0) (Or.inl zw_RX11_245) (k2 := 24) rfl (fun h1 e2 => ?_)
  refine zj_aload_n (zdk ttX11_readsText 3 rfl rfl) rfl (by decide) ?_
  have s3 : okM h1 := fwM_24 s0 e2 (by omega)
  refine zj_callV (av := []) (st := []) (zdk ttX11_readsText 4 rfl rfl) mb_X11_reads mv_RX11_204 (ci := 11) rfl rfl (k_M s3) rfl rfl (Nat.le_of_ble_eq_true rfl) (s_X11_reads l h1 s3) (rm_ok (by decide) (by decide)) (zq_v fun h6 q4 => ?_)
  obtain ⟨s8, f11, u9, u10⟩ := q4
  refine zj_iload_n (zdk ttX11_readsText 5 rfl rfl) rfl ?_
  refine zj_iconst (zdk ttX11_readsText 6 rfl rfl) ?_
  refine zj_icmp_ne (t := 19) (zdk ttX11_readsText 7 rfl rfl) (by decide) (by omega) (by decide) (fun c12 => ?_) (fun c12 => ?_)
  · refine zj_iload_n (zdk ttX11_readsText 11 rfl rfl) rfl ?_
    refine zj_iconst (zdk ttX11_readsText 12 rfl rfl) ?_
    refine zj_icmp_ne (t := 29) (zdk ttX11_readsText 13 rfl rfl) (by decide) (by omega) (by decide) (fun c13 => ?_) (fun c13 => ?_)
    · refine zj_iload_n (zdk ttX11_readsText 17 rfl rfl) rfl ?_
      refine zj_iconst (zdk ttX11_readsText 18 rfl rfl) ?_
      refine zj_icmp_ne (t := 41) (zdk ttX11_readsText 19 rfl rfl) (by decide) (by omega) (by decide) (fun c14 => ?_) (fun c14 => ?_)
      · refine zj_aload_n (zdk ttX11_readsText 23 rfl rfl) rfl (by decide) ?_
        have b15 : h6.2 0 25 = (h.2 0 25) := ((zfr_f f11 rfl rfl).trans (zwr_r e2 (by first | decide | exact (absurd ·.1 (by decide)) | exact (absurd ·.2 (by decide)) | omega)))
        have b16 : 0 ≤ (h.2 0 25) ∧ (h.2 0 25) ≤ 400 := fM_25 s0
        have b17 : 0 ≤ (h6.2 0 13) ∧ (h6.2 0 13) ≤ 400 := fM_13 s8
        refine zj_callV (av := []) (st := []) (zdk ttX11_readsText 24 rfl rfl) mb_X11_readLaw mv_RX11_279 (ci := 11) rfl rfl (k_M s8) rfl rfl (Nat.le_of_ble_eq_true rfl) (s_X11_readLaw l h6 s8 u9 (by omega)) (rm_ok (by decide) (by decide)) (zq_i fun v19 h20 q18 => ?_)
        obtain ⟨b21, s22, f24, u23⟩ := q18
        have f27 : zfr [12, 13, 14, 15, 24, 25, 26, 28, 29, 30] [10, 11, 12, 13, 14, 15, 16, 17, 18, 19] h h1 := zfr_wf (zfr_r _ _ _) e2 rfl
        have f26 : zfr [12, 13, 14, 15, 24, 25, 26, 28, 29, 30] [10, 11, 12, 13, 14, 15, 16, 17, 18, 19] h h6 := zfr_t f27 f11 rfl rfl
        have f25 : zfr [12, 13, 14, 15, 24, 25, 26, 28, 29, 30] [10, 11, 12, 13, 14, 15, 16, 17, 18, 19] h h20 := zfr_t f26 f24 rfl rfl
        exact zj_iret rfl (zdk ttX11_readsText 25 rfl rfl) (Nat.le_refl _) (Nat.le_refl _) ⟨v19, rfl, by omega, s22, f25, (fun _ => u23), (fun q => absurd q (by omega))⟩
      · refine zj_aload_n (zdk ttX11_readsText 20 rfl rfl) rfl (by decide) ?_
        refine zj_callV (av := []) (st := []) (zdk ttX11_readsText 21 rfl rfl) mb_X11_readAllKin mv_RX11_276 (ci := 11) rfl rfl (k_M s8) rfl rfl (Nat.le_of_ble_eq_true rfl) (s_X11_readAllKin l h6 s8) (rm_ok (by decide) (by decide)) (zq_i fun v29 h30 q28 => ?_)
        obtain ⟨b31, s32, f33⟩ := q28
        refine zj_goto (t := 45) (zdk ttX11_readsText 22 rfl rfl) (by decide) ?_
        have f36 : zfr [12, 13, 14, 15, 24, 25, 26, 28, 29, 30] [10, 11, 12, 13, 14, 15, 16, 17, 18, 19] h h1 := zfr_wf (zfr_r _ _ _) e2 rfl
        have f35 : zfr [12, 13, 14, 15, 24, 25, 26, 28, 29, 30] [10, 11, 12, 13, 14, 15, 16, 17, 18, 19] h h6 := zfr_t f36 f11 rfl rfl
        have f34 : zfr [12, 13, 14, 15, 24, 25, 26, 28, 29, 30] [10, 11, 12, 13, 14, 15, 16, 17, 18, 19] h h30 := zfr_t f35 f33 rfl rfl
        exact zj_iret rfl (zdk ttX11_readsText 25 rfl rfl) (Nat.le_refl _) (Nat.le_refl _) ⟨v29, rfl, by omega, s32, f34, (fun q => absurd q (by omega)), (fun q => absurd q (by omega))⟩
    · refine zj_aload_n (zdk ttX11_readsText 14 rfl rfl) rfl (by decide) ?_
      refine zj_callV (av := []) (st := []) (zdk ttX11_readsText 15 rfl rfl) mb_X11_readTown mv_RX11_273 (ci := 11) rfl rfl (k_M s8) rfl rfl (Nat.le_of_ble_eq_true rfl) (s_X11_readTown l h6 s8) (rm_ok (by decide) (by decide)) (zq_i fun v38 h39 q37 => ?_)
      obtain ⟨b40, s41, f43, u42⟩ := q37
      have f46 : zfr [12, 13, 14, 15, 24, 25, 26, 28, 29, 30] [10, 11, 12, 13, 14, 15, 16, 17, 18, 19] h h1 := zfr_wf (zfr_r _ _ _) e2 rfl
      have f45 : zfr [12, 13, 14, 15, 24, 25, 26, 28, 29, 30] [10, 11, 12, 13, 14, 15, 16, 17, 18, 19] h h6 := zfr_t f46 f11 rfl rfl
      have f44 : zfr [12, 13, 14, 15, 24, 25, 26, 28, 29, 30] [10, 11, 12, 13, 14, 15, 16, 17, 18, 19] h h39 := zfr_t f45 f43 rfl rfl
      exact zj_iret rfl (zdk ttX11_readsText 16 rfl rfl) (Nat.le_refl _) (Nat.le_refl _) ⟨v38, rfl, by omega, s41, f44, (fun q => absurd q (by omega)), (fun _ => u42)⟩
  · refine zj_aload_n (zdk ttX11_readsText 8 rfl rfl) rfl (by decide) ?_
    refine zj_callV (av := []) (st := []) (zdk ttX11_readsText 9 rfl rfl) mb_X11_readBoats mv_RX11_270 (ci := 11) rfl rfl (k_M s8) rfl rfl (Nat.le_of_ble_eq_true rfl) (s_X11_readBoats l h6 s8) (rm_ok (by decide) (by decide)) (zq_i fun v48 h49 q47 => ?_)
    obtain ⟨b50, s51, f52⟩ := q47
    have f55 : zfr [12, 13, 14, 15, 24, 25, 26, 28, 29, 30] [10, 11, 12, 13, 14, 15, 16, 17, 18, 19] h h1 := zfr_wf (zfr_r _ _ _) e2 rfl
    have f54 : zfr [12, 13, 14, 15, 24, 25, 26, 28, 29, 30] [10, 11, 12, 13, 14, 15, 16, 17, 18, 19] h h6 := zfr_t f55 f11 rfl rfl
    have f53 : zfr [12, 13, 14, 15, 24, 25, 26, 28, 29, 30] [10, 11, 12, 13, 14, 15, 16, 17, 18, 19] h h49 := zfr_t f54 f52 rfl rfl
    exact zj_iret rfl (zdk ttX11_readsText 10 rfl rfl) (Nat.le_refl _) (Nat.le_refl _) ⟨v48, rfl, by omega, s51, f53, (fun q => absurd q (by omega)), (fun q => absurd q (by omega))⟩

abbrev tX11_text : List (Nat × Instr × Nat) := [(0, .aload_n 0, 1), (1, .iconst 0, 1), (2, .putfield 120, 3), (5, .aload_n 0, 1), (6, .iconst 0, 1), (7, .putfield 291, 3), (10, .aload_n 0, 1), (11, .iconst (-1), 1), (12, .putfield 58, 3), (15, .aload_n 0, 1), (16, .iconst 0, 1), (17, .putfield 156, 3), (20, .aload_n 0, 1), (21, .iconst 0, 1), (22, .putfield 191, 3), (25, .aload_n 0, 1), (26, .iconst 0, 1), (27, .putfield 223, 3), (30, .iconst (-1), 1), (31, .istore_n 2, 1), (32, .aload_n 0, 1), (33, .iload_n 1, 1), (34, .iconst 0, 1), (35, .iconst 3, 1), (36, .invokevirtual 139, 3), (39, .ifCond .eq 30, 3), (42, .aload_n 0, 1), (43, .iload_n 1, 1), (44, .invokevirtual 294, 3), (47, .istore_n 2, 1), (48, .iload_n 2, 1), (49, .iconst (-1), 1), (50, .if_icmp .ne 19, 3), (53, .aload_n 0, 1), (54, .aload_n 0, 1), (55, .getfield 185, 3), (58, .putfield 291, 3), (61, .aload_n 0, 1), (62, .aload_n 0, 1), (63, .getfield 188, 3), (66, .putfield 58, 3), (69, .aload_n 0, 1), (70, .iconst 0, 1), (71, .putfield 149, 3), (74, .iload_n 2, 1), (75, .iconst (-1), 1), (76, .if_icmp .ne 5, 3), (79, .iconst (-1), 1), (80, .ireturn, 1), (81, .iload_n 1, 1), (82, .ifCond .ne 11, 3), (85, .aload_n 0, 1), (86, .iload_n 2, 1), (87, .invokevirtual 297, 3), (90, .goto 9, 3), (93, .aload_n 0, 1), (94, .iload_n 1, 1), (95, .iload_n 2, 1), (96, .invokevirtual 300, 3), (99, .iload_n 2, 1), (100, .ireturn, 1)]
theorem ttX11_text : zdt cX11_text tX11_text = true := by decide +kernel
abbrev q_X11_text (h : zM) (p1 : Int) : Option zV → zM → Prop := zqi fun v h' => ((-2147483648) ≤ v ∧ v ≤ 2147483647) ∧ okM h' ∧ zfr [0, 3, 11, 12, 13, 14, 15, 24, 25, 26, 28, 29, 30, 31, 32, 33, 35, 37] [9, 10, 11, 12, 13, 14, 15, 16, 17, 18, 19] h h'
set_option maxRecDepth 100000 in
set_option maxHeartbeats 4000000 in
theorem s_X11_text (l : Launch) (h : zM) (p1 : Int) (s0 : okM h) (b_p1 : (-2147483648) ≤ p1 ∧ p1 ≤ 2147483647) : zT shM l yX11_text cX11_text 3 (some .int) (rmL 11) 0 0 [.inr 0, .inl p1] h (q_X11_text h p1) := by
  refine zT_of (by decide +kernel) (L0 := [some (.inr 0), some (.inl p1), none]) rfl (Nat.le_of_ble_eq_true rfl) ?_
  refine zj_aload_n (zdk ttX11_text 0 rfl rfl) rfl (by decide) ?_
  refine zj_iconst (zdk ttX11_text 1 rfl rfl) ?_
  refine zj_puti (zdk ttX11_text 2 rfl rfl) zf_RX11_120 rfl (k_M s0) (Or.inl zw_RX11_120) (k2 := 0) rfl (fun h1 e2 => ?_)
  refine zj_aload_n (zdk ttX11_text 3 rfl rfl) rfl (by decide) ?_
  refine zj_iconst (zdk ttX11_text 4 rfl rfl) ?_
  have s3 : okM h1 := fwM_0 s0 e2 (by omega)
  refine zj_puti (zdk ttX11_text 5 rfl rfl) zf_RX11_291 rfl (k_M s3) (Or.inl zw_RX11_291) (k2 := 31) rfl (fun h4 e5 => ?_)
  refine zj_aload_n (zdk ttX11_text 6 rfl rfl) rfl (by decide) ?_
  refine zj_iconst (zdk ttX11_text 7 rfl rfl) ?_
  have s6 : okM h4 := fwM_31 s3 e5 (by omega)
  refine zj_puti (zdk ttX11_text 8 rfl rfl) zf_RX11_58 rfl (k_M s6) (Or.inl zw_RX11_58) (k2 := 32) rfl (fun h7 e8 => ?_)
  refine zj_aload_n (zdk ttX11_text 9 rfl rfl) rfl (by decide) ?_
  refine zj_iconst (zdk ttX11_text 10 rfl rfl) ?_
  have s9 : okM h7 := fwM_32 s6 e8 (by omega)
  refine zj_puti (zdk ttX11_text 11 rfl rfl) zf_RX11_156 rfl (k_M s9) (Or.inl zw_RX11_156) (k2 := 12) rfl (fun h10 e11 => ?_)
  refine zj_aload_n (zdk ttX11_text 12 rfl rfl) rfl (by decide) ?_
  refine zj_iconst (zdk ttX11_text 13 rfl rfl) ?_
  have s12 : okM h10 := fwM_12 s9 e11 (by omega)
  refine zj_puti (zdk ttX11_text 14 rfl rfl) zf_RX11_191 rfl (k_M s12) (Or.inl zw_RX11_191) (k2 := 25) rfl (fun h13 e14 => ?_)
  refine zj_aload_n (zdk ttX11_text 15 rfl rfl) rfl (by decide) ?_
  refine zj_iconst (zdk ttX11_text 16 rfl rfl) ?_
  have s15 : okM h13 := fwM_25 s12 e14 (by omega)
  refine zj_puti (zdk ttX11_text 17 rfl rfl) zf_RX11_223 rfl (k_M s15) (Or.inl zw_RX11_223) (k2 := 26) rfl (fun h16 e17 => ?_)
  refine zj_iconst (zdk ttX11_text 18 rfl rfl) ?_
  refine zj_istore_n (L' := [some (.inr 0), some (.inl p1), some (.inl (-1))]) (zdk ttX11_text 19 rfl rfl) (by decide) rfl ?_
  refine zj_aload_n (zdk ttX11_text 20 rfl rfl) rfl (by decide) ?_
  refine zj_iload_n (zdk ttX11_text 21 rfl rfl) rfl ?_
  refine zj_iconst (zdk ttX11_text 22 rfl rfl) ?_
  refine zj_iconst (zdk ttX11_text 23 rfl rfl) ?_
  have s18 : okM h16 := fwM_26 s15 e17 (by omega)
  refine zj_callV (av := [.inl p1, .inl 0, .inl 3]) (st := []) (zdk ttX11_text 24 rfl rfl) mb_X11_isIn mv_RX11_139 (ci := 11) rfl rfl (k_M s18) rfl rfl (Nat.le_of_ble_eq_true rfl) (s_X11_isIn l h16 p1 0 3 s18 (by omega) (by omega) (by omega)) (rm_ok (by decide) (by decide)) (zq_i fun v20 h21 q19 => ?_)
  obtain ⟨rfl, ⟨rfl, b22⟩ | ⟨rfl, b22⟩⟩ := q19
  · refine zj_if_eq (t := 69) (zdk ttX11_text 25 rfl rfl) (by decide) (by decide) (fun c23 => ?_) (fun c23 => ?_)
    · refine zj_aload_n (zdk ttX11_text 41 rfl rfl) rfl (by decide) ?_
      refine zj_iconst (zdk ttX11_text 42 rfl rfl) ?_
      refine zj_puti (zdk ttX11_text 43 rfl rfl) zf_RX11_149 rfl (k_M s18) (Or.inl zw_RX11_149) (k2 := 11) rfl (fun h24 e25 => ?_)
      refine zj_iload_n (zdk ttX11_text 44 rfl rfl) rfl ?_
      refine zj_iconst (zdk ttX11_text 45 rfl rfl) ?_
      refine zj_icmp_ne (t := 81) (zdk ttX11_text 46 rfl rfl) (by decide) (by decide) (by decide) (fun c26 => ?_) (fun c26 => ?_)
      · exact absurd c26 (by omega)
      · refine zj_iconst (zdk ttX11_text 47 rfl rfl) ?_
        have s27 : okM h24 := fwM_11 s18 e25 (by omega)
        have f34 : zfr [0, 3, 11, 12, 13, 14, 15, 24, 25, 26, 28, 29, 30, 31, 32, 33, 35, 37] [9, 10, 11, 12, 13, 14, 15, 16, 17, 18, 19] h h1 := zfr_wf (zfr_r _ _ _) e2 rfl
        have f33 : zfr [0, 3, 11, 12, 13, 14, 15, 24, 25, 26, 28, 29, 30, 31, 32, 33, 35, 37] [9, 10, 11, 12, 13, 14, 15, 16, 17, 18, 19] h h4 := zfr_wf f34 e5 rfl
        have f32 : zfr [0, 3, 11, 12, 13, 14, 15, 24, 25, 26, 28, 29, 30, 31, 32, 33, 35, 37] [9, 10, 11, 12, 13, 14, 15, 16, 17, 18, 19] h h7 := zfr_wf f33 e8 rfl
        have f31 : zfr [0, 3, 11, 12, 13, 14, 15, 24, 25, 26, 28, 29, 30, 31, 32, 33, 35, 37] [9, 10, 11, 12, 13, 14, 15, 16, 17, 18, 19] h h10 := zfr_wf f32 e11 rfl
        have f30 : zfr [0, 3, 11, 12, 13, 14, 15, 24, 25, 26, 28, 29, 30, 31, 32, 33, 35, 37] [9, 10, 11, 12, 13, 14, 15, 16, 17, 18, 19] h h13 := zfr_wf f31 e14 rfl
        have f29 : zfr [0, 3, 11, 12, 13, 14, 15, 24, 25, 26, 28, 29, 30, 31, 32, 33, 35, 37] [9, 10, 11, 12, 13, 14, 15, 16, 17, 18, 19] h h16 := zfr_wf f30 e17 rfl
        have f28 : zfr [0, 3, 11, 12, 13, 14, 15, 24, 25, 26, 28, 29, 30, 31, 32, 33, 35, 37] [9, 10, 11, 12, 13, 14, 15, 16, 17, 18, 19] h h24 := zfr_wf f29 e25 rfl
        exact zj_iret rfl (zdk ttX11_text 48 rfl rfl) (Nat.le_refl _) (Nat.le_refl _) ⟨(-1), rfl, by omega, s27, f28⟩
    · exact absurd c23 (by omega)
  · refine zj_if_eq (t := 69) (zdk ttX11_text 25 rfl rfl) (by decide) (by decide) (fun c35 => ?_) (fun c35 => ?_)
    · exact absurd c35 (by omega)
    · refine zj_aload_n (zdk ttX11_text 26 rfl rfl) rfl (by decide) ?_
      refine zj_iload_n (zdk ttX11_text 27 rfl rfl) rfl ?_
      have b36 : h16.2 0 25 = 0 := ((zwr_r e17 (by first | decide | exact (absurd ·.1 (by decide)) | exact (absurd ·.2 (by decide)) | omega)).trans (zwr_v e14))
      refine zj_callV (av := [.inl p1]) (st := []) (zdk ttX11_text 28 rfl rfl) mb_X11_readsText mv_RX11_294 (ci := 11) rfl rfl (k_M s18) rfl rfl (Nat.le_of_ble_eq_true rfl) (s_X11_readsText l h16 p1 s18 (by omega) (by omega)) (rm_ok (by decide) (by decide)) (zq_i fun v38 h39 q37 => ?_)
      obtain ⟨b40, s41, f44, u42, u43⟩ := q37
      refine zj_istore_n (L' := [some (.inr 0), some (.inl p1), some (.inl v38)]) (zdk ttX11_text 29 rfl rfl) (by decide) rfl ?_
      refine zj_iload_n (zdk ttX11_text 30 rfl rfl) rfl ?_
      refine zj_iconst (zdk ttX11_text 31 rfl rfl) ?_
      refine zj_icmp_ne (t := 69) (zdk ttX11_text 32 rfl rfl) (by decide) (by omega) (by decide) (fun c45 => ?_) (fun c45 => ?_)
      · refine zj_aload_n (zdk ttX11_text 41 rfl rfl) rfl (by decide) ?_
        refine zj_iconst (zdk ttX11_text 42 rfl rfl) ?_
        refine zj_puti (zdk ttX11_text 43 rfl rfl) zf_RX11_149 rfl (k_M s41) (Or.inl zw_RX11_149) (k2 := 11) rfl (fun h46 e47 => ?_)
        refine zj_iload_n (zdk ttX11_text 44 rfl rfl) rfl ?_
        refine zj_iconst (zdk ttX11_text 45 rfl rfl) ?_
        refine zj_icmp_ne (t := 81) (zdk ttX11_text 46 rfl rfl) (by decide) (by omega) (by decide) (fun c48 => ?_) (fun c48 => ?_)
        · refine zj_iload_n (zdk ttX11_text 49 rfl rfl) rfl ?_
          refine zj_if_ne (t := 93) (zdk ttX11_text 50 rfl rfl) (by decide) (by omega) (fun c49 => ?_) (fun c49 => ?_)
          · refine zj_aload_n (zdk ttX11_text 55 rfl rfl) rfl (by decide) ?_
            refine zj_iload_n (zdk ttX11_text 56 rfl rfl) rfl ?_
            refine zj_iload_n (zdk ttX11_text 57 rfl rfl) rfl ?_
            have s50 : okM h46 := fwM_11 s41 e47 (by omega)
            refine zj_callV (av := [.inl p1, .inl v38]) (st := []) (zdk ttX11_text 58 rfl rfl) mb_X11_takesOther mv_RX11_300 (ci := 11) rfl rfl (k_M s50) rfl rfl (Nat.le_of_ble_eq_true rfl) (s_X11_takesOther l h46 p1 v38 s50 (by omega) (by omega) (fun q j j1 j2 => by rw [zwr_r e47 (by first | decide | exact (absurd ·.1 (by decide)) | exact (absurd ·.2 (by decide)) | omega), zwr_r e47 (by first | decide | exact (absurd ·.1 (by decide)) | exact (absurd ·.2 (by decide)) | omega)]; exact u43 q j j1 j2)) (rm_ok (by decide) (by decide)) (zq_v fun h53 q51 => ?_)
            obtain ⟨s55, f56⟩ := q51
            refine zj_iload_n (zdk ttX11_text 59 rfl rfl) rfl ?_
            have f65 : zfr [0, 3, 11, 12, 13, 14, 15, 24, 25, 26, 28, 29, 30, 31, 32, 33, 35, 37] [9, 10, 11, 12, 13, 14, 15, 16, 17, 18, 19] h h1 := zfr_wf (zfr_r _ _ _) e2 rfl
            have f64 : zfr [0, 3, 11, 12, 13, 14, 15, 24, 25, 26, 28, 29, 30, 31, 32, 33, 35, 37] [9, 10, 11, 12, 13, 14, 15, 16, 17, 18, 19] h h4 := zfr_wf f65 e5 rfl
            have f63 : zfr [0, 3, 11, 12, 13, 14, 15, 24, 25, 26, 28, 29, 30, 31, 32, 33, 35, 37] [9, 10, 11, 12, 13, 14, 15, 16, 17, 18, 19] h h7 := zfr_wf f64 e8 rfl
            have f62 : zfr [0, 3, 11, 12, 13, 14, 15, 24, 25, 26, 28, 29, 30, 31, 32, 33, 35, 37] [9, 10, 11, 12, 13, 14, 15, 16, 17, 18, 19] h h10 := zfr_wf f63 e11 rfl
            have f61 : zfr [0, 3, 11, 12, 13, 14, 15, 24, 25, 26, 28, 29, 30, 31, 32, 33, 35, 37] [9, 10, 11, 12, 13, 14, 15, 16, 17, 18, 19] h h13 := zfr_wf f62 e14 rfl
            have f60 : zfr [0, 3, 11, 12, 13, 14, 15, 24, 25, 26, 28, 29, 30, 31, 32, 33, 35, 37] [9, 10, 11, 12, 13, 14, 15, 16, 17, 18, 19] h h16 := zfr_wf f61 e17 rfl
            have f59 : zfr [0, 3, 11, 12, 13, 14, 15, 24, 25, 26, 28, 29, 30, 31, 32, 33, 35, 37] [9, 10, 11, 12, 13, 14, 15, 16, 17, 18, 19] h h39 := zfr_t f60 f44 rfl rfl
            have f58 : zfr [0, 3, 11, 12, 13, 14, 15, 24, 25, 26, 28, 29, 30, 31, 32, 33, 35, 37] [9, 10, 11, 12, 13, 14, 15, 16, 17, 18, 19] h h46 := zfr_wf f59 e47 rfl
            have f57 : zfr [0, 3, 11, 12, 13, 14, 15, 24, 25, 26, 28, 29, 30, 31, 32, 33, 35, 37] [9, 10, 11, 12, 13, 14, 15, 16, 17, 18, 19] h h53 := zfr_t f58 f56 rfl rfl
            exact zj_iret rfl (zdk ttX11_text 60 rfl rfl) (Nat.le_refl _) (Nat.le_refl _) ⟨v38, rfl, by omega, s55, f57⟩
          · refine zj_aload_n (zdk ttX11_text 51 rfl rfl) rfl (by decide) ?_
            refine zj_iload_n (zdk ttX11_text 52 rfl rfl) rfl ?_
            have s66 : okM h46 := fwM_11 s41 e47 (by omega)
            refine zj_callV (av := [.inl v38]) (st := []) (zdk ttX11_text 53 rfl rfl) mb_X11_takesLaw mv_RX11_297 (ci := 11) rfl rfl (k_M s66) rfl rfl (Nat.le_of_ble_eq_true rfl) (s_X11_takesLaw l h46 v38 s66 (by omega) (zLn_f (u42 (by omega) (by omega)) e47 (by decide))) (rm_ok (by decide) (by decide)) (zq_v fun h69 q67 => ?_)
            obtain ⟨s71, f72⟩ := q67
            refine zj_goto (t := 99) (zdk ttX11_text 54 rfl rfl) (by decide) ?_
            refine zj_iload_n (zdk ttX11_text 59 rfl rfl) rfl ?_
            have f81 : zfr [0, 3, 11, 12, 13, 14, 15, 24, 25, 26, 28, 29, 30, 31, 32, 33, 35, 37] [9, 10, 11, 12, 13, 14, 15, 16, 17, 18, 19] h h1 := zfr_wf (zfr_r _ _ _) e2 rfl
            have f80 : zfr [0, 3, 11, 12, 13, 14, 15, 24, 25, 26, 28, 29, 30, 31, 32, 33, 35, 37] [9, 10, 11, 12, 13, 14, 15, 16, 17, 18, 19] h h4 := zfr_wf f81 e5 rfl
            have f79 : zfr [0, 3, 11, 12, 13, 14, 15, 24, 25, 26, 28, 29, 30, 31, 32, 33, 35, 37] [9, 10, 11, 12, 13, 14, 15, 16, 17, 18, 19] h h7 := zfr_wf f80 e8 rfl
            have f78 : zfr [0, 3, 11, 12, 13, 14, 15, 24, 25, 26, 28, 29, 30, 31, 32, 33, 35, 37] [9, 10, 11, 12, 13, 14, 15, 16, 17, 18, 19] h h10 := zfr_wf f79 e11 rfl
            have f77 : zfr [0, 3, 11, 12, 13, 14, 15, 24, 25, 26, 28, 29, 30, 31, 32, 33, 35, 37] [9, 10, 11, 12, 13, 14, 15, 16, 17, 18, 19] h h13 := zfr_wf f78 e14 rfl
            have f76 : zfr [0, 3, 11, 12, 13, 14, 15, 24, 25, 26, 28, 29, 30, 31, 32, 33, 35, 37] [9, 10, 11, 12, 13, 14, 15, 16, 17, 18, 19] h h16 := zfr_wf f77 e17 rfl
            have f75 : zfr [0, 3, 11, 12, 13, 14, 15, 24, 25, 26, 28, 29, 30, 31, 32, 33, 35, 37] [9, 10, 11, 12, 13, 14, 15, 16, 17, 18, 19] h h39 := zfr_t f76 f44 rfl rfl
            have f74 : zfr [0, 3, 11, 12, 13, 14, 15, 24, 25, 26, 28, 29, 30, 31, 32, 33, 35, 37] [9, 10, 11, 12, 13, 14, 15, 16, 17, 18, 19] h h46 := zfr_wf f75 e47 rfl
            have f73 : zfr [0, 3, 11, 12, 13, 14, 15, 24, 25, 26, 28, 29, 30, 31, 32, 33, 35, 37] [9, 10, 11, 12, 13, 14, 15, 16, 17, 18, 19] h h69 := zfr_t f74 f72 rfl rfl
            exact zj_iret rfl (zdk ttX11_text 60 rfl rfl) (Nat.le_refl _) (Nat.le_refl _) ⟨v38, rfl, by omega, s71, f73⟩
        · exact absurd c48 (by omega)
      · refine zj_aload_n (zdk ttX11_text 33 rfl rfl) rfl (by decide) ?_
        refine zj_aload_n (zdk ttX11_text 34 rfl rfl) rfl (by decide) ?_
        have b82 : -2147483648 ≤ (h39.2 0 29) ∧ (h39.2 0 29) ≤ 2147483647 := fM_29 s41
        refine zj_geti (v := (h39.2 0 29)) (zdk ttX11_text 35 rfl rfl) zf_RX11_185 rfl (k_M s41) rfl ?_
        refine zj_puti (zdk ttX11_text 36 rfl rfl) zf_RX11_291 rfl (k_M s41) (Or.inl zw_RX11_291) (k2 := 31) rfl (fun h83 e84 => ?_)
        refine zj_aload_n (zdk ttX11_text 37 rfl rfl) rfl (by decide) ?_
        refine zj_aload_n (zdk ttX11_text 38 rfl rfl) rfl (by decide) ?_
        have b85 : -2147483648 ≤ (h39.2 0 30) ∧ (h39.2 0 30) ≤ 2147483647 := fM_30 s41
        have s86 : okM h83 := fwM_31 s41 e84 (by omega)
        refine zj_geti (v := (h39.2 0 30)) (zdk ttX11_text 39 rfl rfl) zf_RX11_188 rfl (k_M s86) (zwr_r e84 (by first | decide | exact (absurd ·.1 (by decide)) | exact (absurd ·.2 (by decide)) | omega)) ?_
        refine zj_puti (zdk ttX11_text 40 rfl rfl) zf_RX11_58 rfl (k_M s86) (Or.inl zw_RX11_58) (k2 := 32) rfl (fun h87 e88 => ?_)
        refine zj_aload_n (zdk ttX11_text 41 rfl rfl) rfl (by decide) ?_
        refine zj_iconst (zdk ttX11_text 42 rfl rfl) ?_
        have s89 : okM h87 := fwM_32 s86 e88 (by omega)
        refine zj_puti (zdk ttX11_text 43 rfl rfl) zf_RX11_149 rfl (k_M s89) (Or.inl zw_RX11_149) (k2 := 11) rfl (fun h90 e91 => ?_)
        refine zj_iload_n (zdk ttX11_text 44 rfl rfl) rfl ?_
        refine zj_iconst (zdk ttX11_text 45 rfl rfl) ?_
        refine zj_icmp_ne (t := 81) (zdk ttX11_text 46 rfl rfl) (by decide) (by omega) (by decide) (fun c92 => ?_) (fun c92 => ?_)
        · exact absurd c92 (by omega)
        · refine zj_iconst (zdk ttX11_text 47 rfl rfl) ?_
          have s93 : okM h90 := fwM_11 s89 e91 (by omega)
          have f103 : zfr [0, 3, 11, 12, 13, 14, 15, 24, 25, 26, 28, 29, 30, 31, 32, 33, 35, 37] [9, 10, 11, 12, 13, 14, 15, 16, 17, 18, 19] h h1 := zfr_wf (zfr_r _ _ _) e2 rfl
          have f102 : zfr [0, 3, 11, 12, 13, 14, 15, 24, 25, 26, 28, 29, 30, 31, 32, 33, 35, 37] [9, 10, 11, 12, 13, 14, 15, 16, 17, 18, 19] h h4 := zfr_wf f103 e5 rfl
          have f101 : zfr [0, 3, 11, 12, 13, 14, 15, 24, 25, 26, 28, 29, 30, 31, 32, 33, 35, 37] [9, 10, 11, 12, 13, 14, 15, 16, 17, 18, 19] h h7 := zfr_wf f102 e8 rfl
          have f100 : zfr [0, 3, 11, 12, 13, 14, 15, 24, 25, 26, 28, 29, 30, 31, 32, 33, 35, 37] [9, 10, 11, 12, 13, 14, 15, 16, 17, 18, 19] h h10 := zfr_wf f101 e11 rfl
          have f99 : zfr [0, 3, 11, 12, 13, 14, 15, 24, 25, 26, 28, 29, 30, 31, 32, 33, 35, 37] [9, 10, 11, 12, 13, 14, 15, 16, 17, 18, 19] h h13 := zfr_wf f100 e14 rfl
          have f98 : zfr [0, 3, 11, 12, 13, 14, 15, 24, 25, 26, 28, 29, 30, 31, 32, 33, 35, 37] [9, 10, 11, 12, 13, 14, 15, 16, 17, 18, 19] h h16 := zfr_wf f99 e17 rfl
          have f97 : zfr [0, 3, 11, 12, 13, 14, 15, 24, 25, 26, 28, 29, 30, 31, 32, 33, 35, 37] [9, 10, 11, 12, 13, 14, 15, 16, 17, 18, 19] h h39 := zfr_t f98 f44 rfl rfl
          have f96 : zfr [0, 3, 11, 12, 13, 14, 15, 24, 25, 26, 28, 29, 30, 31, 32, 33, 35, 37] [9, 10, 11, 12, 13, 14, 15, 16, 17, 18, 19] h h83 := zfr_wf f97 e84 rfl
          have f95 : zfr [0, 3, 11, 12, 13, 14, 15, 24, 25, 26, 28, 29, 30, 31, 32, 33, 35, 37] [9, 10, 11, 12, 13, 14, 15, 16, 17, 18, 19] h h87 := zfr_wf f96 e88 rfl
          have f94 : zfr [0, 3, 11, 12, 13, 14, 15, 24, 25, 26, 28, 29, 30, 31, 32, 33, 35, 37] [9, 10, 11, 12, 13, 14, 15, 16, 17, 18, 19] h h90 := zfr_wf f95 e91 rfl
          exact zj_iret rfl (zdk ttX11_text 48 rfl rfl) (Nat.le_refl _) (Nat.le_refl _) ⟨(-1), rfl, by omega, s93, f94⟩
