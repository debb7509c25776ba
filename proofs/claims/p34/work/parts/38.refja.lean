theorem zwr_vk {h h' : zM} {c k v l : Int} (e : h' = zwr h c k v) (hk : k = l) : h'.2 c l = v := by subst hk; rw [e, zwr_s]
theorem okM_law {h h' : zM} {n : Int} (s : okM h) (B : okB h') (f : zfr [] [9, 10, 11, 12, 13, 14, 15] h h') (hn : h'.2 9 0 = n) (hl : ∀ l, 0 ≤ l → l < n → h'.2 11 l = h.2 11 (32 + l) ∧ h'.2 12 l = h.2 12 (32 + l) ∧ h'.2 13 l = h.2 13 (32 + l)) (hc : ∀ i, 0 ≤ i → i < h.2 0 25 → h'.2 14 i = h.2 14 (800 + i) ∧ h'.2 15 i = h.2 15 (800 + i)) (q : zLn h n) : okM h' := by
  obtain ⟨s1, s2, s3, s4, s5, s6⟩ := s
  have p25 : 0 ≤ h.2 0 25 ∧ h.2 0 25 ≤ 400 := s2 0 25
  refine ⟨B.1, B.2, fun a j q1 => ?_, ⟨fun k q1 q2 => ?_, fun j q1 q2 => ?_, fun l l1 l2 => ?_⟩, fun z => ?_, ?_⟩
  · have : h'.2 a j = h.2 a j := by
      rcases (show a = 1 ∨ a = 2 ∨ a = 3 by omega) with rfl | rfl | rfl <;> exact zfr_a f rfl (by decide)
    rw [this]; exact s3 a j q1
  · rw [zfr_f f rfl rfl] at q2
    rw [zfr_a f rfl (by decide)]; exact s4.1 k q1 q2
  · rw [zfr_a f rfl (by decide), zfr_a f rfl (by decide)]; exact s4.2.1 j q1 q2
  · rw [hn] at l2
    obtain ⟨r1, r2, r3⟩ := q l l1 l2
    obtain ⟨o1, o2, o3⟩ := hl l l1 l2
    have e1 := wfS_le r1
    have e2 := wfS_le r2
    rw [o1, o2, o3]
    exact ⟨wfS_ext (fun k k1 k2 => hc k (by omega) (by omega)) r1, wfS_ext (fun k k1 k2 => hc k (by omega) (by omega)) r2, by omega⟩
  · rw [zfr_f f rfl rfl] at z
    obtain ⟨h0, r1, r2, r3⟩ := s5 z
    exact ⟨h0, fun j j1 j2 => by rw [zfr_a f rfl (by decide)]; exact r1 j j1 j2, r2, r3⟩
  · show h'.2 8 149 = 32
    rw [zfr_a f rfl (by decide)]; exact s6
theorem okM_deeds {h h' : zM} {n : Int} (s : okM h) (B : okB h') (f : zfr [3, 33, 35, 37] [17, 18, 19] h h') (d1 : ∀ j, 0 ≤ j → j < 3 * n → h'.2 18 j = h.2 18 (48 + j)) (d2 : ∀ j, 0 ≤ j → 3 * n ≤ j → h'.2 18 j = h.2 18 j) (hv : ∀ j, 0 ≤ j → j < n → wfD1 (h.2 18 (48 + 3 * j + 1)) (h.2 18 (48 + 3 * j + 2))) : okM h' := by
  obtain ⟨s1, s2, s3, s4, s5, s6⟩ := s
  refine ⟨B.1, B.2, fun a j q1 => ?_, ⟨fun k q1 q2 => ?_, fun j q1 q2 => ?_, ?_⟩, fun z => ?_, ?_⟩
  · have : h'.2 a j = h.2 a j := by
      rcases (show a = 1 ∨ a = 2 ∨ a = 3 by omega) with rfl | rfl | rfl <;> exact zfr_a f rfl (by decide)
    rw [this]; exact s3 a j q1
  · rw [zfr_f f rfl rfl] at q2
    rw [zfr_a f rfl (by decide)]; exact s4.1 k q1 q2
  · by_cases e : j < n
    · rw [d1 _ (by omega) (by omega), d1 _ (by omega) (by omega), show 48 + (3 * j + 1) = 48 + 3 * j + 1 by omega, show 48 + (3 * j + 2) = 48 + 3 * j + 2 by omega]
      exact hv j q1 e
    · rw [d2 _ (by omega) (by omega), d2 _ (by omega) (by omega)]; exact s4.2.1 j q1 q2
  · exact wfL_ext (zfr_a f rfl (by decide)) (s2 9 0).2 (fun l _ _ => ⟨zfr_a f rfl (by decide), zfr_a f rfl (by decide), zfr_a f rfl (by decide)⟩) (fun l _ _ => ⟨zfr_a f rfl (by decide), zfr_a f rfl (by decide)⟩) s4.2.2
  · rw [zfr_f f rfl rfl] at z
    obtain ⟨h0, r1, r2, r3⟩ := s5 z
    exact ⟨h0, fun j j1 j2 => by rw [zfr_a f rfl (by decide)]; exact r1 j j1 j2, r2, r3⟩
  · show h'.2 8 149 = 32
    rw [zfr_a f rfl (by decide)]; exact s6
theorem zLn_f {h h' : zM} {k v n : Int} (q : zLn h n) (e : h' = zwr h 0 k v) (hk : ¬ k = 25) : zLn h' n := by
  have en : ∀ a b, ¬ a = 0 → h'.2 a b = h.2 a b := fun a b z => by rw [e, zwr_n (fun w => z w.1)]
  have d1 : dop h' = dop h := funext fun _ => en 14 _ (by decide)
  have d2 : dar h' = dar h := funext fun _ => en 15 _ (by decide)
  have e25 : h'.2 0 25 = h.2 0 25 := by rw [e, zwr_n (fun w => hk w.2.symm)]
  intro l l1 l2
  rw [d1, d2, e25, en 11 _ (by decide), en 12 _ (by decide), en 13 _ (by decide)]
  exact q l l1 l2
abbrev tX11_takesLaw : List (Nat × Instr × Nat) := [(0, .iconst 0, 1), (1, .istore_n 2, 1), (2, .iload_n 2, 1), (3, .iload_n 1, 1), (4, .if_icmp .ge 101, 3), (7, .aload_n 0, 1), (8, .getfield 37, 3), (11, .bipush 16, 2), (13, .aload_n 0, 1), (14, .getfield 245, 3), (17, .imul, 1), (18, .iload_n 2, 1), (19, .iadd, 1), (20, .aload_n 0, 1), (21, .getfield 37, 3), (24, .bipush 32, 2), (26, .iload_n 2, 1), (27, .iadd, 1), (28, .iaload, 1), (29, .iastore, 1), (30, .aload_n 0, 1), (31, .getfield 40, 3), (34, .bipush 16, 2), (36, .aload_n 0, 1), (37, .getfield 245, 3), (40, .imul, 1), (41, .iload_n 2, 1), (42, .iadd, 1), (43, .aload_n 0, 1), (44, .getfield 40, 3), (47, .bipush 32, 2), (49, .iload_n 2, 1), (50, .iadd, 1), (51, .iaload, 1), (52, .iastore, 1), (53, .aload_n 0, 1), (54, .getfield 43, 3), (57, .bipush 16, 2), (59, .aload_n 0, 1), (60, .getfield 245, 3), (63, .imul, 1), (64, .iload_n 2, 1), (65, .iadd, 1), (66, .aload_n 0, 1), (67, .getfield 43, 3), (70, .bipush 32, 2), (72, .iload_n 2, 1), (73, .iadd, 1), (74, .iaload, 1), (75, .iastore, 1), (76, .aload_n 0, 1), (77, .getfield 46, 3), (80, .bipush 16, 2), (82, .aload_n 0, 1), (83, .getfield 245, 3), (86, .imul, 1), (87, .iload_n 2, 1), (88, .iadd, 1), (89, .aload_n 0, 1), (90, .getfield 46, 3), (93, .bipush 32, 2), (95, .iload_n 2, 1), (96, .iadd, 1), (97, .iaload, 1), (98, .iastore, 1), (99, .iinc 2 1, 3), (102, .goto (-100), 3), (105, .iconst 0, 1), (106, .istore_n 2, 1), (107, .iload_n 2, 1), (108, .aload_n 0, 1), (109, .getfield 191, 3), (112, .if_icmp .ge 59, 3), (115, .aload_n 0, 1), (116, .getfield 49, 3), (119, .sipush 400, 3), (122, .aload_n 0, 1), (123, .getfield 245, 3), (126, .imul, 1), (127, .iload_n 2, 1), (128, .iadd, 1), (129, .aload_n 0, 1), (130, .getfield 49, 3), (133, .sipush 800, 3), (136, .iload_n 2, 1), (137, .iadd, 1), (138, .iaload, 1), (139, .iastore, 1), (140, .aload_n 0, 1), (141, .getfield 52, 3), (144, .sipush 400, 3), (147, .aload_n 0, 1), (148, .getfield 245, 3), (151, .imul, 1), (152, .iload_n 2, 1), (153, .iadd, 1), (154, .aload_n 0, 1), (155, .getfield 52, 3), (158, .sipush 800, 3), (161, .iload_n 2, 1), (162, .iadd, 1), (163, .iaload, 1), (164, .iastore, 1), (165, .iinc 2 1, 3), (168, .goto (-61), 3), (171, .aload_n 0, 1), (172, .getfield 34, 3), (175, .aload_n 0, 1), (176, .getfield 245, 3), (179, .iload_n 1, 1), (180, .iastore, 1), (181, .return_, 1)]
theorem ttX11_takesLaw : zdt cX11_takesLaw tX11_takesLaw = true := by decide +kernel
abbrev tX11_takesOther : List (Nat × Instr × Nat) := [(0, .iload_n 1, 1), (1, .iconst 3, 1), (2, .if_icmp .ne 38, 3), (5, .iconst 0, 1), (6, .istore_n 3, 1), (7, .iload_n 3, 1), (8, .bipush 18, 2), (10, .if_icmp .ge 24, 3), (13, .aload_n 0, 1), (14, .getfield 68, 3), (17, .iload_n 3, 1), (18, .aload_n 0, 1), (19, .getfield 68, 3), (22, .bipush 18, 2), (24, .iload_n 3, 1), (25, .iadd, 1), (26, .iaload, 1), (27, .iastore, 1), (28, .iinc 3 1, 3), (31, .goto (-24), 3), (34, .aload_n 0, 1), (35, .iload_n 2, 1), (36, .putfield 282, 3), (39, .return_, 1), (40, .iload_n 1, 1), (41, .iconst 1, 1), (42, .if_icmp .ne 41, 3), (45, .iconst 0, 1), (46, .istore_n 3, 1), (47, .iload_n 3, 1), (48, .iconst 3, 1), (49, .iload_n 2, 1), (50, .imul, 1), (51, .if_icmp .ge 24, 3), (54, .aload_n 0, 1), (55, .getfield 62, 3), (58, .iload_n 3, 1), (59, .aload_n 0, 1), (60, .getfield 62, 3), (63, .bipush 48, 2), (65, .iload_n 3, 1), (66, .iadd, 1), (67, .iaload, 1), (68, .iastore, 1), (69, .iinc 3 1, 3), (72, .goto (-25), 3), (75, .aload_n 0, 1), (76, .iload_n 2, 1), (77, .putfield 285, 3), (80, .goto 38, 3), (83, .iconst 0, 1), (84, .istore_n 3, 1), (85, .iload_n 3, 1), (86, .iconst 3, 1), (87, .iload_n 2, 1), (88, .imul, 1), (89, .if_icmp .ge 24, 3), (92, .aload_n 0, 1), (93, .getfield 65, 3), (96, .iload_n 3, 1), (97, .aload_n 0, 1), (98, .getfield 65, 3), (101, .bipush 48, 2), (103, .iload_n 3, 1), (104, .iadd, 1), (105, .iaload, 1), (106, .iastore, 1), (107, .iinc 3 1, 3), (110, .goto (-25), 3), (113, .aload_n 0, 1), (114, .iload_n 2, 1), (115, .putfield 288, 3), (118, .aload_n 0, 1), (119, .iconst 0, 1), (120, .putfield 123, 3), (123, .return_, 1)]
theorem ttX11_takesOther : zdt cX11_takesOther tX11_takesOther = true := by decide +kernel
abbrev tX11_readsText : List (Nat × Instr × Nat) := [(0, .aload_n 0, 1), (1, .iconst 0, 1), (2, .putfield 245, 3), (5, .aload_n 0, 1), (6, .invokevirtual 204, 3), (9, .iload_n 1, 1), (10, .iconst 1, 1), (11, .if_icmp .ne 8, 3), (14, .aload_n 0, 1), (15, .invokevirtual 270, 3), (18, .ireturn, 1), (19, .iload_n 1, 1), (20, .iconst 2, 1), (21, .if_icmp .ne 8, 3), (24, .aload_n 0, 1), (25, .invokevirtual 273, 3), (28, .ireturn, 1), (29, .iload_n 1, 1), (30, .iconst 3, 1), (31, .if_icmp .ne 10, 3), (34, .aload_n 0, 1), (35, .invokevirtual 276, 3), (38, .goto 7, 3), (41, .aload_n 0, 1), (42, .invokevirtual 279, 3), (45, .ireturn, 1)]
theorem ttX11_readsText : zdt cX11_readsText tX11_readsText = true := by decide +kernel
abbrev tX11_text : List (Nat × Instr × Nat) := [(0, .aload_n 0, 1), (1, .iconst 0, 1), (2, .putfield 120, 3), (5, .aload_n 0, 1), (6, .iconst 0, 1), (7, .putfield 291, 3), (10, .aload_n 0, 1), (11, .iconst (-1), 1), (12, .putfield 58, 3), (15, .aload_n 0, 1), (16, .iconst 0, 1), (17, .putfield 156, 3), (20, .aload_n 0, 1), (21, .iconst 0, 1), (22, .putfield 191, 3), (25, .aload_n 0, 1), (26, .iconst 0, 1), (27, .putfield 223, 3), (30, .iconst (-1), 1), (31, .istore_n 2, 1), (32, .aload_n 0, 1), (33, .iload_n 1, 1), (34, .iconst 0, 1), (35, .iconst 3, 1), (36, .invokevirtual 139, 3), (39, .ifCond .eq 30, 3), (42, .aload_n 0, 1), (43, .iload_n 1, 1), (44, .invokevirtual 294, 3), (47, .istore_n 2, 1), (48, .iload_n 2, 1), (49, .iconst (-1), 1), (50, .if_icmp .ne 19, 3), (53, .aload_n 0, 1), (54, .aload_n 0, 1), (55, .getfield 185, 3), (58, .putfield 291, 3), (61, .aload_n 0, 1), (62, .aload_n 0, 1), (63, .getfield 188, 3), (66, .putfield 58, 3), (69, .aload_n 0, 1), (70, .iconst 0, 1), (71, .putfield 149, 3), (74, .iload_n 2, 1), (75, .iconst (-1), 1), (76, .if_icmp .ne 5, 3), (79, .iconst (-1), 1), (80, .ireturn, 1), (81, .iload_n 1, 1), (82, .ifCond .ne 11, 3), (85, .aload_n 0, 1), (86, .iload_n 2, 1), (87, .invokevirtual 297, 3), (90, .goto 9, 3), (93, .aload_n 0, 1), (94, .iload_n 1, 1), (95, .iload_n 2, 1), (96, .invokevirtual 300, 3), (99, .iload_n 2, 1), (100, .ireturn, 1)]
theorem ttX11_text : zdt cX11_text tX11_text = true := by decide +kernel
