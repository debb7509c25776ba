def RD (h h' : zM) : Prop := tok h' ∧ rdB 0 h h' ∧ rdP 1 h h'
theorem rdB_st {h h' : zM} {c k v : Int} (e : h' = zwr h c k v) (hc : ¬ c = 0 ∧ ¬ c = 14 ∧ ¬ c = 15) : rdB 0 h h' := by
  have en : ∀ a b, ¬ a = c → h'.2 a b = h.2 a b := fun a b q => by rw [e, zwr_n (fun z => q z.1)]
  refine ⟨fun k _ => ⟨en 14 _ (by omega), en 15 _ (by omega)⟩, ?_, ?_⟩
  · rw [en 0 25 (by omega)]; omega
  · rw [en 0 25 (by omega), en 0 13 (by omega)]; omega
theorem tok_st {h h' : zM} {c k v : Int} (t : tok h) (e : h' = zwr h c k v) (hc : ¬ c = 0) : tok h' := by
  unfold tok at t ⊢
  rw [e, zwr_n (by omega), zwr_n (by omega), zwr_n (by omega)]; exact t
theorem wfP_nil (op arg : Int → Int) (a : Int) : wfP op arg a a 0 := ⟨by omega, fun _ => 0, rfl, rfl, fun k q1 q2 => absurd q1 (by omega)⟩
theorem rdP_seg {h h' : zM} (q : rdP 1 h h') : wfP (dop h') (dar h') (h.2 0 25) (h'.2 0 25) 1 := q _ 0 (by omega) (wfP_nil _ _ _)
theorem wfP_up {h h' : zM} {s a b x : Int} (q : rdB s h h') (hb : b ≤ h.2 0 25) (w : wfP (dop h) (dar h) a b x) : wfP (dop h') (dar h') a b x := wfP_ext (fun k k1 k2 => q.1 k (by omega)) w
def zLn (H : zM) (n : Int) : Prop := ∀ l, 0 ≤ l → l < n → wfS (dop H) (dar H) (H.2 11 (32 + l)) (H.2 12 (32 + l)) ∧ wfS (dop H) (dar H) (H.2 12 (32 + l)) (H.2 13 (32 + l)) ∧ (0 ≤ H.2 11 (32 + l) ∧ H.2 13 (32 + l) ≤ H.2 0 25)
theorem zLn_s {H F : zM} {k s c0 c1 c2 : Int} (q : zLn H k) (b : rdB s H F) (old : ∀ l, 0 ≤ l → l < k → F.2 11 (32 + l) = H.2 11 (32 + l) ∧ F.2 12 (32 + l) = H.2 12 (32 + l) ∧ F.2 13 (32 + l) = H.2 13 (32 + l)) (n1 : F.2 11 (32 + k) = c0) (n2 : F.2 12 (32 + k) = c1) (n3 : F.2 13 (32 + k) = c2) (w1 : wfS (dop F) (dar F) c0 c1) (w2 : wfS (dop F) (dar F) c1 c2) (hc : 0 ≤ c0 ∧ c2 ≤ F.2 0 25) : zLn F (k + 1) := by
  intro l l1 l2
  by_cases e : l = k
  · rw [e, n1, n2, n3]; exact ⟨w1, w2, hc⟩
  · obtain ⟨o1, o2, o3⟩ := old l l1 (by omega)
    obtain ⟨r1, r2, r3⟩ := q l l1 (by omega)
    have e1 := wfS_le r1
    have e2 := wfS_le r2
    have bm := b.2.1
    rw [o1, o2, o3]
    exact ⟨wfS_ext (fun j j1 j2 => b.1 j (by omega)) r1, wfS_ext (fun j j1 j2 => b.1 j (by omega)) r2, by omega⟩
abbrev tX11_emits : List (Nat × Instr × Nat) := [(0, .aload_n 0, 1), (1, .getfield 49, 3), (4, .sipush 800, 3), (7, .aload_n 0, 1), (8, .getfield 191, 3), (11, .iadd, 1), (12, .iload_n 1, 1), (13, .iastore, 1), (14, .aload_n 0, 1), (15, .getfield 52, 3), (18, .sipush 800, 3), (21, .aload_n 0, 1), (22, .getfield 191, 3), (25, .iadd, 1), (26, .iload_n 2, 1), (27, .iastore, 1), (28, .aload_n 0, 1), (29, .aload_n 0, 1), (30, .getfield 191, 3), (33, .iconst 1, 1), (34, .iadd, 1), (35, .putfield 191, 3), (38, .return_, 1)]
theorem ttX11_emits : zdt cX11_emits tX11_emits = true := by decide +kernel
abbrev q_X11_emits (h : zM) (p1 : Int) (p2 : Int) : Option zV → zM → Prop := zqv fun h' => okM h' ∧ zfr [25] [14, 15] h h' ∧ (zEm h h' p1 p2)
set_option maxRecDepth 100000 in
set_option maxHeartbeats 4000000 in
theorem s_X11_emits (l : Launch) (h : zM) (p1 : Int) (p2 : Int) (s0 : okM h) (b_p1 : (-2147483648) ≤ p1 ∧ p1 ≤ 2147483647) (b_p2 : (-2147483648) ≤ p2 ∧ p2 ≤ 2147483647) (u_0 : h.2 0 25 ≤ 399) : zT shM l yX11_emits cX11_emits 3 none (rmL 1) 0 0 [.inr 0, .inl p1, .inl p2] h (q_X11_emits h p1 p2) := by
  refine zT_of (by decide +kernel) (L0 := [some (.inr 0), some (.inl p1), some (.inl p2)]) rfl (Nat.le_of_ble_eq_true rfl) ?_
  refine zj_aload_n (zdk ttX11_emits 0 rfl rfl) rfl (by decide) ?_
  refine zj_getr (r := 14) (zdk ttX11_emits 1 rfl rfl) zf_RX11_49 rfl (k_M s0) (rfM_22 s0) ?_
  refine zj_sipush (zdk ttX11_emits 2 rfl rfl) (by decide) ?_
  refine zj_aload_n (zdk ttX11_emits 3 rfl rfl) rfl (by decide) ?_
  have b1 : 0 ≤ (h.2 0 25) ∧ (h.2 0 25) ≤ 400 := fM_25 s0
  refine zj_geti (v := (h.2 0 25)) (zdk ttX11_emits 4 rfl rfl) zf_RX11_191 rfl (k_M s0) rfl ?_
  refine zj_iadd (zdk ttX11_emits 5 rfl rfl) ?_
  refine zj_iload_n (zdk ttX11_emits 6 rfl rfl) rfl ?_
  refine zj_iast (zdk ttX11_emits 7 rfl rfl) (kaM_14 s0) (by decide) (by omega) (fun h2 e3 => ?_)
  refine zj_aload_n (zdk ttX11_emits 8 rfl rfl) rfl (by decide) ?_
  have s4 : okM h2 := awM_14 s0 e3 (by omega) (by unfold nsp; omega)
  refine zj_getr (r := 15) (zdk ttX11_emits 9 rfl rfl) zf_RX11_52 rfl (k_M s4) (rfM_23 s4) ?_
  refine zj_sipush (zdk ttX11_emits 10 rfl rfl) (by decide) ?_
  refine zj_aload_n (zdk ttX11_emits 11 rfl rfl) rfl (by decide) ?_
  refine zj_geti (v := (h.2 0 25)) (zdk ttX11_emits 12 rfl rfl) zf_RX11_191 rfl (k_M s4) (zwr_r e3 (by first | decide | exact (absurd ·.1 (by decide)) | exact (absurd ·.2 (by decide)) | omega)) ?_
  refine zj_iadd (zdk ttX11_emits 13 rfl rfl) ?_
  refine zj_iload_n (zdk ttX11_emits 14 rfl rfl) rfl ?_
  refine zj_iast (zdk ttX11_emits 15 rfl rfl) (kaM_15 s4) (by decide) (by omega) (fun h5 e6 => ?_)
  refine zj_aload_n (zdk ttX11_emits 16 rfl rfl) rfl (by decide) ?_
  refine zj_aload_n (zdk ttX11_emits 17 rfl rfl) rfl (by decide) ?_
  have s7 : okM h5 := awM_15 s4 e6 (by omega) (by unfold nsp; omega)
  refine zj_geti (v := (h.2 0 25)) (zdk ttX11_emits 18 rfl rfl) zf_RX11_191 rfl (k_M s7) ((zwr_r e6 (by first | decide | exact (absurd ·.1 (by decide)) | exact (absurd ·.2 (by decide)) | omega)).trans (zwr_r e3 (by first | decide | exact (absurd ·.1 (by decide)) | exact (absurd ·.2 (by decide)) | omega))) ?_
  refine zj_iconst (zdk ttX11_emits 19 rfl rfl) ?_
  refine zj_iadd (zdk ttX11_emits 20 rfl rfl) ?_
  refine zj_puti (zdk ttX11_emits 21 rfl rfl) zf_RX11_191 rfl (k_M s7) (Or.inl zw_RX11_191) (k2 := 25) rfl (fun h8 e9 => ?_)
  have s10 : okM h8 := fwM_25 s7 e9 (by omega)
  have f13 : zfr [25] [14, 15] h h2 := zfr_wa (zfr_r _ _ _) e3 rfl
  have f12 : zfr [25] [14, 15] h h5 := zfr_wa f13 e6 rfl
  have f11 : zfr [25] [14, 15] h h8 := zfr_wf f12 e9 rfl
  have b14 : h8.2 0 25 = ((h.2 0 25) + 1) := (zwr_v e9)
  exact zj_vret rfl (zdk ttX11_emits 22 rfl rfl) (Nat.le_refl _) (Nat.le_refl _) ⟨rfl, s10, f11, ⟨by omega, ⟨((zwr_r e9 (by first | decide | exact (absurd ·.1 (by decide)) | exact (absurd ·.2 (by decide)) | omega)).trans (zwr_r e6 (by first | decide | exact (absurd ·.1 (by decide)) | exact (absurd ·.2 (by decide)) | omega))).trans (zwr_v e3), (zwr_r e9 (by first | decide | exact (absurd ·.1 (by decide)) | exact (absurd ·.2 (by decide)) | omega)).trans (zwr_v e6)⟩, fun k hk => ⟨((zwr_r e9 (by first | decide | exact (absurd ·.1 (by decide)) | exact (absurd ·.2 (by decide)) | omega)).trans (zwr_r e6 (by first | decide | exact (absurd ·.1 (by decide)) | exact (absurd ·.2 (by decide)) | omega))).trans (zwr_r e3 (by first | decide | exact (absurd ·.1 (by decide)) | exact (absurd ·.2 (by decide)) | omega)), ((zwr_r e9 (by first | decide | exact (absurd ·.1 (by decide)) | exact (absurd ·.2 (by decide)) | omega)).trans (zwr_r e6 (by first | decide | exact (absurd ·.1 (by decide)) | exact (absurd ·.2 (by decide)) | omega))).trans (zwr_r e3 (by first | decide | exact (absurd ·.1 (by decide)) | exact (absurd ·.2 (by decide)) | omega))⟩⟩⟩

abbrev tX11_readUnit : List (Nat × Instr × Nat) := [(0, .aload_n 0, 1), (1, .getfield 166, 3), (4, .iconst 2, 1), (5, .if_icmp .ne 18, 3), (8, .aload_n 0, 1), (9, .aload_n 0, 1), (10, .getfield 169, 3), (13, .invokevirtual 194, 3), (16, .ifCond .eq 7, 3), (19, .iconst 1, 1), (20, .goto 4, 3), (23, .iconst 0, 1), (24, .istore_n 1, 1), (25, .iload_n 1, 1), (26, .ifCond .ne 17, 3), (29, .aload_n 0, 1), (30, .getfield 166, 3), (33, .iconst 3, 1), (34, .if_icmp .eq 9, 3), (37, .aload_n 0, 1), (38, .iconst 1, 1), (39, .invokevirtual 197, 3), (42, .ireturn, 1), (43, .aload_n 0, 1), (44, .iload_n 1, 1), (45, .ifCond .eq 7, 3), (48, .iconst 1, 1), (49, .goto 4, 3), (52, .iconst 0, 1), (53, .iload_n 1, 1), (54, .ifCond .eq 13, 3), (57, .aload_n 0, 1), (58, .getfield 169, 3), (61, .bipush 7, 2), (63, .isub, 1), (64, .goto 7, 3), (67, .aload_n 0, 1), (68, .getfield 169, 3), (71, .invokevirtual 200, 3), (74, .aload_n 0, 1), (75, .invokevirtual 204, 3), (78, .iconst 0, 1), (79, .ireturn, 1)]
theorem ttX11_readUnit : zdt cX11_readUnit tX11_readUnit = true := by decide +kernel
abbrev tX11_readProduct : List (Nat × Instr × Nat) := [(0, .aload_n 0, 1), (1, .invokevirtual 207, 3), (4, .iconst (-1), 1), (5, .if_icmp .ne 5, 3), (8, .iconst (-1), 1), (9, .ireturn, 1), (10, .aload_n 0, 1), (11, .bipush 42, 2), (13, .invokevirtual 211, 3), (16, .ifCond .ne 12, 3), (19, .aload_n 0, 1), (20, .bipush 47, 2), (22, .invokevirtual 211, 3), (25, .ifCond .eq 76, 3), (28, .aload_n 0, 1), (29, .bipush 42, 2), (31, .invokevirtual 211, 3), (34, .istore_n 1, 1), (35, .aload_n 0, 1), (36, .invokevirtual 204, 3), (39, .iload_n 1, 1), (40, .ifCond .ne 17, 3), (43, .aload_n 0, 1), (44, .getfield 166, 3), (47, .iconst 3, 1), (48, .if_icmp .eq 9, 3), (51, .aload_n 0, 1), (52, .iconst 1, 1), (53, .invokevirtual 197, 3), (56, .ireturn, 1), (57, .iload_n 1, 1), (58, .ifCond .ne 16, 3), (61, .aload_n 0, 1), (62, .getfield 169, 3), (65, .ifCond .ne 9, 3), (68, .aload_n 0, 1), (69, .iconst 2, 1), (70, .invokevirtual 197, 3), (73, .ireturn, 1), (74, .aload_n 0, 1), (75, .invokevirtual 207, 3), (78, .iconst (-1), 1), (79, .if_icmp .ne 5, 3), (82, .iconst (-1), 1), (83, .ireturn, 1), (84, .aload_n 0, 1), (85, .iload_n 1, 1), (86, .ifCond .eq 7, 3), (89, .iconst 4, 1), (90, .goto 4, 3), (93, .iconst 5, 1), (94, .iconst 0, 1), (95, .invokevirtual 200, 3), (98, .goto (-88), 3), (101, .iconst 0, 1), (102, .ireturn, 1)]
theorem ttX11_readProduct : zdt cX11_readProduct tX11_readProduct = true := by decide +kernel
abbrev tX11_readSum : List (Nat × Instr × Nat) := [(0, .aload_n 0, 1), (1, .invokevirtual 214, 3), (4, .iconst (-1), 1), (5, .if_icmp .ne 5, 3), (8, .iconst (-1), 1), (9, .ireturn, 1), (10, .aload_n 0, 1), (11, .bipush 43, 2), (13, .invokevirtual 211, 3), (16, .ifCond .ne 12, 3), (19, .aload_n 0, 1), (20, .bipush 45, 2), (22, .invokevirtual 211, 3), (25, .ifCond .eq 41, 3), (28, .aload_n 0, 1), (29, .getfield 169, 3), (32, .bipush 43, 2), (34, .if_icmp .ne 7, 3), (37, .iconst 2, 1), (38, .goto 4, 3), (41, .iconst 3, 1), (42, .istore_n 1, 1), (43, .aload_n 0, 1), (44, .invokevirtual 204, 3), (47, .aload_n 0, 1), (48, .invokevirtual 214, 3), (51, .iconst (-1), 1), (52, .if_icmp .ne 5, 3), (55, .iconst (-1), 1), (56, .ireturn, 1), (57, .aload_n 0, 1), (58, .iload_n 1, 1), (59, .iconst 0, 1), (60, .invokevirtual 200, 3), (63, .goto (-53), 3), (66, .iconst 0, 1), (67, .ireturn, 1)]
theorem ttX11_readSum : zdt cX11_readSum tX11_readSum = true := by decide +kernel
abbrev tX11_readCompared : List (Nat × Instr × Nat) := [(0, .aload_n 0, 1), (1, .invokevirtual 217, 3), (4, .iconst (-1), 1), (5, .if_icmp .ne 5, 3), (8, .iconst (-1), 1), (9, .ireturn, 1), (10, .aload_n 0, 1), (11, .bipush 60, 2), (13, .invokevirtual 211, 3), (16, .ifCond .ne 27, 3), (19, .aload_n 0, 1), (20, .bipush 61, 2), (22, .invokevirtual 211, 3), (25, .ifCond .ne 18, 3), (28, .aload_n 0, 1), (29, .bipush 62, 2), (31, .invokevirtual 211, 3), (34, .ifCond .ne 9, 3), (37, .aload_n 0, 1), (38, .iconst 1, 1), (39, .invokevirtual 197, 3), (42, .ireturn, 1), (43, .aload_n 0, 1), (44, .getfield 169, 3), (47, .bipush 60, 2), (49, .if_icmp .ne 8, 3), (52, .bipush 6, 2), (54, .goto 19, 3), (57, .aload_n 0, 1), (58, .getfield 169, 3), (61, .bipush 61, 2), (63, .if_icmp .ne 8, 3), (66, .bipush 7, 2), (68, .goto 5, 3), (71, .bipush 8, 2), (73, .istore_n 1, 1), (74, .aload_n 0, 1), (75, .invokevirtual 204, 3), (78, .aload_n 0, 1), (79, .invokevirtual 217, 3), (82, .iconst (-1), 1), (83, .if_icmp .ne 5, 3), (86, .iconst (-1), 1), (87, .ireturn, 1), (88, .aload_n 0, 1), (89, .iload_n 1, 1), (90, .iconst 0, 1), (91, .invokevirtual 200, 3), (94, .iconst 0, 1), (95, .ireturn, 1)]
theorem ttX11_readCompared : zdt cX11_readCompared tX11_readCompared = true := by decide +kernel
abbrev tX11_waits : List (Nat × Instr × Nat) := [(0, .aload_n 0, 1), (1, .getfield 55, 3), (4, .aload_n 0, 1), (5, .getfield 220, 3), (8, .iload_n 1, 1), (9, .iastore, 1), (10, .aload_n 0, 1), (11, .aload_n 0, 1), (12, .getfield 220, 3), (15, .iconst 1, 1), (16, .iadd, 1), (17, .putfield 220, 3), (20, .return_, 1)]
theorem ttX11_waits : zdt cX11_waits tX11_waits = true := by decide +kernel
abbrev q_X11_waits (h : zM) (p1 : Int) : Option zV → zM → Prop := zqv fun h' => okM h' ∧ zfr [28] [16] h h' ∧ (h'.2 0 28 = h.2 0 28 + 1) ∧ (h'.2 16 (h.2 0 28) = p1) ∧ (∀ j, ¬ j = h.2 0 28 → h'.2 16 j = h.2 16 j)
set_option maxRecDepth 100000 in
set_option maxHeartbeats 4000000 in
theorem s_X11_waits (l : Launch) (h : zM) (p1 : Int) (s0 : okM h) (b_p1 : (-2147483648) ≤ p1 ∧ p1 ≤ 2147483647) (u_0 : h.2 0 28 ≤ 39) : zT shM l yX11_waits cX11_waits 2 none (rmL 1) 0 0 [.inr 0, .inl p1] h (q_X11_waits h p1) := by
  refine zT_of (by decide +kernel) (L0 := [some (.inr 0), some (.inl p1)]) rfl (Nat.le_of_ble_eq_true rfl) ?_
  refine zj_aload_n (zdk ttX11_waits 0 rfl rfl) rfl (by decide) ?_
  refine zj_getr (r := 16) (zdk ttX11_waits 1 rfl rfl) zf_RX11_55 rfl (k_M s0) (rfM_27 s0) ?_
  refine zj_aload_n (zdk ttX11_waits 2 rfl rfl) rfl (by decide) ?_
  have b1 : 0 ≤ (h.2 0 28) ∧ (h.2 0 28) ≤ 40 := fM_28 s0
  refine zj_geti (v := (h.2 0 28)) (zdk ttX11_waits 3 rfl rfl) zf_RX11_220 rfl (k_M s0) rfl ?_
  refine zj_iload_n (zdk ttX11_waits 4 rfl rfl) rfl ?_
  refine zj_iast (zdk ttX11_waits 5 rfl rfl) (kaM_16 s0) (by decide) (by omega) (fun h2 e3 => ?_)
  refine zj_aload_n (zdk ttX11_waits 6 rfl rfl) rfl (by decide) ?_
  refine zj_aload_n (zdk ttX11_waits 7 rfl rfl) rfl (by decide) ?_
  have s4 : okM h2 := awM_16 s0 e3 (by omega) (by unfold nsp; omega)
  refine zj_geti (v := (h.2 0 28)) (zdk ttX11_waits 8 rfl rfl) zf_RX11_220 rfl (k_M s4) (zwr_r e3 (by first | decide | exact (absurd ·.1 (by decide)) | exact (absurd ·.2 (by decide)) | omega)) ?_
  refine zj_iconst (zdk ttX11_waits 9 rfl rfl) ?_
  refine zj_iadd (zdk ttX11_waits 10 rfl rfl) ?_
  refine zj_puti (zdk ttX11_waits 11 rfl rfl) zf_RX11_220 rfl (k_M s4) (Or.inl zw_RX11_220) (k2 := 28) rfl (fun h5 e6 => ?_)
  have s7 : okM h5 := fwM_28 s4 e6 (by omega)
  have b8 : h5.2 0 28 = ((h.2 0 28) + 1) := (zwr_v e6)
  have f10 : zfr [28] [16] h h2 := zfr_wa (zfr_r _ _ _) e3 rfl
  have f9 : zfr [28] [16] h h5 := zfr_wf f10 e6 rfl
  exact zj_vret rfl (zdk ttX11_waits 12 rfl rfl) (Nat.le_refl _) (Nat.le_refl _) ⟨rfl, s7, f9, by omega, (zwr_r e6 (by first | decide | exact (absurd ·.1 (by decide)) | exact (absurd ·.2 (by decide)) | omega)).trans (zwr_v e3), (fun j q => (zwr_r e6 (by first | decide | exact (absurd ·.1 (by decide)) | exact (absurd ·.2 (by decide)) | omega)).trans (zwr_r e3 (by first | decide | exact (absurd ·.1 (by decide)) | exact (absurd ·.2 (by decide)) | omega)))⟩

