def RD (h h' : zM) : Prop := tok h' ∧ rdB 0 h h' ∧ rdP 1 h h'
theorem rdB_st {h h' : zM} {c k v : Int} (e : h' = zwr h c k v) (hc : ¬ c = 0 ∧ ¬ c = 14 ∧ ¬ c = 15) : rdB 0 h h' := by
  have en : ∀ a b, ¬ a = c → h'.2 a b = h.2 a b := fun a b q => by rw [e, zwr_n (fun z => q z.1)]
  refine ⟨fun k _ => ⟨en 14 _ (by omega), en 15 _ (by omega)⟩, ?_, ?_⟩
  · rw [en 0 25 (by omega)]; omega
  · rw [en 0 25 (by omega), en 0 13 (by omega)]; omega
theorem rdP_st {h h' : zM} {c k v : Int} (e : h' = zwr h c k v) (hc : ¬ c = 0 ∧ ¬ c = 14 ∧ ¬ c = 15) : rdP 0 h h' := by
  have en : ∀ a b, ¬ a = c → h'.2 a b = h.2 a b := fun a b q => by rw [e, zwr_n (fun z => q z.1)]
  have d1 : dop h' = dop h := funext fun k => en 14 _ (by omega)
  have d2 : dar h' = dar h := funext fun k => en 15 _ (by omega)
  intro a x _ q
  rw [d1, d2, en 0 25 (by omega), Int.add_zero]; exact q
theorem tok_st {h h' : zM} {c k v : Int} (t : tok h) (e : h' = zwr h c k v) (hc : ¬ c = 0) : tok h' := by
  unfold tok at t ⊢
  rw [e, zwr_n (by omega), zwr_n (by omega), zwr_n (by omega)]; exact t
theorem wfP_nil (op arg : Int → Int) (a : Int) : wfP op arg a a 0 := ⟨by omega, fun _ => 0, rfl, rfl, fun k q1 q2 => absurd q1 (by omega)⟩
theorem rdP_seg {h h' : zM} (q : rdP 1 h h') : wfP (dop h') (dar h') (h.2 0 25) (h'.2 0 25) 1 := q _ 0 (by omega) (wfP_nil _ _ _)
theorem wfP_up {h h' : zM} {s a b x : Int} (q : rdB s h h') (hb : b ≤ h.2 0 25) (w : wfP (dop h) (dar h) a b x) : wfP (dop h') (dar h') a b x := wfP_ext (fun k k1 k2 => q.1 k (by omega)) w
def zLn (H : zM) (n : Int) : Prop := ∀ l, 0 ≤ l → l < n → wfS (dop H) (dar H) (H.2 11 (32 + l)) (H.2 12 (32 + l)) ∧ wfS (dop H) (dar H) (H.2 12 (32 + l)) (H.2 13 (32 + l)) ∧ (0 ≤ H.2 11 (32 + l) ∧ H.2 13 (32 + l) ≤ H.2 0 25)
theorem zLn_s {H F : zM} {k s c0 c1 c2 : Int} (q : zLn H k) (b : rdB s H F) (old : ∀ l, 0 ≤ l → l < k → F.2 11 (32 + l) = H.2 11 (32 + l) ∧ F.2 12 (32 + l) = H.2 12 (32 + l) ∧ F.2 13 (32 + l) = H.2 13 (32 + l)) (n1 : F.2 11 (32 + k) = c0) (n2 : F.2 12 (32 + k) = c1) (n3 : F.2 13 (32 + k) = c2) (w1 : wfS (dop F) (dar F) c0 c1) (w2 : wfS (dop F) (dar F) c1 c2) (hc : 0 ≤ c0 ∧ c2 ≤ F.2 0 25) : zLn F (k + 1) := by
  intro l l1 l2
  by_cases e : l = k
  · rw [e, n1, n2, n3]; exact ⟨w1, w2, hc⟩
  · obtain ⟨o1, o2, o3⟩ := old l l1 (by omega)
    obtain ⟨r1, r2, r3⟩ := q l l1 (by omega)
    have e1 := wfS_le r1
    have e2 := wfS_le r2
    have bm := b.2.1
    rw [o1, o2, o3]
    exact ⟨wfS_ext (fun j j1 j2 => b.1 j (by omega)) r1, wfS_ext (fun j j1 j2 => b.1 j (by omega)) r2, by omega⟩
abbrev tX11_emits : List (Nat × Instr × Nat) := [(0, .aload_n 0, 1), (1, .getfield 49, 3), (4, .sipush 800, 3), (7, .aload_n 0, 1), (8, .getfield 191, 3), (11, .iadd, 1), (12, .iload_n 1, 1), (13, .iastore, 1), (14, .aload_n 0, 1), (15, .getfield 52, 3), (18, .sipush 800, 3), (21, .aload_n 0, 1), (22, .getfield 191, 3), (25, .iadd, 1), (26, .iload_n 2, 1), (27, .iastore, 1), (28, .aload_n 0, 1), (29, .aload_n 0, 1), (30, .getfield 191, 3), (33, .iconst 1, 1), (34, .iadd, 1), (35, .putfield 191, 3), (38, .return_, 1)]
theorem ttX11_emits : zdt cX11_emits tX11_emits = true := by decide +kernel
abbrev q_X11_emits (h : zM) (p1 : Int) (p2 : Int) : Option zV → zM → Prop := zqv fun h' => okM h' ∧ zfr [25] [14, 15] h h' ∧ (zEm h h' p1 p2)
set_option maxRecDepth 100000 in
set_option maxHeartbeats 4000000 in
theorem s_X11_emits (l : Launch) (h : zM) (p1 : Int) (p2 : Int) (s0 : okM h) (b_p1 : (-2147483648) ≤ p1 ∧ p1 ≤ 2147483647) (b_p2 : (-2147483648) ≤ p2 ∧ p2 ≤ 2147483647) (u_0 : h.2 0 25 ≤ 399) : zT shM l yX11_emits cX11_emits 3 none (rmL 1) 0 0 [.inr 0, .inl p1, .inl p2] h (q_X11_emits h p1 p2) := by
  refine zT_of (by decide +kernel) (L0 := [some (.inr 0), some (.inl p1), some (.inl p2)]) rfl (Nat.le_of_ble_eq_true rfl) ?_
  refine zj_aload_n (zdk ttX11_emits 0 rfl rfl) rfl (by decide) ?_
  refine zj_getr (r := 14) (zdk ttX11_emits 1 rfl rfl) zf_RX11_49 rfl (k_M s0) (rfM_22 s0) ?_
  refine zj_sipush (zdk ttX11_emits 2 rfl rfl) (by decide) ?_
  refine zj_aload_n (zdk ttX11_emits 3 rfl rfl) rfl (by decide) ?_
  have b1 : 0 ≤ (h.2 0 25) ∧ (h.2 0 25) ≤ 400 := fM_25 s0
  refine zj_geti (v := (h.2 0 25)) (zdk ttX11_emits 4 rfl rfl) zf_RX11_191 rfl (k_M s0) rfl ?_
  refine zj_iadd (zdk ttX11_emits 5 rfl rfl) ?_
  refine zj_iload_n (zdk ttX11_emits 6 rfl rfl) rfl ?_
  refine zj_iast (zdk ttX11_emits 7 rfl rfl) (kaM_14 s0) (by decide) (by omega) (fun h2 e3 => ?_)
  refine zj_aload_n (zdk ttX11_emits 8 rfl rfl) rfl (by decide) ?_
  have s4 : okM h2 := awM_14 s0 e3 (by omega) (by unfold nsp; omega)
  refine zj_getr (r := 15) (zdk ttX11_emits 9 rfl rfl) zf_RX11_52 rfl (k_M s4) (rfM_23 s4) ?_
  refine zj_sipush (zdk ttX11_emits 10 rfl rfl) (by decide) ?_
  refine zj_aload_n (zdk ttX11_emits 11 rfl rfl) rfl (by decide) ?_
  refine zj_geti (v := (h.2 0 25)) (zdk ttX11_emits 12 rfl rfl) zf_RX11_191 rfl (k_M s4) (zwr_r e3 (by first | decide | exact (absurd ·.1 (by decide)) | exact (absurd ·.2 (by decide)) | omega)) ?_
  refine zj_iadd (zdk ttX11_emits 13 rfl rfl) ?_
  refine zj_iload_n (zdk ttX11_emits 14 rfl rfl) rfl ?_
  refine zj_iast (zdk ttX11_emits 15 rfl rfl) (kaM_15 s4) (by decide) (by omega) (fun h5 e6 => ?_)
  refine zj_aload_n (zdk ttX11_emits 16 rfl rfl) rfl (by decide) ?_
  refine zj_aload_n (zdk ttX11_emits 17 rfl rfl) rfl (by decide) ?_
  have s7 : okM h5 := awM_15 s4 e6 (by omega) (by unfold nsp; omega)
  refine zj_geti (v := (h.2 0 25)) (zdk ttX11_emits 18 rfl rfl) zf_RX11_191 rfl (k_M s7) ((zwr_r e6 (by first | decide | exact (absurd ·.1 (by decide)) | exact (absurd ·.2 (by decide)) | omega)).trans (zwr_r e3 (by first | decide | exact (absurd ·.1 (by decide)) | exact (absurd ·.2 (by decide)) | omega))) ?_
  refine zj_iconst (zdk ttX11_emits 19 rfl rfl) ?_
  refine zj_iadd (zdk ttX11_emits 20 rfl rfl) ?_
  refine zj_puti (zdk ttX11_emits 21 rfl rfl) zf_RX11_191 rfl (k_M s7) (Or.inl zw_RX11_191) (k2 := 25) rfl (fun h8 e9 => ?_)
  have s10 : okM h8 := fwM_25 s7 e9 (by omega)
  have f13 : zfr [25] [14, 15] h h2 := zfr_wa (zfr_r _ _ _) e3 rfl
  have f12 : zfr [25] [14, 15] h h5 := zfr_wa f13 e6 rfl
  have f11 : zfr [25] [14, 15] h h8 := zfr_wf f12 e9 rfl
  have b14 : h8.2 0 25 = ((h.2 0 25) + 1) := (zwr_v e9)
  exact zj_vret rfl (zdk ttX11_emits 22 rfl rfl) (Nat.le_refl _) (Nat.le_refl _) ⟨rfl, s10, f11, ⟨by omega, ⟨((zwr_r e9 (by first | decide | exact (absurd ·.1 (by decide)) | exact (absurd ·.2 (by decide)) | omega)).trans (zwr_r e6 (by first | decide | exact (absurd ·.1 (by decide)) | exact (absurd ·.2 (by decide)) | omega))).trans (zwr_v e3), (zwr_r e9 (by first | decide | exact (absurd ·.1 (by decide)) | exact (absurd ·.2 (by decide)) | omega)).trans (zwr_v e6)⟩, fun k hk => ⟨((zwr_r e9 (by first | decide | exact (absurd ·.1 (by decide)) | exact (absurd ·.2 (by decide)) | omega)).trans (zwr_r e6 (by first | decide | exact (absurd ·.1 (by decide)) | exact (absurd ·.2 (by decide)) | omega))).trans (zwr_r e3 (by first | decide | exact (absurd ·.1 (by decide)) | exact (absurd ·.2 (by decide)) | omega)), ((zwr_r e9 (by first | decide | exact (absurd ·.1 (by decide)) | exact (absurd ·.2 (by decide)) | omega)).trans (zwr_r e6 (by first | decide | exact (absurd ·.1 (by decide)) | exact (absurd ·.2 (by decide)) | omega))).trans (zwr_r e3 (by first | decide | exact (absurd ·.1 (by decide)) | exact (absurd ·.2 (by decide)) | omega))⟩⟩⟩

abbrev tX11_readUnit : List (Nat × Instr × Nat) := [(0, .aload_n 0, 1), (1, .getfield 166, 3), (4, .iconst 2, 1), (5, .if_icmp .ne 18, 3), (8, .aload_n 0, 1), (9, .aload_n 0, 1), (10, .getfield 169, 3), (13, .invokevirtual 194, 3), (16, .ifCond .eq 7, 3), (19, .iconst 1, 1), (20, .goto 4, 3), (23, .iconst 0, 1), (24, .istore_n 1, 1), (25, .iload_n 1, 1), (26, .ifCond .ne 17, 3), (29, .aload_n 0, 1), (30, .getfield 166, 3), (33, .iconst 3, 1), (34, .if_icmp .eq 9, 3), (37, .aload_n 0, 1), (38, .iconst 1, 1), (39, .invokevirtual 197, 3), (42, .ireturn, 1), (43, .aload_n 0, 1), (44, .iload_n 1, 1), (45, .ifCond .eq 7, 3), (48, .iconst 1, 1), (49, .goto 4, 3), (52, .iconst 0, 1), (53, .iload_n 1, 1), (54, .ifCond .eq 13, 3), (57, .aload_n 0, 1), (58, .getfield 169, 3), (61, .bipush 7, 2), (63, .isub, 1), (64, .goto 7, 3), (67, .aload_n 0, 1), (68, .getfield 169, 3), (71, .invokevirtual 200, 3), (74, .aload_n 0, 1), (75, .invokevirtual 204, 3), (78, .iconst 0, 1), (79, .ireturn, 1)]
theorem ttX11_readUnit : zdt cX11_readUnit tX11_readUnit = true := by decide +kernel
abbrev q_X11_readUnit (h : zM) : Option zV → zM → Prop := zqi fun v h' => ((-1) ≤ v ∧ v ≤ 0) ∧ okM h' ∧ zfr [12, 13, 14, 15, 25, 29, 30] [14, 15] h h' ∧ (v = 0 → RD h h') ∧ (v = 0 → h'.2 0 25 = h.2 0 25 + 1 ∧ (h.2 0 14 = 3 → dop h' (h.2 0 25) = 0 ∧ dar h' (h.2 0 25) = h.2 0 15))
set_option maxRecDepth 100000 in
set_option maxHeartbeats 4000000 in
theorem s_X11_readUnit (l : Launch) (h : zM) (s0 : okM h) (u_0 : tok h) (u_1 : h.2 0 25 ≤ h.2 0 13) : zT shM l yX11_readUnit cX11_readUnit 2 (some .int) (rmL 4) 0 0 [.inr 0] h (q_X11_readUnit h) := by
  refine zT_of (by decide +kernel) (L0 := [some (.inr 0), none]) rfl (Nat.le_of_ble_eq_true rfl) ?_
  refine zj_aload_n (zdk ttX11_readUnit 0 rfl rfl) rfl (by decide) ?_
  have b1 : 0 ≤ (h.2 0 14) ∧ (h.2 0 14) ≤ 4 := fM_14 s0
  refine zj_geti (v := (h.2 0 14)) (zdk ttX11_readUnit 1 rfl rfl) zf_RX11_166 rfl (k_M s0) rfl ?_
  refine zj_iconst (zdk ttX11_readUnit 2 rfl rfl) ?_
  refine zj_icmp_ne (t := 23) (zdk ttX11_readUnit 3 rfl rfl) (by decide) (by omega) (by decide) (fun c2 => ?_) (fun c2 => ?_)
  · refine zj_iconst (zdk ttX11_readUnit 11 rfl rfl) ?_
    refine zj_istore_n (L' := [some (.inr 0), some (.inl 0)]) (zdk ttX11_readUnit 12 rfl rfl) (by decide) rfl ?_
    refine zj_iload_n (zdk ttX11_readUnit 13 rfl rfl) rfl ?_
    refine zj_if_ne (t := 43) (zdk ttX11_readUnit 14 rfl rfl) (by decide) (by decide) (fun c3 => ?_) (fun c3 => ?_)
    · exact absurd c3 (by omega)
    · refine zj_aload_n (zdk ttX11_readUnit 15 rfl rfl) rfl (by decide) ?_
      refine zj_geti (v := (h.2 0 14)) (zdk ttX11_readUnit 16 rfl rfl) zf_RX11_166 rfl (k_M s0) rfl ?_
      refine zj_iconst (zdk ttX11_readUnit 17 rfl rfl) ?_
      refine zj_icmp_eq (t := 43) (zdk ttX11_readUnit 18 rfl rfl) (by decide) (by omega) (by decide) (fun c4 => ?_) (fun c4 => ?_)
      · refine zj_aload_n (zdk ttX11_readUnit 23 rfl rfl) rfl (by decide) ?_
        refine zj_iload_n (zdk ttX11_readUnit 24 rfl rfl) rfl ?_
        refine zj_if_eq (t := 52) (zdk ttX11_readUnit 25 rfl rfl) (by decide) (by decide) (fun c5 => ?_) (fun c5 => ?_)
        · refine zj_iconst (zdk ttX11_readUnit 28 rfl rfl) ?_
          refine zj_iload_n (zdk ttX11_readUnit 29 rfl rfl) rfl ?_
          refine zj_if_eq (t := 67) (zdk ttX11_readUnit 30 rfl rfl) (by decide) (by decide) (fun c6 => ?_) (fun c6 => ?_)
          · refine zj_aload_n (zdk ttX11_readUnit 36 rfl rfl) rfl (by decide) ?_
            have b7 : -2147483648 ≤ (h.2 0 15) ∧ (h.2 0 15) ≤ 2147483647 := fM_15 s0
            refine zj_geti (v := (h.2 0 15)) (zdk ttX11_readUnit 37 rfl rfl) zf_RX11_169 rfl (k_M s0) rfl ?_
            have b8 : 0 ≤ (h.2 0 12) ∧ (h.2 0 12) ≤ 400 := fM_12 s0
            have b9 : 0 ≤ (h.2 0 13) ∧ (h.2 0 13) ≤ 400 := fM_13 s0
            have b10 : 0 ≤ (h.2 0 25) ∧ (h.2 0 25) ≤ 400 := fM_25 s0
            have t11 : tok h := u_0
            unfold tok at t11
            refine zj_callV (av := [.inl 0, .inl (h.2 0 15)]) (st := []) (zdk ttX11_readUnit 38 rfl rfl) mb_X11_emits mv_RX11_200 (ci := 11) rfl rfl (k_M s0) rfl rfl (Nat.le_of_ble_eq_true rfl) (s_X11_emits l h 0 (h.2 0 15) s0 (by omega) (by omega) (by omega)) (rm_ok (by decide) (by decide)) (zq_v fun h14 q12 => ?_)
            obtain ⟨s16, f18, u17⟩ := q12
            refine zj_aload_n (zdk ttX11_readUnit 39 rfl rfl) rfl (by decide) ?_
            refine zj_callV (av := []) (st := []) (zdk ttX11_readUnit 40 rfl rfl) mb_X11_reads mv_RX11_204 (ci := 11) rfl rfl (k_M s16) rfl rfl (Nat.le_of_ble_eq_true rfl) (s_X11_reads l h14 s16) (rm_ok (by decide) (by decide)) (zq_v fun h21 q19 => ?_)
            obtain ⟨s23, f26, u24, u25⟩ := q19
            refine zj_iconst (zdk ttX11_readUnit 41 rfl rfl) ?_
            have f28 : zfr [12, 13, 14, 15, 25, 29, 30] [14, 15] h h14 := zfr_t (zfr_r _ _ _) f18 rfl rfl
            have f27 : zfr [12, 13, 14, 15, 25, 29, 30] [14, 15] h h21 := zfr_t f28 f26 rfl rfl
            have r29B : rdB (-1) h h14 := rdB_t (rdB_r h) (rdB_em u17 f18) (by omega)
            have r29P : rdP 1 h h14 := rdP_t (rdP_r h) (rdP_push u17 (by omega)) (by omega) (by omega)
            have b31 : h14.2 0 12 = (h.2 0 12) := (zfr_f f18 rfl rfl)
            have b32 : h14.2 0 13 = (h.2 0 13) := (zfr_f f18 rfl rfl)
            have b33 : h14.2 0 14 = (h.2 0 14) := (zfr_f f18 rfl rfl)
            have b34 : 0 ≤ (h14.2 0 25) ∧ (h14.2 0 25) ≤ 400 := fM_25 s16
            have b35 : 0 ≤ (h21.2 0 12) ∧ (h21.2 0 12) ≤ 400 := fM_12 s23
            have b36 : 0 ≤ (h21.2 0 13) ∧ (h21.2 0 13) ≤ 400 := fM_13 s23
            have b37 : 0 ≤ (h21.2 0 14) ∧ (h21.2 0 14) ≤ 4 := fM_14 s23
            have b38 : h21.2 0 25 = (h14.2 0 25) := (zfr_f f26 rfl rfl)
            have t39 : tok h14 := (tok_same u_0 f18 rfl rfl rfl rfl)
            unfold tok at t39
            have r30B : rdB 0 h h21 := rdB_t r29B (rdB_same (s := 1) f26 rfl (by omega)) (by omega)
            have r30P : rdP 1 h h21 := rdP_t r29P (rdP_same f26 rfl) (by omega) (by omega)
            have b40 := u17.1
            exact zj_iret rfl (zdk ttX11_readUnit 42 rfl rfl) (Nat.le_refl _) (Nat.le_refl _) ⟨0, rfl, by omega, s23, f27, (fun _ => ⟨u24, rdB_t r30B (rdB_r _) (by omega), r30P⟩), (fun _ => ⟨by omega, fun q => ⟨by rw [(zd_same f26).1]; exact u17.2.1.1, by rw [(zd_same f26).2]; exact u17.2.1.2⟩⟩)⟩
          · exact absurd c6 (by omega)
        · exact absurd c5 (by omega)
      · refine zj_aload_n (zdk ttX11_readUnit 19 rfl rfl) rfl (by decide) ?_
        refine zj_iconst (zdk ttX11_readUnit 20 rfl rfl) ?_
        refine zj_callV (av := [.inl 1]) (st := []) (zdk ttX11_readUnit 21 rfl rfl) mb_X11_errs mv_RX11_197 (ci := 11) rfl rfl (k_M s0) rfl rfl (Nat.le_of_ble_eq_true rfl) (s_X11_errs l h 1 s0 (by omega)) (rm_ok (by decide) (by decide)) (zq_i fun v42 h43 q41 => ?_)
        obtain ⟨b44, s45, f46⟩ := q41
        have f47 : zfr [12, 13, 14, 15, 25, 29, 30] [14, 15] h h43 := zfr_t (zfr_r _ _ _) f46 rfl rfl
        exact zj_iret rfl (zdk ttX11_readUnit 22 rfl rfl) (Nat.le_refl _) (Nat.le_refl _) ⟨v42, rfl, by omega, s45, f47, (fun q => absurd q (by omega)), (fun q => absurd q (by omega))⟩
  · refine zj_aload_n (zdk ttX11_readUnit 4 rfl rfl) rfl (by decide) ?_
    refine zj_aload_n (zdk ttX11_readUnit 5 rfl rfl) rfl (by decide) ?_
    have b48 : -2147483648 ≤ (h.2 0 15) ∧ (h.2 0 15) ≤ 2147483647 := fM_15 s0
    refine zj_geti (v := (h.2 0 15)) (zdk ttX11_readUnit 6 rfl rfl) zf_RX11_169 rfl (k_M s0) rfl ?_
    refine zj_callV (av := [.inl (h.2 0 15)]) (st := []) (zdk ttX11_readUnit 7 rfl rfl) mb_X11_canAsk mv_RX11_194 (ci := 11) rfl rfl (k_M s0) rfl rfl (Nat.le_of_ble_eq_true rfl) (s_X11_canAsk l h (h.2 0 15) s0 (by omega)) (rm_ok (by decide) (by decide)) (zq_i fun v50 h51 q49 => ?_)
    obtain ⟨rfl, ⟨rfl, b52⟩ | ⟨rfl, b52⟩⟩ := q49
    · refine zj_if_eq (t := 23) (zdk ttX11_readUnit 8 rfl rfl) (by decide) (by decide) (fun c53 => ?_) (fun c53 => ?_)
      · refine zj_iconst (zdk ttX11_readUnit 11 rfl rfl) ?_
        refine zj_istore_n (L' := [some (.inr 0), some (.inl 0)]) (zdk ttX11_readUnit 12 rfl rfl) (by decide) rfl ?_
        refine zj_iload_n (zdk ttX11_readUnit 13 rfl rfl) rfl ?_
        refine zj_if_ne (t := 43) (zdk ttX11_readUnit 14 rfl rfl) (by decide) (by decide) (fun c54 => ?_) (fun c54 => ?_)
        · exact absurd c54 (by omega)
        · refine zj_aload_n (zdk ttX11_readUnit 15 rfl rfl) rfl (by decide) ?_
          refine zj_geti (v := (h.2 0 14)) (zdk ttX11_readUnit 16 rfl rfl) zf_RX11_166 rfl (k_M s0) rfl ?_
          refine zj_iconst (zdk ttX11_readUnit 17 rfl rfl) ?_
          refine zj_icmp_eq (t := 43) (zdk ttX11_readUnit 18 rfl rfl) (by decide) (by omega) (by decide) (fun c55 => ?_) (fun c55 => ?_)
          · exact absurd c55 (by omega)
          · refine zj_aload_n (zdk ttX11_readUnit 19 rfl rfl) rfl (by decide) ?_
            refine zj_iconst (zdk ttX11_readUnit 20 rfl rfl) ?_
            refine zj_callV (av := [.inl 1]) (st := []) (zdk ttX11_readUnit 21 rfl rfl) mb_X11_errs mv_RX11_197 (ci := 11) rfl rfl (k_M s0) rfl rfl (Nat.le_of_ble_eq_true rfl) (s_X11_errs l h 1 s0 (by omega)) (rm_ok (by decide) (by decide)) (zq_i fun v57 h58 q56 => ?_)
            obtain ⟨b59, s60, f61⟩ := q56
            have f62 : zfr [12, 13, 14, 15, 25, 29, 30] [14, 15] h h58 := zfr_t (zfr_r _ _ _) f61 rfl rfl
            exact zj_iret rfl (zdk ttX11_readUnit 22 rfl rfl) (Nat.le_refl _) (Nat.le_refl _) ⟨v57, rfl, by omega, s60, f62, (fun q => absurd q (by omega)), (fun q => absurd q (by omega))⟩
      · exact absurd c53 (by omega)
    · refine zj_if_eq (t := 23) (zdk ttX11_readUnit 8 rfl rfl) (by decide) (by decide) (fun c63 => ?_) (fun c63 => ?_)
      · exact absurd c63 (by omega)
      · refine zj_iconst (zdk ttX11_readUnit 9 rfl rfl) ?_
        refine zj_goto (t := 24) (zdk ttX11_readUnit 10 rfl rfl) (by decide) ?_
        refine zj_istore_n (L' := [some (.inr 0), some (.inl 1)]) (zdk ttX11_readUnit 12 rfl rfl) (by decide) rfl ?_
        refine zj_iload_n (zdk ttX11_readUnit 13 rfl rfl) rfl ?_
        refine zj_if_ne (t := 43) (zdk ttX11_readUnit 14 rfl rfl) (by decide) (by decide) (fun c64 => ?_) (fun c64 => ?_)
        · refine zj_aload_n (zdk ttX11_readUnit 23 rfl rfl) rfl (by decide) ?_
          refine zj_iload_n (zdk ttX11_readUnit 24 rfl rfl) rfl ?_
          refine zj_if_eq (t := 52) (zdk ttX11_readUnit 25 rfl rfl) (by decide) (by decide) (fun c65 => ?_) (fun c65 => ?_)
          · exact absurd c65 (by omega)
          · refine zj_iconst (zdk ttX11_readUnit 26 rfl rfl) ?_
            refine zj_goto (t := 53) (zdk ttX11_readUnit 27 rfl rfl) (by decide) ?_
            refine zj_iload_n (zdk ttX11_readUnit 29 rfl rfl) rfl ?_
            refine zj_if_eq (t := 67) (zdk ttX11_readUnit 30 rfl rfl) (by decide) (by decide) (fun c66 => ?_) (fun c66 => ?_)
            · exact absurd c66 (by omega)
            · refine zj_aload_n (zdk ttX11_readUnit 31 rfl rfl) rfl (by decide) ?_
              refine zj_geti (v := (h.2 0 15)) (zdk ttX11_readUnit 32 rfl rfl) zf_RX11_169 rfl (k_M s0) rfl ?_
              refine zj_bipush (zdk ttX11_readUnit 33 rfl rfl) (by decide) ?_
              refine zj_isub (zdk ttX11_readUnit 34 rfl rfl) ?_
              refine zj_goto (t := 71) (zdk ttX11_readUnit 35 rfl rfl) (by decide) ?_
              have b67 : 0 ≤ (h.2 0 12) ∧ (h.2 0 12) ≤ 400 := fM_12 s0
              have b68 : 0 ≤ (h.2 0 13) ∧ (h.2 0 13) ≤ 400 := fM_13 s0
              have b69 : 0 ≤ (h.2 0 25) ∧ (h.2 0 25) ≤ 400 := fM_25 s0
              have t70 : tok h := u_0
              unfold tok at t70
              refine zj_callV (av := [.inl 1, .inl ((h.2 0 15) - 7)]) (st := []) (zdk ttX11_readUnit 38 rfl rfl) mb_X11_emits mv_RX11_200 (ci := 11) rfl rfl (k_M s0) rfl rfl (Nat.le_of_ble_eq_true rfl) (s_X11_emits l h 1 ((h.2 0 15) - 7) s0 (by omega) (by omega) (by omega)) (rm_ok (by decide) (by decide)) (zq_v fun h73 q71 => ?_)
              obtain ⟨s75, f77, u76⟩ := q71
              refine zj_aload_n (zdk ttX11_readUnit 39 rfl rfl) rfl (by decide) ?_
              refine zj_callV (av := []) (st := []) (zdk ttX11_readUnit 40 rfl rfl) mb_X11_reads mv_RX11_204 (ci := 11) rfl rfl (k_M s75) rfl rfl (Nat.le_of_ble_eq_true rfl) (s_X11_reads l h73 s75) (rm_ok (by decide) (by decide)) (zq_v fun h80 q78 => ?_)
              obtain ⟨s82, f85, u83, u84⟩ := q78
              refine zj_iconst (zdk ttX11_readUnit 41 rfl rfl) ?_
              have f87 : zfr [12, 13, 14, 15, 25, 29, 30] [14, 15] h h73 := zfr_t (zfr_r _ _ _) f77 rfl rfl
              have f86 : zfr [12, 13, 14, 15, 25, 29, 30] [14, 15] h h80 := zfr_t f87 f85 rfl rfl
              have r88B : rdB (-1) h h73 := rdB_t (rdB_r h) (rdB_em u76 f77) (by omega)
              have r88P : rdP 1 h h73 := rdP_t (rdP_r h) (rdP_push u76 (by omega)) (by omega) (by omega)
              have b90 : h73.2 0 12 = (h.2 0 12) := (zfr_f f77 rfl rfl)
              have b91 : h73.2 0 13 = (h.2 0 13) := (zfr_f f77 rfl rfl)
              have b92 : h73.2 0 14 = (h.2 0 14) := (zfr_f f77 rfl rfl)
              have b93 : 0 ≤ (h73.2 0 25) ∧ (h73.2 0 25) ≤ 400 := fM_25 s75
              have b94 : 0 ≤ (h80.2 0 12) ∧ (h80.2 0 12) ≤ 400 := fM_12 s82
              have b95 : 0 ≤ (h80.2 0 13) ∧ (h80.2 0 13) ≤ 400 := fM_13 s82
              have b96 : 0 ≤ (h80.2 0 14) ∧ (h80.2 0 14) ≤ 4 := fM_14 s82
              have b97 : h80.2 0 25 = (h73.2 0 25) := (zfr_f f85 rfl rfl)
              have t98 : tok h73 := (tok_same u_0 f77 rfl rfl rfl rfl)
              unfold tok at t98
              have r89B : rdB 0 h h80 := rdB_t r88B (rdB_same (s := 1) f85 rfl (by omega)) (by omega)
              have r89P : rdP 1 h h80 := rdP_t r88P (rdP_same f85 rfl) (by omega) (by omega)
              have b99 := u76.1
              exact zj_iret rfl (zdk ttX11_readUnit 42 rfl rfl) (Nat.le_refl _) (Nat.le_refl _) ⟨0, rfl, by omega, s82, f86, (fun _ => ⟨u83, rdB_t r89B (rdB_r _) (by omega), r89P⟩), (fun _ => ⟨by omega, fun q => absurd q (by omega)⟩)⟩
        · exact absurd c64 (by omega)

abbrev tX11_readProduct : List (Nat × Instr × Nat) := [(0, .aload_n 0, 1), (1, .invokevirtual 207, 3), (4, .iconst (-1), 1), (5, .if_icmp .ne 5, 3), (8, .iconst (-1), 1), (9, .ireturn, 1), (10, .aload_n 0, 1), (11, .bipush 42, 2), (13, .invokevirtual 211, 3), (16, .ifCond .ne 12, 3), (19, .aload_n 0, 1), (20, .bipush 47, 2), (22, .invokevirtual 211, 3), (25, .ifCond .eq 76, 3), (28, .aload_n 0, 1), (29, .bipush 42, 2), (31, .invokevirtual 211, 3), (34, .istore_n 1, 1), (35, .aload_n 0, 1), (36, .invokevirtual 204, 3), (39, .iload_n 1, 1), (40, .ifCond .ne 17, 3), (43, .aload_n 0, 1), (44, .getfield 166, 3), (47, .iconst 3, 1), (48, .if_icmp .eq 9, 3), (51, .aload_n 0, 1), (52, .iconst 1, 1), (53, .invokevirtual 197, 3), (56, .ireturn, 1), (57, .iload_n 1, 1), (58, .ifCond .ne 16, 3), (61, .aload_n 0, 1), (62, .getfield 169, 3), (65, .ifCond .ne 9, 3), (68, .aload_n 0, 1), (69, .iconst 2, 1), (70, .invokevirtual 197, 3), (73, .ireturn, 1), (74, .aload_n 0, 1), (75, .invokevirtual 207, 3), (78, .iconst (-1), 1), (79, .if_icmp .ne 5, 3), (82, .iconst (-1), 1), (83, .ireturn, 1), (84, .aload_n 0, 1), (85, .iload_n 1, 1), (86, .ifCond .eq 7, 3), (89, .iconst 4, 1), (90, .goto 4, 3), (93, .iconst 5, 1), (94, .iconst 0, 1), (95, .invokevirtual 200, 3), (98, .goto (-88), 3), (101, .iconst 0, 1), (102, .ireturn, 1)]
theorem ttX11_readProduct : zdt cX11_readProduct tX11_readProduct = true := by decide +kernel
abbrev q_X11_readProduct (h : zM) : Option zV → zM → Prop := zqi fun v h' => ((-1) ≤ v ∧ v ≤ 0) ∧ okM h' ∧ zfr [12, 13, 14, 15, 25, 29, 30] [14, 15] h h' ∧ (v = 0 → RD h h')
set_option maxRecDepth 100000 in
set_option maxHeartbeats 4000000 in
theorem s_X11_readProduct (l : Launch) (h : zM) (s0 : okM h) (u_0 : tok h) (u_1 : h.2 0 25 ≤ h.2 0 13) : zT shM l yX11_readProduct cX11_readProduct 2 (some .int) (rmL 5) 0 0 [.inr 0] h (q_X11_readProduct h) := by
  refine zT_of (by decide +kernel) (L0 := [some (.inr 0), none]) rfl (Nat.le_of_ble_eq_true rfl) ?_
  refine zj_aload_n (zdk ttX11_readProduct 0 rfl rfl) rfl (by decide) ?_
  refine zj_callV (av := []) (st := []) (zdk ttX11_readProduct 1 rfl rfl) mb_X11_readUnit mv_RX11_207 (ci := 11) rfl rfl (k_M s0) rfl rfl (Nat.le_of_ble_eq_true rfl) (s_X11_readUnit l h s0 u_0 u_1) (rm_ok (by decide) (by decide)) (zq_i fun v2 h3 q1 => ?_)
  obtain ⟨b4, s5, f8, u6, u7⟩ := q1
  refine zj_iconst (zdk ttX11_readProduct 2 rfl rfl) ?_
  refine zj_icmp_ne (t := 10) (zdk ttX11_readProduct 3 rfl rfl) (by decide) (by omega) (by decide) (fun c9 => ?_) (fun c9 => ?_)
  · have lp134 : ∀ (n10 : Nat) (h10 : zM), okM h10 → zfr [12, 13, 14, 15, 25, 29, 30] [14, 15] h h10 → (tok h10) → (rdB 0 h h10) → (rdP 1 h h10) → (401 - (h10.2 0 13)).toNat < n10 → zJ shM l yX11_readProduct cX11_readProduct 2 (some .int) (rmL 5) 0 0 (q_X11_readProduct h) 0 0 10 [some (.inr 0), none] [] h10 := by
      intro n10
      induction n10 with
      | zero => intro h10 s11 f12 u135 u136 u137 m138; exact absurd m138 (Nat.not_lt_zero _)
      | succ n10 ih139 =>
        intro h10 s11 f12 u135 u136 u137 m138
        refine zj_aload_n (zdk ttX11_readProduct 6 rfl rfl) rfl (by decide) ?_
        refine zj_bipush (zdk ttX11_readProduct 7 rfl rfl) (by decide) ?_
        refine zj_callV (av := [.inl 42]) (st := []) (zdk ttX11_readProduct 8 rfl rfl) mb_X11_isSign mv_RX11_211 (ci := 11) rfl rfl (k_M s11) rfl rfl (Nat.le_of_ble_eq_true rfl) (s_X11_isSign l h10 42 s11 (by omega)) (rm_ok (by decide) (by decide)) (zq_i fun v141 h142 q140 => ?_)
        obtain ⟨rfl, b144, b145, ⟨rfl, b143⟩ | ⟨rfl, b143⟩⟩ := q140
        · refine zj_if_ne (t := 28) (zdk ttX11_readProduct 9 rfl rfl) (by decide) (by decide) (fun c146 => ?_) (fun c146 => ?_)
          · exact absurd c146 (by omega)
          · refine zj_aload_n (zdk ttX11_readProduct 10 rfl rfl) rfl (by decide) ?_
            refine zj_bipush (zdk ttX11_readProduct 11 rfl rfl) (by decide) ?_
            refine zj_callV (av := [.inl 47]) (st := []) (zdk ttX11_readProduct 12 rfl rfl) mb_X11_isSign mv_RX11_211 (ci := 11) rfl rfl (k_M s11) rfl rfl (Nat.le_of_ble_eq_true rfl) (s_X11_isSign l h10 47 s11 (by omega)) (rm_ok (by decide) (by decide)) (zq_i fun v148 h149 q147 => ?_)
            obtain ⟨rfl, b151, b152, ⟨rfl, b150⟩ | ⟨rfl, b150⟩⟩ := q147
            · refine zj_if_eq (t := 101) (zdk ttX11_readProduct 13 rfl rfl) (by decide) (by decide) (fun c153 => ?_) (fun c153 => ?_)
              · refine zj_iconst (zdk ttX11_readProduct 54 rfl rfl) ?_
                exact zj_iret rfl (zdk ttX11_readProduct 55 rfl rfl) (Nat.le_refl _) (Nat.le_refl _) ⟨0, rfl, by omega, s11, f12, (fun _ => ⟨u135, rdB_t u136 (rdB_r _) (by omega), u137⟩)⟩
              · exact absurd c153 (by omega)
            · refine zj_if_eq (t := 101) (zdk ttX11_readProduct 13 rfl rfl) (by decide) (by decide) (fun c154 => ?_) (fun c154 => ?_)
              · exact absurd c154 (by omega)
              · refine zj_aload_n (zdk ttX11_readProduct 14 rfl rfl) rfl (by decide) ?_
                refine zj_bipush (zdk ttX11_readProduct 15 rfl rfl) (by decide) ?_
                refine zj_callV (av := [.inl 42]) (st := []) (zdk ttX11_readProduct 16 rfl rfl) mb_X11_isSign mv_RX11_211 (ci := 11) rfl rfl (k_M s11) rfl rfl (Nat.le_of_ble_eq_true rfl) (s_X11_isSign l h10 42 s11 (by omega)) (rm_ok (by decide) (by decide)) (zq_i fun v156 h157 q155 => ?_)
                obtain ⟨rfl, b159, b160, ⟨rfl, b158⟩ | ⟨rfl, b158⟩⟩ := q155
                · refine zj_istore_n (L' := [some (.inr 0), some (.inl 0)]) (zdk ttX11_readProduct 17 rfl rfl) (by decide) rfl ?_
                  refine zj_aload_n (zdk ttX11_readProduct 18 rfl rfl) rfl (by decide) ?_
                  refine zj_callV (av := []) (st := []) (zdk ttX11_readProduct 19 rfl rfl) mb_X11_reads mv_RX11_204 (ci := 11) rfl rfl (k_M s11) rfl rfl (Nat.le_of_ble_eq_true rfl) (s_X11_reads l h10 s11) (rm_ok (by decide) (by decide)) (zq_v fun h163 q161 => ?_)
                  obtain ⟨s165, f168, u166, u167⟩ := q161
                  refine zj_iload_n (zdk ttX11_readProduct 20 rfl rfl) rfl ?_
                  refine zj_if_ne (t := 57) (zdk ttX11_readProduct 21 rfl rfl) (by decide) (by decide) (fun c169 => ?_) (fun c169 => ?_)
                  · exact absurd c169 (by omega)
                  · refine zj_aload_n (zdk ttX11_readProduct 22 rfl rfl) rfl (by decide) ?_
                    have b170 : 0 ≤ (h163.2 0 14) ∧ (h163.2 0 14) ≤ 4 := fM_14 s165
                    refine zj_geti (v := (h163.2 0 14)) (zdk ttX11_readProduct 23 rfl rfl) zf_RX11_166 rfl (k_M s165) rfl ?_
                    refine zj_iconst (zdk ttX11_readProduct 24 rfl rfl) ?_
                    refine zj_icmp_eq (t := 57) (zdk ttX11_readProduct 25 rfl rfl) (by decide) (by omega) (by decide) (fun c171 => ?_) (fun c171 => ?_)
                    · refine zj_iload_n (zdk ttX11_readProduct 30 rfl rfl) rfl ?_
                      refine zj_if_ne (t := 74) (zdk ttX11_readProduct 31 rfl rfl) (by decide) (by decide) (fun c172 => ?_) (fun c172 => ?_)
                      · exact absurd c172 (by omega)
                      · refine zj_aload_n (zdk ttX11_readProduct 32 rfl rfl) rfl (by decide) ?_
                        have b173 : -2147483648 ≤ (h163.2 0 15) ∧ (h163.2 0 15) ≤ 2147483647 := fM_15 s165
                        refine zj_geti (v := (h163.2 0 15)) (zdk ttX11_readProduct 33 rfl rfl) zf_RX11_169 rfl (k_M s165) rfl ?_
                        refine zj_if_ne (t := 74) (zdk ttX11_readProduct 34 rfl rfl) (by decide) (by omega) (fun c174 => ?_) (fun c174 => ?_)
                        · refine zj_aload_n (zdk ttX11_readProduct 39 rfl rfl) rfl (by decide) ?_
                          have b176 : 0 ≤ (h10.2 0 12) ∧ (h10.2 0 12) ≤ 400 := fM_12 s11
                          have b177 : 0 ≤ (h10.2 0 13) ∧ (h10.2 0 13) ≤ 400 := fM_13 s11
                          have b178 : 0 ≤ (h10.2 0 25) ∧ (h10.2 0 25) ≤ 400 := fM_25 s11
                          have b179 : 0 ≤ (h163.2 0 12) ∧ (h163.2 0 12) ≤ 400 := fM_12 s165
                          have b180 : 0 ≤ (h163.2 0 13) ∧ (h163.2 0 13) ≤ 400 := fM_13 s165
                          have b181 : h163.2 0 25 = (h10.2 0 25) := (zfr_f f168 rfl rfl)
                          have t182 : tok h10 := u135
                          unfold tok at t182
                          have r175B : rdB 1 h h163 := rdB_t u136 (rdB_same (s := 1) f168 rfl (by omega)) (by omega)
                          have r175P : rdP 1 h h163 := rdP_t u137 (rdP_same f168 rfl) (by omega) (by omega)
                          have b183 := r175B.2
                          refine zj_callV (av := []) (st := []) (zdk ttX11_readProduct 40 rfl rfl) mb_X11_readUnit mv_RX11_207 (ci := 11) rfl rfl (k_M s165) rfl rfl (Nat.le_of_ble_eq_true rfl) (s_X11_readUnit l h163 s165 u166 (by omega)) (rm_ok (by decide) (by decide)) (zq_i fun v185 h186 q184 => ?_)
                          obtain ⟨b187, s188, f191, u189, u190⟩ := q184
                          refine zj_iconst (zdk ttX11_readProduct 41 rfl rfl) ?_
                          refine zj_icmp_ne (t := 84) (zdk ttX11_readProduct 42 rfl rfl) (by decide) (by omega) (by decide) (fun c192 => ?_) (fun c192 => ?_)
                          · refine zj_aload_n (zdk ttX11_readProduct 45 rfl rfl) rfl (by decide) ?_
                            refine zj_iload_n (zdk ttX11_readProduct 46 rfl rfl) rfl ?_
                            refine zj_if_eq (t := 93) (zdk ttX11_readProduct 47 rfl rfl) (by decide) (by decide) (fun c193 => ?_) (fun c193 => ?_)
                            · refine zj_iconst (zdk ttX11_readProduct 50 rfl rfl) ?_
                              refine zj_iconst (zdk ttX11_readProduct 51 rfl rfl) ?_
                              have r195 := u189 (by omega)
                              have r195b := r195.2.1.2
                              have r195t := r195.1
                              unfold tok at r195t
                              have r194B : rdB 1 h h186 := rdB_t r175B r195.2.1 (by omega)
                              have r194P : rdP 2 h h186 := rdP_t r175P r195.2.2 (by omega) (by omega)
                              have b196 : 0 ≤ (h186.2 0 12) ∧ (h186.2 0 12) ≤ 400 := fM_12 s188
                              have b197 : 0 ≤ (h186.2 0 13) ∧ (h186.2 0 13) ≤ 400 := fM_13 s188
                              have b198 : 0 ≤ (h186.2 0 14) ∧ (h186.2 0 14) ≤ 4 := fM_14 s188
                              have b199 : 0 ≤ (h186.2 0 25) ∧ (h186.2 0 25) ≤ 400 := fM_25 s188
                              have t200 : tok h186 := r195.1
                              unfold tok at t200
                              have b201 := r194B.2
                              refine zj_callV (av := [.inl 5, .inl 0]) (st := []) (zdk ttX11_readProduct 52 rfl rfl) mb_X11_emits mv_RX11_200 (ci := 11) rfl rfl (k_M s188) rfl rfl (Nat.le_of_ble_eq_true rfl) (s_X11_emits l h186 5 0 s188 (by omega) (by omega) (by omega)) (rm_ok (by decide) (by decide)) (zq_v fun h204 q202 => ?_)
                              obtain ⟨s206, f208, u207⟩ := q202
                              refine zj_goto (t := 10) (zdk ttX11_readProduct 53 rfl rfl) (by decide) ?_
                              refine zj_kill (k := 1) (L' := [some (.inr 0), none]) rfl ?_
                              have b209 : h204.2 0 12 = (h186.2 0 12) := (zfr_f f208 rfl rfl)
                              have b210 : h204.2 0 13 = (h186.2 0 13) := (zfr_f f208 rfl rfl)
                              have b211 : h204.2 0 14 = (h186.2 0 14) := (zfr_f f208 rfl rfl)
                              have b212 : 0 ≤ (h204.2 0 25) ∧ (h204.2 0 25) ≤ 400 := fM_25 s206
                              have f215 : zfr [12, 13, 14, 15, 25, 29, 30] [14, 15] h h163 := zfr_t f12 f168 rfl rfl
                              have f214 : zfr [12, 13, 14, 15, 25, 29, 30] [14, 15] h h186 := zfr_t f215 f191 rfl rfl
                              have f213 : zfr [12, 13, 14, 15, 25, 29, 30] [14, 15] h h204 := zfr_t f214 f208 rfl rfl
                              have r216B : rdB 0 h h204 := rdB_t r194B (rdB_em u207 f208) (by omega)
                              have r216u := u190 (by omega)
                              have r216v := r216u.2 (by omega)
                              have r216n : dop h186 (h186.2 0 25 - 1) = 0 ∧ ¬ dar h186 (h186.2 0 25 - 1) = 0 := by rw [show h186.2 0 25 - 1 = h163.2 0 25 by omega]; exact ⟨r216v.1, by rw [r216v.2]; omega⟩
                              have r216m := r194B.2
                              have r216P : rdP 1 h h204 := rdP_div r194P u207 (by omega) r216n
                              have b217 := r216B.2
                              exact ih139  h204 s206 f213 (tok_same r195.1 f208 rfl rfl rfl rfl) (rdB_t r216B (rdB_r _) (by omega)) r216P (by omega)
                            · exact absurd c193 (by omega)
                          · refine zj_iconst (zdk ttX11_readProduct 43 rfl rfl) ?_
                            have f219 : zfr [12, 13, 14, 15, 25, 29, 30] [14, 15] h h163 := zfr_t f12 f168 rfl rfl
                            have f218 : zfr [12, 13, 14, 15, 25, 29, 30] [14, 15] h h186 := zfr_t f219 f191 rfl rfl
                            exact zj_iret rfl (zdk ttX11_readProduct 44 rfl rfl) (Nat.le_refl _) (Nat.le_refl _) ⟨(-1), rfl, by omega, s188, f218, (fun q => absurd q (by omega))⟩
                        · refine zj_aload_n (zdk ttX11_readProduct 35 rfl rfl) rfl (by decide) ?_
                          refine zj_iconst (zdk ttX11_readProduct 36 rfl rfl) ?_
                          refine zj_callV (av := [.inl 2]) (st := []) (zdk ttX11_readProduct 37 rfl rfl) mb_X11_errs mv_RX11_197 (ci := 11) rfl rfl (k_M s165) rfl rfl (Nat.le_of_ble_eq_true rfl) (s_X11_errs l h163 2 s165 (by omega)) (rm_ok (by decide) (by decide)) (zq_i fun v221 h222 q220 => ?_)
                          obtain ⟨b223, s224, f225⟩ := q220
                          have f227 : zfr [12, 13, 14, 15, 25, 29, 30] [14, 15] h h163 := zfr_t f12 f168 rfl rfl
                          have f226 : zfr [12, 13, 14, 15, 25, 29, 30] [14, 15] h h222 := zfr_t f227 f225 rfl rfl
                          exact zj_iret rfl (zdk ttX11_readProduct 38 rfl rfl) (Nat.le_refl _) (Nat.le_refl _) ⟨v221, rfl, by omega, s224, f226, (fun q => absurd q (by omega))⟩
                    · refine zj_aload_n (zdk ttX11_readProduct 26 rfl rfl) rfl (by decide) ?_
                      refine zj_iconst (zdk ttX11_readProduct 27 rfl rfl) ?_
                      refine zj_callV (av := [.inl 1]) (st := []) (zdk ttX11_readProduct 28 rfl rfl) mb_X11_errs mv_RX11_197 (ci := 11) rfl rfl (k_M s165) rfl rfl (Nat.le_of_ble_eq_true rfl) (s_X11_errs l h163 1 s165 (by omega)) (rm_ok (by decide) (by decide)) (zq_i fun v229 h230 q228 => ?_)
                      obtain ⟨b231, s232, f233⟩ := q228
                      have f235 : zfr [12, 13, 14, 15, 25, 29, 30] [14, 15] h h163 := zfr_t f12 f168 rfl rfl
                      have f234 : zfr [12, 13, 14, 15, 25, 29, 30] [14, 15] h h230 := zfr_t f235 f233 rfl rfl
                      exact zj_iret rfl (zdk ttX11_readProduct 29 rfl rfl) (Nat.le_refl _) (Nat.le_refl _) ⟨v229, rfl, by omega, s232, f234, (fun q => absurd q (by omega))⟩
                · exact absurd b158 (by omega)
        · refine zj_if_ne (t := 28) (zdk ttX11_readProduct 9 rfl rfl) (by decide) (by decide) (fun c236 => ?_) (fun c236 => ?_)
          · refine zj_aload_n (zdk ttX11_readProduct 14 rfl rfl) rfl (by decide) ?_
            refine zj_bipush (zdk ttX11_readProduct 15 rfl rfl) (by decide) ?_
            refine zj_callV (av := [.inl 42]) (st := []) (zdk ttX11_readProduct 16 rfl rfl) mb_X11_isSign mv_RX11_211 (ci := 11) rfl rfl (k_M s11) rfl rfl (Nat.le_of_ble_eq_true rfl) (s_X11_isSign l h10 42 s11 (by omega)) (rm_ok (by decide) (by decide)) (zq_i fun v238 h239 q237 => ?_)
            obtain ⟨rfl, b241, b242, ⟨rfl, b240⟩ | ⟨rfl, b240⟩⟩ := q237
            · exact absurd b240 (by omega)
            · refine zj_istore_n (L' := [some (.inr 0), some (.inl 1)]) (zdk ttX11_readProduct 17 rfl rfl) (by decide) rfl ?_
              refine zj_aload_n (zdk ttX11_readProduct 18 rfl rfl) rfl (by decide) ?_
              refine zj_callV (av := []) (st := []) (zdk ttX11_readProduct 19 rfl rfl) mb_X11_reads mv_RX11_204 (ci := 11) rfl rfl (k_M s11) rfl rfl (Nat.le_of_ble_eq_true rfl) (s_X11_reads l h10 s11) (rm_ok (by decide) (by decide)) (zq_v fun h245 q243 => ?_)
              obtain ⟨s247, f250, u248, u249⟩ := q243
              refine zj_iload_n (zdk ttX11_readProduct 20 rfl rfl) rfl ?_
              refine zj_if_ne (t := 57) (zdk ttX11_readProduct 21 rfl rfl) (by decide) (by decide) (fun c251 => ?_) (fun c251 => ?_)
              · refine zj_iload_n (zdk ttX11_readProduct 30 rfl rfl) rfl ?_
                refine zj_if_ne (t := 74) (zdk ttX11_readProduct 31 rfl rfl) (by decide) (by decide) (fun c252 => ?_) (fun c252 => ?_)
                · refine zj_aload_n (zdk ttX11_readProduct 39 rfl rfl) rfl (by decide) ?_
                  have b254 : 0 ≤ (h10.2 0 12) ∧ (h10.2 0 12) ≤ 400 := fM_12 s11
                  have b255 : 0 ≤ (h10.2 0 13) ∧ (h10.2 0 13) ≤ 400 := fM_13 s11
                  have b256 : 0 ≤ (h10.2 0 25) ∧ (h10.2 0 25) ≤ 400 := fM_25 s11
                  have b257 : 0 ≤ (h245.2 0 12) ∧ (h245.2 0 12) ≤ 400 := fM_12 s247
                  have b258 : 0 ≤ (h245.2 0 13) ∧ (h245.2 0 13) ≤ 400 := fM_13 s247
                  have b259 : 0 ≤ (h245.2 0 14) ∧ (h245.2 0 14) ≤ 4 := fM_14 s247
                  have b260 : h245.2 0 25 = (h10.2 0 25) := (zfr_f f250 rfl rfl)
                  have t261 : tok h10 := u135
                  unfold tok at t261
                  have r253B : rdB 1 h h245 := rdB_t u136 (rdB_same (s := 1) f250 rfl (by omega)) (by omega)
                  have r253P : rdP 1 h h245 := rdP_t u137 (rdP_same f250 rfl) (by omega) (by omega)
                  have b262 := r253B.2
                  refine zj_callV (av := []) (st := []) (zdk ttX11_readProduct 40 rfl rfl) mb_X11_readUnit mv_RX11_207 (ci := 11) rfl rfl (k_M s247) rfl rfl (Nat.le_of_ble_eq_true rfl) (s_X11_readUnit l h245 s247 u248 (by omega)) (rm_ok (by decide) (by decide)) (zq_i fun v264 h265 q263 => ?_)
                  obtain ⟨b266, s267, f270, u268, u269⟩ := q263
                  refine zj_iconst (zdk ttX11_readProduct 41 rfl rfl) ?_
                  refine zj_icmp_ne (t := 84) (zdk ttX11_readProduct 42 rfl rfl) (by decide) (by omega) (by decide) (fun c271 => ?_) (fun c271 => ?_)
                  · refine zj_aload_n (zdk ttX11_readProduct 45 rfl rfl) rfl (by decide) ?_
                    refine zj_iload_n (zdk ttX11_readProduct 46 rfl rfl) rfl ?_
                    refine zj_if_eq (t := 93) (zdk ttX11_readProduct 47 rfl rfl) (by decide) (by decide) (fun c272 => ?_) (fun c272 => ?_)
                    · exact absurd c272 (by omega)
                    · refine zj_iconst (zdk ttX11_readProduct 48 rfl rfl) ?_
                      refine zj_goto (t := 94) (zdk ttX11_readProduct 49 rfl rfl) (by decide) ?_
                      refine zj_iconst (zdk ttX11_readProduct 51 rfl rfl) ?_
                      have r274 := u268 (by omega)
                      have r274b := r274.2.1.2
                      have r274t := r274.1
                      unfold tok at r274t
                      have r273B : rdB 1 h h265 := rdB_t r253B r274.2.1 (by omega)
                      have r273P : rdP 2 h h265 := rdP_t r253P r274.2.2 (by omega) (by omega)
                      have b275 : 0 ≤ (h265.2 0 12) ∧ (h265.2 0 12) ≤ 400 := fM_12 s267
                      have b276 : 0 ≤ (h265.2 0 13) ∧ (h265.2 0 13) ≤ 400 := fM_13 s267
                      have b277 : 0 ≤ (h265.2 0 14) ∧ (h265.2 0 14) ≤ 4 := fM_14 s267
                      have b278 : 0 ≤ (h265.2 0 25) ∧ (h265.2 0 25) ≤ 400 := fM_25 s267
                      have t279 : tok h265 := r274.1
                      unfold tok at t279
                      have b280 := r273B.2
                      refine zj_callV (av := [.inl 4, .inl 0]) (st := []) (zdk ttX11_readProduct 52 rfl rfl) mb_X11_emits mv_RX11_200 (ci := 11) rfl rfl (k_M s267) rfl rfl (Nat.le_of_ble_eq_true rfl) (s_X11_emits l h265 4 0 s267 (by omega) (by omega) (by omega)) (rm_ok (by decide) (by decide)) (zq_v fun h283 q281 => ?_)
                      obtain ⟨s285, f287, u286⟩ := q281
                      refine zj_goto (t := 10) (zdk ttX11_readProduct 53 rfl rfl) (by decide) ?_
                      refine zj_kill (k := 1) (L' := [some (.inr 0), none]) rfl ?_
                      have b288 : h283.2 0 12 = (h265.2 0 12) := (zfr_f f287 rfl rfl)
                      have b289 : h283.2 0 13 = (h265.2 0 13) := (zfr_f f287 rfl rfl)
                      have b290 : h283.2 0 14 = (h265.2 0 14) := (zfr_f f287 rfl rfl)
                      have b291 : 0 ≤ (h283.2 0 25) ∧ (h283.2 0 25) ≤ 400 := fM_25 s285
                      have f294 : zfr [12, 13, 14, 15, 25, 29, 30] [14, 15] h h245 := zfr_t f12 f250 rfl rfl
                      have f293 : zfr [12, 13, 14, 15, 25, 29, 30] [14, 15] h h265 := zfr_t f294 f270 rfl rfl
                      have f292 : zfr [12, 13, 14, 15, 25, 29, 30] [14, 15] h h283 := zfr_t f293 f287 rfl rfl
                      have r295B : rdB 0 h h283 := rdB_t r273B (rdB_em u286 f287) (by omega)
                      have r295P : rdP 1 h h283 := rdP_bin r273P u286 (by decide)
                      have b296 := r295B.2
                      exact ih139  h283 s285 f292 (tok_same r274.1 f287 rfl rfl rfl rfl) (rdB_t r295B (rdB_r _) (by omega)) r295P (by omega)
                  · refine zj_iconst (zdk ttX11_readProduct 43 rfl rfl) ?_
                    have f298 : zfr [12, 13, 14, 15, 25, 29, 30] [14, 15] h h245 := zfr_t f12 f250 rfl rfl
                    have f297 : zfr [12, 13, 14, 15, 25, 29, 30] [14, 15] h h265 := zfr_t f298 f270 rfl rfl
                    exact zj_iret rfl (zdk ttX11_readProduct 44 rfl rfl) (Nat.le_refl _) (Nat.le_refl _) ⟨(-1), rfl, by omega, s267, f297, (fun q => absurd q (by omega))⟩
                · exact absurd c252 (by omega)
              · exact absurd c251 (by omega)
          · exact absurd c236 (by omega)
    have b299 : 0 ≤ (h3.2 0 12) ∧ (h3.2 0 12) ≤ 400 := fM_12 s5
    have b300 : 0 ≤ (h3.2 0 13) ∧ (h3.2 0 13) ≤ 400 := fM_13 s5
    have b301 : 0 ≤ (h3.2 0 14) ∧ (h3.2 0 14) ≤ 4 := fM_14 s5
    have b302 : 0 ≤ (h3.2 0 25) ∧ (h3.2 0 25) ≤ 400 := fM_25 s5
    have f303 : zfr [12, 13, 14, 15, 25, 29, 30] [14, 15] h h3 := zfr_t (zfr_r _ _ _) f8 rfl rfl
    have r304 := u6 (by omega)
    have r304b := r304.2.1.2
    have r304t := r304.1
    unfold tok at r304t
    have r305B : rdB 0 h h3 := rdB_t (rdB_r h) r304.2.1 (by omega)
    have r305P : rdP 1 h h3 := rdP_t (rdP_r h) r304.2.2 (by omega) (by omega)
    have b306 := r305B.2
    exact lp134 _ h3 s5 f303 r304.1 (rdB_t r305B (rdB_r _) (by omega)) r305P (Nat.lt_succ_self _)
  · refine zj_iconst (zdk ttX11_readProduct 4 rfl rfl) ?_
    have f307 : zfr [12, 13, 14, 15, 25, 29, 30] [14, 15] h h3 := zfr_t (zfr_r _ _ _) f8 rfl rfl
    exact zj_iret rfl (zdk ttX11_readProduct 5 rfl rfl) (Nat.le_refl _) (Nat.le_refl _) ⟨(-1), rfl, by omega, s5, f307, (fun q => absurd q (by omega))⟩

abbrev tX11_readSum : List (Nat × Instr × Nat) := [(0, .aload_n 0, 1), (1, .invokevirtual 214, 3), (4, .iconst (-1), 1), (5, .if_icmp .ne 5, 3), (8, .iconst (-1), 1), (9, .ireturn, 1), (10, .aload_n 0, 1), (11, .bipush 43, 2), (13, .invokevirtual 211, 3), (16, .ifCond .ne 12, 3), (19, .aload_n 0, 1), (20, .bipush 45, 2), (22, .invokevirtual 211, 3), (25, .ifCond .eq 41, 3), (28, .aload_n 0, 1), (29, .getfield 169, 3), (32, .bipush 43, 2), (34, .if_icmp .ne 7, 3), (37, .iconst 2, 1), (38, .goto 4, 3), (41, .iconst 3, 1), (42, .istore_n 1, 1), (43, .aload_n 0, 1), (44, .invokevirtual 204, 3), (47, .aload_n 0, 1), (48, .invokevirtual 214, 3), (51, .iconst (-1), 1), (52, .if_icmp .ne 5, 3), (55, .iconst (-1), 1), (56, .ireturn, 1), (57, .aload_n 0, 1), (58, .iload_n 1, 1), (59, .iconst 0, 1), (60, .invokevirtual 200, 3), (63, .goto (-53), 3), (66, .iconst 0, 1), (67, .ireturn, 1)]
theorem ttX11_readSum : zdt cX11_readSum tX11_readSum = true := by decide +kernel
abbrev q_X11_readSum (h : zM) : Option zV → zM → Prop := zqi fun v h' => ((-1) ≤ v ∧ v ≤ 0) ∧ okM h' ∧ zfr [12, 13, 14, 15, 25, 29, 30] [14, 15] h h' ∧ (v = 0 → RD h h')
set_option maxRecDepth 100000 in
set_option maxHeartbeats 4000000 in
theorem s_X11_readSum (l : Launch) (h : zM) (s0 : okM h) (u_0 : tok h) (u_1 : h.2 0 25 ≤ h.2 0 13) : zT shM l yX11_readSum cX11_readSum 2 (some .int) (rmL 6) 0 0 [.inr 0] h (q_X11_readSum h) := by
  refine zT_of (by decide +kernel) (L0 := [some (.inr 0), none]) rfl (Nat.le_of_ble_eq_true rfl) ?_
  refine zj_aload_n (zdk ttX11_readSum 0 rfl rfl) rfl (by decide) ?_
  refine zj_callV (av := []) (st := []) (zdk ttX11_readSum 1 rfl rfl) mb_X11_readProduct mv_RX11_214 (ci := 11) rfl rfl (k_M s0) rfl rfl (Nat.le_of_ble_eq_true rfl) (s_X11_readProduct l h s0 u_0 u_1) (rm_ok (by decide) (by decide)) (zq_i fun v2 h3 q1 => ?_)
  obtain ⟨b4, s5, f7, u6⟩ := q1
  refine zj_iconst (zdk ttX11_readSum 2 rfl rfl) ?_
  refine zj_icmp_ne (t := 10) (zdk ttX11_readSum 3 rfl rfl) (by decide) (by omega) (by decide) (fun c8 => ?_) (fun c8 => ?_)
  · have lp112 : ∀ (n10 : Nat) (h9 : zM), okM h9 → zfr [12, 13, 14, 15, 25, 29, 30] [14, 15] h h9 → (tok h9) → (rdB 0 h h9) → (rdP 1 h h9) → (401 - (h9.2 0 13)).toNat < n10 → zJ shM l yX11_readSum cX11_readSum 2 (some .int) (rmL 6) 0 0 (q_X11_readSum h) 0 0 10 [some (.inr 0), none] [] h9 := by
      intro n10
      induction n10 with
      | zero => intro h9 s10 f11 u113 u114 u115 m116; exact absurd m116 (Nat.not_lt_zero _)
      | succ n10 ih117 =>
        intro h9 s10 f11 u113 u114 u115 m116
        refine zj_aload_n (zdk ttX11_readSum 6 rfl rfl) rfl (by decide) ?_
        refine zj_bipush (zdk ttX11_readSum 7 rfl rfl) (by decide) ?_
        refine zj_callV (av := [.inl 43]) (st := []) (zdk ttX11_readSum 8 rfl rfl) mb_X11_isSign mv_RX11_211 (ci := 11) rfl rfl (k_M s10) rfl rfl (Nat.le_of_ble_eq_true rfl) (s_X11_isSign l h9 43 s10 (by omega)) (rm_ok (by decide) (by decide)) (zq_i fun v119 h120 q118 => ?_)
        obtain ⟨rfl, b122, b123, ⟨rfl, b121⟩ | ⟨rfl, b121⟩⟩ := q118
        · refine zj_if_ne (t := 28) (zdk ttX11_readSum 9 rfl rfl) (by decide) (by decide) (fun c124 => ?_) (fun c124 => ?_)
          · exact absurd c124 (by omega)
          · refine zj_aload_n (zdk ttX11_readSum 10 rfl rfl) rfl (by decide) ?_
            refine zj_bipush (zdk ttX11_readSum 11 rfl rfl) (by decide) ?_
            refine zj_callV (av := [.inl 45]) (st := []) (zdk ttX11_readSum 12 rfl rfl) mb_X11_isSign mv_RX11_211 (ci := 11) rfl rfl (k_M s10) rfl rfl (Nat.le_of_ble_eq_true rfl) (s_X11_isSign l h9 45 s10 (by omega)) (rm_ok (by decide) (by decide)) (zq_i fun v126 h127 q125 => ?_)
            obtain ⟨rfl, b129, b130, ⟨rfl, b128⟩ | ⟨rfl, b128⟩⟩ := q125
            · refine zj_if_eq (t := 66) (zdk ttX11_readSum 13 rfl rfl) (by decide) (by decide) (fun c131 => ?_) (fun c131 => ?_)
              · refine zj_iconst (zdk ttX11_readSum 35 rfl rfl) ?_
                exact zj_iret rfl (zdk ttX11_readSum 36 rfl rfl) (Nat.le_refl _) (Nat.le_refl _) ⟨0, rfl, by omega, s10, f11, (fun _ => ⟨u113, rdB_t u114 (rdB_r _) (by omega), u115⟩)⟩
              · exact absurd c131 (by omega)
            · refine zj_if_eq (t := 66) (zdk ttX11_readSum 13 rfl rfl) (by decide) (by decide) (fun c132 => ?_) (fun c132 => ?_)
              · exact absurd c132 (by omega)
              · refine zj_aload_n (zdk ttX11_readSum 14 rfl rfl) rfl (by decide) ?_
                refine zj_geti (v := (h9.2 0 15)) (zdk ttX11_readSum 15 rfl rfl) zf_RX11_169 rfl (k_M s10) rfl ?_
                refine zj_bipush (zdk ttX11_readSum 16 rfl rfl) (by decide) ?_
                refine zj_icmp_ne (t := 41) (zdk ttX11_readSum 17 rfl rfl) (by decide) (by omega) (by decide) (fun c133 => ?_) (fun c133 => ?_)
                · refine zj_iconst (zdk ttX11_readSum 20 rfl rfl) ?_
                  refine zj_istore_n (L' := [some (.inr 0), some (.inl 3)]) (zdk ttX11_readSum 21 rfl rfl) (by decide) rfl ?_
                  refine zj_aload_n (zdk ttX11_readSum 22 rfl rfl) rfl (by decide) ?_
                  refine zj_callV (av := []) (st := []) (zdk ttX11_readSum 23 rfl rfl) mb_X11_reads mv_RX11_204 (ci := 11) rfl rfl (k_M s10) rfl rfl (Nat.le_of_ble_eq_true rfl) (s_X11_reads l h9 s10) (rm_ok (by decide) (by decide)) (zq_v fun h136 q134 => ?_)
                  obtain ⟨s138, f141, u139, u140⟩ := q134
                  refine zj_aload_n (zdk ttX11_readSum 24 rfl rfl) rfl (by decide) ?_
                  have b143 : 0 ≤ (h9.2 0 12) ∧ (h9.2 0 12) ≤ 400 := fM_12 s10
                  have b144 : 0 ≤ (h9.2 0 13) ∧ (h9.2 0 13) ≤ 400 := fM_13 s10
                  have b145 : 0 ≤ (h9.2 0 25) ∧ (h9.2 0 25) ≤ 400 := fM_25 s10
                  have b146 : 0 ≤ (h136.2 0 12) ∧ (h136.2 0 12) ≤ 400 := fM_12 s138
                  have b147 : 0 ≤ (h136.2 0 13) ∧ (h136.2 0 13) ≤ 400 := fM_13 s138
                  have b148 : 0 ≤ (h136.2 0 14) ∧ (h136.2 0 14) ≤ 4 := fM_14 s138
                  have b149 : h136.2 0 25 = (h9.2 0 25) := (zfr_f f141 rfl rfl)
                  have t150 : tok h9 := u113
                  unfold tok at t150
                  have r142B : rdB 1 h h136 := rdB_t u114 (rdB_same (s := 1) f141 rfl (by omega)) (by omega)
                  have r142P : rdP 1 h h136 := rdP_t u115 (rdP_same f141 rfl) (by omega) (by omega)
                  have b151 := r142B.2
                  refine zj_callV (av := []) (st := []) (zdk ttX11_readSum 25 rfl rfl) mb_X11_readProduct mv_RX11_214 (ci := 11) rfl rfl (k_M s138) rfl rfl (Nat.le_of_ble_eq_true rfl) (s_X11_readProduct l h136 s138 u139 (by omega)) (rm_ok (by decide) (by decide)) (zq_i fun v153 h154 q152 => ?_)
                  obtain ⟨b155, s156, f158, u157⟩ := q152
                  refine zj_iconst (zdk ttX11_readSum 26 rfl rfl) ?_
                  refine zj_icmp_ne (t := 57) (zdk ttX11_readSum 27 rfl rfl) (by decide) (by omega) (by decide) (fun c159 => ?_) (fun c159 => ?_)
                  · refine zj_aload_n (zdk ttX11_readSum 30 rfl rfl) rfl (by decide) ?_
                    refine zj_iload_n (zdk ttX11_readSum 31 rfl rfl) rfl ?_
                    refine zj_iconst (zdk ttX11_readSum 32 rfl rfl) ?_
                    have r161 := u157 (by omega)
                    have r161b := r161.2.1.2
                    have r161t := r161.1
                    unfold tok at r161t
                    have r160B : rdB 1 h h154 := rdB_t r142B r161.2.1 (by omega)
                    have r160P : rdP 2 h h154 := rdP_t r142P r161.2.2 (by omega) (by omega)
                    have b162 : 0 ≤ (h154.2 0 12) ∧ (h154.2 0 12) ≤ 400 := fM_12 s156
                    have b163 : 0 ≤ (h154.2 0 13) ∧ (h154.2 0 13) ≤ 400 := fM_13 s156
                    have b164 : 0 ≤ (h154.2 0 14) ∧ (h154.2 0 14) ≤ 4 := fM_14 s156
                    have b165 : 0 ≤ (h154.2 0 25) ∧ (h154.2 0 25) ≤ 400 := fM_25 s156
                    have t166 : tok h154 := r161.1
                    unfold tok at t166
                    have b167 := r160B.2
                    refine zj_callV (av := [.inl 3, .inl 0]) (st := []) (zdk ttX11_readSum 33 rfl rfl) mb_X11_emits mv_RX11_200 (ci := 11) rfl rfl (k_M s156) rfl rfl (Nat.le_of_ble_eq_true rfl) (s_X11_emits l h154 3 0 s156 (by omega) (by omega) (by omega)) (rm_ok (by decide) (by decide)) (zq_v fun h170 q168 => ?_)
                    obtain ⟨s172, f174, u173⟩ := q168
                    refine zj_goto (t := 10) (zdk ttX11_readSum 34 rfl rfl) (by decide) ?_
                    refine zj_kill (k := 1) (L' := [some (.inr 0), none]) rfl ?_
                    have b175 : h170.2 0 12 = (h154.2 0 12) := (zfr_f f174 rfl rfl)
                    have b176 : h170.2 0 13 = (h154.2 0 13) := (zfr_f f174 rfl rfl)
                    have b177 : h170.2 0 14 = (h154.2 0 14) := (zfr_f f174 rfl rfl)
                    have b178 : 0 ≤ (h170.2 0 25) ∧ (h170.2 0 25) ≤ 400 := fM_25 s172
                    have f181 : zfr [12, 13, 14, 15, 25, 29, 30] [14, 15] h h136 := zfr_t f11 f141 rfl rfl
                    have f180 : zfr [12, 13, 14, 15, 25, 29, 30] [14, 15] h h154 := zfr_t f181 f158 rfl rfl
                    have f179 : zfr [12, 13, 14, 15, 25, 29, 30] [14, 15] h h170 := zfr_t f180 f174 rfl rfl
                    have r182B : rdB 0 h h170 := rdB_t r160B (rdB_em u173 f174) (by omega)
                    have r182P : rdP 1 h h170 := rdP_bin r160P u173 (by decide)
                    have b183 := r182B.2
                    exact ih117  h170 s172 f179 (tok_same r161.1 f174 rfl rfl rfl rfl) (rdB_t r182B (rdB_r _) (by omega)) r182P (by omega)
                  · refine zj_iconst (zdk ttX11_readSum 28 rfl rfl) ?_
                    have f185 : zfr [12, 13, 14, 15, 25, 29, 30] [14, 15] h h136 := zfr_t f11 f141 rfl rfl
                    have f184 : zfr [12, 13, 14, 15, 25, 29, 30] [14, 15] h h154 := zfr_t f185 f158 rfl rfl
                    exact zj_iret rfl (zdk ttX11_readSum 29 rfl rfl) (Nat.le_refl _) (Nat.le_refl _) ⟨(-1), rfl, by omega, s156, f184, (fun q => absurd q (by omega))⟩
                · exact absurd c133 (by omega)
        · refine zj_if_ne (t := 28) (zdk ttX11_readSum 9 rfl rfl) (by decide) (by decide) (fun c186 => ?_) (fun c186 => ?_)
          · refine zj_aload_n (zdk ttX11_readSum 14 rfl rfl) rfl (by decide) ?_
            refine zj_geti (v := (h9.2 0 15)) (zdk ttX11_readSum 15 rfl rfl) zf_RX11_169 rfl (k_M s10) rfl ?_
            refine zj_bipush (zdk ttX11_readSum 16 rfl rfl) (by decide) ?_
            refine zj_icmp_ne (t := 41) (zdk ttX11_readSum 17 rfl rfl) (by decide) (by omega) (by decide) (fun c187 => ?_) (fun c187 => ?_)
            · exact absurd c187 (by omega)
            · refine zj_iconst (zdk ttX11_readSum 18 rfl rfl) ?_
              refine zj_goto (t := 42) (zdk ttX11_readSum 19 rfl rfl) (by decide) ?_
              refine zj_istore_n (L' := [some (.inr 0), some (.inl 2)]) (zdk ttX11_readSum 21 rfl rfl) (by decide) rfl ?_
              refine zj_aload_n (zdk ttX11_readSum 22 rfl rfl) rfl (by decide) ?_
              refine zj_callV (av := []) (st := []) (zdk ttX11_readSum 23 rfl rfl) mb_X11_reads mv_RX11_204 (ci := 11) rfl rfl (k_M s10) rfl rfl (Nat.le_of_ble_eq_true rfl) (s_X11_reads l h9 s10) (rm_ok (by decide) (by decide)) (zq_v fun h190 q188 => ?_)
              obtain ⟨s192, f195, u193, u194⟩ := q188
              refine zj_aload_n (zdk ttX11_readSum 24 rfl rfl) rfl (by decide) ?_
              have b197 : 0 ≤ (h9.2 0 12) ∧ (h9.2 0 12) ≤ 400 := fM_12 s10
              have b198 : 0 ≤ (h9.2 0 13) ∧ (h9.2 0 13) ≤ 400 := fM_13 s10
              have b199 : 0 ≤ (h9.2 0 25) ∧ (h9.2 0 25) ≤ 400 := fM_25 s10
              have b200 : 0 ≤ (h190.2 0 12) ∧ (h190.2 0 12) ≤ 400 := fM_12 s192
              have b201 : 0 ≤ (h190.2 0 13) ∧ (h190.2 0 13) ≤ 400 := fM_13 s192
              have b202 : 0 ≤ (h190.2 0 14) ∧ (h190.2 0 14) ≤ 4 := fM_14 s192
              have b203 : h190.2 0 25 = (h9.2 0 25) := (zfr_f f195 rfl rfl)
              have t204 : tok h9 := u113
              unfold tok at t204
              have r196B : rdB 1 h h190 := rdB_t u114 (rdB_same (s := 1) f195 rfl (by omega)) (by omega)
              have r196P : rdP 1 h h190 := rdP_t u115 (rdP_same f195 rfl) (by omega) (by omega)
              have b205 := r196B.2
              refine zj_callV (av := []) (st := []) (zdk ttX11_readSum 25 rfl rfl) mb_X11_readProduct mv_RX11_214 (ci := 11) rfl rfl (k_M s192) rfl rfl (Nat.le_of_ble_eq_true rfl) (s_X11_readProduct l h190 s192 u193 (by omega)) (rm_ok (by decide) (by decide)) (zq_i fun v207 h208 q206 => ?_)
              obtain ⟨b209, s210, f212, u211⟩ := q206
              refine zj_iconst (zdk ttX11_readSum 26 rfl rfl) ?_
              refine zj_icmp_ne (t := 57) (zdk ttX11_readSum 27 rfl rfl) (by decide) (by omega) (by decide) (fun c213 => ?_) (fun c213 => ?_)
              · refine zj_aload_n (zdk ttX11_readSum 30 rfl rfl) rfl (by decide) ?_
                refine zj_iload_n (zdk ttX11_readSum 31 rfl rfl) rfl ?_
                refine zj_iconst (zdk ttX11_readSum 32 rfl rfl) ?_
                have r215 := u211 (by omega)
                have r215b := r215.2.1.2
                have r215t := r215.1
                unfold tok at r215t
                have r214B : rdB 1 h h208 := rdB_t r196B r215.2.1 (by omega)
                have r214P : rdP 2 h h208 := rdP_t r196P r215.2.2 (by omega) (by omega)
                have b216 : 0 ≤ (h208.2 0 12) ∧ (h208.2 0 12) ≤ 400 := fM_12 s210
                have b217 : 0 ≤ (h208.2 0 13) ∧ (h208.2 0 13) ≤ 400 := fM_13 s210
                have b218 : 0 ≤ (h208.2 0 14) ∧ (h208.2 0 14) ≤ 4 := fM_14 s210
                have b219 : 0 ≤ (h208.2 0 25) ∧ (h208.2 0 25) ≤ 400 := fM_25 s210
                have t220 : tok h208 := r215.1
                unfold tok at t220
                have b221 := r214B.2
                refine zj_callV (av := [.inl 2, .inl 0]) (st := []) (zdk ttX11_readSum 33 rfl rfl) mb_X11_emits mv_RX11_200 (ci := 11) rfl rfl (k_M s210) rfl rfl (Nat.le_of_ble_eq_true rfl) (s_X11_emits l h208 2 0 s210 (by omega) (by omega) (by omega)) (rm_ok (by decide) (by decide)) (zq_v fun h224 q222 => ?_)
                obtain ⟨s226, f228, u227⟩ := q222
                refine zj_goto (t := 10) (zdk ttX11_readSum 34 rfl rfl) (by decide) ?_
                refine zj_kill (k := 1) (L' := [some (.inr 0), none]) rfl ?_
                have b229 : h224.2 0 12 = (h208.2 0 12) := (zfr_f f228 rfl rfl)
                have b230 : h224.2 0 13 = (h208.2 0 13) := (zfr_f f228 rfl rfl)
                have b231 : h224.2 0 14 = (h208.2 0 14) := (zfr_f f228 rfl rfl)
                have b232 : 0 ≤ (h224.2 0 25) ∧ (h224.2 0 25) ≤ 400 := fM_25 s226
                have f235 : zfr [12, 13, 14, 15, 25, 29, 30] [14, 15] h h190 := zfr_t f11 f195 rfl rfl
                have f234 : zfr [12, 13, 14, 15, 25, 29, 30] [14, 15] h h208 := zfr_t f235 f212 rfl rfl
                have f233 : zfr [12, 13, 14, 15, 25, 29, 30] [14, 15] h h224 := zfr_t f234 f228 rfl rfl
                have r236B : rdB 0 h h224 := rdB_t r214B (rdB_em u227 f228) (by omega)
                have r236P : rdP 1 h h224 := rdP_bin r214P u227 (by decide)
                have b237 := r236B.2
                exact ih117  h224 s226 f233 (tok_same r215.1 f228 rfl rfl rfl rfl) (rdB_t r236B (rdB_r _) (by omega)) r236P (by omega)
              · refine zj_iconst (zdk ttX11_readSum 28 rfl rfl) ?_
                have f239 : zfr [12, 13, 14, 15, 25, 29, 30] [14, 15] h h190 := zfr_t f11 f195 rfl rfl
                have f238 : zfr [12, 13, 14, 15, 25, 29, 30] [14, 15] h h208 := zfr_t f239 f212 rfl rfl
                exact zj_iret rfl (zdk ttX11_readSum 29 rfl rfl) (Nat.le_refl _) (Nat.le_refl _) ⟨(-1), rfl, by omega, s210, f238, (fun q => absurd q (by omega))⟩
          · exact absurd c186 (by omega)
    have b240 : 0 ≤ (h3.2 0 12) ∧ (h3.2 0 12) ≤ 400 := fM_12 s5
    have b241 : 0 ≤ (h3.2 0 13) ∧ (h3.2 0 13) ≤ 400 := fM_13 s5
    have b242 : 0 ≤ (h3.2 0 14) ∧ (h3.2 0 14) ≤ 4 := fM_14 s5
    have b243 : 0 ≤ (h3.2 0 25) ∧ (h3.2 0 25) ≤ 400 := fM_25 s5
    have f244 : zfr [12, 13, 14, 15, 25, 29, 30] [14, 15] h h3 := zfr_t (zfr_r _ _ _) f7 rfl rfl
    have r245 := u6 (by omega)
    have r245b := r245.2.1.2
    have r245t := r245.1
    unfold tok at r245t
    have r246B : rdB 0 h h3 := rdB_t (rdB_r h) r245.2.1 (by omega)
    have r246P : rdP 1 h h3 := rdP_t (rdP_r h) r245.2.2 (by omega) (by omega)
    have b247 := r246B.2
    exact lp112 _ h3 s5 f244 r245.1 (rdB_t r246B (rdB_r _) (by omega)) r246P (Nat.lt_succ_self _)
  · refine zj_iconst (zdk ttX11_readSum 4 rfl rfl) ?_
    have f248 : zfr [12, 13, 14, 15, 25, 29, 30] [14, 15] h h3 := zfr_t (zfr_r _ _ _) f7 rfl rfl
    exact zj_iret rfl (zdk ttX11_readSum 5 rfl rfl) (Nat.le_refl _) (Nat.le_refl _) ⟨(-1), rfl, by omega, s5, f248, (fun q => absurd q (by omega))⟩

abbrev tX11_readCompared : List (Nat × Instr × Nat) := [(0, .aload_n 0, 1), (1, .invokevirtual 217, 3), (4, .iconst (-1), 1), (5, .if_icmp .ne 5, 3), (8, .iconst (-1), 1), (9, .ireturn, 1), (10, .aload_n 0, 1), (11, .bipush 60, 2), (13, .invokevirtual 211, 3), (16, .ifCond .ne 27, 3), (19, .aload_n 0, 1), (20, .bipush 61, 2), (22, .invokevirtual 211, 3), (25, .ifCond .ne 18, 3), (28, .aload_n 0, 1), (29, .bipush 62, 2), (31, .invokevirtual 211, 3), (34, .ifCond .ne 9, 3), (37, .aload_n 0, 1), (38, .iconst 1, 1), (39, .invokevirtual 197, 3), (42, .ireturn, 1), (43, .aload_n 0, 1), (44, .getfield 169, 3), (47, .bipush 60, 2), (49, .if_icmp .ne 8, 3), (52, .bipush 6, 2), (54, .goto 19, 3), (57, .aload_n 0, 1), (58, .getfield 169, 3), (61, .bipush 61, 2), (63, .if_icmp .ne 8, 3), (66, .bipush 7, 2), (68, .goto 5, 3), (71, .bipush 8, 2), (73, .istore_n 1, 1), (74, .aload_n 0, 1), (75, .invokevirtual 204, 3), (78, .aload_n 0, 1), (79, .invokevirtual 217, 3), (82, .iconst (-1), 1), (83, .if_icmp .ne 5, 3), (86, .iconst (-1), 1), (87, .ireturn, 1), (88, .aload_n 0, 1), (89, .iload_n 1, 1), (90, .iconst 0, 1), (91, .invokevirtual 200, 3), (94, .iconst 0, 1), (95, .ireturn, 1)]
theorem ttX11_readCompared : zdt cX11_readCompared tX11_readCompared = true := by decide +kernel
abbrev q_X11_readCompared (h : zM) : Option zV → zM → Prop := zqi fun v h' => ((-1) ≤ v ∧ v ≤ 0) ∧ okM h' ∧ zfr [12, 13, 14, 15, 25, 29, 30] [14, 15] h h' ∧ (v = 0 → RD h h')
set_option maxRecDepth 100000 in
set_option maxHeartbeats 4000000 in
theorem s_X11_readCompared (l : Launch) (h : zM) (s0 : okM h) (u_0 : tok h) (u_1 : h.2 0 25 ≤ h.2 0 13) : zT shM l yX11_readCompared cX11_readCompared 2 (some .int) (rmL 7) 0 0 [.inr 0] h (q_X11_readCompared h) := by
  refine zT_of (by decide +kernel) (L0 := [some (.inr 0), none]) rfl (Nat.le_of_ble_eq_true rfl) ?_
  refine zj_aload_n (zdk ttX11_readCompared 0 rfl rfl) rfl (by decide) ?_
  refine zj_callV (av := []) (st := []) (zdk ttX11_readCompared 1 rfl rfl) mb_X11_readSum mv_RX11_217 (ci := 11) rfl rfl (k_M s0) rfl rfl (Nat.le_of_ble_eq_true rfl) (s_X11_readSum l h s0 u_0 u_1) (rm_ok (by decide) (by decide)) (zq_i fun v2 h3 q1 => ?_)
  obtain ⟨b4, s5, f7, u6⟩ := q1
  refine zj_iconst (zdk ttX11_readCompared 2 rfl rfl) ?_
  refine zj_icmp_ne (t := 10) (zdk ttX11_readCompared 3 rfl rfl) (by decide) (by omega) (by decide) (fun c8 => ?_) (fun c8 => ?_)
  · refine zj_aload_n (zdk ttX11_readCompared 6 rfl rfl) rfl (by decide) ?_
    refine zj_bipush (zdk ttX11_readCompared 7 rfl rfl) (by decide) ?_
    refine zj_callV (av := [.inl 60]) (st := []) (zdk ttX11_readCompared 8 rfl rfl) mb_X11_isSign mv_RX11_211 (ci := 11) rfl rfl (k_M s5) rfl rfl (Nat.le_of_ble_eq_true rfl) (s_X11_isSign l h3 60 s5 (by omega)) (rm_ok (by decide) (by decide)) (zq_i fun v10 h11 q9 => ?_)
    obtain ⟨rfl, b13, b14, ⟨rfl, b12⟩ | ⟨rfl, b12⟩⟩ := q9
    · refine zj_if_ne (t := 43) (zdk ttX11_readCompared 9 rfl rfl) (by decide) (by decide) (fun c15 => ?_) (fun c15 => ?_)
      · exact absurd c15 (by omega)
      · refine zj_aload_n (zdk ttX11_readCompared 10 rfl rfl) rfl (by decide) ?_
        refine zj_bipush (zdk ttX11_readCompared 11 rfl rfl) (by decide) ?_
        refine zj_callV (av := [.inl 61]) (st := []) (zdk ttX11_readCompared 12 rfl rfl) mb_X11_isSign mv_RX11_211 (ci := 11) rfl rfl (k_M s5) rfl rfl (Nat.le_of_ble_eq_true rfl) (s_X11_isSign l h3 61 s5 (by omega)) (rm_ok (by decide) (by decide)) (zq_i fun v17 h18 q16 => ?_)
        obtain ⟨rfl, b20, b21, ⟨rfl, b19⟩ | ⟨rfl, b19⟩⟩ := q16
        · refine zj_if_ne (t := 43) (zdk ttX11_readCompared 13 rfl rfl) (by decide) (by decide) (fun c22 => ?_) (fun c22 => ?_)
          · exact absurd c22 (by omega)
          · refine zj_aload_n (zdk ttX11_readCompared 14 rfl rfl) rfl (by decide) ?_
            refine zj_bipush (zdk ttX11_readCompared 15 rfl rfl) (by decide) ?_
            refine zj_callV (av := [.inl 62]) (st := []) (zdk ttX11_readCompared 16 rfl rfl) mb_X11_isSign mv_RX11_211 (ci := 11) rfl rfl (k_M s5) rfl rfl (Nat.le_of_ble_eq_true rfl) (s_X11_isSign l h3 62 s5 (by omega)) (rm_ok (by decide) (by decide)) (zq_i fun v24 h25 q23 => ?_)
            obtain ⟨rfl, b27, b28, ⟨rfl, b26⟩ | ⟨rfl, b26⟩⟩ := q23
            · refine zj_if_ne (t := 43) (zdk ttX11_readCompared 17 rfl rfl) (by decide) (by decide) (fun c29 => ?_) (fun c29 => ?_)
              · exact absurd c29 (by omega)
              · refine zj_aload_n (zdk ttX11_readCompared 18 rfl rfl) rfl (by decide) ?_
                refine zj_iconst (zdk ttX11_readCompared 19 rfl rfl) ?_
                refine zj_callV (av := [.inl 1]) (st := []) (zdk ttX11_readCompared 20 rfl rfl) mb_X11_errs mv_RX11_197 (ci := 11) rfl rfl (k_M s5) rfl rfl (Nat.le_of_ble_eq_true rfl) (s_X11_errs l h3 1 s5 (by omega)) (rm_ok (by decide) (by decide)) (zq_i fun v31 h32 q30 => ?_)
                obtain ⟨b33, s34, f35⟩ := q30
                have f37 : zfr [12, 13, 14, 15, 25, 29, 30] [14, 15] h h3 := zfr_t (zfr_r _ _ _) f7 rfl rfl
                have f36 : zfr [12, 13, 14, 15, 25, 29, 30] [14, 15] h h32 := zfr_t f37 f35 rfl rfl
                exact zj_iret rfl (zdk ttX11_readCompared 21 rfl rfl) (Nat.le_refl _) (Nat.le_refl _) ⟨v31, rfl, by omega, s34, f36, (fun q => absurd q (by omega))⟩
            · refine zj_if_ne (t := 43) (zdk ttX11_readCompared 17 rfl rfl) (by decide) (by decide) (fun c38 => ?_) (fun c38 => ?_)
              · refine zj_aload_n (zdk ttX11_readCompared 22 rfl rfl) rfl (by decide) ?_
                refine zj_geti (v := (h3.2 0 15)) (zdk ttX11_readCompared 23 rfl rfl) zf_RX11_169 rfl (k_M s5) rfl ?_
                refine zj_bipush (zdk ttX11_readCompared 24 rfl rfl) (by decide) ?_
                refine zj_icmp_ne (t := 57) (zdk ttX11_readCompared 25 rfl rfl) (by decide) (by omega) (by decide) (fun c39 => ?_) (fun c39 => ?_)
                · refine zj_aload_n (zdk ttX11_readCompared 28 rfl rfl) rfl (by decide) ?_
                  refine zj_geti (v := (h3.2 0 15)) (zdk ttX11_readCompared 29 rfl rfl) zf_RX11_169 rfl (k_M s5) rfl ?_
                  refine zj_bipush (zdk ttX11_readCompared 30 rfl rfl) (by decide) ?_
                  refine zj_icmp_ne (t := 71) (zdk ttX11_readCompared 31 rfl rfl) (by decide) (by omega) (by decide) (fun c40 => ?_) (fun c40 => ?_)
                  · refine zj_bipush (zdk ttX11_readCompared 34 rfl rfl) (by decide) ?_
                    refine zj_istore_n (L' := [some (.inr 0), some (.inl 8)]) (zdk ttX11_readCompared 35 rfl rfl) (by decide) rfl ?_
                    refine zj_aload_n (zdk ttX11_readCompared 36 rfl rfl) rfl (by decide) ?_
                    refine zj_callV (av := []) (st := []) (zdk ttX11_readCompared 37 rfl rfl) mb_X11_reads mv_RX11_204 (ci := 11) rfl rfl (k_M s5) rfl rfl (Nat.le_of_ble_eq_true rfl) (s_X11_reads l h3 s5) (rm_ok (by decide) (by decide)) (zq_v fun h43 q41 => ?_)
                    obtain ⟨s45, f48, u46, u47⟩ := q41
                    refine zj_aload_n (zdk ttX11_readCompared 38 rfl rfl) rfl (by decide) ?_
                    have r50 := u6 (by omega)
                    have r50b := r50.2.1.2
                    have r50t := r50.1
                    unfold tok at r50t
                    have r49B : rdB 0 h h3 := rdB_t (rdB_r h) r50.2.1 (by omega)
                    have r49P : rdP 1 h h3 := rdP_t (rdP_r h) r50.2.2 (by omega) (by omega)
                    have b52 : 0 ≤ (h3.2 0 12) ∧ (h3.2 0 12) ≤ 400 := fM_12 s5
                    have b53 : 0 ≤ (h3.2 0 13) ∧ (h3.2 0 13) ≤ 400 := fM_13 s5
                    have b54 : 0 ≤ (h3.2 0 25) ∧ (h3.2 0 25) ≤ 400 := fM_25 s5
                    have b55 : 0 ≤ (h43.2 0 12) ∧ (h43.2 0 12) ≤ 400 := fM_12 s45
                    have b56 : 0 ≤ (h43.2 0 13) ∧ (h43.2 0 13) ≤ 400 := fM_13 s45
                    have b57 : 0 ≤ (h43.2 0 14) ∧ (h43.2 0 14) ≤ 4 := fM_14 s45
                    have b58 : h43.2 0 25 = (h3.2 0 25) := (zfr_f f48 rfl rfl)
                    have t59 : tok h3 := r50.1
                    unfold tok at t59
                    have r51B : rdB 1 h h43 := rdB_t r49B (rdB_same (s := 1) f48 rfl (by omega)) (by omega)
                    have r51P : rdP 1 h h43 := rdP_t r49P (rdP_same f48 rfl) (by omega) (by omega)
                    have b60 := r51B.2
                    refine zj_callV (av := []) (st := []) (zdk ttX11_readCompared 39 rfl rfl) mb_X11_readSum mv_RX11_217 (ci := 11) rfl rfl (k_M s45) rfl rfl (Nat.le_of_ble_eq_true rfl) (s_X11_readSum l h43 s45 u46 (by omega)) (rm_ok (by decide) (by decide)) (zq_i fun v62 h63 q61 => ?_)
                    obtain ⟨b64, s65, f67, u66⟩ := q61
                    refine zj_iconst (zdk ttX11_readCompared 40 rfl rfl) ?_
                    refine zj_icmp_ne (t := 88) (zdk ttX11_readCompared 41 rfl rfl) (by decide) (by omega) (by decide) (fun c68 => ?_) (fun c68 => ?_)
                    · refine zj_aload_n (zdk ttX11_readCompared 44 rfl rfl) rfl (by decide) ?_
                      refine zj_iload_n (zdk ttX11_readCompared 45 rfl rfl) rfl ?_
                      refine zj_iconst (zdk ttX11_readCompared 46 rfl rfl) ?_
                      have r70 := u66 (by omega)
                      have r70b := r70.2.1.2
                      have r70t := r70.1
                      unfold tok at r70t
                      have r69B : rdB 1 h h63 := rdB_t r51B r70.2.1 (by omega)
                      have r69P : rdP 2 h h63 := rdP_t r51P r70.2.2 (by omega) (by omega)
                      have b71 : 0 ≤ (h63.2 0 12) ∧ (h63.2 0 12) ≤ 400 := fM_12 s65
                      have b72 : 0 ≤ (h63.2 0 13) ∧ (h63.2 0 13) ≤ 400 := fM_13 s65
                      have b73 : 0 ≤ (h63.2 0 14) ∧ (h63.2 0 14) ≤ 4 := fM_14 s65
                      have b74 : 0 ≤ (h63.2 0 25) ∧ (h63.2 0 25) ≤ 400 := fM_25 s65
                      have t75 : tok h63 := r70.1
                      unfold tok at t75
                      have b76 := r69B.2
                      refine zj_callV (av := [.inl 8, .inl 0]) (st := []) (zdk ttX11_readCompared 47 rfl rfl) mb_X11_emits mv_RX11_200 (ci := 11) rfl rfl (k_M s65) rfl rfl (Nat.le_of_ble_eq_true rfl) (s_X11_emits l h63 8 0 s65 (by omega) (by omega) (by omega)) (rm_ok (by decide) (by decide)) (zq_v fun h79 q77 => ?_)
                      obtain ⟨s81, f83, u82⟩ := q77
                      refine zj_iconst (zdk ttX11_readCompared 48 rfl rfl) ?_
                      have f87 : zfr [12, 13, 14, 15, 25, 29, 30] [14, 15] h h3 := zfr_t (zfr_r _ _ _) f7 rfl rfl
                      have f86 : zfr [12, 13, 14, 15, 25, 29, 30] [14, 15] h h43 := zfr_t f87 f48 rfl rfl
                      have f85 : zfr [12, 13, 14, 15, 25, 29, 30] [14, 15] h h63 := zfr_t f86 f67 rfl rfl
                      have f84 : zfr [12, 13, 14, 15, 25, 29, 30] [14, 15] h h79 := zfr_t f85 f83 rfl rfl
                      have r88B : rdB 0 h h79 := rdB_t r69B (rdB_em u82 f83) (by omega)
                      have r88P : rdP 1 h h79 := rdP_bin r69P u82 (by decide)
                      exact zj_iret rfl (zdk ttX11_readCompared 49 rfl rfl) (Nat.le_refl _) (Nat.le_refl _) ⟨0, rfl, by omega, s81, f84, (fun _ => ⟨(tok_same r70.1 f83 rfl rfl rfl rfl), rdB_t r88B (rdB_r _) (by omega), r88P⟩)⟩
                    · refine zj_iconst (zdk ttX11_readCompared 42 rfl rfl) ?_
                      have f91 : zfr [12, 13, 14, 15, 25, 29, 30] [14, 15] h h3 := zfr_t (zfr_r _ _ _) f7 rfl rfl
                      have f90 : zfr [12, 13, 14, 15, 25, 29, 30] [14, 15] h h43 := zfr_t f91 f48 rfl rfl
                      have f89 : zfr [12, 13, 14, 15, 25, 29, 30] [14, 15] h h63 := zfr_t f90 f67 rfl rfl
                      exact zj_iret rfl (zdk ttX11_readCompared 43 rfl rfl) (Nat.le_refl _) (Nat.le_refl _) ⟨(-1), rfl, by omega, s65, f89, (fun q => absurd q (by omega))⟩
                  · exact absurd c40 (by omega)
                · exact absurd c39 (by omega)
              · exact absurd c38 (by omega)
        · refine zj_if_ne (t := 43) (zdk ttX11_readCompared 13 rfl rfl) (by decide) (by decide) (fun c92 => ?_) (fun c92 => ?_)
          · refine zj_aload_n (zdk ttX11_readCompared 22 rfl rfl) rfl (by decide) ?_
            refine zj_geti (v := (h3.2 0 15)) (zdk ttX11_readCompared 23 rfl rfl) zf_RX11_169 rfl (k_M s5) rfl ?_
            refine zj_bipush (zdk ttX11_readCompared 24 rfl rfl) (by decide) ?_
            refine zj_icmp_ne (t := 57) (zdk ttX11_readCompared 25 rfl rfl) (by decide) (by omega) (by decide) (fun c93 => ?_) (fun c93 => ?_)
            · refine zj_aload_n (zdk ttX11_readCompared 28 rfl rfl) rfl (by decide) ?_
              refine zj_geti (v := (h3.2 0 15)) (zdk ttX11_readCompared 29 rfl rfl) zf_RX11_169 rfl (k_M s5) rfl ?_
              refine zj_bipush (zdk ttX11_readCompared 30 rfl rfl) (by decide) ?_
              refine zj_icmp_ne (t := 71) (zdk ttX11_readCompared 31 rfl rfl) (by decide) (by omega) (by decide) (fun c94 => ?_) (fun c94 => ?_)
              · exact absurd c94 (by omega)
              · refine zj_bipush (zdk ttX11_readCompared 32 rfl rfl) (by decide) ?_
                refine zj_goto (t := 73) (zdk ttX11_readCompared 33 rfl rfl) (by decide) ?_
                refine zj_istore_n (L' := [some (.inr 0), some (.inl 7)]) (zdk ttX11_readCompared 35 rfl rfl) (by decide) rfl ?_
                refine zj_aload_n (zdk ttX11_readCompared 36 rfl rfl) rfl (by decide) ?_
                refine zj_callV (av := []) (st := []) (zdk ttX11_readCompared 37 rfl rfl) mb_X11_reads mv_RX11_204 (ci := 11) rfl rfl (k_M s5) rfl rfl (Nat.le_of_ble_eq_true rfl) (s_X11_reads l h3 s5) (rm_ok (by decide) (by decide)) (zq_v fun h97 q95 => ?_)
                obtain ⟨s99, f102, u100, u101⟩ := q95
                refine zj_aload_n (zdk ttX11_readCompared 38 rfl rfl) rfl (by decide) ?_
                have r104 := u6 (by omega)
                have r104b := r104.2.1.2
                have r104t := r104.1
                unfold tok at r104t
                have r103B : rdB 0 h h3 := rdB_t (rdB_r h) r104.2.1 (by omega)
                have r103P : rdP 1 h h3 := rdP_t (rdP_r h) r104.2.2 (by omega) (by omega)
                have b106 : 0 ≤ (h3.2 0 12) ∧ (h3.2 0 12) ≤ 400 := fM_12 s5
                have b107 : 0 ≤ (h3.2 0 13) ∧ (h3.2 0 13) ≤ 400 := fM_13 s5
                have b108 : 0 ≤ (h3.2 0 25) ∧ (h3.2 0 25) ≤ 400 := fM_25 s5
                have b109 : 0 ≤ (h97.2 0 12) ∧ (h97.2 0 12) ≤ 400 := fM_12 s99
                have b110 : 0 ≤ (h97.2 0 13) ∧ (h97.2 0 13) ≤ 400 := fM_13 s99
                have b111 : 0 ≤ (h97.2 0 14) ∧ (h97.2 0 14) ≤ 4 := fM_14 s99
                have b112 : h97.2 0 25 = (h3.2 0 25) := (zfr_f f102 rfl rfl)
                have t113 : tok h3 := r104.1
                unfold tok at t113
                have r105B : rdB 1 h h97 := rdB_t r103B (rdB_same (s := 1) f102 rfl (by omega)) (by omega)
                have r105P : rdP 1 h h97 := rdP_t r103P (rdP_same f102 rfl) (by omega) (by omega)
                have b114 := r105B.2
                refine zj_callV (av := []) (st := []) (zdk ttX11_readCompared 39 rfl rfl) mb_X11_readSum mv_RX11_217 (ci := 11) rfl rfl (k_M s99) rfl rfl (Nat.le_of_ble_eq_true rfl) (s_X11_readSum l h97 s99 u100 (by omega)) (rm_ok (by decide) (by decide)) (zq_i fun v116 h117 q115 => ?_)
                obtain ⟨b118, s119, f121, u120⟩ := q115
                refine zj_iconst (zdk ttX11_readCompared 40 rfl rfl) ?_
                refine zj_icmp_ne (t := 88) (zdk ttX11_readCompared 41 rfl rfl) (by decide) (by omega) (by decide) (fun c122 => ?_) (fun c122 => ?_)
                · refine zj_aload_n (zdk ttX11_readCompared 44 rfl rfl) rfl (by decide) ?_
                  refine zj_iload_n (zdk ttX11_readCompared 45 rfl rfl) rfl ?_
                  refine zj_iconst (zdk ttX11_readCompared 46 rfl rfl) ?_
                  have r124 := u120 (by omega)
                  have r124b := r124.2.1.2
                  have r124t := r124.1
                  unfold tok at r124t
                  have r123B : rdB 1 h h117 := rdB_t r105B r124.2.1 (by omega)
                  have r123P : rdP 2 h h117 := rdP_t r105P r124.2.2 (by omega) (by omega)
                  have b125 : 0 ≤ (h117.2 0 12) ∧ (h117.2 0 12) ≤ 400 := fM_12 s119
                  have b126 : 0 ≤ (h117.2 0 13) ∧ (h117.2 0 13) ≤ 400 := fM_13 s119
                  have b127 : 0 ≤ (h117.2 0 14) ∧ (h117.2 0 14) ≤ 4 := fM_14 s119
                  have b128 : 0 ≤ (h117.2 0 25) ∧ (h117.2 0 25) ≤ 400 := fM_25 s119
                  have t129 : tok h117 := r124.1
                  unfold tok at t129
                  have b130 := r123B.2
                  refine zj_callV (av := [.inl 7, .inl 0]) (st := []) (zdk ttX11_readCompared 47 rfl rfl) mb_X11_emits mv_RX11_200 (ci := 11) rfl rfl (k_M s119) rfl rfl (Nat.le_of_ble_eq_true rfl) (s_X11_emits l h117 7 0 s119 (by omega) (by omega) (by omega)) (rm_ok (by decide) (by decide)) (zq_v fun h133 q131 => ?_)
                  obtain ⟨s135, f137, u136⟩ := q131
                  refine zj_iconst (zdk ttX11_readCompared 48 rfl rfl) ?_
                  have f141 : zfr [12, 13, 14, 15, 25, 29, 30] [14, 15] h h3 := zfr_t (zfr_r _ _ _) f7 rfl rfl
                  have f140 : zfr [12, 13, 14, 15, 25, 29, 30] [14, 15] h h97 := zfr_t f141 f102 rfl rfl
                  have f139 : zfr [12, 13, 14, 15, 25, 29, 30] [14, 15] h h117 := zfr_t f140 f121 rfl rfl
                  have f138 : zfr [12, 13, 14, 15, 25, 29, 30] [14, 15] h h133 := zfr_t f139 f137 rfl rfl
                  have r142B : rdB 0 h h133 := rdB_t r123B (rdB_em u136 f137) (by omega)
                  have r142P : rdP 1 h h133 := rdP_bin r123P u136 (by decide)
                  exact zj_iret rfl (zdk ttX11_readCompared 49 rfl rfl) (Nat.le_refl _) (Nat.le_refl _) ⟨0, rfl, by omega, s135, f138, (fun _ => ⟨(tok_same r124.1 f137 rfl rfl rfl rfl), rdB_t r142B (rdB_r _) (by omega), r142P⟩)⟩
                · refine zj_iconst (zdk ttX11_readCompared 42 rfl rfl) ?_
                  have f145 : zfr [12, 13, 14, 15, 25, 29, 30] [14, 15] h h3 := zfr_t (zfr_r _ _ _) f7 rfl rfl
                  have f144 : zfr [12, 13, 14, 15, 25, 29, 30] [14, 15] h h97 := zfr_t f145 f102 rfl rfl
                  have f143 : zfr [12, 13, 14, 15, 25, 29, 30] [14, 15] h h117 := zfr_t f144 f121 rfl rfl
                  exact zj_iret rfl (zdk ttX11_readCompared 43 rfl rfl) (Nat.le_refl _) (Nat.le_refl _) ⟨(-1), rfl, by omega, s119, f143, (fun q => absurd q (by omega))⟩
            · exact absurd c93 (by omega)
          · exact absurd c92 (by omega)
    · refine zj_if_ne (t := 43) (zdk ttX11_readCompared 9 rfl rfl) (by decide) (by decide) (fun c146 => ?_) (fun c146 => ?_)
      · refine zj_aload_n (zdk ttX11_readCompared 22 rfl rfl) rfl (by decide) ?_
        refine zj_geti (v := (h3.2 0 15)) (zdk ttX11_readCompared 23 rfl rfl) zf_RX11_169 rfl (k_M s5) rfl ?_
        refine zj_bipush (zdk ttX11_readCompared 24 rfl rfl) (by decide) ?_
        refine zj_icmp_ne (t := 57) (zdk ttX11_readCompared 25 rfl rfl) (by decide) (by omega) (by decide) (fun c147 => ?_) (fun c147 => ?_)
        · exact absurd c147 (by omega)
        · refine zj_bipush (zdk ttX11_readCompared 26 rfl rfl) (by decide) ?_
          refine zj_goto (t := 73) (zdk ttX11_readCompared 27 rfl rfl) (by decide) ?_
          refine zj_istore_n (L' := [some (.inr 0), some (.inl 6)]) (zdk ttX11_readCompared 35 rfl rfl) (by decide) rfl ?_
          refine zj_aload_n (zdk ttX11_readCompared 36 rfl rfl) rfl (by decide) ?_
          refine zj_callV (av := []) (st := []) (zdk ttX11_readCompared 37 rfl rfl) mb_X11_reads mv_RX11_204 (ci := 11) rfl rfl (k_M s5) rfl rfl (Nat.le_of_ble_eq_true rfl) (s_X11_reads l h3 s5) (rm_ok (by decide) (by decide)) (zq_v fun h150 q148 => ?_)
          obtain ⟨s152, f155, u153, u154⟩ := q148
          refine zj_aload_n (zdk ttX11_readCompared 38 rfl rfl) rfl (by decide) ?_
          have r157 := u6 (by omega)
          have r157b := r157.2.1.2
          have r157t := r157.1
          unfold tok at r157t
          have r156B : rdB 0 h h3 := rdB_t (rdB_r h) r157.2.1 (by omega)
          have r156P : rdP 1 h h3 := rdP_t (rdP_r h) r157.2.2 (by omega) (by omega)
          have b159 : 0 ≤ (h3.2 0 12) ∧ (h3.2 0 12) ≤ 400 := fM_12 s5
          have b160 : 0 ≤ (h3.2 0 13) ∧ (h3.2 0 13) ≤ 400 := fM_13 s5
          have b161 : 0 ≤ (h3.2 0 25) ∧ (h3.2 0 25) ≤ 400 := fM_25 s5
          have b162 : 0 ≤ (h150.2 0 12) ∧ (h150.2 0 12) ≤ 400 := fM_12 s152
          have b163 : 0 ≤ (h150.2 0 13) ∧ (h150.2 0 13) ≤ 400 := fM_13 s152
          have b164 : 0 ≤ (h150.2 0 14) ∧ (h150.2 0 14) ≤ 4 := fM_14 s152
          have b165 : h150.2 0 25 = (h3.2 0 25) := (zfr_f f155 rfl rfl)
          have t166 : tok h3 := r157.1
          unfold tok at t166
          have r158B : rdB 1 h h150 := rdB_t r156B (rdB_same (s := 1) f155 rfl (by omega)) (by omega)
          have r158P : rdP 1 h h150 := rdP_t r156P (rdP_same f155 rfl) (by omega) (by omega)
          have b167 := r158B.2
          refine zj_callV (av := []) (st := []) (zdk ttX11_readCompared 39 rfl rfl) mb_X11_readSum mv_RX11_217 (ci := 11) rfl rfl (k_M s152) rfl rfl (Nat.le_of_ble_eq_true rfl) (s_X11_readSum l h150 s152 u153 (by omega)) (rm_ok (by decide) (by decide)) (zq_i fun v169 h170 q168 => ?_)
          obtain ⟨b171, s172, f174, u173⟩ := q168
          refine zj_iconst (zdk ttX11_readCompared 40 rfl rfl) ?_
          refine zj_icmp_ne (t := 88) (zdk ttX11_readCompared 41 rfl rfl) (by decide) (by omega) (by decide) (fun c175 => ?_) (fun c175 => ?_)
          · refine zj_aload_n (zdk ttX11_readCompared 44 rfl rfl) rfl (by decide) ?_
            refine zj_iload_n (zdk ttX11_readCompared 45 rfl rfl) rfl ?_
            refine zj_iconst (zdk ttX11_readCompared 46 rfl rfl) ?_
            have r177 := u173 (by omega)
            have r177b := r177.2.1.2
            have r177t := r177.1
            unfold tok at r177t
            have r176B : rdB 1 h h170 := rdB_t r158B r177.2.1 (by omega)
            have r176P : rdP 2 h h170 := rdP_t r158P r177.2.2 (by omega) (by omega)
            have b178 : 0 ≤ (h170.2 0 12) ∧ (h170.2 0 12) ≤ 400 := fM_12 s172
            have b179 : 0 ≤ (h170.2 0 13) ∧ (h170.2 0 13) ≤ 400 := fM_13 s172
            have b180 : 0 ≤ (h170.2 0 14) ∧ (h170.2 0 14) ≤ 4 := fM_14 s172
            have b181 : 0 ≤ (h170.2 0 25) ∧ (h170.2 0 25) ≤ 400 := fM_25 s172
            have t182 : tok h170 := r177.1
            unfold tok at t182
            have b183 := r176B.2
            refine zj_callV (av := [.inl 6, .inl 0]) (st := []) (zdk ttX11_readCompared 47 rfl rfl) mb_X11_emits mv_RX11_200 (ci := 11) rfl rfl (k_M s172) rfl rfl (Nat.le_of_ble_eq_true rfl) (s_X11_emits l h170 6 0 s172 (by omega) (by omega) (by omega)) (rm_ok (by decide) (by decide)) (zq_v fun h186 q184 => ?_)
            obtain ⟨s188, f190, u189⟩ := q184
            refine zj_iconst (zdk ttX11_readCompared 48 rfl rfl) ?_
            have f194 : zfr [12, 13, 14, 15, 25, 29, 30] [14, 15] h h3 := zfr_t (zfr_r _ _ _) f7 rfl rfl
            have f193 : zfr [12, 13, 14, 15, 25, 29, 30] [14, 15] h h150 := zfr_t f194 f155 rfl rfl
            have f192 : zfr [12, 13, 14, 15, 25, 29, 30] [14, 15] h h170 := zfr_t f193 f174 rfl rfl
            have f191 : zfr [12, 13, 14, 15, 25, 29, 30] [14, 15] h h186 := zfr_t f192 f190 rfl rfl
            have r195B : rdB 0 h h186 := rdB_t r176B (rdB_em u189 f190) (by omega)
            have r195P : rdP 1 h h186 := rdP_bin r176P u189 (by decide)
            exact zj_iret rfl (zdk ttX11_readCompared 49 rfl rfl) (Nat.le_refl _) (Nat.le_refl _) ⟨0, rfl, by omega, s188, f191, (fun _ => ⟨(tok_same r177.1 f190 rfl rfl rfl rfl), rdB_t r195B (rdB_r _) (by omega), r195P⟩)⟩
          · refine zj_iconst (zdk ttX11_readCompared 42 rfl rfl) ?_
            have f198 : zfr [12, 13, 14, 15, 25, 29, 30] [14, 15] h h3 := zfr_t (zfr_r _ _ _) f7 rfl rfl
            have f197 : zfr [12, 13, 14, 15, 25, 29, 30] [14, 15] h h150 := zfr_t f198 f155 rfl rfl
            have f196 : zfr [12, 13, 14, 15, 25, 29, 30] [14, 15] h h170 := zfr_t f197 f174 rfl rfl
            exact zj_iret rfl (zdk ttX11_readCompared 43 rfl rfl) (Nat.le_refl _) (Nat.le_refl _) ⟨(-1), rfl, by omega, s172, f196, (fun q => absurd q (by omega))⟩
      · exact absurd c146 (by omega)
  · refine zj_iconst (zdk ttX11_readCompared 4 rfl rfl) ?_
    have f199 : zfr [12, 13, 14, 15, 25, 29, 30] [14, 15] h h3 := zfr_t (zfr_r _ _ _) f7 rfl rfl
    exact zj_iret rfl (zdk ttX11_readCompared 5 rfl rfl) (Nat.le_refl _) (Nat.le_refl _) ⟨(-1), rfl, by omega, s5, f199, (fun q => absurd q (by omega))⟩

abbrev tX11_waits : List (Nat × Instr × Nat) := [(0, .aload_n 0, 1), (1, .getfield 55, 3), (4, .aload_n 0, 1), (5, .getfield 220, 3), (8, .iload_n 1, 1), (9, .iastore, 1), (10, .aload_n 0, 1), (11, .aload_n 0, 1), (12, .getfield 220, 3), (15, .iconst 1, 1), (16, .iadd, 1), (17, .putfield 220, 3), (20, .return_, 1)]
theorem ttX11_waits : zdt cX11_waits tX11_waits = true := by decide +kernel
abbrev q_X11_waits (h : zM) (p1 : Int) : Option zV → zM → Prop := zqv fun h' => okM h' ∧ zfr [28] [16] h h' ∧ (h'.2 0 28 = h.2 0 28 + 1) ∧ (h'.2 16 (h.2 0 28) = p1) ∧ (∀ j, ¬ j = h.2 0 28 → h'.2 16 j = h.2 16 j)
set_option maxRecDepth 100000 in
set_option maxHeartbeats 4000000 in
theorem s_X11_waits (l : Launch) (h : zM) (p1 : Int) (s0 : okM h) (b_p1 : (-2147483648) ≤ p1 ∧ p1 ≤ 2147483647) (u_0 : h.2 0 28 ≤ 39) : zT shM l yX11_waits cX11_waits 2 none (rmL 1) 0 0 [.inr 0, .inl p1] h (q_X11_waits h p1) := by
  refine zT_of (by decide +kernel) (L0 := [some (.inr 0), some (.inl p1)]) rfl (Nat.le_of_ble_eq_true rfl) ?_
  refine zj_aload_n (zdk ttX11_waits 0 rfl rfl) rfl (by decide) ?_
  refine zj_getr (r := 16) (zdk ttX11_waits 1 rfl rfl) zf_RX11_55 rfl (k_M s0) (rfM_27 s0) ?_
  refine zj_aload_n (zdk ttX11_waits 2 rfl rfl) rfl (by decide) ?_
  have b1 : 0 ≤ (h.2 0 28) ∧ (h.2 0 28) ≤ 40 := fM_28 s0
  refine zj_geti (v := (h.2 0 28)) (zdk ttX11_waits 3 rfl rfl) zf_RX11_220 rfl (k_M s0) rfl ?_
  refine zj_iload_n (zdk ttX11_waits 4 rfl rfl) rfl ?_
  refine zj_iast (zdk ttX11_waits 5 rfl rfl) (kaM_16 s0) (by decide) (by omega) (fun h2 e3 => ?_)
  refine zj_aload_n (zdk ttX11_waits 6 rfl rfl) rfl (by decide) ?_
  refine zj_aload_n (zdk ttX11_waits 7 rfl rfl) rfl (by decide) ?_
  have s4 : okM h2 := awM_16 s0 e3 (by omega) (by unfold nsp; omega)
  refine zj_geti (v := (h.2 0 28)) (zdk ttX11_waits 8 rfl rfl) zf_RX11_220 rfl (k_M s4) (zwr_r e3 (by first | decide | exact (absurd ·.1 (by decide)) | exact (absurd ·.2 (by decide)) | omega)) ?_
  refine zj_iconst (zdk ttX11_waits 9 rfl rfl) ?_
  refine zj_iadd (zdk ttX11_waits 10 rfl rfl) ?_
  refine zj_puti (zdk ttX11_waits 11 rfl rfl) zf_RX11_220 rfl (k_M s4) (Or.inl zw_RX11_220) (k2 := 28) rfl (fun h5 e6 => ?_)
  have s7 : okM h5 := fwM_28 s4 e6 (by omega)
  have b8 : h5.2 0 28 = ((h.2 0 28) + 1) := (zwr_v e6)
  have f10 : zfr [28] [16] h h2 := zfr_wa (zfr_r _ _ _) e3 rfl
  have f9 : zfr [28] [16] h h5 := zfr_wf f10 e6 rfl
  exact zj_vret rfl (zdk ttX11_waits 12 rfl rfl) (Nat.le_refl _) (Nat.le_refl _) ⟨rfl, s7, f9, by omega, (zwr_r e6 (by first | decide | exact (absurd ·.1 (by decide)) | exact (absurd ·.2 (by decide)) | omega)).trans (zwr_v e3), (fun j q => (zwr_r e6 (by first | decide | exact (absurd ·.1 (by decide)) | exact (absurd ·.2 (by decide)) | omega)).trans (zwr_r e3 (by first | decide | exact (absurd ·.1 (by decide)) | exact (absurd ·.2 (by decide)) | omega)))⟩
