abbrev tX11_settles : List (Nat × Instr × Nat) := [(0, .aload_n 0, 1), (1, .getfield 220, 3), (4, .ifCond .le 53, 3), (7, .aload_n 0, 1), (8, .getfield 55, 3), (11, .aload_n 0, 1), (12, .getfield 220, 3), (15, .iconst 1, 1), (16, .isub, 1), (17, .iaload, 1), (18, .iload_n 1, 1), (19, .if_icmp .ne 38, 3), (22, .aload_n 0, 1), (23, .aload_n 0, 1), (24, .getfield 220, 3), (27, .iconst 1, 1), (28, .isub, 1), (29, .putfield 220, 3), (32, .aload_n 0, 1), (33, .iload_n 1, 1), (34, .iconst 0, 1), (35, .invokevirtual 200, 3), (38, .iload_n 1, 1), (39, .bipush 9, 2), (41, .if_icmp .ne (-41), 3), (44, .aload_n 0, 1), (45, .aload_n 0, 1), (46, .getfield 223, 3), (49, .iconst 1, 1), (50, .isub, 1), (51, .putfield 223, 3), (54, .goto (-54), 3), (57, .return_, 1)]
theorem ttX11_settles : zdt cX11_settles tX11_settles = true := by decide +kernel
abbrev q_X11_settles (h : zM) (p1 : Int) : Option zV → zM → Prop := zqv fun h' => okM h' ∧ zfr [25, 26, 28] [14, 15] h h' ∧ (zSe p1 h h') ∧ (h'.2 0 28 = 0 ∨ ¬ h.2 16 (h'.2 0 28 - 1) = p1)
set_option maxRecDepth 100000 in
set_option maxHeartbeats 4000000 in
theorem s_X11_settles (l : Launch) (h : zM) (p1 : Int) (s0 : okM h) (b_p1 : (-2147483648) ≤ p1 ∧ p1 ≤ 2147483647) (u_0 : h.2 0 25 + h.2 0 28 ≤ h.2 0 13) (u_1 : p1 = 9 → zck (h.2 16) 9 (h.2 0 28) ≤ h.2 0 26) (u_2 : p1 = 9 ∨ p1 = 10 ∨ p1 = 11) : zT shM l yX11_settles cX11_settles 2 none (rmL 2) 0 0 [.inr 0, .inl p1] h (q_X11_settles h p1) := by
  refine zT_of (by decide +kernel) (L0 := [some (.inr 0), some (.inl p1)]) rfl (Nat.le_of_ble_eq_true rfl) ?_
  have lp27 : ∀ (n0 : Nat) (h1 : zM), okM h1 → zfr [25, 26, 28] [14, 15] h h1 → (zSe p1 h h1) → (p1 = 9 → zck (h.2 16) 9 (h1.2 0 28) ≤ h1.2 0 26) → (h1.2 0 28).toNat < n0 → zJ shM l yX11_settles cX11_settles 2 none (rmL 2) 0 0 (q_X11_settles h p1) 0 0 0 [some (.inr 0), some (.inl p1)] [] h1 := by
    intro n0
    induction n0 with
    | zero => intro h1 s2 f3 u28 u29 m30; exact absurd m30 (Nat.not_lt_zero _)
    | succ n0 ih31 =>
      intro h1 s2 f3 u28 u29 m30
      refine zj_aload_n (zdk ttX11_settles 0 rfl rfl) rfl (by decide) ?_
      have b32 : 0 ≤ (h1.2 0 28) ∧ (h1.2 0 28) ≤ 40 := fM_28 s2
      refine zj_geti (v := (h1.2 0 28)) (zdk ttX11_settles 1 rfl rfl) zf_RX11_220 rfl (k_M s2) rfl ?_
      refine zj_if_le (t := 57) (zdk ttX11_settles 2 rfl rfl) (by decide) (by omega) (fun c33 => ?_) (fun c33 => ?_)
      · exact zj_vret rfl (zdk ttX11_settles 32 rfl rfl) (Nat.le_refl _) (Nat.le_refl _) ⟨rfl, s2, f3, u28, ((Classical.em (h1.2 0 28 = 0)).elim Or.inl (fun z0 => Or.inr (by rw [← zfr_a (a := 16) (b := h1.2 0 28 - 1) f3 rfl (by decide)]; omega)))⟩
      · refine zj_aload_n (zdk ttX11_settles 3 rfl rfl) rfl (by decide) ?_
        refine zj_getr (r := 16) (zdk ttX11_settles 4 rfl rfl) zf_RX11_55 rfl (k_M s2) (rfM_27 s2) ?_
        refine zj_aload_n (zdk ttX11_settles 5 rfl rfl) rfl (by decide) ?_
        refine zj_geti (v := (h1.2 0 28)) (zdk ttX11_settles 6 rfl rfl) zf_RX11_220 rfl (k_M s2) rfl ?_
        refine zj_iconst (zdk ttX11_settles 7 rfl rfl) ?_
        refine zj_isub (zdk ttX11_settles 8 rfl rfl) ?_
        have b34 : -2147483648 ≤ (h1.2 16 ((h1.2 0 28) - 1)) ∧ (h1.2 16 ((h1.2 0 28) - 1)) ≤ 2147483647 := abM_16 s2 ((h1.2 0 28) - 1)
        refine zj_iald (v := (h1.2 16 ((h1.2 0 28) - 1))) (zdk ttX11_settles 9 rfl rfl) (kaM_16 s2) (by decide) (by omega) rfl ?_
        refine zj_iload_n (zdk ttX11_settles 10 rfl rfl) rfl ?_
        refine zj_icmp_ne (t := 57) (zdk ttX11_settles 11 rfl rfl) (by decide) (by omega) (by omega) (fun c35 => ?_) (fun c35 => ?_)
        · exact zj_vret rfl (zdk ttX11_settles 32 rfl rfl) (Nat.le_refl _) (Nat.le_refl _) ⟨rfl, s2, f3, u28, ((Classical.em (h1.2 0 28 = 0)).elim Or.inl (fun z0 => Or.inr (by rw [← zfr_a (a := 16) (b := h1.2 0 28 - 1) f3 rfl (by decide)]; omega)))⟩
        · refine zj_aload_n (zdk ttX11_settles 12 rfl rfl) rfl (by decide) ?_
          refine zj_aload_n (zdk ttX11_settles 13 rfl rfl) rfl (by decide) ?_
          refine zj_geti (v := (h1.2 0 28)) (zdk ttX11_settles 14 rfl rfl) zf_RX11_220 rfl (k_M s2) rfl ?_
          refine zj_iconst (zdk ttX11_settles 15 rfl rfl) ?_
          refine zj_isub (zdk ttX11_settles 16 rfl rfl) ?_
          refine zj_puti (zdk ttX11_settles 17 rfl rfl) zf_RX11_220 rfl (k_M s2) (Or.inl zw_RX11_220) (k2 := 28) rfl (fun h36 e37 => ?_)
          refine zj_aload_n (zdk ttX11_settles 18 rfl rfl) rfl (by decide) ?_
          refine zj_iload_n (zdk ttX11_settles 19 rfl rfl) rfl ?_
          refine zj_iconst (zdk ttX11_settles 20 rfl rfl) ?_
          have s38 : okM h36 := fwM_28 s2 e37 (by omega)
          have b39 : h36.2 0 25 = (h1.2 0 25) := (zwr_r e37 (by first | decide | exact (absurd ·.1 (by decide)) | exact (absurd ·.2 (by decide)) | omega))
          have b40 : 0 ≤ (h1.2 0 25) ∧ (h1.2 0 25) ≤ 400 := fM_25 s2
          have b41 : h36.2 0 28 = ((h1.2 0 28) - 1) := (zwr_v e37)
          have b42 := u28.2.2.1
          have b42f := fM_13 s0
          refine zj_callV (av := [.inl p1, .inl 0]) (st := []) (zdk ttX11_settles 21 rfl rfl) mb_X11_emits mv_RX11_200 (ci := 11) rfl rfl (k_M s38) rfl rfl (Nat.le_of_ble_eq_true rfl) (s_X11_emits l h36 p1 0 s38 (by omega) (by omega) (by omega)) (rm_ok (by decide) (by decide)) (zq_v fun h45 q43 => ?_)
          obtain ⟨s47, f49, u48⟩ := q43
          refine zj_iload_n (zdk ttX11_settles 22 rfl rfl) rfl ?_
          refine zj_bipush (zdk ttX11_settles 23 rfl rfl) (by decide) ?_
          refine zj_icmp_ne (t := 0) (zdk ttX11_settles 24 rfl rfl) (by decide) (by omega) (by decide) (fun c50 => ?_) (fun c50 => ?_)
          · have b51 : h45.2 0 28 = ((h1.2 0 28) - 1) := ((zfr_f f49 rfl rfl).trans (zwr_v e37))
            have f53 : zfr [25, 26, 28] [14, 15] h h36 := zfr_wf f3 e37 rfl
            have f52 : zfr [25, 26, 28] [14, 15] h h45 := zfr_t f53 f49 rfl rfl
            exact ih31  h45 s47 f52 (zSe_s u28 u_2 (fun j => zfr_a f3 rfl (by decide)) (by omega) (by omega) e37 u48 f49 (zfr_r [26] [] h45) (fun q => absurd q (by omega)) (fun _ => rfl)) (fun q => absurd q (by omega)) (by omega)
          · have b54 := zck_s (h.2 16) 9 (n := (h1.2 0 28) - 1) (by omega)
            rw [show (h1.2 0 28) - 1 + 1 = (h1.2 0 28) by omega, ← zfr_a (a := 16) (b := (h1.2 0 28) - 1) f3 rfl (by decide), if_pos (by omega)] at b54
            have b54u := u29 (by omega)
            have b54n := zck_nn (h.2 16) 9 ((h1.2 0 28) - 1)
            refine zj_aload_n (zdk ttX11_settles 25 rfl rfl) rfl (by decide) ?_
            refine zj_aload_n (zdk ttX11_settles 26 rfl rfl) rfl (by decide) ?_
            have b55 : 0 ≤ (h1.2 0 26) ∧ (h1.2 0 26) ≤ 8 := fM_26 s2
            refine zj_geti (v := (h1.2 0 26)) (zdk ttX11_settles 27 rfl rfl) zf_RX11_223 rfl (k_M s47) ((zfr_f f49 rfl rfl).trans (zwr_r e37 (by first | decide | exact (absurd ·.1 (by decide)) | exact (absurd ·.2 (by decide)) | omega))) ?_
            refine zj_iconst (zdk ttX11_settles 28 rfl rfl) ?_
            refine zj_isub (zdk ttX11_settles 29 rfl rfl) ?_
            refine zj_puti (zdk ttX11_settles 30 rfl rfl) zf_RX11_223 rfl (k_M s47) (Or.inl zw_RX11_223) (k2 := 26) rfl (fun h56 e57 => ?_)
            refine zj_goto (t := 0) (zdk ttX11_settles 31 rfl rfl) (by decide) ?_
            have b58 : h56.2 0 28 = ((h1.2 0 28) - 1) := (((zwr_r e57 (by first | decide | exact (absurd ·.1 (by decide)) | exact (absurd ·.2 (by decide)) | omega)).trans (zfr_f f49 rfl rfl)).trans (zwr_v e37))
            have s59 : okM h56 := fwM_26 s47 e57 (by omega)
            have f62 : zfr [25, 26, 28] [14, 15] h h36 := zfr_wf f3 e37 rfl
            have f61 : zfr [25, 26, 28] [14, 15] h h45 := zfr_t f62 f49 rfl rfl
            have f60 : zfr [25, 26, 28] [14, 15] h h56 := zfr_wf f61 e57 rfl
            have h56o : h45.2 0 26 = ((h1.2 0 26) - 1) + 1 := by have := (show h45.2 0 26 = (h1.2 0 26) from ((zfr_f f49 rfl rfl).trans (zwr_r e37 (by first | decide | exact (absurd ·.1 (by decide)) | exact (absurd ·.2 (by decide)) | omega)))); omega
            have b63 := zck_s (h.2 16) 9 (n := (h1.2 0 28) - 1) (by omega)
            rw [show (h1.2 0 28) - 1 + 1 = (h1.2 0 28) by omega, ← zfr_a (a := 16) (b := (h1.2 0 28) - 1) f3 rfl (by decide), if_pos (by omega)] at b63
            have b63u := u29 (by omega)
            have b63k : h56.2 0 28 = (h1.2 0 28) - 1 := (((zwr_r e57 (by first | decide | exact (absurd ·.1 (by decide)) | exact (absurd ·.2 (by decide)) | omega)).trans (zfr_f f49 rfl rfl)).trans (zwr_v e37))
            have b63o : h56.2 0 26 = ((h1.2 0 26) - 1) := zwr_v e57
            exact ih31  h56 s59 f60 (zSe_s u28 u_2 (fun j => zfr_a f3 rfl (by decide)) (by omega) (by omega) e37 u48 f49 (zfr_wf (zfr_r [26] [] h45) e57 rfl) (fun _ => by rw [zwr_v e57]; omega) (fun q => absurd (by omega) q)) (fun _ => by rw [b63k]; omega) (by omega)
  have b64 : 0 ≤ (h.2 0 28) ∧ (h.2 0 28) ≤ 40 := fM_28 s0
  exact lp27 _ h s0 (zfr_r _ _ _) (zSe_0 (by omega)) u_1 (Nat.lt_succ_self _)
