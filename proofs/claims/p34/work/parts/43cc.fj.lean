abbrev q2_X10_set (h : zM) (p1 : Int) (p2 : Int) (p3 : Int) : Option zV → zM → Prop := zqi fun v h' => (0 ≤ v ∧ v ≤ 1) ∧ okC h' ∧ zfC w_X10_set h h' ∧ (zst9 p1 p2 p3 (h.2 2 3) v) ∧ (zJP h → zJP h') ∧ (∀ z, xK h z → v = (pSet p1 p2 p3 z).1 ∧ xK h' (pSet p1 p2 p3 z).2)
set_option maxRecDepth 100000 in
set_option maxHeartbeats 4000000 in
theorem s2_X10_set (l : Launch) (h : zM) (p1 : Int) (p2 : Int) (p3 : Int) (s0 : okC h) (b_p1 : (-2147483648) ≤ p1 ∧ p1 ≤ 2147483647) (b_p2 : (-2147483648) ≤ p2 ∧ p2 ≤ 2147483647) (b_p3 : (-2147483648) ≤ p3 ∧ p3 ≤ 2147483647) : zT shC l yX10_set cX10_set 5 (some .boolean) (rmL 3) 0 0 [.inr 0, .inl p1, .inl p2, .inl p3] h (q2_X10_set h p1 p2 p3) := by
  refine zT_of (by decide +kernel) (L0 := [some (.inr 0), some (.inl p1), some (.inl p2), some (.inl p3), none]) rfl (Nat.le_of_ble_eq_true rfl) ?_
  refine zj_aload_n (zdk ttX10_set 0 rfl rfl) rfl (by decide) ?_
  refine zj_iload_n (zdk ttX10_set 1 rfl rfl) rfl ?_
  refine zj_iload_n (zdk ttX10_set 2 rfl rfl) rfl ?_
  refine zj_iload_n (zdk ttX10_set 3 rfl rfl) rfl ?_
  refine zj_callV (av := [.inl p1, .inl p2, .inl p3]) (st := []) (zdk ttX10_set 4 rfl rfl) mb_X10_canBeSet mv_RX10_88 (ci := 10) rfl rfl (k_L0 s0) rfl rfl (Nat.le_of_ble_eq_true rfl) (s_X10_canBeSet l h p1 p2 p3 s0 (by omega) (by omega) (by omega)) (rm_ok (by decide) (by decide)) (zq_i fun v2 h3 q1 => ?_)
  obtain ⟨rfl, b5, ⟨rfl, b4⟩ | ⟨rfl, b4⟩⟩ := q1
  · refine zj_if_ne (t := 12) (zdk ttX10_set 5 rfl rfl) (by decide) (by decide) (fun c6 => ?_) (fun c6 => ?_)
    · exact absurd c6 (by omega)
    · refine zj_iconst (zdk ttX10_set 6 rfl rfl) ?_
      exact zj_zret rfl (zdk ttX10_set 7 rfl rfl) (Nat.le_refl _) (Nat.le_refl _) (by omega) ⟨0, rfl, by omega, s0, (zfC_r _ _), by unfold zst9 zstG; omega, (fun j => j), (by intro z t0; have g0 := xK_g t0; unfold pSet; rw [if_neg (by omega)]; exact ⟨rfl, t0⟩)⟩
  · refine zj_if_ne (t := 12) (zdk ttX10_set 5 rfl rfl) (by decide) (by decide) (fun c7 => ?_) (fun c7 => ?_)
    · refine zj_aload_n (zdk ttX10_set 8 rfl rfl) rfl (by decide) ?_
      refine zj_getr (r := 1) (zdk ttX10_set 9 rfl rfl) zf_RX10_10 rfl (k_L0 s0) (rf_L0_0 s0) ?_
      refine zj_getr (r := 2) (zdk ttX10_set 10 rfl rfl) zf_RX10_67 rfl (k_9_0 s0 zWd_1) (rf_9_0_0 s0 zWd_1) ?_
      refine zj_astore (L' := [some (.inr 0), some (.inl p1), some (.inl p2), some (.inl p3), some (.inr 2)]) (zdk ttX10_set 11 rfl rfl) (by decide) (by decide) rfl ?_
      refine zj_iload_n (zdk ttX10_set 12 rfl rfl) rfl ?_
      have k9 : (p1 < 0 ∨ 3 < p1) → zJ shC l yX10_set cX10_set 5 (some .boolean) (rmL 3) 0 0 (q2_X10_set h p1 p2 p3) 0 0 92 [some (.inr 0), some (.inl p1), some (.inl p2), some (.inl p3), some (.inr 2)] [] h := by
        intro c8
        refine zj_aload (zdk ttX10_set 34 rfl rfl) rfl (by decide) ?_
        refine zj_iload_n (zdk ttX10_set 35 rfl rfl) rfl ?_
        refine zj_puti (zdk ttX10_set 36 rfl rfl) zf_RX10_103 rfl (k_1_0 s0 zIs_2) (Or.inl zw_RX10_103) (k2 := 11) rfl (fun h10 e11 => ?_)
        refine zj_aload_n (zdk ttX10_set 37 rfl rfl) rfl (by decide) ?_
        have s12 : okC h10 := fw_1_0_11 s0 zIs_2 e11 (by omega)
        refine zj_callV (av := []) (st := []) (zdk ttX10_set 38 rfl rfl) mb_X10_forget mv_RX10_74 (ci := 10) rfl rfl (k_L0 s12) rfl rfl (Nat.le_of_ble_eq_true rfl) (s_X10_forget l h10 s12) (rm_ok (by decide) (by decide)) (zq_v fun h15 q13 => ?_)
        obtain ⟨s17, f19, u18⟩ := q13
        refine zj_iconst (zdk ttX10_set 39 rfl rfl) ?_
        have f21 : zfC w_X10_set h h10 := zfC_w (zfC_r _ _) e11 (Or.inr (Or.inr (Or.inl (by omega))))
        have f20 : zfC w_X10_set h h15 := zfC_t f21 f19 (fun a9 b9 z9 => by
          exact (Or.inl z9))
        exact zj_zret rfl (zdk ttX10_set 40 rfl rfl) (Nat.le_refl _) (Nat.le_refl _) (by omega) ⟨1, rfl, by omega, s17, f20, by unfold zst9 zstG; omega, (fun _ => zJP_0 (by omega)), (by intro z t0; have g0 := xK_g t0; unfold pSet; rw [if_pos (by omega)]; refine ⟨rfl, ?_⟩; unfold fSt1; rw [if_neg (by omega), if_neg (by omega), if_neg (by omega), if_neg (by omega)]; have t1 := xC_w (k := 8) t0.1 e11 (Or.inr (Or.inr (Or.inr (Or.inr (Or.inl ⟨rfl, rfl⟩))))); exact xK_0 t0 (xC_f t1 (fun a9 b9 y9 => by unfold zD at y9; exact (zfC_a f19 (fun z9 => by unfold w_X10_forget at z9; first | (revert z9; decide) | omega)))) u18 ((zfC_a f19 (fun z9 => by unfold w_X10_forget at z9; first | (revert z9; decide) | omega)).trans (zwr_r e11 (by first | decide | exact (absurd ·.1 (by decide)) | exact (absurd ·.2 (by decide)) | omega))) (fun a9 b9 y9 => by unfold zD at y9; exact ((zfC_a f19 (fun z9 => by unfold w_X10_forget at z9; first | (revert z9; decide) | omega)).trans (zwr_r e11 (by first | decide | exact (absurd ·.1 (by decide)) | exact (absurd ·.2 (by decide)) | omega)))) (fun b9 => ((zfC_a f19 (fun z9 => by unfold w_X10_forget at z9; first | (revert z9; decide) | omega)).trans (zwr_r e11 (by first | decide | exact (absurd ·.1 (by decide)) | exact (absurd ·.2 (by decide)) | omega)))))⟩
      have k22 : p1 = 0 → zJ shC l yX10_set cX10_set 5 (some .boolean) (rmL 3) 0 0 (q2_X10_set h p1 p2 p3) 0 0 52 [some (.inr 0), some (.inl p1), some (.inl p2), some (.inl p3), some (.inr 2)] [] h := by
        intro c8
        refine zj_aload (zdk ttX10_set 14 rfl rfl) rfl (by decide) ?_
        refine zj_getr (r := 3) (zdk ttX10_set 15 rfl rfl) zf_RX10_91 rfl (k_1_0 s0 zIs_2) (rf_1_0_0 s0 zIs_2) ?_
        refine zj_iload_n (zdk ttX10_set 16 rfl rfl) rfl ?_
        refine zj_iload_n (zdk ttX10_set 17 rfl rfl) rfl ?_
        refine zj_iast (zdk ttX10_set 18 rfl rfl) (ka_1_0_0 s0 zIs_2) (by decide) (by omega) (fun h23 e24 => ?_)
        refine zj_goto (t := 98) (zdk ttX10_set 19 rfl rfl) (by decide) ?_
        refine zj_aload_n (zdk ttX10_set 37 rfl rfl) rfl (by decide) ?_
        have s25 : okC h23 := aw_1_0_0 s0 zIs_2 e24 (by omega)
        refine zj_callV (av := []) (st := []) (zdk ttX10_set 38 rfl rfl) mb_X10_forget mv_RX10_74 (ci := 10) rfl rfl (k_L0 s25) rfl rfl (Nat.le_of_ble_eq_true rfl) (s_X10_forget l h23 s25) (rm_ok (by decide) (by decide)) (zq_v fun h28 q26 => ?_)
        obtain ⟨s30, f32, u31⟩ := q26
        refine zj_iconst (zdk ttX10_set 39 rfl rfl) ?_
        have f34 : zfC w_X10_set h h23 := zfC_w (zfC_r _ _) e24 (Or.inr (Or.inr (Or.inr (by omega))))
        have f33 : zfC w_X10_set h h28 := zfC_t f34 f32 (fun a9 b9 z9 => by
          exact (Or.inl z9))
        exact zj_zret rfl (zdk ttX10_set 40 rfl rfl) (Nat.le_refl _) (Nat.le_refl _) (by omega) ⟨1, rfl, by omega, s30, f33, by unfold zst9 zstG; omega, (fun _ => zJP_0 (by omega)), (by intro z t0; have g0 := xK_g t0; unfold pSet; rw [if_pos (by omega)]; refine ⟨rfl, ?_⟩; unfold fSt1; rw [if_pos (by omega)]; have t1 := xC_wt t0.1 e24 (by omega); exact xK_0 t0 (xC_f t1 (fun a9 b9 y9 => by unfold zD at y9; exact (zfC_a f32 (fun z9 => by unfold w_X10_forget at z9; first | (revert z9; decide) | omega)))) u31 ((zfC_a f32 (fun z9 => by unfold w_X10_forget at z9; first | (revert z9; decide) | omega)).trans (zwr_r e24 (by first | decide | exact (absurd ·.1 (by decide)) | exact (absurd ·.2 (by decide)) | omega))) (fun a9 b9 y9 => by unfold zD at y9; exact ((zfC_a f32 (fun z9 => by unfold w_X10_forget at z9; first | (revert z9; decide) | omega)).trans (zwr_r e24 (by first | decide | exact (absurd ·.1 (by decide)) | exact (absurd ·.2 (by decide)) | omega)))) (fun b9 => ((zfC_a f32 (fun z9 => by unfold w_X10_forget at z9; first | (revert z9; decide) | omega)).trans (zwr_r e24 (by first | decide | exact (absurd ·.1 (by decide)) | exact (absurd ·.2 (by decide)) | omega)))))⟩
      have k35 : p1 = 1 → zJ shC l yX10_set cX10_set 5 (some .boolean) (rmL 3) 0 0 (q2_X10_set h p1 p2 p3) 0 0 63 [some (.inr 0), some (.inl p1), some (.inl p2), some (.inl p3), some (.inr 2)] [] h := by
        intro c8
        refine zj_aload (zdk ttX10_set 20 rfl rfl) rfl (by decide) ?_
        refine zj_getr (r := 4) (zdk ttX10_set 21 rfl rfl) zf_RX10_94 rfl (k_1_0 s0 zIs_2) (rf_1_0_1 s0 zIs_2) ?_
        refine zj_iload_n (zdk ttX10_set 22 rfl rfl) rfl ?_
        refine zj_iload_n (zdk ttX10_set 23 rfl rfl) rfl ?_
        refine zj_iast (zdk ttX10_set 24 rfl rfl) (ka_1_0_1 s0 zIs_2) (by decide) (by omega) (fun h36 e37 => ?_)
        refine zj_goto (t := 98) (zdk ttX10_set 25 rfl rfl) (by decide) ?_
        refine zj_aload_n (zdk ttX10_set 37 rfl rfl) rfl (by decide) ?_
        have s38 : okC h36 := aw_1_0_1 s0 zIs_2 e37 (by omega)
        refine zj_callV (av := []) (st := []) (zdk ttX10_set 38 rfl rfl) mb_X10_forget mv_RX10_74 (ci := 10) rfl rfl (k_L0 s38) rfl rfl (Nat.le_of_ble_eq_true rfl) (s_X10_forget l h36 s38) (rm_ok (by decide) (by decide)) (zq_v fun h41 q39 => ?_)
        obtain ⟨s43, f45, u44⟩ := q39
        refine zj_iconst (zdk ttX10_set 39 rfl rfl) ?_
        have f47 : zfC w_X10_set h h36 := zfC_w (zfC_r _ _) e37 (Or.inr (Or.inr (Or.inr (by omega))))
        have f46 : zfC w_X10_set h h41 := zfC_t f47 f45 (fun a9 b9 z9 => by
          exact (Or.inl z9))
        exact zj_zret rfl (zdk ttX10_set 40 rfl rfl) (Nat.le_refl _) (Nat.le_refl _) (by omega) ⟨1, rfl, by omega, s43, f46, by unfold zst9 zstG; omega, (fun _ => zJP_0 (by omega)), (by intro z t0; have g0 := xK_g t0; unfold pSet; rw [if_pos (by omega)]; refine ⟨rfl, ?_⟩; unfold fSt1; rw [if_neg (by omega), if_pos (by omega)]; have t1 := xC_lg t0.1 e37 (by omega); exact xK_0 t0 (xC_f t1 (fun a9 b9 y9 => by unfold zD at y9; exact (zfC_a f45 (fun z9 => by unfold w_X10_forget at z9; first | (revert z9; decide) | omega)))) u44 ((zfC_a f45 (fun z9 => by unfold w_X10_forget at z9; first | (revert z9; decide) | omega)).trans (zwr_r e37 (by first | decide | exact (absurd ·.1 (by decide)) | exact (absurd ·.2 (by decide)) | omega))) (fun a9 b9 y9 => by unfold zD at y9; exact ((zfC_a f45 (fun z9 => by unfold w_X10_forget at z9; first | (revert z9; decide) | omega)).trans (zwr_r e37 (by first | decide | exact (absurd ·.1 (by decide)) | exact (absurd ·.2 (by decide)) | omega)))) (fun b9 => ((zfC_a f45 (fun z9 => by unfold w_X10_forget at z9; first | (revert z9; decide) | omega)).trans (zwr_r e37 (by first | decide | exact (absurd ·.1 (by decide)) | exact (absurd ·.2 (by decide)) | omega)))))⟩
      have k48 : p1 = 2 → zJ shC l yX10_set cX10_set 5 (some .boolean) (rmL 3) 0 0 (q2_X10_set h p1 p2 p3) 0 0 74 [some (.inr 0), some (.inl p1), some (.inl p2), some (.inl p3), some (.inr 2)] [] h := by
        intro c8
        refine zj_aload (zdk ttX10_set 26 rfl rfl) rfl (by decide) ?_
        refine zj_iload_n (zdk ttX10_set 27 rfl rfl) rfl ?_
        refine zj_puti (zdk ttX10_set 28 rfl rfl) zf_RX10_97 rfl (k_1_0 s0 zIs_2) (Or.inl zw_RX10_97) (k2 := 6) rfl (fun h49 e50 => ?_)
        refine zj_goto (t := 98) (zdk ttX10_set 29 rfl rfl) (by decide) ?_
        refine zj_aload_n (zdk ttX10_set 37 rfl rfl) rfl (by decide) ?_
        have s51 : okC h49 := fw_1_0_6 s0 zIs_2 e50 (by omega)
        refine zj_callV (av := []) (st := []) (zdk ttX10_set 38 rfl rfl) mb_X10_forget mv_RX10_74 (ci := 10) rfl rfl (k_L0 s51) rfl rfl (Nat.le_of_ble_eq_true rfl) (s_X10_forget l h49 s51) (rm_ok (by decide) (by decide)) (zq_v fun h54 q52 => ?_)
        obtain ⟨s56, f58, u57⟩ := q52
        refine zj_iconst (zdk ttX10_set 39 rfl rfl) ?_
        have f60 : zfC w_X10_set h h49 := zfC_w (zfC_r _ _) e50 (Or.inr (Or.inl (by omega)))
        have f59 : zfC w_X10_set h h54 := zfC_t f60 f58 (fun a9 b9 z9 => by
          exact (Or.inl z9))
        exact zj_zret rfl (zdk ttX10_set 40 rfl rfl) (Nat.le_refl _) (Nat.le_refl _) (by omega) ⟨1, rfl, by omega, s56, f59, by unfold zst9 zstG; omega, (fun _ => zJP_0 (by omega)), (by intro z t0; have g0 := xK_g t0; unfold pSet; rw [if_pos (by omega)]; refine ⟨rfl, ?_⟩; unfold fSt1; rw [if_neg (by omega), if_neg (by omega), if_pos (by omega)]; have t1 := xC_w (k := 3) t0.1 e50 (Or.inl ⟨rfl, rfl, by omega, by omega⟩); exact xK_0 t0 (xC_f t1 (fun a9 b9 y9 => by unfold zD at y9; exact (zfC_a f58 (fun z9 => by unfold w_X10_forget at z9; first | (revert z9; decide) | omega)))) u57 ((zfC_a f58 (fun z9 => by unfold w_X10_forget at z9; first | (revert z9; decide) | omega)).trans (zwr_r e50 (by first | decide | exact (absurd ·.1 (by decide)) | exact (absurd ·.2 (by decide)) | omega))) (fun a9 b9 y9 => by unfold zD at y9; exact ((zfC_a f58 (fun z9 => by unfold w_X10_forget at z9; first | (revert z9; decide) | omega)).trans (zwr_r e50 (by first | decide | exact (absurd ·.1 (by decide)) | exact (absurd ·.2 (by decide)) | omega)))) (fun b9 => ((zfC_a f58 (fun z9 => by unfold w_X10_forget at z9; first | (revert z9; decide) | omega)).trans (zwr_r e50 (by first | decide | exact (absurd ·.1 (by decide)) | exact (absurd ·.2 (by decide)) | omega)))))⟩
      have k61 : p1 = 3 → zJ shC l yX10_set cX10_set 5 (some .boolean) (rmL 3) 0 0 (q2_X10_set h p1 p2 p3) 0 0 83 [some (.inr 0), some (.inl p1), some (.inl p2), some (.inl p3), some (.inr 2)] [] h := by
        intro c8
        refine zj_aload (zdk ttX10_set 30 rfl rfl) rfl (by decide) ?_
        refine zj_iload_n (zdk ttX10_set 31 rfl rfl) rfl ?_
        refine zj_puti (zdk ttX10_set 32 rfl rfl) zf_RX10_100 rfl (k_1_0 s0 zIs_2) (Or.inl zw_RX10_100) (k2 := 7) rfl (fun h62 e63 => ?_)
        refine zj_goto (t := 98) (zdk ttX10_set 33 rfl rfl) (by decide) ?_
        refine zj_aload_n (zdk ttX10_set 37 rfl rfl) rfl (by decide) ?_
        have s64 : okC h62 := fw_1_0_7 s0 zIs_2 e63 (by omega)
        refine zj_callV (av := []) (st := []) (zdk ttX10_set 38 rfl rfl) mb_X10_forget mv_RX10_74 (ci := 10) rfl rfl (k_L0 s64) rfl rfl (Nat.le_of_ble_eq_true rfl) (s_X10_forget l h62 s64) (rm_ok (by decide) (by decide)) (zq_v fun h67 q65 => ?_)
        obtain ⟨s69, f71, u70⟩ := q65
        refine zj_iconst (zdk ttX10_set 39 rfl rfl) ?_
        have f73 : zfC w_X10_set h h62 := zfC_w (zfC_r _ _) e63 (Or.inr (Or.inl (by omega)))
        have f72 : zfC w_X10_set h h67 := zfC_t f73 f71 (fun a9 b9 z9 => by
          exact (Or.inl z9))
        exact zj_zret rfl (zdk ttX10_set 40 rfl rfl) (Nat.le_refl _) (Nat.le_refl _) (by omega) ⟨1, rfl, by omega, s69, f72, by unfold zst9 zstG; omega, (fun _ => zJP_0 (by omega)), (by intro z t0; have g0 := xK_g t0; unfold pSet; rw [if_pos (by omega)]; refine ⟨rfl, ?_⟩; unfold fSt1; rw [if_neg (by omega), if_neg (by omega), if_neg (by omega), if_pos (by omega)]; have t1 := xC_w (k := 4) t0.1 e63 (Or.inr (Or.inl ⟨rfl, rfl⟩)); exact xK_0 t0 (xC_f t1 (fun a9 b9 y9 => by unfold zD at y9; exact (zfC_a f71 (fun z9 => by unfold w_X10_forget at z9; first | (revert z9; decide) | omega)))) u70 ((zfC_a f71 (fun z9 => by unfold w_X10_forget at z9; first | (revert z9; decide) | omega)).trans (zwr_r e63 (by first | decide | exact (absurd ·.1 (by decide)) | exact (absurd ·.2 (by decide)) | omega))) (fun a9 b9 y9 => by unfold zD at y9; exact ((zfC_a f71 (fun z9 => by unfold w_X10_forget at z9; first | (revert z9; decide) | omega)).trans (zwr_r e63 (by first | decide | exact (absurd ·.1 (by decide)) | exact (absurd ·.2 (by decide)) | omega)))) (fun b9 => ((zfC_a f71 (fun z9 => by unfold w_X10_forget at z9; first | (revert z9; decide) | omega)).trans (zwr_r e63 (by first | decide | exact (absurd ·.1 (by decide)) | exact (absurd ·.2 (by decide)) | omega)))))⟩
      refine zj_table (t := 92) (zdk ttX10_set 13 rfl rfl) (by omega) (by decide) k9 (fun z1 z2 => ?_)
      have z3 : p1 = 0 ∨ p1 = 1 ∨ p1 = 2 ∨ p1 = 3 := by omega
      rcases z3 with z3 | z3 | z3 | z3
      · exact ⟨30, 52, by rw [z3] <;> rfl, by decide, k22 z3⟩
      · exact ⟨41, 63, by rw [z3] <;> rfl, by decide, k35 z3⟩
      · exact ⟨52, 74, by rw [z3] <;> rfl, by decide, k48 z3⟩
      · exact ⟨61, 83, by rw [z3] <;> rfl, by decide, k61 z3⟩
    · exact absurd c7 (by omega)

abbrev q2_X10_act (h : zM) (p1 : Int) (p2 : Int) : Option zV → zM → Prop := zqi fun v h' => (0 ≤ v ∧ v ≤ 1) ∧ okC h' ∧ zfC w_X10_act h h' ∧ (zJP h → zJP h') ∧ (∀ z, xK h z → v = (pAct p1 p2 z).1 ∧ xK h' (pAct p1 p2 z).2)
set_option maxRecDepth 100000 in
set_option maxHeartbeats 4000000 in
theorem s2_X10_act (l : Launch) (h : zM) (p1 : Int) (p2 : Int) (s0 : okC h) (b_p1 : (-2147483648) ≤ p1 ∧ p1 ≤ 2147483647) (b_p2 : (-2147483648) ≤ p2 ∧ p2 ≤ 2147483647) : zT shC l yX10_act cX10_act 3 (some .boolean) (rmL 6) 0 0 [.inr 0, .inl p1, .inl p2] h (q2_X10_act h p1 p2) := by
  refine zT_of (by decide +kernel) (L0 := [some (.inr 0), some (.inl p1), some (.inl p2)]) rfl (Nat.le_of_ble_eq_true rfl) ?_
  refine zj_aload_n (zdk ttX10_act 0 rfl rfl) rfl (by decide) ?_
  refine zj_getr (r := 1) (zdk ttX10_act 1 rfl rfl) zf_RX10_10 rfl (k_L0 s0) (rf_L0_0 s0) ?_
  refine zj_getr (r := 2) (zdk ttX10_act 2 rfl rfl) zf_RX10_67 rfl (k_9_0 s0 zWd_1) (rf_9_0_0 s0 zWd_1) ?_
  refine zj_iload_n (zdk ttX10_act 3 rfl rfl) rfl ?_
  refine zj_callV (av := [.inl p2]) (st := []) (zdk ttX10_act 4 rfl rfl) mb_X1_knows mv_RX10_106 (ci := 1) rfl rfl (k_1_0 s0 zIs_2) rfl rfl (Nat.le_of_ble_eq_true rfl) (s_X1_knows l h 2 p2 s0 zIs_2 (by omega)) (rm_ok (by decide) (by decide)) (zq_i fun v2 h3 q1 => ?_)
  obtain ⟨rfl, b5, ⟨rfl, b4⟩ | ⟨rfl, b4⟩⟩ := q1
  · refine zj_if_eq (t := 23) (zdk ttX10_act 5 rfl rfl) (by decide) (by decide) (fun c6 => ?_) (fun c6 => ?_)
    · refine zj_iconst (zdk ttX10_act 11 rfl rfl) ?_
      exact zj_zret rfl (zdk ttX10_act 12 rfl rfl) (Nat.le_refl _) (Nat.le_refl _) (by omega) ⟨0, rfl, by omega, s0, (zfC_r _ _), (fun j => j), (by intro z t0; have g0 := xK_g t0; have n0 := xK_n t0; unfold pAct; rw [if_neg (fun q9 => by have i0 := q9.1; have he := xK_he t0 i0 (by omega); have be := xK_be t0 i0 (by omega); omega)]; exact ⟨rfl, t0⟩)⟩
    · exact absurd c6 (by omega)
  · refine zj_if_eq (t := 23) (zdk ttX10_act 5 rfl rfl) (by decide) (by decide) (fun c7 => ?_) (fun c7 => ?_)
    · exact absurd c7 (by omega)
    · refine zj_aload_n (zdk ttX10_act 6 rfl rfl) rfl (by decide) ?_
      refine zj_iload_n (zdk ttX10_act 7 rfl rfl) rfl ?_
      refine zj_iload_n (zdk ttX10_act 8 rfl rfl) rfl ?_
      refine zj_callV (av := [.inl p1, .inl p2]) (st := []) (zdk ttX10_act 9 rfl rfl) mb_X10_canAct mv_RX10_110 (ci := 10) rfl rfl (k_L0 s0) rfl rfl (Nat.le_of_ble_eq_true rfl) (s_X10_canAct l h p1 p2 s0 (by omega) (by omega)) (rm_ok (by decide) (by decide)) (zq_i fun v9 h10 q8 => ?_)
      obtain ⟨rfl, b12, b13, ⟨rfl, b11⟩ | ⟨rfl, b11⟩⟩ := q8
      · refine zj_if_ne (t := 25) (zdk ttX10_act 10 rfl rfl) (by decide) (by decide) (fun c14 => ?_) (fun c14 => ?_)
        · exact absurd c14 (by omega)
        · refine zj_iconst (zdk ttX10_act 11 rfl rfl) ?_
          exact zj_zret rfl (zdk ttX10_act 12 rfl rfl) (Nat.le_refl _) (Nat.le_refl _) (by omega) ⟨0, rfl, by omega, s0, (zfC_r _ _), (fun j => j), (by intro z t0; have g0 := xK_g t0; have n0 := xK_n t0; unfold pAct; rw [if_neg (fun q9 => by have i0 := q9.1; have he := xK_he t0 i0 (by omega); have be := xK_be t0 i0 (by omega); omega)]; exact ⟨rfl, t0⟩)⟩
      · refine zj_if_ne (t := 25) (zdk ttX10_act 10 rfl rfl) (by decide) (by decide) (fun c15 => ?_) (fun c15 => ?_)
        · refine zj_aload_n (zdk ttX10_act 13 rfl rfl) rfl (by decide) ?_
          refine zj_callV (av := []) (st := []) (zdk ttX10_act 14 rfl rfl) mb_X10_remember mv_RX10_114 (ci := 10) rfl rfl (k_L0 s0) rfl rfl (Nat.le_of_ble_eq_true rfl) (s2_X10_remember l h s0) (rm_ok (by decide) (by decide)) (zq_v fun h18 q16 => ?_)
          obtain ⟨s20, f23, u21, u22⟩ := q16
          refine zj_iload_n (zdk ttX10_act 15 rfl rfl) rfl ?_
          have k25 : (p1 < 0 ∨ 2 < p1) → zJ shC l yX10_act cX10_act 3 (some .boolean) (rmL 6) 0 0 (q2_X10_act h p1 p2) 0 0 99 [some (.inr 0), some (.inl p1), some (.inl p2)] [] h18 := by
            intro c24
            refine zj_aload_n (zdk ttX10_act 38 rfl rfl) rfl (by decide) ?_
            refine zj_getr (r := 1) (zdk ttX10_act 39 rfl rfl) zf_RX10_10 rfl (k_L0 s20) (rf_L0_0 s20) ?_
            refine zj_getr (r := 2) (zdk ttX10_act 40 rfl rfl) zf_RX10_67 rfl (k_9_0 s20 zWd_1) (rf_9_0_0 s20 zWd_1) ?_
            refine zj_dup (zdk ttX10_act 41 rfl rfl) ?_
            refine zj_geti (v := (h.2 2 5)) (zdk ttX10_act 42 rfl rfl) zf_RX10_124 rfl (k_1_0 s20 zIs_2) (zfC_a f23 (fun z9 => by unfold w_X10_remember at z9; first | (revert z9; decide) | omega)) ?_
            refine zj_iconst (zdk ttX10_act 43 rfl rfl) ?_
            refine zj_iload_n (zdk ttX10_act 44 rfl rfl) rfl ?_
            refine zj_ishl (zdk ttX10_act 45 rfl rfl) ?_
            have b26 := zshl_1 (n := p2) (a := 0) (b := 17) (lo := 1) (hi := 131072) (by omega) (by decide) (by decide) (by decide)
            refine zj_iconst (zdk ttX10_act 46 rfl rfl) ?_
            refine zj_ixor (zdk ttX10_act 47 rfl rfl) ?_
            have b27 := zxor_in (zshl 1 p2) (-1)
            refine zj_iand (zdk ttX10_act 48 rfl rfl) ?_
            have b28 := zand_in (h.2 2 5) (zxor (zshl 1 p2) (-1))
            refine zj_puti (zdk ttX10_act 49 rfl rfl) zf_RX10_124 rfl (k_1_0 s20 zIs_2) (Or.inl zw_RX10_124) (k2 := 5) rfl (fun h29 e30 => ?_)
            refine zj_iconst (zdk ttX10_act 50 rfl rfl) ?_
            have s31 : okC h29 := fw_1_0_5 s20 zIs_2 e30 (by omega)
            have f33 : zfC w_X10_act h h18 := zfC_t (zfC_r _ _) f23 (fun a9 b9 z9 => by
              rcases z9 with z9 | z9
              · exact (Or.inl z9)
              · exact (Or.inr (Or.inr (Or.inr (Or.inr (Or.inr (Or.inr (Or.inr z9))))))))
            have f32 : zfC w_X10_act h h29 := zfC_w f33 e30 (Or.inr (Or.inl (by omega)))
            have b34 : h18.2 2 5 = (h.2 2 5) := (zfC_a f23 (fun z9 => by unfold w_X10_remember at z9; first | (revert z9; decide) | omega))
            exact zj_zret rfl (zdk ttX10_act 51 rfl rfl) (Nat.le_refl _) (Nat.le_refl _) (by omega) ⟨1, rfl, by omega, s31, f32, (fun j => zJP_g s20 (zwr_r e30 (by decide)) (zwr_r e30 (by decide)) (fun a b z1 z2 => (zwr_r e30 (by first | decide | exact (absurd ·.1 (by decide)) | exact (absurd ·.2 (by decide)) | omega))) (u21 j)), (by intro z t0; have g0 := xK_g t0; have n0 := xK_n t0; unfold pAct; have i0 : 0 ≤ p2 ∧ p2 < z.e.n := (by omega); have he := xK_he t0 i0 (by omega); have be := xK_be t0 i0 (by omega); rw [if_pos (by omega)]; obtain ⟨t1, p1_⟩ := u22 z.e z.x z.u z.q t0.1 t0.2.1; refine ⟨rfl, ?_⟩; have ac : fAc p1 p2 z = (fup z.x.1 (27 + p2) 0, z.x.2) := (by unfold fAc; rw [if_neg (by omega), if_neg (by omega), if_neg (by omega)]); rw [ac]; have t2 := xC_c5 (o := p2) t1 e30 (by first | rfl | (rw [show (1 : Int) + 1 = 2 by decide]; congr 1; omega)) (by omega); exact xK_k s20 t0 p1_ t2 (zwr_r e30 (by first | decide | exact (absurd ·.1 (by decide)) | exact (absurd ·.2 (by decide)) | omega)) ((zwr_r e30 (by first | decide | exact (absurd ·.1 (by decide)) | exact (absurd ·.2 (by decide)) | omega)).trans (zfC_a f23 (fun z9 => by unfold w_X10_remember at z9; first | (revert z9; decide) | omega))) (fun a9 b9 y9 => by unfold zD at y9; exact ((zwr_r e30 (by first | decide | exact (absurd ·.1 (by decide)) | exact (absurd ·.2 (by decide)) | omega)).trans (zfC_a f23 (fun z9 => by unfold w_X10_remember at z9; first | (revert z9; decide) | omega)))) (fun a9 b9 y9 z9 => (zwr_r e30 (by first | decide | exact (absurd ·.1 (by decide)) | exact (absurd ·.2 (by decide)) | omega))))⟩
          have k35 : p1 = 0 → zJ shC l yX10_act cX10_act 3 (some .boolean) (rmL 6) 0 0 (q2_X10_act h p1 p2) 0 0 56 [some (.inr 0), some (.inl p1), some (.inl p2)] [] h18 := by
            intro c24
            refine zj_aload_n (zdk ttX10_act 17 rfl rfl) rfl (by decide) ?_
            refine zj_getr (r := 1) (zdk ttX10_act 18 rfl rfl) zf_RX10_10 rfl (k_L0 s20) (rf_L0_0 s20) ?_
            refine zj_iload_n (zdk ttX10_act 19 rfl rfl) rfl ?_
            refine zj_callV (av := [.inl p2]) (st := []) (zdk ttX10_act 20 rfl rfl) mb_X9_goAboard mv_RX10_117 (ci := 9) rfl rfl (k_9_0 s20 zWd_1) rfl rfl (Nat.le_of_ble_eq_true rfl) (s2_X9_goAboard l h18 1 p2 s20 zWd_1 (by omega)) (rm_ok (by decide) (by decide)) (zq_v fun h38 q36 => ?_)
            obtain ⟨s40, f42, u41⟩ := q36
            refine zj_goto (t := 119) (zdk ttX10_act 21 rfl rfl) (by decide) ?_
            refine zj_iconst (zdk ttX10_act 50 rfl rfl) ?_
            have f44 : zfC w_X10_act h h18 := zfC_t (zfC_r _ _) f23 (fun a9 b9 z9 => by
              rcases z9 with z9 | z9
              · exact (Or.inl z9)
              · exact (Or.inr (Or.inr (Or.inr (Or.inr (Or.inr (Or.inr (Or.inr z9))))))))
            have f43 : zfC w_X10_act h h38 := zfC_t f44 f42 (fun a9 b9 z9 => by
              rcases z9 with z9 | z9 | z9 | z9 | z9 | z9
              · exact (Or.inr (Or.inl (by omega)))
              · exact (Or.inr (Or.inr (Or.inl z9)))
              · exact (Or.inr (Or.inr (Or.inr (Or.inl z9))))
              · exact (Or.inr (Or.inr (Or.inr (Or.inr (Or.inl z9)))))
              · exact (Or.inr (Or.inr (Or.inr (Or.inr (Or.inr (Or.inl z9))))))
              · exact (Or.inr (Or.inr (Or.inr (Or.inr (Or.inr (Or.inr (Or.inl z9))))))))
            exact zj_zret rfl (zdk ttX10_act 51 rfl rfl) (Nat.le_refl _) (Nat.le_refl _) (by omega) ⟨1, rfl, by omega, s40, f43, (fun j => zJP_g s20 (zfC_a f42 (fun z9 => by unfold w_X9_goAboard at z9; first | (revert z9; decide) | omega)) (zfC_a f42 (fun z9 => by unfold w_X9_goAboard at z9; first | (revert z9; decide) | omega)) (fun a b z1 z2 => (zfC_a f42 (fun z9 => by unfold w_X9_goAboard at z9; first | (revert z9; decide) | omega))) (u21 j)), (by intro z t0; have g0 := xK_g t0; have n0 := xK_n t0; unfold pAct; have i0 : 0 ≤ p2 ∧ p2 < z.e.n := (by omega); have he := xK_he t0 i0 (by omega); have be := xK_be t0 i0 (by omega); rw [if_pos (by omega)]; obtain ⟨t1, p1_⟩ := u22 z.e z.x z.u z.q t0.1 t0.2.1; refine ⟨rfl, ?_⟩; have ac : fAc p1 p2 z = fGo z.e false p2 z.x := if_pos (by omega); rw [ac]; have t2 := u41 z.e false z.x t1 i0; exact xK_k s20 t0 p1_ t2 (zfC_a f42 (fun z9 => by unfold w_X9_goAboard at z9; first | (revert z9; decide) | omega)) ((zfC_a f42 (fun z9 => by unfold w_X9_goAboard at z9; first | (revert z9; decide) | omega)).trans (zfC_a f23 (fun z9 => by unfold w_X10_remember at z9; first | (revert z9; decide) | omega))) (fun a9 b9 y9 => by unfold zD at y9; exact ((zfC_a f42 (fun z9 => by unfold w_X9_goAboard at z9; first | (revert z9; decide) | omega)).trans (zfC_a f23 (fun z9 => by unfold w_X10_remember at z9; first | (revert z9; decide) | omega)))) (fun a9 b9 y9 z9 => (zfC_a f42 (fun z9 => by unfold w_X9_goAboard at z9; first | (revert z9; decide) | omega))))⟩
          have k45 : p1 = 1 → zJ shC l yX10_act cX10_act 3 (some .boolean) (rmL 6) 0 0 (q2_X10_act h p1 p2) 0 0 67 [some (.inr 0), some (.inl p1), some (.inl p2)] [] h18 := by
            intro c24
            refine zj_aload_n (zdk ttX10_act 22 rfl rfl) rfl (by decide) ?_
            refine zj_getr (r := 1) (zdk ttX10_act 23 rfl rfl) zf_RX10_10 rfl (k_L0 s20) (rf_L0_0 s20) ?_
            refine zj_iload_n (zdk ttX10_act 24 rfl rfl) rfl ?_
            refine zj_callV (av := [.inl p2]) (st := []) (zdk ttX10_act 25 rfl rfl) mb_X9_comeBack mv_RX10_121 (ci := 9) rfl rfl (k_9_0 s20 zWd_1) rfl rfl (Nat.le_of_ble_eq_true rfl) (s2_X9_comeBack l h18 1 p2 s20 zWd_1 (by omega)) (rm_ok (by decide) (by decide)) (zq_v fun h48 q46 => ?_)
            obtain ⟨s50, f52, u51⟩ := q46
            refine zj_goto (t := 119) (zdk ttX10_act 26 rfl rfl) (by decide) ?_
            refine zj_iconst (zdk ttX10_act 50 rfl rfl) ?_
            have f54 : zfC w_X10_act h h18 := zfC_t (zfC_r _ _) f23 (fun a9 b9 z9 => by
              rcases z9 with z9 | z9
              · exact (Or.inl z9)
              · exact (Or.inr (Or.inr (Or.inr (Or.inr (Or.inr (Or.inr (Or.inr z9))))))))
            have f53 : zfC w_X10_act h h48 := zfC_t f54 f52 (fun a9 b9 z9 => by
              rcases z9 with z9 | z9 | z9 | z9 | z9
              · exact (Or.inr (Or.inl (by omega)))
              · exact (Or.inr (Or.inr (Or.inl z9)))
              · exact (Or.inr (Or.inr (Or.inr (Or.inr (Or.inl z9)))))
              · exact (Or.inr (Or.inr (Or.inr (Or.inr (Or.inr (Or.inl z9))))))
              · exact (Or.inr (Or.inr (Or.inr (Or.inr (Or.inr (Or.inr (Or.inl z9))))))))
            exact zj_zret rfl (zdk ttX10_act 51 rfl rfl) (Nat.le_refl _) (Nat.le_refl _) (by omega) ⟨1, rfl, by omega, s50, f53, (fun j => zJP_g s20 (zfC_a f52 (fun z9 => by unfold w_X9_comeBack at z9; first | (revert z9; decide) | omega)) (zfC_a f52 (fun z9 => by unfold w_X9_comeBack at z9; first | (revert z9; decide) | omega)) (fun a b z1 z2 => (zfC_a f52 (fun z9 => by unfold w_X9_comeBack at z9; first | (revert z9; decide) | omega))) (u21 j)), (by intro z t0; have g0 := xK_g t0; have n0 := xK_n t0; unfold pAct; have i0 : 0 ≤ p2 ∧ p2 < z.e.n := (by omega); have he := xK_he t0 i0 (by omega); have be := xK_be t0 i0 (by omega); rw [if_pos (by omega)]; obtain ⟨t1, p1_⟩ := u22 z.e z.x z.u z.q t0.1 t0.2.1; refine ⟨rfl, ?_⟩; have ac : fAc p1 p2 z = fBk z.e false p2 z.x := (by unfold fAc; rw [if_neg (by omega), if_pos (by omega)]); rw [ac]; have t2 := u51 z.e false z.x t1 i0; exact xK_k s20 t0 p1_ t2 (zfC_a f52 (fun z9 => by unfold w_X9_comeBack at z9; first | (revert z9; decide) | omega)) ((zfC_a f52 (fun z9 => by unfold w_X9_comeBack at z9; first | (revert z9; decide) | omega)).trans (zfC_a f23 (fun z9 => by unfold w_X10_remember at z9; first | (revert z9; decide) | omega))) (fun a9 b9 y9 => by unfold zD at y9; exact ((zfC_a f52 (fun z9 => by unfold w_X9_comeBack at z9; first | (revert z9; decide) | omega)).trans (zfC_a f23 (fun z9 => by unfold w_X10_remember at z9; first | (revert z9; decide) | omega)))) (fun a9 b9 y9 z9 => (zfC_a f52 (fun z9 => by unfold w_X9_comeBack at z9; first | (revert z9; decide) | omega))))⟩
          have k55 : p1 = 2 → zJ shC l yX10_act cX10_act 3 (some .boolean) (rmL 6) 0 0 (q2_X10_act h p1 p2) 0 0 78 [some (.inr 0), some (.inl p1), some (.inl p2)] [] h18 := by
            intro c24
            refine zj_aload_n (zdk ttX10_act 27 rfl rfl) rfl (by decide) ?_
            refine zj_getr (r := 1) (zdk ttX10_act 28 rfl rfl) zf_RX10_10 rfl (k_L0 s20) (rf_L0_0 s20) ?_
            refine zj_getr (r := 2) (zdk ttX10_act 29 rfl rfl) zf_RX10_67 rfl (k_9_0 s20 zWd_1) (rf_9_0_0 s20 zWd_1) ?_
            refine zj_dup (zdk ttX10_act 30 rfl rfl) ?_
            refine zj_geti (v := (h.2 2 5)) (zdk ttX10_act 31 rfl rfl) zf_RX10_124 rfl (k_1_0 s20 zIs_2) (zfC_a f23 (fun z9 => by unfold w_X10_remember at z9; first | (revert z9; decide) | omega)) ?_
            refine zj_iconst (zdk ttX10_act 32 rfl rfl) ?_
            refine zj_iload_n (zdk ttX10_act 33 rfl rfl) rfl ?_
            refine zj_ishl (zdk ttX10_act 34 rfl rfl) ?_
            have b56 := zshl_1 (n := p2) (a := 0) (b := 17) (lo := 1) (hi := 131072) (by omega) (by decide) (by decide) (by decide)
            refine zj_ior (zdk ttX10_act 35 rfl rfl) ?_
            have b57 := zor_in (h.2 2 5) (zshl 1 p2)
            refine zj_puti (zdk ttX10_act 36 rfl rfl) zf_RX10_124 rfl (k_1_0 s20 zIs_2) (Or.inl zw_RX10_124) (k2 := 5) rfl (fun h58 e59 => ?_)
            refine zj_goto (t := 119) (zdk ttX10_act 37 rfl rfl) (by decide) ?_
            refine zj_iconst (zdk ttX10_act 50 rfl rfl) ?_
            have s60 : okC h58 := fw_1_0_5 s20 zIs_2 e59 (by omega)
            have f62 : zfC w_X10_act h h18 := zfC_t (zfC_r _ _) f23 (fun a9 b9 z9 => by
              rcases z9 with z9 | z9
              · exact (Or.inl z9)
              · exact (Or.inr (Or.inr (Or.inr (Or.inr (Or.inr (Or.inr (Or.inr z9))))))))
            have f61 : zfC w_X10_act h h58 := zfC_w f62 e59 (Or.inr (Or.inl (by omega)))
            have b63 : h18.2 2 5 = (h.2 2 5) := (zfC_a f23 (fun z9 => by unfold w_X10_remember at z9; first | (revert z9; decide) | omega))
            exact zj_zret rfl (zdk ttX10_act 51 rfl rfl) (Nat.le_refl _) (Nat.le_refl _) (by omega) ⟨1, rfl, by omega, s60, f61, (fun j => zJP_g s20 (zwr_r e59 (by decide)) (zwr_r e59 (by decide)) (fun a b z1 z2 => (zwr_r e59 (by first | decide | exact (absurd ·.1 (by decide)) | exact (absurd ·.2 (by decide)) | omega))) (u21 j)), (by intro z t0; have g0 := xK_g t0; have n0 := xK_n t0; unfold pAct; have i0 : 0 ≤ p2 ∧ p2 < z.e.n := (by omega); have he := xK_he t0 i0 (by omega); have be := xK_be t0 i0 (by omega); rw [if_pos (by omega)]; obtain ⟨t1, p1_⟩ := u22 z.e z.x z.u z.q t0.1 t0.2.1; refine ⟨rfl, ?_⟩; have ac : fAc p1 p2 z = (fup z.x.1 (27 + p2) 1, z.x.2) := (by unfold fAc; rw [if_neg (by omega), if_neg (by omega), if_pos (by omega)]); rw [ac]; have t2 := xC_s5 (o := p2) t1 e59 (by first | rfl | (rw [show (1 : Int) + 1 = 2 by decide]; congr 1; omega)) (by omega); exact xK_k s20 t0 p1_ t2 (zwr_r e59 (by first | decide | exact (absurd ·.1 (by decide)) | exact (absurd ·.2 (by decide)) | omega)) ((zwr_r e59 (by first | decide | exact (absurd ·.1 (by decide)) | exact (absurd ·.2 (by decide)) | omega)).trans (zfC_a f23 (fun z9 => by unfold w_X10_remember at z9; first | (revert z9; decide) | omega))) (fun a9 b9 y9 => by unfold zD at y9; exact ((zwr_r e59 (by first | decide | exact (absurd ·.1 (by decide)) | exact (absurd ·.2 (by decide)) | omega)).trans (zfC_a f23 (fun z9 => by unfold w_X10_remember at z9; first | (revert z9; decide) | omega)))) (fun a9 b9 y9 z9 => (zwr_r e59 (by first | decide | exact (absurd ·.1 (by decide)) | exact (absurd ·.2 (by decide)) | omega))))⟩
          refine zj_table (t := 99) (zdk ttX10_act 16 rfl rfl) (by omega) (by decide) k25 (fun z1 z2 => ?_)
          have z3 : p1 = 0 ∨ p1 = 1 ∨ p1 = 2 := by omega
          rcases z3 with z3 | z3 | z3
          · exact ⟨26, 56, by rw [z3] <;> rfl, by decide, k35 z3⟩
          · exact ⟨37, 67, by rw [z3] <;> rfl, by decide, k45 z3⟩
          · exact ⟨48, 78, by rw [z3] <;> rfl, by decide, k55 z3⟩
        · exact absurd c15 (by omega)

