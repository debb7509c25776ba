def tKd9 (tk vl v : Int) : Prop := (tk = 2 ∧ vl = 21 ∧ v = 0) ∨ (tk = 2 ∧ vl = 23 ∧ v = 1) ∨ (tk = 2 ∧ vl = 14 ∧ v = 2) ∨ (tk = 2 ∧ 24 ≤ vl ∧ vl ≤ 26 ∧ v = vl - 21) ∨ (v = -1 ∧ (¬ tk = 2 ∨ (¬ vl = 21 ∧ ¬ vl = 23 ∧ ¬ vl = 14 ∧ (vl < 24 ∨ 26 < vl))))
theorem tKd_a {tk vl v : Int} (h : ((v = (-1) ∧ ((((¬ tk = 2) ∨ (tk = 2 ∧ ¬ vl = 21)) ∧ ((¬ tk = 2) ∨ (tk = 2 ∧ ¬ vl = 23)) ∧ ((¬ tk = 2) ∨ (tk = 2 ∧ ¬ vl = 14)) ∧ ¬ tk = 2) ∨ (((¬ tk = 2) ∨ (tk = 2 ∧ ¬ vl = 21)) ∧ ((¬ tk = 2) ∨ (tk = 2 ∧ ¬ vl = 23)) ∧ ((¬ tk = 2) ∨ (tk = 2 ∧ ¬ vl = 14)) ∧ tk = 2 ∧ ((vl < 24) ∨ (24 ≤ vl ∧ 26 < vl))))) ∨ ((((¬ tk = 2) ∨ (tk = 2 ∧ ¬ vl = 21)) ∧ ((¬ tk = 2) ∨ (tk = 2 ∧ ¬ vl = 23)) ∧ ((¬ tk = 2) ∨ (tk = 2 ∧ ¬ vl = 14)) ∧ tk = 2 ∧ (24 ≤ vl ∧ vl ≤ 26)) ∧ v = ((3 + vl) - 24) ∧ 3 ≤ v ∧ v ≤ 5) ∨ (v = 2 ∧ (((¬ tk = 2) ∨ (tk = 2 ∧ ¬ vl = 21)) ∧ ((¬ tk = 2) ∨ (tk = 2 ∧ ¬ vl = 23)) ∧ (tk = 2 ∧ vl = 14))) ∨ (v = 1 ∧ (((¬ tk = 2) ∨ (tk = 2 ∧ ¬ vl = 21)) ∧ (tk = 2 ∧ vl = 23))) ∨ (v = 0 ∧ ((tk = 2 ∧ vl = 21))))) : tKd9 tk vl v := by
  unfold tKd9
  rcases h with h | h | h | h | h
  · refine Or.inr (Or.inr (Or.inr (Or.inr ⟨h.1, ?_⟩)))
    rcases h.2 with h | h
    · exact Or.inl h.2.2.2
    · omega
  · exact Or.inr (Or.inr (Or.inr (Or.inl (by have a := h.1.2.2.2; have b := h.2; omega))))
  · exact Or.inr (Or.inr (Or.inl (by have a := h.2.2.2; have b := h.1; omega)))
  · exact Or.inr (Or.inl (by have a := h.2.2; have b := h.1; omega))
  · exact Or.inl (by omega)
theorem tKd_b {tk vl c v : Int} (k : (tk = 0 ∧ c = 0) ∨ (tk = 3 ∧ 0 ≤ vl ∧ vl ≤ 9999 ∧ c = 1000 + vl) ∨ (tk = 4 ∧ 40 ≤ vl ∧ vl ≤ 62 ∧ c = vl) ∨ (tk = 2 ∧ ((vl = 17 ∧ c = 200) ∨ (vl = 21 ∧ c = 201) ∨ (vl = 23 ∧ c = 202) ∨ (vl = 14 ∧ c = 203) ∨ (vl = 24 ∧ c = 204) ∨ (vl = 25 ∧ c = 205) ∨ (vl = 26 ∧ c = 206) ∨ (¬ vl = 17 ∧ ¬ vl = 21 ∧ ¬ vl = 23 ∧ ¬ vl = 14 ∧ ¬ vl = 24 ∧ ¬ vl = 25 ∧ ¬ vl = 26 ∧ c = 1))) ∨ (tk = 1 ∧ c = 1)) (h : tKd9 tk vl v) : (201 ≤ c ∧ c ≤ 206 ∧ v = c - 201) ∨ (¬ (201 ≤ c ∧ c ≤ 206) ∧ v = -1) := by
  unfold tKd9 at h
  rcases k with k | k | k | ⟨k0, k | k | k | k | k | k | k | k⟩ | k <;> rcases h with h | h | h | h | h <;> omega

abbrev q2_X11_readDeed (h : zM) (p1 : Int) : Option zV → zM → Prop := zqi fun v h' => ((-1) ≤ v ∧ v ≤ 0) ∧ okM h' ∧ zfr [12, 13, 14, 15, 29, 30] [18] h h' ∧ (v = 0 → wfD1 (h'.2 18 (p1 + 1)) (h'.2 18 (p1 + 2))) ∧ (∀ j, ¬ (p1 ≤ j ∧ j ≤ p1 + 2) → h'.2 18 j = h.2 18 j) ∧ (∀ T j, tPm 3 T j h → T j = 200 → (v = 0 → ∃ j9, tPm 3 T j9 h' ∧ j < j9 ∧ ∀ (p9 : Int) w9 s9, w9 < 16 → tRe T (h.2 0 6) (30, j, w9, s9) (30, j9, w9 + 1, [])) ∧ (v = -1 → ∃ i9 f9, tEp h h' i9 f9 ∧ ∀ (p9 : Int) w9 s9, w9 < 16 → tRe T (h.2 0 6) (30, j, w9, s9) (tEr i9 f9)))
set_option maxRecDepth 100000 in
set_option maxHeartbeats 4000000 in
theorem s2_X11_readDeed (l : Launch) (h : zM) (p1 : Int) (s0 : okM h) (b_p1 : 48 ≤ p1 ∧ p1 ≤ 93) : zT shM l yX11_readDeed cX11_readDeed 3 (some .int) (rmL 6) 0 0 [.inr 0, .inl p1] h (q2_X11_readDeed h p1) := by
  refine zT_of (by decide +kernel) (L0 := [some (.inr 0), some (.inl p1), none]) rfl (Nat.le_of_ble_eq_true rfl) ?_
  refine zj_aload_n (zdk ttX11_readDeed 0 rfl rfl) rfl (by decide) ?_
  refine zj_getr (r := 18) (zdk ttX11_readDeed 1 rfl rfl) zf_RX11_65 rfl (k_M s0) (rfM_36 s0) ?_
  refine zj_iload_n (zdk ttX11_readDeed 2 rfl rfl) rfl ?_
  refine zj_aload_n (zdk ttX11_readDeed 3 rfl rfl) rfl (by decide) ?_
  refine zj_bipush (zdk ttX11_readDeed 4 rfl rfl) (by decide) ?_
  refine zj_iconst (zdk ttX11_readDeed 5 rfl rfl) ?_
  refine zj_sipush (zdk ttX11_readDeed 6 rfl rfl) (by decide) ?_
  refine zj_callV (av := [.inl 17, .inl 0, .inl 999]) (st := [.inl p1, .inr 18]) (zdk ttX11_readDeed 7 rfl rfl) mb_X11_readTold mv_RX11_251 (ci := 11) rfl rfl (k_M s0) rfl rfl (Nat.le_of_ble_eq_true rfl) (s2_X11_readTold l h 17 0 999 s0 (by omega) (by omega) (by omega)) (rm_ok (by decide) (by decide)) (zq_i fun v2 h3 q1 => ?_)
  obtain ⟨b4, s5, f8, u6, u7⟩ := q1
  have b9 : -1 ≤ v2 ∧ v2 ≤ 999 := by omega
  refine zj_iast (zdk ttX11_readDeed 8 rfl rfl) (kaM_18 s5) (by decide) (by omega) (fun h10 e11 => ?_)
  refine zj_aload_n (zdk ttX11_readDeed 9 rfl rfl) rfl (by decide) ?_
  have s12 : okM h10 := awM_18 s5 e11 (by omega) (by unfold nsp; omega)
  refine zj_getr (r := 18) (zdk ttX11_readDeed 10 rfl rfl) zf_RX11_65 rfl (k_M s12) (rfM_36 s12) ?_
  refine zj_iload_n (zdk ttX11_readDeed 11 rfl rfl) rfl ?_
  refine zj_iald (v := v2) (zdk ttX11_readDeed 12 rfl rfl) (kaM_18 s12) (by decide) (by omega) (zwr_v e11) ?_
  refine zj_iconst (zdk ttX11_readDeed 13 rfl rfl) ?_
  refine zj_icmp_ne (t := 28) (zdk ttX11_readDeed 14 rfl rfl) (by decide) (by omega) (by decide) (fun c13 => ?_) (fun c13 => ?_)
  · refine zj_aload_n (zdk ttX11_readDeed 17 rfl rfl) rfl (by decide) ?_
    refine zj_callV (av := []) (st := []) (zdk ttX11_readDeed 18 rfl rfl) mb_X11_kindOfDeed mv_RX11_261 (ci := 11) rfl rfl (k_M s12) rfl rfl (Nat.le_of_ble_eq_true rfl) (s_X11_kindOfDeed l h10 s12) (rm_ok (by decide) (by decide)) (zq_i fun v15 h16 q14 => ?_)
    obtain ⟨rfl, b18, b19, b17⟩ := q14
    have b20 : -1 ≤ v15 ∧ v15 ≤ 5 := by omega
    have b21 := tKd_a b17
    clear b17
    refine zj_istore_n (L' := [some (.inr 0), some (.inl p1), some (.inl v15)]) (zdk ttX11_readDeed 19 rfl rfl) (by decide) rfl ?_
    refine zj_iload_n (zdk ttX11_readDeed 20 rfl rfl) rfl ?_
    refine zj_iconst (zdk ttX11_readDeed 21 rfl rfl) ?_
    refine zj_icmp_ne (t := 44) (zdk ttX11_readDeed 22 rfl rfl) (by decide) (by omega) (by decide) (fun c22 => ?_) (fun c22 => ?_)
    · refine zj_aload_n (zdk ttX11_readDeed 27 rfl rfl) rfl (by decide) ?_
      refine zj_callV (av := []) (st := []) (zdk ttX11_readDeed 28 rfl rfl) mb_X11_reads mv_RX11_204 (ci := 11) rfl rfl (k_M s12) rfl rfl (Nat.le_of_ble_eq_true rfl) (s2_X11_reads l h10 s12) (rm_ok (by decide) (by decide)) (zq_v fun h25 q23 => ?_)
      obtain ⟨s27, f31, u28, u29, u30⟩ := q23
      refine zj_aload_n (zdk ttX11_readDeed 29 rfl rfl) rfl (by decide) ?_
      refine zj_getr (r := 18) (zdk ttX11_readDeed 30 rfl rfl) zf_RX11_65 rfl (k_M s27) (rfM_36 s27) ?_
      refine zj_iload_n (zdk ttX11_readDeed 31 rfl rfl) rfl ?_
      refine zj_iconst (zdk ttX11_readDeed 32 rfl rfl) ?_
      refine zj_iadd (zdk ttX11_readDeed 33 rfl rfl) ?_
      refine zj_iload_n (zdk ttX11_readDeed 34 rfl rfl) rfl ?_
      refine zj_iast (zdk ttX11_readDeed 35 rfl rfl) (kaM_18 s27) (by decide) (by omega) (fun h32 e33 => ?_)
      refine zj_aload_n (zdk ttX11_readDeed 36 rfl rfl) rfl (by decide) ?_
      have s34 : okM h32 := awM_18 s27 e33 (by omega) (by unfold nsp; omega)
      refine zj_getr (r := 18) (zdk ttX11_readDeed 37 rfl rfl) zf_RX11_65 rfl (k_M s34) (rfM_36 s34) ?_
      refine zj_iload_n (zdk ttX11_readDeed 38 rfl rfl) rfl ?_
      refine zj_iconst (zdk ttX11_readDeed 39 rfl rfl) ?_
      refine zj_iadd (zdk ttX11_readDeed 40 rfl rfl) ?_
      refine zj_iload_n (zdk ttX11_readDeed 41 rfl rfl) rfl ?_
      refine zj_iconst (zdk ttX11_readDeed 42 rfl rfl) ?_
      refine zj_icmp_eq (t := 74) (zdk ttX11_readDeed 43 rfl rfl) (by decide) (by omega) (by decide) (fun c35 => ?_) (fun c35 => ?_)
      · refine zj_iconst (zdk ttX11_readDeed 47 rfl rfl) ?_
        refine zj_goto (t := 119) (zdk ttX11_readDeed 48 rfl rfl) (by decide) ?_
        refine zj_iast (zdk ttX11_readDeed 71 rfl rfl) (kaM_18 s34) (by decide) (by omega) (fun h36 e37 => ?_)
        refine zj_aload_n (zdk ttX11_readDeed 72 rfl rfl) rfl (by decide) ?_
        have s38 : okM h36 := awM_18 s34 e37 (by omega) (by unfold nsp; omega)
        refine zj_getr (r := 18) (zdk ttX11_readDeed 73 rfl rfl) zf_RX11_65 rfl (k_M s38) (rfM_36 s38) ?_
        refine zj_iload_n (zdk ttX11_readDeed 74 rfl rfl) rfl ?_
        refine zj_iconst (zdk ttX11_readDeed 75 rfl rfl) ?_
        refine zj_iadd (zdk ttX11_readDeed 76 rfl rfl) ?_
        refine zj_iald (v := 0) (zdk ttX11_readDeed 77 rfl rfl) (kaM_18 s38) (by decide) (by omega) (zwr_v e37) ?_
        refine zj_iconst (zdk ttX11_readDeed 78 rfl rfl) ?_
        refine zj_icmp_ne (t := 136) (zdk ttX11_readDeed 79 rfl rfl) (by decide) (by decide) (by decide) (fun c39 => ?_) (fun c39 => ?_)
        · refine zj_aload_n (zdk ttX11_readDeed 82 rfl rfl) rfl (by decide) ?_
          refine zj_bipush (zdk ttX11_readDeed 83 rfl rfl) (by decide) ?_
          refine zj_callV (av := [.inl 59]) (st := []) (zdk ttX11_readDeed 84 rfl rfl) mb_X11_readMark mv_RX11_255 (ci := 11) rfl rfl (k_M s38) rfl rfl (Nat.le_of_ble_eq_true rfl) (s2_X11_readMark l h36 59 s38 (by omega)) (rm_ok (by decide) (by decide)) (zq_i fun v41 h42 q40 => ?_)
          obtain ⟨b43, s44, f46, u45⟩ := q40
          have f52 : zfr [12, 13, 14, 15, 29, 30] [18] h h3 := zfr_t (zfr_r _ _ _) f8 rfl rfl
          have f51 : zfr [12, 13, 14, 15, 29, 30] [18] h h10 := zfr_wa f52 e11 rfl
          have f50 : zfr [12, 13, 14, 15, 29, 30] [18] h h25 := zfr_t f51 f31 rfl rfl
          have f49 : zfr [12, 13, 14, 15, 29, 30] [18] h h32 := zfr_wa f50 e33 rfl
          have f48 : zfr [12, 13, 14, 15, 29, 30] [18] h h36 := zfr_wa f49 e37 rfl
          have f47 : zfr [12, 13, 14, 15, 29, 30] [18] h h42 := zfr_t f48 f46 rfl rfl
          have b53 : h42.2 18 (p1 + 1) = v15 := (((zfr_a f46 rfl (by decide)).trans (zwr_r e37 (by first | decide | exact (absurd ·.1 (by decide)) | exact (absurd ·.2 (by decide)) | omega))).trans (zwr_v e33))
          have b54 : h42.2 18 (p1 + 2) = 0 := ((zfr_a f46 rfl (by decide)).trans (zwr_v e37))
          have b55 : 0 ≤ (h.2 0 14) ∧ (h.2 0 14) ≤ 4 := fM_14 s0
          have b56 : -2147483648 ≤ (h.2 0 15) ∧ (h.2 0 15) ≤ 2147483647 := fM_15 s0
          have b57 : 0 ≤ (h3.2 0 14) ∧ (h3.2 0 14) ≤ 4 := fM_14 s5
          have b58 : -2147483648 ≤ (h3.2 0 15) ∧ (h3.2 0 15) ≤ 2147483647 := fM_15 s5
          have b59 : h10.2 0 14 = (h3.2 0 14) := (zwr_r e11 (by first | decide | exact (absurd ·.1 (by decide)) | exact (absurd ·.2 (by decide)) | omega))
          have b60 : h10.2 0 15 = (h3.2 0 15) := (zwr_r e11 (by first | decide | exact (absurd ·.1 (by decide)) | exact (absurd ·.2 (by decide)) | omega))
          have b61 : 0 ≤ (h25.2 0 14) ∧ (h25.2 0 14) ≤ 4 := fM_14 s27
          have b62 : -2147483648 ≤ (h25.2 0 15) ∧ (h25.2 0 15) ≤ 2147483647 := fM_15 s27
          have b63 : h32.2 0 14 = (h25.2 0 14) := (zwr_r e33 (by first | decide | exact (absurd ·.1 (by decide)) | exact (absurd ·.2 (by decide)) | omega))
          have b64 : h32.2 0 15 = (h25.2 0 15) := (zwr_r e33 (by first | decide | exact (absurd ·.1 (by decide)) | exact (absurd ·.2 (by decide)) | omega))
          have b65 : h36.2 0 14 = (h25.2 0 14) := ((zwr_r e37 (by first | decide | exact (absurd ·.1 (by decide)) | exact (absurd ·.2 (by decide)) | omega)).trans (zwr_r e33 (by first | decide | exact (absurd ·.1 (by decide)) | exact (absurd ·.2 (by decide)) | omega)))
          have b66 : h36.2 0 15 = (h25.2 0 15) := ((zwr_r e37 (by first | decide | exact (absurd ·.1 (by decide)) | exact (absurd ·.2 (by decide)) | omega)).trans (zwr_r e33 (by first | decide | exact (absurd ·.1 (by decide)) | exact (absurd ·.2 (by decide)) | omega)))
          have b67 : 0 ≤ (h42.2 0 14) ∧ (h42.2 0 14) ≤ 4 := fM_14 s44
          have b68 : -2147483648 ≤ (h42.2 0 15) ∧ (h42.2 0 15) ≤ 2147483647 := fM_15 s44
          exact zj_iret rfl (zdk ttX11_readDeed 85 rfl rfl) (Nat.le_refl _) (Nat.le_refl _) ⟨v41, rfl, by omega, s44, f47, (fun q => by unfold wfD1; omega), (fun j q => ((((((zfr_a f46 rfl (by decide)).trans (zwr_r e37 (by first | decide | exact (absurd ·.1 (by decide)) | exact (absurd ·.2 (by decide)) | omega))).trans (zwr_r e33 (by first | decide | exact (absurd ·.1 (by decide)) | exact (absurd ·.2 (by decide)) | omega))).trans (zfr_a f31 rfl (by decide))).trans (zwr_r e11 (by first | decide | exact (absurd ·.1 (by decide)) | exact (absurd ·.2 (by decide)) | omega))).trans (zfr_a f8 rfl (by decide)))), (by intro T j t0 yh9; have e_1 := u7 3 T j 200 t0 (fun t v q => by have k9 := tT3 q; omega) (by decide); have e_1y := e_1.1 (by omega); have e_1d := e_1y.2.1; have a_2 : tPm 3 T (j + 1 + 1) h10 := tPm_f e_1y.2.2 (fun k => (zwr_r e11 (by first | decide | exact (absurd ·.1 (by decide)) | exact (absurd ·.2 (by decide)) | omega))) (fun k => (zwr_r e11 (by first | decide | exact (absurd ·.1 (by decide)) | exact (absurd ·.2 (by decide)) | omega))) (zwr_r e11 (by first | decide | exact (absurd ·.1 (by decide)) | exact (absurd ·.2 (by decide)) | omega)) (zwr_r e11 (by first | decide | exact (absurd ·.1 (by decide)) | exact (absurd ·.2 (by decide)) | omega)) (zwr_r e11 (by first | decide | exact (absurd ·.1 (by decide)) | exact (absurd ·.2 (by decide)) | omega)) (zwr_r e11 (by first | decide | exact (absurd ·.1 (by decide)) | exact (absurd ·.2 (by decide)) | omega)) (zwr_r e11 (by first | decide | exact (absurd ·.1 (by decide)) | exact (absurd ·.2 (by decide)) | omega)); have k_3 := tT3 a_2.2.2.1; have k_3j := a_2.1.1; have kd8 := tKd_b k_3 b21; clear k_3 b21; have k_4 := tT3 a_2.2.2.1; have k_4j := a_2.1.1; have a_5 : tPm 3 T ((j + 1 + 1) + 1) h25 := tPm_r a_2 (by omega) (u30 a_2.2.2.2.2.2.1 (tPm_l a_2 (by omega))) (fun k => (zfr_a f31 rfl (by decide))) (fun k => (zfr_a f31 rfl (by decide))) (zfr_f f31 rfl rfl); have a_6 : tPm 3 T ((j + 1 + 1) + 1) h32 := tPm_f a_5 (fun k => (zwr_r e33 (by first | decide | exact (absurd ·.1 (by decide)) | exact (absurd ·.2 (by decide)) | omega))) (fun k => (zwr_r e33 (by first | decide | exact (absurd ·.1 (by decide)) | exact (absurd ·.2 (by decide)) | omega))) (zwr_r e33 (by first | decide | exact (absurd ·.1 (by decide)) | exact (absurd ·.2 (by decide)) | omega)) (zwr_r e33 (by first | decide | exact (absurd ·.1 (by decide)) | exact (absurd ·.2 (by decide)) | omega)) (zwr_r e33 (by first | decide | exact (absurd ·.1 (by decide)) | exact (absurd ·.2 (by decide)) | omega)) (zwr_r e33 (by first | decide | exact (absurd ·.1 (by decide)) | exact (absurd ·.2 (by decide)) | omega)) (zwr_r e33 (by first | decide | exact (absurd ·.1 (by decide)) | exact (absurd ·.2 (by decide)) | omega)); have a_7 : tPm 3 T ((j + 1 + 1) + 1) h36 := tPm_f a_6 (fun k => (zwr_r e37 (by first | decide | exact (absurd ·.1 (by decide)) | exact (absurd ·.2 (by decide)) | omega))) (fun k => (zwr_r e37 (by first | decide | exact (absurd ·.1 (by decide)) | exact (absurd ·.2 (by decide)) | omega))) (zwr_r e37 (by first | decide | exact (absurd ·.1 (by decide)) | exact (absurd ·.2 (by decide)) | omega)) (zwr_r e37 (by first | decide | exact (absurd ·.1 (by decide)) | exact (absurd ·.2 (by decide)) | omega)) (zwr_r e37 (by first | decide | exact (absurd ·.1 (by decide)) | exact (absurd ·.2 (by decide)) | omega)) (zwr_r e37 (by first | decide | exact (absurd ·.1 (by decide)) | exact (absurd ·.2 (by decide)) | omega)) (zwr_r e37 (by first | decide | exact (absurd ·.1 (by decide)) | exact (absurd ·.2 (by decide)) | omega)); have e_8 := u45 3 T ((j + 1 + 1) + 1) a_7; exact ⟨fun z => ⟨(((j + 1 + 1) + 1) + 1), (e_8.1 z).2, by omega, fun p9 w9 s9 w8 => tRe_s (tRe_s (tRe_s (tRe_1 (tMl_l (Or.inr (Or.inl rfl)) yh9 w8)) (tMd_y (Or.inr rfl) rfl (by omega))) (tM32_s (by omega))) (tMs_y (Or.inr (Or.inl ⟨rfl, rfl⟩)) (e_8.1 z).1)⟩, fun z => ⟨((j + 1 + 1) + 1), _, (by have q9 := (e_8.2 z).2; unfold tEp at q9 ⊢; rw [show h36.2 7 = h.2 7 from funext fun i8 => (((((zwr_r e37 (by first | decide | exact (absurd ·.1 (by decide)) | exact (absurd ·.2 (by decide)) | omega)).trans (zwr_r e33 (by first | decide | exact (absurd ·.1 (by decide)) | exact (absurd ·.2 (by decide)) | omega))).trans (zfr_a f31 rfl (by decide))).trans (zwr_r e11 (by first | decide | exact (absurd ·.1 (by decide)) | exact (absurd ·.2 (by decide)) | omega))).trans (zfr_a f8 rfl (by decide))), show h36.2 0 11 = h.2 0 11 from (((((zwr_r e37 (by first | decide | exact (absurd ·.1 (by decide)) | exact (absurd ·.2 (by decide)) | omega)).trans (zwr_r e33 (by first | decide | exact (absurd ·.1 (by decide)) | exact (absurd ·.2 (by decide)) | omega))).trans (zfr_f f31 rfl rfl)).trans (zwr_r e11 (by first | decide | exact (absurd ·.1 (by decide)) | exact (absurd ·.2 (by decide)) | omega))).trans (zfr_f f8 rfl rfl))] at q9; exact q9), fun p9 w9 s9 w8 => tRe_s (tRe_s (tRe_s (tRe_1 (tMl_l (Or.inr (Or.inl rfl)) yh9 w8)) (tMd_y (Or.inr rfl) rfl (by omega))) (tM32_s (by omega))) (tMs_n (Or.inr (Or.inl rfl)) (e_8.2 z).1)⟩⟩)⟩
        · exact absurd c39 (by omega)
      · refine zj_iload_n (zdk ttX11_readDeed 44 rfl rfl) rfl ?_
        refine zj_iconst (zdk ttX11_readDeed 45 rfl rfl) ?_
        refine zj_icmp_ne (t := 78) (zdk ttX11_readDeed 46 rfl rfl) (by decide) (by omega) (by decide) (fun c69 => ?_) (fun c69 => ?_)
        · refine zj_aload_n (zdk ttX11_readDeed 49 rfl rfl) rfl (by decide) ?_
          refine zj_iload_n (zdk ttX11_readDeed 50 rfl rfl) rfl ?_
          refine zj_iconst (zdk ttX11_readDeed 51 rfl rfl) ?_
          refine zj_icmp_ge (t := 88) (zdk ttX11_readDeed 52 rfl rfl) (by decide) (by omega) (by decide) (fun c70 => ?_) (fun c70 => ?_)
          · refine zj_iconst (zdk ttX11_readDeed 55 rfl rfl) ?_
            refine zj_iload_n (zdk ttX11_readDeed 56 rfl rfl) rfl ?_
            refine zj_iconst (zdk ttX11_readDeed 57 rfl rfl) ?_
            refine zj_icmp_ge (t := 103) (zdk ttX11_readDeed 58 rfl rfl) (by decide) (by omega) (by decide) (fun c71 => ?_) (fun c71 => ?_)
            · refine zj_iload_n (zdk ttX11_readDeed 64 rfl rfl) rfl ?_
              refine zj_iconst (zdk ttX11_readDeed 65 rfl rfl) ?_
              refine zj_icmp_ne (t := 113) (zdk ttX11_readDeed 66 rfl rfl) (by decide) (by omega) (by decide) (fun c72 => ?_) (fun c72 => ?_)
              · refine zj_sipush (zdk ttX11_readDeed 69 rfl rfl) (by decide) ?_
                refine zj_callV (av := [.inl 1, .inl 719]) (st := [.inl (p1 + 2), .inr 18]) (zdk ttX11_readDeed 70 rfl rfl) mb_X11_readNumber mv_RX11_248 (ci := 11) rfl rfl (k_M s34) rfl rfl (Nat.le_of_ble_eq_true rfl) (s2_X11_readNumber l h32 1 719 s34 (by omega) (by omega)) (rm_ok (by decide) (by decide)) (zq_i fun v74 h75 q73 => ?_)
                obtain ⟨b76, s77, f80, u78, u79⟩ := q73
                have b81 : -1 ≤ v74 ∧ v74 ≤ 719 := by omega
                refine zj_iast (zdk ttX11_readDeed 71 rfl rfl) (kaM_18 s77) (by decide) (by omega) (fun h82 e83 => ?_)
                refine zj_aload_n (zdk ttX11_readDeed 72 rfl rfl) rfl (by decide) ?_
                have s84 : okM h82 := awM_18 s77 e83 (by omega) (by unfold nsp; omega)
                refine zj_getr (r := 18) (zdk ttX11_readDeed 73 rfl rfl) zf_RX11_65 rfl (k_M s84) (rfM_36 s84) ?_
                refine zj_iload_n (zdk ttX11_readDeed 74 rfl rfl) rfl ?_
                refine zj_iconst (zdk ttX11_readDeed 75 rfl rfl) ?_
                refine zj_iadd (zdk ttX11_readDeed 76 rfl rfl) ?_
                refine zj_iald (v := v74) (zdk ttX11_readDeed 77 rfl rfl) (kaM_18 s84) (by decide) (by omega) (zwr_v e83) ?_
                refine zj_iconst (zdk ttX11_readDeed 78 rfl rfl) ?_
                refine zj_icmp_ne (t := 136) (zdk ttX11_readDeed 79 rfl rfl) (by decide) (by omega) (by decide) (fun c85 => ?_) (fun c85 => ?_)
                · refine zj_aload_n (zdk ttX11_readDeed 82 rfl rfl) rfl (by decide) ?_
                  refine zj_bipush (zdk ttX11_readDeed 83 rfl rfl) (by decide) ?_
                  refine zj_callV (av := [.inl 59]) (st := []) (zdk ttX11_readDeed 84 rfl rfl) mb_X11_readMark mv_RX11_255 (ci := 11) rfl rfl (k_M s84) rfl rfl (Nat.le_of_ble_eq_true rfl) (s2_X11_readMark l h82 59 s84 (by omega)) (rm_ok (by decide) (by decide)) (zq_i fun v87 h88 q86 => ?_)
                  obtain ⟨b89, s90, f92, u91⟩ := q86
                  have f99 : zfr [12, 13, 14, 15, 29, 30] [18] h h3 := zfr_t (zfr_r _ _ _) f8 rfl rfl
                  have f98 : zfr [12, 13, 14, 15, 29, 30] [18] h h10 := zfr_wa f99 e11 rfl
                  have f97 : zfr [12, 13, 14, 15, 29, 30] [18] h h25 := zfr_t f98 f31 rfl rfl
                  have f96 : zfr [12, 13, 14, 15, 29, 30] [18] h h32 := zfr_wa f97 e33 rfl
                  have f95 : zfr [12, 13, 14, 15, 29, 30] [18] h h75 := zfr_t f96 f80 rfl rfl
                  have f94 : zfr [12, 13, 14, 15, 29, 30] [18] h h82 := zfr_wa f95 e83 rfl
                  have f93 : zfr [12, 13, 14, 15, 29, 30] [18] h h88 := zfr_t f94 f92 rfl rfl
                  have b100 : h88.2 18 (p1 + 1) = v15 := ((((zfr_a f92 rfl (by decide)).trans (zwr_r e83 (by first | decide | exact (absurd ·.1 (by decide)) | exact (absurd ·.2 (by decide)) | omega))).trans (zfr_a f80 rfl (by decide))).trans (zwr_v e33))
                  have b101 : h88.2 18 (p1 + 2) = v74 := ((zfr_a f92 rfl (by decide)).trans (zwr_v e83))
                  have b102 : 0 ≤ (h.2 0 14) ∧ (h.2 0 14) ≤ 4 := fM_14 s0
                  have b103 : -2147483648 ≤ (h.2 0 15) ∧ (h.2 0 15) ≤ 2147483647 := fM_15 s0
                  have b104 : 0 ≤ (h3.2 0 14) ∧ (h3.2 0 14) ≤ 4 := fM_14 s5
                  have b105 : -2147483648 ≤ (h3.2 0 15) ∧ (h3.2 0 15) ≤ 2147483647 := fM_15 s5
                  have b106 : h10.2 0 14 = (h3.2 0 14) := (zwr_r e11 (by first | decide | exact (absurd ·.1 (by decide)) | exact (absurd ·.2 (by decide)) | omega))
                  have b107 : h10.2 0 15 = (h3.2 0 15) := (zwr_r e11 (by first | decide | exact (absurd ·.1 (by decide)) | exact (absurd ·.2 (by decide)) | omega))
                  have b108 : 0 ≤ (h25.2 0 14) ∧ (h25.2 0 14) ≤ 4 := fM_14 s27
                  have b109 : -2147483648 ≤ (h25.2 0 15) ∧ (h25.2 0 15) ≤ 2147483647 := fM_15 s27
                  have b110 : h32.2 0 14 = (h25.2 0 14) := (zwr_r e33 (by first | decide | exact (absurd ·.1 (by decide)) | exact (absurd ·.2 (by decide)) | omega))
                  have b111 : h32.2 0 15 = (h25.2 0 15) := (zwr_r e33 (by first | decide | exact (absurd ·.1 (by decide)) | exact (absurd ·.2 (by decide)) | omega))
                  have b112 : 0 ≤ (h75.2 0 14) ∧ (h75.2 0 14) ≤ 4 := fM_14 s77
                  have b113 : -2147483648 ≤ (h75.2 0 15) ∧ (h75.2 0 15) ≤ 2147483647 := fM_15 s77
                  have b114 : h82.2 0 14 = (h75.2 0 14) := (zwr_r e83 (by first | decide | exact (absurd ·.1 (by decide)) | exact (absurd ·.2 (by decide)) | omega))
                  have b115 : h82.2 0 15 = (h75.2 0 15) := (zwr_r e83 (by first | decide | exact (absurd ·.1 (by decide)) | exact (absurd ·.2 (by decide)) | omega))
                  have b116 : 0 ≤ (h88.2 0 14) ∧ (h88.2 0 14) ≤ 4 := fM_14 s90
                  have b117 : -2147483648 ≤ (h88.2 0 15) ∧ (h88.2 0 15) ≤ 2147483647 := fM_15 s90
                  exact zj_iret rfl (zdk ttX11_readDeed 85 rfl rfl) (Nat.le_refl _) (Nat.le_refl _) ⟨v87, rfl, by omega, s90, f93, (fun q => by unfold wfD1; omega), (fun j q => (((((((zfr_a f92 rfl (by decide)).trans (zwr_r e83 (by first | decide | exact (absurd ·.1 (by decide)) | exact (absurd ·.2 (by decide)) | omega))).trans (zfr_a f80 rfl (by decide))).trans (zwr_r e33 (by first | decide | exact (absurd ·.1 (by decide)) | exact (absurd ·.2 (by decide)) | omega))).trans (zfr_a f31 rfl (by decide))).trans (zwr_r e11 (by first | decide | exact (absurd ·.1 (by decide)) | exact (absurd ·.2 (by decide)) | omega))).trans (zfr_a f8 rfl (by decide)))), (by intro T j t0 yh9; have e_1 := u7 3 T j 200 t0 (fun t v q => by have k9 := tT3 q; omega) (by decide); have e_1y := e_1.1 (by omega); have e_1d := e_1y.2.1; have a_2 : tPm 3 T (j + 1 + 1) h10 := tPm_f e_1y.2.2 (fun k => (zwr_r e11 (by first | decide | exact (absurd ·.1 (by decide)) | exact (absurd ·.2 (by decide)) | omega))) (fun k => (zwr_r e11 (by first | decide | exact (absurd ·.1 (by decide)) | exact (absurd ·.2 (by decide)) | omega))) (zwr_r e11 (by first | decide | exact (absurd ·.1 (by decide)) | exact (absurd ·.2 (by decide)) | omega)) (zwr_r e11 (by first | decide | exact (absurd ·.1 (by decide)) | exact (absurd ·.2 (by decide)) | omega)) (zwr_r e11 (by first | decide | exact (absurd ·.1 (by decide)) | exact (absurd ·.2 (by decide)) | omega)) (zwr_r e11 (by first | decide | exact (absurd ·.1 (by decide)) | exact (absurd ·.2 (by decide)) | omega)) (zwr_r e11 (by first | decide | exact (absurd ·.1 (by decide)) | exact (absurd ·.2 (by decide)) | omega)); have k_3 := tT3 a_2.2.2.1; have k_3j := a_2.1.1; have kd8 := tKd_b k_3 b21; clear k_3 b21; have k_4 := tT3 a_2.2.2.1; have k_4j := a_2.1.1; have a_5 : tPm 3 T ((j + 1 + 1) + 1) h25 := tPm_r a_2 (by omega) (u30 a_2.2.2.2.2.2.1 (tPm_l a_2 (by omega))) (fun k => (zfr_a f31 rfl (by decide))) (fun k => (zfr_a f31 rfl (by decide))) (zfr_f f31 rfl rfl); have a_6 : tPm 3 T ((j + 1 + 1) + 1) h32 := tPm_f a_5 (fun k => (zwr_r e33 (by first | decide | exact (absurd ·.1 (by decide)) | exact (absurd ·.2 (by decide)) | omega))) (fun k => (zwr_r e33 (by first | decide | exact (absurd ·.1 (by decide)) | exact (absurd ·.2 (by decide)) | omega))) (zwr_r e33 (by first | decide | exact (absurd ·.1 (by decide)) | exact (absurd ·.2 (by decide)) | omega)) (zwr_r e33 (by first | decide | exact (absurd ·.1 (by decide)) | exact (absurd ·.2 (by decide)) | omega)) (zwr_r e33 (by first | decide | exact (absurd ·.1 (by decide)) | exact (absurd ·.2 (by decide)) | omega)) (zwr_r e33 (by first | decide | exact (absurd ·.1 (by decide)) | exact (absurd ·.2 (by decide)) | omega)) (zwr_r e33 (by first | decide | exact (absurd ·.1 (by decide)) | exact (absurd ·.2 (by decide)) | omega)); have e_7 := u79 3 T ((j + 1 + 1) + 1) a_6; have e_7y := e_7.1 (by omega); have e_7d := e_7y.1; have a_8 : tPm 3 T (((j + 1 + 1) + 1) + 1) h82 := tPm_f e_7y.2 (fun k => (zwr_r e83 (by first | decide | exact (absurd ·.1 (by decide)) | exact (absurd ·.2 (by decide)) | omega))) (fun k => (zwr_r e83 (by first | decide | exact (absurd ·.1 (by decide)) | exact (absurd ·.2 (by decide)) | omega))) (zwr_r e83 (by first | decide | exact (absurd ·.1 (by decide)) | exact (absurd ·.2 (by decide)) | omega)) (zwr_r e83 (by first | decide | exact (absurd ·.1 (by decide)) | exact (absurd ·.2 (by decide)) | omega)) (zwr_r e83 (by first | decide | exact (absurd ·.1 (by decide)) | exact (absurd ·.2 (by decide)) | omega)) (zwr_r e83 (by first | decide | exact (absurd ·.1 (by decide)) | exact (absurd ·.2 (by decide)) | omega)) (zwr_r e83 (by first | decide | exact (absurd ·.1 (by decide)) | exact (absurd ·.2 (by decide)) | omega)); have e_9 := u91 3 T (((j + 1 + 1) + 1) + 1) a_8; exact ⟨fun z => ⟨((((j + 1 + 1) + 1) + 1) + 1), (e_9.1 z).2, by omega, fun p9 w9 s9 w8 => tRe_s (tRe_s (tRe_s (tRe_s (tRe_1 (tMl_l (Or.inr (Or.inl rfl)) yh9 w8)) (tMd_y (Or.inr rfl) rfl (by omega))) (tM32_y (by omega) (by omega))) (tM33_y (lo := 1) (hi := 719) (by first | rw [if_pos (by omega)] | rw [if_neg (by omega)]) (by first | rw [if_pos (by omega)] | rw [if_neg (by omega), if_pos (by omega)] | rw [if_neg (by omega), if_neg (by omega)]) rfl (by omega))) (tMs_y (Or.inr (Or.inl ⟨rfl, rfl⟩)) (e_9.1 z).1)⟩, fun z => ⟨(((j + 1 + 1) + 1) + 1), _, (by have q9 := (e_9.2 z).2; unfold tEp at q9 ⊢; rw [show h82.2 7 = h.2 7 from funext fun i8 => ((((((zwr_r e83 (by first | decide | exact (absurd ·.1 (by decide)) | exact (absurd ·.2 (by decide)) | omega)).trans (zfr_a f80 rfl (by decide))).trans (zwr_r e33 (by first | decide | exact (absurd ·.1 (by decide)) | exact (absurd ·.2 (by decide)) | omega))).trans (zfr_a f31 rfl (by decide))).trans (zwr_r e11 (by first | decide | exact (absurd ·.1 (by decide)) | exact (absurd ·.2 (by decide)) | omega))).trans (zfr_a f8 rfl (by decide))), show h82.2 0 11 = h.2 0 11 from ((((((zwr_r e83 (by first | decide | exact (absurd ·.1 (by decide)) | exact (absurd ·.2 (by decide)) | omega)).trans (zfr_f f80 rfl rfl)).trans (zwr_r e33 (by first | decide | exact (absurd ·.1 (by decide)) | exact (absurd ·.2 (by decide)) | omega))).trans (zfr_f f31 rfl rfl)).trans (zwr_r e11 (by first | decide | exact (absurd ·.1 (by decide)) | exact (absurd ·.2 (by decide)) | omega))).trans (zfr_f f8 rfl rfl))] at q9; exact q9), fun p9 w9 s9 w8 => tRe_s (tRe_s (tRe_s (tRe_s (tRe_1 (tMl_l (Or.inr (Or.inl rfl)) yh9 w8)) (tMd_y (Or.inr rfl) rfl (by omega))) (tM32_y (by omega) (by omega))) (tM33_y (lo := 1) (hi := 719) (by first | rw [if_pos (by omega)] | rw [if_neg (by omega)]) (by first | rw [if_pos (by omega)] | rw [if_neg (by omega), if_pos (by omega)] | rw [if_neg (by omega), if_neg (by omega)]) rfl (by omega))) (tMs_n (Or.inr (Or.inl rfl)) (e_9.2 z).1)⟩⟩)⟩
                · refine zj_iconst (zdk ttX11_readDeed 80 rfl rfl) ?_
                  refine zj_goto (t := 142) (zdk ttX11_readDeed 81 rfl rfl) (by decide) ?_
                  have f123 : zfr [12, 13, 14, 15, 29, 30] [18] h h3 := zfr_t (zfr_r _ _ _) f8 rfl rfl
                  have f122 : zfr [12, 13, 14, 15, 29, 30] [18] h h10 := zfr_wa f123 e11 rfl
                  have f121 : zfr [12, 13, 14, 15, 29, 30] [18] h h25 := zfr_t f122 f31 rfl rfl
                  have f120 : zfr [12, 13, 14, 15, 29, 30] [18] h h32 := zfr_wa f121 e33 rfl
                  have f119 : zfr [12, 13, 14, 15, 29, 30] [18] h h75 := zfr_t f120 f80 rfl rfl
                  have f118 : zfr [12, 13, 14, 15, 29, 30] [18] h h82 := zfr_wa f119 e83 rfl
                  have b124 : 0 ≤ (h.2 0 14) ∧ (h.2 0 14) ≤ 4 := fM_14 s0
                  have b125 : -2147483648 ≤ (h.2 0 15) ∧ (h.2 0 15) ≤ 2147483647 := fM_15 s0
                  have b126 : 0 ≤ (h3.2 0 14) ∧ (h3.2 0 14) ≤ 4 := fM_14 s5
                  have b127 : -2147483648 ≤ (h3.2 0 15) ∧ (h3.2 0 15) ≤ 2147483647 := fM_15 s5
                  have b128 : h10.2 0 14 = (h3.2 0 14) := (zwr_r e11 (by first | decide | exact (absurd ·.1 (by decide)) | exact (absurd ·.2 (by decide)) | omega))
                  have b129 : h10.2 0 15 = (h3.2 0 15) := (zwr_r e11 (by first | decide | exact (absurd ·.1 (by decide)) | exact (absurd ·.2 (by decide)) | omega))
                  have b130 : 0 ≤ (h25.2 0 14) ∧ (h25.2 0 14) ≤ 4 := fM_14 s27
                  have b131 : -2147483648 ≤ (h25.2 0 15) ∧ (h25.2 0 15) ≤ 2147483647 := fM_15 s27
                  have b132 : h32.2 0 14 = (h25.2 0 14) := (zwr_r e33 (by first | decide | exact (absurd ·.1 (by decide)) | exact (absurd ·.2 (by decide)) | omega))
                  have b133 : h32.2 0 15 = (h25.2 0 15) := (zwr_r e33 (by first | decide | exact (absurd ·.1 (by decide)) | exact (absurd ·.2 (by decide)) | omega))
                  have b134 : 0 ≤ (h75.2 0 14) ∧ (h75.2 0 14) ≤ 4 := fM_14 s77
                  have b135 : -2147483648 ≤ (h75.2 0 15) ∧ (h75.2 0 15) ≤ 2147483647 := fM_15 s77
                  have b136 : h82.2 0 14 = (h75.2 0 14) := (zwr_r e83 (by first | decide | exact (absurd ·.1 (by decide)) | exact (absurd ·.2 (by decide)) | omega))
                  have b137 : h82.2 0 15 = (h75.2 0 15) := (zwr_r e83 (by first | decide | exact (absurd ·.1 (by decide)) | exact (absurd ·.2 (by decide)) | omega))
                  exact zj_iret rfl (zdk ttX11_readDeed 85 rfl rfl) (Nat.le_refl _) (Nat.le_refl _) ⟨(-1), rfl, by omega, s84, f118, (fun q => absurd q (by decide)), (fun j q => ((((((zwr_r e83 (by first | decide | exact (absurd ·.1 (by decide)) | exact (absurd ·.2 (by decide)) | omega)).trans (zfr_a f80 rfl (by decide))).trans (zwr_r e33 (by first | decide | exact (absurd ·.1 (by decide)) | exact (absurd ·.2 (by decide)) | omega))).trans (zfr_a f31 rfl (by decide))).trans (zwr_r e11 (by first | decide | exact (absurd ·.1 (by decide)) | exact (absurd ·.2 (by decide)) | omega))).trans (zfr_a f8 rfl (by decide)))), (by intro T j t0 yh9; have e_1 := u7 3 T j 200 t0 (fun t v q => by have k9 := tT3 q; omega) (by decide); have e_1y := e_1.1 (by omega); have e_1d := e_1y.2.1; have a_2 : tPm 3 T (j + 1 + 1) h10 := tPm_f e_1y.2.2 (fun k => (zwr_r e11 (by first | decide | exact (absurd ·.1 (by decide)) | exact (absurd ·.2 (by decide)) | omega))) (fun k => (zwr_r e11 (by first | decide | exact (absurd ·.1 (by decide)) | exact (absurd ·.2 (by decide)) | omega))) (zwr_r e11 (by first | decide | exact (absurd ·.1 (by decide)) | exact (absurd ·.2 (by decide)) | omega)) (zwr_r e11 (by first | decide | exact (absurd ·.1 (by decide)) | exact (absurd ·.2 (by decide)) | omega)) (zwr_r e11 (by first | decide | exact (absurd ·.1 (by decide)) | exact (absurd ·.2 (by decide)) | omega)) (zwr_r e11 (by first | decide | exact (absurd ·.1 (by decide)) | exact (absurd ·.2 (by decide)) | omega)) (zwr_r e11 (by first | decide | exact (absurd ·.1 (by decide)) | exact (absurd ·.2 (by decide)) | omega)); have k_3 := tT3 a_2.2.2.1; have k_3j := a_2.1.1; have kd8 := tKd_b k_3 b21; clear k_3 b21; have k_4 := tT3 a_2.2.2.1; have k_4j := a_2.1.1; have a_5 : tPm 3 T ((j + 1 + 1) + 1) h25 := tPm_r a_2 (by omega) (u30 a_2.2.2.2.2.2.1 (tPm_l a_2 (by omega))) (fun k => (zfr_a f31 rfl (by decide))) (fun k => (zfr_a f31 rfl (by decide))) (zfr_f f31 rfl rfl); have a_6 : tPm 3 T ((j + 1 + 1) + 1) h32 := tPm_f a_5 (fun k => (zwr_r e33 (by first | decide | exact (absurd ·.1 (by decide)) | exact (absurd ·.2 (by decide)) | omega))) (fun k => (zwr_r e33 (by first | decide | exact (absurd ·.1 (by decide)) | exact (absurd ·.2 (by decide)) | omega))) (zwr_r e33 (by first | decide | exact (absurd ·.1 (by decide)) | exact (absurd ·.2 (by decide)) | omega)) (zwr_r e33 (by first | decide | exact (absurd ·.1 (by decide)) | exact (absurd ·.2 (by decide)) | omega)) (zwr_r e33 (by first | decide | exact (absurd ·.1 (by decide)) | exact (absurd ·.2 (by decide)) | omega)) (zwr_r e33 (by first | decide | exact (absurd ·.1 (by decide)) | exact (absurd ·.2 (by decide)) | omega)) (zwr_r e33 (by first | decide | exact (absurd ·.1 (by decide)) | exact (absurd ·.2 (by decide)) | omega)); have e_7 := u79 3 T ((j + 1 + 1) + 1) a_6; have e_7n := e_7.2 (by omega); exact ⟨fun z => absurd z (by omega), fun _ => ⟨((j + 1 + 1) + 1), _, (by have q9 := e_7n.2; unfold tEp at q9 ⊢; rw [show h32.2 7 = h.2 7 from funext fun i8 => ((((zwr_r e33 (by first | decide | exact (absurd ·.1 (by decide)) | exact (absurd ·.2 (by decide)) | omega)).trans (zfr_a f31 rfl (by decide))).trans (zwr_r e11 (by first | decide | exact (absurd ·.1 (by decide)) | exact (absurd ·.2 (by decide)) | omega))).trans (zfr_a f8 rfl (by decide))), show h32.2 0 11 = h.2 0 11 from ((((zwr_r e33 (by first | decide | exact (absurd ·.1 (by decide)) | exact (absurd ·.2 (by decide)) | omega)).trans (zfr_f f31 rfl rfl)).trans (zwr_r e11 (by first | decide | exact (absurd ·.1 (by decide)) | exact (absurd ·.2 (by decide)) | omega))).trans (zfr_f f8 rfl rfl))] at q9; rw [show h82.2 0 29 = h75.2 0 29 from (zwr_r e83 (by first | decide | exact (absurd ·.1 (by decide)) | exact (absurd ·.2 (by decide)) | omega)), show h82.2 0 30 = h75.2 0 30 from (zwr_r e83 (by first | decide | exact (absurd ·.1 (by decide)) | exact (absurd ·.2 (by decide)) | omega))]; exact q9), fun p9 w9 s9 w8 => tRe_s (tRe_s (tRe_s (tRe_1 (tMl_l (Or.inr (Or.inl rfl)) yh9 w8)) (tMd_y (Or.inr rfl) rfl (by omega))) (tM32_y (by omega) (by omega))) (tM33_n (lo := 1) (hi := 719) (by first | rw [if_pos (by omega)] | rw [if_neg (by omega)]) (by first | rw [if_pos (by omega)] | rw [if_neg (by omega), if_pos (by omega)] | rw [if_neg (by omega), if_neg (by omega)]) rfl (by omega) rfl)⟩⟩)⟩
              · refine zj_bipush (zdk ttX11_readDeed 67 rfl rfl) (by decide) ?_
                refine zj_goto (t := 116) (zdk ttX11_readDeed 68 rfl rfl) (by decide) ?_
                refine zj_callV (av := [.inl 1, .inl 99]) (st := [.inl (p1 + 2), .inr 18]) (zdk ttX11_readDeed 70 rfl rfl) mb_X11_readNumber mv_RX11_248 (ci := 11) rfl rfl (k_M s34) rfl rfl (Nat.le_of_ble_eq_true rfl) (s2_X11_readNumber l h32 1 99 s34 (by omega) (by omega)) (rm_ok (by decide) (by decide)) (zq_i fun v139 h140 q138 => ?_)
                obtain ⟨b141, s142, f145, u143, u144⟩ := q138
                have b146 : -1 ≤ v139 ∧ v139 ≤ 99 := by omega
                refine zj_iast (zdk ttX11_readDeed 71 rfl rfl) (kaM_18 s142) (by decide) (by omega) (fun h147 e148 => ?_)
                refine zj_aload_n (zdk ttX11_readDeed 72 rfl rfl) rfl (by decide) ?_
                have s149 : okM h147 := awM_18 s142 e148 (by omega) (by unfold nsp; omega)
                refine zj_getr (r := 18) (zdk ttX11_readDeed 73 rfl rfl) zf_RX11_65 rfl (k_M s149) (rfM_36 s149) ?_
                refine zj_iload_n (zdk ttX11_readDeed 74 rfl rfl) rfl ?_
                refine zj_iconst (zdk ttX11_readDeed 75 rfl rfl) ?_
                refine zj_iadd (zdk ttX11_readDeed 76 rfl rfl) ?_
                refine zj_iald (v := v139) (zdk ttX11_readDeed 77 rfl rfl) (kaM_18 s149) (by decide) (by omega) (zwr_v e148) ?_
                refine zj_iconst (zdk ttX11_readDeed 78 rfl rfl) ?_
                refine zj_icmp_ne (t := 136) (zdk ttX11_readDeed 79 rfl rfl) (by decide) (by omega) (by decide) (fun c150 => ?_) (fun c150 => ?_)
                · refine zj_aload_n (zdk ttX11_readDeed 82 rfl rfl) rfl (by decide) ?_
                  refine zj_bipush (zdk ttX11_readDeed 83 rfl rfl) (by decide) ?_
                  refine zj_callV (av := [.inl 59]) (st := []) (zdk ttX11_readDeed 84 rfl rfl) mb_X11_readMark mv_RX11_255 (ci := 11) rfl rfl (k_M s149) rfl rfl (Nat.le_of_ble_eq_true rfl) (s2_X11_readMark l h147 59 s149 (by omega)) (rm_ok (by decide) (by decide)) (zq_i fun v152 h153 q151 => ?_)
                  obtain ⟨b154, s155, f157, u156⟩ := q151
                  have f164 : zfr [12, 13, 14, 15, 29, 30] [18] h h3 := zfr_t (zfr_r _ _ _) f8 rfl rfl
                  have f163 : zfr [12, 13, 14, 15, 29, 30] [18] h h10 := zfr_wa f164 e11 rfl
                  have f162 : zfr [12, 13, 14, 15, 29, 30] [18] h h25 := zfr_t f163 f31 rfl rfl
                  have f161 : zfr [12, 13, 14, 15, 29, 30] [18] h h32 := zfr_wa f162 e33 rfl
                  have f160 : zfr [12, 13, 14, 15, 29, 30] [18] h h140 := zfr_t f161 f145 rfl rfl
                  have f159 : zfr [12, 13, 14, 15, 29, 30] [18] h h147 := zfr_wa f160 e148 rfl
                  have f158 : zfr [12, 13, 14, 15, 29, 30] [18] h h153 := zfr_t f159 f157 rfl rfl
                  have b165 : h153.2 18 (p1 + 1) = v15 := ((((zfr_a f157 rfl (by decide)).trans (zwr_r e148 (by first | decide | exact (absurd ·.1 (by decide)) | exact (absurd ·.2 (by decide)) | omega))).trans (zfr_a f145 rfl (by decide))).trans (zwr_v e33))
                  have b166 : h153.2 18 (p1 + 2) = v139 := ((zfr_a f157 rfl (by decide)).trans (zwr_v e148))
                  have b167 : 0 ≤ (h.2 0 14) ∧ (h.2 0 14) ≤ 4 := fM_14 s0
                  have b168 : -2147483648 ≤ (h.2 0 15) ∧ (h.2 0 15) ≤ 2147483647 := fM_15 s0
                  have b169 : 0 ≤ (h3.2 0 14) ∧ (h3.2 0 14) ≤ 4 := fM_14 s5
                  have b170 : -2147483648 ≤ (h3.2 0 15) ∧ (h3.2 0 15) ≤ 2147483647 := fM_15 s5
                  have b171 : h10.2 0 14 = (h3.2 0 14) := (zwr_r e11 (by first | decide | exact (absurd ·.1 (by decide)) | exact (absurd ·.2 (by decide)) | omega))
                  have b172 : h10.2 0 15 = (h3.2 0 15) := (zwr_r e11 (by first | decide | exact (absurd ·.1 (by decide)) | exact (absurd ·.2 (by decide)) | omega))
                  have b173 : 0 ≤ (h25.2 0 14) ∧ (h25.2 0 14) ≤ 4 := fM_14 s27
                  have b174 : -2147483648 ≤ (h25.2 0 15) ∧ (h25.2 0 15) ≤ 2147483647 := fM_15 s27
                  have b175 : h32.2 0 14 = (h25.2 0 14) := (zwr_r e33 (by first | decide | exact (absurd ·.1 (by decide)) | exact (absurd ·.2 (by decide)) | omega))
                  have b176 : h32.2 0 15 = (h25.2 0 15) := (zwr_r e33 (by first | decide | exact (absurd ·.1 (by decide)) | exact (absurd ·.2 (by decide)) | omega))
                  have b177 : 0 ≤ (h140.2 0 14) ∧ (h140.2 0 14) ≤ 4 := fM_14 s142
                  have b178 : -2147483648 ≤ (h140.2 0 15) ∧ (h140.2 0 15) ≤ 2147483647 := fM_15 s142
                  have b179 : h147.2 0 14 = (h140.2 0 14) := (zwr_r e148 (by first | decide | exact (absurd ·.1 (by decide)) | exact (absurd ·.2 (by decide)) | omega))
                  have b180 : h147.2 0 15 = (h140.2 0 15) := (zwr_r e148 (by first | decide | exact (absurd ·.1 (by decide)) | exact (absurd ·.2 (by decide)) | omega))
                  have b181 : 0 ≤ (h153.2 0 14) ∧ (h153.2 0 14) ≤ 4 := fM_14 s155
                  have b182 : -2147483648 ≤ (h153.2 0 15) ∧ (h153.2 0 15) ≤ 2147483647 := fM_15 s155
                  exact zj_iret rfl (zdk ttX11_readDeed 85 rfl rfl) (Nat.le_refl _) (Nat.le_refl _) ⟨v152, rfl, by omega, s155, f158, (fun q => by unfold wfD1; omega), (fun j q => (((((((zfr_a f157 rfl (by decide)).trans (zwr_r e148 (by first | decide | exact (absurd ·.1 (by decide)) | exact (absurd ·.2 (by decide)) | omega))).trans (zfr_a f145 rfl (by decide))).trans (zwr_r e33 (by first | decide | exact (absurd ·.1 (by decide)) | exact (absurd ·.2 (by decide)) | omega))).trans (zfr_a f31 rfl (by decide))).trans (zwr_r e11 (by first | decide | exact (absurd ·.1 (by decide)) | exact (absurd ·.2 (by decide)) | omega))).trans (zfr_a f8 rfl (by decide)))), (by intro T j t0 yh9; have e_1 := u7 3 T j 200 t0 (fun t v q => by have k9 := tT3 q; omega) (by decide); have e_1y := e_1.1 (by omega); have e_1d := e_1y.2.1; have a_2 : tPm 3 T (j + 1 + 1) h10 := tPm_f e_1y.2.2 (fun k => (zwr_r e11 (by first | decide | exact (absurd ·.1 (by decide)) | exact (absurd ·.2 (by decide)) | omega))) (fun k => (zwr_r e11 (by first | decide | exact (absurd ·.1 (by decide)) | exact (absurd ·.2 (by decide)) | omega))) (zwr_r e11 (by first | decide | exact (absurd ·.1 (by decide)) | exact (absurd ·.2 (by decide)) | omega)) (zwr_r e11 (by first | decide | exact (absurd ·.1 (by decide)) | exact (absurd ·.2 (by decide)) | omega)) (zwr_r e11 (by first | decide | exact (absurd ·.1 (by decide)) | exact (absurd ·.2 (by decide)) | omega)) (zwr_r e11 (by first | decide | exact (absurd ·.1 (by decide)) | exact (absurd ·.2 (by decide)) | omega)) (zwr_r e11 (by first | decide | exact (absurd ·.1 (by decide)) | exact (absurd ·.2 (by decide)) | omega)); have k_3 := tT3 a_2.2.2.1; have k_3j := a_2.1.1; have kd8 := tKd_b k_3 b21; clear k_3 b21; have k_4 := tT3 a_2.2.2.1; have k_4j := a_2.1.1; have a_5 : tPm 3 T ((j + 1 + 1) + 1) h25 := tPm_r a_2 (by omega) (u30 a_2.2.2.2.2.2.1 (tPm_l a_2 (by omega))) (fun k => (zfr_a f31 rfl (by decide))) (fun k => (zfr_a f31 rfl (by decide))) (zfr_f f31 rfl rfl); have a_6 : tPm 3 T ((j + 1 + 1) + 1) h32 := tPm_f a_5 (fun k => (zwr_r e33 (by first | decide | exact (absurd ·.1 (by decide)) | exact (absurd ·.2 (by decide)) | omega))) (fun k => (zwr_r e33 (by first | decide | exact (absurd ·.1 (by decide)) | exact (absurd ·.2 (by decide)) | omega))) (zwr_r e33 (by first | decide | exact (absurd ·.1 (by decide)) | exact (absurd ·.2 (by decide)) | omega)) (zwr_r e33 (by first | decide | exact (absurd ·.1 (by decide)) | exact (absurd ·.2 (by decide)) | omega)) (zwr_r e33 (by first | decide | exact (absurd ·.1 (by decide)) | exact (absurd ·.2 (by decide)) | omega)) (zwr_r e33 (by first | decide | exact (absurd ·.1 (by decide)) | exact (absurd ·.2 (by decide)) | omega)) (zwr_r e33 (by first | decide | exact (absurd ·.1 (by decide)) | exact (absurd ·.2 (by decide)) | omega)); have e_7 := u144 3 T ((j + 1 + 1) + 1) a_6; have e_7y := e_7.1 (by omega); have e_7d := e_7y.1; have a_8 : tPm 3 T (((j + 1 + 1) + 1) + 1) h147 := tPm_f e_7y.2 (fun k => (zwr_r e148 (by first | decide | exact (absurd ·.1 (by decide)) | exact (absurd ·.2 (by decide)) | omega))) (fun k => (zwr_r e148 (by first | decide | exact (absurd ·.1 (by decide)) | exact (absurd ·.2 (by decide)) | omega))) (zwr_r e148 (by first | decide | exact (absurd ·.1 (by decide)) | exact (absurd ·.2 (by decide)) | omega)) (zwr_r e148 (by first | decide | exact (absurd ·.1 (by decide)) | exact (absurd ·.2 (by decide)) | omega)) (zwr_r e148 (by first | decide | exact (absurd ·.1 (by decide)) | exact (absurd ·.2 (by decide)) | omega)) (zwr_r e148 (by first | decide | exact (absurd ·.1 (by decide)) | exact (absurd ·.2 (by decide)) | omega)) (zwr_r e148 (by first | decide | exact (absurd ·.1 (by decide)) | exact (absurd ·.2 (by decide)) | omega)); have e_9 := u156 3 T (((j + 1 + 1) + 1) + 1) a_8; exact ⟨fun z => ⟨((((j + 1 + 1) + 1) + 1) + 1), (e_9.1 z).2, by omega, fun p9 w9 s9 w8 => tRe_s (tRe_s (tRe_s (tRe_s (tRe_1 (tMl_l (Or.inr (Or.inl rfl)) yh9 w8)) (tMd_y (Or.inr rfl) rfl (by omega))) (tM32_y (by omega) (by omega))) (tM33_y (lo := 1) (hi := 99) (by first | rw [if_pos (by omega)] | rw [if_neg (by omega)]) (by first | rw [if_pos (by omega)] | rw [if_neg (by omega), if_pos (by omega)] | rw [if_neg (by omega), if_neg (by omega)]) rfl (by omega))) (tMs_y (Or.inr (Or.inl ⟨rfl, rfl⟩)) (e_9.1 z).1)⟩, fun z => ⟨(((j + 1 + 1) + 1) + 1), _, (by have q9 := (e_9.2 z).2; unfold tEp at q9 ⊢; rw [show h147.2 7 = h.2 7 from funext fun i8 => ((((((zwr_r e148 (by first | decide | exact (absurd ·.1 (by decide)) | exact (absurd ·.2 (by decide)) | omega)).trans (zfr_a f145 rfl (by decide))).trans (zwr_r e33 (by first | decide | exact (absurd ·.1 (by decide)) | exact (absurd ·.2 (by decide)) | omega))).trans (zfr_a f31 rfl (by decide))).trans (zwr_r e11 (by first | decide | exact (absurd ·.1 (by decide)) | exact (absurd ·.2 (by decide)) | omega))).trans (zfr_a f8 rfl (by decide))), show h147.2 0 11 = h.2 0 11 from ((((((zwr_r e148 (by first | decide | exact (absurd ·.1 (by decide)) | exact (absurd ·.2 (by decide)) | omega)).trans (zfr_f f145 rfl rfl)).trans (zwr_r e33 (by first | decide | exact (absurd ·.1 (by decide)) | exact (absurd ·.2 (by decide)) | omega))).trans (zfr_f f31 rfl rfl)).trans (zwr_r e11 (by first | decide | exact (absurd ·.1 (by decide)) | exact (absurd ·.2 (by decide)) | omega))).trans (zfr_f f8 rfl rfl))] at q9; exact q9), fun p9 w9 s9 w8 => tRe_s (tRe_s (tRe_s (tRe_s (tRe_1 (tMl_l (Or.inr (Or.inl rfl)) yh9 w8)) (tMd_y (Or.inr rfl) rfl (by omega))) (tM32_y (by omega) (by omega))) (tM33_y (lo := 1) (hi := 99) (by first | rw [if_pos (by omega)] | rw [if_neg (by omega)]) (by first | rw [if_pos (by omega)] | rw [if_neg (by omega), if_pos (by omega)] | rw [if_neg (by omega), if_neg (by omega)]) rfl (by omega))) (tMs_n (Or.inr (Or.inl rfl)) (e_9.2 z).1)⟩⟩)⟩
                · refine zj_iconst (zdk ttX11_readDeed 80 rfl rfl) ?_
                  refine zj_goto (t := 142) (zdk ttX11_readDeed 81 rfl rfl) (by decide) ?_
                  have f188 : zfr [12, 13, 14, 15, 29, 30] [18] h h3 := zfr_t (zfr_r _ _ _) f8 rfl rfl
                  have f187 : zfr [12, 13, 14, 15, 29, 30] [18] h h10 := zfr_wa f188 e11 rfl
                  have f186 : zfr [12, 13, 14, 15, 29, 30] [18] h h25 := zfr_t f187 f31 rfl rfl
                  have f185 : zfr [12, 13, 14, 15, 29, 30] [18] h h32 := zfr_wa f186 e33 rfl
                  have f184 : zfr [12, 13, 14, 15, 29, 30] [18] h h140 := zfr_t f185 f145 rfl rfl
                  have f183 : zfr [12, 13, 14, 15, 29, 30] [18] h h147 := zfr_wa f184 e148 rfl
                  have b189 : 0 ≤ (h.2 0 14) ∧ (h.2 0 14) ≤ 4 := fM_14 s0
                  have b190 : -2147483648 ≤ (h.2 0 15) ∧ (h.2 0 15) ≤ 2147483647 := fM_15 s0
                  have b191 : 0 ≤ (h3.2 0 14) ∧ (h3.2 0 14) ≤ 4 := fM_14 s5
                  have b192 : -2147483648 ≤ (h3.2 0 15) ∧ (h3.2 0 15) ≤ 2147483647 := fM_15 s5
                  have b193 : h10.2 0 14 = (h3.2 0 14) := (zwr_r e11 (by first | decide | exact (absurd ·.1 (by decide)) | exact (absurd ·.2 (by decide)) | omega))
                  have b194 : h10.2 0 15 = (h3.2 0 15) := (zwr_r e11 (by first | decide | exact (absurd ·.1 (by decide)) | exact (absurd ·.2 (by decide)) | omega))
                  have b195 : 0 ≤ (h25.2 0 14) ∧ (h25.2 0 14) ≤ 4 := fM_14 s27
                  have b196 : -2147483648 ≤ (h25.2 0 15) ∧ (h25.2 0 15) ≤ 2147483647 := fM_15 s27
                  have b197 : h32.2 0 14 = (h25.2 0 14) := (zwr_r e33 (by first | decide | exact (absurd ·.1 (by decide)) | exact (absurd ·.2 (by decide)) | omega))
                  have b198 : h32.2 0 15 = (h25.2 0 15) := (zwr_r e33 (by first | decide | exact (absurd ·.1 (by decide)) | exact (absurd ·.2 (by decide)) | omega))
                  have b199 : 0 ≤ (h140.2 0 14) ∧ (h140.2 0 14) ≤ 4 := fM_14 s142
                  have b200 : -2147483648 ≤ (h140.2 0 15) ∧ (h140.2 0 15) ≤ 2147483647 := fM_15 s142
                  have b201 : h147.2 0 14 = (h140.2 0 14) := (zwr_r e148 (by first | decide | exact (absurd ·.1 (by decide)) | exact (absurd ·.2 (by decide)) | omega))
                  have b202 : h147.2 0 15 = (h140.2 0 15) := (zwr_r e148 (by first | decide | exact (absurd ·.1 (by decide)) | exact (absurd ·.2 (by decide)) | omega))
                  exact zj_iret rfl (zdk ttX11_readDeed 85 rfl rfl) (Nat.le_refl _) (Nat.le_refl _) ⟨(-1), rfl, by omega, s149, f183, (fun q => absurd q (by decide)), (fun j q => ((((((zwr_r e148 (by first | decide | exact (absurd ·.1 (by decide)) | exact (absurd ·.2 (by decide)) | omega)).trans (zfr_a f145 rfl (by decide))).trans (zwr_r e33 (by first | decide | exact (absurd ·.1 (by decide)) | exact (absurd ·.2 (by decide)) | omega))).trans (zfr_a f31 rfl (by decide))).trans (zwr_r e11 (by first | decide | exact (absurd ·.1 (by decide)) | exact (absurd ·.2 (by decide)) | omega))).trans (zfr_a f8 rfl (by decide)))), (by intro T j t0 yh9; have e_1 := u7 3 T j 200 t0 (fun t v q => by have k9 := tT3 q; omega) (by decide); have e_1y := e_1.1 (by omega); have e_1d := e_1y.2.1; have a_2 : tPm 3 T (j + 1 + 1) h10 := tPm_f e_1y.2.2 (fun k => (zwr_r e11 (by first | decide | exact (absurd ·.1 (by decide)) | exact (absurd ·.2 (by decide)) | omega))) (fun k => (zwr_r e11 (by first | decide | exact (absurd ·.1 (by decide)) | exact (absurd ·.2 (by decide)) | omega))) (zwr_r e11 (by first | decide | exact (absurd ·.1 (by decide)) | exact (absurd ·.2 (by decide)) | omega)) (zwr_r e11 (by first | decide | exact (absurd ·.1 (by decide)) | exact (absurd ·.2 (by decide)) | omega)) (zwr_r e11 (by first | decide | exact (absurd ·.1 (by decide)) | exact (absurd ·.2 (by decide)) | omega)) (zwr_r e11 (by first | decide | exact (absurd ·.1 (by decide)) | exact (absurd ·.2 (by decide)) | omega)) (zwr_r e11 (by first | decide | exact (absurd ·.1 (by decide)) | exact (absurd ·.2 (by decide)) | omega)); have k_3 := tT3 a_2.2.2.1; have k_3j := a_2.1.1; have kd8 := tKd_b k_3 b21; clear k_3 b21; have k_4 := tT3 a_2.2.2.1; have k_4j := a_2.1.1; have a_5 : tPm 3 T ((j + 1 + 1) + 1) h25 := tPm_r a_2 (by omega) (u30 a_2.2.2.2.2.2.1 (tPm_l a_2 (by omega))) (fun k => (zfr_a f31 rfl (by decide))) (fun k => (zfr_a f31 rfl (by decide))) (zfr_f f31 rfl rfl); have a_6 : tPm 3 T ((j + 1 + 1) + 1) h32 := tPm_f a_5 (fun k => (zwr_r e33 (by first | decide | exact (absurd ·.1 (by decide)) | exact (absurd ·.2 (by decide)) | omega))) (fun k => (zwr_r e33 (by first | decide | exact (absurd ·.1 (by decide)) | exact (absurd ·.2 (by decide)) | omega))) (zwr_r e33 (by first | decide | exact (absurd ·.1 (by decide)) | exact (absurd ·.2 (by decide)) | omega)) (zwr_r e33 (by first | decide | exact (absurd ·.1 (by decide)) | exact (absurd ·.2 (by decide)) | omega)) (zwr_r e33 (by first | decide | exact (absurd ·.1 (by decide)) | exact (absurd ·.2 (by decide)) | omega)) (zwr_r e33 (by first | decide | exact (absurd ·.1 (by decide)) | exact (absurd ·.2 (by decide)) | omega)) (zwr_r e33 (by first | decide | exact (absurd ·.1 (by decide)) | exact (absurd ·.2 (by decide)) | omega)); have e_7 := u144 3 T ((j + 1 + 1) + 1) a_6; have e_7n := e_7.2 (by omega); exact ⟨fun z => absurd z (by omega), fun _ => ⟨((j + 1 + 1) + 1), _, (by have q9 := e_7n.2; unfold tEp at q9 ⊢; rw [show h32.2 7 = h.2 7 from funext fun i8 => ((((zwr_r e33 (by first | decide | exact (absurd ·.1 (by decide)) | exact (absurd ·.2 (by decide)) | omega)).trans (zfr_a f31 rfl (by decide))).trans (zwr_r e11 (by first | decide | exact (absurd ·.1 (by decide)) | exact (absurd ·.2 (by decide)) | omega))).trans (zfr_a f8 rfl (by decide))), show h32.2 0 11 = h.2 0 11 from ((((zwr_r e33 (by first | decide | exact (absurd ·.1 (by decide)) | exact (absurd ·.2 (by decide)) | omega)).trans (zfr_f f31 rfl rfl)).trans (zwr_r e11 (by first | decide | exact (absurd ·.1 (by decide)) | exact (absurd ·.2 (by decide)) | omega))).trans (zfr_f f8 rfl rfl))] at q9; rw [show h147.2 0 29 = h140.2 0 29 from (zwr_r e148 (by first | decide | exact (absurd ·.1 (by decide)) | exact (absurd ·.2 (by decide)) | omega)), show h147.2 0 30 = h140.2 0 30 from (zwr_r e148 (by first | decide | exact (absurd ·.1 (by decide)) | exact (absurd ·.2 (by decide)) | omega))]; exact q9), fun p9 w9 s9 w8 => tRe_s (tRe_s (tRe_s (tRe_1 (tMl_l (Or.inr (Or.inl rfl)) yh9 w8)) (tMd_y (Or.inr rfl) rfl (by omega))) (tM32_y (by omega) (by omega))) (tM33_n (lo := 1) (hi := 99) (by first | rw [if_pos (by omega)] | rw [if_neg (by omega)]) (by first | rw [if_pos (by omega)] | rw [if_neg (by omega), if_pos (by omega)] | rw [if_neg (by omega), if_neg (by omega)]) rfl (by omega) rfl)⟩⟩)⟩
            · exact absurd c71 (by omega)
          · refine zj_iconst (zdk ttX11_readDeed 53 rfl rfl) ?_
            refine zj_goto (t := 89) (zdk ttX11_readDeed 54 rfl rfl) (by decide) ?_
            refine zj_iload_n (zdk ttX11_readDeed 56 rfl rfl) rfl ?_
            refine zj_iconst (zdk ttX11_readDeed 57 rfl rfl) ?_
            refine zj_icmp_ge (t := 103) (zdk ttX11_readDeed 58 rfl rfl) (by decide) (by omega) (by decide) (fun c203 => ?_) (fun c203 => ?_)
            · exact absurd c203 (by omega)
            · refine zj_aload_n (zdk ttX11_readDeed 59 rfl rfl) rfl (by decide) ?_
              have b204 : 0 ≤ (h.2 0 6) ∧ (h.2 0 6) ≤ 18 := fM_6 s0
              refine zj_geti (v := (h.2 0 6)) (zdk ttX11_readDeed 60 rfl rfl) zf_RX11_132 rfl (k_M s34) ((((zwr_r e33 (by first | decide | exact (absurd ·.1 (by decide)) | exact (absurd ·.2 (by decide)) | omega)).trans (zfr_f f31 rfl rfl)).trans (zwr_r e11 (by first | decide | exact (absurd ·.1 (by decide)) | exact (absurd ·.2 (by decide)) | omega))).trans (zfr_f f8 rfl rfl)) ?_
              refine zj_iconst (zdk ttX11_readDeed 61 rfl rfl) ?_
              refine zj_isub (zdk ttX11_readDeed 62 rfl rfl) ?_
              refine zj_goto (t := 116) (zdk ttX11_readDeed 63 rfl rfl) (by decide) ?_
              refine zj_callV (av := [.inl 0, .inl ((h.2 0 6) - 1)]) (st := [.inl (p1 + 2), .inr 18]) (zdk ttX11_readDeed 70 rfl rfl) mb_X11_readNumber mv_RX11_248 (ci := 11) rfl rfl (k_M s34) rfl rfl (Nat.le_of_ble_eq_true rfl) (s2_X11_readNumber l h32 0 ((h.2 0 6) - 1) s34 (by omega) (by omega)) (rm_ok (by decide) (by decide)) (zq_i fun v206 h207 q205 => ?_)
              obtain ⟨b208, s209, f212, u210, u211⟩ := q205
              have b213 : -1 ≤ v206 ∧ v206 ≤ 17 := by omega
              refine zj_iast (zdk ttX11_readDeed 71 rfl rfl) (kaM_18 s209) (by decide) (by omega) (fun h214 e215 => ?_)
              refine zj_aload_n (zdk ttX11_readDeed 72 rfl rfl) rfl (by decide) ?_
              have s216 : okM h214 := awM_18 s209 e215 (by omega) (by unfold nsp; omega)
              refine zj_getr (r := 18) (zdk ttX11_readDeed 73 rfl rfl) zf_RX11_65 rfl (k_M s216) (rfM_36 s216) ?_
              refine zj_iload_n (zdk ttX11_readDeed 74 rfl rfl) rfl ?_
              refine zj_iconst (zdk ttX11_readDeed 75 rfl rfl) ?_
              refine zj_iadd (zdk ttX11_readDeed 76 rfl rfl) ?_
              refine zj_iald (v := v206) (zdk ttX11_readDeed 77 rfl rfl) (kaM_18 s216) (by decide) (by omega) (zwr_v e215) ?_
              refine zj_iconst (zdk ttX11_readDeed 78 rfl rfl) ?_
              refine zj_icmp_ne (t := 136) (zdk ttX11_readDeed 79 rfl rfl) (by decide) (by omega) (by decide) (fun c217 => ?_) (fun c217 => ?_)
              · refine zj_aload_n (zdk ttX11_readDeed 82 rfl rfl) rfl (by decide) ?_
                refine zj_bipush (zdk ttX11_readDeed 83 rfl rfl) (by decide) ?_
                refine zj_callV (av := [.inl 59]) (st := []) (zdk ttX11_readDeed 84 rfl rfl) mb_X11_readMark mv_RX11_255 (ci := 11) rfl rfl (k_M s216) rfl rfl (Nat.le_of_ble_eq_true rfl) (s2_X11_readMark l h214 59 s216 (by omega)) (rm_ok (by decide) (by decide)) (zq_i fun v219 h220 q218 => ?_)
                obtain ⟨b221, s222, f224, u223⟩ := q218
                have f231 : zfr [12, 13, 14, 15, 29, 30] [18] h h3 := zfr_t (zfr_r _ _ _) f8 rfl rfl
                have f230 : zfr [12, 13, 14, 15, 29, 30] [18] h h10 := zfr_wa f231 e11 rfl
                have f229 : zfr [12, 13, 14, 15, 29, 30] [18] h h25 := zfr_t f230 f31 rfl rfl
                have f228 : zfr [12, 13, 14, 15, 29, 30] [18] h h32 := zfr_wa f229 e33 rfl
                have f227 : zfr [12, 13, 14, 15, 29, 30] [18] h h207 := zfr_t f228 f212 rfl rfl
                have f226 : zfr [12, 13, 14, 15, 29, 30] [18] h h214 := zfr_wa f227 e215 rfl
                have f225 : zfr [12, 13, 14, 15, 29, 30] [18] h h220 := zfr_t f226 f224 rfl rfl
                have b232 : h220.2 18 (p1 + 1) = v15 := ((((zfr_a f224 rfl (by decide)).trans (zwr_r e215 (by first | decide | exact (absurd ·.1 (by decide)) | exact (absurd ·.2 (by decide)) | omega))).trans (zfr_a f212 rfl (by decide))).trans (zwr_v e33))
                have b233 : h220.2 18 (p1 + 2) = v206 := ((zfr_a f224 rfl (by decide)).trans (zwr_v e215))
                have b234 : 0 ≤ (h.2 0 14) ∧ (h.2 0 14) ≤ 4 := fM_14 s0
                have b235 : -2147483648 ≤ (h.2 0 15) ∧ (h.2 0 15) ≤ 2147483647 := fM_15 s0
                have b236 : 0 ≤ (h3.2 0 14) ∧ (h3.2 0 14) ≤ 4 := fM_14 s5
                have b237 : -2147483648 ≤ (h3.2 0 15) ∧ (h3.2 0 15) ≤ 2147483647 := fM_15 s5
                have b238 : h10.2 0 14 = (h3.2 0 14) := (zwr_r e11 (by first | decide | exact (absurd ·.1 (by decide)) | exact (absurd ·.2 (by decide)) | omega))
                have b239 : h10.2 0 15 = (h3.2 0 15) := (zwr_r e11 (by first | decide | exact (absurd ·.1 (by decide)) | exact (absurd ·.2 (by decide)) | omega))
                have b240 : 0 ≤ (h25.2 0 14) ∧ (h25.2 0 14) ≤ 4 := fM_14 s27
                have b241 : -2147483648 ≤ (h25.2 0 15) ∧ (h25.2 0 15) ≤ 2147483647 := fM_15 s27
                have b242 : h32.2 0 14 = (h25.2 0 14) := (zwr_r e33 (by first | decide | exact (absurd ·.1 (by decide)) | exact (absurd ·.2 (by decide)) | omega))
                have b243 : h32.2 0 15 = (h25.2 0 15) := (zwr_r e33 (by first | decide | exact (absurd ·.1 (by decide)) | exact (absurd ·.2 (by decide)) | omega))
                have b244 : 0 ≤ (h207.2 0 14) ∧ (h207.2 0 14) ≤ 4 := fM_14 s209
                have b245 : -2147483648 ≤ (h207.2 0 15) ∧ (h207.2 0 15) ≤ 2147483647 := fM_15 s209
                have b246 : h214.2 0 14 = (h207.2 0 14) := (zwr_r e215 (by first | decide | exact (absurd ·.1 (by decide)) | exact (absurd ·.2 (by decide)) | omega))
                have b247 : h214.2 0 15 = (h207.2 0 15) := (zwr_r e215 (by first | decide | exact (absurd ·.1 (by decide)) | exact (absurd ·.2 (by decide)) | omega))
                have b248 : 0 ≤ (h220.2 0 14) ∧ (h220.2 0 14) ≤ 4 := fM_14 s222
                have b249 : -2147483648 ≤ (h220.2 0 15) ∧ (h220.2 0 15) ≤ 2147483647 := fM_15 s222
                exact zj_iret rfl (zdk ttX11_readDeed 85 rfl rfl) (Nat.le_refl _) (Nat.le_refl _) ⟨v219, rfl, by omega, s222, f225, (fun q => by unfold wfD1; omega), (fun j q => (((((((zfr_a f224 rfl (by decide)).trans (zwr_r e215 (by first | decide | exact (absurd ·.1 (by decide)) | exact (absurd ·.2 (by decide)) | omega))).trans (zfr_a f212 rfl (by decide))).trans (zwr_r e33 (by first | decide | exact (absurd ·.1 (by decide)) | exact (absurd ·.2 (by decide)) | omega))).trans (zfr_a f31 rfl (by decide))).trans (zwr_r e11 (by first | decide | exact (absurd ·.1 (by decide)) | exact (absurd ·.2 (by decide)) | omega))).trans (zfr_a f8 rfl (by decide)))), (by intro T j t0 yh9; have e_1 := u7 3 T j 200 t0 (fun t v q => by have k9 := tT3 q; omega) (by decide); have e_1y := e_1.1 (by omega); have e_1d := e_1y.2.1; have a_2 : tPm 3 T (j + 1 + 1) h10 := tPm_f e_1y.2.2 (fun k => (zwr_r e11 (by first | decide | exact (absurd ·.1 (by decide)) | exact (absurd ·.2 (by decide)) | omega))) (fun k => (zwr_r e11 (by first | decide | exact (absurd ·.1 (by decide)) | exact (absurd ·.2 (by decide)) | omega))) (zwr_r e11 (by first | decide | exact (absurd ·.1 (by decide)) | exact (absurd ·.2 (by decide)) | omega)) (zwr_r e11 (by first | decide | exact (absurd ·.1 (by decide)) | exact (absurd ·.2 (by decide)) | omega)) (zwr_r e11 (by first | decide | exact (absurd ·.1 (by decide)) | exact (absurd ·.2 (by decide)) | omega)) (zwr_r e11 (by first | decide | exact (absurd ·.1 (by decide)) | exact (absurd ·.2 (by decide)) | omega)) (zwr_r e11 (by first | decide | exact (absurd ·.1 (by decide)) | exact (absurd ·.2 (by decide)) | omega)); have k_3 := tT3 a_2.2.2.1; have k_3j := a_2.1.1; have kd8 := tKd_b k_3 b21; clear k_3 b21; have k_4 := tT3 a_2.2.2.1; have k_4j := a_2.1.1; have a_5 : tPm 3 T ((j + 1 + 1) + 1) h25 := tPm_r a_2 (by omega) (u30 a_2.2.2.2.2.2.1 (tPm_l a_2 (by omega))) (fun k => (zfr_a f31 rfl (by decide))) (fun k => (zfr_a f31 rfl (by decide))) (zfr_f f31 rfl rfl); have a_6 : tPm 3 T ((j + 1 + 1) + 1) h32 := tPm_f a_5 (fun k => (zwr_r e33 (by first | decide | exact (absurd ·.1 (by decide)) | exact (absurd ·.2 (by decide)) | omega))) (fun k => (zwr_r e33 (by first | decide | exact (absurd ·.1 (by decide)) | exact (absurd ·.2 (by decide)) | omega))) (zwr_r e33 (by first | decide | exact (absurd ·.1 (by decide)) | exact (absurd ·.2 (by decide)) | omega)) (zwr_r e33 (by first | decide | exact (absurd ·.1 (by decide)) | exact (absurd ·.2 (by decide)) | omega)) (zwr_r e33 (by first | decide | exact (absurd ·.1 (by decide)) | exact (absurd ·.2 (by decide)) | omega)) (zwr_r e33 (by first | decide | exact (absurd ·.1 (by decide)) | exact (absurd ·.2 (by decide)) | omega)) (zwr_r e33 (by first | decide | exact (absurd ·.1 (by decide)) | exact (absurd ·.2 (by decide)) | omega)); have e_7 := u211 3 T ((j + 1 + 1) + 1) a_6; have e_7y := e_7.1 (by omega); have e_7d := e_7y.1; have a_8 : tPm 3 T (((j + 1 + 1) + 1) + 1) h214 := tPm_f e_7y.2 (fun k => (zwr_r e215 (by first | decide | exact (absurd ·.1 (by decide)) | exact (absurd ·.2 (by decide)) | omega))) (fun k => (zwr_r e215 (by first | decide | exact (absurd ·.1 (by decide)) | exact (absurd ·.2 (by decide)) | omega))) (zwr_r e215 (by first | decide | exact (absurd ·.1 (by decide)) | exact (absurd ·.2 (by decide)) | omega)) (zwr_r e215 (by first | decide | exact (absurd ·.1 (by decide)) | exact (absurd ·.2 (by decide)) | omega)) (zwr_r e215 (by first | decide | exact (absurd ·.1 (by decide)) | exact (absurd ·.2 (by decide)) | omega)) (zwr_r e215 (by first | decide | exact (absurd ·.1 (by decide)) | exact (absurd ·.2 (by decide)) | omega)) (zwr_r e215 (by first | decide | exact (absurd ·.1 (by decide)) | exact (absurd ·.2 (by decide)) | omega)); have e_9 := u223 3 T (((j + 1 + 1) + 1) + 1) a_8; exact ⟨fun z => ⟨((((j + 1 + 1) + 1) + 1) + 1), (e_9.1 z).2, by omega, fun p9 w9 s9 w8 => tRe_s (tRe_s (tRe_s (tRe_s (tRe_1 (tMl_l (Or.inr (Or.inl rfl)) yh9 w8)) (tMd_y (Or.inr rfl) rfl (by omega))) (tM32_y (by omega) (by omega))) (tM33_y (lo := 0) (hi := ((h.2 0 6) - 1)) (by first | rw [if_pos (by omega)] | rw [if_neg (by omega)]) (by first | rw [if_pos (by omega)] | rw [if_neg (by omega), if_pos (by omega)] | rw [if_neg (by omega), if_neg (by omega)]) rfl (by omega))) (tMs_y (Or.inr (Or.inl ⟨rfl, rfl⟩)) (e_9.1 z).1)⟩, fun z => ⟨(((j + 1 + 1) + 1) + 1), _, (by have q9 := (e_9.2 z).2; unfold tEp at q9 ⊢; rw [show h214.2 7 = h.2 7 from funext fun i8 => ((((((zwr_r e215 (by first | decide | exact (absurd ·.1 (by decide)) | exact (absurd ·.2 (by decide)) | omega)).trans (zfr_a f212 rfl (by decide))).trans (zwr_r e33 (by first | decide | exact (absurd ·.1 (by decide)) | exact (absurd ·.2 (by decide)) | omega))).trans (zfr_a f31 rfl (by decide))).trans (zwr_r e11 (by first | decide | exact (absurd ·.1 (by decide)) | exact (absurd ·.2 (by decide)) | omega))).trans (zfr_a f8 rfl (by decide))), show h214.2 0 11 = h.2 0 11 from ((((((zwr_r e215 (by first | decide | exact (absurd ·.1 (by decide)) | exact (absurd ·.2 (by decide)) | omega)).trans (zfr_f f212 rfl rfl)).trans (zwr_r e33 (by first | decide | exact (absurd ·.1 (by decide)) | exact (absurd ·.2 (by decide)) | omega))).trans (zfr_f f31 rfl rfl)).trans (zwr_r e11 (by first | decide | exact (absurd ·.1 (by decide)) | exact (absurd ·.2 (by decide)) | omega))).trans (zfr_f f8 rfl rfl))] at q9; exact q9), fun p9 w9 s9 w8 => tRe_s (tRe_s (tRe_s (tRe_s (tRe_1 (tMl_l (Or.inr (Or.inl rfl)) yh9 w8)) (tMd_y (Or.inr rfl) rfl (by omega))) (tM32_y (by omega) (by omega))) (tM33_y (lo := 0) (hi := ((h.2 0 6) - 1)) (by first | rw [if_pos (by omega)] | rw [if_neg (by omega)]) (by first | rw [if_pos (by omega)] | rw [if_neg (by omega), if_pos (by omega)] | rw [if_neg (by omega), if_neg (by omega)]) rfl (by omega))) (tMs_n (Or.inr (Or.inl rfl)) (e_9.2 z).1)⟩⟩)⟩
              · refine zj_iconst (zdk ttX11_readDeed 80 rfl rfl) ?_
                refine zj_goto (t := 142) (zdk ttX11_readDeed 81 rfl rfl) (by decide) ?_
                have f255 : zfr [12, 13, 14, 15, 29, 30] [18] h h3 := zfr_t (zfr_r _ _ _) f8 rfl rfl
                have f254 : zfr [12, 13, 14, 15, 29, 30] [18] h h10 := zfr_wa f255 e11 rfl
                have f253 : zfr [12, 13, 14, 15, 29, 30] [18] h h25 := zfr_t f254 f31 rfl rfl
                have f252 : zfr [12, 13, 14, 15, 29, 30] [18] h h32 := zfr_wa f253 e33 rfl
                have f251 : zfr [12, 13, 14, 15, 29, 30] [18] h h207 := zfr_t f252 f212 rfl rfl
                have f250 : zfr [12, 13, 14, 15, 29, 30] [18] h h214 := zfr_wa f251 e215 rfl
                have b256 : 0 ≤ (h.2 0 14) ∧ (h.2 0 14) ≤ 4 := fM_14 s0
                have b257 : -2147483648 ≤ (h.2 0 15) ∧ (h.2 0 15) ≤ 2147483647 := fM_15 s0
                have b258 : 0 ≤ (h3.2 0 14) ∧ (h3.2 0 14) ≤ 4 := fM_14 s5
                have b259 : -2147483648 ≤ (h3.2 0 15) ∧ (h3.2 0 15) ≤ 2147483647 := fM_15 s5
                have b260 : h10.2 0 14 = (h3.2 0 14) := (zwr_r e11 (by first | decide | exact (absurd ·.1 (by decide)) | exact (absurd ·.2 (by decide)) | omega))
                have b261 : h10.2 0 15 = (h3.2 0 15) := (zwr_r e11 (by first | decide | exact (absurd ·.1 (by decide)) | exact (absurd ·.2 (by decide)) | omega))
                have b262 : 0 ≤ (h25.2 0 14) ∧ (h25.2 0 14) ≤ 4 := fM_14 s27
                have b263 : -2147483648 ≤ (h25.2 0 15) ∧ (h25.2 0 15) ≤ 2147483647 := fM_15 s27
                have b264 : h32.2 0 14 = (h25.2 0 14) := (zwr_r e33 (by first | decide | exact (absurd ·.1 (by decide)) | exact (absurd ·.2 (by decide)) | omega))
                have b265 : h32.2 0 15 = (h25.2 0 15) := (zwr_r e33 (by first | decide | exact (absurd ·.1 (by decide)) | exact (absurd ·.2 (by decide)) | omega))
                have b266 : 0 ≤ (h207.2 0 14) ∧ (h207.2 0 14) ≤ 4 := fM_14 s209
                have b267 : -2147483648 ≤ (h207.2 0 15) ∧ (h207.2 0 15) ≤ 2147483647 := fM_15 s209
                have b268 : h214.2 0 14 = (h207.2 0 14) := (zwr_r e215 (by first | decide | exact (absurd ·.1 (by decide)) | exact (absurd ·.2 (by decide)) | omega))
                have b269 : h214.2 0 15 = (h207.2 0 15) := (zwr_r e215 (by first | decide | exact (absurd ·.1 (by decide)) | exact (absurd ·.2 (by decide)) | omega))
                exact zj_iret rfl (zdk ttX11_readDeed 85 rfl rfl) (Nat.le_refl _) (Nat.le_refl _) ⟨(-1), rfl, by omega, s216, f250, (fun q => absurd q (by decide)), (fun j q => ((((((zwr_r e215 (by first | decide | exact (absurd ·.1 (by decide)) | exact (absurd ·.2 (by decide)) | omega)).trans (zfr_a f212 rfl (by decide))).trans (zwr_r e33 (by first | decide | exact (absurd ·.1 (by decide)) | exact (absurd ·.2 (by decide)) | omega))).trans (zfr_a f31 rfl (by decide))).trans (zwr_r e11 (by first | decide | exact (absurd ·.1 (by decide)) | exact (absurd ·.2 (by decide)) | omega))).trans (zfr_a f8 rfl (by decide)))), (by intro T j t0 yh9; have e_1 := u7 3 T j 200 t0 (fun t v q => by have k9 := tT3 q; omega) (by decide); have e_1y := e_1.1 (by omega); have e_1d := e_1y.2.1; have a_2 : tPm 3 T (j + 1 + 1) h10 := tPm_f e_1y.2.2 (fun k => (zwr_r e11 (by first | decide | exact (absurd ·.1 (by decide)) | exact (absurd ·.2 (by decide)) | omega))) (fun k => (zwr_r e11 (by first | decide | exact (absurd ·.1 (by decide)) | exact (absurd ·.2 (by decide)) | omega))) (zwr_r e11 (by first | decide | exact (absurd ·.1 (by decide)) | exact (absurd ·.2 (by decide)) | omega)) (zwr_r e11 (by first | decide | exact (absurd ·.1 (by decide)) | exact (absurd ·.2 (by decide)) | omega)) (zwr_r e11 (by first | decide | exact (absurd ·.1 (by decide)) | exact (absurd ·.2 (by decide)) | omega)) (zwr_r e11 (by first | decide | exact (absurd ·.1 (by decide)) | exact (absurd ·.2 (by decide)) | omega)) (zwr_r e11 (by first | decide | exact (absurd ·.1 (by decide)) | exact (absurd ·.2 (by decide)) | omega)); have k_3 := tT3 a_2.2.2.1; have k_3j := a_2.1.1; have kd8 := tKd_b k_3 b21; clear k_3 b21; have k_4 := tT3 a_2.2.2.1; have k_4j := a_2.1.1; have a_5 : tPm 3 T ((j + 1 + 1) + 1) h25 := tPm_r a_2 (by omega) (u30 a_2.2.2.2.2.2.1 (tPm_l a_2 (by omega))) (fun k => (zfr_a f31 rfl (by decide))) (fun k => (zfr_a f31 rfl (by decide))) (zfr_f f31 rfl rfl); have a_6 : tPm 3 T ((j + 1 + 1) + 1) h32 := tPm_f a_5 (fun k => (zwr_r e33 (by first | decide | exact (absurd ·.1 (by decide)) | exact (absurd ·.2 (by decide)) | omega))) (fun k => (zwr_r e33 (by first | decide | exact (absurd ·.1 (by decide)) | exact (absurd ·.2 (by decide)) | omega))) (zwr_r e33 (by first | decide | exact (absurd ·.1 (by decide)) | exact (absurd ·.2 (by decide)) | omega)) (zwr_r e33 (by first | decide | exact (absurd ·.1 (by decide)) | exact (absurd ·.2 (by decide)) | omega)) (zwr_r e33 (by first | decide | exact (absurd ·.1 (by decide)) | exact (absurd ·.2 (by decide)) | omega)) (zwr_r e33 (by first | decide | exact (absurd ·.1 (by decide)) | exact (absurd ·.2 (by decide)) | omega)) (zwr_r e33 (by first | decide | exact (absurd ·.1 (by decide)) | exact (absurd ·.2 (by decide)) | omega)); have e_7 := u211 3 T ((j + 1 + 1) + 1) a_6; have e_7n := e_7.2 (by omega); exact ⟨fun z => absurd z (by omega), fun _ => ⟨((j + 1 + 1) + 1), _, (by have q9 := e_7n.2; unfold tEp at q9 ⊢; rw [show h32.2 7 = h.2 7 from funext fun i8 => ((((zwr_r e33 (by first | decide | exact (absurd ·.1 (by decide)) | exact (absurd ·.2 (by decide)) | omega)).trans (zfr_a f31 rfl (by decide))).trans (zwr_r e11 (by first | decide | exact (absurd ·.1 (by decide)) | exact (absurd ·.2 (by decide)) | omega))).trans (zfr_a f8 rfl (by decide))), show h32.2 0 11 = h.2 0 11 from ((((zwr_r e33 (by first | decide | exact (absurd ·.1 (by decide)) | exact (absurd ·.2 (by decide)) | omega)).trans (zfr_f f31 rfl rfl)).trans (zwr_r e11 (by first | decide | exact (absurd ·.1 (by decide)) | exact (absurd ·.2 (by decide)) | omega))).trans (zfr_f f8 rfl rfl))] at q9; rw [show h214.2 0 29 = h207.2 0 29 from (zwr_r e215 (by first | decide | exact (absurd ·.1 (by decide)) | exact (absurd ·.2 (by decide)) | omega)), show h214.2 0 30 = h207.2 0 30 from (zwr_r e215 (by first | decide | exact (absurd ·.1 (by decide)) | exact (absurd ·.2 (by decide)) | omega))]; exact q9), fun p9 w9 s9 w8 => tRe_s (tRe_s (tRe_s (tRe_1 (tMl_l (Or.inr (Or.inl rfl)) yh9 w8)) (tMd_y (Or.inr rfl) rfl (by omega))) (tM32_y (by omega) (by omega))) (tM33_n (lo := 0) (hi := ((h.2 0 6) - 1)) (by first | rw [if_pos (by omega)] | rw [if_neg (by omega)]) (by first | rw [if_pos (by omega)] | rw [if_neg (by omega), if_pos (by omega)] | rw [if_neg (by omega), if_neg (by omega)]) rfl (by omega) rfl)⟩⟩)⟩
        · refine zj_iconst (zdk ttX11_readDeed 47 rfl rfl) ?_
          refine zj_goto (t := 119) (zdk ttX11_readDeed 48 rfl rfl) (by decide) ?_
          refine zj_iast (zdk ttX11_readDeed 71 rfl rfl) (kaM_18 s34) (by decide) (by omega) (fun h270 e271 => ?_)
          refine zj_aload_n (zdk ttX11_readDeed 72 rfl rfl) rfl (by decide) ?_
          have s272 : okM h270 := awM_18 s34 e271 (by omega) (by unfold nsp; omega)
          refine zj_getr (r := 18) (zdk ttX11_readDeed 73 rfl rfl) zf_RX11_65 rfl (k_M s272) (rfM_36 s272) ?_
          refine zj_iload_n (zdk ttX11_readDeed 74 rfl rfl) rfl ?_
          refine zj_iconst (zdk ttX11_readDeed 75 rfl rfl) ?_
          refine zj_iadd (zdk ttX11_readDeed 76 rfl rfl) ?_
          refine zj_iald (v := 0) (zdk ttX11_readDeed 77 rfl rfl) (kaM_18 s272) (by decide) (by omega) (zwr_v e271) ?_
          refine zj_iconst (zdk ttX11_readDeed 78 rfl rfl) ?_
          refine zj_icmp_ne (t := 136) (zdk ttX11_readDeed 79 rfl rfl) (by decide) (by decide) (by decide) (fun c273 => ?_) (fun c273 => ?_)
          · refine zj_aload_n (zdk ttX11_readDeed 82 rfl rfl) rfl (by decide) ?_
            refine zj_bipush (zdk ttX11_readDeed 83 rfl rfl) (by decide) ?_
            refine zj_callV (av := [.inl 59]) (st := []) (zdk ttX11_readDeed 84 rfl rfl) mb_X11_readMark mv_RX11_255 (ci := 11) rfl rfl (k_M s272) rfl rfl (Nat.le_of_ble_eq_true rfl) (s2_X11_readMark l h270 59 s272 (by omega)) (rm_ok (by decide) (by decide)) (zq_i fun v275 h276 q274 => ?_)
            obtain ⟨b277, s278, f280, u279⟩ := q274
            have f286 : zfr [12, 13, 14, 15, 29, 30] [18] h h3 := zfr_t (zfr_r _ _ _) f8 rfl rfl
            have f285 : zfr [12, 13, 14, 15, 29, 30] [18] h h10 := zfr_wa f286 e11 rfl
            have f284 : zfr [12, 13, 14, 15, 29, 30] [18] h h25 := zfr_t f285 f31 rfl rfl
            have f283 : zfr [12, 13, 14, 15, 29, 30] [18] h h32 := zfr_wa f284 e33 rfl
            have f282 : zfr [12, 13, 14, 15, 29, 30] [18] h h270 := zfr_wa f283 e271 rfl
            have f281 : zfr [12, 13, 14, 15, 29, 30] [18] h h276 := zfr_t f282 f280 rfl rfl
            have b287 : h276.2 18 (p1 + 1) = v15 := (((zfr_a f280 rfl (by decide)).trans (zwr_r e271 (by first | decide | exact (absurd ·.1 (by decide)) | exact (absurd ·.2 (by decide)) | omega))).trans (zwr_v e33))
            have b288 : h276.2 18 (p1 + 2) = 0 := ((zfr_a f280 rfl (by decide)).trans (zwr_v e271))
            have b289 : 0 ≤ (h.2 0 14) ∧ (h.2 0 14) ≤ 4 := fM_14 s0
            have b290 : -2147483648 ≤ (h.2 0 15) ∧ (h.2 0 15) ≤ 2147483647 := fM_15 s0
            have b291 : 0 ≤ (h3.2 0 14) ∧ (h3.2 0 14) ≤ 4 := fM_14 s5
            have b292 : -2147483648 ≤ (h3.2 0 15) ∧ (h3.2 0 15) ≤ 2147483647 := fM_15 s5
            have b293 : h10.2 0 14 = (h3.2 0 14) := (zwr_r e11 (by first | decide | exact (absurd ·.1 (by decide)) | exact (absurd ·.2 (by decide)) | omega))
            have b294 : h10.2 0 15 = (h3.2 0 15) := (zwr_r e11 (by first | decide | exact (absurd ·.1 (by decide)) | exact (absurd ·.2 (by decide)) | omega))
            have b295 : 0 ≤ (h25.2 0 14) ∧ (h25.2 0 14) ≤ 4 := fM_14 s27
            have b296 : -2147483648 ≤ (h25.2 0 15) ∧ (h25.2 0 15) ≤ 2147483647 := fM_15 s27
            have b297 : h32.2 0 14 = (h25.2 0 14) := (zwr_r e33 (by first | decide | exact (absurd ·.1 (by decide)) | exact (absurd ·.2 (by decide)) | omega))
            have b298 : h32.2 0 15 = (h25.2 0 15) := (zwr_r e33 (by first | decide | exact (absurd ·.1 (by decide)) | exact (absurd ·.2 (by decide)) | omega))
            have b299 : h270.2 0 14 = (h25.2 0 14) := ((zwr_r e271 (by first | decide | exact (absurd ·.1 (by decide)) | exact (absurd ·.2 (by decide)) | omega)).trans (zwr_r e33 (by first | decide | exact (absurd ·.1 (by decide)) | exact (absurd ·.2 (by decide)) | omega)))
            have b300 : h270.2 0 15 = (h25.2 0 15) := ((zwr_r e271 (by first | decide | exact (absurd ·.1 (by decide)) | exact (absurd ·.2 (by decide)) | omega)).trans (zwr_r e33 (by first | decide | exact (absurd ·.1 (by decide)) | exact (absurd ·.2 (by decide)) | omega)))
            have b301 : 0 ≤ (h276.2 0 14) ∧ (h276.2 0 14) ≤ 4 := fM_14 s278
            have b302 : -2147483648 ≤ (h276.2 0 15) ∧ (h276.2 0 15) ≤ 2147483647 := fM_15 s278
            exact zj_iret rfl (zdk ttX11_readDeed 85 rfl rfl) (Nat.le_refl _) (Nat.le_refl _) ⟨v275, rfl, by omega, s278, f281, (fun q => by unfold wfD1; omega), (fun j q => ((((((zfr_a f280 rfl (by decide)).trans (zwr_r e271 (by first | decide | exact (absurd ·.1 (by decide)) | exact (absurd ·.2 (by decide)) | omega))).trans (zwr_r e33 (by first | decide | exact (absurd ·.1 (by decide)) | exact (absurd ·.2 (by decide)) | omega))).trans (zfr_a f31 rfl (by decide))).trans (zwr_r e11 (by first | decide | exact (absurd ·.1 (by decide)) | exact (absurd ·.2 (by decide)) | omega))).trans (zfr_a f8 rfl (by decide)))), (by intro T j t0 yh9; have e_1 := u7 3 T j 200 t0 (fun t v q => by have k9 := tT3 q; omega) (by decide); have e_1y := e_1.1 (by omega); have e_1d := e_1y.2.1; have a_2 : tPm 3 T (j + 1 + 1) h10 := tPm_f e_1y.2.2 (fun k => (zwr_r e11 (by first | decide | exact (absurd ·.1 (by decide)) | exact (absurd ·.2 (by decide)) | omega))) (fun k => (zwr_r e11 (by first | decide | exact (absurd ·.1 (by decide)) | exact (absurd ·.2 (by decide)) | omega))) (zwr_r e11 (by first | decide | exact (absurd ·.1 (by decide)) | exact (absurd ·.2 (by decide)) | omega)) (zwr_r e11 (by first | decide | exact (absurd ·.1 (by decide)) | exact (absurd ·.2 (by decide)) | omega)) (zwr_r e11 (by first | decide | exact (absurd ·.1 (by decide)) | exact (absurd ·.2 (by decide)) | omega)) (zwr_r e11 (by first | decide | exact (absurd ·.1 (by decide)) | exact (absurd ·.2 (by decide)) | omega)) (zwr_r e11 (by first | decide | exact (absurd ·.1 (by decide)) | exact (absurd ·.2 (by decide)) | omega)); have k_3 := tT3 a_2.2.2.1; have k_3j := a_2.1.1; have kd8 := tKd_b k_3 b21; clear k_3 b21; have k_4 := tT3 a_2.2.2.1; have k_4j := a_2.1.1; have a_5 : tPm 3 T ((j + 1 + 1) + 1) h25 := tPm_r a_2 (by omega) (u30 a_2.2.2.2.2.2.1 (tPm_l a_2 (by omega))) (fun k => (zfr_a f31 rfl (by decide))) (fun k => (zfr_a f31 rfl (by decide))) (zfr_f f31 rfl rfl); have a_6 : tPm 3 T ((j + 1 + 1) + 1) h32 := tPm_f a_5 (fun k => (zwr_r e33 (by first | decide | exact (absurd ·.1 (by decide)) | exact (absurd ·.2 (by decide)) | omega))) (fun k => (zwr_r e33 (by first | decide | exact (absurd ·.1 (by decide)) | exact (absurd ·.2 (by decide)) | omega))) (zwr_r e33 (by first | decide | exact (absurd ·.1 (by decide)) | exact (absurd ·.2 (by decide)) | omega)) (zwr_r e33 (by first | decide | exact (absurd ·.1 (by decide)) | exact (absurd ·.2 (by decide)) | omega)) (zwr_r e33 (by first | decide | exact (absurd ·.1 (by decide)) | exact (absurd ·.2 (by decide)) | omega)) (zwr_r e33 (by first | decide | exact (absurd ·.1 (by decide)) | exact (absurd ·.2 (by decide)) | omega)) (zwr_r e33 (by first | decide | exact (absurd ·.1 (by decide)) | exact (absurd ·.2 (by decide)) | omega)); have a_7 : tPm 3 T ((j + 1 + 1) + 1) h270 := tPm_f a_6 (fun k => (zwr_r e271 (by first | decide | exact (absurd ·.1 (by decide)) | exact (absurd ·.2 (by decide)) | omega))) (fun k => (zwr_r e271 (by first | decide | exact (absurd ·.1 (by decide)) | exact (absurd ·.2 (by decide)) | omega))) (zwr_r e271 (by first | decide | exact (absurd ·.1 (by decide)) | exact (absurd ·.2 (by decide)) | omega)) (zwr_r e271 (by first | decide | exact (absurd ·.1 (by decide)) | exact (absurd ·.2 (by decide)) | omega)) (zwr_r e271 (by first | decide | exact (absurd ·.1 (by decide)) | exact (absurd ·.2 (by decide)) | omega)) (zwr_r e271 (by first | decide | exact (absurd ·.1 (by decide)) | exact (absurd ·.2 (by decide)) | omega)) (zwr_r e271 (by first | decide | exact (absurd ·.1 (by decide)) | exact (absurd ·.2 (by decide)) | omega)); have e_8 := u279 3 T ((j + 1 + 1) + 1) a_7; exact ⟨fun z => ⟨(((j + 1 + 1) + 1) + 1), (e_8.1 z).2, by omega, fun p9 w9 s9 w8 => tRe_s (tRe_s (tRe_s (tRe_1 (tMl_l (Or.inr (Or.inl rfl)) yh9 w8)) (tMd_y (Or.inr rfl) rfl (by omega))) (tM32_s (by omega))) (tMs_y (Or.inr (Or.inl ⟨rfl, rfl⟩)) (e_8.1 z).1)⟩, fun z => ⟨((j + 1 + 1) + 1), _, (by have q9 := (e_8.2 z).2; unfold tEp at q9 ⊢; rw [show h270.2 7 = h.2 7 from funext fun i8 => (((((zwr_r e271 (by first | decide | exact (absurd ·.1 (by decide)) | exact (absurd ·.2 (by decide)) | omega)).trans (zwr_r e33 (by first | decide | exact (absurd ·.1 (by decide)) | exact (absurd ·.2 (by decide)) | omega))).trans (zfr_a f31 rfl (by decide))).trans (zwr_r e11 (by first | decide | exact (absurd ·.1 (by decide)) | exact (absurd ·.2 (by decide)) | omega))).trans (zfr_a f8 rfl (by decide))), show h270.2 0 11 = h.2 0 11 from (((((zwr_r e271 (by first | decide | exact (absurd ·.1 (by decide)) | exact (absurd ·.2 (by decide)) | omega)).trans (zwr_r e33 (by first | decide | exact (absurd ·.1 (by decide)) | exact (absurd ·.2 (by decide)) | omega))).trans (zfr_f f31 rfl rfl)).trans (zwr_r e11 (by first | decide | exact (absurd ·.1 (by decide)) | exact (absurd ·.2 (by decide)) | omega))).trans (zfr_f f8 rfl rfl))] at q9; exact q9), fun p9 w9 s9 w8 => tRe_s (tRe_s (tRe_s (tRe_1 (tMl_l (Or.inr (Or.inl rfl)) yh9 w8)) (tMd_y (Or.inr rfl) rfl (by omega))) (tM32_s (by omega))) (tMs_n (Or.inr (Or.inl rfl)) (e_8.2 z).1)⟩⟩)⟩
          · exact absurd c273 (by omega)
    · refine zj_aload_n (zdk ttX11_readDeed 23 rfl rfl) rfl (by decide) ?_
      refine zj_iconst (zdk ttX11_readDeed 24 rfl rfl) ?_
      refine zj_callV (av := [.inl 1]) (st := []) (zdk ttX11_readDeed 25 rfl rfl) mb_X11_errs mv_RX11_197 (ci := 11) rfl rfl (k_M s12) rfl rfl (Nat.le_of_ble_eq_true rfl) (s2_X11_errs l h10 1 s12 (by omega)) (rm_ok (by decide) (by decide)) (zq_i fun v304 h305 q303 => ?_)
      obtain ⟨b306, s307, f309, u308⟩ := q303
      have f312 : zfr [12, 13, 14, 15, 29, 30] [18] h h3 := zfr_t (zfr_r _ _ _) f8 rfl rfl
      have f311 : zfr [12, 13, 14, 15, 29, 30] [18] h h10 := zfr_wa f312 e11 rfl
      have f310 : zfr [12, 13, 14, 15, 29, 30] [18] h h305 := zfr_t f311 f309 rfl rfl
      have b313 : h305.2 18 (p1 + 1) = (h.2 18 (p1 + 1)) := (((zfr_a f309 rfl (by decide)).trans (zwr_r e11 (by first | decide | exact (absurd ·.1 (by decide)) | exact (absurd ·.2 (by decide)) | omega))).trans (zfr_a f8 rfl (by decide)))
      have b314 : -2147483648 ≤ (h.2 18 (p1 + 1)) ∧ (h.2 18 (p1 + 1)) ≤ 2147483647 := abM_18 s0 (p1 + 1)
      have b315 : h305.2 18 (p1 + 2) = (h.2 18 (p1 + 2)) := (((zfr_a f309 rfl (by decide)).trans (zwr_r e11 (by first | decide | exact (absurd ·.1 (by decide)) | exact (absurd ·.2 (by decide)) | omega))).trans (zfr_a f8 rfl (by decide)))
      have b316 : -2147483648 ≤ (h.2 18 (p1 + 2)) ∧ (h.2 18 (p1 + 2)) ≤ 2147483647 := abM_18 s0 (p1 + 2)
      have b317 : 0 ≤ (h.2 0 14) ∧ (h.2 0 14) ≤ 4 := fM_14 s0
      have b318 : -2147483648 ≤ (h.2 0 15) ∧ (h.2 0 15) ≤ 2147483647 := fM_15 s0
      have b319 : 0 ≤ (h3.2 0 14) ∧ (h3.2 0 14) ≤ 4 := fM_14 s5
      have b320 : -2147483648 ≤ (h3.2 0 15) ∧ (h3.2 0 15) ≤ 2147483647 := fM_15 s5
      have b321 : h10.2 0 14 = (h3.2 0 14) := (zwr_r e11 (by first | decide | exact (absurd ·.1 (by decide)) | exact (absurd ·.2 (by decide)) | omega))
      have b322 : h10.2 0 15 = (h3.2 0 15) := (zwr_r e11 (by first | decide | exact (absurd ·.1 (by decide)) | exact (absurd ·.2 (by decide)) | omega))
      have b323 : h305.2 0 14 = (h3.2 0 14) := ((zfr_f f309 rfl rfl).trans (zwr_r e11 (by first | decide | exact (absurd ·.1 (by decide)) | exact (absurd ·.2 (by decide)) | omega)))
      have b324 : h305.2 0 15 = (h3.2 0 15) := ((zfr_f f309 rfl rfl).trans (zwr_r e11 (by first | decide | exact (absurd ·.1 (by decide)) | exact (absurd ·.2 (by decide)) | omega)))
      exact zj_iret rfl (zdk ttX11_readDeed 26 rfl rfl) (Nat.le_refl _) (Nat.le_refl _) ⟨v304, rfl, by omega, s307, f310, (fun q => by unfold wfD1; omega), (fun j q => (((zfr_a f309 rfl (by decide)).trans (zwr_r e11 (by first | decide | exact (absurd ·.1 (by decide)) | exact (absurd ·.2 (by decide)) | omega))).trans (zfr_a f8 rfl (by decide)))), (by intro T j t0 yh9; have e_1 := u7 3 T j 200 t0 (fun t v q => by have k9 := tT3 q; omega) (by decide); have e_1y := e_1.1 (by omega); have e_1d := e_1y.2.1; have a_2 : tPm 3 T (j + 1 + 1) h10 := tPm_f e_1y.2.2 (fun k => (zwr_r e11 (by first | decide | exact (absurd ·.1 (by decide)) | exact (absurd ·.2 (by decide)) | omega))) (fun k => (zwr_r e11 (by first | decide | exact (absurd ·.1 (by decide)) | exact (absurd ·.2 (by decide)) | omega))) (zwr_r e11 (by first | decide | exact (absurd ·.1 (by decide)) | exact (absurd ·.2 (by decide)) | omega)) (zwr_r e11 (by first | decide | exact (absurd ·.1 (by decide)) | exact (absurd ·.2 (by decide)) | omega)) (zwr_r e11 (by first | decide | exact (absurd ·.1 (by decide)) | exact (absurd ·.2 (by decide)) | omega)) (zwr_r e11 (by first | decide | exact (absurd ·.1 (by decide)) | exact (absurd ·.2 (by decide)) | omega)) (zwr_r e11 (by first | decide | exact (absurd ·.1 (by decide)) | exact (absurd ·.2 (by decide)) | omega)); have k_3 := tT3 a_2.2.2.1; have k_3j := a_2.1.1; have kd8 := tKd_b k_3 b21; clear k_3 b21; have e_4 : tEp h h305 (j + 1 + 1) 1 := ⟨u308.1, a_2.1.1, by have q9 := a_2.2.1; rw [show h10.2 7 = h.2 7 from funext fun i9 => ((zwr_r e11 (by first | decide | exact (absurd ·.1 (by decide)) | exact (absurd ·.2 (by decide)) | omega)).trans (zfr_a f8 rfl (by decide))), show h10.2 0 11 = h.2 0 11 from ((zwr_r e11 (by first | decide | exact (absurd ·.1 (by decide)) | exact (absurd ·.2 (by decide)) | omega)).trans (zfr_f f8 rfl rfl))] at q9; rw [u308.2]; exact q9⟩; exact ⟨fun z => absurd z (by omega), fun _ => ⟨(j + 1 + 1), _, e_4, fun p9 w9 s9 w8 => tRe_s (tRe_s (tRe_1 (tMl_l (Or.inr (Or.inl rfl)) yh9 w8)) (tMd_y (Or.inr rfl) rfl (by omega))) (tM32_n (by omega))⟩⟩)⟩
  · refine zj_iconst (zdk ttX11_readDeed 15 rfl rfl) ?_
    have f326 : zfr [12, 13, 14, 15, 29, 30] [18] h h3 := zfr_t (zfr_r _ _ _) f8 rfl rfl
    have f325 : zfr [12, 13, 14, 15, 29, 30] [18] h h10 := zfr_wa f326 e11 rfl
    have b327 : 0 ≤ (h.2 0 14) ∧ (h.2 0 14) ≤ 4 := fM_14 s0
    have b328 : -2147483648 ≤ (h.2 0 15) ∧ (h.2 0 15) ≤ 2147483647 := fM_15 s0
    have b329 : 0 ≤ (h3.2 0 14) ∧ (h3.2 0 14) ≤ 4 := fM_14 s5
    have b330 : -2147483648 ≤ (h3.2 0 15) ∧ (h3.2 0 15) ≤ 2147483647 := fM_15 s5
    have b331 : h10.2 0 14 = (h3.2 0 14) := (zwr_r e11 (by first | decide | exact (absurd ·.1 (by decide)) | exact (absurd ·.2 (by decide)) | omega))
    have b332 : h10.2 0 15 = (h3.2 0 15) := (zwr_r e11 (by first | decide | exact (absurd ·.1 (by decide)) | exact (absurd ·.2 (by decide)) | omega))
    exact zj_iret rfl (zdk ttX11_readDeed 16 rfl rfl) (Nat.le_refl _) (Nat.le_refl _) ⟨(-1), rfl, by omega, s12, f325, (fun q => absurd q (by decide)), (fun j q => ((zwr_r e11 (by first | decide | exact (absurd ·.1 (by decide)) | exact (absurd ·.2 (by decide)) | omega)).trans (zfr_a f8 rfl (by decide)))), (by intro T j t0 yh9; have e_1 := u7 3 T j 200 t0 (fun t v q => by have k9 := tT3 q; omega) (by decide); have e_1n := (e_1.2 (by omega)).resolve_left (fun q => q.1 yh9); exact ⟨fun z => absurd z (by omega), fun _ => ⟨(j + 1), _, (by have q9 := e_1n.2.2; unfold tEp at q9 ⊢; rw [show h10.2 0 29 = h3.2 0 29 from (zwr_r e11 (by first | decide | exact (absurd ·.1 (by decide)) | exact (absurd ·.2 (by decide)) | omega)), show h10.2 0 30 = h3.2 0 30 from (zwr_r e11 (by first | decide | exact (absurd ·.1 (by decide)) | exact (absurd ·.2 (by decide)) | omega))]; exact q9), fun p9 w9 s9 w8 => tRe_s (tRe_1 (tMl_l (Or.inr (Or.inl rfl)) yh9 w8)) (tMd_n (Or.inr rfl) rfl (by omega) rfl)⟩⟩)⟩

abbrev q2_X11_readTown (h : zM) : Option zV → zM → Prop := zqi fun v h' => ((-1) ≤ v ∧ v ≤ 16) ∧ okM h' ∧ zfr [12, 13, 14, 15, 29, 30] [18] h h' ∧ (∀ j, 0 ≤ j → j < v → wfD1 (h'.2 18 (48 + 3 * j + 1)) (h'.2 18 (48 + 3 * j + 2))) ∧ (∀ T, tPm 3 T 0 h → (0 ≤ v → ∃ j9, ∀ p9 : Int, tRe T (h.2 0 6) (30, 0, 0, []) (1, j9, v, [])) ∧ (v = -1 → ∃ i9 f9, tEp h h' i9 f9 ∧ ∀ p9 : Int, tRe T (h.2 0 6) (30, 0, 0, []) (tEr i9 f9)))
set_option maxRecDepth 100000 in
set_option maxHeartbeats 4000000 in
theorem s2_X11_readTown (l : Launch) (h : zM) (s0 : okM h) : zT shM l yX11_readTown cX11_readTown 2 (some .int) (rmL 7) 0 0 [.inr 0] h (q2_X11_readTown h) := by
  refine zT_of (by decide +kernel) (L0 := [some (.inr 0), none]) rfl (Nat.le_of_ble_eq_true rfl) ?_
  refine zj_iconst (zdk ttX11_readTown 0 rfl rfl) ?_
  refine zj_istore_n (L' := [some (.inr 0), some (.inl 0)]) (zdk ttX11_readTown 1 rfl rfl) (by decide) rfl ?_
  have lp24 : ∀ (n2 : Nat) (x1 : Int) (h2 : zM), (0 ≤ x1 ∧ x1 ≤ 16) → okM h2 → zfr [12, 13, 14, 15, 29, 30] [18] h h2 → (∀ j, 0 ≤ j → j < x1 → wfD1 (h2.2 18 (48 + 3 * j + 1)) (h2.2 18 (48 + 3 * j + 2))) → (∀ T, tPm 3 T 0 h → ∃ j9, tPm 3 T j9 h2 ∧ ∀ p9 : Int, tRe T (h.2 0 6) (30, 0, 0, []) (30, j9, x1, [])) → (17 - x1).toNat < n2 → zJ shM l yX11_readTown cX11_readTown 2 (some .int) (rmL 7) 0 0 (q2_X11_readTown h) 0 0 2 [some (.inr 0), some (.inl x1)] [] h2 := by
    intro n2
    induction n2 with
    | zero => intro x1 h2 b25 s3 f4 u26 u27 m28; exact absurd m28 (Nat.not_lt_zero _)
    | succ n2 ih29 =>
      intro x1 h2 b25 s3 f4 u26 u27 m28
      refine zj_aload_n (zdk ttX11_readTown 2 rfl rfl) rfl (by decide) ?_
      refine zj_bipush (zdk ttX11_readTown 3 rfl rfl) (by decide) ?_
      refine zj_callV (av := [.inl 17]) (st := []) (zdk ttX11_readTown 4 rfl rfl) mb_X11_isWord mv_RX11_226 (ci := 11) rfl rfl (k_M s3) rfl rfl (Nat.le_of_ble_eq_true rfl) (s_X11_isWord l h2 17 s3 (by omega)) (rm_ok (by decide) (by decide)) (zq_i fun v31 h32 q30 => ?_)
      obtain ⟨rfl, b34, b35, ⟨rfl, b33⟩ | ⟨rfl, b33⟩⟩ := q30
      · refine zj_if_eq (t := 46) (zdk ttX11_readTown 5 rfl rfl) (by decide) (by decide) (fun c36 => ?_) (fun c36 => ?_)
        · refine zj_aload_n (zdk ttX11_readTown 29 rfl rfl) rfl (by decide) ?_
          refine zj_geti (v := (h2.2 0 14)) (zdk ttX11_readTown 30 rfl rfl) zf_RX11_166 rfl (k_M s3) rfl ?_
          refine zj_if_ne (t := 57) (zdk ttX11_readTown 31 rfl rfl) (by decide) (by omega) (fun c37 => ?_) (fun c37 => ?_)
          · refine zj_aload_n (zdk ttX11_readTown 34 rfl rfl) rfl (by decide) ?_
            refine zj_iconst (zdk ttX11_readTown 35 rfl rfl) ?_
            refine zj_callV (av := [.inl 1]) (st := []) (zdk ttX11_readTown 36 rfl rfl) mb_X11_errs mv_RX11_197 (ci := 11) rfl rfl (k_M s3) rfl rfl (Nat.le_of_ble_eq_true rfl) (s2_X11_errs l h2 1 s3 (by omega)) (rm_ok (by decide) (by decide)) (zq_i fun v39 h40 q38 => ?_)
            obtain ⟨b41, s42, f44, u43⟩ := q38
            have f45 : zfr [12, 13, 14, 15, 29, 30] [18] h h40 := zfr_t f4 f44 rfl rfl
            have b46 : 0 ≤ (h.2 0 14) ∧ (h.2 0 14) ≤ 4 := fM_14 s0
            have b47 : -2147483648 ≤ (h.2 0 15) ∧ (h.2 0 15) ≤ 2147483647 := fM_15 s0
            have b48 : h40.2 0 14 = (h2.2 0 14) := (zfr_f f44 rfl rfl)
            have b49 : h40.2 0 15 = (h2.2 0 15) := (zfr_f f44 rfl rfl)
            exact zj_iret rfl (zdk ttX11_readTown 37 rfl rfl) (Nat.le_refl _) (Nat.le_refl _) ⟨v39, rfl, by omega, s42, f45, (fun j q1 q2 => absurd q1 (by omega)), (by intro T t0; obtain ⟨xj, xa, xr⟩ := u27 T t0; have k_1 := tT3 xa.2.2.1; have k_1j := xa.1.1; have e_2 : tEp h h40 xj 1 := ⟨u43.1, xa.1.1, by have q9 := xa.2.1; rw [show h2.2 7 = h.2 7 from funext fun i9 => (zfr_a f4 rfl (by decide)), show h2.2 0 11 = h.2 0 11 from (zfr_f f4 rfl rfl)] at q9; rw [u43.2]; exact q9⟩; exact ⟨fun z => absurd z (by omega), fun _ => ⟨xj, _, e_2, fun p9 => by first | exact tRe_s (xr p9) (tMl_3 (Or.inr (Or.inl rfl)) (by omega) (by omega)) | exact tRe_s (xr p9) (tMl_1 (Or.inr (Or.inl rfl)) (by omega) (by omega))⟩⟩)⟩
          · refine zj_iload_n (zdk ttX11_readTown 32 rfl rfl) rfl ?_
            refine zj_goto (t := 62) (zdk ttX11_readTown 33 rfl rfl) (by decide) ?_
            have b50 : 0 ≤ (h.2 0 14) ∧ (h.2 0 14) ≤ 4 := fM_14 s0
            have b51 : -2147483648 ≤ (h.2 0 15) ∧ (h.2 0 15) ≤ 2147483647 := fM_15 s0
            exact zj_iret rfl (zdk ttX11_readTown 37 rfl rfl) (Nat.le_refl _) (Nat.le_refl _) ⟨x1, rfl, by omega, s3, f4, u26, (by intro T t0; obtain ⟨xj, xa, xr⟩ := u27 T t0; have k_1 := tT3 xa.2.2.1; have k_1j := xa.1.1; exact ⟨fun _ => ⟨xj, fun p9 => tRe_s (xr p9) (tMl_e (Or.inr (Or.inl rfl)) (by omega))⟩, fun z => absurd z (by omega)⟩)⟩
        · exact absurd c36 (by omega)
      · refine zj_if_eq (t := 46) (zdk ttX11_readTown 5 rfl rfl) (by decide) (by decide) (fun c52 => ?_) (fun c52 => ?_)
        · exact absurd c52 (by omega)
        · refine zj_iload_n (zdk ttX11_readTown 6 rfl rfl) rfl ?_
          refine zj_bipush (zdk ttX11_readTown 7 rfl rfl) (by decide) ?_
          refine zj_icmp_ne (t := 23) (zdk ttX11_readTown 8 rfl rfl) (by decide) (by omega) (by decide) (fun c53 => ?_) (fun c53 => ?_)
          · refine zj_aload_n (zdk ttX11_readTown 13 rfl rfl) rfl (by decide) ?_
            refine zj_bipush (zdk ttX11_readTown 14 rfl rfl) (by decide) ?_
            refine zj_iconst (zdk ttX11_readTown 15 rfl rfl) ?_
            refine zj_iload_n (zdk ttX11_readTown 16 rfl rfl) rfl ?_
            refine zj_imul (zdk ttX11_readTown 17 rfl rfl) ?_
            refine zj_iadd (zdk ttX11_readTown 18 rfl rfl) ?_
            refine zj_callV (av := [.inl (48 + (3 * x1))]) (st := []) (zdk ttX11_readTown 19 rfl rfl) mb_X11_readDeed mv_RX11_264 (ci := 11) rfl rfl (k_M s3) rfl rfl (Nat.le_of_ble_eq_true rfl) (s2_X11_readDeed l h2 (48 + (3 * x1)) s3 (by omega)) (rm_ok (by decide) (by decide)) (zq_i fun v55 h56 q54 => ?_)
            obtain ⟨b57, s58, f62, u59, u60, u61⟩ := q54
            refine zj_iconst (zdk ttX11_readTown 20 rfl rfl) ?_
            refine zj_icmp_ne (t := 39) (zdk ttX11_readTown 21 rfl rfl) (by decide) (by omega) (by decide) (fun c63 => ?_) (fun c63 => ?_)
            · refine zj_iload_n (zdk ttX11_readTown 24 rfl rfl) rfl ?_
              refine zj_iconst (zdk ttX11_readTown 25 rfl rfl) ?_
              refine zj_iadd (zdk ttX11_readTown 26 rfl rfl) ?_
              refine zj_istore_n (L' := [some (.inr 0), some (.inl (x1 + 1))]) (zdk ttX11_readTown 27 rfl rfl) (by decide) rfl ?_
              refine zj_goto (t := 2) (zdk ttX11_readTown 28 rfl rfl) (by decide) ?_
              have f64 : zfr [12, 13, 14, 15, 29, 30] [18] h h56 := zfr_t f4 f62 rfl rfl
              have b65 : 0 ≤ (h.2 0 14) ∧ (h.2 0 14) ≤ 4 := fM_14 s0
              have b66 : -2147483648 ≤ (h.2 0 15) ∧ (h.2 0 15) ≤ 2147483647 := fM_15 s0
              have b67 : 0 ≤ (h56.2 0 14) ∧ (h56.2 0 14) ≤ 4 := fM_14 s58
              have b68 : -2147483648 ≤ (h56.2 0 15) ∧ (h56.2 0 15) ≤ 2147483647 := fM_15 s58
              exact ih29  (x1 + 1) h56 (by omega) s58 f64 (fun j q1 q2 => (Classical.em (j = x1)).elim (fun q => by rw [q]; exact u59 (by omega)) (fun q => by rw [u60 _ (by omega), u60 _ (by omega)]; exact u26 j q1 (by omega))) (by intro T t0; obtain ⟨xj, xa, xr⟩ := u27 T t0; have k_1 := tT3 xa.2.2.1; have k_1j := xa.1.1; obtain ⟨yj, ya, yl, yr⟩ := (u61 T xj xa (by omega)).1 (by omega); rw [show h2.2 0 6 = h.2 0 6 from zfr_f f4 rfl rfl] at yr; exact ⟨yj, ya, fun p9 => tRe_t (xr p9) (yr p9 x1 [] (by omega))⟩) (by omega)
            · refine zj_iconst (zdk ttX11_readTown 22 rfl rfl) ?_
              have f69 : zfr [12, 13, 14, 15, 29, 30] [18] h h56 := zfr_t f4 f62 rfl rfl
              have b70 : 0 ≤ (h.2 0 14) ∧ (h.2 0 14) ≤ 4 := fM_14 s0
              have b71 : -2147483648 ≤ (h.2 0 15) ∧ (h.2 0 15) ≤ 2147483647 := fM_15 s0
              have b72 : 0 ≤ (h56.2 0 14) ∧ (h56.2 0 14) ≤ 4 := fM_14 s58
              have b73 : -2147483648 ≤ (h56.2 0 15) ∧ (h56.2 0 15) ≤ 2147483647 := fM_15 s58
              exact zj_iret rfl (zdk ttX11_readTown 23 rfl rfl) (Nat.le_refl _) (Nat.le_refl _) ⟨(-1), rfl, by omega, s58, f69, (fun j q1 q2 => absurd q1 (by omega)), (by intro T t0; obtain ⟨xj, xa, xr⟩ := u27 T t0; have k_1 := tT3 xa.2.2.1; have k_1j := xa.1.1; obtain ⟨ei, ef, ep, er⟩ := (u61 T xj xa (by omega)).2 (by omega); rw [show h2.2 0 6 = h.2 0 6 from zfr_f f4 rfl rfl] at er; exact ⟨fun z => absurd z (by omega), fun _ => ⟨ei, ef, (by have q9 := ep; unfold tEp at q9 ⊢; rw [show h2.2 7 = h.2 7 from funext fun i8 => (zfr_a f4 rfl (by decide)), show h2.2 0 11 = h.2 0 11 from (zfr_f f4 rfl rfl)] at q9; exact q9), fun p9 => tRe_t (xr p9) (er p9 x1 [] (by omega))⟩⟩)⟩
          · refine zj_aload_n (zdk ttX11_readTown 9 rfl rfl) rfl (by decide) ?_
            refine zj_iconst (zdk ttX11_readTown 10 rfl rfl) ?_
            refine zj_callV (av := [.inl 3]) (st := []) (zdk ttX11_readTown 11 rfl rfl) mb_X11_errs mv_RX11_197 (ci := 11) rfl rfl (k_M s3) rfl rfl (Nat.le_of_ble_eq_true rfl) (s2_X11_errs l h2 3 s3 (by omega)) (rm_ok (by decide) (by decide)) (zq_i fun v75 h76 q74 => ?_)
            obtain ⟨b77, s78, f80, u79⟩ := q74
            have f81 : zfr [12, 13, 14, 15, 29, 30] [18] h h76 := zfr_t f4 f80 rfl rfl
            have b82 : 0 ≤ (h.2 0 14) ∧ (h.2 0 14) ≤ 4 := fM_14 s0
            have b83 : -2147483648 ≤ (h.2 0 15) ∧ (h.2 0 15) ≤ 2147483647 := fM_15 s0
            have b84 : h76.2 0 14 = (h2.2 0 14) := (zfr_f f80 rfl rfl)
            have b85 : h76.2 0 15 = (h2.2 0 15) := (zfr_f f80 rfl rfl)
            exact zj_iret rfl (zdk ttX11_readTown 12 rfl rfl) (Nat.le_refl _) (Nat.le_refl _) ⟨v75, rfl, by omega, s78, f81, (fun j q1 q2 => absurd q1 (by omega)), (by intro T t0; obtain ⟨xj, xa, xr⟩ := u27 T t0; have k_1 := tT3 xa.2.2.1; have k_1j := xa.1.1; have e_2 : tEp h h76 xj 3 := ⟨u79.1, xa.1.1, by have q9 := xa.2.1; rw [show h2.2 7 = h.2 7 from funext fun i9 => (zfr_a f4 rfl (by decide)), show h2.2 0 11 = h.2 0 11 from (zfr_f f4 rfl rfl)] at q9; rw [u79.2]; exact q9⟩; exact ⟨fun z => absurd z (by omega), fun _ => ⟨xj, _, e_2, fun p9 => by first | exact tRe_s (xr p9) (tMl_3 (Or.inr (Or.inl rfl)) (by omega) (by omega)) | exact tRe_s (xr p9) (tMl_1 (Or.inr (Or.inl rfl)) (by omega) (by omega))⟩⟩)⟩
  have b86 : 0 ≤ (h.2 0 14) ∧ (h.2 0 14) ≤ 4 := fM_14 s0
  have b87 : -2147483648 ≤ (h.2 0 15) ∧ (h.2 0 15) ≤ 2147483647 := fM_15 s0
  exact lp24 _ 0 h (by omega) s0 (zfr_r _ _ _) (fun j q1 q2 => absurd q1 (by omega)) (by intro T t0; exact ⟨0, t0, fun p9 => tRe_r⟩) (Nat.lt_succ_self _)

