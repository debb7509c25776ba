def zRK (hC hM : zM) : Prop := hC.2 28 2 = hM.2 0 42 ∧ hC.2 28 4 = hM.2 0 45 ∧ hC.2 28 6 = hM.2 0 49 ∧ hC.2 28 9 = hM.2 0 53 ∧ (hM.2 0 59 = 1 → hC.2 62 2 = hM.2 35 67 ∧ hC.2 62 4 = hM.2 35 68 ∧ hC.2 62 6 = hM.2 35 69 ∧ hC.2 62 9 = hM.2 35 70 ∧ hC.2 36 3 = hM.2 35 63) ∧ hC.2 0 9 = hM.2 0 59 ∧ hC.2 103 3 = hM.2 0 11 ∧ hC.2 2 3 = hM.2 0 6
def zpC (a b : Int) : Prop := ((a = 28 ∨ a = 62) ∧ (b = 2 ∨ b = 4 ∨ b = 6 ∨ b = 9)) ∨ (a = 0 ∧ b = 9) ∨ (a = 103 ∧ b = 3) ∨ ((a = 2 ∨ a = 36) ∧ b = 3)
def zpJ (a b : Int) : Prop := (a = 0 ∧ b = 8) ∨ (114 ≤ a ∧ a ≤ 139) ∨ (a = 2 ∧ b = 3)
theorem zJP_f {h h' : zM} (s : okC h) (f : ∀ a b, zpJ a b → h'.2 a b = h.2 a b) (j : zJP h) : zJP h' := zJP_g s (f 0 8 (by unfold zpJ; omega)) (f 2 3 (by unfold zpJ; omega)) (fun a b z1 z2 => f a b (by unfold zpJ; omega)) j
def zpM (a b : Int) : Prop := (a = 0 ∧ (b = 42 ∨ b = 45 ∨ b = 49 ∨ b = 53 ∨ b = 59 ∨ b = 11 ∨ b = 6)) ∨ a = 35
def zokF (fs cs : List Int) : Bool := !cs.contains 0 && !cs.contains 35 && !fs.contains 42 && !fs.contains 45 && !fs.contains 49 && !fs.contains 53 && !fs.contains 59 && !fs.contains 11 && !fs.contains 6
theorem rkM {fs cs : List Int} {h h' : zM} (q : zfr fs cs h h') (k : zokF fs cs = true) : ∀ a b, zpM a b → h'.2 a b = h.2 a b := by
  unfold zokF at k
  simp only [Bool.and_eq_true, Bool.not_eq_true'] at k
  obtain ⟨⟨⟨⟨⟨⟨⟨⟨k0, k35⟩, k42⟩, k45⟩, k49⟩, k53⟩, k59⟩, k11⟩, k6⟩ := k
  intro a b z
  unfold zpM at z
  rcases z with ⟨rfl, rfl | rfl | rfl | rfl | rfl | rfl | rfl⟩ | rfl
  · exact zfr_f q k0 k42
  · exact zfr_f q k0 k45
  · exact zfr_f q k0 k49
  · exact zfr_f q k0 k53
  · exact zfr_f q k0 k59
  · exact zfr_f q k0 k11
  · exact zfr_f q k0 k6
  · exact zfr_a q k35 (by decide)
theorem rk_f {hC hC' hM hM' : zM} (r : zRK hC hM) (eC : ∀ a b, zpC a b → hC'.2 a b = hC.2 a b) (eM : ∀ a b, zpM a b → hM'.2 a b = hM.2 a b) : zRK hC' hM' := by
  unfold zRK at r ⊢
  rw [eC 28 2 (by unfold zpC; omega), eC 28 4 (by unfold zpC; omega), eC 28 6 (by unfold zpC; omega), eC 28 9 (by unfold zpC; omega), eC 62 2 (by unfold zpC; omega), eC 62 4 (by unfold zpC; omega), eC 62 6 (by unfold zpC; omega), eC 62 9 (by unfold zpC; omega), eC 0 9 (by unfold zpC; omega), eC 103 3 (by unfold zpC; omega), eC 2 3 (by unfold zpC; omega), eC 36 3 (by unfold zpC; omega), eM 0 6 (by unfold zpM; omega), eM 35 63 (by unfold zpM; omega), eM 0 42 (by unfold zpM; omega), eM 0 45 (by unfold zpM; omega), eM 0 49 (by unfold zpM; omega), eM 0 53 (by unfold zpM; omega), eM 0 59 (by unfold zpM; omega), eM 0 11 (by unfold zpM; omega), eM 35 67 (by unfold zpM; omega), eM 35 68 (by unfold zpM; omega), eM 35 69 (by unfold zpM; omega), eM 35 70 (by unfold zpM; omega)]
  exact r
theorem zcw_r {R V : Prop} {m n v n' N v' N' : Int} (c : zcw R V m n v n') (d : zcw R V m N v' N') (e : n = N) : v = v' ∧ n' = N' := by
  subst e
  by_cases r : R
  · have a := c.1 r; have b := d.1 r; omega
  · by_cases x : V
    · by_cases y : n < m
      · have a := c.2.1 r x y; have b := d.2.1 r x y; omega
      · have a := c.2.2.2 r (by omega); have b := d.2.2.2 r (by omega); omega
    · have a := c.2.2.1 r x; have b := d.2.2.1 r x; omega
theorem zfd_r {n v n' N v' N' : Int} (c : zfd n v n') (d : zfd N v' N') (e : n = N) : v = v' ∧ n' = N' := by
  subst e
  by_cases y : n ≤ 380
  · have a := c.1 y; have b := d.1 y; omega
  · have a := c.2 (by omega); have b := d.2 (by omega); omega
theorem zen_r {p n v n' N v' N' : Int} (c : zen p n v n') (d : zen p N v' N') (e : n = N) : v = v' ∧ n' = N' := by
  subst e
  by_cases y : p < 0
  · have a := c.2.1 y; have b := d.2.1 y; omega
  · by_cases z : n < p
    · have a := c.2.2 z; have b := d.2.2 z; omega
    · have a := c.1 (by omega) (by omega); have b := d.1 (by omega) (by omega); omega
theorem zis_r {w l n v n' N v' N' : Int} (c : zis w l n v n') (d : zis w l N v' N') (e : n = N) : v = v' ∧ n' = N' := by
  subst e
  by_cases y : zisG w l n
  · have a := c.1 y; have b := d.1 y; omega
  · have a := c.2 y; have b := d.2 y; omega
theorem zst_r {p q x n v N v' : Int} (c : zst9 p q x n v) (d : zst9 p q x N v') (e : n = N) : v = v' := by
  subst e
  by_cases y : zstG p q x n
  · rw [c.1 y, d.1 y]
  · rw [c.2 y, d.2 y]
theorem zimc_r {p q v q' Q v' Q' : Int} (c : zimc p q v q') (d : zimc p Q v' Q') (e : q = Q) : v = v' ∧ q' = Q' := by
  subst e
  by_cases z : p = 0
  · have a := c.2.1 z; have b := d.2.1 z
    by_cases y : q = 0
    · have a1 := c.2.2.1 z y; have b1 := d.2.2.1 z y; omega
    · have a1 := c.2.2.2 z y; have b1 := d.2.2.2 z y; omega
  · have a := c.1 z; have b := d.1 z; omega
theorem zimx_r {p q n k n' k' Q N K N' K' v Q' : Int} (c : zimx p q n k n' k') (d : zimx p Q N K N' K') (z : zimc p Q v Q') (e : q = Q) (hq : 0 ≤ q ∧ q ≤ 1) (en : n = N) (ek : Q = 1 → k = K) : n' = N' ∧ (Q' = 1 → k' = K') := by
  subst e; subst en
  by_cases y : p = 0
  · have z1 := z.2.1 y
    have a := c.2.1 y; have b := d.2.1 y
    by_cases w : q = 0
    · have a1 := c.2.2.1 y w; have b1 := d.2.2.1 y w
      exact ⟨by omega, fun u => by omega⟩
    · have a1 := c.2.2.2 y w; have b1 := d.2.2.2 y w
      have e9 := ek (by omega)
      exact ⟨by omega, fun u => by omega⟩
  · have a := c.1 y; have b := d.1 y
    exact ⟨by omega, fun _ => by omega⟩
theorem zSt_pt {h h0 hf : zM} (f0 : zfr [0, 58, 59, 60] [] h h0) (q : zSt h0 hf 1727) {j c k : Int} (hj : 0 ≤ j ∧ j < 1727) (hl : zloc j = (c, k)) : (¬ h0.2 0 58 = 0 → hf.2 35 j = h.2 c k ∧ hf.2 c k = h.2 c k) ∧ (h0.2 0 58 = 0 → hf.2 35 j = h.2 35 j ∧ hf.2 c k = h.2 35 j) := by
  obtain ⟨q1, q2, q3, q4, q5⟩ := q
  have l0 : h0.2 c k = h.2 c k := by
    have zj := zinv_i (i := j) hj
    rw [hl] at zj
    refine f0.2 _ _ rfl (fun w => ?_)
    have hm := List.contains_iff_mem.mp w.2
    have a := zj.1
    have w1 : c = 0 := w.1
    rw [w1] at a
    simp only [List.mem_cons, List.mem_nil_iff, or_false] at hm
    rcases hm with hm | hm | hm | hm <;> rw [hm] at a <;> simp [zinv] at a <;> omega
  have e3 := q3 j hj.1 hj.2
  unfold zlv at e3 q4
  rw [hl] at e3
  refine ⟨fun t => ?_, fun t => ?_⟩
  · have e4 := q4 t j hj.1 hj.2
    rw [hl] at e4
    have e4' : hf.2 c k = h0.2 c k := e4
    have e3' : hf.2 c k = hf.2 35 j := e3
    rw [← e3', e4', l0]; exact ⟨rfl, rfl⟩
  · have e5 := q5 t j
    have e6 : h0.2 35 j = h.2 35 j := zfr_a f0 rfl (by decide)
    have e3' : hf.2 c k = hf.2 35 j := e3
    rw [e3', e5, e6]; exact ⟨rfl, rfl⟩

abbrev q2_X11_wheel (h : zM) (p1 : Int) (p2 : Int) : Option zV → zM → Prop := zqi fun v h' => ((-2147483648) ≤ v ∧ v ≤ 2147483647) ∧ okM h' ∧ zfr [0, 42] [23, 24] h h' ∧ (zcw (p1 = -1) (6 ≤ p1 ∧ p1 ≤ 99) 5 (h.2 0 42) v (h'.2 0 42))
set_option maxRecDepth 100000 in
set_option maxHeartbeats 4000000 in
theorem s2_X11_wheel (l : Launch) (h : zM) (p1 : Int) (p2 : Int) (s0 : okM h) (b_p1 : (-2147483648) ≤ p1 ∧ p1 ≤ 2147483647) (b_p2 : 0 ≤ p2 ∧ p2 ≤ 1) : zT shM l yX11_wheel cX11_wheel 3 (some .int) (rmL 2) 0 0 [.inr 0, .inl p1, .inl p2] h (q2_X11_wheel h p1 p2) := by
  refine zT_of (by decide +kernel) (L0 := [some (.inr 0), some (.inl p1), some (.inl p2)]) rfl (Nat.le_of_ble_eq_true rfl) ?_
  refine zj_aload_n (zdk ttX11_wheel 0 rfl rfl) rfl (by decide) ?_
  refine zj_iconst (zdk ttX11_wheel 1 rfl rfl) ?_
  refine zj_puti (zdk ttX11_wheel 2 rfl rfl) zf_RX11_120 rfl (k_M s0) (Or.inl zw_RX11_120) (k2 := 0) rfl (fun h1 e2 => ?_)
  refine zj_iload_n (zdk ttX11_wheel 3 rfl rfl) rfl ?_
  refine zj_iconst (zdk ttX11_wheel 4 rfl rfl) ?_
  refine zj_icmp_ne (t := 17) (zdk ttX11_wheel 5 rfl rfl) (by decide) (by omega) (by decide) (fun c3 => ?_) (fun c3 => ?_)
  · refine zj_aload_n (zdk ttX11_wheel 11 rfl rfl) rfl (by decide) ?_
    refine zj_iload_n (zdk ttX11_wheel 12 rfl rfl) rfl ?_
    refine zj_bipush (zdk ttX11_wheel 13 rfl rfl) (by decide) ?_
    refine zj_bipush (zdk ttX11_wheel 14 rfl rfl) (by decide) ?_
    have s4 : okM h1 := fwM_0 s0 e2 (by omega)
    refine zj_callV (av := [.inl p1, .inl 6, .inl 99]) (st := []) (zdk ttX11_wheel 15 rfl rfl) mb_X11_isIn mv_RX11_139 (ci := 11) rfl rfl (k_M s4) rfl rfl (Nat.le_of_ble_eq_true rfl) (s_X11_isIn l h1 p1 6 99 s4 (by omega) (by omega) (by omega)) (rm_ok (by decide) (by decide)) (zq_i fun v6 h7 q5 => ?_)
    obtain ⟨rfl, ⟨rfl, b8⟩ | ⟨rfl, b8⟩⟩ := q5
    · refine zj_if_eq (t := 37) (zdk ttX11_wheel 16 rfl rfl) (by decide) (by decide) (fun c9 => ?_) (fun c9 => ?_)
      · refine zj_iconst (zdk ttX11_wheel 21 rfl rfl) ?_
        have f10 : zfr [0, 42] [23, 24] h h1 := zfr_wf (zfr_r _ _ _) e2 rfl
        have b11 : h1.2 0 42 = (h.2 0 42) := (zwr_r e2 (by first | decide | exact (absurd ·.1 (by decide)) | exact (absurd ·.2 (by decide)) | omega))
        have b12 : 0 ≤ (h.2 0 42) ∧ (h.2 0 42) ≤ 5 := fM_42 s0
        exact zj_iret rfl (zdk ttX11_wheel 22 rfl rfl) (Nat.le_refl _) (Nat.le_refl _) ⟨(-1), rfl, by omega, s4, f10, by unfold zcw; omega⟩
      · exact absurd c9 (by omega)
    · refine zj_if_eq (t := 37) (zdk ttX11_wheel 16 rfl rfl) (by decide) (by decide) (fun c13 => ?_) (fun c13 => ?_)
      · exact absurd c13 (by omega)
      · refine zj_aload_n (zdk ttX11_wheel 17 rfl rfl) rfl (by decide) ?_
        have b14 : 0 ≤ (h.2 0 42) ∧ (h.2 0 42) ≤ 5 := fM_42 s0
        refine zj_geti (v := (h.2 0 42)) (zdk ttX11_wheel 18 rfl rfl) zf_RX11_401 rfl (k_M s4) (zwr_r e2 (by first | decide | exact (absurd ·.1 (by decide)) | exact (absurd ·.2 (by decide)) | omega)) ?_
        refine zj_iconst (zdk ttX11_wheel 19 rfl rfl) ?_
        refine zj_icmp_ne (t := 39) (zdk ttX11_wheel 20 rfl rfl) (by decide) (by omega) (by decide) (fun c15 => ?_) (fun c15 => ?_)
        · refine zj_aload_n (zdk ttX11_wheel 23 rfl rfl) rfl (by decide) ?_
          refine zj_getr (r := 23) (zdk ttX11_wheel 24 rfl rfl) zf_RX11_80 rfl (k_M s4) (rfM_43 s4) ?_
          refine zj_aload_n (zdk ttX11_wheel 25 rfl rfl) rfl (by decide) ?_
          refine zj_geti (v := (h.2 0 42)) (zdk ttX11_wheel 26 rfl rfl) zf_RX11_401 rfl (k_M s4) (zwr_r e2 (by first | decide | exact (absurd ·.1 (by decide)) | exact (absurd ·.2 (by decide)) | omega)) ?_
          refine zj_iload_n (zdk ttX11_wheel 27 rfl rfl) rfl ?_
          refine zj_iast (zdk ttX11_wheel 28 rfl rfl) (kaM_23 s4) (by decide) (by omega) (fun h16 e17 => ?_)
          refine zj_aload_n (zdk ttX11_wheel 29 rfl rfl) rfl (by decide) ?_
          have b19 : h1.2 0 42 = (h.2 0 42) := (zwr_r e2 (by first | decide | exact (absurd ·.1 (by decide)) | exact (absurd ·.2 (by decide)) | omega))
          have s18 : okM h16 := okM_teeth s4 e17 (by omega) (by omega)
          refine zj_getr (r := 24) (zdk ttX11_wheel 30 rfl rfl) zf_RX11_83 rfl (k_M s18) (rfM_44 s18) ?_
          refine zj_aload_n (zdk ttX11_wheel 31 rfl rfl) rfl (by decide) ?_
          refine zj_geti (v := (h.2 0 42)) (zdk ttX11_wheel 32 rfl rfl) zf_RX11_401 rfl (k_M s18) ((zwr_r e17 (by first | decide | exact (absurd ·.1 (by decide)) | exact (absurd ·.2 (by decide)) | omega)).trans (zwr_r e2 (by first | decide | exact (absurd ·.1 (by decide)) | exact (absurd ·.2 (by decide)) | omega))) ?_
          refine zj_iload_n (zdk ttX11_wheel 33 rfl rfl) rfl ?_
          refine zj_if_eq (t := 65) (zdk ttX11_wheel 34 rfl rfl) (by decide) (by omega) (fun c20 => ?_) (fun c20 => ?_)
          · refine zj_iconst (zdk ttX11_wheel 37 rfl rfl) ?_
            refine zj_iast (zdk ttX11_wheel 38 rfl rfl) (kaM_24 s18) (by decide) (by omega) (fun h21 e22 => ?_)
            refine zj_aload_n (zdk ttX11_wheel 39 rfl rfl) rfl (by decide) ?_
            refine zj_aload_n (zdk ttX11_wheel 40 rfl rfl) rfl (by decide) ?_
            have s23 : okM h21 := awM_24 s18 e22 (by omega) (by unfold nsp; omega)
            refine zj_geti (v := (h.2 0 42)) (zdk ttX11_wheel 41 rfl rfl) zf_RX11_401 rfl (k_M s23) (((zwr_r e22 (by first | decide | exact (absurd ·.1 (by decide)) | exact (absurd ·.2 (by decide)) | omega)).trans (zwr_r e17 (by first | decide | exact (absurd ·.1 (by decide)) | exact (absurd ·.2 (by decide)) | omega))).trans (zwr_r e2 (by first | decide | exact (absurd ·.1 (by decide)) | exact (absurd ·.2 (by decide)) | omega))) ?_
            refine zj_iconst (zdk ttX11_wheel 42 rfl rfl) ?_
            refine zj_iadd (zdk ttX11_wheel 43 rfl rfl) ?_
            refine zj_puti (zdk ttX11_wheel 44 rfl rfl) zf_RX11_401 rfl (k_M s23) (Or.inl zw_RX11_401) (k2 := 42) rfl (fun h24 e25 => ?_)
            refine zj_aload_n (zdk ttX11_wheel 45 rfl rfl) rfl (by decide) ?_
            have z27 : 0 ≤ h1.2 0 42 ∧ h1.2 0 42 ≤ 5 := s4.2.1 0 42
            have z27e : h1.2 0 42 = (h.2 0 42) := by first | rfl | exact (zwr_r e2 (by first | decide | exact (absurd ·.1 (by decide)) | exact (absurd ·.2 (by decide)) | omega))
            have z27c : ∀ k, 0 ≤ k → k < ((h.2 0 42) + 1) → 6 ≤ h21.2 23 k ∧ h21.2 23 k ≤ 99 := by
              intro k q1 q2
              rw [zwr_r e22 (by first | decide | exact (absurd ·.1 (by decide)) | exact (absurd ·.2 (by decide)) | omega)]
              by_cases q : k = (h.2 0 42)
              · rw [q, zwr_v e17]; omega
              · rw [zwr_r e17 (by first | decide | exact (absurd ·.1 (by decide)) | exact (absurd ·.2 (by decide)) | omega)]; exact s4.2.2.2.1.1 k q1 (by omega)
            have s26 : okM h24 := okM_wheel s23 e25 (by omega) z27c
            refine zj_geti (v := ((h.2 0 42) + 1)) (zdk ttX11_wheel 46 rfl rfl) zf_RX11_401 rfl (k_M s26) (zwr_v e25) ?_
            have f31 : zfr [0, 42] [23, 24] h h1 := zfr_wf (zfr_r _ _ _) e2 rfl
            have f30 : zfr [0, 42] [23, 24] h h16 := zfr_wa f31 e17 rfl
            have f29 : zfr [0, 42] [23, 24] h h21 := zfr_wa f30 e22 rfl
            have f28 : zfr [0, 42] [23, 24] h h24 := zfr_wf f29 e25 rfl
            have b32 : h24.2 0 42 = ((h.2 0 42) + 1) := (zwr_v e25)
            exact zj_iret rfl (zdk ttX11_wheel 47 rfl rfl) (Nat.le_refl _) (Nat.le_refl _) ⟨((h.2 0 42) + 1), rfl, by omega, s26, f28, by unfold zcw; omega⟩
          · refine zj_iconst (zdk ttX11_wheel 35 rfl rfl) ?_
            refine zj_goto (t := 66) (zdk ttX11_wheel 36 rfl rfl) (by decide) ?_
            refine zj_iast (zdk ttX11_wheel 38 rfl rfl) (kaM_24 s18) (by decide) (by omega) (fun h33 e34 => ?_)
            refine zj_aload_n (zdk ttX11_wheel 39 rfl rfl) rfl (by decide) ?_
            refine zj_aload_n (zdk ttX11_wheel 40 rfl rfl) rfl (by decide) ?_
            have s35 : okM h33 := awM_24 s18 e34 (by omega) (by unfold nsp; omega)
            refine zj_geti (v := (h.2 0 42)) (zdk ttX11_wheel 41 rfl rfl) zf_RX11_401 rfl (k_M s35) (((zwr_r e34 (by first | decide | exact (absurd ·.1 (by decide)) | exact (absurd ·.2 (by decide)) | omega)).trans (zwr_r e17 (by first | decide | exact (absurd ·.1 (by decide)) | exact (absurd ·.2 (by decide)) | omega))).trans (zwr_r e2 (by first | decide | exact (absurd ·.1 (by decide)) | exact (absurd ·.2 (by decide)) | omega))) ?_
            refine zj_iconst (zdk ttX11_wheel 42 rfl rfl) ?_
            refine zj_iadd (zdk ttX11_wheel 43 rfl rfl) ?_
            refine zj_puti (zdk ttX11_wheel 44 rfl rfl) zf_RX11_401 rfl (k_M s35) (Or.inl zw_RX11_401) (k2 := 42) rfl (fun h36 e37 => ?_)
            refine zj_aload_n (zdk ttX11_wheel 45 rfl rfl) rfl (by decide) ?_
            have z39 : 0 ≤ h1.2 0 42 ∧ h1.2 0 42 ≤ 5 := s4.2.1 0 42
            have z39e : h1.2 0 42 = (h.2 0 42) := by first | rfl | exact (zwr_r e2 (by first | decide | exact (absurd ·.1 (by decide)) | exact (absurd ·.2 (by decide)) | omega))
            have z39c : ∀ k, 0 ≤ k → k < ((h.2 0 42) + 1) → 6 ≤ h33.2 23 k ∧ h33.2 23 k ≤ 99 := by
              intro k q1 q2
              rw [zwr_r e34 (by first | decide | exact (absurd ·.1 (by decide)) | exact (absurd ·.2 (by decide)) | omega)]
              by_cases q : k = (h.2 0 42)
              · rw [q, zwr_v e17]; omega
              · rw [zwr_r e17 (by first | decide | exact (absurd ·.1 (by decide)) | exact (absurd ·.2 (by decide)) | omega)]; exact s4.2.2.2.1.1 k q1 (by omega)
            have s38 : okM h36 := okM_wheel s35 e37 (by omega) z39c
            refine zj_geti (v := ((h.2 0 42) + 1)) (zdk ttX11_wheel 46 rfl rfl) zf_RX11_401 rfl (k_M s38) (zwr_v e37) ?_
            have f43 : zfr [0, 42] [23, 24] h h1 := zfr_wf (zfr_r _ _ _) e2 rfl
            have f42 : zfr [0, 42] [23, 24] h h16 := zfr_wa f43 e17 rfl
            have f41 : zfr [0, 42] [23, 24] h h33 := zfr_wa f42 e34 rfl
            have f40 : zfr [0, 42] [23, 24] h h36 := zfr_wf f41 e37 rfl
            have b44 : h36.2 0 42 = ((h.2 0 42) + 1) := (zwr_v e37)
            exact zj_iret rfl (zdk ttX11_wheel 47 rfl rfl) (Nat.le_refl _) (Nat.le_refl _) ⟨((h.2 0 42) + 1), rfl, by omega, s38, f40, by unfold zcw; omega⟩
        · refine zj_iconst (zdk ttX11_wheel 21 rfl rfl) ?_
          have f45 : zfr [0, 42] [23, 24] h h1 := zfr_wf (zfr_r _ _ _) e2 rfl
          have b46 : h1.2 0 42 = (h.2 0 42) := (zwr_r e2 (by first | decide | exact (absurd ·.1 (by decide)) | exact (absurd ·.2 (by decide)) | omega))
          exact zj_iret rfl (zdk ttX11_wheel 22 rfl rfl) (Nat.le_refl _) (Nat.le_refl _) ⟨(-1), rfl, by omega, s4, f45, by unfold zcw; omega⟩
  · refine zj_aload_n (zdk ttX11_wheel 6 rfl rfl) rfl (by decide) ?_
    refine zj_iconst (zdk ttX11_wheel 7 rfl rfl) ?_
    have s47 : okM h1 := fwM_0 s0 e2 (by omega)
    refine zj_puti (zdk ttX11_wheel 8 rfl rfl) zf_RX11_401 rfl (k_M s47) (Or.inl zw_RX11_401) (k2 := 42) rfl (fun h48 e49 => ?_)
    refine zj_iconst (zdk ttX11_wheel 9 rfl rfl) ?_
    have s50 : okM h48 := okM_wheel s47 e49 (by decide) (fun k q1 q2 => absurd q1 (by omega))
    have f52 : zfr [0, 42] [23, 24] h h1 := zfr_wf (zfr_r _ _ _) e2 rfl
    have f51 : zfr [0, 42] [23, 24] h h48 := zfr_wf f52 e49 rfl
    have b53 : h48.2 0 42 = 0 := (zwr_v e49)
    exact zj_iret rfl (zdk ttX11_wheel 10 rfl rfl) (Nat.le_refl _) (Nat.le_refl _) ⟨0, rfl, by omega, s50, f51, by unfold zcw; omega⟩

abbrev q2_X11_couple (h : zM) (p1 : Int) (p2 : Int) : Option zV → zM → Prop := zqi fun v h' => ((-2147483648) ≤ v ∧ v ≤ 2147483647) ∧ okM h' ∧ zfr [0, 45] [25] h h' ∧ (0 ≤ h.2 0 45 → h.2 0 45 ≤ 8 → zcw (p1 = -1) ((0 ≤ p1 ∧ p1 ≤ 5) ∧ (0 ≤ p2 ∧ p2 ≤ 5) ∧ ¬ p1 = p2) 8 (h.2 0 45) v (h'.2 0 45))
set_option maxRecDepth 100000 in
set_option maxHeartbeats 4000000 in
theorem s2_X11_couple (l : Launch) (h : zM) (p1 : Int) (p2 : Int) (s0 : okM h) (b_p1 : (-2147483648) ≤ p1 ∧ p1 ≤ 2147483647) (b_p2 : (-2147483648) ≤ p2 ∧ p2 ≤ 2147483647) : zT shM l yX11_couple cX11_couple 4 (some .int) (rmL 2) 0 0 [.inr 0, .inl p1, .inl p2] h (q2_X11_couple h p1 p2) := by
  refine zT_of (by decide +kernel) (L0 := [some (.inr 0), some (.inl p1), some (.inl p2), none]) rfl (Nat.le_of_ble_eq_true rfl) ?_
  refine zj_aload_n (zdk ttX11_couple 0 rfl rfl) rfl (by decide) ?_
  refine zj_iconst (zdk ttX11_couple 1 rfl rfl) ?_
  refine zj_puti (zdk ttX11_couple 2 rfl rfl) zf_RX11_120 rfl (k_M s0) (Or.inl zw_RX11_120) (k2 := 0) rfl (fun h1 e2 => ?_)
  refine zj_iload_n (zdk ttX11_couple 3 rfl rfl) rfl ?_
  refine zj_iconst (zdk ttX11_couple 4 rfl rfl) ?_
  refine zj_icmp_ne (t := 38) (zdk ttX11_couple 5 rfl rfl) (by decide) (by omega) (by decide) (fun c3 => ?_) (fun c3 => ?_)
  · refine zj_aload_n (zdk ttX11_couple 23 rfl rfl) rfl (by decide) ?_
    refine zj_iload_n (zdk ttX11_couple 24 rfl rfl) rfl ?_
    refine zj_iconst (zdk ttX11_couple 25 rfl rfl) ?_
    refine zj_iconst (zdk ttX11_couple 26 rfl rfl) ?_
    have s4 : okM h1 := fwM_0 s0 e2 (by omega)
    refine zj_callV (av := [.inl p1, .inl 0, .inl 5]) (st := []) (zdk ttX11_couple 27 rfl rfl) mb_X11_isIn mv_RX11_139 (ci := 11) rfl rfl (k_M s4) rfl rfl (Nat.le_of_ble_eq_true rfl) (s_X11_isIn l h1 p1 0 5 s4 (by omega) (by omega) (by omega)) (rm_ok (by decide) (by decide)) (zq_i fun v6 h7 q5 => ?_)
    obtain ⟨rfl, ⟨rfl, b8⟩ | ⟨rfl, b8⟩⟩ := q5
    · refine zj_if_eq (t := 72) (zdk ttX11_couple 28 rfl rfl) (by decide) (by decide) (fun c9 => ?_) (fun c9 => ?_)
      · refine zj_iconst (zdk ttX11_couple 42 rfl rfl) ?_
        have f10 : zfr [0, 45] [25] h h1 := zfr_wf (zfr_r _ _ _) e2 rfl
        have b11 : h1.2 0 45 = (h.2 0 45) := (zwr_r e2 (by first | decide | exact (absurd ·.1 (by decide)) | exact (absurd ·.2 (by decide)) | omega))
        have b12 : -2147483648 ≤ (h.2 0 45) ∧ (h.2 0 45) ≤ 2147483647 := fM_45 s0
        exact zj_iret rfl (zdk ttX11_couple 43 rfl rfl) (Nat.le_refl _) (Nat.le_refl _) ⟨(-1), rfl, by omega, s4, f10, by intro z8 z9; have w9 : zwp ((h.2 0 45) + 1) = (h.2 0 45) + 1 := zwp_id (by omega); unfold zcw; omega⟩
      · exact absurd c9 (by omega)
    · refine zj_if_eq (t := 72) (zdk ttX11_couple 28 rfl rfl) (by decide) (by decide) (fun c13 => ?_) (fun c13 => ?_)
      · exact absurd c13 (by omega)
      · refine zj_aload_n (zdk ttX11_couple 29 rfl rfl) rfl (by decide) ?_
        refine zj_iload_n (zdk ttX11_couple 30 rfl rfl) rfl ?_
        refine zj_iconst (zdk ttX11_couple 31 rfl rfl) ?_
        refine zj_iconst (zdk ttX11_couple 32 rfl rfl) ?_
        refine zj_callV (av := [.inl p2, .inl 0, .inl 5]) (st := []) (zdk ttX11_couple 33 rfl rfl) mb_X11_isIn mv_RX11_139 (ci := 11) rfl rfl (k_M s4) rfl rfl (Nat.le_of_ble_eq_true rfl) (s_X11_isIn l h1 p2 0 5 s4 (by omega) (by omega) (by omega)) (rm_ok (by decide) (by decide)) (zq_i fun v15 h16 q14 => ?_)
        obtain ⟨rfl, ⟨rfl, b17⟩ | ⟨rfl, b17⟩⟩ := q14
        · refine zj_if_eq (t := 72) (zdk ttX11_couple 34 rfl rfl) (by decide) (by decide) (fun c18 => ?_) (fun c18 => ?_)
          · refine zj_iconst (zdk ttX11_couple 42 rfl rfl) ?_
            have f19 : zfr [0, 45] [25] h h1 := zfr_wf (zfr_r _ _ _) e2 rfl
            have b20 : h1.2 0 45 = (h.2 0 45) := (zwr_r e2 (by first | decide | exact (absurd ·.1 (by decide)) | exact (absurd ·.2 (by decide)) | omega))
            have b21 : -2147483648 ≤ (h.2 0 45) ∧ (h.2 0 45) ≤ 2147483647 := fM_45 s0
            exact zj_iret rfl (zdk ttX11_couple 43 rfl rfl) (Nat.le_refl _) (Nat.le_refl _) ⟨(-1), rfl, by omega, s4, f19, by intro z8 z9; have w9 : zwp ((h.2 0 45) + 1) = (h.2 0 45) + 1 := zwp_id (by omega); unfold zcw; omega⟩
          · exact absurd c18 (by omega)
        · refine zj_if_eq (t := 72) (zdk ttX11_couple 34 rfl rfl) (by decide) (by decide) (fun c22 => ?_) (fun c22 => ?_)
          · exact absurd c22 (by omega)
          · refine zj_iload_n (zdk ttX11_couple 35 rfl rfl) rfl ?_
            refine zj_iload_n (zdk ttX11_couple 36 rfl rfl) rfl ?_
            refine zj_icmp_eq (t := 72) (zdk ttX11_couple 37 rfl rfl) (by decide) (by omega) (by omega) (fun c23 => ?_) (fun c23 => ?_)
            · refine zj_iconst (zdk ttX11_couple 42 rfl rfl) ?_
              have f24 : zfr [0, 45] [25] h h1 := zfr_wf (zfr_r _ _ _) e2 rfl
              have b25 : h1.2 0 45 = (h.2 0 45) := (zwr_r e2 (by first | decide | exact (absurd ·.1 (by decide)) | exact (absurd ·.2 (by decide)) | omega))
              have b26 : -2147483648 ≤ (h.2 0 45) ∧ (h.2 0 45) ≤ 2147483647 := fM_45 s0
              exact zj_iret rfl (zdk ttX11_couple 43 rfl rfl) (Nat.le_refl _) (Nat.le_refl _) ⟨(-1), rfl, by omega, s4, f24, by intro z8 z9; have w9 : zwp ((h.2 0 45) + 1) = (h.2 0 45) + 1 := zwp_id (by omega); unfold zcw; omega⟩
            · refine zj_aload_n (zdk ttX11_couple 38 rfl rfl) rfl (by decide) ?_
              have b27 : -2147483648 ≤ (h.2 0 45) ∧ (h.2 0 45) ≤ 2147483647 := fM_45 s0
              refine zj_geti (v := (h.2 0 45)) (zdk ttX11_couple 39 rfl rfl) zf_RX11_408 rfl (k_M s4) (zwr_r e2 (by first | decide | exact (absurd ·.1 (by decide)) | exact (absurd ·.2 (by decide)) | omega)) ?_
              refine zj_bipush (zdk ttX11_couple 40 rfl rfl) (by decide) ?_
              refine zj_icmp_ne (t := 74) (zdk ttX11_couple 41 rfl rfl) (by decide) (by omega) (by decide) (fun c28 => ?_) (fun c28 => ?_)
              · refine zj_aload_n (zdk ttX11_couple 44 rfl rfl) rfl (by decide) ?_
                refine zj_getr (r := 25) (zdk ttX11_couple 45 rfl rfl) zf_RX11_86 rfl (k_M s4) (rfM_46 s4) ?_
                refine zj_iload_n (zdk ttX11_couple 46 rfl rfl) rfl ?_
                refine zj_aload_n (zdk ttX11_couple 47 rfl rfl) rfl (by decide) ?_
                refine zj_getr (r := 25) (zdk ttX11_couple 48 rfl rfl) zf_RX11_86 rfl (k_M s4) (rfM_46 s4) ?_
                refine zj_iload_n (zdk ttX11_couple 49 rfl rfl) rfl ?_
                have b29 : -2147483648 ≤ (h.2 25 p1) ∧ (h.2 25 p1) ≤ 2147483647 := abM_25 s0 p1
                refine zj_iald (v := (h.2 25 p1)) (zdk ttX11_couple 50 rfl rfl) (kaM_25 s4) (by decide) (by omega) (zwr_r e2 (by first | decide | exact (absurd ·.1 (by decide)) | exact (absurd ·.2 (by decide)) | omega)) ?_
                refine zj_iconst (zdk ttX11_couple 51 rfl rfl) ?_
                refine zj_iload_n (zdk ttX11_couple 52 rfl rfl) rfl ?_
                refine zj_ishl (zdk ttX11_couple 53 rfl rfl) ?_
                have b30 := zshl_1 (n := p2) (a := 0) (b := 5) (lo := 1) (hi := 32) (by omega) (by decide) (by decide) (by decide)
                refine zj_ior (zdk ttX11_couple 54 rfl rfl) ?_
                have b31 := zor_in (h.2 25 p1) (zshl 1 p2)
                refine zj_iast (zdk ttX11_couple 55 rfl rfl) (kaM_25 s4) (by decide) (by omega) (fun h32 e33 => ?_)
                refine zj_aload_n (zdk ttX11_couple 56 rfl rfl) rfl (by decide) ?_
                have s34 : okM h32 := awM_25 s4 e33 (by omega) (by unfold nsp; omega)
                refine zj_getr (r := 25) (zdk ttX11_couple 57 rfl rfl) zf_RX11_86 rfl (k_M s34) (rfM_46 s34) ?_
                refine zj_iload_n (zdk ttX11_couple 58 rfl rfl) rfl ?_
                refine zj_aload_n (zdk ttX11_couple 59 rfl rfl) rfl (by decide) ?_
                refine zj_getr (r := 25) (zdk ttX11_couple 60 rfl rfl) zf_RX11_86 rfl (k_M s34) (rfM_46 s34) ?_
                refine zj_iload_n (zdk ttX11_couple 61 rfl rfl) rfl ?_
                have b35 : -2147483648 ≤ (h32.2 25 p2) ∧ (h32.2 25 p2) ≤ 2147483647 := abM_25 s34 p2
                refine zj_iald (v := (h32.2 25 p2)) (zdk ttX11_couple 62 rfl rfl) (kaM_25 s34) (by decide) (by omega) rfl ?_
                refine zj_iconst (zdk ttX11_couple 63 rfl rfl) ?_
                refine zj_iload_n (zdk ttX11_couple 64 rfl rfl) rfl ?_
                refine zj_ishl (zdk ttX11_couple 65 rfl rfl) ?_
                have b36 := zshl_1 (n := p1) (a := 0) (b := 5) (lo := 1) (hi := 32) (by omega) (by decide) (by decide) (by decide)
                refine zj_ior (zdk ttX11_couple 66 rfl rfl) ?_
                have b37 := zor_in (h32.2 25 p2) (zshl 1 p1)
                refine zj_iast (zdk ttX11_couple 67 rfl rfl) (kaM_25 s34) (by decide) (by omega) (fun h38 e39 => ?_)
                refine zj_aload_n (zdk ttX11_couple 68 rfl rfl) rfl (by decide) ?_
                refine zj_aload_n (zdk ttX11_couple 69 rfl rfl) rfl (by decide) ?_
                have s40 : okM h38 := awM_25 s34 e39 (by omega) (by unfold nsp; omega)
                refine zj_geti (v := (h.2 0 45)) (zdk ttX11_couple 70 rfl rfl) zf_RX11_408 rfl (k_M s40) (((zwr_r e39 (by first | decide | exact (absurd ·.1 (by decide)) | exact (absurd ·.2 (by decide)) | omega)).trans (zwr_r e33 (by first | decide | exact (absurd ·.1 (by decide)) | exact (absurd ·.2 (by decide)) | omega))).trans (zwr_r e2 (by first | decide | exact (absurd ·.1 (by decide)) | exact (absurd ·.2 (by decide)) | omega))) ?_
                refine zj_iconst (zdk ttX11_couple 71 rfl rfl) ?_
                refine zj_iadd (zdk ttX11_couple 72 rfl rfl) ?_
                refine zj_wrap ?_
                have b41 := zwp_in ((h.2 0 45) + 1)
                refine zj_puti (zdk ttX11_couple 73 rfl rfl) zf_RX11_408 rfl (k_M s40) (Or.inl zw_RX11_408) (k2 := 45) rfl (fun h42 e43 => ?_)
                refine zj_aload_n (zdk ttX11_couple 74 rfl rfl) rfl (by decide) ?_
                have s44 : okM h42 := fwM_45 s40 e43 (by omega)
                refine zj_geti (v := (zwp ((h.2 0 45) + 1))) (zdk ttX11_couple 75 rfl rfl) zf_RX11_408 rfl (k_M s44) (zwr_v e43) ?_
                have f48 : zfr [0, 45] [25] h h1 := zfr_wf (zfr_r _ _ _) e2 rfl
                have f47 : zfr [0, 45] [25] h h32 := zfr_wa f48 e33 rfl
                have f46 : zfr [0, 45] [25] h h38 := zfr_wa f47 e39 rfl
                have f45 : zfr [0, 45] [25] h h42 := zfr_wf f46 e43 rfl
                have b49 : h42.2 0 45 = (zwp ((h.2 0 45) + 1)) := (zwr_v e43)
                exact zj_iret rfl (zdk ttX11_couple 76 rfl rfl) (Nat.le_refl _) (Nat.le_refl _) ⟨(zwp ((h.2 0 45) + 1)), rfl, by omega, s44, f45, by intro z8 z9; have w9 : zwp ((h.2 0 45) + 1) = (h.2 0 45) + 1 := zwp_id (by omega); unfold zcw; omega⟩
              · refine zj_iconst (zdk ttX11_couple 42 rfl rfl) ?_
                have f50 : zfr [0, 45] [25] h h1 := zfr_wf (zfr_r _ _ _) e2 rfl
                have b51 : h1.2 0 45 = (h.2 0 45) := (zwr_r e2 (by first | decide | exact (absurd ·.1 (by decide)) | exact (absurd ·.2 (by decide)) | omega))
                exact zj_iret rfl (zdk ttX11_couple 43 rfl rfl) (Nat.le_refl _) (Nat.le_refl _) ⟨(-1), rfl, by omega, s4, f50, by intro z8 z9; have w9 : zwp ((h.2 0 45) + 1) = (h.2 0 45) + 1 := zwp_id (by omega); unfold zcw; omega⟩
  · refine zj_aload_n (zdk ttX11_couple 6 rfl rfl) rfl (by decide) ?_
    refine zj_iconst (zdk ttX11_couple 7 rfl rfl) ?_
    have s52 : okM h1 := fwM_0 s0 e2 (by omega)
    refine zj_puti (zdk ttX11_couple 8 rfl rfl) zf_RX11_408 rfl (k_M s52) (Or.inl zw_RX11_408) (k2 := 45) rfl (fun h53 e54 => ?_)
    refine zj_iconst (zdk ttX11_couple 9 rfl rfl) ?_
    refine zj_istore_n (L' := [some (.inr 0), some (.inl p1), some (.inl p2), some (.inl 0)]) (zdk ttX11_couple 10 rfl rfl) (by decide) rfl ?_
    have lp77 : ∀ (n17 : Nat) (x55 : Int) (h56 : zM), (0 ≤ x55 ∧ x55 ≤ 6) → okM h56 → zfr [0, 45] [25] h h56 → (h56.2 0 45 = 0) → (7 - x55).toNat < n17 → zJ shM l yX11_couple cX11_couple 4 (some .int) (rmL 2) 0 0 (q2_X11_couple h p1 p2) 0 0 17 [some (.inr 0), some (.inl p1), some (.inl p2), some (.inl x55)] [] h56 := by
      intro n17
      induction n17 with
      | zero => intro x55 h56 b78 s57 f58 u79 m80; exact absurd m80 (Nat.not_lt_zero _)
      | succ n17 ih81 =>
        intro x55 h56 b78 s57 f58 u79 m80
        refine zj_iload_n (zdk ttX11_couple 11 rfl rfl) rfl ?_
        refine zj_bipush (zdk ttX11_couple 12 rfl rfl) (by decide) ?_
        refine zj_icmp_ge (t := 36) (zdk ttX11_couple 13 rfl rfl) (by decide) (by omega) (by decide) (fun c82 => ?_) (fun c82 => ?_)
        · refine zj_iconst (zdk ttX11_couple 21 rfl rfl) ?_
          have b83 : -2147483648 ≤ (h56.2 0 45) ∧ (h56.2 0 45) ≤ 2147483647 := fM_45 s57
          exact zj_iret rfl (zdk ttX11_couple 22 rfl rfl) (Nat.le_refl _) (Nat.le_refl _) ⟨0, rfl, by omega, s57, f58, by intro z8 z9; have w9 : zwp ((h.2 0 45) + 1) = (h.2 0 45) + 1 := zwp_id (by omega); unfold zcw; omega⟩
        · refine zj_aload_n (zdk ttX11_couple 14 rfl rfl) rfl (by decide) ?_
          refine zj_getr (r := 25) (zdk ttX11_couple 15 rfl rfl) zf_RX11_86 rfl (k_M s57) (rfM_46 s57) ?_
          refine zj_iload_n (zdk ttX11_couple 16 rfl rfl) rfl ?_
          refine zj_iconst (zdk ttX11_couple 17 rfl rfl) ?_
          refine zj_iast (zdk ttX11_couple 18 rfl rfl) (kaM_25 s57) (by decide) (by omega) (fun h84 e85 => ?_)
          refine zj_iinc (L' := [some (.inr 0), some (.inl p1), some (.inl p2), some (.inl (x55 + 1))]) (zdk ttX11_couple 19 rfl rfl) rfl (by decide) rfl ?_
          refine zj_goto (t := 17) (zdk ttX11_couple 20 rfl rfl) (by decide) ?_
          have b86 : h84.2 0 45 = (h56.2 0 45) := (zwr_r e85 (by first | decide | exact (absurd ·.1 (by decide)) | exact (absurd ·.2 (by decide)) | omega))
          have b87 : -2147483648 ≤ (h56.2 0 45) ∧ (h56.2 0 45) ≤ 2147483647 := fM_45 s57
          have s88 : okM h84 := awM_25 s57 e85 (by omega) (by unfold nsp; omega)
          have f89 : zfr [0, 45] [25] h h84 := zfr_wa f58 e85 rfl
          exact ih81  (x55 + 1) h84 (by omega) s88 f89 (by omega) (by omega)
    have b90 : h53.2 0 45 = 0 := (zwr_v e54)
    have s91 : okM h53 := fwM_45 s52 e54 (by omega)
    have f93 : zfr [0, 45] [25] h h1 := zfr_wf (zfr_r _ _ _) e2 rfl
    have f92 : zfr [0, 45] [25] h h53 := zfr_wf f93 e54 rfl
    exact lp77 _ 0 h53 (by omega) s91 f92 (by omega) (Nat.lt_succ_self _)

abbrev q2_X11_seat (h : zM) (p1 : Int) : Option zV → zM → Prop := zqi fun v h' => ((-2147483648) ≤ v ∧ v ≤ 2147483647) ∧ okM h' ∧ zfr [0, 49] [28] h h' ∧ (zcw (p1 = -1) (1 ≤ p1 ∧ p1 ≤ 99) 7 (h.2 0 49) v (h'.2 0 49))
set_option maxRecDepth 100000 in
set_option maxHeartbeats 4000000 in
theorem s2_X11_seat (l : Launch) (h : zM) (p1 : Int) (s0 : okM h) (b_p1 : (-2147483648) ≤ p1 ∧ p1 ≤ 2147483647) : zT shM l yX11_seat cX11_seat 2 (some .int) (rmL 2) 0 0 [.inr 0, .inl p1] h (q2_X11_seat h p1) := by
  refine zT_of (by decide +kernel) (L0 := [some (.inr 0), some (.inl p1)]) rfl (Nat.le_of_ble_eq_true rfl) ?_
  refine zj_aload_n (zdk ttX11_seat 0 rfl rfl) rfl (by decide) ?_
  refine zj_iconst (zdk ttX11_seat 1 rfl rfl) ?_
  refine zj_puti (zdk ttX11_seat 2 rfl rfl) zf_RX11_120 rfl (k_M s0) (Or.inl zw_RX11_120) (k2 := 0) rfl (fun h1 e2 => ?_)
  refine zj_iload_n (zdk ttX11_seat 3 rfl rfl) rfl ?_
  refine zj_iconst (zdk ttX11_seat 4 rfl rfl) ?_
  refine zj_icmp_ne (t := 17) (zdk ttX11_seat 5 rfl rfl) (by decide) (by omega) (by decide) (fun c3 => ?_) (fun c3 => ?_)
  · refine zj_aload_n (zdk ttX11_seat 11 rfl rfl) rfl (by decide) ?_
    refine zj_iload_n (zdk ttX11_seat 12 rfl rfl) rfl ?_
    refine zj_iconst (zdk ttX11_seat 13 rfl rfl) ?_
    refine zj_bipush (zdk ttX11_seat 14 rfl rfl) (by decide) ?_
    have s4 : okM h1 := fwM_0 s0 e2 (by omega)
    refine zj_callV (av := [.inl p1, .inl 1, .inl 99]) (st := []) (zdk ttX11_seat 15 rfl rfl) mb_X11_isIn mv_RX11_139 (ci := 11) rfl rfl (k_M s4) rfl rfl (Nat.le_of_ble_eq_true rfl) (s_X11_isIn l h1 p1 1 99 s4 (by omega) (by omega) (by omega)) (rm_ok (by decide) (by decide)) (zq_i fun v6 h7 q5 => ?_)
    obtain ⟨rfl, ⟨rfl, b8⟩ | ⟨rfl, b8⟩⟩ := q5
    · refine zj_if_eq (t := 37) (zdk ttX11_seat 16 rfl rfl) (by decide) (by decide) (fun c9 => ?_) (fun c9 => ?_)
      · refine zj_iconst (zdk ttX11_seat 21 rfl rfl) ?_
        have f10 : zfr [0, 49] [28] h h1 := zfr_wf (zfr_r _ _ _) e2 rfl
        have b11 : h1.2 0 49 = (h.2 0 49) := (zwr_r e2 (by first | decide | exact (absurd ·.1 (by decide)) | exact (absurd ·.2 (by decide)) | omega))
        have b12 : 0 ≤ (h.2 0 49) ∧ (h.2 0 49) ≤ 7 := fM_49 s0
        exact zj_iret rfl (zdk ttX11_seat 22 rfl rfl) (Nat.le_refl _) (Nat.le_refl _) ⟨(-1), rfl, by omega, s4, f10, by unfold zcw; omega⟩
      · exact absurd c9 (by omega)
    · refine zj_if_eq (t := 37) (zdk ttX11_seat 16 rfl rfl) (by decide) (by decide) (fun c13 => ?_) (fun c13 => ?_)
      · exact absurd c13 (by omega)
      · refine zj_aload_n (zdk ttX11_seat 17 rfl rfl) rfl (by decide) ?_
        have b14 : 0 ≤ (h.2 0 49) ∧ (h.2 0 49) ≤ 7 := fM_49 s0
        refine zj_geti (v := (h.2 0 49)) (zdk ttX11_seat 18 rfl rfl) zf_RX11_425 rfl (k_M s4) (zwr_r e2 (by first | decide | exact (absurd ·.1 (by decide)) | exact (absurd ·.2 (by decide)) | omega)) ?_
        refine zj_bipush (zdk ttX11_seat 19 rfl rfl) (by decide) ?_
        refine zj_icmp_ne (t := 39) (zdk ttX11_seat 20 rfl rfl) (by decide) (by omega) (by decide) (fun c15 => ?_) (fun c15 => ?_)
        · refine zj_aload_n (zdk ttX11_seat 23 rfl rfl) rfl (by decide) ?_
          refine zj_getr (r := 28) (zdk ttX11_seat 24 rfl rfl) zf_RX11_96 rfl (k_M s4) (rfM_50 s4) ?_
          refine zj_aload_n (zdk ttX11_seat 25 rfl rfl) rfl (by decide) ?_
          refine zj_geti (v := (h.2 0 49)) (zdk ttX11_seat 26 rfl rfl) zf_RX11_425 rfl (k_M s4) (zwr_r e2 (by first | decide | exact (absurd ·.1 (by decide)) | exact (absurd ·.2 (by decide)) | omega)) ?_
          refine zj_iload_n (zdk ttX11_seat 27 rfl rfl) rfl ?_
          refine zj_iast (zdk ttX11_seat 28 rfl rfl) (kaM_28 s4) (by decide) (by omega) (fun h16 e17 => ?_)
          refine zj_aload_n (zdk ttX11_seat 29 rfl rfl) rfl (by decide) ?_
          refine zj_aload_n (zdk ttX11_seat 30 rfl rfl) rfl (by decide) ?_
          have s18 : okM h16 := awM_28 s4 e17 (by omega) (by unfold nsp; omega)
          refine zj_geti (v := (h.2 0 49)) (zdk ttX11_seat 31 rfl rfl) zf_RX11_425 rfl (k_M s18) ((zwr_r e17 (by first | decide | exact (absurd ·.1 (by decide)) | exact (absurd ·.2 (by decide)) | omega)).trans (zwr_r e2 (by first | decide | exact (absurd ·.1 (by decide)) | exact (absurd ·.2 (by decide)) | omega))) ?_
          refine zj_iconst (zdk ttX11_seat 32 rfl rfl) ?_
          refine zj_iadd (zdk ttX11_seat 33 rfl rfl) ?_
          refine zj_puti (zdk ttX11_seat 34 rfl rfl) zf_RX11_425 rfl (k_M s18) (Or.inl zw_RX11_425) (k2 := 49) rfl (fun h19 e20 => ?_)
          refine zj_aload_n (zdk ttX11_seat 35 rfl rfl) rfl (by decide) ?_
          have s21 : okM h19 := fwM_49 s18 e20 (by omega)
          refine zj_geti (v := ((h.2 0 49) + 1)) (zdk ttX11_seat 36 rfl rfl) zf_RX11_425 rfl (k_M s21) (zwr_v e20) ?_
          have f24 : zfr [0, 49] [28] h h1 := zfr_wf (zfr_r _ _ _) e2 rfl
          have f23 : zfr [0, 49] [28] h h16 := zfr_wa f24 e17 rfl
          have f22 : zfr [0, 49] [28] h h19 := zfr_wf f23 e20 rfl
          have b25 : h19.2 0 49 = ((h.2 0 49) + 1) := (zwr_v e20)
          exact zj_iret rfl (zdk ttX11_seat 37 rfl rfl) (Nat.le_refl _) (Nat.le_refl _) ⟨((h.2 0 49) + 1), rfl, by omega, s21, f22, by unfold zcw; omega⟩
        · refine zj_iconst (zdk ttX11_seat 21 rfl rfl) ?_
          have f26 : zfr [0, 49] [28] h h1 := zfr_wf (zfr_r _ _ _) e2 rfl
          have b27 : h1.2 0 49 = (h.2 0 49) := (zwr_r e2 (by first | decide | exact (absurd ·.1 (by decide)) | exact (absurd ·.2 (by decide)) | omega))
          exact zj_iret rfl (zdk ttX11_seat 22 rfl rfl) (Nat.le_refl _) (Nat.le_refl _) ⟨(-1), rfl, by omega, s4, f26, by unfold zcw; omega⟩
  · refine zj_aload_n (zdk ttX11_seat 6 rfl rfl) rfl (by decide) ?_
    refine zj_iconst (zdk ttX11_seat 7 rfl rfl) ?_
    have s28 : okM h1 := fwM_0 s0 e2 (by omega)
    refine zj_puti (zdk ttX11_seat 8 rfl rfl) zf_RX11_425 rfl (k_M s28) (Or.inl zw_RX11_425) (k2 := 49) rfl (fun h29 e30 => ?_)
    refine zj_iconst (zdk ttX11_seat 9 rfl rfl) ?_
    have s31 : okM h29 := fwM_49 s28 e30 (by omega)
    have f33 : zfr [0, 49] [28] h h1 := zfr_wf (zfr_r _ _ _) e2 rfl
    have f32 : zfr [0, 49] [28] h h29 := zfr_wf f33 e30 rfl
    have b34 : h29.2 0 49 = 0 := (zwr_v e30)
    exact zj_iret rfl (zdk ttX11_seat 10 rfl rfl) (Nat.le_refl _) (Nat.le_refl _) ⟨0, rfl, by omega, s31, f32, by unfold zcw; omega⟩

abbrev q2_X11_arm (h : zM) (p1 : Int) (p2 : Int) : Option zV → zM → Prop := zqi fun v h' => ((-2147483648) ≤ v ∧ v ≤ 2147483647) ∧ okM h' ∧ zfr [0, 53] [31, 32] h h' ∧ (zcw (p1 = -100) ((-9 ≤ p1 ∧ p1 ≤ 9) ∧ ¬ p1 = 0 ∧ (1 ≤ p2 ∧ p2 ≤ 20)) 6 (h.2 0 53) v (h'.2 0 53))
set_option maxRecDepth 100000 in
set_option maxHeartbeats 4000000 in
theorem s2_X11_arm (l : Launch) (h : zM) (p1 : Int) (p2 : Int) (s0 : okM h) (b_p1 : (-2147483648) ≤ p1 ∧ p1 ≤ 2147483647) (b_p2 : (-2147483648) ≤ p2 ∧ p2 ≤ 2147483647) : zT shM l yX11_arm cX11_arm 3 (some .int) (rmL 2) 0 0 [.inr 0, .inl p1, .inl p2] h (q2_X11_arm h p1 p2) := by
  refine zT_of (by decide +kernel) (L0 := [some (.inr 0), some (.inl p1), some (.inl p2)]) rfl (Nat.le_of_ble_eq_true rfl) ?_
  refine zj_aload_n (zdk ttX11_arm 0 rfl rfl) rfl (by decide) ?_
  refine zj_iconst (zdk ttX11_arm 1 rfl rfl) ?_
  refine zj_puti (zdk ttX11_arm 2 rfl rfl) zf_RX11_120 rfl (k_M s0) (Or.inl zw_RX11_120) (k2 := 0) rfl (fun h1 e2 => ?_)
  refine zj_iload_n (zdk ttX11_arm 3 rfl rfl) rfl ?_
  refine zj_bipush (zdk ttX11_arm 4 rfl rfl) (by decide) ?_
  refine zj_icmp_ne (t := 18) (zdk ttX11_arm 5 rfl rfl) (by decide) (by omega) (by decide) (fun c3 => ?_) (fun c3 => ?_)
  · refine zj_aload_n (zdk ttX11_arm 11 rfl rfl) rfl (by decide) ?_
    refine zj_iload_n (zdk ttX11_arm 12 rfl rfl) rfl ?_
    refine zj_bipush (zdk ttX11_arm 13 rfl rfl) (by decide) ?_
    refine zj_bipush (zdk ttX11_arm 14 rfl rfl) (by decide) ?_
    have s4 : okM h1 := fwM_0 s0 e2 (by omega)
    refine zj_callV (av := [.inl p1, .inl (-9), .inl 9]) (st := []) (zdk ttX11_arm 15 rfl rfl) mb_X11_isIn mv_RX11_139 (ci := 11) rfl rfl (k_M s4) rfl rfl (Nat.le_of_ble_eq_true rfl) (s_X11_isIn l h1 p1 (-9) 9 s4 (by omega) (by omega) (by omega)) (rm_ok (by decide) (by decide)) (zq_i fun v6 h7 q5 => ?_)
    obtain ⟨rfl, ⟨rfl, b8⟩ | ⟨rfl, b8⟩⟩ := q5
    · refine zj_if_eq (t := 54) (zdk ttX11_arm 16 rfl rfl) (by decide) (by decide) (fun c9 => ?_) (fun c9 => ?_)
      · refine zj_iconst (zdk ttX11_arm 29 rfl rfl) ?_
        have f10 : zfr [0, 53] [31, 32] h h1 := zfr_wf (zfr_r _ _ _) e2 rfl
        have b11 : h1.2 0 53 = (h.2 0 53) := (zwr_r e2 (by first | decide | exact (absurd ·.1 (by decide)) | exact (absurd ·.2 (by decide)) | omega))
        have b12 : 0 ≤ (h.2 0 53) ∧ (h.2 0 53) ≤ 6 := fM_53 s0
        exact zj_iret rfl (zdk ttX11_arm 30 rfl rfl) (Nat.le_refl _) (Nat.le_refl _) ⟨(-1), rfl, by omega, s4, f10, by unfold zcw; omega⟩
      · exact absurd c9 (by omega)
    · refine zj_if_eq (t := 54) (zdk ttX11_arm 16 rfl rfl) (by decide) (by decide) (fun c13 => ?_) (fun c13 => ?_)
      · exact absurd c13 (by omega)
      · refine zj_iload_n (zdk ttX11_arm 17 rfl rfl) rfl ?_
        refine zj_if_eq (t := 54) (zdk ttX11_arm 18 rfl rfl) (by decide) (by omega) (fun c14 => ?_) (fun c14 => ?_)
        · refine zj_iconst (zdk ttX11_arm 29 rfl rfl) ?_
          have f15 : zfr [0, 53] [31, 32] h h1 := zfr_wf (zfr_r _ _ _) e2 rfl
          have b16 : h1.2 0 53 = (h.2 0 53) := (zwr_r e2 (by first | decide | exact (absurd ·.1 (by decide)) | exact (absurd ·.2 (by decide)) | omega))
          have b17 : 0 ≤ (h.2 0 53) ∧ (h.2 0 53) ≤ 6 := fM_53 s0
          exact zj_iret rfl (zdk ttX11_arm 30 rfl rfl) (Nat.le_refl _) (Nat.le_refl _) ⟨(-1), rfl, by omega, s4, f15, by unfold zcw; omega⟩
        · refine zj_aload_n (zdk ttX11_arm 19 rfl rfl) rfl (by decide) ?_
          refine zj_iload_n (zdk ttX11_arm 20 rfl rfl) rfl ?_
          refine zj_iconst (zdk ttX11_arm 21 rfl rfl) ?_
          refine zj_bipush (zdk ttX11_arm 22 rfl rfl) (by decide) ?_
          refine zj_callV (av := [.inl p2, .inl 1, .inl 20]) (st := []) (zdk ttX11_arm 23 rfl rfl) mb_X11_isIn mv_RX11_139 (ci := 11) rfl rfl (k_M s4) rfl rfl (Nat.le_of_ble_eq_true rfl) (s_X11_isIn l h1 p2 1 20 s4 (by omega) (by omega) (by omega)) (rm_ok (by decide) (by decide)) (zq_i fun v19 h20 q18 => ?_)
          obtain ⟨rfl, ⟨rfl, b21⟩ | ⟨rfl, b21⟩⟩ := q18
          · refine zj_if_eq (t := 54) (zdk ttX11_arm 24 rfl rfl) (by decide) (by decide) (fun c22 => ?_) (fun c22 => ?_)
            · refine zj_iconst (zdk ttX11_arm 29 rfl rfl) ?_
              have f23 : zfr [0, 53] [31, 32] h h1 := zfr_wf (zfr_r _ _ _) e2 rfl
              have b24 : h1.2 0 53 = (h.2 0 53) := (zwr_r e2 (by first | decide | exact (absurd ·.1 (by decide)) | exact (absurd ·.2 (by decide)) | omega))
              have b25 : 0 ≤ (h.2 0 53) ∧ (h.2 0 53) ≤ 6 := fM_53 s0
              exact zj_iret rfl (zdk ttX11_arm 30 rfl rfl) (Nat.le_refl _) (Nat.le_refl _) ⟨(-1), rfl, by omega, s4, f23, by unfold zcw; omega⟩
            · exact absurd c22 (by omega)
          · refine zj_if_eq (t := 54) (zdk ttX11_arm 24 rfl rfl) (by decide) (by decide) (fun c26 => ?_) (fun c26 => ?_)
            · exact absurd c26 (by omega)
            · refine zj_aload_n (zdk ttX11_arm 25 rfl rfl) rfl (by decide) ?_
              have b27 : 0 ≤ (h.2 0 53) ∧ (h.2 0 53) ≤ 6 := fM_53 s0
              refine zj_geti (v := (h.2 0 53)) (zdk ttX11_arm 26 rfl rfl) zf_RX11_445 rfl (k_M s4) (zwr_r e2 (by first | decide | exact (absurd ·.1 (by decide)) | exact (absurd ·.2 (by decide)) | omega)) ?_
              refine zj_bipush (zdk ttX11_arm 27 rfl rfl) (by decide) ?_
              refine zj_icmp_ne (t := 56) (zdk ttX11_arm 28 rfl rfl) (by decide) (by omega) (by decide) (fun c28 => ?_) (fun c28 => ?_)
              · refine zj_aload_n (zdk ttX11_arm 31 rfl rfl) rfl (by decide) ?_
                refine zj_getr (r := 31) (zdk ttX11_arm 32 rfl rfl) zf_RX11_105 rfl (k_M s4) (rfM_54 s4) ?_
                refine zj_aload_n (zdk ttX11_arm 33 rfl rfl) rfl (by decide) ?_
                refine zj_geti (v := (h.2 0 53)) (zdk ttX11_arm 34 rfl rfl) zf_RX11_445 rfl (k_M s4) (zwr_r e2 (by first | decide | exact (absurd ·.1 (by decide)) | exact (absurd ·.2 (by decide)) | omega)) ?_
                refine zj_iload_n (zdk ttX11_arm 35 rfl rfl) rfl ?_
                refine zj_iast (zdk ttX11_arm 36 rfl rfl) (kaM_31 s4) (by decide) (by omega) (fun h29 e30 => ?_)
                refine zj_aload_n (zdk ttX11_arm 37 rfl rfl) rfl (by decide) ?_
                have s31 : okM h29 := awM_31 s4 e30 (by omega) (by unfold nsp; omega)
                refine zj_getr (r := 32) (zdk ttX11_arm 38 rfl rfl) zf_RX11_108 rfl (k_M s31) (rfM_55 s31) ?_
                refine zj_aload_n (zdk ttX11_arm 39 rfl rfl) rfl (by decide) ?_
                refine zj_geti (v := (h.2 0 53)) (zdk ttX11_arm 40 rfl rfl) zf_RX11_445 rfl (k_M s31) ((zwr_r e30 (by first | decide | exact (absurd ·.1 (by decide)) | exact (absurd ·.2 (by decide)) | omega)).trans (zwr_r e2 (by first | decide | exact (absurd ·.1 (by decide)) | exact (absurd ·.2 (by decide)) | omega))) ?_
                refine zj_iload_n (zdk ttX11_arm 41 rfl rfl) rfl ?_
                refine zj_iast (zdk ttX11_arm 42 rfl rfl) (kaM_32 s31) (by decide) (by omega) (fun h32 e33 => ?_)
                refine zj_aload_n (zdk ttX11_arm 43 rfl rfl) rfl (by decide) ?_
                refine zj_aload_n (zdk ttX11_arm 44 rfl rfl) rfl (by decide) ?_
                have s34 : okM h32 := awM_32 s31 e33 (by omega) (by unfold nsp; omega)
                refine zj_geti (v := (h.2 0 53)) (zdk ttX11_arm 45 rfl rfl) zf_RX11_445 rfl (k_M s34) (((zwr_r e33 (by first | decide | exact (absurd ·.1 (by decide)) | exact (absurd ·.2 (by decide)) | omega)).trans (zwr_r e30 (by first | decide | exact (absurd ·.1 (by decide)) | exact (absurd ·.2 (by decide)) | omega))).trans (zwr_r e2 (by first | decide | exact (absurd ·.1 (by decide)) | exact (absurd ·.2 (by decide)) | omega))) ?_
                refine zj_iconst (zdk ttX11_arm 46 rfl rfl) ?_
                refine zj_iadd (zdk ttX11_arm 47 rfl rfl) ?_
                refine zj_puti (zdk ttX11_arm 48 rfl rfl) zf_RX11_445 rfl (k_M s34) (Or.inl zw_RX11_445) (k2 := 53) rfl (fun h35 e36 => ?_)
                refine zj_aload_n (zdk ttX11_arm 49 rfl rfl) rfl (by decide) ?_
                have s37 : okM h35 := fwM_53 s34 e36 (by omega)
                refine zj_geti (v := ((h.2 0 53) + 1)) (zdk ttX11_arm 50 rfl rfl) zf_RX11_445 rfl (k_M s37) (zwr_v e36) ?_
                have f41 : zfr [0, 53] [31, 32] h h1 := zfr_wf (zfr_r _ _ _) e2 rfl
                have f40 : zfr [0, 53] [31, 32] h h29 := zfr_wa f41 e30 rfl
                have f39 : zfr [0, 53] [31, 32] h h32 := zfr_wa f40 e33 rfl
                have f38 : zfr [0, 53] [31, 32] h h35 := zfr_wf f39 e36 rfl
                have b42 : h35.2 0 53 = ((h.2 0 53) + 1) := (zwr_v e36)
                exact zj_iret rfl (zdk ttX11_arm 51 rfl rfl) (Nat.le_refl _) (Nat.le_refl _) ⟨((h.2 0 53) + 1), rfl, by omega, s37, f38, by unfold zcw; omega⟩
              · refine zj_iconst (zdk ttX11_arm 29 rfl rfl) ?_
                have f43 : zfr [0, 53] [31, 32] h h1 := zfr_wf (zfr_r _ _ _) e2 rfl
                have b44 : h1.2 0 53 = (h.2 0 53) := (zwr_r e2 (by first | decide | exact (absurd ·.1 (by decide)) | exact (absurd ·.2 (by decide)) | omega))
                exact zj_iret rfl (zdk ttX11_arm 30 rfl rfl) (Nat.le_refl _) (Nat.le_refl _) ⟨(-1), rfl, by omega, s4, f43, by unfold zcw; omega⟩
  · refine zj_aload_n (zdk ttX11_arm 6 rfl rfl) rfl (by decide) ?_
    refine zj_iconst (zdk ttX11_arm 7 rfl rfl) ?_
    have s45 : okM h1 := fwM_0 s0 e2 (by omega)
    refine zj_puti (zdk ttX11_arm 8 rfl rfl) zf_RX11_445 rfl (k_M s45) (Or.inl zw_RX11_445) (k2 := 53) rfl (fun h46 e47 => ?_)
    refine zj_iconst (zdk ttX11_arm 9 rfl rfl) ?_
    have s48 : okM h46 := fwM_53 s45 e47 (by omega)
    have f50 : zfr [0, 53] [31, 32] h h1 := zfr_wf (zfr_r _ _ _) e2 rfl
    have f49 : zfr [0, 53] [31, 32] h h46 := zfr_wf f50 e47 rfl
    have b51 : h46.2 0 53 = 0 := (zwr_v e47)
    exact zj_iret rfl (zdk ttX11_arm 10 rfl rfl) (Nat.le_refl _) (Nat.le_refl _) ⟨0, rfl, by omega, s48, f49, by unfold zcw; omega⟩

abbrev q2_X11_feed (h : zM) (p1 : Int) (p2 : Int) (p3 : Int) (p4 : Int) (p5 : Int) : Option zV → zM → Prop := zqi fun v h' => ((-2147483648) ≤ v ∧ v ≤ 2147483647) ∧ okM h' ∧ zfr [0, 11] [7] h h' ∧ (zfd (h.2 0 11) v (h'.2 0 11))
set_option maxRecDepth 100000 in
set_option maxHeartbeats 4000000 in
theorem s2_X11_feed (l : Launch) (h : zM) (p1 : Int) (p2 : Int) (p3 : Int) (p4 : Int) (p5 : Int) (s0 : okM h) (b_p1 : (-2147483648) ≤ p1 ∧ p1 ≤ 2147483647) (b_p2 : (-2147483648) ≤ p2 ∧ p2 ≤ 2147483647) (b_p3 : (-2147483648) ≤ p3 ∧ p3 ≤ 2147483647) (b_p4 : (-2147483648) ≤ p4 ∧ p4 ≤ 2147483647) (b_p5 : (-2147483648) ≤ p5 ∧ p5 ≤ 2147483647) : zT shM l yX11_feed cX11_feed 6 (some .int) (rmL 2) 0 0 [.inr 0, .inl p1, .inl p2, .inl p3, .inl p4, .inl p5] h (q2_X11_feed h p1 p2 p3 p4 p5) := by
  refine zT_of (by decide +kernel) (L0 := [some (.inr 0), some (.inl p1), some (.inl p2), some (.inl p3), some (.inl p4), some (.inl p5)]) rfl (Nat.le_of_ble_eq_true rfl) ?_
  refine zj_aload_n (zdk ttX11_feed 0 rfl rfl) rfl (by decide) ?_
  refine zj_iconst (zdk ttX11_feed 1 rfl rfl) ?_
  refine zj_puti (zdk ttX11_feed 2 rfl rfl) zf_RX11_120 rfl (k_M s0) (Or.inl zw_RX11_120) (k2 := 0) rfl (fun h1 e2 => ?_)
  refine zj_aload_n (zdk ttX11_feed 3 rfl rfl) rfl (by decide) ?_
  have b3 : 0 ≤ (h.2 0 11) ∧ (h.2 0 11) ≤ 400 := fM_11 s0
  have s4 : okM h1 := fwM_0 s0 e2 (by omega)
  refine zj_geti (v := (h.2 0 11)) (zdk ttX11_feed 4 rfl rfl) zf_RX11_149 rfl (k_M s4) (zwr_r e2 (by first | decide | exact (absurd ·.1 (by decide)) | exact (absurd ·.2 (by decide)) | omega)) ?_
  refine zj_sipush (zdk ttX11_feed 5 rfl rfl) (by decide) ?_
  refine zj_icmp_le (t := 17) (zdk ttX11_feed 6 rfl rfl) (by decide) (by omega) (by decide) (fun c5 => ?_) (fun c5 => ?_)
  · refine zj_aload_n (zdk ttX11_feed 9 rfl rfl) rfl (by decide) ?_
    refine zj_iload_n (zdk ttX11_feed 10 rfl rfl) rfl ?_
    have b6 : h1.2 0 11 = (h.2 0 11) := (zwr_r e2 (by first | decide | exact (absurd ·.1 (by decide)) | exact (absurd ·.2 (by decide)) | omega))
    refine zj_callV (av := [.inl p1]) (st := []) (zdk ttX11_feed 11 rfl rfl) mb_X11_types mv_RX11_152 (ci := 11) rfl rfl (k_M s4) rfl rfl (Nat.le_of_ble_eq_true rfl) (s_X11_types l h1 p1 s4 (by omega) (by omega)) (rm_ok (by decide) (by decide)) (zq_v fun h9 q7 => ?_)
    obtain ⟨s11, f13, u12⟩ := q7
    refine zj_aload_n (zdk ttX11_feed 12 rfl rfl) rfl (by decide) ?_
    refine zj_iload_n (zdk ttX11_feed 13 rfl rfl) rfl ?_
    have b14 : 0 ≤ (h9.2 0 11) ∧ (h9.2 0 11) ≤ 400 := fM_11 s11
    refine zj_callV (av := [.inl p2]) (st := []) (zdk ttX11_feed 14 rfl rfl) mb_X11_types mv_RX11_152 (ci := 11) rfl rfl (k_M s11) rfl rfl (Nat.le_of_ble_eq_true rfl) (s_X11_types l h9 p2 s11 (by omega) (by omega)) (rm_ok (by decide) (by decide)) (zq_v fun h17 q15 => ?_)
    obtain ⟨s19, f21, u20⟩ := q15
    refine zj_aload_n (zdk ttX11_feed 15 rfl rfl) rfl (by decide) ?_
    refine zj_iload_n (zdk ttX11_feed 16 rfl rfl) rfl ?_
    have b22 : 0 ≤ (h17.2 0 11) ∧ (h17.2 0 11) ≤ 400 := fM_11 s19
    refine zj_callV (av := [.inl p3]) (st := []) (zdk ttX11_feed 17 rfl rfl) mb_X11_types mv_RX11_152 (ci := 11) rfl rfl (k_M s19) rfl rfl (Nat.le_of_ble_eq_true rfl) (s_X11_types l h17 p3 s19 (by omega) (by omega)) (rm_ok (by decide) (by decide)) (zq_v fun h25 q23 => ?_)
    obtain ⟨s27, f29, u28⟩ := q23
    refine zj_aload_n (zdk ttX11_feed 18 rfl rfl) rfl (by decide) ?_
    refine zj_iload (zdk ttX11_feed 19 rfl rfl) rfl ?_
    have b30 : 0 ≤ (h25.2 0 11) ∧ (h25.2 0 11) ≤ 400 := fM_11 s27
    refine zj_callV (av := [.inl p4]) (st := []) (zdk ttX11_feed 20 rfl rfl) mb_X11_types mv_RX11_152 (ci := 11) rfl rfl (k_M s27) rfl rfl (Nat.le_of_ble_eq_true rfl) (s_X11_types l h25 p4 s27 (by omega) (by omega)) (rm_ok (by decide) (by decide)) (zq_v fun h33 q31 => ?_)
    obtain ⟨s35, f37, u36⟩ := q31
    refine zj_aload_n (zdk ttX11_feed 21 rfl rfl) rfl (by decide) ?_
    refine zj_iload (zdk ttX11_feed 22 rfl rfl) rfl ?_
    have b38 : 0 ≤ (h33.2 0 11) ∧ (h33.2 0 11) ≤ 400 := fM_11 s35
    refine zj_callV (av := [.inl p5]) (st := []) (zdk ttX11_feed 23 rfl rfl) mb_X11_types mv_RX11_152 (ci := 11) rfl rfl (k_M s35) rfl rfl (Nat.le_of_ble_eq_true rfl) (s_X11_types l h33 p5 s35 (by omega) (by omega)) (rm_ok (by decide) (by decide)) (zq_v fun h41 q39 => ?_)
    obtain ⟨s43, f45, u44⟩ := q39
    refine zj_aload_n (zdk ttX11_feed 24 rfl rfl) rfl (by decide) ?_
    have b46 : 0 ≤ (h41.2 0 11) ∧ (h41.2 0 11) ≤ 400 := fM_11 s43
    refine zj_geti (v := (h41.2 0 11)) (zdk ttX11_feed 25 rfl rfl) zf_RX11_149 rfl (k_M s43) rfl ?_
    have f52 : zfr [0, 11] [7] h h1 := zfr_wf (zfr_r _ _ _) e2 rfl
    have f51 : zfr [0, 11] [7] h h9 := zfr_t f52 f13 rfl rfl
    have f50 : zfr [0, 11] [7] h h17 := zfr_t f51 f21 rfl rfl
    have f49 : zfr [0, 11] [7] h h25 := zfr_t f50 f29 rfl rfl
    have f48 : zfr [0, 11] [7] h h33 := zfr_t f49 f37 rfl rfl
    have f47 : zfr [0, 11] [7] h h41 := zfr_t f48 f45 rfl rfl
    exact zj_iret rfl (zdk ttX11_feed 26 rfl rfl) (Nat.le_refl _) (Nat.le_refl _) ⟨(h41.2 0 11), rfl, by omega, s43, f47, by unfold zfd; omega⟩
  · refine zj_iconst (zdk ttX11_feed 7 rfl rfl) ?_
    have f53 : zfr [0, 11] [7] h h1 := zfr_wf (zfr_r _ _ _) e2 rfl
    have b54 : h1.2 0 11 = (h.2 0 11) := (zwr_r e2 (by first | decide | exact (absurd ·.1 (by decide)) | exact (absurd ·.2 (by decide)) | omega))
    exact zj_iret rfl (zdk ttX11_feed 8 rfl rfl) (Nat.le_refl _) (Nat.le_refl _) ⟨(-1), rfl, by omega, s4, f53, by unfold zfd; omega⟩

abbrev q2_X11_end (h : zM) (p1 : Int) : Option zV → zM → Prop := zqi fun v h' => (0 ≤ v ∧ v ≤ 1) ∧ okM h' ∧ zfr [0, 11] [] h h' ∧ (zen p1 (h.2 0 11) v (h'.2 0 11))
set_option maxRecDepth 100000 in
set_option maxHeartbeats 4000000 in
theorem s2_X11_end (l : Launch) (h : zM) (p1 : Int) (s0 : okM h) (b_p1 : (-2147483648) ≤ p1 ∧ p1 ≤ 2147483647) : zT shM l yX11_end cX11_end 2 (some .boolean) (rmL 2) 0 0 [.inr 0, .inl p1] h (q2_X11_end h p1) := by
  refine zT_of (by decide +kernel) (L0 := [some (.inr 0), some (.inl p1)]) rfl (Nat.le_of_ble_eq_true rfl) ?_
  refine zj_aload_n (zdk ttX11_end 0 rfl rfl) rfl (by decide) ?_
  refine zj_iconst (zdk ttX11_end 1 rfl rfl) ?_
  refine zj_puti (zdk ttX11_end 2 rfl rfl) zf_RX11_120 rfl (k_M s0) (Or.inl zw_RX11_120) (k2 := 0) rfl (fun h1 e2 => ?_)
  refine zj_aload_n (zdk ttX11_end 3 rfl rfl) rfl (by decide) ?_
  refine zj_iload_n (zdk ttX11_end 4 rfl rfl) rfl ?_
  refine zj_iconst (zdk ttX11_end 5 rfl rfl) ?_
  refine zj_aload_n (zdk ttX11_end 6 rfl rfl) rfl (by decide) ?_
  have b3 : 0 ≤ (h.2 0 11) ∧ (h.2 0 11) ≤ 400 := fM_11 s0
  have s4 : okM h1 := fwM_0 s0 e2 (by omega)
  refine zj_geti (v := (h.2 0 11)) (zdk ttX11_end 7 rfl rfl) zf_RX11_149 rfl (k_M s4) (zwr_r e2 (by first | decide | exact (absurd ·.1 (by decide)) | exact (absurd ·.2 (by decide)) | omega)) ?_
  refine zj_callV (av := [.inl p1, .inl 0, .inl (h.2 0 11)]) (st := []) (zdk ttX11_end 8 rfl rfl) mb_X11_isIn mv_RX11_139 (ci := 11) rfl rfl (k_M s4) rfl rfl (Nat.le_of_ble_eq_true rfl) (s_X11_isIn l h1 p1 0 (h.2 0 11) s4 (by omega) (by omega) (by omega)) (rm_ok (by decide) (by decide)) (zq_i fun v6 h7 q5 => ?_)
  obtain ⟨rfl, ⟨rfl, b8⟩ | ⟨rfl, b8⟩⟩ := q5
  · refine zj_if_ne (t := 20) (zdk ttX11_end 9 rfl rfl) (by decide) (by decide) (fun c9 => ?_) (fun c9 => ?_)
    · exact absurd c9 (by omega)
    · refine zj_iconst (zdk ttX11_end 10 rfl rfl) ?_
      have f10 : zfr [0, 11] [] h h1 := zfr_wf (zfr_r _ _ _) e2 rfl
      have b11 : h1.2 0 11 = (h.2 0 11) := (zwr_r e2 (by first | decide | exact (absurd ·.1 (by decide)) | exact (absurd ·.2 (by decide)) | omega))
      exact zj_zret rfl (zdk ttX11_end 11 rfl rfl) (Nat.le_refl _) (Nat.le_refl _) (by omega) ⟨0, rfl, by omega, s4, f10, by unfold zen; omega⟩
  · refine zj_if_ne (t := 20) (zdk ttX11_end 9 rfl rfl) (by decide) (by decide) (fun c12 => ?_) (fun c12 => ?_)
    · refine zj_aload_n (zdk ttX11_end 12 rfl rfl) rfl (by decide) ?_
      refine zj_iload_n (zdk ttX11_end 13 rfl rfl) rfl ?_
      refine zj_puti (zdk ttX11_end 14 rfl rfl) zf_RX11_149 rfl (k_M s4) (Or.inl zw_RX11_149) (k2 := 11) rfl (fun h13 e14 => ?_)
      refine zj_iconst (zdk ttX11_end 15 rfl rfl) ?_
      have s15 : okM h13 := fwM_11 s4 e14 (by omega)
      have f17 : zfr [0, 11] [] h h1 := zfr_wf (zfr_r _ _ _) e2 rfl
      have f16 : zfr [0, 11] [] h h13 := zfr_wf f17 e14 rfl
      have b18 : h13.2 0 11 = p1 := (zwr_v e14)
      exact zj_zret rfl (zdk ttX11_end 16 rfl rfl) (Nat.le_refl _) (Nat.le_refl _) (by omega) ⟨1, rfl, by omega, s15, f16, by unfold zen; omega⟩
    · exact absurd c12 (by omega)

abbrev q2_X11_text (h : zM) (p1 : Int) : Option zV → zM → Prop := zqi fun v h' => ((-2147483648) ≤ v ∧ v ≤ 2147483647) ∧ okM h' ∧ zfr [0, 3, 11, 12, 13, 14, 15, 24, 25, 26, 28, 29, 30, 31, 32, 33, 35, 37] [9, 10, 11, 12, 13, 14, 15, 16, 17, 18, 19] h h' ∧ (h'.2 0 11 = 0)
set_option maxRecDepth 100000 in
set_option maxHeartbeats 4000000 in
theorem s2_X11_text (l : Launch) (h : zM) (p1 : Int) (s0 : okM h) (b_p1 : (-2147483648) ≤ p1 ∧ p1 ≤ 2147483647) : zT shM l yX11_text cX11_text 3 (some .int) (rmL 11) 0 0 [.inr 0, .inl p1] h (q2_X11_text h p1) := by
  refine zT_of (by decide +kernel) (L0 := [some (.inr 0), some (.inl p1), none]) rfl (Nat.le_of_ble_eq_true rfl) ?_
  refine zj_aload_n (zdk ttX11_text 0 rfl rfl) rfl (by decide) ?_
  refine zj_iconst (zdk ttX11_text 1 rfl rfl) ?_
  refine zj_puti (zdk ttX11_text 2 rfl rfl) zf_RX11_120 rfl (k_M s0) (Or.inl zw_RX11_120) (k2 := 0) rfl (fun h1 e2 => ?_)
  refine zj_aload_n (zdk ttX11_text 3 rfl rfl) rfl (by decide) ?_
  refine zj_iconst (zdk ttX11_text 4 rfl rfl) ?_
  have s3 : okM h1 := fwM_0 s0 e2 (by omega)
  refine zj_puti (zdk ttX11_text 5 rfl rfl) zf_RX11_291 rfl (k_M s3) (Or.inl zw_RX11_291) (k2 := 31) rfl (fun h4 e5 => ?_)
  refine zj_aload_n (zdk ttX11_text 6 rfl rfl) rfl (by decide) ?_
  refine zj_iconst (zdk ttX11_text 7 rfl rfl) ?_
  have s6 : okM h4 := fwM_31 s3 e5 (by omega)
  refine zj_puti (zdk ttX11_text 8 rfl rfl) zf_RX11_58 rfl (k_M s6) (Or.inl zw_RX11_58) (k2 := 32) rfl (fun h7 e8 => ?_)
  refine zj_aload_n (zdk ttX11_text 9 rfl rfl) rfl (by decide) ?_
  refine zj_iconst (zdk ttX11_text 10 rfl rfl) ?_
  have s9 : okM h7 := fwM_32 s6 e8 (by omega)
  refine zj_puti (zdk ttX11_text 11 rfl rfl) zf_RX11_156 rfl (k_M s9) (Or.inl zw_RX11_156) (k2 := 12) rfl (fun h10 e11 => ?_)
  refine zj_aload_n (zdk ttX11_text 12 rfl rfl) rfl (by decide) ?_
  refine zj_iconst (zdk ttX11_text 13 rfl rfl) ?_
  have s12 : okM h10 := fwM_12 s9 e11 (by omega)
  refine zj_puti (zdk ttX11_text 14 rfl rfl) zf_RX11_191 rfl (k_M s12) (Or.inl zw_RX11_191) (k2 := 25) rfl (fun h13 e14 => ?_)
  refine zj_aload_n (zdk ttX11_text 15 rfl rfl) rfl (by decide) ?_
  refine zj_iconst (zdk ttX11_text 16 rfl rfl) ?_
  have s15 : okM h13 := fwM_25 s12 e14 (by omega)
  refine zj_puti (zdk ttX11_text 17 rfl rfl) zf_RX11_223 rfl (k_M s15) (Or.inl zw_RX11_223) (k2 := 26) rfl (fun h16 e17 => ?_)
  refine zj_iconst (zdk ttX11_text 18 rfl rfl) ?_
  refine zj_istore_n (L' := [some (.inr 0), some (.inl p1), some (.inl (-1))]) (zdk ttX11_text 19 rfl rfl) (by decide) rfl ?_
  refine zj_aload_n (zdk ttX11_text 20 rfl rfl) rfl (by decide) ?_
  refine zj_iload_n (zdk ttX11_text 21 rfl rfl) rfl ?_
  refine zj_iconst (zdk ttX11_text 22 rfl rfl) ?_
  refine zj_iconst (zdk ttX11_text 23 rfl rfl) ?_
  have s18 : okM h16 := fwM_26 s15 e17 (by omega)
  refine zj_callV (av := [.inl p1, .inl 0, .inl 3]) (st := []) (zdk ttX11_text 24 rfl rfl) mb_X11_isIn mv_RX11_139 (ci := 11) rfl rfl (k_M s18) rfl rfl (Nat.le_of_ble_eq_true rfl) (s_X11_isIn l h16 p1 0 3 s18 (by omega) (by omega) (by omega)) (rm_ok (by decide) (by decide)) (zq_i fun v20 h21 q19 => ?_)
  obtain ⟨rfl, ⟨rfl, b22⟩ | ⟨rfl, b22⟩⟩ := q19
  · refine zj_if_eq (t := 69) (zdk ttX11_text 25 rfl rfl) (by decide) (by decide) (fun c23 => ?_) (fun c23 => ?_)
    · refine zj_aload_n (zdk ttX11_text 41 rfl rfl) rfl (by decide) ?_
      refine zj_iconst (zdk ttX11_text 42 rfl rfl) ?_
      refine zj_puti (zdk ttX11_text 43 rfl rfl) zf_RX11_149 rfl (k_M s18) (Or.inl zw_RX11_149) (k2 := 11) rfl (fun h24 e25 => ?_)
      refine zj_iload_n (zdk ttX11_text 44 rfl rfl) rfl ?_
      refine zj_iconst (zdk ttX11_text 45 rfl rfl) ?_
      refine zj_icmp_ne (t := 81) (zdk ttX11_text 46 rfl rfl) (by decide) (by decide) (by decide) (fun c26 => ?_) (fun c26 => ?_)
      · exact absurd c26 (by omega)
      · refine zj_iconst (zdk ttX11_text 47 rfl rfl) ?_
        have s27 : okM h24 := fwM_11 s18 e25 (by omega)
        have f34 : zfr [0, 3, 11, 12, 13, 14, 15, 24, 25, 26, 28, 29, 30, 31, 32, 33, 35, 37] [9, 10, 11, 12, 13, 14, 15, 16, 17, 18, 19] h h1 := zfr_wf (zfr_r _ _ _) e2 rfl
        have f33 : zfr [0, 3, 11, 12, 13, 14, 15, 24, 25, 26, 28, 29, 30, 31, 32, 33, 35, 37] [9, 10, 11, 12, 13, 14, 15, 16, 17, 18, 19] h h4 := zfr_wf f34 e5 rfl
        have f32 : zfr [0, 3, 11, 12, 13, 14, 15, 24, 25, 26, 28, 29, 30, 31, 32, 33, 35, 37] [9, 10, 11, 12, 13, 14, 15, 16, 17, 18, 19] h h7 := zfr_wf f33 e8 rfl
        have f31 : zfr [0, 3, 11, 12, 13, 14, 15, 24, 25, 26, 28, 29, 30, 31, 32, 33, 35, 37] [9, 10, 11, 12, 13, 14, 15, 16, 17, 18, 19] h h10 := zfr_wf f32 e11 rfl
        have f30 : zfr [0, 3, 11, 12, 13, 14, 15, 24, 25, 26, 28, 29, 30, 31, 32, 33, 35, 37] [9, 10, 11, 12, 13, 14, 15, 16, 17, 18, 19] h h13 := zfr_wf f31 e14 rfl
        have f29 : zfr [0, 3, 11, 12, 13, 14, 15, 24, 25, 26, 28, 29, 30, 31, 32, 33, 35, 37] [9, 10, 11, 12, 13, 14, 15, 16, 17, 18, 19] h h16 := zfr_wf f30 e17 rfl
        have f28 : zfr [0, 3, 11, 12, 13, 14, 15, 24, 25, 26, 28, 29, 30, 31, 32, 33, 35, 37] [9, 10, 11, 12, 13, 14, 15, 16, 17, 18, 19] h h24 := zfr_wf f29 e25 rfl
        have b35 : h24.2 0 11 = 0 := (zwr_v e25)
        exact zj_iret rfl (zdk ttX11_text 48 rfl rfl) (Nat.le_refl _) (Nat.le_refl _) ⟨(-1), rfl, by omega, s27, f28, by omega⟩
    · exact absurd c23 (by omega)
  · refine zj_if_eq (t := 69) (zdk ttX11_text 25 rfl rfl) (by decide) (by decide) (fun c36 => ?_) (fun c36 => ?_)
    · exact absurd c36 (by omega)
    · refine zj_aload_n (zdk ttX11_text 26 rfl rfl) rfl (by decide) ?_
      refine zj_iload_n (zdk ttX11_text 27 rfl rfl) rfl ?_
      have b37 : h16.2 0 25 = 0 := ((zwr_r e17 (by first | decide | exact (absurd ·.1 (by decide)) | exact (absurd ·.2 (by decide)) | omega)).trans (zwr_v e14))
      refine zj_callV (av := [.inl p1]) (st := []) (zdk ttX11_text 28 rfl rfl) mb_X11_readsText mv_RX11_294 (ci := 11) rfl rfl (k_M s18) rfl rfl (Nat.le_of_ble_eq_true rfl) (s_X11_readsText l h16 p1 s18 (by omega) (by omega)) (rm_ok (by decide) (by decide)) (zq_i fun v39 h40 q38 => ?_)
      obtain ⟨b41, s42, f45, u43, u44⟩ := q38
      refine zj_istore_n (L' := [some (.inr 0), some (.inl p1), some (.inl v39)]) (zdk ttX11_text 29 rfl rfl) (by decide) rfl ?_
      refine zj_iload_n (zdk ttX11_text 30 rfl rfl) rfl ?_
      refine zj_iconst (zdk ttX11_text 31 rfl rfl) ?_
      refine zj_icmp_ne (t := 69) (zdk ttX11_text 32 rfl rfl) (by decide) (by omega) (by decide) (fun c46 => ?_) (fun c46 => ?_)
      · refine zj_aload_n (zdk ttX11_text 41 rfl rfl) rfl (by decide) ?_
        refine zj_iconst (zdk ttX11_text 42 rfl rfl) ?_
        refine zj_puti (zdk ttX11_text 43 rfl rfl) zf_RX11_149 rfl (k_M s42) (Or.inl zw_RX11_149) (k2 := 11) rfl (fun h47 e48 => ?_)
        refine zj_iload_n (zdk ttX11_text 44 rfl rfl) rfl ?_
        refine zj_iconst (zdk ttX11_text 45 rfl rfl) ?_
        refine zj_icmp_ne (t := 81) (zdk ttX11_text 46 rfl rfl) (by decide) (by omega) (by decide) (fun c49 => ?_) (fun c49 => ?_)
        · refine zj_iload_n (zdk ttX11_text 49 rfl rfl) rfl ?_
          refine zj_if_ne (t := 93) (zdk ttX11_text 50 rfl rfl) (by decide) (by omega) (fun c50 => ?_) (fun c50 => ?_)
          · refine zj_aload_n (zdk ttX11_text 55 rfl rfl) rfl (by decide) ?_
            refine zj_iload_n (zdk ttX11_text 56 rfl rfl) rfl ?_
            refine zj_iload_n (zdk ttX11_text 57 rfl rfl) rfl ?_
            have s51 : okM h47 := fwM_11 s42 e48 (by omega)
            refine zj_callV (av := [.inl p1, .inl v39]) (st := []) (zdk ttX11_text 58 rfl rfl) mb_X11_takesOther mv_RX11_300 (ci := 11) rfl rfl (k_M s51) rfl rfl (Nat.le_of_ble_eq_true rfl) (s_X11_takesOther l h47 p1 v39 s51 (by omega) (by omega) (fun q j j1 j2 => by rw [zwr_r e48 (by first | decide | exact (absurd ·.1 (by decide)) | exact (absurd ·.2 (by decide)) | omega), zwr_r e48 (by first | decide | exact (absurd ·.1 (by decide)) | exact (absurd ·.2 (by decide)) | omega)]; exact u44 q j j1 j2)) (rm_ok (by decide) (by decide)) (zq_v fun h54 q52 => ?_)
            obtain ⟨s56, f57⟩ := q52
            refine zj_iload_n (zdk ttX11_text 59 rfl rfl) rfl ?_
            have f66 : zfr [0, 3, 11, 12, 13, 14, 15, 24, 25, 26, 28, 29, 30, 31, 32, 33, 35, 37] [9, 10, 11, 12, 13, 14, 15, 16, 17, 18, 19] h h1 := zfr_wf (zfr_r _ _ _) e2 rfl
            have f65 : zfr [0, 3, 11, 12, 13, 14, 15, 24, 25, 26, 28, 29, 30, 31, 32, 33, 35, 37] [9, 10, 11, 12, 13, 14, 15, 16, 17, 18, 19] h h4 := zfr_wf f66 e5 rfl
            have f64 : zfr [0, 3, 11, 12, 13, 14, 15, 24, 25, 26, 28, 29, 30, 31, 32, 33, 35, 37] [9, 10, 11, 12, 13, 14, 15, 16, 17, 18, 19] h h7 := zfr_wf f65 e8 rfl
            have f63 : zfr [0, 3, 11, 12, 13, 14, 15, 24, 25, 26, 28, 29, 30, 31, 32, 33, 35, 37] [9, 10, 11, 12, 13, 14, 15, 16, 17, 18, 19] h h10 := zfr_wf f64 e11 rfl
            have f62 : zfr [0, 3, 11, 12, 13, 14, 15, 24, 25, 26, 28, 29, 30, 31, 32, 33, 35, 37] [9, 10, 11, 12, 13, 14, 15, 16, 17, 18, 19] h h13 := zfr_wf f63 e14 rfl
            have f61 : zfr [0, 3, 11, 12, 13, 14, 15, 24, 25, 26, 28, 29, 30, 31, 32, 33, 35, 37] [9, 10, 11, 12, 13, 14, 15, 16, 17, 18, 19] h h16 := zfr_wf f62 e17 rfl
            have f60 : zfr [0, 3, 11, 12, 13, 14, 15, 24, 25, 26, 28, 29, 30, 31, 32, 33, 35, 37] [9, 10, 11, 12, 13, 14, 15, 16, 17, 18, 19] h h40 := zfr_t f61 f45 rfl rfl
            have f59 : zfr [0, 3, 11, 12, 13, 14, 15, 24, 25, 26, 28, 29, 30, 31, 32, 33, 35, 37] [9, 10, 11, 12, 13, 14, 15, 16, 17, 18, 19] h h47 := zfr_wf f60 e48 rfl
            have f58 : zfr [0, 3, 11, 12, 13, 14, 15, 24, 25, 26, 28, 29, 30, 31, 32, 33, 35, 37] [9, 10, 11, 12, 13, 14, 15, 16, 17, 18, 19] h h54 := zfr_t f59 f57 rfl rfl
            have b67 : h54.2 0 11 = 0 := ((zfr_f f57 rfl rfl).trans (zwr_v e48))
            exact zj_iret rfl (zdk ttX11_text 60 rfl rfl) (Nat.le_refl _) (Nat.le_refl _) ⟨v39, rfl, by omega, s56, f58, by omega⟩
          · refine zj_aload_n (zdk ttX11_text 51 rfl rfl) rfl (by decide) ?_
            refine zj_iload_n (zdk ttX11_text 52 rfl rfl) rfl ?_
            have s68 : okM h47 := fwM_11 s42 e48 (by omega)
            refine zj_callV (av := [.inl v39]) (st := []) (zdk ttX11_text 53 rfl rfl) mb_X11_takesLaw mv_RX11_297 (ci := 11) rfl rfl (k_M s68) rfl rfl (Nat.le_of_ble_eq_true rfl) (s_X11_takesLaw l h47 v39 s68 (by omega) (zLn_f (u43 (by omega) (by omega)) e48 (by decide))) (rm_ok (by decide) (by decide)) (zq_v fun h71 q69 => ?_)
            obtain ⟨s73, f74⟩ := q69
            refine zj_goto (t := 99) (zdk ttX11_text 54 rfl rfl) (by decide) ?_
            refine zj_iload_n (zdk ttX11_text 59 rfl rfl) rfl ?_
            have f83 : zfr [0, 3, 11, 12, 13, 14, 15, 24, 25, 26, 28, 29, 30, 31, 32, 33, 35, 37] [9, 10, 11, 12, 13, 14, 15, 16, 17, 18, 19] h h1 := zfr_wf (zfr_r _ _ _) e2 rfl
            have f82 : zfr [0, 3, 11, 12, 13, 14, 15, 24, 25, 26, 28, 29, 30, 31, 32, 33, 35, 37] [9, 10, 11, 12, 13, 14, 15, 16, 17, 18, 19] h h4 := zfr_wf f83 e5 rfl
            have f81 : zfr [0, 3, 11, 12, 13, 14, 15, 24, 25, 26, 28, 29, 30, 31, 32, 33, 35, 37] [9, 10, 11, 12, 13, 14, 15, 16, 17, 18, 19] h h7 := zfr_wf f82 e8 rfl
            have f80 : zfr [0, 3, 11, 12, 13, 14, 15, 24, 25, 26, 28, 29, 30, 31, 32, 33, 35, 37] [9, 10, 11, 12, 13, 14, 15, 16, 17, 18, 19] h h10 := zfr_wf f81 e11 rfl
            have f79 : zfr [0, 3, 11, 12, 13, 14, 15, 24, 25, 26, 28, 29, 30, 31, 32, 33, 35, 37] [9, 10, 11, 12, 13, 14, 15, 16, 17, 18, 19] h h13 := zfr_wf f80 e14 rfl
            have f78 : zfr [0, 3, 11, 12, 13, 14, 15, 24, 25, 26, 28, 29, 30, 31, 32, 33, 35, 37] [9, 10, 11, 12, 13, 14, 15, 16, 17, 18, 19] h h16 := zfr_wf f79 e17 rfl
            have f77 : zfr [0, 3, 11, 12, 13, 14, 15, 24, 25, 26, 28, 29, 30, 31, 32, 33, 35, 37] [9, 10, 11, 12, 13, 14, 15, 16, 17, 18, 19] h h40 := zfr_t f78 f45 rfl rfl
            have f76 : zfr [0, 3, 11, 12, 13, 14, 15, 24, 25, 26, 28, 29, 30, 31, 32, 33, 35, 37] [9, 10, 11, 12, 13, 14, 15, 16, 17, 18, 19] h h47 := zfr_wf f77 e48 rfl
            have f75 : zfr [0, 3, 11, 12, 13, 14, 15, 24, 25, 26, 28, 29, 30, 31, 32, 33, 35, 37] [9, 10, 11, 12, 13, 14, 15, 16, 17, 18, 19] h h71 := zfr_t f76 f74 rfl rfl
            have b84 : h71.2 0 11 = 0 := ((zfr_f f74 rfl rfl).trans (zwr_v e48))
            exact zj_iret rfl (zdk ttX11_text 60 rfl rfl) (Nat.le_refl _) (Nat.le_refl _) ⟨v39, rfl, by omega, s73, f75, by omega⟩
        · exact absurd c49 (by omega)
      · refine zj_aload_n (zdk ttX11_text 33 rfl rfl) rfl (by decide) ?_
        refine zj_aload_n (zdk ttX11_text 34 rfl rfl) rfl (by decide) ?_
        have b85 : -2147483648 ≤ (h40.2 0 29) ∧ (h40.2 0 29) ≤ 2147483647 := fM_29 s42
        refine zj_geti (v := (h40.2 0 29)) (zdk ttX11_text 35 rfl rfl) zf_RX11_185 rfl (k_M s42) rfl ?_
        refine zj_puti (zdk ttX11_text 36 rfl rfl) zf_RX11_291 rfl (k_M s42) (Or.inl zw_RX11_291) (k2 := 31) rfl (fun h86 e87 => ?_)
        refine zj_aload_n (zdk ttX11_text 37 rfl rfl) rfl (by decide) ?_
        refine zj_aload_n (zdk ttX11_text 38 rfl rfl) rfl (by decide) ?_
        have b88 : -2147483648 ≤ (h40.2 0 30) ∧ (h40.2 0 30) ≤ 2147483647 := fM_30 s42
        have s89 : okM h86 := fwM_31 s42 e87 (by omega)
        refine zj_geti (v := (h40.2 0 30)) (zdk ttX11_text 39 rfl rfl) zf_RX11_188 rfl (k_M s89) (zwr_r e87 (by first | decide | exact (absurd ·.1 (by decide)) | exact (absurd ·.2 (by decide)) | omega)) ?_
        refine zj_puti (zdk ttX11_text 40 rfl rfl) zf_RX11_58 rfl (k_M s89) (Or.inl zw_RX11_58) (k2 := 32) rfl (fun h90 e91 => ?_)
        refine zj_aload_n (zdk ttX11_text 41 rfl rfl) rfl (by decide) ?_
        refine zj_iconst (zdk ttX11_text 42 rfl rfl) ?_
        have s92 : okM h90 := fwM_32 s89 e91 (by omega)
        refine zj_puti (zdk ttX11_text 43 rfl rfl) zf_RX11_149 rfl (k_M s92) (Or.inl zw_RX11_149) (k2 := 11) rfl (fun h93 e94 => ?_)
        refine zj_iload_n (zdk ttX11_text 44 rfl rfl) rfl ?_
        refine zj_iconst (zdk ttX11_text 45 rfl rfl) ?_
        refine zj_icmp_ne (t := 81) (zdk ttX11_text 46 rfl rfl) (by decide) (by omega) (by decide) (fun c95 => ?_) (fun c95 => ?_)
        · exact absurd c95 (by omega)
        · refine zj_iconst (zdk ttX11_text 47 rfl rfl) ?_
          have s96 : okM h93 := fwM_11 s92 e94 (by omega)
          have f106 : zfr [0, 3, 11, 12, 13, 14, 15, 24, 25, 26, 28, 29, 30, 31, 32, 33, 35, 37] [9, 10, 11, 12, 13, 14, 15, 16, 17, 18, 19] h h1 := zfr_wf (zfr_r _ _ _) e2 rfl
          have f105 : zfr [0, 3, 11, 12, 13, 14, 15, 24, 25, 26, 28, 29, 30, 31, 32, 33, 35, 37] [9, 10, 11, 12, 13, 14, 15, 16, 17, 18, 19] h h4 := zfr_wf f106 e5 rfl
          have f104 : zfr [0, 3, 11, 12, 13, 14, 15, 24, 25, 26, 28, 29, 30, 31, 32, 33, 35, 37] [9, 10, 11, 12, 13, 14, 15, 16, 17, 18, 19] h h7 := zfr_wf f105 e8 rfl
          have f103 : zfr [0, 3, 11, 12, 13, 14, 15, 24, 25, 26, 28, 29, 30, 31, 32, 33, 35, 37] [9, 10, 11, 12, 13, 14, 15, 16, 17, 18, 19] h h10 := zfr_wf f104 e11 rfl
          have f102 : zfr [0, 3, 11, 12, 13, 14, 15, 24, 25, 26, 28, 29, 30, 31, 32, 33, 35, 37] [9, 10, 11, 12, 13, 14, 15, 16, 17, 18, 19] h h13 := zfr_wf f103 e14 rfl
          have f101 : zfr [0, 3, 11, 12, 13, 14, 15, 24, 25, 26, 28, 29, 30, 31, 32, 33, 35, 37] [9, 10, 11, 12, 13, 14, 15, 16, 17, 18, 19] h h16 := zfr_wf f102 e17 rfl
          have f100 : zfr [0, 3, 11, 12, 13, 14, 15, 24, 25, 26, 28, 29, 30, 31, 32, 33, 35, 37] [9, 10, 11, 12, 13, 14, 15, 16, 17, 18, 19] h h40 := zfr_t f101 f45 rfl rfl
          have f99 : zfr [0, 3, 11, 12, 13, 14, 15, 24, 25, 26, 28, 29, 30, 31, 32, 33, 35, 37] [9, 10, 11, 12, 13, 14, 15, 16, 17, 18, 19] h h86 := zfr_wf f100 e87 rfl
          have f98 : zfr [0, 3, 11, 12, 13, 14, 15, 24, 25, 26, 28, 29, 30, 31, 32, 33, 35, 37] [9, 10, 11, 12, 13, 14, 15, 16, 17, 18, 19] h h90 := zfr_wf f99 e91 rfl
          have f97 : zfr [0, 3, 11, 12, 13, 14, 15, 24, 25, 26, 28, 29, 30, 31, 32, 33, 35, 37] [9, 10, 11, 12, 13, 14, 15, 16, 17, 18, 19] h h93 := zfr_wf f98 e94 rfl
          have b107 : h93.2 0 11 = 0 := (zwr_v e94)
          exact zj_iret rfl (zdk ttX11_text 48 rfl rfl) (Nat.le_refl _) (Nat.le_refl _) ⟨(-1), rfl, by omega, s96, f97, by omega⟩

abbrev q2_X11_islander (h : zM) (p1 : Int) (p2 : Int) : Option zV → zM → Prop := zqi fun v h' => ((-2147483648) ≤ v ∧ v ≤ 2147483647) ∧ okM h' ∧ zfr [0, 3, 6] [1, 4, 5] h h' ∧ (zis p1 p2 (h.2 0 6) v (h'.2 0 6))
set_option maxRecDepth 100000 in
set_option maxHeartbeats 4000000 in
theorem s2_X11_islander (l : Launch) (h : zM) (p1 : Int) (p2 : Int) (s0 : okM h) (b_p1 : (-2147483648) ≤ p1 ∧ p1 ≤ 2147483647) (b_p2 : (-2147483648) ≤ p2 ∧ p2 ≤ 2147483647) : zT shM l yX11_islander cX11_islander 3 (some .int) (rmL 2) 0 0 [.inr 0, .inl p1, .inl p2] h (q2_X11_islander h p1 p2) := by
  refine zT_of (by decide +kernel) (L0 := [some (.inr 0), some (.inl p1), some (.inl p2)]) rfl (Nat.le_of_ble_eq_true rfl) ?_
  refine zj_aload_n (zdk ttX11_islander 0 rfl rfl) rfl (by decide) ?_
  refine zj_iconst (zdk ttX11_islander 1 rfl rfl) ?_
  refine zj_puti (zdk ttX11_islander 2 rfl rfl) zf_RX11_120 rfl (k_M s0) (Or.inl zw_RX11_120) (k2 := 0) rfl (fun h1 e2 => ?_)
  refine zj_aload_n (zdk ttX11_islander 3 rfl rfl) rfl (by decide) ?_
  refine zj_iload_n (zdk ttX11_islander 4 rfl rfl) rfl ?_
  refine zj_iconst (zdk ttX11_islander 5 rfl rfl) ?_
  refine zj_sipush (zdk ttX11_islander 6 rfl rfl) (by decide) ?_
  have s3 : okM h1 := fwM_0 s0 e2 (by omega)
  refine zj_callV (av := [.inl p1, .inl 1, .inl 200]) (st := []) (zdk ttX11_islander 7 rfl rfl) mb_X11_isIn mv_RX11_139 (ci := 11) rfl rfl (k_M s3) rfl rfl (Nat.le_of_ble_eq_true rfl) (s_X11_isIn l h1 p1 1 200 s3 (by omega) (by omega) (by omega)) (rm_ok (by decide) (by decide)) (zq_i fun v5 h6 q4 => ?_)
  obtain ⟨rfl, ⟨rfl, b7⟩ | ⟨rfl, b7⟩⟩ := q4
  · refine zj_if_eq (t := 37) (zdk ttX11_islander 8 rfl rfl) (by decide) (by decide) (fun c8 => ?_) (fun c8 => ?_)
    · refine zj_iconst (zdk ttX11_islander 19 rfl rfl) ?_
      have f9 : zfr [0, 3, 6] [1, 4, 5] h h1 := zfr_wf (zfr_r _ _ _) e2 rfl
      have b10 : h1.2 0 6 = (h.2 0 6) := (zwr_r e2 (by first | decide | exact (absurd ·.1 (by decide)) | exact (absurd ·.2 (by decide)) | omega))
      have b11 : 0 ≤ (h.2 0 6) ∧ (h.2 0 6) ≤ 18 := fM_6 s0
      exact zj_iret rfl (zdk ttX11_islander 20 rfl rfl) (Nat.le_refl _) (Nat.le_refl _) ⟨(-1), rfl, by omega, s3, f9, by unfold zis zisG; omega⟩
    · exact absurd c8 (by omega)
  · refine zj_if_eq (t := 37) (zdk ttX11_islander 8 rfl rfl) (by decide) (by decide) (fun c12 => ?_) (fun c12 => ?_)
    · exact absurd c12 (by omega)
    · refine zj_aload_n (zdk ttX11_islander 9 rfl rfl) rfl (by decide) ?_
      refine zj_iload_n (zdk ttX11_islander 10 rfl rfl) rfl ?_
      refine zj_iconst (zdk ttX11_islander 11 rfl rfl) ?_
      refine zj_bipush (zdk ttX11_islander 12 rfl rfl) (by decide) ?_
      refine zj_callV (av := [.inl p2, .inl 0, .inl 9]) (st := []) (zdk ttX11_islander 13 rfl rfl) mb_X11_isIn mv_RX11_139 (ci := 11) rfl rfl (k_M s3) rfl rfl (Nat.le_of_ble_eq_true rfl) (s_X11_isIn l h1 p2 0 9 s3 (by omega) (by omega) (by omega)) (rm_ok (by decide) (by decide)) (zq_i fun v14 h15 q13 => ?_)
      obtain ⟨rfl, ⟨rfl, b16⟩ | ⟨rfl, b16⟩⟩ := q13
      · refine zj_if_eq (t := 37) (zdk ttX11_islander 14 rfl rfl) (by decide) (by decide) (fun c17 => ?_) (fun c17 => ?_)
        · refine zj_iconst (zdk ttX11_islander 19 rfl rfl) ?_
          have f18 : zfr [0, 3, 6] [1, 4, 5] h h1 := zfr_wf (zfr_r _ _ _) e2 rfl
          have b19 : h1.2 0 6 = (h.2 0 6) := (zwr_r e2 (by first | decide | exact (absurd ·.1 (by decide)) | exact (absurd ·.2 (by decide)) | omega))
          have b20 : 0 ≤ (h.2 0 6) ∧ (h.2 0 6) ≤ 18 := fM_6 s0
          exact zj_iret rfl (zdk ttX11_islander 20 rfl rfl) (Nat.le_refl _) (Nat.le_refl _) ⟨(-1), rfl, by omega, s3, f18, by unfold zis zisG; omega⟩
        · exact absurd c17 (by omega)
      · refine zj_if_eq (t := 37) (zdk ttX11_islander 14 rfl rfl) (by decide) (by decide) (fun c21 => ?_) (fun c21 => ?_)
        · exact absurd c21 (by omega)
        · refine zj_aload_n (zdk ttX11_islander 15 rfl rfl) rfl (by decide) ?_
          have b22 : 0 ≤ (h.2 0 6) ∧ (h.2 0 6) ≤ 18 := fM_6 s0
          refine zj_geti (v := (h.2 0 6)) (zdk ttX11_islander 16 rfl rfl) zf_RX11_132 rfl (k_M s3) (zwr_r e2 (by first | decide | exact (absurd ·.1 (by decide)) | exact (absurd ·.2 (by decide)) | omega)) ?_
          refine zj_bipush (zdk ttX11_islander 17 rfl rfl) (by decide) ?_
          refine zj_icmp_ne (t := 39) (zdk ttX11_islander 18 rfl rfl) (by decide) (by omega) (by decide) (fun c23 => ?_) (fun c23 => ?_)
          · refine zj_aload_n (zdk ttX11_islander 21 rfl rfl) rfl (by decide) ?_
            refine zj_getr (r := 4) (zdk ttX11_islander 22 rfl rfl) zf_RX11_19 rfl (k_M s3) (rfM_7 s3) ?_
            refine zj_aload_n (zdk ttX11_islander 23 rfl rfl) rfl (by decide) ?_
            refine zj_geti (v := (h.2 0 6)) (zdk ttX11_islander 24 rfl rfl) zf_RX11_132 rfl (k_M s3) (zwr_r e2 (by first | decide | exact (absurd ·.1 (by decide)) | exact (absurd ·.2 (by decide)) | omega)) ?_
            refine zj_iload_n (zdk ttX11_islander 25 rfl rfl) rfl ?_
            refine zj_iast (zdk ttX11_islander 26 rfl rfl) (kaM_4 s3) (by decide) (by omega) (fun h24 e25 => ?_)
            refine zj_aload_n (zdk ttX11_islander 27 rfl rfl) rfl (by decide) ?_
            have s26 : okM h24 := awM_4 s3 e25 (by omega) (by unfold nsp; omega)
            refine zj_getr (r := 5) (zdk ttX11_islander 28 rfl rfl) zf_RX11_22 rfl (k_M s26) (rfM_8 s26) ?_
            refine zj_aload_n (zdk ttX11_islander 29 rfl rfl) rfl (by decide) ?_
            refine zj_geti (v := (h.2 0 6)) (zdk ttX11_islander 30 rfl rfl) zf_RX11_132 rfl (k_M s26) ((zwr_r e25 (by first | decide | exact (absurd ·.1 (by decide)) | exact (absurd ·.2 (by decide)) | omega)).trans (zwr_r e2 (by first | decide | exact (absurd ·.1 (by decide)) | exact (absurd ·.2 (by decide)) | omega))) ?_
            refine zj_iload_n (zdk ttX11_islander 31 rfl rfl) rfl ?_
            refine zj_iast (zdk ttX11_islander 32 rfl rfl) (kaM_5 s26) (by decide) (by omega) (fun h27 e28 => ?_)
            refine zj_aload_n (zdk ttX11_islander 33 rfl rfl) rfl (by decide) ?_
            have s29 : okM h27 := awM_5 s26 e28 (by omega) (by unfold nsp; omega)
            refine zj_getr (r := 1) (zdk ttX11_islander 34 rfl rfl) zf_RX11_7 rfl (k_M s29) (rfM_1 s29) ?_
            refine zj_bipush (zdk ttX11_islander 35 rfl rfl) (by decide) ?_
            refine zj_aload_n (zdk ttX11_islander 36 rfl rfl) rfl (by decide) ?_
            refine zj_geti (v := (h.2 0 6)) (zdk ttX11_islander 37 rfl rfl) zf_RX11_132 rfl (k_M s29) (((zwr_r e28 (by first | decide | exact (absurd ·.1 (by decide)) | exact (absurd ·.2 (by decide)) | omega)).trans (zwr_r e25 (by first | decide | exact (absurd ·.1 (by decide)) | exact (absurd ·.2 (by decide)) | omega))).trans (zwr_r e2 (by first | decide | exact (absurd ·.1 (by decide)) | exact (absurd ·.2 (by decide)) | omega))) ?_
            refine zj_iadd (zdk ttX11_islander 38 rfl rfl) ?_
            refine zj_iconst (zdk ttX11_islander 39 rfl rfl) ?_
            refine zj_iast (zdk ttX11_islander 40 rfl rfl) (kaM_1 s29) (by decide) (by omega) (fun h30 e31 => ?_)
            refine zj_aload_n (zdk ttX11_islander 41 rfl rfl) rfl (by decide) ?_
            have s32 : okM h30 := okM_wr s29 e31 (by decide) (by omega) (by omega)
            refine zj_getr (r := 1) (zdk ttX11_islander 42 rfl rfl) zf_RX11_7 rfl (k_M s32) (rfM_1 s32) ?_
            refine zj_bipush (zdk ttX11_islander 43 rfl rfl) (by decide) ?_
            refine zj_aload_n (zdk ttX11_islander 44 rfl rfl) rfl (by decide) ?_
            refine zj_geti (v := (h.2 0 6)) (zdk ttX11_islander 45 rfl rfl) zf_RX11_132 rfl (k_M s32) ((((zwr_r e31 (by first | decide | exact (absurd ·.1 (by decide)) | exact (absurd ·.2 (by decide)) | omega)).trans (zwr_r e28 (by first | decide | exact (absurd ·.1 (by decide)) | exact (absurd ·.2 (by decide)) | omega))).trans (zwr_r e25 (by first | decide | exact (absurd ·.1 (by decide)) | exact (absurd ·.2 (by decide)) | omega))).trans (zwr_r e2 (by first | decide | exact (absurd ·.1 (by decide)) | exact (absurd ·.2 (by decide)) | omega))) ?_
            refine zj_iadd (zdk ttX11_islander 46 rfl rfl) ?_
            refine zj_iconst (zdk ttX11_islander 47 rfl rfl) ?_
            refine zj_iast (zdk ttX11_islander 48 rfl rfl) (kaM_1 s32) (by decide) (by omega) (fun h33 e34 => ?_)
            refine zj_aload_n (zdk ttX11_islander 49 rfl rfl) rfl (by decide) ?_
            have s35 : okM h33 := okM_wr s32 e34 (by decide) (by omega) (by omega)
            refine zj_getr (r := 1) (zdk ttX11_islander 50 rfl rfl) zf_RX11_7 rfl (k_M s35) (rfM_1 s35) ?_
            refine zj_bipush (zdk ttX11_islander 51 rfl rfl) (by decide) ?_
            refine zj_aload_n (zdk ttX11_islander 52 rfl rfl) rfl (by decide) ?_
            refine zj_geti (v := (h.2 0 6)) (zdk ttX11_islander 53 rfl rfl) zf_RX11_132 rfl (k_M s35) (((((zwr_r e34 (by first | decide | exact (absurd ·.1 (by decide)) | exact (absurd ·.2 (by decide)) | omega)).trans (zwr_r e31 (by first | decide | exact (absurd ·.1 (by decide)) | exact (absurd ·.2 (by decide)) | omega))).trans (zwr_r e28 (by first | decide | exact (absurd ·.1 (by decide)) | exact (absurd ·.2 (by decide)) | omega))).trans (zwr_r e25 (by first | decide | exact (absurd ·.1 (by decide)) | exact (absurd ·.2 (by decide)) | omega))).trans (zwr_r e2 (by first | decide | exact (absurd ·.1 (by decide)) | exact (absurd ·.2 (by decide)) | omega))) ?_
            refine zj_iadd (zdk ttX11_islander 54 rfl rfl) ?_
            refine zj_iconst (zdk ttX11_islander 55 rfl rfl) ?_
            refine zj_iast (zdk ttX11_islander 56 rfl rfl) (kaM_1 s35) (by decide) (by omega) (fun h36 e37 => ?_)
            refine zj_aload_n (zdk ttX11_islander 57 rfl rfl) rfl (by decide) ?_
            refine zj_aload_n (zdk ttX11_islander 58 rfl rfl) rfl (by decide) ?_
            have s38 : okM h36 := okM_wr s35 e37 (by decide) (by omega) (by omega)
            refine zj_geti (v := (h.2 0 6)) (zdk ttX11_islander 59 rfl rfl) zf_RX11_132 rfl (k_M s38) ((((((zwr_r e37 (by first | decide | exact (absurd ·.1 (by decide)) | exact (absurd ·.2 (by decide)) | omega)).trans (zwr_r e34 (by first | decide | exact (absurd ·.1 (by decide)) | exact (absurd ·.2 (by decide)) | omega))).trans (zwr_r e31 (by first | decide | exact (absurd ·.1 (by decide)) | exact (absurd ·.2 (by decide)) | omega))).trans (zwr_r e28 (by first | decide | exact (absurd ·.1 (by decide)) | exact (absurd ·.2 (by decide)) | omega))).trans (zwr_r e25 (by first | decide | exact (absurd ·.1 (by decide)) | exact (absurd ·.2 (by decide)) | omega))).trans (zwr_r e2 (by first | decide | exact (absurd ·.1 (by decide)) | exact (absurd ·.2 (by decide)) | omega))) ?_
            refine zj_iconst (zdk ttX11_islander 60 rfl rfl) ?_
            refine zj_iadd (zdk ttX11_islander 61 rfl rfl) ?_
            refine zj_puti (zdk ttX11_islander 62 rfl rfl) zf_RX11_132 rfl (k_M s38) (Or.inl zw_RX11_132) (k2 := 6) rfl (fun h39 e40 => ?_)
            refine zj_aload_n (zdk ttX11_islander 63 rfl rfl) rfl (by decide) ?_
            refine zj_iconst (zdk ttX11_islander 64 rfl rfl) ?_
            have s41 : okM h39 := fwM_6 s38 e40 (by omega)
            refine zj_puti (zdk ttX11_islander 65 rfl rfl) zf_RX11_123 rfl (k_M s41) (Or.inl zw_RX11_123) (k2 := 3) rfl (fun h42 e43 => ?_)
            refine zj_aload_n (zdk ttX11_islander 66 rfl rfl) rfl (by decide) ?_
            have s44 : okM h42 := fwM_3 s41 e43 (by omega)
            refine zj_geti (v := ((h.2 0 6) + 1)) (zdk ttX11_islander 67 rfl rfl) zf_RX11_132 rfl (k_M s44) ((zwr_r e43 (by first | decide | exact (absurd ·.1 (by decide)) | exact (absurd ·.2 (by decide)) | omega)).trans (zwr_v e40)) ?_
            refine zj_iconst (zdk ttX11_islander 68 rfl rfl) ?_
            refine zj_isub (zdk ttX11_islander 69 rfl rfl) ?_
            have f52 : zfr [0, 3, 6] [1, 4, 5] h h1 := zfr_wf (zfr_r _ _ _) e2 rfl
            have f51 : zfr [0, 3, 6] [1, 4, 5] h h24 := zfr_wa f52 e25 rfl
            have f50 : zfr [0, 3, 6] [1, 4, 5] h h27 := zfr_wa f51 e28 rfl
            have f49 : zfr [0, 3, 6] [1, 4, 5] h h30 := zfr_wa f50 e31 rfl
            have f48 : zfr [0, 3, 6] [1, 4, 5] h h33 := zfr_wa f49 e34 rfl
            have f47 : zfr [0, 3, 6] [1, 4, 5] h h36 := zfr_wa f48 e37 rfl
            have f46 : zfr [0, 3, 6] [1, 4, 5] h h39 := zfr_wf f47 e40 rfl
            have f45 : zfr [0, 3, 6] [1, 4, 5] h h42 := zfr_wf f46 e43 rfl
            have b53 : h42.2 0 6 = ((h.2 0 6) + 1) := ((zwr_r e43 (by first | decide | exact (absurd ·.1 (by decide)) | exact (absurd ·.2 (by decide)) | omega)).trans (zwr_v e40))
            exact zj_iret rfl (zdk ttX11_islander 70 rfl rfl) (Nat.le_refl _) (Nat.le_refl _) ⟨(((h.2 0 6) + 1) - 1), rfl, by omega, s44, f45, by unfold zis zisG; omega⟩
          · refine zj_iconst (zdk ttX11_islander 19 rfl rfl) ?_
            have f54 : zfr [0, 3, 6] [1, 4, 5] h h1 := zfr_wf (zfr_r _ _ _) e2 rfl
            have b55 : h1.2 0 6 = (h.2 0 6) := (zwr_r e2 (by first | decide | exact (absurd ·.1 (by decide)) | exact (absurd ·.2 (by decide)) | omega))
            exact zj_iret rfl (zdk ttX11_islander 20 rfl rfl) (Nat.le_refl _) (Nat.le_refl _) ⟨(-1), rfl, by omega, s3, f54, by unfold zis zisG; omega⟩

abbrev q2_X11_set (h : zM) (p1 : Int) (p2 : Int) (p3 : Int) : Option zV → zM → Prop := zqi fun v h' => (0 ≤ v ∧ v ≤ 1) ∧ okM h' ∧ zfr [0, 3] [1, 4, 5] h h' ∧ (zst9 p1 p2 p3 (h.2 0 6) v)
set_option maxRecDepth 100000 in
set_option maxHeartbeats 4000000 in
theorem s2_X11_set (l : Launch) (h : zM) (p1 : Int) (p2 : Int) (p3 : Int) (s0 : okM h) (b_p1 : (-2147483648) ≤ p1 ∧ p1 ≤ 2147483647) (b_p2 : (-2147483648) ≤ p2 ∧ p2 ≤ 2147483647) (b_p3 : (-2147483648) ≤ p3 ∧ p3 ≤ 2147483647) : zT shM l yX11_set cX11_set 4 (some .boolean) (rmL 3) 0 0 [.inr 0, .inl p1, .inl p2, .inl p3] h (q2_X11_set h p1 p2 p3) := by
  refine zT_of (by decide +kernel) (L0 := [some (.inr 0), some (.inl p1), some (.inl p2), some (.inl p3)]) rfl (Nat.le_of_ble_eq_true rfl) ?_
  refine zj_aload_n (zdk ttX11_set 0 rfl rfl) rfl (by decide) ?_
  refine zj_iconst (zdk ttX11_set 1 rfl rfl) ?_
  refine zj_puti (zdk ttX11_set 2 rfl rfl) zf_RX11_120 rfl (k_M s0) (Or.inl zw_RX11_120) (k2 := 0) rfl (fun h1 e2 => ?_)
  refine zj_aload_n (zdk ttX11_set 3 rfl rfl) rfl (by decide) ?_
  refine zj_iload_n (zdk ttX11_set 4 rfl rfl) rfl ?_
  refine zj_iload_n (zdk ttX11_set 5 rfl rfl) rfl ?_
  refine zj_iload_n (zdk ttX11_set 6 rfl rfl) rfl ?_
  have s3 : okM h1 := fwM_0 s0 e2 (by omega)
  refine zj_callV (av := [.inl p1, .inl p2, .inl p3]) (st := []) (zdk ttX11_set 7 rfl rfl) mb_X11_canSet mv_RX11_146 (ci := 11) rfl rfl (k_M s3) rfl rfl (Nat.le_of_ble_eq_true rfl) (s_X11_canSet l h1 p1 p2 p3 s3 (by omega) (by omega) (by omega)) (rm_ok (by decide) (by decide)) (zq_i fun v5 h6 q4 => ?_)
  obtain ⟨rfl, b8, ⟨rfl, b7⟩ | ⟨rfl, b7⟩⟩ := q4
  · refine zj_if_ne (t := 17) (zdk ttX11_set 8 rfl rfl) (by decide) (by decide) (fun c9 => ?_) (fun c9 => ?_)
    · exact absurd c9 (by omega)
    · refine zj_iconst (zdk ttX11_set 9 rfl rfl) ?_
      have f10 : zfr [0, 3] [1, 4, 5] h h1 := zfr_wf (zfr_r _ _ _) e2 rfl
      have b11 : h1.2 0 6 = (h.2 0 6) := (zwr_r e2 (by first | decide | exact (absurd ·.1 (by decide)) | exact (absurd ·.2 (by decide)) | omega))
      have b12 : 0 ≤ (h.2 0 6) ∧ (h.2 0 6) ≤ 18 := fM_6 s0
      exact zj_zret rfl (zdk ttX11_set 10 rfl rfl) (Nat.le_refl _) (Nat.le_refl _) (by omega) ⟨0, rfl, by omega, s3, f10, by unfold zst9 zstG; omega⟩
  · refine zj_if_ne (t := 17) (zdk ttX11_set 8 rfl rfl) (by decide) (by decide) (fun c13 => ?_) (fun c13 => ?_)
    · refine zj_iload_n (zdk ttX11_set 11 rfl rfl) rfl ?_
      refine zj_if_ne (t := 28) (zdk ttX11_set 12 rfl rfl) (by decide) (by omega) (fun c14 => ?_) (fun c14 => ?_)
      · refine zj_iload_n (zdk ttX11_set 18 rfl rfl) rfl ?_
        refine zj_iconst (zdk ttX11_set 19 rfl rfl) ?_
        refine zj_icmp_ne (t := 40) (zdk ttX11_set 20 rfl rfl) (by decide) (by omega) (by decide) (fun c15 => ?_) (fun c15 => ?_)
        · refine zj_iload_n (zdk ttX11_set 26 rfl rfl) rfl ?_
          refine zj_iconst (zdk ttX11_set 27 rfl rfl) ?_
          refine zj_icmp_ne (t := 52) (zdk ttX11_set 28 rfl rfl) (by decide) (by omega) (by decide) (fun c16 => ?_) (fun c16 => ?_)
          · refine zj_iload_n (zdk ttX11_set 34 rfl rfl) rfl ?_
            refine zj_iconst (zdk ttX11_set 35 rfl rfl) ?_
            refine zj_icmp_ne (t := 64) (zdk ttX11_set 36 rfl rfl) (by decide) (by omega) (by decide) (fun c17 => ?_) (fun c17 => ?_)
            · refine zj_iload_n (zdk ttX11_set 42 rfl rfl) rfl ?_
              refine zj_iconst (zdk ttX11_set 43 rfl rfl) ?_
              refine zj_icmp_ne (t := 77) (zdk ttX11_set 44 rfl rfl) (by decide) (by omega) (by decide) (fun c18 => ?_) (fun c18 => ?_)
              · exact absurd c18 (by omega)
              · refine zj_aload_n (zdk ttX11_set 45 rfl rfl) rfl (by decide) ?_
                refine zj_getr (r := 1) (zdk ttX11_set 46 rfl rfl) zf_RX11_7 rfl (k_M s3) (rfM_1 s3) ?_
                refine zj_bipush (zdk ttX11_set 47 rfl rfl) (by decide) ?_
                refine zj_iload_n (zdk ttX11_set 48 rfl rfl) rfl ?_
                refine zj_iast (zdk ttX11_set 49 rfl rfl) (kaM_1 s3) (by decide) (by omega) (fun h19 e20 => ?_)
                refine zj_aload_n (zdk ttX11_set 50 rfl rfl) rfl (by decide) ?_
                refine zj_iconst (zdk ttX11_set 51 rfl rfl) ?_
                have s21 : okM h19 := okM_wr s3 e20 (by decide) (by omega) (by omega)
                refine zj_puti (zdk ttX11_set 52 rfl rfl) zf_RX11_123 rfl (k_M s21) (Or.inl zw_RX11_123) (k2 := 3) rfl (fun h22 e23 => ?_)
                refine zj_iconst (zdk ttX11_set 53 rfl rfl) ?_
                have s24 : okM h22 := fwM_3 s21 e23 (by omega)
                have f27 : zfr [0, 3] [1, 4, 5] h h1 := zfr_wf (zfr_r _ _ _) e2 rfl
                have f26 : zfr [0, 3] [1, 4, 5] h h19 := zfr_wa f27 e20 rfl
                have f25 : zfr [0, 3] [1, 4, 5] h h22 := zfr_wf f26 e23 rfl
                have b28 : h1.2 0 6 = (h.2 0 6) := (zwr_r e2 (by first | decide | exact (absurd ·.1 (by decide)) | exact (absurd ·.2 (by decide)) | omega))
                have b29 : 0 ≤ (h.2 0 6) ∧ (h.2 0 6) ≤ 18 := fM_6 s0
                exact zj_zret rfl (zdk ttX11_set 54 rfl rfl) (Nat.le_refl _) (Nat.le_refl _) (by omega) ⟨1, rfl, by omega, s24, f25, by unfold zst9 zstG; omega⟩
            · refine zj_aload_n (zdk ttX11_set 37 rfl rfl) rfl (by decide) ?_
              refine zj_getr (r := 1) (zdk ttX11_set 38 rfl rfl) zf_RX11_7 rfl (k_M s3) (rfM_1 s3) ?_
              refine zj_iconst (zdk ttX11_set 39 rfl rfl) ?_
              refine zj_iload_n (zdk ttX11_set 40 rfl rfl) rfl ?_
              refine zj_iast (zdk ttX11_set 41 rfl rfl) (kaM_1 s3) (by decide) (by omega) (fun h30 e31 => ?_)
              refine zj_iload_n (zdk ttX11_set 42 rfl rfl) rfl ?_
              refine zj_iconst (zdk ttX11_set 43 rfl rfl) ?_
              refine zj_icmp_ne (t := 77) (zdk ttX11_set 44 rfl rfl) (by decide) (by omega) (by decide) (fun c32 => ?_) (fun c32 => ?_)
              · refine zj_aload_n (zdk ttX11_set 50 rfl rfl) rfl (by decide) ?_
                refine zj_iconst (zdk ttX11_set 51 rfl rfl) ?_
                have s33 : okM h30 := okM_wr s3 e31 (by decide) (by omega) (by omega)
                refine zj_puti (zdk ttX11_set 52 rfl rfl) zf_RX11_123 rfl (k_M s33) (Or.inl zw_RX11_123) (k2 := 3) rfl (fun h34 e35 => ?_)
                refine zj_iconst (zdk ttX11_set 53 rfl rfl) ?_
                have s36 : okM h34 := fwM_3 s33 e35 (by omega)
                have f39 : zfr [0, 3] [1, 4, 5] h h1 := zfr_wf (zfr_r _ _ _) e2 rfl
                have f38 : zfr [0, 3] [1, 4, 5] h h30 := zfr_wa f39 e31 rfl
                have f37 : zfr [0, 3] [1, 4, 5] h h34 := zfr_wf f38 e35 rfl
                have b40 : h1.2 0 6 = (h.2 0 6) := (zwr_r e2 (by first | decide | exact (absurd ·.1 (by decide)) | exact (absurd ·.2 (by decide)) | omega))
                have b41 : 0 ≤ (h.2 0 6) ∧ (h.2 0 6) ≤ 18 := fM_6 s0
                exact zj_zret rfl (zdk ttX11_set 54 rfl rfl) (Nat.le_refl _) (Nat.le_refl _) (by omega) ⟨1, rfl, by omega, s36, f37, by unfold zst9 zstG; omega⟩
              · exact absurd c32 (by omega)
          · refine zj_aload_n (zdk ttX11_set 29 rfl rfl) rfl (by decide) ?_
            refine zj_getr (r := 1) (zdk ttX11_set 30 rfl rfl) zf_RX11_7 rfl (k_M s3) (rfM_1 s3) ?_
            refine zj_iconst (zdk ttX11_set 31 rfl rfl) ?_
            refine zj_iload_n (zdk ttX11_set 32 rfl rfl) rfl ?_
            refine zj_iast (zdk ttX11_set 33 rfl rfl) (kaM_1 s3) (by decide) (by omega) (fun h42 e43 => ?_)
            refine zj_iload_n (zdk ttX11_set 34 rfl rfl) rfl ?_
            refine zj_iconst (zdk ttX11_set 35 rfl rfl) ?_
            refine zj_icmp_ne (t := 64) (zdk ttX11_set 36 rfl rfl) (by decide) (by omega) (by decide) (fun c44 => ?_) (fun c44 => ?_)
            · refine zj_iload_n (zdk ttX11_set 42 rfl rfl) rfl ?_
              refine zj_iconst (zdk ttX11_set 43 rfl rfl) ?_
              refine zj_icmp_ne (t := 77) (zdk ttX11_set 44 rfl rfl) (by decide) (by omega) (by decide) (fun c45 => ?_) (fun c45 => ?_)
              · refine zj_aload_n (zdk ttX11_set 50 rfl rfl) rfl (by decide) ?_
                refine zj_iconst (zdk ttX11_set 51 rfl rfl) ?_
                have s46 : okM h42 := okM_wr s3 e43 (by decide) (by omega) (by omega)
                refine zj_puti (zdk ttX11_set 52 rfl rfl) zf_RX11_123 rfl (k_M s46) (Or.inl zw_RX11_123) (k2 := 3) rfl (fun h47 e48 => ?_)
                refine zj_iconst (zdk ttX11_set 53 rfl rfl) ?_
                have s49 : okM h47 := fwM_3 s46 e48 (by omega)
                have f52 : zfr [0, 3] [1, 4, 5] h h1 := zfr_wf (zfr_r _ _ _) e2 rfl
                have f51 : zfr [0, 3] [1, 4, 5] h h42 := zfr_wa f52 e43 rfl
                have f50 : zfr [0, 3] [1, 4, 5] h h47 := zfr_wf f51 e48 rfl
                have b53 : h1.2 0 6 = (h.2 0 6) := (zwr_r e2 (by first | decide | exact (absurd ·.1 (by decide)) | exact (absurd ·.2 (by decide)) | omega))
                have b54 : 0 ≤ (h.2 0 6) ∧ (h.2 0 6) ≤ 18 := fM_6 s0
                exact zj_zret rfl (zdk ttX11_set 54 rfl rfl) (Nat.le_refl _) (Nat.le_refl _) (by omega) ⟨1, rfl, by omega, s49, f50, by unfold zst9 zstG; omega⟩
              · exact absurd c45 (by omega)
            · exact absurd c44 (by omega)
        · refine zj_aload_n (zdk ttX11_set 21 rfl rfl) rfl (by decide) ?_
          refine zj_getr (r := 5) (zdk ttX11_set 22 rfl rfl) zf_RX11_22 rfl (k_M s3) (rfM_8 s3) ?_
          refine zj_iload_n (zdk ttX11_set 23 rfl rfl) rfl ?_
          refine zj_iload_n (zdk ttX11_set 24 rfl rfl) rfl ?_
          refine zj_iast (zdk ttX11_set 25 rfl rfl) (kaM_5 s3) (by decide) (by omega) (fun h55 e56 => ?_)
          refine zj_iload_n (zdk ttX11_set 26 rfl rfl) rfl ?_
          refine zj_iconst (zdk ttX11_set 27 rfl rfl) ?_
          refine zj_icmp_ne (t := 52) (zdk ttX11_set 28 rfl rfl) (by decide) (by omega) (by decide) (fun c57 => ?_) (fun c57 => ?_)
          · refine zj_iload_n (zdk ttX11_set 34 rfl rfl) rfl ?_
            refine zj_iconst (zdk ttX11_set 35 rfl rfl) ?_
            refine zj_icmp_ne (t := 64) (zdk ttX11_set 36 rfl rfl) (by decide) (by omega) (by decide) (fun c58 => ?_) (fun c58 => ?_)
            · refine zj_iload_n (zdk ttX11_set 42 rfl rfl) rfl ?_
              refine zj_iconst (zdk ttX11_set 43 rfl rfl) ?_
              refine zj_icmp_ne (t := 77) (zdk ttX11_set 44 rfl rfl) (by decide) (by omega) (by decide) (fun c59 => ?_) (fun c59 => ?_)
              · refine zj_aload_n (zdk ttX11_set 50 rfl rfl) rfl (by decide) ?_
                refine zj_iconst (zdk ttX11_set 51 rfl rfl) ?_
                have s60 : okM h55 := awM_5 s3 e56 (by omega) (by unfold nsp; omega)
                refine zj_puti (zdk ttX11_set 52 rfl rfl) zf_RX11_123 rfl (k_M s60) (Or.inl zw_RX11_123) (k2 := 3) rfl (fun h61 e62 => ?_)
                refine zj_iconst (zdk ttX11_set 53 rfl rfl) ?_
                have s63 : okM h61 := fwM_3 s60 e62 (by omega)
                have f66 : zfr [0, 3] [1, 4, 5] h h1 := zfr_wf (zfr_r _ _ _) e2 rfl
                have f65 : zfr [0, 3] [1, 4, 5] h h55 := zfr_wa f66 e56 rfl
                have f64 : zfr [0, 3] [1, 4, 5] h h61 := zfr_wf f65 e62 rfl
                have b67 : h1.2 0 6 = (h.2 0 6) := (zwr_r e2 (by first | decide | exact (absurd ·.1 (by decide)) | exact (absurd ·.2 (by decide)) | omega))
                have b68 : 0 ≤ (h.2 0 6) ∧ (h.2 0 6) ≤ 18 := fM_6 s0
                exact zj_zret rfl (zdk ttX11_set 54 rfl rfl) (Nat.le_refl _) (Nat.le_refl _) (by omega) ⟨1, rfl, by omega, s63, f64, by unfold zst9 zstG; omega⟩
              · exact absurd c59 (by omega)
            · exact absurd c58 (by omega)
          · exact absurd c57 (by omega)
      · refine zj_aload_n (zdk ttX11_set 13 rfl rfl) rfl (by decide) ?_
        refine zj_getr (r := 4) (zdk ttX11_set 14 rfl rfl) zf_RX11_19 rfl (k_M s3) (rfM_7 s3) ?_
        refine zj_iload_n (zdk ttX11_set 15 rfl rfl) rfl ?_
        refine zj_iload_n (zdk ttX11_set 16 rfl rfl) rfl ?_
        refine zj_iast (zdk ttX11_set 17 rfl rfl) (kaM_4 s3) (by decide) (by omega) (fun h69 e70 => ?_)
        refine zj_iload_n (zdk ttX11_set 18 rfl rfl) rfl ?_
        refine zj_iconst (zdk ttX11_set 19 rfl rfl) ?_
        refine zj_icmp_ne (t := 40) (zdk ttX11_set 20 rfl rfl) (by decide) (by omega) (by decide) (fun c71 => ?_) (fun c71 => ?_)
        · refine zj_iload_n (zdk ttX11_set 26 rfl rfl) rfl ?_
          refine zj_iconst (zdk ttX11_set 27 rfl rfl) ?_
          refine zj_icmp_ne (t := 52) (zdk ttX11_set 28 rfl rfl) (by decide) (by omega) (by decide) (fun c72 => ?_) (fun c72 => ?_)
          · refine zj_iload_n (zdk ttX11_set 34 rfl rfl) rfl ?_
            refine zj_iconst (zdk ttX11_set 35 rfl rfl) ?_
            refine zj_icmp_ne (t := 64) (zdk ttX11_set 36 rfl rfl) (by decide) (by omega) (by decide) (fun c73 => ?_) (fun c73 => ?_)
            · refine zj_iload_n (zdk ttX11_set 42 rfl rfl) rfl ?_
              refine zj_iconst (zdk ttX11_set 43 rfl rfl) ?_
              refine zj_icmp_ne (t := 77) (zdk ttX11_set 44 rfl rfl) (by decide) (by omega) (by decide) (fun c74 => ?_) (fun c74 => ?_)
              · refine zj_aload_n (zdk ttX11_set 50 rfl rfl) rfl (by decide) ?_
                refine zj_iconst (zdk ttX11_set 51 rfl rfl) ?_
                have s75 : okM h69 := awM_4 s3 e70 (by omega) (by unfold nsp; omega)
                refine zj_puti (zdk ttX11_set 52 rfl rfl) zf_RX11_123 rfl (k_M s75) (Or.inl zw_RX11_123) (k2 := 3) rfl (fun h76 e77 => ?_)
                refine zj_iconst (zdk ttX11_set 53 rfl rfl) ?_
                have s78 : okM h76 := fwM_3 s75 e77 (by omega)
                have f81 : zfr [0, 3] [1, 4, 5] h h1 := zfr_wf (zfr_r _ _ _) e2 rfl
                have f80 : zfr [0, 3] [1, 4, 5] h h69 := zfr_wa f81 e70 rfl
                have f79 : zfr [0, 3] [1, 4, 5] h h76 := zfr_wf f80 e77 rfl
                have b82 : h1.2 0 6 = (h.2 0 6) := (zwr_r e2 (by first | decide | exact (absurd ·.1 (by decide)) | exact (absurd ·.2 (by decide)) | omega))
                have b83 : 0 ≤ (h.2 0 6) ∧ (h.2 0 6) ≤ 18 := fM_6 s0
                exact zj_zret rfl (zdk ttX11_set 54 rfl rfl) (Nat.le_refl _) (Nat.le_refl _) (by omega) ⟨1, rfl, by omega, s78, f79, by unfold zst9 zstG; omega⟩
              · exact absurd c74 (by omega)
            · exact absurd c73 (by omega)
          · exact absurd c72 (by omega)
        · exact absurd c71 (by omega)
    · exact absurd c13 (by omega)

abbrev q2_X11_image (h : zM) (p1 : Int) : Option zV → zM → Prop := zqi fun v h' => (0 ≤ v ∧ v ≤ 1) ∧ okB h' ∧ zfr [0, 3, 6, 33, 35, 37, 42, 45, 49, 53, 58, 59, 60] [1, 4, 5, 6, 9, 10, 11, 12, 13, 14, 15, 17, 18, 19, 23, 24, 25, 28, 31, 32, 35] h h' ∧ (okM h') ∧ (zimc p1 (h.2 0 59) v (h'.2 0 59)) ∧ (zimx p1 (h.2 0 59) (h.2 0 42) (h.2 35 67) (h'.2 0 42) (h'.2 35 67)) ∧ (zimx p1 (h.2 0 59) (h.2 0 45) (h.2 35 68) (h'.2 0 45) (h'.2 35 68)) ∧ (zimx p1 (h.2 0 59) (h.2 0 49) (h.2 35 69) (h'.2 0 49) (h'.2 35 69)) ∧ (zimx p1 (h.2 0 59) (h.2 0 53) (h.2 35 70) (h'.2 0 53) (h'.2 35 70)) ∧ (zimx p1 (h.2 0 59) (h.2 0 6) (h.2 35 63) (h'.2 0 6) (h'.2 35 63))
set_option maxRecDepth 100000 in
set_option maxHeartbeats 4000000 in
theorem s2_X11_image (l : Launch) (h : zM) (p1 : Int) (s0 : okB h) (b_p1 : 0 ≤ p1 ∧ p1 ≤ 1) (u_0 : okM h) : zT shM l yX11_image cX11_image 3 (some .boolean) (rmL 3) 0 0 [.inr 0, .inl p1] h (q2_X11_image h p1) := by
  refine zT_of (by decide +kernel) (L0 := [some (.inr 0), some (.inl p1), none]) rfl (Nat.le_of_ble_eq_true rfl) ?_
  refine zj_aload_n (zdk ttX11_image 0 rfl rfl) rfl (by decide) ?_
  refine zj_iconst (zdk ttX11_image 1 rfl rfl) ?_
  refine zj_puti (zdk ttX11_image 2 rfl rfl) zf_RX11_120 rfl (k_B s0) (Or.inl zw_RX11_120) (k2 := 0) rfl (fun h1 e2 => ?_)
  refine zj_iload_n (zdk ttX11_image 3 rfl rfl) rfl ?_
  refine zj_if_ne (t := 18) (zdk ttX11_image 4 rfl rfl) (by decide) (by omega) (fun c3 => ?_) (fun c3 => ?_)
  · refine zj_aload_n (zdk ttX11_image 10 rfl rfl) rfl (by decide) ?_
    refine zj_iload_n (zdk ttX11_image 11 rfl rfl) rfl ?_
    have s4 : okB h1 := fwB_0 s0 e2 (by omega)
    refine zj_putz (zdk ttX11_image 12 rfl rfl) zf_RX11_464 rfl (by omega) (k_B s4) (Or.inl zw_RX11_464) (k2 := 58) rfl (fun h5 e6 => ?_)
    refine zj_aload_n (zdk ttX11_image 13 rfl rfl) rfl (by decide) ?_
    refine zj_iconst (zdk ttX11_image 14 rfl rfl) ?_
    have s7 : okB h5 := fwB_58 s4 e6 (by omega)
    refine zj_putz (zdk ttX11_image 15 rfl rfl) zf_RX11_470 rfl (by omega) (k_B s7) (Or.inl zw_RX11_470) (k2 := 59) rfl (fun h8 e9 => ?_)
    refine zj_aload_n (zdk ttX11_image 16 rfl rfl) rfl (by decide) ?_
    refine zj_iconst (zdk ttX11_image 17 rfl rfl) ?_
    have s10 : okB h8 := fwB_59 s7 e9 (by omega)
    refine zj_puti (zdk ttX11_image 18 rfl rfl) zf_RX11_461 rfl (k_B s10) (Or.inl zw_RX11_461) (k2 := 60) rfl (fun h11 e12 => ?_)
    have f0 : zfr [0, 58, 59, 60] [] h h11 := (zfr_wf (zfr_wf (zfr_wf (zfr_wf (zfr_r _ _ _) e2 rfl) e6 rfl) e9 rfl) e12 rfl)
    have b13 : h11.2 0 58 = p1 := (((zwr_r e12 (by first | decide | exact (absurd ·.1 (by decide)) | exact (absurd ·.2 (by decide)) | omega)).trans (zwr_r e9 (by first | decide | exact (absurd ·.1 (by decide)) | exact (absurd ·.2 (by decide)) | omega))).trans (zwr_v e6))
    have b14 : h11.2 0 59 = 1 := ((zwr_r e12 (by first | decide | exact (absurd ·.1 (by decide)) | exact (absurd ·.2 (by decide)) | omega)).trans (zwr_v e9))
    have b15 : h11.2 0 60 = 0 := (zwr_v e12)
    have hT0 : h11.2 0 58 = 0 → h.2 0 59 = 1 := fun q => by omega
    have zI0 := zPI_of u_0 f0 hT0
    have z0 : zSt h11 h11 0 := zSt_0 (by omega)
    refine zj_iconst (zdk ttX11_image 19 rfl rfl) ?_
    refine zj_istore_n (L' := [some (.inr 0), some (.inl p1), some (.inl 0)]) (zdk ttX11_image 20 rfl rfl) (by decide) rfl ?_
    have lp98 : ∀ (n35 : Nat) (x16 : Int) (h17 : zM), (0 ≤ x16 ∧ x16 ≤ 63) → okB h17 → zfr [0, 3, 6, 33, 35, 37, 42, 45, 49, 53, 58, 59, 60] [1, 4, 5, 6, 9, 10, 11, 12, 13, 14, 15, 17, 18, 19, 23, 24, 25, 28, 31, 32, 35] h h17 → (zSt h11 h17 (x16)) → (h17.2 0 59 = 1) → (64 - x16).toNat < n35 → zJ shM l yX11_image cX11_image 3 (some .boolean) (rmL 3) 0 0 (q2_X11_image h p1) 0 0 35 [some (.inr 0), some (.inl p1), some (.inl x16)] [] h17 := by
      intro n35
      induction n35 with
      | zero => intro x16 h17 b99 s18 f19 u100 u101 m102; exact absurd m102 (Nat.not_lt_zero _)
      | succ n35 ih103 =>
        intro x16 h17 b99 s18 f19 u100 u101 m102
        refine zj_iload_n (zdk ttX11_image 21 rfl rfl) rfl ?_
        refine zj_bipush (zdk ttX11_image 22 rfl rfl) (by decide) ?_
        refine zj_icmp_ge (t := 63) (zdk ttX11_image 23 rfl rfl) (by decide) (by omega) (by decide) (fun c104 => ?_) (fun c104 => ?_)
        · refine zj_aload_n (zdk ttX11_image 36 rfl rfl) rfl (by decide) ?_
          refine zj_callV (av := []) (st := []) (zdk ttX11_image 37 rfl rfl) mb_X11_keepsTold mv_RX11_473 (ci := 11) rfl rfl (k_B s18) rfl rfl (Nat.le_of_ble_eq_true rfl) (s_X11_keepsTold l h17 h11 s18 (zSt_j u100 (by omega)) zI0) (rm_ok (by decide) (by decide)) (zq_v fun h107 q105 => ?_)
          obtain ⟨s109, f111, u110⟩ := q105
          refine zj_iconst (zdk ttX11_image 38 rfl rfl) ?_
          refine zj_istore_n (L' := [some (.inr 0), some (.inl p1), some (.inl 0)]) (zdk ttX11_image 39 rfl rfl) (by decide) rfl ?_
          have lp233 : ∀ (n69 : Nat) (x112 : Int) (h113 : zM), (0 ≤ x112 ∧ x112 ≤ 600) → okB h113 → zfr [0, 3, 6, 33, 35, 37, 42, 45, 49, 53, 58, 59, 60] [1, 4, 5, 6, 9, 10, 11, 12, 13, 14, 15, 17, 18, 19, 23, 24, 25, 28, 31, 32, 35] h h113 → (zSt h11 h113 (262 + x112)) → (h113.2 0 59 = 1) → (601 - x112).toNat < n69 → zJ shM l yX11_image cX11_image 3 (some .boolean) (rmL 3) 0 0 (q2_X11_image h p1) 0 0 69 [some (.inr 0), some (.inl p1), some (.inl x112)] [] h113 := by
            intro n69
            induction n69 with
            | zero => intro x112 h113 b234 s114 f115 u235 u236 m237; exact absurd m237 (Nat.not_lt_zero _)
            | succ n69 ih238 =>
              intro x112 h113 b234 s114 f115 u235 u236 m237
              refine zj_iload_n (zdk ttX11_image 40 rfl rfl) rfl ?_
              refine zj_sipush (zdk ttX11_image 41 rfl rfl) (by decide) ?_
              refine zj_icmp_ge (t := 98) (zdk ttX11_image 42 rfl rfl) (by decide) (by omega) (by decide) (fun c239 => ?_) (fun c239 => ?_)
              · refine zj_aload_n (zdk ttX11_image 55 rfl rfl) rfl (by decide) ?_
                refine zj_callV (av := []) (st := []) (zdk ttX11_image 56 rfl rfl) mb_X11_keepsLaw mv_RX11_476 (ci := 11) rfl rfl (k_B s114) rfl rfl (Nat.le_of_ble_eq_true rfl) (s_X11_keepsLaw l h113 h11 s114 (zSt_j u235 (by omega)) zI0) (rm_ok (by decide) (by decide)) (zq_v fun h242 q240 => ?_)
                obtain ⟨s244, f246, u245⟩ := q240
                refine zj_iload_n (zdk ttX11_image 57 rfl rfl) rfl ?_
                refine zj_if_ne (t := 111) (zdk ttX11_image 58 rfl rfl) (by decide) (by omega) (fun c247 => ?_) (fun c247 => ?_)
                · refine zj_iconst (zdk ttX11_image 62 rfl rfl) ?_
                  have f248 : zfr [0, 3, 6, 33, 35, 37, 42, 45, 49, 53, 58, 59, 60] [1, 4, 5, 6, 9, 10, 11, 12, 13, 14, 15, 17, 18, 19, 23, 24, 25, 28, 31, 32, 35] h h242 := zfr_t f115 f246 rfl rfl
                  have b249 : h242.2 0 59 = (h113.2 0 59) := (zfr_f f246 rfl rfl)
                  have b250 : 0 ≤ (h113.2 0 59) ∧ (h113.2 0 59) ≤ 1 := fB_59 s114
                  have b251 : h242.2 0 59 = (h113.2 0 59) := (zfr_f f246 rfl rfl)
                  have b252 := zSt_pt f0 (zSt_j u245 (by omega)) (j := 67) (by decide) (zl_f42 rfl)
                  have b253 := zSt_pt f0 (zSt_j u245 (by omega)) (j := 68) (by decide) (zl_f45 rfl)
                  have b254 := zSt_pt f0 (zSt_j u245 (by omega)) (j := 69) (by decide) (zl_f49 rfl)
                  have b255 := zSt_pt f0 (zSt_j u245 (by omega)) (j := 70) (by decide) (zl_f53 rfl)
                  have b256 := zSt_pt f0 (zSt_j u245 (by omega)) (j := 63) (by decide) (zl_f6 rfl)
                  exact zj_zret rfl (zdk ttX11_image 63 rfl rfl) (Nat.le_refl _) (Nat.le_refl _) (by omega) ⟨1, rfl, by omega, s244, f248, (okM_img u_0 f0 (by omega) hT0 s244 f248 (zSt_j u245 (by omega))), by unfold zimc; omega, by unfold zimx; omega, by unfold zimx; omega, by unfold zimx; omega, by unfold zimx; omega, by unfold zimx; omega⟩
                · exact absurd c247 (by omega)
              · refine zj_aload_n (zdk ttX11_image 43 rfl rfl) rfl (by decide) ?_
                refine zj_getr (r := 6) (zdk ttX11_image 44 rfl rfl) zf_RX11_25 rfl (k_B s114) (rfB_9 s114) ?_
                refine zj_iload_n (zdk ttX11_image 45 rfl rfl) rfl ?_
                refine zj_aload_n (zdk ttX11_image 46 rfl rfl) rfl (by decide) ?_
                refine zj_aload_n (zdk ttX11_image 47 rfl rfl) rfl (by decide) ?_
                refine zj_getr (r := 6) (zdk ttX11_image 48 rfl rfl) zf_RX11_25 rfl (k_B s114) (rfB_9 s114) ?_
                refine zj_iload_n (zdk ttX11_image 49 rfl rfl) rfl ?_
                have b257 : -2147483648 ≤ (h113.2 6 x112) ∧ (h113.2 6 x112) ≤ 2147483647 := abB_6 s114 x112
                refine zj_iald (v := (h113.2 6 x112)) (zdk ttX11_image 50 rfl rfl) (kaB_6 s114) (by decide) (by omega) rfl ?_
                refine zj_callV (av := [.inl (h113.2 6 x112)]) (st := [.inl x112, .inr 6]) (zdk ttX11_image 51 rfl rfl) mb_X11_keeps mv_RX11_467 (ci := 11) rfl rfl (k_B s114) rfl rfl (Nat.le_of_ble_eq_true rfl) (s_X11_keeps l h113 (h113.2 6 x112) s114 (by omega) (by have := u235.1; omega)) (rm_ok (by decide) (by decide)) (zq_i fun v259 h260 q258 => ?_)
                obtain ⟨b261, s262, f266, u263, u264, u265⟩ := q258
                refine zj_iast (zdk ttX11_image 52 rfl rfl) (kaB_6 s262) (by decide) (by omega) (fun h267 e268 => ?_)
                refine zj_iinc (L' := [some (.inr 0), some (.inl p1), some (.inl (x112 + 1))]) (zdk ttX11_image 53 rfl rfl) rfl (by decide) rfl ?_
                refine zj_goto (t := 69) (zdk ttX11_image 54 rfl rfl) (by decide) ?_
                have b269 : h267.2 0 59 = (h113.2 0 59) := ((zwr_r e268 (by first | decide | exact (absurd ·.1 (by decide)) | exact (absurd ·.2 (by decide)) | omega)).trans (zfr_f f266 rfl rfl))
                have b270 : 0 ≤ (h113.2 0 59) ∧ (h113.2 0 59) ≤ 1 := fB_59 s114
                have z272r : h113.2 6 x112 = (h113.2 6 x112) := rfl
                have z272l : zloc (262 + x112) = (6, x112) := (zl_6 (by omega) (by omega))
                have z272 : zSt h11 h267 (262 + x112 + 1) := zSt_step u235 (by omega) z272l f266 u263 u264 z272r u265 e268
                have s271 : okB h267 := okB_w s262 e268 (zSt_pm u235 (by omega) z272l s114 zI0 u264 z272r u265)
                have f274 : zfr [0, 3, 6, 33, 35, 37, 42, 45, 49, 53, 58, 59, 60] [1, 4, 5, 6, 9, 10, 11, 12, 13, 14, 15, 17, 18, 19, 23, 24, 25, 28, 31, 32, 35] h h260 := zfr_t f115 f266 rfl rfl
                have f273 : zfr [0, 3, 6, 33, 35, 37, 42, 45, 49, 53, 58, 59, 60] [1, 4, 5, 6, 9, 10, 11, 12, 13, 14, 15, 17, 18, 19, 23, 24, 25, 28, 31, 32, 35] h h267 := zfr_wa f274 e268 rfl
                exact ih238  (x112 + 1) h267 (by omega) s271 f273 (zSt_j z272 (by omega)) (by omega) (by omega)
          have b275 : h107.2 0 59 = (h17.2 0 59) := (zfr_f f111 rfl rfl)
          have b276 : 0 ≤ (h17.2 0 59) ∧ (h17.2 0 59) ≤ 1 := fB_59 s18
          have f277 : zfr [0, 3, 6, 33, 35, 37, 42, 45, 49, 53, 58, 59, 60] [1, 4, 5, 6, 9, 10, 11, 12, 13, 14, 15, 17, 18, 19, 23, 24, 25, 28, 31, 32, 35] h h107 := zfr_t f19 f111 rfl rfl
          exact lp233 _ 0 h107 (by omega) s109 f277 (zSt_j u110 (by omega)) (by omega) (Nat.lt_succ_self _)
        · refine zj_aload_n (zdk ttX11_image 24 rfl rfl) rfl (by decide) ?_
          refine zj_getr (r := 1) (zdk ttX11_image 25 rfl rfl) zf_RX11_7 rfl (k_B s18) (rfB_1 s18) ?_
          refine zj_iload_n (zdk ttX11_image 26 rfl rfl) rfl ?_
          refine zj_aload_n (zdk ttX11_image 27 rfl rfl) rfl (by decide) ?_
          refine zj_aload_n (zdk ttX11_image 28 rfl rfl) rfl (by decide) ?_
          refine zj_getr (r := 1) (zdk ttX11_image 29 rfl rfl) zf_RX11_7 rfl (k_B s18) (rfB_1 s18) ?_
          refine zj_iload_n (zdk ttX11_image 30 rfl rfl) rfl ?_
          have b278 : -2147483648 ≤ (h17.2 1 x16) ∧ (h17.2 1 x16) ≤ 2147483647 := abB_1 s18 x16
          refine zj_iald (v := (h17.2 1 x16)) (zdk ttX11_image 31 rfl rfl) (kaB_1 s18) (by decide) (by omega) rfl ?_
          refine zj_callV (av := [.inl (h17.2 1 x16)]) (st := [.inl x16, .inr 1]) (zdk ttX11_image 32 rfl rfl) mb_X11_keeps mv_RX11_467 (ci := 11) rfl rfl (k_B s18) rfl rfl (Nat.le_of_ble_eq_true rfl) (s_X11_keeps l h17 (h17.2 1 x16) s18 (by omega) (by have := u100.1; omega)) (rm_ok (by decide) (by decide)) (zq_i fun v280 h281 q279 => ?_)
          obtain ⟨b282, s283, f287, u284, u285, u286⟩ := q279
          refine zj_iast (zdk ttX11_image 33 rfl rfl) (kaB_1 s283) (by decide) (by omega) (fun h288 e289 => ?_)
          refine zj_iinc (L' := [some (.inr 0), some (.inl p1), some (.inl (x16 + 1))]) (zdk ttX11_image 34 rfl rfl) rfl (by decide) rfl ?_
          refine zj_goto (t := 35) (zdk ttX11_image 35 rfl rfl) (by decide) ?_
          have b290 : h288.2 0 59 = (h17.2 0 59) := ((zwr_r e289 (by first | decide | exact (absurd ·.1 (by decide)) | exact (absurd ·.2 (by decide)) | omega)).trans (zfr_f f287 rfl rfl))
          have b291 : 0 ≤ (h17.2 0 59) ∧ (h17.2 0 59) ≤ 1 := fB_59 s18
          have z293r : h17.2 1 x16 = (h17.2 1 x16) := rfl
          have z293l : zloc (x16) = (1, x16) := (zl_1 (by omega) (by omega))
          have z293 : zSt h11 h288 (x16 + 1) := zSt_step u100 (by omega) z293l f287 u284 u285 z293r u286 e289
          have s292 : okB h288 := okB_w s283 e289 (zSt_pm u100 (by omega) z293l s18 zI0 u285 z293r u286)
          have f295 : zfr [0, 3, 6, 33, 35, 37, 42, 45, 49, 53, 58, 59, 60] [1, 4, 5, 6, 9, 10, 11, 12, 13, 14, 15, 17, 18, 19, 23, 24, 25, 28, 31, 32, 35] h h281 := zfr_t f19 f287 rfl rfl
          have f294 : zfr [0, 3, 6, 33, 35, 37, 42, 45, 49, 53, 58, 59, 60] [1, 4, 5, 6, 9, 10, 11, 12, 13, 14, 15, 17, 18, 19, 23, 24, 25, 28, 31, 32, 35] h h288 := zfr_wa f295 e289 rfl
          exact ih103  (x16 + 1) h288 (by omega) s292 f294 (zSt_j z293 (by omega)) (by omega) (by omega)
    have b296 : h11.2 0 59 = 1 := ((zwr_r e12 (by first | decide | exact (absurd ·.1 (by decide)) | exact (absurd ·.2 (by decide)) | omega)).trans (zwr_v e9))
    have s297 : okB h11 := fwB_60 s10 e12 (by omega)
    have f301 : zfr [0, 3, 6, 33, 35, 37, 42, 45, 49, 53, 58, 59, 60] [1, 4, 5, 6, 9, 10, 11, 12, 13, 14, 15, 17, 18, 19, 23, 24, 25, 28, 31, 32, 35] h h1 := zfr_wf (zfr_r _ _ _) e2 rfl
    have f300 : zfr [0, 3, 6, 33, 35, 37, 42, 45, 49, 53, 58, 59, 60] [1, 4, 5, 6, 9, 10, 11, 12, 13, 14, 15, 17, 18, 19, 23, 24, 25, 28, 31, 32, 35] h h5 := zfr_wf f301 e6 rfl
    have f299 : zfr [0, 3, 6, 33, 35, 37, 42, 45, 49, 53, 58, 59, 60] [1, 4, 5, 6, 9, 10, 11, 12, 13, 14, 15, 17, 18, 19, 23, 24, 25, 28, 31, 32, 35] h h8 := zfr_wf f300 e9 rfl
    have f298 : zfr [0, 3, 6, 33, 35, 37, 42, 45, 49, 53, 58, 59, 60] [1, 4, 5, 6, 9, 10, 11, 12, 13, 14, 15, 17, 18, 19, 23, 24, 25, 28, 31, 32, 35] h h11 := zfr_wf f299 e12 rfl
    exact lp98 _ 0 h11 (by omega) s297 f298 (zSt_j z0 (by omega)) (by omega) (Nat.lt_succ_self _)
  · refine zj_aload_n (zdk ttX11_image 5 rfl rfl) rfl (by decide) ?_
    have b302 : 0 ≤ (h.2 0 59) ∧ (h.2 0 59) ≤ 1 := fB_59 s0
    have s303 : okB h1 := fwB_0 s0 e2 (by omega)
    refine zj_geti (v := (h.2 0 59)) (zdk ttX11_image 6 rfl rfl) zf_RX11_470 rfl (k_B s303) (zwr_r e2 (by first | decide | exact (absurd ·.1 (by decide)) | exact (absurd ·.2 (by decide)) | omega)) ?_
    refine zj_if_ne (t := 18) (zdk ttX11_image 7 rfl rfl) (by decide) (by omega) (fun c304 => ?_) (fun c304 => ?_)
    · refine zj_aload_n (zdk ttX11_image 10 rfl rfl) rfl (by decide) ?_
      refine zj_iload_n (zdk ttX11_image 11 rfl rfl) rfl ?_
      refine zj_putz (zdk ttX11_image 12 rfl rfl) zf_RX11_464 rfl (by omega) (k_B s303) (Or.inl zw_RX11_464) (k2 := 58) rfl (fun h305 e306 => ?_)
      refine zj_aload_n (zdk ttX11_image 13 rfl rfl) rfl (by decide) ?_
      refine zj_iconst (zdk ttX11_image 14 rfl rfl) ?_
      have s307 : okB h305 := fwB_58 s303 e306 (by omega)
      refine zj_putz (zdk ttX11_image 15 rfl rfl) zf_RX11_470 rfl (by omega) (k_B s307) (Or.inl zw_RX11_470) (k2 := 59) rfl (fun h308 e309 => ?_)
      refine zj_aload_n (zdk ttX11_image 16 rfl rfl) rfl (by decide) ?_
      refine zj_iconst (zdk ttX11_image 17 rfl rfl) ?_
      have s310 : okB h308 := fwB_59 s307 e309 (by omega)
      refine zj_puti (zdk ttX11_image 18 rfl rfl) zf_RX11_461 rfl (k_B s310) (Or.inl zw_RX11_461) (k2 := 60) rfl (fun h311 e312 => ?_)
      have f0 : zfr [0, 58, 59, 60] [] h h311 := (zfr_wf (zfr_wf (zfr_wf (zfr_wf (zfr_r _ _ _) e2 rfl) e306 rfl) e309 rfl) e312 rfl)
      have b313 : h311.2 0 58 = p1 := (((zwr_r e312 (by first | decide | exact (absurd ·.1 (by decide)) | exact (absurd ·.2 (by decide)) | omega)).trans (zwr_r e309 (by first | decide | exact (absurd ·.1 (by decide)) | exact (absurd ·.2 (by decide)) | omega))).trans (zwr_v e306))
      have b314 : h311.2 0 59 = 1 := ((zwr_r e312 (by first | decide | exact (absurd ·.1 (by decide)) | exact (absurd ·.2 (by decide)) | omega)).trans (zwr_v e309))
      have b315 : h311.2 0 60 = 0 := (zwr_v e312)
      have hT0 : h311.2 0 58 = 0 → h.2 0 59 = 1 := fun q => by omega
      have zI0 := zPI_of u_0 f0 hT0
      have z0 : zSt h311 h311 0 := zSt_0 (by omega)
      refine zj_iconst (zdk ttX11_image 19 rfl rfl) ?_
      refine zj_istore_n (L' := [some (.inr 0), some (.inl p1), some (.inl 0)]) (zdk ttX11_image 20 rfl rfl) (by decide) rfl ?_
      have lp398 : ∀ (n35 : Nat) (x316 : Int) (h317 : zM), (0 ≤ x316 ∧ x316 ≤ 63) → okB h317 → zfr [0, 3, 6, 33, 35, 37, 42, 45, 49, 53, 58, 59, 60] [1, 4, 5, 6, 9, 10, 11, 12, 13, 14, 15, 17, 18, 19, 23, 24, 25, 28, 31, 32, 35] h h317 → (zSt h311 h317 (x316)) → (h317.2 0 59 = 1) → (64 - x316).toNat < n35 → zJ shM l yX11_image cX11_image 3 (some .boolean) (rmL 3) 0 0 (q2_X11_image h p1) 0 0 35 [some (.inr 0), some (.inl p1), some (.inl x316)] [] h317 := by
        intro n35
        induction n35 with
        | zero => intro x316 h317 b399 s318 f319 u400 u401 m402; exact absurd m402 (Nat.not_lt_zero _)
        | succ n35 ih403 =>
          intro x316 h317 b399 s318 f319 u400 u401 m402
          refine zj_iload_n (zdk ttX11_image 21 rfl rfl) rfl ?_
          refine zj_bipush (zdk ttX11_image 22 rfl rfl) (by decide) ?_
          refine zj_icmp_ge (t := 63) (zdk ttX11_image 23 rfl rfl) (by decide) (by omega) (by decide) (fun c404 => ?_) (fun c404 => ?_)
          · refine zj_aload_n (zdk ttX11_image 36 rfl rfl) rfl (by decide) ?_
            refine zj_callV (av := []) (st := []) (zdk ttX11_image 37 rfl rfl) mb_X11_keepsTold mv_RX11_473 (ci := 11) rfl rfl (k_B s318) rfl rfl (Nat.le_of_ble_eq_true rfl) (s_X11_keepsTold l h317 h311 s318 (zSt_j u400 (by omega)) zI0) (rm_ok (by decide) (by decide)) (zq_v fun h407 q405 => ?_)
            obtain ⟨s409, f411, u410⟩ := q405
            refine zj_iconst (zdk ttX11_image 38 rfl rfl) ?_
            refine zj_istore_n (L' := [some (.inr 0), some (.inl p1), some (.inl 0)]) (zdk ttX11_image 39 rfl rfl) (by decide) rfl ?_
            have lp533 : ∀ (n69 : Nat) (x412 : Int) (h413 : zM), (0 ≤ x412 ∧ x412 ≤ 600) → okB h413 → zfr [0, 3, 6, 33, 35, 37, 42, 45, 49, 53, 58, 59, 60] [1, 4, 5, 6, 9, 10, 11, 12, 13, 14, 15, 17, 18, 19, 23, 24, 25, 28, 31, 32, 35] h h413 → (zSt h311 h413 (262 + x412)) → (h413.2 0 59 = 1) → (601 - x412).toNat < n69 → zJ shM l yX11_image cX11_image 3 (some .boolean) (rmL 3) 0 0 (q2_X11_image h p1) 0 0 69 [some (.inr 0), some (.inl p1), some (.inl x412)] [] h413 := by
              intro n69
              induction n69 with
              | zero => intro x412 h413 b534 s414 f415 u535 u536 m537; exact absurd m537 (Nat.not_lt_zero _)
              | succ n69 ih538 =>
                intro x412 h413 b534 s414 f415 u535 u536 m537
                refine zj_iload_n (zdk ttX11_image 40 rfl rfl) rfl ?_
                refine zj_sipush (zdk ttX11_image 41 rfl rfl) (by decide) ?_
                refine zj_icmp_ge (t := 98) (zdk ttX11_image 42 rfl rfl) (by decide) (by omega) (by decide) (fun c539 => ?_) (fun c539 => ?_)
                · refine zj_aload_n (zdk ttX11_image 55 rfl rfl) rfl (by decide) ?_
                  refine zj_callV (av := []) (st := []) (zdk ttX11_image 56 rfl rfl) mb_X11_keepsLaw mv_RX11_476 (ci := 11) rfl rfl (k_B s414) rfl rfl (Nat.le_of_ble_eq_true rfl) (s_X11_keepsLaw l h413 h311 s414 (zSt_j u535 (by omega)) zI0) (rm_ok (by decide) (by decide)) (zq_v fun h542 q540 => ?_)
                  obtain ⟨s544, f546, u545⟩ := q540
                  refine zj_iload_n (zdk ttX11_image 57 rfl rfl) rfl ?_
                  refine zj_if_ne (t := 111) (zdk ttX11_image 58 rfl rfl) (by decide) (by omega) (fun c547 => ?_) (fun c547 => ?_)
                  · exact absurd c547 (by omega)
                  · refine zj_aload_n (zdk ttX11_image 59 rfl rfl) rfl (by decide) ?_
                    refine zj_iconst (zdk ttX11_image 60 rfl rfl) ?_
                    refine zj_puti (zdk ttX11_image 61 rfl rfl) zf_RX11_123 rfl (k_B s544) (Or.inl zw_RX11_123) (k2 := 3) rfl (fun h548 e549 => ?_)
                    refine zj_iconst (zdk ttX11_image 62 rfl rfl) ?_
                    have s550 : okB h548 := fwB_3 s544 e549 (by omega)
                    have f552 : zfr [0, 3, 6, 33, 35, 37, 42, 45, 49, 53, 58, 59, 60] [1, 4, 5, 6, 9, 10, 11, 12, 13, 14, 15, 17, 18, 19, 23, 24, 25, 28, 31, 32, 35] h h542 := zfr_t f415 f546 rfl rfl
                    have f551 : zfr [0, 3, 6, 33, 35, 37, 42, 45, 49, 53, 58, 59, 60] [1, 4, 5, 6, 9, 10, 11, 12, 13, 14, 15, 17, 18, 19, 23, 24, 25, 28, 31, 32, 35] h h548 := zfr_wf f552 e549 rfl
                    have b553 : h542.2 0 59 = (h413.2 0 59) := (zfr_f f546 rfl rfl)
                    have b554 : 0 ≤ (h413.2 0 59) ∧ (h413.2 0 59) ≤ 1 := fB_59 s414
                    have b555 : h548.2 0 59 = (h413.2 0 59) := ((zwr_r e549 (by first | decide | exact (absurd ·.1 (by decide)) | exact (absurd ·.2 (by decide)) | omega)).trans (zfr_f f546 rfl rfl))
                    have b556 := zSt_pt f0 (zSt_j u545 (by omega)) (j := 67) (by decide) (zl_f42 rfl)
                    have b556a : h548.2 0 42 = h542.2 0 42 := zwr_r e549 (by decide)
                    have b556b : h548.2 35 67 = h542.2 35 67 := zwr_r e549 (by decide)
                    have b557 := zSt_pt f0 (zSt_j u545 (by omega)) (j := 68) (by decide) (zl_f45 rfl)
                    have b557a : h548.2 0 45 = h542.2 0 45 := zwr_r e549 (by decide)
                    have b557b : h548.2 35 68 = h542.2 35 68 := zwr_r e549 (by decide)
                    have b558 := zSt_pt f0 (zSt_j u545 (by omega)) (j := 69) (by decide) (zl_f49 rfl)
                    have b558a : h548.2 0 49 = h542.2 0 49 := zwr_r e549 (by decide)
                    have b558b : h548.2 35 69 = h542.2 35 69 := zwr_r e549 (by decide)
                    have b559 := zSt_pt f0 (zSt_j u545 (by omega)) (j := 70) (by decide) (zl_f53 rfl)
                    have b559a : h548.2 0 53 = h542.2 0 53 := zwr_r e549 (by decide)
                    have b559b : h548.2 35 70 = h542.2 35 70 := zwr_r e549 (by decide)
                    have b560 := zSt_pt f0 (zSt_j u545 (by omega)) (j := 63) (by decide) (zl_f6 rfl)
                    have b560a : h548.2 0 6 = h542.2 0 6 := zwr_r e549 (by decide)
                    have b560b : h548.2 35 63 = h542.2 35 63 := zwr_r e549 (by decide)
                    exact zj_zret rfl (zdk ttX11_image 63 rfl rfl) (Nat.le_refl _) (Nat.le_refl _) (by omega) ⟨1, rfl, by omega, s550, f551, (fwM_3 (okM_img u_0 f0 (by omega) hT0 s544 f552 (zSt_j u545 (by omega))) e549 (by decide)), by unfold zimc; omega, by unfold zimx; omega, by unfold zimx; omega, by unfold zimx; omega, by unfold zimx; omega, by unfold zimx; omega⟩
                · refine zj_aload_n (zdk ttX11_image 43 rfl rfl) rfl (by decide) ?_
                  refine zj_getr (r := 6) (zdk ttX11_image 44 rfl rfl) zf_RX11_25 rfl (k_B s414) (rfB_9 s414) ?_
                  refine zj_iload_n (zdk ttX11_image 45 rfl rfl) rfl ?_
                  refine zj_aload_n (zdk ttX11_image 46 rfl rfl) rfl (by decide) ?_
                  refine zj_aload_n (zdk ttX11_image 47 rfl rfl) rfl (by decide) ?_
                  refine zj_getr (r := 6) (zdk ttX11_image 48 rfl rfl) zf_RX11_25 rfl (k_B s414) (rfB_9 s414) ?_
                  refine zj_iload_n (zdk ttX11_image 49 rfl rfl) rfl ?_
                  have b561 : -2147483648 ≤ (h413.2 6 x412) ∧ (h413.2 6 x412) ≤ 2147483647 := abB_6 s414 x412
                  refine zj_iald (v := (h413.2 6 x412)) (zdk ttX11_image 50 rfl rfl) (kaB_6 s414) (by decide) (by omega) rfl ?_
                  refine zj_callV (av := [.inl (h413.2 6 x412)]) (st := [.inl x412, .inr 6]) (zdk ttX11_image 51 rfl rfl) mb_X11_keeps mv_RX11_467 (ci := 11) rfl rfl (k_B s414) rfl rfl (Nat.le_of_ble_eq_true rfl) (s_X11_keeps l h413 (h413.2 6 x412) s414 (by omega) (by have := u535.1; omega)) (rm_ok (by decide) (by decide)) (zq_i fun v563 h564 q562 => ?_)
                  obtain ⟨b565, s566, f570, u567, u568, u569⟩ := q562
                  refine zj_iast (zdk ttX11_image 52 rfl rfl) (kaB_6 s566) (by decide) (by omega) (fun h571 e572 => ?_)
                  refine zj_iinc (L' := [some (.inr 0), some (.inl p1), some (.inl (x412 + 1))]) (zdk ttX11_image 53 rfl rfl) rfl (by decide) rfl ?_
                  refine zj_goto (t := 69) (zdk ttX11_image 54 rfl rfl) (by decide) ?_
                  have b573 : h571.2 0 59 = (h413.2 0 59) := ((zwr_r e572 (by first | decide | exact (absurd ·.1 (by decide)) | exact (absurd ·.2 (by decide)) | omega)).trans (zfr_f f570 rfl rfl))
                  have b574 : 0 ≤ (h413.2 0 59) ∧ (h413.2 0 59) ≤ 1 := fB_59 s414
                  have z576r : h413.2 6 x412 = (h413.2 6 x412) := rfl
                  have z576l : zloc (262 + x412) = (6, x412) := (zl_6 (by omega) (by omega))
                  have z576 : zSt h311 h571 (262 + x412 + 1) := zSt_step u535 (by omega) z576l f570 u567 u568 z576r u569 e572
                  have s575 : okB h571 := okB_w s566 e572 (zSt_pm u535 (by omega) z576l s414 zI0 u568 z576r u569)
                  have f578 : zfr [0, 3, 6, 33, 35, 37, 42, 45, 49, 53, 58, 59, 60] [1, 4, 5, 6, 9, 10, 11, 12, 13, 14, 15, 17, 18, 19, 23, 24, 25, 28, 31, 32, 35] h h564 := zfr_t f415 f570 rfl rfl
                  have f577 : zfr [0, 3, 6, 33, 35, 37, 42, 45, 49, 53, 58, 59, 60] [1, 4, 5, 6, 9, 10, 11, 12, 13, 14, 15, 17, 18, 19, 23, 24, 25, 28, 31, 32, 35] h h571 := zfr_wa f578 e572 rfl
                  exact ih538  (x412 + 1) h571 (by omega) s575 f577 (zSt_j z576 (by omega)) (by omega) (by omega)
            have b579 : h407.2 0 59 = (h317.2 0 59) := (zfr_f f411 rfl rfl)
            have b580 : 0 ≤ (h317.2 0 59) ∧ (h317.2 0 59) ≤ 1 := fB_59 s318
            have f581 : zfr [0, 3, 6, 33, 35, 37, 42, 45, 49, 53, 58, 59, 60] [1, 4, 5, 6, 9, 10, 11, 12, 13, 14, 15, 17, 18, 19, 23, 24, 25, 28, 31, 32, 35] h h407 := zfr_t f319 f411 rfl rfl
            exact lp533 _ 0 h407 (by omega) s409 f581 (zSt_j u410 (by omega)) (by omega) (Nat.lt_succ_self _)
          · refine zj_aload_n (zdk ttX11_image 24 rfl rfl) rfl (by decide) ?_
            refine zj_getr (r := 1) (zdk ttX11_image 25 rfl rfl) zf_RX11_7 rfl (k_B s318) (rfB_1 s318) ?_
            refine zj_iload_n (zdk ttX11_image 26 rfl rfl) rfl ?_
            refine zj_aload_n (zdk ttX11_image 27 rfl rfl) rfl (by decide) ?_
            refine zj_aload_n (zdk ttX11_image 28 rfl rfl) rfl (by decide) ?_
            refine zj_getr (r := 1) (zdk ttX11_image 29 rfl rfl) zf_RX11_7 rfl (k_B s318) (rfB_1 s318) ?_
            refine zj_iload_n (zdk ttX11_image 30 rfl rfl) rfl ?_
            have b582 : -2147483648 ≤ (h317.2 1 x316) ∧ (h317.2 1 x316) ≤ 2147483647 := abB_1 s318 x316
            refine zj_iald (v := (h317.2 1 x316)) (zdk ttX11_image 31 rfl rfl) (kaB_1 s318) (by decide) (by omega) rfl ?_
            refine zj_callV (av := [.inl (h317.2 1 x316)]) (st := [.inl x316, .inr 1]) (zdk ttX11_image 32 rfl rfl) mb_X11_keeps mv_RX11_467 (ci := 11) rfl rfl (k_B s318) rfl rfl (Nat.le_of_ble_eq_true rfl) (s_X11_keeps l h317 (h317.2 1 x316) s318 (by omega) (by have := u400.1; omega)) (rm_ok (by decide) (by decide)) (zq_i fun v584 h585 q583 => ?_)
            obtain ⟨b586, s587, f591, u588, u589, u590⟩ := q583
            refine zj_iast (zdk ttX11_image 33 rfl rfl) (kaB_1 s587) (by decide) (by omega) (fun h592 e593 => ?_)
            refine zj_iinc (L' := [some (.inr 0), some (.inl p1), some (.inl (x316 + 1))]) (zdk ttX11_image 34 rfl rfl) rfl (by decide) rfl ?_
            refine zj_goto (t := 35) (zdk ttX11_image 35 rfl rfl) (by decide) ?_
            have b594 : h592.2 0 59 = (h317.2 0 59) := ((zwr_r e593 (by first | decide | exact (absurd ·.1 (by decide)) | exact (absurd ·.2 (by decide)) | omega)).trans (zfr_f f591 rfl rfl))
            have b595 : 0 ≤ (h317.2 0 59) ∧ (h317.2 0 59) ≤ 1 := fB_59 s318
            have z597r : h317.2 1 x316 = (h317.2 1 x316) := rfl
            have z597l : zloc (x316) = (1, x316) := (zl_1 (by omega) (by omega))
            have z597 : zSt h311 h592 (x316 + 1) := zSt_step u400 (by omega) z597l f591 u588 u589 z597r u590 e593
            have s596 : okB h592 := okB_w s587 e593 (zSt_pm u400 (by omega) z597l s318 zI0 u589 z597r u590)
            have f599 : zfr [0, 3, 6, 33, 35, 37, 42, 45, 49, 53, 58, 59, 60] [1, 4, 5, 6, 9, 10, 11, 12, 13, 14, 15, 17, 18, 19, 23, 24, 25, 28, 31, 32, 35] h h585 := zfr_t f319 f591 rfl rfl
            have f598 : zfr [0, 3, 6, 33, 35, 37, 42, 45, 49, 53, 58, 59, 60] [1, 4, 5, 6, 9, 10, 11, 12, 13, 14, 15, 17, 18, 19, 23, 24, 25, 28, 31, 32, 35] h h592 := zfr_wa f599 e593 rfl
            exact ih403  (x316 + 1) h592 (by omega) s596 f598 (zSt_j z597 (by omega)) (by omega) (by omega)
      have b600 : h311.2 0 59 = 1 := ((zwr_r e312 (by first | decide | exact (absurd ·.1 (by decide)) | exact (absurd ·.2 (by decide)) | omega)).trans (zwr_v e309))
      have s601 : okB h311 := fwB_60 s310 e312 (by omega)
      have f605 : zfr [0, 3, 6, 33, 35, 37, 42, 45, 49, 53, 58, 59, 60] [1, 4, 5, 6, 9, 10, 11, 12, 13, 14, 15, 17, 18, 19, 23, 24, 25, 28, 31, 32, 35] h h1 := zfr_wf (zfr_r _ _ _) e2 rfl
      have f604 : zfr [0, 3, 6, 33, 35, 37, 42, 45, 49, 53, 58, 59, 60] [1, 4, 5, 6, 9, 10, 11, 12, 13, 14, 15, 17, 18, 19, 23, 24, 25, 28, 31, 32, 35] h h305 := zfr_wf f605 e306 rfl
      have f603 : zfr [0, 3, 6, 33, 35, 37, 42, 45, 49, 53, 58, 59, 60] [1, 4, 5, 6, 9, 10, 11, 12, 13, 14, 15, 17, 18, 19, 23, 24, 25, 28, 31, 32, 35] h h308 := zfr_wf f604 e309 rfl
      have f602 : zfr [0, 3, 6, 33, 35, 37, 42, 45, 49, 53, 58, 59, 60] [1, 4, 5, 6, 9, 10, 11, 12, 13, 14, 15, 17, 18, 19, 23, 24, 25, 28, 31, 32, 35] h h311 := zfr_wf f603 e312 rfl
      exact lp398 _ 0 h311 (by omega) s601 f602 (zSt_j z0 (by omega)) (by omega) (Nat.lt_succ_self _)
    · refine zj_iconst (zdk ttX11_image 8 rfl rfl) ?_
      have f606 : zfr [0, 3, 6, 33, 35, 37, 42, 45, 49, 53, 58, 59, 60] [1, 4, 5, 6, 9, 10, 11, 12, 13, 14, 15, 17, 18, 19, 23, 24, 25, 28, 31, 32, 35] h h1 := zfr_wf (zfr_r _ _ _) e2 rfl
      have b607 : h1.2 0 59 = (h.2 0 59) := (zwr_r e2 (by first | decide | exact (absurd ·.1 (by decide)) | exact (absurd ·.2 (by decide)) | omega))
      have b608 : h1.2 0 42 = (h.2 0 42) := (zwr_r e2 (by first | decide | exact (absurd ·.1 (by decide)) | exact (absurd ·.2 (by decide)) | omega))
      have b609 : 0 ≤ (h.2 0 42) ∧ (h.2 0 42) ≤ 5 := fB_42 s0
      have b610 : h1.2 35 67 = (h.2 35 67) := (zwr_r e2 (by first | decide | exact (absurd ·.1 (by decide)) | exact (absurd ·.2 (by decide)) | omega))
      have b611 : h1.2 0 45 = (h.2 0 45) := (zwr_r e2 (by first | decide | exact (absurd ·.1 (by decide)) | exact (absurd ·.2 (by decide)) | omega))
      have b612 : -2147483648 ≤ (h.2 0 45) ∧ (h.2 0 45) ≤ 2147483647 := fB_45 s0
      have b613 : h1.2 35 68 = (h.2 35 68) := (zwr_r e2 (by first | decide | exact (absurd ·.1 (by decide)) | exact (absurd ·.2 (by decide)) | omega))
      have b614 : h1.2 0 49 = (h.2 0 49) := (zwr_r e2 (by first | decide | exact (absurd ·.1 (by decide)) | exact (absurd ·.2 (by decide)) | omega))
      have b615 : 0 ≤ (h.2 0 49) ∧ (h.2 0 49) ≤ 7 := fB_49 s0
      have b616 : h1.2 35 69 = (h.2 35 69) := (zwr_r e2 (by first | decide | exact (absurd ·.1 (by decide)) | exact (absurd ·.2 (by decide)) | omega))
      have b617 : h1.2 0 53 = (h.2 0 53) := (zwr_r e2 (by first | decide | exact (absurd ·.1 (by decide)) | exact (absurd ·.2 (by decide)) | omega))
      have b618 : 0 ≤ (h.2 0 53) ∧ (h.2 0 53) ≤ 6 := fB_53 s0
      have b619 : h1.2 35 70 = (h.2 35 70) := (zwr_r e2 (by first | decide | exact (absurd ·.1 (by decide)) | exact (absurd ·.2 (by decide)) | omega))
      have b620 : h1.2 0 6 = (h.2 0 6) := (zwr_r e2 (by first | decide | exact (absurd ·.1 (by decide)) | exact (absurd ·.2 (by decide)) | omega))
      have b621 : 0 ≤ (h.2 0 6) ∧ (h.2 0 6) ≤ 18 := fB_6 s0
      have b622 : h1.2 35 63 = (h.2 35 63) := (zwr_r e2 (by first | decide | exact (absurd ·.1 (by decide)) | exact (absurd ·.2 (by decide)) | omega))
      exact zj_zret rfl (zdk ttX11_image 9 rfl rfl) (Nat.le_refl _) (Nat.le_refl _) (by omega) ⟨0, rfl, by omega, s303, f606, (fwM_0 u_0 e2 (by decide)), by unfold zimc; omega, by unfold zimx; omega, by unfold zimx; omega, by unfold zimx; omega, by unfold zimx; omega, by unfold zimx; omega⟩
