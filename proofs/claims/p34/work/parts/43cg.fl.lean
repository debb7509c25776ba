abbrev q2_X11_keepsAhead (h : zM) : Option zV → zM → Prop := zqv fun h' => okM h' ∧ zfr [3] [2] h h' ∧ (∀ u q r, xQ h u q → fWx r → (∀ k9, 0 ≤ k9 → k9 < 63 → h.2 1 k9 = r k9) → xQ h' (fKu u) (fKq u q r))
set_option maxRecDepth 100000 in
set_option maxHeartbeats 4000000 in
theorem s2_X11_keepsAhead (l : Launch) (h : zM) (s0 : okM h) : zT shM l yX11_keepsAhead cX11_keepsAhead 2 none (rmL 1) 0 0 [.inr 0] h (q2_X11_keepsAhead h) := by
  refine zT_of (by decide +kernel) (L0 := [some (.inr 0), none]) rfl (Nat.le_of_ble_eq_true rfl) ?_
  refine zj_aload_n (zdk ttX11_keepsAhead 0 rfl rfl) rfl (by decide) ?_
  have b1 : 0 ≤ (h.2 0 3) ∧ (h.2 0 3) ≤ 6 := fM_3 s0
  refine zj_geti (v := (h.2 0 3)) (zdk ttX11_keepsAhead 1 rfl rfl) zf_RX11_123 rfl (k_M s0) rfl ?_
  refine zj_bipush (zdk ttX11_keepsAhead 2 rfl rfl) (by decide) ?_
  refine zj_icmp_ne (t := 53) (zdk ttX11_keepsAhead 3 rfl rfl) (by decide) (by omega) (by decide) (fun c2 => ?_) (fun c2 => ?_)
  · refine zj_iconst (zdk ttX11_keepsAhead 30 rfl rfl) ?_
    refine zj_istore_n (L' := [some (.inr 0), some (.inl 0)]) (zdk ttX11_keepsAhead 31 rfl rfl) (by decide) rfl ?_
    have lp55 : ∀ (n55 : Nat) (x3 : Int) (h4 : zM), (0 ≤ x3 ∧ x3 ≤ 63) → okM h4 → zfr [3] [2] h h4 → (h4.2 0 3 ≤ 5) → (∀ k9, 0 ≤ k9 → k9 < x3 → h4.2 2 (63 * (h4.2 0 3) + k9) = h.2 1 k9) → (∀ b9, 0 ≤ b9 → b9 < 63 * (h4.2 0 3) → h4.2 2 b9 = if h.2 0 3 = 6 then h.2 2 (b9 + 63) else h.2 2 b9) → (h4.2 0 3 = if h.2 0 3 = 6 then 5 else h.2 0 3) → (64 - x3).toNat < n55 → zJ shM l yX11_keepsAhead cX11_keepsAhead 2 none (rmL 1) 0 0 (q2_X11_keepsAhead h) 0 0 55 [some (.inr 0), some (.inl x3)] [] h4 := by
      intro n55
      induction n55 with
      | zero => intro x3 h4 b56 s5 f6 u57 u58 u59 u60 m61; exact absurd m61 (Nat.not_lt_zero _)
      | succ n55 ih62 =>
        intro x3 h4 b56 s5 f6 u57 u58 u59 u60 m61
        refine zj_iload_n (zdk ttX11_keepsAhead 32 rfl rfl) rfl ?_
        refine zj_bipush (zdk ttX11_keepsAhead 33 rfl rfl) (by decide) ?_
        refine zj_icmp_ge (t := 87) (zdk ttX11_keepsAhead 34 rfl rfl) (by decide) (by omega) (by decide) (fun c63 => ?_) (fun c63 => ?_)
        · refine zj_aload_n (zdk ttX11_keepsAhead 50 rfl rfl) rfl (by decide) ?_
          refine zj_aload_n (zdk ttX11_keepsAhead 51 rfl rfl) rfl (by decide) ?_
          have b64 : 0 ≤ (h4.2 0 3) ∧ (h4.2 0 3) ≤ 6 := fM_3 s5
          refine zj_geti (v := (h4.2 0 3)) (zdk ttX11_keepsAhead 52 rfl rfl) zf_RX11_123 rfl (k_M s5) rfl ?_
          refine zj_iconst (zdk ttX11_keepsAhead 53 rfl rfl) ?_
          refine zj_iadd (zdk ttX11_keepsAhead 54 rfl rfl) ?_
          refine zj_puti (zdk ttX11_keepsAhead 55 rfl rfl) zf_RX11_123 rfl (k_M s5) (Or.inl zw_RX11_123) (k2 := 3) rfl (fun h65 e66 => ?_)
          have s67 : okM h65 := fwM_3 s5 e66 (by omega)
          have f68 : zfr [3] [2] h h65 := zfr_wf f6 e66 rfl
          exact zj_vret rfl (zdk ttX11_keepsAhead 56 rfl rfl) (Nat.le_refl _) (Nat.le_refl _) ⟨rfl, s67, f68, (fun u q r t9 w9 r9 => xQ_kp t9 w9 r9 u60 (fun k9 a9 b9 => u58 k9 a9 (by omega)) u59 e66)⟩
        · refine zj_aload_n (zdk ttX11_keepsAhead 35 rfl rfl) rfl (by decide) ?_
          refine zj_getr (r := 2) (zdk ttX11_keepsAhead 36 rfl rfl) zf_RX11_13 rfl (k_M s5) (rfM_2 s5) ?_
          refine zj_bipush (zdk ttX11_keepsAhead 37 rfl rfl) (by decide) ?_
          refine zj_aload_n (zdk ttX11_keepsAhead 38 rfl rfl) rfl (by decide) ?_
          have b69 : 0 ≤ (h4.2 0 3) ∧ (h4.2 0 3) ≤ 6 := fM_3 s5
          refine zj_geti (v := (h4.2 0 3)) (zdk ttX11_keepsAhead 39 rfl rfl) zf_RX11_123 rfl (k_M s5) rfl ?_
          refine zj_imul (zdk ttX11_keepsAhead 40 rfl rfl) ?_
          refine zj_iload_n (zdk ttX11_keepsAhead 41 rfl rfl) rfl ?_
          refine zj_iadd (zdk ttX11_keepsAhead 42 rfl rfl) ?_
          refine zj_aload_n (zdk ttX11_keepsAhead 43 rfl rfl) rfl (by decide) ?_
          refine zj_getr (r := 1) (zdk ttX11_keepsAhead 44 rfl rfl) zf_RX11_7 rfl (k_M s5) (rfM_1 s5) ?_
          refine zj_iload_n (zdk ttX11_keepsAhead 45 rfl rfl) rfl ?_
          have b70 := (rM_b s0 1 x3 (by omega)).2
          have b71 : -2147483648 ≤ (h.2 1 x3) ∧ (h.2 1 x3) ≤ 2147483647 := (rM_b s0 1 x3 (by omega)).1
          refine zj_iald (v := (h.2 1 x3)) (zdk ttX11_keepsAhead 46 rfl rfl) (kaM_1 s5) (by decide) (by omega) (zfr_a f6 rfl (by decide)) ?_
          refine zj_iast (zdk ttX11_keepsAhead 47 rfl rfl) (kaM_2 s5) (by decide) (by omega) (fun h72 e73 => ?_)
          refine zj_iinc (L' := [some (.inr 0), some (.inl (x3 + 1))]) (zdk ttX11_keepsAhead 48 rfl rfl) rfl (by decide) rfl ?_
          refine zj_goto (t := 55) (zdk ttX11_keepsAhead 49 rfl rfl) (by decide) ?_
          have b74 : h72.2 0 3 = (h4.2 0 3) := (zwr_r e73 (by first | decide | exact (absurd ·.1 (by decide)) | exact (absurd ·.2 (by decide)) | omega))
          have s75 : okM h72 := okM_wr s5 e73 (by decide) (by omega) (by omega)
          have f76 : zfr [3] [2] h h72 := zfr_wa f6 e73 rfl
          exact ih62  (x3 + 1) h72 (by omega) s75 f76 (by omega) (by intro k9 a9 b9; rw [show h72.2 0 3 = h4.2 0 3 from zwr_r e73 (by first | decide | exact (absurd ·.1 (by decide)) | exact (absurd ·.2 (by decide)) | omega), zwr_if e73]; by_cases q9 : k9 = x3; (rw [if_pos (by omega), q9]); (rw [if_neg (by omega)]; exact u58 k9 a9 (by omega))) (fun b9 a9 c9 => by have z9 : h72.2 0 3 = h4.2 0 3 := zwr_r e73 (by first | decide | exact (absurd ·.1 (by decide)) | exact (absurd ·.2 (by decide)) | omega); exact (zwr_r e73 (by first | decide | exact (absurd ·.1 (by decide)) | exact (absurd ·.2 (by decide)) | omega)).trans (u59 b9 a9 (by omega))) ((zwr_r e73 (by first | decide | exact (absurd ·.1 (by decide)) | exact (absurd ·.2 (by decide)) | omega)).trans u60) (by omega)
    exact lp55 _ 0 h (by omega) s0 (zfr_r _ _ _) (by omega) (fun k9 a9 b9 => absurd b9 (by omega)) (fun b9 a9 c9 => by rw [if_neg (by omega)]) (by first | (rw [if_pos (by omega)]; omega) | (rw [if_neg (by omega)])) (Nat.lt_succ_self _)
  · refine zj_aload_n (zdk ttX11_keepsAhead 4 rfl rfl) rfl (by decide) ?_
    refine zj_aload_n (zdk ttX11_keepsAhead 5 rfl rfl) rfl (by decide) ?_
    refine zj_geti (v := (h.2 0 3)) (zdk ttX11_keepsAhead 6 rfl rfl) zf_RX11_123 rfl (k_M s0) rfl ?_
    refine zj_iconst (zdk ttX11_keepsAhead 7 rfl rfl) ?_
    refine zj_isub (zdk ttX11_keepsAhead 8 rfl rfl) ?_
    refine zj_puti (zdk ttX11_keepsAhead 9 rfl rfl) zf_RX11_123 rfl (k_M s0) (Or.inl zw_RX11_123) (k2 := 3) rfl (fun h77 e78 => ?_)
    refine zj_iconst (zdk ttX11_keepsAhead 10 rfl rfl) ?_
    refine zj_istore_n (L' := [some (.inr 0), some (.inl 0)]) (zdk ttX11_keepsAhead 11 rfl rfl) (by decide) rfl ?_
    have lp149 : ∀ (n21 : Nat) (x79 : Int) (h80 : zM), (0 ≤ x79 ∧ x79 ≤ 378) → okM h80 → zfr [3] [2] h h80 → (h80.2 0 3 = 5) → (∀ b9, (0 ≤ b9 → b9 < x79 → h80.2 2 b9 = h.2 2 (b9 + 63)) ∧ (x79 ≤ b9 → h80.2 2 b9 = h.2 2 b9)) → (379 - x79).toNat < n21 → zJ shM l yX11_keepsAhead cX11_keepsAhead 2 none (rmL 1) 0 0 (q2_X11_keepsAhead h) 0 0 21 [some (.inr 0), some (.inl x79)] [] h80 := by
      intro n21
      induction n21 with
      | zero => intro x79 h80 b150 s81 f82 u151 u152 m153; exact absurd m153 (Nat.not_lt_zero _)
      | succ n21 ih154 =>
        intro x79 h80 b150 s81 f82 u151 u152 m153
        refine zj_iload_n (zdk ttX11_keepsAhead 12 rfl rfl) rfl ?_
        refine zj_bipush (zdk ttX11_keepsAhead 13 rfl rfl) (by decide) ?_
        refine zj_aload_n (zdk ttX11_keepsAhead 14 rfl rfl) rfl (by decide) ?_
        have b155 : 0 ≤ (h80.2 0 3) ∧ (h80.2 0 3) ≤ 6 := fM_3 s81
        refine zj_geti (v := (h80.2 0 3)) (zdk ttX11_keepsAhead 15 rfl rfl) zf_RX11_123 rfl (k_M s81) rfl ?_
        refine zj_imul (zdk ttX11_keepsAhead 16 rfl rfl) ?_
        refine zj_icmp_ge (t := 53) (zdk ttX11_keepsAhead 17 rfl rfl) (by decide) (by omega) (by omega) (fun c156 => ?_) (fun c156 => ?_)
        · refine zj_iconst (zdk ttX11_keepsAhead 30 rfl rfl) ?_
          refine zj_istore_n (L' := [some (.inr 0), some (.inl 0)]) (zdk ttX11_keepsAhead 31 rfl rfl) (by decide) rfl ?_
          have lp209 : ∀ (n55 : Nat) (x157 : Int) (h158 : zM), (0 ≤ x157 ∧ x157 ≤ 63) → okM h158 → zfr [3] [2] h h158 → (h158.2 0 3 ≤ 5) → (∀ k9, 0 ≤ k9 → k9 < x157 → h158.2 2 (63 * (h158.2 0 3) + k9) = h.2 1 k9) → (∀ b9, 0 ≤ b9 → b9 < 63 * (h158.2 0 3) → h158.2 2 b9 = if h.2 0 3 = 6 then h.2 2 (b9 + 63) else h.2 2 b9) → (h158.2 0 3 = if h.2 0 3 = 6 then 5 else h.2 0 3) → (64 - x157).toNat < n55 → zJ shM l yX11_keepsAhead cX11_keepsAhead 2 none (rmL 1) 0 0 (q2_X11_keepsAhead h) 0 0 55 [some (.inr 0), some (.inl x157)] [] h158 := by
            intro n55
            induction n55 with
            | zero => intro x157 h158 b210 s159 f160 u211 u212 u213 u214 m215; exact absurd m215 (Nat.not_lt_zero _)
            | succ n55 ih216 =>
              intro x157 h158 b210 s159 f160 u211 u212 u213 u214 m215
              refine zj_iload_n (zdk ttX11_keepsAhead 32 rfl rfl) rfl ?_
              refine zj_bipush (zdk ttX11_keepsAhead 33 rfl rfl) (by decide) ?_
              refine zj_icmp_ge (t := 87) (zdk ttX11_keepsAhead 34 rfl rfl) (by decide) (by omega) (by decide) (fun c217 => ?_) (fun c217 => ?_)
              · refine zj_aload_n (zdk ttX11_keepsAhead 50 rfl rfl) rfl (by decide) ?_
                refine zj_aload_n (zdk ttX11_keepsAhead 51 rfl rfl) rfl (by decide) ?_
                have b218 : 0 ≤ (h158.2 0 3) ∧ (h158.2 0 3) ≤ 6 := fM_3 s159
                refine zj_geti (v := (h158.2 0 3)) (zdk ttX11_keepsAhead 52 rfl rfl) zf_RX11_123 rfl (k_M s159) rfl ?_
                refine zj_iconst (zdk ttX11_keepsAhead 53 rfl rfl) ?_
                refine zj_iadd (zdk ttX11_keepsAhead 54 rfl rfl) ?_
                refine zj_puti (zdk ttX11_keepsAhead 55 rfl rfl) zf_RX11_123 rfl (k_M s159) (Or.inl zw_RX11_123) (k2 := 3) rfl (fun h219 e220 => ?_)
                have s221 : okM h219 := fwM_3 s159 e220 (by omega)
                have f222 : zfr [3] [2] h h219 := zfr_wf f160 e220 rfl
                exact zj_vret rfl (zdk ttX11_keepsAhead 56 rfl rfl) (Nat.le_refl _) (Nat.le_refl _) ⟨rfl, s221, f222, (fun u q r t9 w9 r9 => xQ_kp t9 w9 r9 u214 (fun k9 a9 b9 => u212 k9 a9 (by omega)) u213 e220)⟩
              · refine zj_aload_n (zdk ttX11_keepsAhead 35 rfl rfl) rfl (by decide) ?_
                refine zj_getr (r := 2) (zdk ttX11_keepsAhead 36 rfl rfl) zf_RX11_13 rfl (k_M s159) (rfM_2 s159) ?_
                refine zj_bipush (zdk ttX11_keepsAhead 37 rfl rfl) (by decide) ?_
                refine zj_aload_n (zdk ttX11_keepsAhead 38 rfl rfl) rfl (by decide) ?_
                have b223 : 0 ≤ (h158.2 0 3) ∧ (h158.2 0 3) ≤ 6 := fM_3 s159
                refine zj_geti (v := (h158.2 0 3)) (zdk ttX11_keepsAhead 39 rfl rfl) zf_RX11_123 rfl (k_M s159) rfl ?_
                refine zj_imul (zdk ttX11_keepsAhead 40 rfl rfl) ?_
                refine zj_iload_n (zdk ttX11_keepsAhead 41 rfl rfl) rfl ?_
                refine zj_iadd (zdk ttX11_keepsAhead 42 rfl rfl) ?_
                refine zj_aload_n (zdk ttX11_keepsAhead 43 rfl rfl) rfl (by decide) ?_
                refine zj_getr (r := 1) (zdk ttX11_keepsAhead 44 rfl rfl) zf_RX11_7 rfl (k_M s159) (rfM_1 s159) ?_
                refine zj_iload_n (zdk ttX11_keepsAhead 45 rfl rfl) rfl ?_
                have b224 := (rM_b s0 1 x157 (by omega)).2
                have b225 : -2147483648 ≤ (h.2 1 x157) ∧ (h.2 1 x157) ≤ 2147483647 := (rM_b s0 1 x157 (by omega)).1
                refine zj_iald (v := (h.2 1 x157)) (zdk ttX11_keepsAhead 46 rfl rfl) (kaM_1 s159) (by decide) (by omega) (zfr_a f160 rfl (by decide)) ?_
                refine zj_iast (zdk ttX11_keepsAhead 47 rfl rfl) (kaM_2 s159) (by decide) (by omega) (fun h226 e227 => ?_)
                refine zj_iinc (L' := [some (.inr 0), some (.inl (x157 + 1))]) (zdk ttX11_keepsAhead 48 rfl rfl) rfl (by decide) rfl ?_
                refine zj_goto (t := 55) (zdk ttX11_keepsAhead 49 rfl rfl) (by decide) ?_
                have b228 : h226.2 0 3 = (h158.2 0 3) := (zwr_r e227 (by first | decide | exact (absurd ·.1 (by decide)) | exact (absurd ·.2 (by decide)) | omega))
                have s229 : okM h226 := okM_wr s159 e227 (by decide) (by omega) (by omega)
                have f230 : zfr [3] [2] h h226 := zfr_wa f160 e227 rfl
                exact ih216  (x157 + 1) h226 (by omega) s229 f230 (by omega) (by intro k9 a9 b9; rw [show h226.2 0 3 = h158.2 0 3 from zwr_r e227 (by first | decide | exact (absurd ·.1 (by decide)) | exact (absurd ·.2 (by decide)) | omega), zwr_if e227]; by_cases q9 : k9 = x157; (rw [if_pos (by omega), q9]); (rw [if_neg (by omega)]; exact u212 k9 a9 (by omega))) (fun b9 a9 c9 => by have z9 : h226.2 0 3 = h158.2 0 3 := zwr_r e227 (by first | decide | exact (absurd ·.1 (by decide)) | exact (absurd ·.2 (by decide)) | omega); exact (zwr_r e227 (by first | decide | exact (absurd ·.1 (by decide)) | exact (absurd ·.2 (by decide)) | omega)).trans (u213 b9 a9 (by omega))) ((zwr_r e227 (by first | decide | exact (absurd ·.1 (by decide)) | exact (absurd ·.2 (by decide)) | omega)).trans u214) (by omega)
          exact lp209 _ 0 h80 (by omega) s81 f82 (by omega) (fun k9 a9 b9 => absurd b9 (by omega)) (fun b9 a9 c9 => by rw [if_pos (by omega)]; exact (u152 b9).1 a9 (by omega)) (by first | (rw [if_pos (by omega)]; omega) | (rw [if_neg (by omega)])) (Nat.lt_succ_self _)
        · refine zj_aload_n (zdk ttX11_keepsAhead 18 rfl rfl) rfl (by decide) ?_
          refine zj_getr (r := 2) (zdk ttX11_keepsAhead 19 rfl rfl) zf_RX11_13 rfl (k_M s81) (rfM_2 s81) ?_
          refine zj_iload_n (zdk ttX11_keepsAhead 20 rfl rfl) rfl ?_
          refine zj_aload_n (zdk ttX11_keepsAhead 21 rfl rfl) rfl (by decide) ?_
          refine zj_getr (r := 2) (zdk ttX11_keepsAhead 22 rfl rfl) zf_RX11_13 rfl (k_M s81) (rfM_2 s81) ?_
          refine zj_iload_n (zdk ttX11_keepsAhead 23 rfl rfl) rfl ?_
          refine zj_bipush (zdk ttX11_keepsAhead 24 rfl rfl) (by decide) ?_
          refine zj_iadd (zdk ttX11_keepsAhead 25 rfl rfl) ?_
          have b231 := (rM_b s81 2 (x79 + 63) (by omega)).2
          have b232 : -2147483648 ≤ (h80.2 2 (x79 + 63)) ∧ (h80.2 2 (x79 + 63)) ≤ 2147483647 := (rM_b s81 2 (x79 + 63) (by omega)).1
          refine zj_iald (v := (h80.2 2 (x79 + 63))) (zdk ttX11_keepsAhead 26 rfl rfl) (kaM_2 s81) (by decide) (by omega) rfl ?_
          refine zj_iast (zdk ttX11_keepsAhead 27 rfl rfl) (kaM_2 s81) (by decide) (by omega) (fun h233 e234 => ?_)
          refine zj_iinc (L' := [some (.inr 0), some (.inl (x79 + 1))]) (zdk ttX11_keepsAhead 28 rfl rfl) rfl (by decide) rfl ?_
          refine zj_goto (t := 21) (zdk ttX11_keepsAhead 29 rfl rfl) (by decide) ?_
          have b235 : h233.2 0 3 = (h80.2 0 3) := (zwr_r e234 (by first | decide | exact (absurd ·.1 (by decide)) | exact (absurd ·.2 (by decide)) | omega))
          have s236 : okM h233 := okM_wr s81 e234 (by decide) (by omega) (by omega)
          have f237 : zfr [3] [2] h h233 := zfr_wa f82 e234 rfl
          exact ih154  (x79 + 1) h233 (by omega) s236 f237 (by omega) (by intro b9; have c9 := u152 b9; have d9 := u152 (x79 + 63); have e9 := zwr_if e234 b9; refine ⟨fun y9 z9 => ?_, fun y9 => ?_⟩; (rw [e9]; by_cases q9 : b9 = x79; (rw [if_pos q9, q9]; exact d9.2 (by omega)); (rw [if_neg q9]; exact c9.1 y9 (by omega))); (rw [e9, if_neg (by omega)]; exact c9.2 (by omega))) (by omega)
    have b238 : h77.2 0 3 = ((h.2 0 3) - 1) := (zwr_v e78)
    have s239 : okM h77 := fwM_3 s0 e78 (by omega)
    have f240 : zfr [3] [2] h h77 := zfr_wf (zfr_r _ _ _) e78 rfl
    exact lp149 _ 0 h77 (by omega) s239 f240 (by omega) (fun b9 => ⟨fun y9 z9 => absurd z9 (by omega), fun y9 => zwr_r e78 (by first | decide | exact (absurd ·.1 (by decide)) | exact (absurd ·.2 (by decide)) | omega)⟩) (Nat.lt_succ_self _)

abbrev q2_X11_thinks (h : zM) : Option zV → zM → Prop := zqv fun h' => okM h' ∧ zfr [5] [3] h h' ∧ (∀ k9, 0 ≤ k9 → k9 < 63 → h'.2 3 k9 = h.2 1 k9) ∧ (h'.2 0 5 = 1)
set_option maxRecDepth 100000 in
set_option maxHeartbeats 4000000 in
theorem s2_X11_thinks (l : Launch) (h : zM) (s0 : okM h) : zT shM l yX11_thinks cX11_thinks 2 none (rmL 1) 0 0 [.inr 0] h (q2_X11_thinks h) := by
  refine zT_of (by decide +kernel) (L0 := [some (.inr 0), none]) rfl (Nat.le_of_ble_eq_true rfl) ?_
  refine zj_iconst (zdk ttX11_thinks 0 rfl rfl) ?_
  refine zj_istore_n (L' := [some (.inr 0), some (.inl 0)]) (zdk ttX11_thinks 1 rfl rfl) (by decide) rfl ?_
  have lp30 : ∀ (n2 : Nat) (x1 : Int) (h2 : zM), (0 ≤ x1 ∧ x1 ≤ 63) → okM h2 → zfr [5] [3] h h2 → (∀ k9, 0 ≤ k9 → k9 < x1 → h2.2 3 k9 = h.2 1 k9) → (64 - x1).toNat < n2 → zJ shM l yX11_thinks cX11_thinks 2 none (rmL 1) 0 0 (q2_X11_thinks h) 0 0 2 [some (.inr 0), some (.inl x1)] [] h2 := by
    intro n2
    induction n2 with
    | zero => intro x1 h2 b31 s3 f4 u32 m33; exact absurd m33 (Nat.not_lt_zero _)
    | succ n2 ih34 =>
      intro x1 h2 b31 s3 f4 u32 m33
      refine zj_iload_n (zdk ttX11_thinks 2 rfl rfl) rfl ?_
      refine zj_bipush (zdk ttX11_thinks 3 rfl rfl) (by decide) ?_
      refine zj_icmp_ge (t := 26) (zdk ttX11_thinks 4 rfl rfl) (by decide) (by omega) (by decide) (fun c35 => ?_) (fun c35 => ?_)
      · refine zj_aload_n (zdk ttX11_thinks 15 rfl rfl) rfl (by decide) ?_
        refine zj_iconst (zdk ttX11_thinks 16 rfl rfl) ?_
        refine zj_putz (zdk ttX11_thinks 17 rfl rfl) zf_RX11_126 rfl (by omega) (k_M s3) (Or.inl zw_RX11_126) (k2 := 5) rfl (fun h36 e37 => ?_)
        have s38 : okM h36 := fwM_5 s3 e37 (by omega)
        have f39 : zfr [5] [3] h h36 := zfr_wf f4 e37 rfl
        exact zj_vret rfl (zdk ttX11_thinks 18 rfl rfl) (Nat.le_refl _) (Nat.le_refl _) ⟨rfl, s38, f39, (fun k9 a9 b9 => (zwr_r e37 (by first | decide | exact (absurd ·.1 (by decide)) | exact (absurd ·.2 (by decide)) | omega)).trans (u32 k9 a9 (by omega))), (zwr_v e37)⟩
      · refine zj_aload_n (zdk ttX11_thinks 5 rfl rfl) rfl (by decide) ?_
        refine zj_getr (r := 3) (zdk ttX11_thinks 6 rfl rfl) zf_RX11_16 rfl (k_M s3) (rfM_4 s3) ?_
        refine zj_iload_n (zdk ttX11_thinks 7 rfl rfl) rfl ?_
        refine zj_aload_n (zdk ttX11_thinks 8 rfl rfl) rfl (by decide) ?_
        refine zj_getr (r := 1) (zdk ttX11_thinks 9 rfl rfl) zf_RX11_7 rfl (k_M s3) (rfM_1 s3) ?_
        refine zj_iload_n (zdk ttX11_thinks 10 rfl rfl) rfl ?_
        have b40 := (rM_b s0 1 x1 (by omega)).2
        have b41 : -2147483648 ≤ (h.2 1 x1) ∧ (h.2 1 x1) ≤ 2147483647 := (rM_b s0 1 x1 (by omega)).1
        refine zj_iald (v := (h.2 1 x1)) (zdk ttX11_thinks 11 rfl rfl) (kaM_1 s3) (by decide) (by omega) (zfr_a f4 rfl (by decide)) ?_
        refine zj_iast (zdk ttX11_thinks 12 rfl rfl) (kaM_3 s3) (by decide) (by omega) (fun h42 e43 => ?_)
        refine zj_iinc (L' := [some (.inr 0), some (.inl (x1 + 1))]) (zdk ttX11_thinks 13 rfl rfl) rfl (by decide) rfl ?_
        refine zj_goto (t := 2) (zdk ttX11_thinks 14 rfl rfl) (by decide) ?_
        have s44 : okM h42 := okM_wr s3 e43 (by decide) (by omega) (by omega)
        have f45 : zfr [5] [3] h h42 := zfr_wa f4 e43 rfl
        exact ih34  (x1 + 1) h42 (by omega) s44 f45 (by intro k9 a9 b9; rw [zwr_if e43 k9]; by_cases q9 : k9 = x1; (rw [if_pos q9, q9]); (rw [if_neg q9]; exact u32 k9 a9 (by omega))) (by omega)
  exact lp30 _ 0 h (by omega) s0 (zfr_r _ _ _) (fun k9 a9 b9 => absurd b9 (by omega)) (Nat.lt_succ_self _)

abbrev q2_X11_endsThought (h : zM) : Option zV → zM → Prop := zqv fun h' => okM h' ∧ zfr [5] [1] h h' ∧ (∀ k9, 0 ≤ k9 → k9 < 63 → h'.2 1 k9 = h.2 3 k9) ∧ (h'.2 0 5 = 0)
set_option maxRecDepth 100000 in
set_option maxHeartbeats 4000000 in
theorem s2_X11_endsThought (l : Launch) (h : zM) (s0 : okM h) : zT shM l yX11_endsThought cX11_endsThought 2 none (rmL 1) 0 0 [.inr 0] h (q2_X11_endsThought h) := by
  refine zT_of (by decide +kernel) (L0 := [some (.inr 0), none]) rfl (Nat.le_of_ble_eq_true rfl) ?_
  refine zj_iconst (zdk ttX11_endsThought 0 rfl rfl) ?_
  refine zj_istore_n (L' := [some (.inr 0), some (.inl 0)]) (zdk ttX11_endsThought 1 rfl rfl) (by decide) rfl ?_
  have lp30 : ∀ (n2 : Nat) (x1 : Int) (h2 : zM), (0 ≤ x1 ∧ x1 ≤ 63) → okM h2 → zfr [5] [1] h h2 → (∀ k9, 0 ≤ k9 → k9 < x1 → h2.2 1 k9 = h.2 3 k9) → (64 - x1).toNat < n2 → zJ shM l yX11_endsThought cX11_endsThought 2 none (rmL 1) 0 0 (q2_X11_endsThought h) 0 0 2 [some (.inr 0), some (.inl x1)] [] h2 := by
    intro n2
    induction n2 with
    | zero => intro x1 h2 b31 s3 f4 u32 m33; exact absurd m33 (Nat.not_lt_zero _)
    | succ n2 ih34 =>
      intro x1 h2 b31 s3 f4 u32 m33
      refine zj_iload_n (zdk ttX11_endsThought 2 rfl rfl) rfl ?_
      refine zj_bipush (zdk ttX11_endsThought 3 rfl rfl) (by decide) ?_
      refine zj_icmp_ge (t := 26) (zdk ttX11_endsThought 4 rfl rfl) (by decide) (by omega) (by decide) (fun c35 => ?_) (fun c35 => ?_)
      · refine zj_aload_n (zdk ttX11_endsThought 15 rfl rfl) rfl (by decide) ?_
        refine zj_iconst (zdk ttX11_endsThought 16 rfl rfl) ?_
        refine zj_putz (zdk ttX11_endsThought 17 rfl rfl) zf_RX11_126 rfl (by omega) (k_M s3) (Or.inl zw_RX11_126) (k2 := 5) rfl (fun h36 e37 => ?_)
        have s38 : okM h36 := fwM_5 s3 e37 (by omega)
        have f39 : zfr [5] [1] h h36 := zfr_wf f4 e37 rfl
        exact zj_vret rfl (zdk ttX11_endsThought 18 rfl rfl) (Nat.le_refl _) (Nat.le_refl _) ⟨rfl, s38, f39, (fun k9 a9 b9 => (zwr_r e37 (by first | decide | exact (absurd ·.1 (by decide)) | exact (absurd ·.2 (by decide)) | omega)).trans (u32 k9 a9 (by omega))), (zwr_v e37)⟩
      · refine zj_aload_n (zdk ttX11_endsThought 5 rfl rfl) rfl (by decide) ?_
        refine zj_getr (r := 1) (zdk ttX11_endsThought 6 rfl rfl) zf_RX11_7 rfl (k_M s3) (rfM_1 s3) ?_
        refine zj_iload_n (zdk ttX11_endsThought 7 rfl rfl) rfl ?_
        refine zj_aload_n (zdk ttX11_endsThought 8 rfl rfl) rfl (by decide) ?_
        refine zj_getr (r := 3) (zdk ttX11_endsThought 9 rfl rfl) zf_RX11_16 rfl (k_M s3) (rfM_4 s3) ?_
        refine zj_iload_n (zdk ttX11_endsThought 10 rfl rfl) rfl ?_
        have b40 := (rM_b s0 3 x1 (by omega)).2
        have b41 : -2147483648 ≤ (h.2 3 x1) ∧ (h.2 3 x1) ≤ 2147483647 := (rM_b s0 3 x1 (by omega)).1
        refine zj_iald (v := (h.2 3 x1)) (zdk ttX11_endsThought 11 rfl rfl) (kaM_3 s3) (by decide) (by omega) (zfr_a f4 rfl (by decide)) ?_
        refine zj_iast (zdk ttX11_endsThought 12 rfl rfl) (kaM_1 s3) (by decide) (by omega) (fun h42 e43 => ?_)
        refine zj_iinc (L' := [some (.inr 0), some (.inl (x1 + 1))]) (zdk ttX11_endsThought 13 rfl rfl) rfl (by decide) rfl ?_
        refine zj_goto (t := 2) (zdk ttX11_endsThought 14 rfl rfl) (by decide) ?_
        have s44 : okM h42 := okM_wr s3 e43 (by decide) (by omega) (by omega)
        have f45 : zfr [5] [1] h h42 := zfr_wa f4 e43 rfl
        exact ih34  (x1 + 1) h42 (by omega) s44 f45 (by intro k9 a9 b9; rw [zwr_if e43 k9]; by_cases q9 : k9 = x1; (rw [if_pos q9, q9]); (rw [if_neg q9]; exact u32 k9 a9 (by omega))) (by omega)
  exact lp30 _ 0 h (by omega) s0 (zfr_r _ _ _) (fun k9 a9 b9 => absurd b9 (by omega)) (Nat.lt_succ_self _)

abbrev q2_X11_state (h : zM) (p1 : Int) : Option zV → zM → Prop := zqi fun v h' => ((-2147483648) ≤ v ∧ v ≤ 2147483647) ∧ okM h' ∧ zfr [0, 3] [1] h h' ∧ (∀ z, xL h z → v = (pState p1 z).1 ∧ xL h' (pState p1 z).2)
set_option maxRecDepth 100000 in
set_option maxHeartbeats 4000000 in
theorem s2_X11_state (l : Launch) (h : zM) (p1 : Int) (s0 : okM h) (b_p1 : (-2147483648) ≤ p1 ∧ p1 ≤ 2147483647) : zT shM l yX11_state cX11_state 3 (some .int) (rmL 1) 0 0 [.inr 0, .inl p1] h (q2_X11_state h p1) := by
  refine zT_of (by decide +kernel) (L0 := [some (.inr 0), some (.inl p1), none]) rfl (Nat.le_of_ble_eq_true rfl) ?_
  refine zj_aload_n (zdk ttX11_state 0 rfl rfl) rfl (by decide) ?_
  refine zj_iconst (zdk ttX11_state 1 rfl rfl) ?_
  refine zj_puti (zdk ttX11_state 2 rfl rfl) zf_RX11_120 rfl (k_M s0) (Or.inl zw_RX11_120) (k2 := 0) rfl (fun h1 e2 => ?_)
  refine zj_aload_n (zdk ttX11_state 3 rfl rfl) rfl (by decide) ?_
  have s3 : okM h1 := fwM_0 s0 e2 (by omega)
  refine zj_getr (r := 1) (zdk ttX11_state 4 rfl rfl) zf_RX11_7 rfl (k_M s3) (rfM_1 s3) ?_
  refine zj_iconst (zdk ttX11_state 5 rfl rfl) ?_
  have b5 : -2147483648 ≤ (h.2 1 1) ∧ (h.2 1 1) ≤ 2147483647 := (rM_b s0 1 1 (by omega)).1
  refine zj_iald (v := (h.2 1 1)) (zdk ttX11_state 6 rfl rfl) (kaM_1 s3) (by decide) (by omega) (zwr_r e2 (by first | decide | exact (absurd ·.1 (by decide)) | exact (absurd ·.2 (by decide)) | omega)) ?_
  refine zj_istore_n (L' := [some (.inr 0), some (.inl p1), some (.inl (h.2 1 1))]) (zdk ttX11_state 7 rfl rfl) (by decide) rfl ?_
  refine zj_aload_n (zdk ttX11_state 8 rfl rfl) rfl (by decide) ?_
  refine zj_getr (r := 1) (zdk ttX11_state 9 rfl rfl) zf_RX11_7 rfl (k_M s3) (rfM_1 s3) ?_
  refine zj_iconst (zdk ttX11_state 10 rfl rfl) ?_
  refine zj_iload_n (zdk ttX11_state 11 rfl rfl) rfl ?_
  refine zj_iast (zdk ttX11_state 12 rfl rfl) (kaM_1 s3) (by decide) (by omega) (fun h6 e7 => ?_)
  refine zj_aload_n (zdk ttX11_state 13 rfl rfl) rfl (by decide) ?_
  refine zj_iconst (zdk ttX11_state 14 rfl rfl) ?_
  have s8 : okM h6 := okM_wr s3 e7 (by decide) (by omega) (by omega)
  refine zj_puti (zdk ttX11_state 15 rfl rfl) zf_RX11_123 rfl (k_M s8) (Or.inl zw_RX11_123) (k2 := 3) rfl (fun h9 e10 => ?_)
  refine zj_iload_n (zdk ttX11_state 16 rfl rfl) rfl ?_
  have s11 : okM h9 := fwM_3 s8 e10 (by omega)
  have f14 : zfr [0, 3] [1] h h1 := zfr_wf (zfr_r _ _ _) e2 rfl
  have f13 : zfr [0, 3] [1] h h6 := zfr_wa f14 e7 rfl
  have f12 : zfr [0, 3] [1] h h9 := zfr_wf f13 e10 rfl
  exact zj_iret rfl (zdk ttX11_state 17 rfl rfl) (Nat.le_refl _) (Nat.le_refl _) ⟨(h.2 1 1), rfl, by omega, s11, f12, (by intro z t0; have r1 := xL_r t0 (k := 1) (by decide) (by decide); have y0 := zY_o t0.1 e2 (by unfold zDm zDe; omega); have y1 := zY_w (k := 1) (u := p1) y0 e7 (by decide) rfl (by omega) (by omega) (by omega) (by omega); have y2 := zY_o y1 e10 (by unfold zDm zDe; omega); refine ⟨r1, ?_⟩; exact xL_0 t0 y2 (zwr_v e10) (((zwr_r e10 (by first | decide | exact (absurd ·.1 (by decide)) | exact (absurd ·.2 (by decide)) | omega)).trans (zwr_r e7 (by first | decide | exact (absurd ·.1 (by decide)) | exact (absurd ·.2 (by decide)) | omega))).trans (zwr_r e2 (by first | decide | exact (absurd ·.1 (by decide)) | exact (absurd ·.2 (by decide)) | omega))) (fun b9 => (((zwr_r e10 (by first | decide | exact (absurd ·.1 (by decide)) | exact (absurd ·.2 (by decide)) | omega)).trans (zwr_r e7 (by first | decide | exact (absurd ·.1 (by decide)) | exact (absurd ·.2 (by decide)) | omega))).trans (zwr_r e2 (by first | decide | exact (absurd ·.1 (by decide)) | exact (absurd ·.2 (by decide)) | omega)))))⟩

abbrev q2_X11_islanderz (h : zM) (p1 : Int) (p2 : Int) : Option zV → zM → Prop := zqi fun v h' => ((-2147483648) ≤ v ∧ v ≤ 2147483647) ∧ okM h' ∧ zfr [0, 3, 6] [1, 4, 5] h h' ∧ (∀ z, xL h z → v = (pIsl p1 p2 z).1 ∧ xL h' (pIsl p1 p2 z).2)
set_option maxRecDepth 100000 in
set_option maxHeartbeats 4000000 in
theorem s2_X11_islanderz (l : Launch) (h : zM) (p1 : Int) (p2 : Int) (s0 : okM h) (b_p1 : (-2147483648) ≤ p1 ∧ p1 ≤ 2147483647) (b_p2 : (-2147483648) ≤ p2 ∧ p2 ≤ 2147483647) : zT shM l yX11_islander cX11_islander 3 (some .int) (rmL 2) 0 0 [.inr 0, .inl p1, .inl p2] h (q2_X11_islanderz h p1 p2) := by
  refine zT_of (by decide +kernel) (L0 := [some (.inr 0), some (.inl p1), some (.inl p2)]) rfl (Nat.le_of_ble_eq_true rfl) ?_
  refine zj_aload_n (zdk ttX11_islander 0 rfl rfl) rfl (by decide) ?_
  refine zj_iconst (zdk ttX11_islander 1 rfl rfl) ?_
  refine zj_puti (zdk ttX11_islander 2 rfl rfl) zf_RX11_120 rfl (k_M s0) (Or.inl zw_RX11_120) (k2 := 0) rfl (fun h1 e2 => ?_)
  refine zj_aload_n (zdk ttX11_islander 3 rfl rfl) rfl (by decide) ?_
  refine zj_iload_n (zdk ttX11_islander 4 rfl rfl) rfl ?_
  refine zj_iconst (zdk ttX11_islander 5 rfl rfl) ?_
  refine zj_sipush (zdk ttX11_islander 6 rfl rfl) (by decide) ?_
  have s3 : okM h1 := fwM_0 s0 e2 (by omega)
  refine zj_callV (av := [.inl p1, .inl 1, .inl 200]) (st := []) (zdk ttX11_islander 7 rfl rfl) mb_X11_isIn mv_RX11_139 (ci := 11) rfl rfl (k_M s3) rfl rfl (Nat.le_of_ble_eq_true rfl) (s_X11_isIn l h1 p1 1 200 s3 (by omega) (by omega) (by omega)) (rm_ok (by decide) (by decide)) (zq_i fun v5 h6 q4 => ?_)
  obtain ⟨rfl, ⟨rfl, b7⟩ | ⟨rfl, b7⟩⟩ := q4
  · refine zj_if_eq (t := 37) (zdk ttX11_islander 8 rfl rfl) (by decide) (by decide) (fun c8 => ?_) (fun c8 => ?_)
    · refine zj_iconst (zdk ttX11_islander 19 rfl rfl) ?_
      have f9 : zfr [0, 3, 6] [1, 4, 5] h h1 := zfr_wf (zfr_r _ _ _) e2 rfl
      exact zj_iret rfl (zdk ttX11_islander 20 rfl rfl) (Nat.le_refl _) (Nat.le_refl _) ⟨(-1), rfl, by omega, s3, f9, (by intro z t0; have g0 := xL_g t0; unfold pIsl; rw [if_neg (by omega)]; exact ⟨rfl, (xL_f t0 (fun a9 b9 y9 => (zwr_r e2 (by unfold zDm zDe at y9; omega))) (zwr_r e2 (by first | decide | exact (absurd ·.1 (by decide)) | exact (absurd ·.2 (by decide)) | omega)) (zwr_r e2 (by first | decide | exact (absurd ·.1 (by decide)) | exact (absurd ·.2 (by decide)) | omega)) (fun b9 => (zwr_r e2 (by first | decide | exact (absurd ·.1 (by decide)) | exact (absurd ·.2 (by decide)) | omega))) (fun b9 => (zwr_r e2 (by first | decide | exact (absurd ·.1 (by decide)) | exact (absurd ·.2 (by decide)) | omega))))⟩)⟩
    · exact absurd c8 (by omega)
  · refine zj_if_eq (t := 37) (zdk ttX11_islander 8 rfl rfl) (by decide) (by decide) (fun c10 => ?_) (fun c10 => ?_)
    · exact absurd c10 (by omega)
    · refine zj_aload_n (zdk ttX11_islander 9 rfl rfl) rfl (by decide) ?_
      refine zj_iload_n (zdk ttX11_islander 10 rfl rfl) rfl ?_
      refine zj_iconst (zdk ttX11_islander 11 rfl rfl) ?_
      refine zj_bipush (zdk ttX11_islander 12 rfl rfl) (by decide) ?_
      refine zj_callV (av := [.inl p2, .inl 0, .inl 9]) (st := []) (zdk ttX11_islander 13 rfl rfl) mb_X11_isIn mv_RX11_139 (ci := 11) rfl rfl (k_M s3) rfl rfl (Nat.le_of_ble_eq_true rfl) (s_X11_isIn l h1 p2 0 9 s3 (by omega) (by omega) (by omega)) (rm_ok (by decide) (by decide)) (zq_i fun v12 h13 q11 => ?_)
      obtain ⟨rfl, ⟨rfl, b14⟩ | ⟨rfl, b14⟩⟩ := q11
      · refine zj_if_eq (t := 37) (zdk ttX11_islander 14 rfl rfl) (by decide) (by decide) (fun c15 => ?_) (fun c15 => ?_)
        · refine zj_iconst (zdk ttX11_islander 19 rfl rfl) ?_
          have f16 : zfr [0, 3, 6] [1, 4, 5] h h1 := zfr_wf (zfr_r _ _ _) e2 rfl
          exact zj_iret rfl (zdk ttX11_islander 20 rfl rfl) (Nat.le_refl _) (Nat.le_refl _) ⟨(-1), rfl, by omega, s3, f16, (by intro z t0; have g0 := xL_g t0; unfold pIsl; rw [if_neg (by omega)]; exact ⟨rfl, (xL_f t0 (fun a9 b9 y9 => (zwr_r e2 (by unfold zDm zDe at y9; omega))) (zwr_r e2 (by first | decide | exact (absurd ·.1 (by decide)) | exact (absurd ·.2 (by decide)) | omega)) (zwr_r e2 (by first | decide | exact (absurd ·.1 (by decide)) | exact (absurd ·.2 (by decide)) | omega)) (fun b9 => (zwr_r e2 (by first | decide | exact (absurd ·.1 (by decide)) | exact (absurd ·.2 (by decide)) | omega))) (fun b9 => (zwr_r e2 (by first | decide | exact (absurd ·.1 (by decide)) | exact (absurd ·.2 (by decide)) | omega))))⟩)⟩
        · exact absurd c15 (by omega)
      · refine zj_if_eq (t := 37) (zdk ttX11_islander 14 rfl rfl) (by decide) (by decide) (fun c17 => ?_) (fun c17 => ?_)
        · exact absurd c17 (by omega)
        · refine zj_aload_n (zdk ttX11_islander 15 rfl rfl) rfl (by decide) ?_
          have b18 : 0 ≤ (h.2 0 6) ∧ (h.2 0 6) ≤ 18 := fM_6 s0
          refine zj_geti (v := (h.2 0 6)) (zdk ttX11_islander 16 rfl rfl) zf_RX11_132 rfl (k_M s3) (zwr_r e2 (by first | decide | exact (absurd ·.1 (by decide)) | exact (absurd ·.2 (by decide)) | omega)) ?_
          refine zj_bipush (zdk ttX11_islander 17 rfl rfl) (by decide) ?_
          refine zj_icmp_ne (t := 39) (zdk ttX11_islander 18 rfl rfl) (by decide) (by omega) (by decide) (fun c19 => ?_) (fun c19 => ?_)
          · refine zj_aload_n (zdk ttX11_islander 21 rfl rfl) rfl (by decide) ?_
            refine zj_getr (r := 4) (zdk ttX11_islander 22 rfl rfl) zf_RX11_19 rfl (k_M s3) (rfM_7 s3) ?_
            refine zj_aload_n (zdk ttX11_islander 23 rfl rfl) rfl (by decide) ?_
            refine zj_geti (v := (h.2 0 6)) (zdk ttX11_islander 24 rfl rfl) zf_RX11_132 rfl (k_M s3) (zwr_r e2 (by first | decide | exact (absurd ·.1 (by decide)) | exact (absurd ·.2 (by decide)) | omega)) ?_
            refine zj_iload_n (zdk ttX11_islander 25 rfl rfl) rfl ?_
            refine zj_iast (zdk ttX11_islander 26 rfl rfl) (kaM_4 s3) (by decide) (by omega) (fun h20 e21 => ?_)
            refine zj_aload_n (zdk ttX11_islander 27 rfl rfl) rfl (by decide) ?_
            have s22 : okM h20 := awM_4 s3 e21 (by omega) (by unfold nsp; omega)
            refine zj_getr (r := 5) (zdk ttX11_islander 28 rfl rfl) zf_RX11_22 rfl (k_M s22) (rfM_8 s22) ?_
            refine zj_aload_n (zdk ttX11_islander 29 rfl rfl) rfl (by decide) ?_
            refine zj_geti (v := (h.2 0 6)) (zdk ttX11_islander 30 rfl rfl) zf_RX11_132 rfl (k_M s22) ((zwr_r e21 (by first | decide | exact (absurd ·.1 (by decide)) | exact (absurd ·.2 (by decide)) | omega)).trans (zwr_r e2 (by first | decide | exact (absurd ·.1 (by decide)) | exact (absurd ·.2 (by decide)) | omega))) ?_
            refine zj_iload_n (zdk ttX11_islander 31 rfl rfl) rfl ?_
            refine zj_iast (zdk ttX11_islander 32 rfl rfl) (kaM_5 s22) (by decide) (by omega) (fun h23 e24 => ?_)
            refine zj_aload_n (zdk ttX11_islander 33 rfl rfl) rfl (by decide) ?_
            have s25 : okM h23 := awM_5 s22 e24 (by omega) (by unfold nsp; omega)
            refine zj_getr (r := 1) (zdk ttX11_islander 34 rfl rfl) zf_RX11_7 rfl (k_M s25) (rfM_1 s25) ?_
            refine zj_bipush (zdk ttX11_islander 35 rfl rfl) (by decide) ?_
            refine zj_aload_n (zdk ttX11_islander 36 rfl rfl) rfl (by decide) ?_
            refine zj_geti (v := (h.2 0 6)) (zdk ttX11_islander 37 rfl rfl) zf_RX11_132 rfl (k_M s25) (((zwr_r e24 (by first | decide | exact (absurd ·.1 (by decide)) | exact (absurd ·.2 (by decide)) | omega)).trans (zwr_r e21 (by first | decide | exact (absurd ·.1 (by decide)) | exact (absurd ·.2 (by decide)) | omega))).trans (zwr_r e2 (by first | decide | exact (absurd ·.1 (by decide)) | exact (absurd ·.2 (by decide)) | omega))) ?_
            refine zj_iadd (zdk ttX11_islander 38 rfl rfl) ?_
            refine zj_iconst (zdk ttX11_islander 39 rfl rfl) ?_
            refine zj_iast (zdk ttX11_islander 40 rfl rfl) (kaM_1 s25) (by decide) (by omega) (fun h26 e27 => ?_)
            refine zj_aload_n (zdk ttX11_islander 41 rfl rfl) rfl (by decide) ?_
            have s28 : okM h26 := okM_wr s25 e27 (by decide) (by omega) (by omega)
            refine zj_getr (r := 1) (zdk ttX11_islander 42 rfl rfl) zf_RX11_7 rfl (k_M s28) (rfM_1 s28) ?_
            refine zj_bipush (zdk ttX11_islander 43 rfl rfl) (by decide) ?_
            refine zj_aload_n (zdk ttX11_islander 44 rfl rfl) rfl (by decide) ?_
            refine zj_geti (v := (h.2 0 6)) (zdk ttX11_islander 45 rfl rfl) zf_RX11_132 rfl (k_M s28) ((((zwr_r e27 (by first | decide | exact (absurd ·.1 (by decide)) | exact (absurd ·.2 (by decide)) | omega)).trans (zwr_r e24 (by first | decide | exact (absurd ·.1 (by decide)) | exact (absurd ·.2 (by decide)) | omega))).trans (zwr_r e21 (by first | decide | exact (absurd ·.1 (by decide)) | exact (absurd ·.2 (by decide)) | omega))).trans (zwr_r e2 (by first | decide | exact (absurd ·.1 (by decide)) | exact (absurd ·.2 (by decide)) | omega))) ?_
            refine zj_iadd (zdk ttX11_islander 46 rfl rfl) ?_
            refine zj_iconst (zdk ttX11_islander 47 rfl rfl) ?_
            refine zj_iast (zdk ttX11_islander 48 rfl rfl) (kaM_1 s28) (by decide) (by omega) (fun h29 e30 => ?_)
            refine zj_aload_n (zdk ttX11_islander 49 rfl rfl) rfl (by decide) ?_
            have s31 : okM h29 := okM_wr s28 e30 (by decide) (by omega) (by omega)
            refine zj_getr (r := 1) (zdk ttX11_islander 50 rfl rfl) zf_RX11_7 rfl (k_M s31) (rfM_1 s31) ?_
            refine zj_bipush (zdk ttX11_islander 51 rfl rfl) (by decide) ?_
            refine zj_aload_n (zdk ttX11_islander 52 rfl rfl) rfl (by decide) ?_
            refine zj_geti (v := (h.2 0 6)) (zdk ttX11_islander 53 rfl rfl) zf_RX11_132 rfl (k_M s31) (((((zwr_r e30 (by first | decide | exact (absurd ·.1 (by decide)) | exact (absurd ·.2 (by decide)) | omega)).trans (zwr_r e27 (by first | decide | exact (absurd ·.1 (by decide)) | exact (absurd ·.2 (by decide)) | omega))).trans (zwr_r e24 (by first | decide | exact (absurd ·.1 (by decide)) | exact (absurd ·.2 (by decide)) | omega))).trans (zwr_r e21 (by first | decide | exact (absurd ·.1 (by decide)) | exact (absurd ·.2 (by decide)) | omega))).trans (zwr_r e2 (by first | decide | exact (absurd ·.1 (by decide)) | exact (absurd ·.2 (by decide)) | omega))) ?_
            refine zj_iadd (zdk ttX11_islander 54 rfl rfl) ?_
            refine zj_iconst (zdk ttX11_islander 55 rfl rfl) ?_
            refine zj_iast (zdk ttX11_islander 56 rfl rfl) (kaM_1 s31) (by decide) (by omega) (fun h32 e33 => ?_)
            refine zj_aload_n (zdk ttX11_islander 57 rfl rfl) rfl (by decide) ?_
            refine zj_aload_n (zdk ttX11_islander 58 rfl rfl) rfl (by decide) ?_
            have s34 : okM h32 := okM_wr s31 e33 (by decide) (by omega) (by omega)
            refine zj_geti (v := (h.2 0 6)) (zdk ttX11_islander 59 rfl rfl) zf_RX11_132 rfl (k_M s34) ((((((zwr_r e33 (by first | decide | exact (absurd ·.1 (by decide)) | exact (absurd ·.2 (by decide)) | omega)).trans (zwr_r e30 (by first | decide | exact (absurd ·.1 (by decide)) | exact (absurd ·.2 (by decide)) | omega))).trans (zwr_r e27 (by first | decide | exact (absurd ·.1 (by decide)) | exact (absurd ·.2 (by decide)) | omega))).trans (zwr_r e24 (by first | decide | exact (absurd ·.1 (by decide)) | exact (absurd ·.2 (by decide)) | omega))).trans (zwr_r e21 (by first | decide | exact (absurd ·.1 (by decide)) | exact (absurd ·.2 (by decide)) | omega))).trans (zwr_r e2 (by first | decide | exact (absurd ·.1 (by decide)) | exact (absurd ·.2 (by decide)) | omega))) ?_
            refine zj_iconst (zdk ttX11_islander 60 rfl rfl) ?_
            refine zj_iadd (zdk ttX11_islander 61 rfl rfl) ?_
            refine zj_puti (zdk ttX11_islander 62 rfl rfl) zf_RX11_132 rfl (k_M s34) (Or.inl zw_RX11_132) (k2 := 6) rfl (fun h35 e36 => ?_)
            refine zj_aload_n (zdk ttX11_islander 63 rfl rfl) rfl (by decide) ?_
            refine zj_iconst (zdk ttX11_islander 64 rfl rfl) ?_
            have s37 : okM h35 := fwM_6 s34 e36 (by omega)
            refine zj_puti (zdk ttX11_islander 65 rfl rfl) zf_RX11_123 rfl (k_M s37) (Or.inl zw_RX11_123) (k2 := 3) rfl (fun h38 e39 => ?_)
            refine zj_aload_n (zdk ttX11_islander 66 rfl rfl) rfl (by decide) ?_
            have s40 : okM h38 := fwM_3 s37 e39 (by omega)
            refine zj_geti (v := ((h.2 0 6) + 1)) (zdk ttX11_islander 67 rfl rfl) zf_RX11_132 rfl (k_M s40) ((zwr_r e39 (by first | decide | exact (absurd ·.1 (by decide)) | exact (absurd ·.2 (by decide)) | omega)).trans (zwr_v e36)) ?_
            refine zj_iconst (zdk ttX11_islander 68 rfl rfl) ?_
            refine zj_isub (zdk ttX11_islander 69 rfl rfl) ?_
            have f48 : zfr [0, 3, 6] [1, 4, 5] h h1 := zfr_wf (zfr_r _ _ _) e2 rfl
            have f47 : zfr [0, 3, 6] [1, 4, 5] h h20 := zfr_wa f48 e21 rfl
            have f46 : zfr [0, 3, 6] [1, 4, 5] h h23 := zfr_wa f47 e24 rfl
            have f45 : zfr [0, 3, 6] [1, 4, 5] h h26 := zfr_wa f46 e27 rfl
            have f44 : zfr [0, 3, 6] [1, 4, 5] h h29 := zfr_wa f45 e30 rfl
            have f43 : zfr [0, 3, 6] [1, 4, 5] h h32 := zfr_wa f44 e33 rfl
            have f42 : zfr [0, 3, 6] [1, 4, 5] h h35 := zfr_wf f43 e36 rfl
            have f41 : zfr [0, 3, 6] [1, 4, 5] h h38 := zfr_wf f42 e39 rfl
            exact zj_iret rfl (zdk ttX11_islander 70 rfl rfl) (Nat.le_refl _) (Nat.le_refl _) ⟨(((h.2 0 6) + 1) - 1), rfl, by omega, s40, f41, (by intro z t0; have g0 := xL_g t0; unfold pIsl; rw [if_pos (by omega)]; have eN : h.2 0 6 = z.e.n := g0.1; have y0 := zY_o t0.1 e2 (by unfold zDm zDe; omega); have ei1 : h20 = zwr h1 4 (z.e.n) p1 := (by have z8 := e21; rw [eN] at z8; exact z8); have ei2 : h23 = zwr h20 5 (z.e.n) p2 := (by have z8 := e24; rw [eN] at z8; exact z8); have ei3 : h26 = zwr h23 1 (9 + z.e.n) 0 := (by have z8 := e27; rw [eN] at z8; exact z8); have ei4 : h29 = zwr h26 1 (27 + z.e.n) 0 := (by have z8 := e30; rw [eN] at z8; exact z8); have ei5 : h32 = zwr h29 1 (45 + z.e.n) 0 := (by have z8 := e33; rw [eN] at z8; exact z8); have ei6 : h35 = zwr h32 0 6 (z.e.n + 1) := (by have z8 := e36; rw [eN] at z8; exact z8); have y6 := zY_is y0 (by omega) (by omega) (by omega) ei1 ei2 ei3 ei4 ei5 ei6; have y7 := zY_o y6 e39 (by unfold zDm zDe; omega); exact ⟨by show _ = z.e.n; omega, xL_0 t0 y7 (zwr_v e39) ((((((((zwr_r e39 (by first | decide | exact (absurd ·.1 (by decide)) | exact (absurd ·.2 (by decide)) | omega)).trans (zwr_r e36 (by first | decide | exact (absurd ·.1 (by decide)) | exact (absurd ·.2 (by decide)) | omega))).trans (zwr_r e33 (by first | decide | exact (absurd ·.1 (by decide)) | exact (absurd ·.2 (by decide)) | omega))).trans (zwr_r e30 (by first | decide | exact (absurd ·.1 (by decide)) | exact (absurd ·.2 (by decide)) | omega))).trans (zwr_r e27 (by first | decide | exact (absurd ·.1 (by decide)) | exact (absurd ·.2 (by decide)) | omega))).trans (zwr_r e24 (by first | decide | exact (absurd ·.1 (by decide)) | exact (absurd ·.2 (by decide)) | omega))).trans (zwr_r e21 (by first | decide | exact (absurd ·.1 (by decide)) | exact (absurd ·.2 (by decide)) | omega))).trans (zwr_r e2 (by first | decide | exact (absurd ·.1 (by decide)) | exact (absurd ·.2 (by decide)) | omega))) (fun b9 => ((((((((zwr_r e39 (by first | decide | exact (absurd ·.1 (by decide)) | exact (absurd ·.2 (by decide)) | omega)).trans (zwr_r e36 (by first | decide | exact (absurd ·.1 (by decide)) | exact (absurd ·.2 (by decide)) | omega))).trans (zwr_r e33 (by first | decide | exact (absurd ·.1 (by decide)) | exact (absurd ·.2 (by decide)) | omega))).trans (zwr_r e30 (by first | decide | exact (absurd ·.1 (by decide)) | exact (absurd ·.2 (by decide)) | omega))).trans (zwr_r e27 (by first | decide | exact (absurd ·.1 (by decide)) | exact (absurd ·.2 (by decide)) | omega))).trans (zwr_r e24 (by first | decide | exact (absurd ·.1 (by decide)) | exact (absurd ·.2 (by decide)) | omega))).trans (zwr_r e21 (by first | decide | exact (absurd ·.1 (by decide)) | exact (absurd ·.2 (by decide)) | omega))).trans (zwr_r e2 (by first | decide | exact (absurd ·.1 (by decide)) | exact (absurd ·.2 (by decide)) | omega))))⟩)⟩
          · refine zj_iconst (zdk ttX11_islander 19 rfl rfl) ?_
            have f49 : zfr [0, 3, 6] [1, 4, 5] h h1 := zfr_wf (zfr_r _ _ _) e2 rfl
            exact zj_iret rfl (zdk ttX11_islander 20 rfl rfl) (Nat.le_refl _) (Nat.le_refl _) ⟨(-1), rfl, by omega, s3, f49, (by intro z t0; have g0 := xL_g t0; unfold pIsl; rw [if_neg (by omega)]; exact ⟨rfl, (xL_f t0 (fun a9 b9 y9 => (zwr_r e2 (by unfold zDm zDe at y9; omega))) (zwr_r e2 (by first | decide | exact (absurd ·.1 (by decide)) | exact (absurd ·.2 (by decide)) | omega)) (zwr_r e2 (by first | decide | exact (absurd ·.1 (by decide)) | exact (absurd ·.2 (by decide)) | omega)) (fun b9 => (zwr_r e2 (by first | decide | exact (absurd ·.1 (by decide)) | exact (absurd ·.2 (by decide)) | omega))) (fun b9 => (zwr_r e2 (by first | decide | exact (absurd ·.1 (by decide)) | exact (absurd ·.2 (by decide)) | omega))))⟩)⟩

abbrev q2_X11_setz (h : zM) (p1 : Int) (p2 : Int) (p3 : Int) : Option zV → zM → Prop := zqi fun v h' => (0 ≤ v ∧ v ≤ 1) ∧ okM h' ∧ zfr [0, 3] [1, 4, 5] h h' ∧ (∀ z, xL h z → v = (pSet p1 p2 p3 z).1 ∧ xL h' (pSet p1 p2 p3 z).2)
set_option maxRecDepth 100000 in
set_option maxHeartbeats 4000000 in
theorem s2_X11_setz (l : Launch) (h : zM) (p1 : Int) (p2 : Int) (p3 : Int) (s0 : okM h) (b_p1 : (-2147483648) ≤ p1 ∧ p1 ≤ 2147483647) (b_p2 : (-2147483648) ≤ p2 ∧ p2 ≤ 2147483647) (b_p3 : (-2147483648) ≤ p3 ∧ p3 ≤ 2147483647) : zT shM l yX11_set cX11_set 4 (some .boolean) (rmL 3) 0 0 [.inr 0, .inl p1, .inl p2, .inl p3] h (q2_X11_setz h p1 p2 p3) := by
  refine zT_of (by decide +kernel) (L0 := [some (.inr 0), some (.inl p1), some (.inl p2), some (.inl p3)]) rfl (Nat.le_of_ble_eq_true rfl) ?_
  refine zj_aload_n (zdk ttX11_set 0 rfl rfl) rfl (by decide) ?_
  refine zj_iconst (zdk ttX11_set 1 rfl rfl) ?_
  refine zj_puti (zdk ttX11_set 2 rfl rfl) zf_RX11_120 rfl (k_M s0) (Or.inl zw_RX11_120) (k2 := 0) rfl (fun h1 e2 => ?_)
  refine zj_aload_n (zdk ttX11_set 3 rfl rfl) rfl (by decide) ?_
  refine zj_iload_n (zdk ttX11_set 4 rfl rfl) rfl ?_
  refine zj_iload_n (zdk ttX11_set 5 rfl rfl) rfl ?_
  refine zj_iload_n (zdk ttX11_set 6 rfl rfl) rfl ?_
  have s3 : okM h1 := fwM_0 s0 e2 (by omega)
  refine zj_callV (av := [.inl p1, .inl p2, .inl p3]) (st := []) (zdk ttX11_set 7 rfl rfl) mb_X11_canSet mv_RX11_146 (ci := 11) rfl rfl (k_M s3) rfl rfl (Nat.le_of_ble_eq_true rfl) (s_X11_canSet l h1 p1 p2 p3 s3 (by omega) (by omega) (by omega)) (rm_ok (by decide) (by decide)) (zq_i fun v5 h6 q4 => ?_)
  obtain ⟨rfl, b8, ⟨rfl, b7⟩ | ⟨rfl, b7⟩⟩ := q4
  · refine zj_if_ne (t := 17) (zdk ttX11_set 8 rfl rfl) (by decide) (by decide) (fun c9 => ?_) (fun c9 => ?_)
    · exact absurd c9 (by omega)
    · refine zj_iconst (zdk ttX11_set 9 rfl rfl) ?_
      have f10 : zfr [0, 3] [1, 4, 5] h h1 := zfr_wf (zfr_r _ _ _) e2 rfl
      exact zj_zret rfl (zdk ttX11_set 10 rfl rfl) (Nat.le_refl _) (Nat.le_refl _) (by omega) ⟨0, rfl, by omega, s3, f10, (by intro z t0; have g0 := xL_g t0; have n1 : h1.2 0 6 = h.2 0 6 := zwr_r e2 (by first | decide | exact (absurd ·.1 (by decide)) | exact (absurd ·.2 (by decide)) | omega); unfold pSet; rw [if_neg (by omega)]; exact ⟨rfl, (xL_f t0 (fun a9 b9 y9 => (zwr_r e2 (by unfold zDm zDe at y9; omega))) (zwr_r e2 (by first | decide | exact (absurd ·.1 (by decide)) | exact (absurd ·.2 (by decide)) | omega)) (zwr_r e2 (by first | decide | exact (absurd ·.1 (by decide)) | exact (absurd ·.2 (by decide)) | omega)) (fun b9 => (zwr_r e2 (by first | decide | exact (absurd ·.1 (by decide)) | exact (absurd ·.2 (by decide)) | omega))) (fun b9 => (zwr_r e2 (by first | decide | exact (absurd ·.1 (by decide)) | exact (absurd ·.2 (by decide)) | omega))))⟩)⟩
  · refine zj_if_ne (t := 17) (zdk ttX11_set 8 rfl rfl) (by decide) (by decide) (fun c11 => ?_) (fun c11 => ?_)
    · refine zj_iload_n (zdk ttX11_set 11 rfl rfl) rfl ?_
      refine zj_if_ne (t := 28) (zdk ttX11_set 12 rfl rfl) (by decide) (by omega) (fun c12 => ?_) (fun c12 => ?_)
      · refine zj_iload_n (zdk ttX11_set 18 rfl rfl) rfl ?_
        refine zj_iconst (zdk ttX11_set 19 rfl rfl) ?_
        refine zj_icmp_ne (t := 40) (zdk ttX11_set 20 rfl rfl) (by decide) (by omega) (by decide) (fun c13 => ?_) (fun c13 => ?_)
        · refine zj_iload_n (zdk ttX11_set 26 rfl rfl) rfl ?_
          refine zj_iconst (zdk ttX11_set 27 rfl rfl) ?_
          refine zj_icmp_ne (t := 52) (zdk ttX11_set 28 rfl rfl) (by decide) (by omega) (by decide) (fun c14 => ?_) (fun c14 => ?_)
          · refine zj_iload_n (zdk ttX11_set 34 rfl rfl) rfl ?_
            refine zj_iconst (zdk ttX11_set 35 rfl rfl) ?_
            refine zj_icmp_ne (t := 64) (zdk ttX11_set 36 rfl rfl) (by decide) (by omega) (by decide) (fun c15 => ?_) (fun c15 => ?_)
            · refine zj_iload_n (zdk ttX11_set 42 rfl rfl) rfl ?_
              refine zj_iconst (zdk ttX11_set 43 rfl rfl) ?_
              refine zj_icmp_ne (t := 77) (zdk ttX11_set 44 rfl rfl) (by decide) (by omega) (by decide) (fun c16 => ?_) (fun c16 => ?_)
              · exact absurd c16 (by omega)
              · refine zj_aload_n (zdk ttX11_set 45 rfl rfl) rfl (by decide) ?_
                refine zj_getr (r := 1) (zdk ttX11_set 46 rfl rfl) zf_RX11_7 rfl (k_M s3) (rfM_1 s3) ?_
                refine zj_bipush (zdk ttX11_set 47 rfl rfl) (by decide) ?_
                refine zj_iload_n (zdk ttX11_set 48 rfl rfl) rfl ?_
                refine zj_iast (zdk ttX11_set 49 rfl rfl) (kaM_1 s3) (by decide) (by omega) (fun h17 e18 => ?_)
                refine zj_aload_n (zdk ttX11_set 50 rfl rfl) rfl (by decide) ?_
                refine zj_iconst (zdk ttX11_set 51 rfl rfl) ?_
                have s19 : okM h17 := okM_wr s3 e18 (by decide) (by omega) (by omega)
                refine zj_puti (zdk ttX11_set 52 rfl rfl) zf_RX11_123 rfl (k_M s19) (Or.inl zw_RX11_123) (k2 := 3) rfl (fun h20 e21 => ?_)
                refine zj_iconst (zdk ttX11_set 53 rfl rfl) ?_
                have s22 : okM h20 := fwM_3 s19 e21 (by omega)
                have f25 : zfr [0, 3] [1, 4, 5] h h1 := zfr_wf (zfr_r _ _ _) e2 rfl
                have f24 : zfr [0, 3] [1, 4, 5] h h17 := zfr_wa f25 e18 rfl
                have f23 : zfr [0, 3] [1, 4, 5] h h20 := zfr_wf f24 e21 rfl
                exact zj_zret rfl (zdk ttX11_set 54 rfl rfl) (Nat.le_refl _) (Nat.le_refl _) (by omega) ⟨1, rfl, by omega, s22, f23, (by intro z t0; have g0 := xL_g t0; have n1 : h1.2 0 6 = h.2 0 6 := zwr_r e2 (by first | decide | exact (absurd ·.1 (by decide)) | exact (absurd ·.2 (by decide)) | omega); unfold pSet; rw [if_pos (by omega)]; refine ⟨rfl, ?_⟩; unfold fSt1; have y0 := zY_o t0.1 e2 (by unfold zDm zDe; omega); rw [if_neg (by omega), if_neg (by omega), if_neg (by omega), if_neg (by omega)]; have y1 := zY_w (k := 8) (u := p3) y0 e18 (by decide) rfl (by omega) (by omega) (by omega) (by omega); have y2 := zY_o y1 e21 (by unfold zDm zDe; omega); exact xL_0 t0 y2 (zwr_v e21) (((zwr_r e21 (by first | decide | exact (absurd ·.1 (by decide)) | exact (absurd ·.2 (by decide)) | omega)).trans (zwr_r e18 (by first | decide | exact (absurd ·.1 (by decide)) | exact (absurd ·.2 (by decide)) | omega))).trans (zwr_r e2 (by first | decide | exact (absurd ·.1 (by decide)) | exact (absurd ·.2 (by decide)) | omega))) (fun b9 => (((zwr_r e21 (by first | decide | exact (absurd ·.1 (by decide)) | exact (absurd ·.2 (by decide)) | omega)).trans (zwr_r e18 (by first | decide | exact (absurd ·.1 (by decide)) | exact (absurd ·.2 (by decide)) | omega))).trans (zwr_r e2 (by first | decide | exact (absurd ·.1 (by decide)) | exact (absurd ·.2 (by decide)) | omega)))))⟩
            · refine zj_aload_n (zdk ttX11_set 37 rfl rfl) rfl (by decide) ?_
              refine zj_getr (r := 1) (zdk ttX11_set 38 rfl rfl) zf_RX11_7 rfl (k_M s3) (rfM_1 s3) ?_
              refine zj_iconst (zdk ttX11_set 39 rfl rfl) ?_
              refine zj_iload_n (zdk ttX11_set 40 rfl rfl) rfl ?_
              refine zj_iast (zdk ttX11_set 41 rfl rfl) (kaM_1 s3) (by decide) (by omega) (fun h26 e27 => ?_)
              refine zj_iload_n (zdk ttX11_set 42 rfl rfl) rfl ?_
              refine zj_iconst (zdk ttX11_set 43 rfl rfl) ?_
              refine zj_icmp_ne (t := 77) (zdk ttX11_set 44 rfl rfl) (by decide) (by omega) (by decide) (fun c28 => ?_) (fun c28 => ?_)
              · refine zj_aload_n (zdk ttX11_set 50 rfl rfl) rfl (by decide) ?_
                refine zj_iconst (zdk ttX11_set 51 rfl rfl) ?_
                have s29 : okM h26 := okM_wr s3 e27 (by decide) (by omega) (by omega)
                refine zj_puti (zdk ttX11_set 52 rfl rfl) zf_RX11_123 rfl (k_M s29) (Or.inl zw_RX11_123) (k2 := 3) rfl (fun h30 e31 => ?_)
                refine zj_iconst (zdk ttX11_set 53 rfl rfl) ?_
                have s32 : okM h30 := fwM_3 s29 e31 (by omega)
                have f35 : zfr [0, 3] [1, 4, 5] h h1 := zfr_wf (zfr_r _ _ _) e2 rfl
                have f34 : zfr [0, 3] [1, 4, 5] h h26 := zfr_wa f35 e27 rfl
                have f33 : zfr [0, 3] [1, 4, 5] h h30 := zfr_wf f34 e31 rfl
                exact zj_zret rfl (zdk ttX11_set 54 rfl rfl) (Nat.le_refl _) (Nat.le_refl _) (by omega) ⟨1, rfl, by omega, s32, f33, (by intro z t0; have g0 := xL_g t0; have n1 : h1.2 0 6 = h.2 0 6 := zwr_r e2 (by first | decide | exact (absurd ·.1 (by decide)) | exact (absurd ·.2 (by decide)) | omega); unfold pSet; rw [if_pos (by omega)]; refine ⟨rfl, ?_⟩; unfold fSt1; have y0 := zY_o t0.1 e2 (by unfold zDm zDe; omega); rw [if_neg (by omega), if_neg (by omega), if_neg (by omega), if_pos (by omega)]; have y1 := zY_w (k := 4) (u := p3) y0 e27 (by decide) rfl (by omega) (by omega) (by omega) (by omega); have y2 := zY_o y1 e31 (by unfold zDm zDe; omega); exact xL_0 t0 y2 (zwr_v e31) (((zwr_r e31 (by first | decide | exact (absurd ·.1 (by decide)) | exact (absurd ·.2 (by decide)) | omega)).trans (zwr_r e27 (by first | decide | exact (absurd ·.1 (by decide)) | exact (absurd ·.2 (by decide)) | omega))).trans (zwr_r e2 (by first | decide | exact (absurd ·.1 (by decide)) | exact (absurd ·.2 (by decide)) | omega))) (fun b9 => (((zwr_r e31 (by first | decide | exact (absurd ·.1 (by decide)) | exact (absurd ·.2 (by decide)) | omega)).trans (zwr_r e27 (by first | decide | exact (absurd ·.1 (by decide)) | exact (absurd ·.2 (by decide)) | omega))).trans (zwr_r e2 (by first | decide | exact (absurd ·.1 (by decide)) | exact (absurd ·.2 (by decide)) | omega)))))⟩
              · exact absurd c28 (by omega)
          · refine zj_aload_n (zdk ttX11_set 29 rfl rfl) rfl (by decide) ?_
            refine zj_getr (r := 1) (zdk ttX11_set 30 rfl rfl) zf_RX11_7 rfl (k_M s3) (rfM_1 s3) ?_
            refine zj_iconst (zdk ttX11_set 31 rfl rfl) ?_
            refine zj_iload_n (zdk ttX11_set 32 rfl rfl) rfl ?_
            refine zj_iast (zdk ttX11_set 33 rfl rfl) (kaM_1 s3) (by decide) (by omega) (fun h36 e37 => ?_)
            refine zj_iload_n (zdk ttX11_set 34 rfl rfl) rfl ?_
            refine zj_iconst (zdk ttX11_set 35 rfl rfl) ?_
            refine zj_icmp_ne (t := 64) (zdk ttX11_set 36 rfl rfl) (by decide) (by omega) (by decide) (fun c38 => ?_) (fun c38 => ?_)
            · refine zj_iload_n (zdk ttX11_set 42 rfl rfl) rfl ?_
              refine zj_iconst (zdk ttX11_set 43 rfl rfl) ?_
              refine zj_icmp_ne (t := 77) (zdk ttX11_set 44 rfl rfl) (by decide) (by omega) (by decide) (fun c39 => ?_) (fun c39 => ?_)
              · refine zj_aload_n (zdk ttX11_set 50 rfl rfl) rfl (by decide) ?_
                refine zj_iconst (zdk ttX11_set 51 rfl rfl) ?_
                have s40 : okM h36 := okM_wr s3 e37 (by decide) (by omega) (by omega)
                refine zj_puti (zdk ttX11_set 52 rfl rfl) zf_RX11_123 rfl (k_M s40) (Or.inl zw_RX11_123) (k2 := 3) rfl (fun h41 e42 => ?_)
                refine zj_iconst (zdk ttX11_set 53 rfl rfl) ?_
                have s43 : okM h41 := fwM_3 s40 e42 (by omega)
                have f46 : zfr [0, 3] [1, 4, 5] h h1 := zfr_wf (zfr_r _ _ _) e2 rfl
                have f45 : zfr [0, 3] [1, 4, 5] h h36 := zfr_wa f46 e37 rfl
                have f44 : zfr [0, 3] [1, 4, 5] h h41 := zfr_wf f45 e42 rfl
                exact zj_zret rfl (zdk ttX11_set 54 rfl rfl) (Nat.le_refl _) (Nat.le_refl _) (by omega) ⟨1, rfl, by omega, s43, f44, (by intro z t0; have g0 := xL_g t0; have n1 : h1.2 0 6 = h.2 0 6 := zwr_r e2 (by first | decide | exact (absurd ·.1 (by decide)) | exact (absurd ·.2 (by decide)) | omega); unfold pSet; rw [if_pos (by omega)]; refine ⟨rfl, ?_⟩; unfold fSt1; have y0 := zY_o t0.1 e2 (by unfold zDm zDe; omega); rw [if_neg (by omega), if_neg (by omega), if_pos (by omega)]; have y1 := zY_w (k := 3) (u := p3) y0 e37 (by decide) rfl (by omega) (by omega) (by omega) (by omega); have y2 := zY_o y1 e42 (by unfold zDm zDe; omega); exact xL_0 t0 y2 (zwr_v e42) (((zwr_r e42 (by first | decide | exact (absurd ·.1 (by decide)) | exact (absurd ·.2 (by decide)) | omega)).trans (zwr_r e37 (by first | decide | exact (absurd ·.1 (by decide)) | exact (absurd ·.2 (by decide)) | omega))).trans (zwr_r e2 (by first | decide | exact (absurd ·.1 (by decide)) | exact (absurd ·.2 (by decide)) | omega))) (fun b9 => (((zwr_r e42 (by first | decide | exact (absurd ·.1 (by decide)) | exact (absurd ·.2 (by decide)) | omega)).trans (zwr_r e37 (by first | decide | exact (absurd ·.1 (by decide)) | exact (absurd ·.2 (by decide)) | omega))).trans (zwr_r e2 (by first | decide | exact (absurd ·.1 (by decide)) | exact (absurd ·.2 (by decide)) | omega)))))⟩
              · exact absurd c39 (by omega)
            · exact absurd c38 (by omega)
        · refine zj_aload_n (zdk ttX11_set 21 rfl rfl) rfl (by decide) ?_
          refine zj_getr (r := 5) (zdk ttX11_set 22 rfl rfl) zf_RX11_22 rfl (k_M s3) (rfM_8 s3) ?_
          refine zj_iload_n (zdk ttX11_set 23 rfl rfl) rfl ?_
          refine zj_iload_n (zdk ttX11_set 24 rfl rfl) rfl ?_
          refine zj_iast (zdk ttX11_set 25 rfl rfl) (kaM_5 s3) (by decide) (by omega) (fun h47 e48 => ?_)
          refine zj_iload_n (zdk ttX11_set 26 rfl rfl) rfl ?_
          refine zj_iconst (zdk ttX11_set 27 rfl rfl) ?_
          refine zj_icmp_ne (t := 52) (zdk ttX11_set 28 rfl rfl) (by decide) (by omega) (by decide) (fun c49 => ?_) (fun c49 => ?_)
          · refine zj_iload_n (zdk ttX11_set 34 rfl rfl) rfl ?_
            refine zj_iconst (zdk ttX11_set 35 rfl rfl) ?_
            refine zj_icmp_ne (t := 64) (zdk ttX11_set 36 rfl rfl) (by decide) (by omega) (by decide) (fun c50 => ?_) (fun c50 => ?_)
            · refine zj_iload_n (zdk ttX11_set 42 rfl rfl) rfl ?_
              refine zj_iconst (zdk ttX11_set 43 rfl rfl) ?_
              refine zj_icmp_ne (t := 77) (zdk ttX11_set 44 rfl rfl) (by decide) (by omega) (by decide) (fun c51 => ?_) (fun c51 => ?_)
              · refine zj_aload_n (zdk ttX11_set 50 rfl rfl) rfl (by decide) ?_
                refine zj_iconst (zdk ttX11_set 51 rfl rfl) ?_
                have s52 : okM h47 := awM_5 s3 e48 (by omega) (by unfold nsp; omega)
                refine zj_puti (zdk ttX11_set 52 rfl rfl) zf_RX11_123 rfl (k_M s52) (Or.inl zw_RX11_123) (k2 := 3) rfl (fun h53 e54 => ?_)
                refine zj_iconst (zdk ttX11_set 53 rfl rfl) ?_
                have s55 : okM h53 := fwM_3 s52 e54 (by omega)
                have f58 : zfr [0, 3] [1, 4, 5] h h1 := zfr_wf (zfr_r _ _ _) e2 rfl
                have f57 : zfr [0, 3] [1, 4, 5] h h47 := zfr_wa f58 e48 rfl
                have f56 : zfr [0, 3] [1, 4, 5] h h53 := zfr_wf f57 e54 rfl
                exact zj_zret rfl (zdk ttX11_set 54 rfl rfl) (Nat.le_refl _) (Nat.le_refl _) (by omega) ⟨1, rfl, by omega, s55, f56, (by intro z t0; have g0 := xL_g t0; have n1 : h1.2 0 6 = h.2 0 6 := zwr_r e2 (by first | decide | exact (absurd ·.1 (by decide)) | exact (absurd ·.2 (by decide)) | omega); unfold pSet; rw [if_pos (by omega)]; refine ⟨rfl, ?_⟩; unfold fSt1; have y0 := zY_o t0.1 e2 (by unfold zDm zDe; omega); rw [if_neg (by omega), if_pos (by omega)]; have y1 := zY_lg y0 e48 (by omega); have y2 := zY_o y1 e54 (by unfold zDm zDe; omega); exact xL_0 t0 y2 (zwr_v e54) (((zwr_r e54 (by first | decide | exact (absurd ·.1 (by decide)) | exact (absurd ·.2 (by decide)) | omega)).trans (zwr_r e48 (by first | decide | exact (absurd ·.1 (by decide)) | exact (absurd ·.2 (by decide)) | omega))).trans (zwr_r e2 (by first | decide | exact (absurd ·.1 (by decide)) | exact (absurd ·.2 (by decide)) | omega))) (fun b9 => (((zwr_r e54 (by first | decide | exact (absurd ·.1 (by decide)) | exact (absurd ·.2 (by decide)) | omega)).trans (zwr_r e48 (by first | decide | exact (absurd ·.1 (by decide)) | exact (absurd ·.2 (by decide)) | omega))).trans (zwr_r e2 (by first | decide | exact (absurd ·.1 (by decide)) | exact (absurd ·.2 (by decide)) | omega)))))⟩
              · exact absurd c51 (by omega)
            · exact absurd c50 (by omega)
          · exact absurd c49 (by omega)
      · refine zj_aload_n (zdk ttX11_set 13 rfl rfl) rfl (by decide) ?_
        refine zj_getr (r := 4) (zdk ttX11_set 14 rfl rfl) zf_RX11_19 rfl (k_M s3) (rfM_7 s3) ?_
        refine zj_iload_n (zdk ttX11_set 15 rfl rfl) rfl ?_
        refine zj_iload_n (zdk ttX11_set 16 rfl rfl) rfl ?_
        refine zj_iast (zdk ttX11_set 17 rfl rfl) (kaM_4 s3) (by decide) (by omega) (fun h59 e60 => ?_)
        refine zj_iload_n (zdk ttX11_set 18 rfl rfl) rfl ?_
        refine zj_iconst (zdk ttX11_set 19 rfl rfl) ?_
        refine zj_icmp_ne (t := 40) (zdk ttX11_set 20 rfl rfl) (by decide) (by omega) (by decide) (fun c61 => ?_) (fun c61 => ?_)
        · refine zj_iload_n (zdk ttX11_set 26 rfl rfl) rfl ?_
          refine zj_iconst (zdk ttX11_set 27 rfl rfl) ?_
          refine zj_icmp_ne (t := 52) (zdk ttX11_set 28 rfl rfl) (by decide) (by omega) (by decide) (fun c62 => ?_) (fun c62 => ?_)
          · refine zj_iload_n (zdk ttX11_set 34 rfl rfl) rfl ?_
            refine zj_iconst (zdk ttX11_set 35 rfl rfl) ?_
            refine zj_icmp_ne (t := 64) (zdk ttX11_set 36 rfl rfl) (by decide) (by omega) (by decide) (fun c63 => ?_) (fun c63 => ?_)
            · refine zj_iload_n (zdk ttX11_set 42 rfl rfl) rfl ?_
              refine zj_iconst (zdk ttX11_set 43 rfl rfl) ?_
              refine zj_icmp_ne (t := 77) (zdk ttX11_set 44 rfl rfl) (by decide) (by omega) (by decide) (fun c64 => ?_) (fun c64 => ?_)
              · refine zj_aload_n (zdk ttX11_set 50 rfl rfl) rfl (by decide) ?_
                refine zj_iconst (zdk ttX11_set 51 rfl rfl) ?_
                have s65 : okM h59 := awM_4 s3 e60 (by omega) (by unfold nsp; omega)
                refine zj_puti (zdk ttX11_set 52 rfl rfl) zf_RX11_123 rfl (k_M s65) (Or.inl zw_RX11_123) (k2 := 3) rfl (fun h66 e67 => ?_)
                refine zj_iconst (zdk ttX11_set 53 rfl rfl) ?_
                have s68 : okM h66 := fwM_3 s65 e67 (by omega)
                have f71 : zfr [0, 3] [1, 4, 5] h h1 := zfr_wf (zfr_r _ _ _) e2 rfl
                have f70 : zfr [0, 3] [1, 4, 5] h h59 := zfr_wa f71 e60 rfl
                have f69 : zfr [0, 3] [1, 4, 5] h h66 := zfr_wf f70 e67 rfl
                exact zj_zret rfl (zdk ttX11_set 54 rfl rfl) (Nat.le_refl _) (Nat.le_refl _) (by omega) ⟨1, rfl, by omega, s68, f69, (by intro z t0; have g0 := xL_g t0; have n1 : h1.2 0 6 = h.2 0 6 := zwr_r e2 (by first | decide | exact (absurd ·.1 (by decide)) | exact (absurd ·.2 (by decide)) | omega); unfold pSet; rw [if_pos (by omega)]; refine ⟨rfl, ?_⟩; unfold fSt1; have y0 := zY_o t0.1 e2 (by unfold zDm zDe; omega); rw [if_pos (by omega)]; have y1 := zY_wt y0 e60 (by omega); have y2 := zY_o y1 e67 (by unfold zDm zDe; omega); exact xL_0 t0 y2 (zwr_v e67) (((zwr_r e67 (by first | decide | exact (absurd ·.1 (by decide)) | exact (absurd ·.2 (by decide)) | omega)).trans (zwr_r e60 (by first | decide | exact (absurd ·.1 (by decide)) | exact (absurd ·.2 (by decide)) | omega))).trans (zwr_r e2 (by first | decide | exact (absurd ·.1 (by decide)) | exact (absurd ·.2 (by decide)) | omega))) (fun b9 => (((zwr_r e67 (by first | decide | exact (absurd ·.1 (by decide)) | exact (absurd ·.2 (by decide)) | omega)).trans (zwr_r e60 (by first | decide | exact (absurd ·.1 (by decide)) | exact (absurd ·.2 (by decide)) | omega))).trans (zwr_r e2 (by first | decide | exact (absurd ·.1 (by decide)) | exact (absurd ·.2 (by decide)) | omega)))))⟩
              · exact absurd c64 (by omega)
            · exact absurd c63 (by omega)
          · exact absurd c62 (by omega)
        · exact absurd c61 (by omega)
    · exact absurd c11 (by omega)

abbrev q2_X11_act (h : zM) (p1 : Int) (p2 : Int) : Option zV → zM → Prop := zqi fun v h' => (0 ≤ v ∧ v ≤ 1) ∧ okM h' ∧ zfr [0, 3] [1, 2, 6, 20, 21] h h' ∧ (∀ z, xL h z → v = (pAct p1 p2 z).1 ∧ xL h' (pAct p1 p2 z).2)
set_option maxRecDepth 100000 in
set_option maxHeartbeats 4000000 in
theorem s2_X11_act (l : Launch) (h : zM) (p1 : Int) (p2 : Int) (s0 : okM h) (b_p1 : (-2147483648) ≤ p1 ∧ p1 ≤ 2147483647) (b_p2 : (-2147483648) ≤ p2 ∧ p2 ≤ 2147483647) : zT shM l yX11_act cX11_act 3 (some .boolean) (rmL 7) 0 0 [.inr 0, .inl p1, .inl p2] h (q2_X11_act h p1 p2) := by
  refine zT_of (by decide +kernel) (L0 := [some (.inr 0), some (.inl p1), some (.inl p2)]) rfl (Nat.le_of_ble_eq_true rfl) ?_
  refine zj_aload_n (zdk ttX11_act 0 rfl rfl) rfl (by decide) ?_
  refine zj_iconst (zdk ttX11_act 1 rfl rfl) ?_
  refine zj_puti (zdk ttX11_act 2 rfl rfl) zf_RX11_120 rfl (k_M s0) (Or.inl zw_RX11_120) (k2 := 0) rfl (fun h1 e2 => ?_)
  refine zj_aload_n (zdk ttX11_act 3 rfl rfl) rfl (by decide) ?_
  refine zj_iload_n (zdk ttX11_act 4 rfl rfl) rfl ?_
  refine zj_iload_n (zdk ttX11_act 5 rfl rfl) rfl ?_
  have s3 : okM h1 := fwM_0 s0 e2 (by omega)
  refine zj_callV (av := [.inl p1, .inl p2]) (st := []) (zdk ttX11_act 6 rfl rfl) mb_X11_canAct mv_RX11_341 (ci := 11) rfl rfl (k_M s3) rfl rfl (Nat.le_of_ble_eq_true rfl) (s_X11_canAct l h1 p1 p2 s3 (by omega) (by omega)) (rm_ok (by decide) (by decide)) (zq_i fun v5 h6 q4 => ?_)
  obtain ⟨rfl, b8, ⟨rfl, b7⟩ | ⟨rfl, b7⟩⟩ := q4
  · refine zj_if_ne (t := 16) (zdk ttX11_act 7 rfl rfl) (by decide) (by decide) (fun c9 => ?_) (fun c9 => ?_)
    · exact absurd c9 (by omega)
    · refine zj_iconst (zdk ttX11_act 8 rfl rfl) ?_
      have f10 : zfr [0, 3] [1, 2, 6, 20, 21] h h1 := zfr_wf (zfr_r _ _ _) e2 rfl
      exact zj_zret rfl (zdk ttX11_act 9 rfl rfl) (Nat.le_refl _) (Nat.le_refl _) (by omega) ⟨0, rfl, by omega, s3, f10, (by intro z t0; have g0 := xL_g t0; have n1 : h1.2 0 6 = h.2 0 6 := zwr_r e2 (by first | decide | exact (absurd ·.1 (by decide)) | exact (absurd ·.2 (by decide)) | omega); have n2 : h1.2 1 (9 + p2) = h.2 1 (9 + p2) := zwr_r e2 (by first | decide | exact (absurd ·.1 (by decide)) | exact (absurd ·.2 (by decide)) | omega); have n3 : h1.2 1 (27 + p2) = h.2 1 (27 + p2) := zwr_r e2 (by first | decide | exact (absurd ·.1 (by decide)) | exact (absurd ·.2 (by decide)) | omega); unfold pAct; rw [if_neg (fun q9 => by have i0 := q9.1; have r8 := xL_r t0 (k := 9 + p2) (by omega) (by omega); have r9 := xL_r t0 (k := 27 + p2) (by omega) (by omega); have w7 := t0.1.2.1.2.2.1 p2 (by omega) (by omega); omega)]; exact ⟨rfl, (xL_f t0 (fun a9 b9 y9 => (zwr_r e2 (by unfold zDm zDe at y9; omega))) (zwr_r e2 (by first | decide | exact (absurd ·.1 (by decide)) | exact (absurd ·.2 (by decide)) | omega)) (zwr_r e2 (by first | decide | exact (absurd ·.1 (by decide)) | exact (absurd ·.2 (by decide)) | omega)) (fun b9 => (zwr_r e2 (by first | decide | exact (absurd ·.1 (by decide)) | exact (absurd ·.2 (by decide)) | omega))) (fun b9 => (zwr_r e2 (by first | decide | exact (absurd ·.1 (by decide)) | exact (absurd ·.2 (by decide)) | omega))))⟩)⟩
  · refine zj_if_ne (t := 16) (zdk ttX11_act 7 rfl rfl) (by decide) (by decide) (fun c11 => ?_) (fun c11 => ?_)
    · refine zj_aload_n (zdk ttX11_act 10 rfl rfl) rfl (by decide) ?_
      refine zj_callV (av := []) (st := []) (zdk ttX11_act 11 rfl rfl) mb_X11_keepsAhead mv_RX11_344 (ci := 11) rfl rfl (k_M s3) rfl rfl (Nat.le_of_ble_eq_true rfl) (s2_X11_keepsAhead l h1 s3) (rm_ok (by decide) (by decide)) (zq_v fun h14 q12 => ?_)
      obtain ⟨s16, f18, u17⟩ := q12
      refine zj_iload_n (zdk ttX11_act 12 rfl rfl) rfl ?_
      refine zj_if_ne (t := 29) (zdk ttX11_act 13 rfl rfl) (by decide) (by omega) (fun c19 => ?_) (fun c19 => ?_)
      · refine zj_iload_n (zdk ttX11_act 17 rfl rfl) rfl ?_
        refine zj_iconst (zdk ttX11_act 18 rfl rfl) ?_
        refine zj_icmp_ne (t := 39) (zdk ttX11_act 19 rfl rfl) (by decide) (by omega) (by decide) (fun c20 => ?_) (fun c20 => ?_)
        · refine zj_iload_n (zdk ttX11_act 23 rfl rfl) rfl ?_
          refine zj_iconst (zdk ttX11_act 24 rfl rfl) ?_
          refine zj_icmp_le (t := 63) (zdk ttX11_act 25 rfl rfl) (by decide) (by omega) (by decide) (fun c21 => ?_) (fun c21 => ?_)
          · exact absurd c21 (by omega)
          · refine zj_aload_n (zdk ttX11_act 26 rfl rfl) rfl (by decide) ?_
            refine zj_getr (r := 1) (zdk ttX11_act 27 rfl rfl) zf_RX11_7 rfl (k_M s16) (rfM_1 s16) ?_
            refine zj_bipush (zdk ttX11_act 28 rfl rfl) (by decide) ?_
            refine zj_iload_n (zdk ttX11_act 29 rfl rfl) rfl ?_
            refine zj_iadd (zdk ttX11_act 30 rfl rfl) ?_
            refine zj_iload_n (zdk ttX11_act 31 rfl rfl) rfl ?_
            refine zj_iconst (zdk ttX11_act 32 rfl rfl) ?_
            refine zj_icmp_ne (t := 61) (zdk ttX11_act 33 rfl rfl) (by decide) (by omega) (by decide) (fun c22 => ?_) (fun c22 => ?_)
            · refine zj_iconst (zdk ttX11_act 36 rfl rfl) ?_
              refine zj_iast (zdk ttX11_act 37 rfl rfl) (kaM_1 s16) (by decide) (by omega) (fun h23 e24 => ?_)
              refine zj_iconst (zdk ttX11_act 38 rfl rfl) ?_
              have s25 : okM h23 := okM_wr s16 e24 (by decide) (by omega) (by omega)
              have f28 : zfr [0, 3] [1, 2, 6, 20, 21] h h1 := zfr_wf (zfr_r _ _ _) e2 rfl
              have f27 : zfr [0, 3] [1, 2, 6, 20, 21] h h14 := zfr_t f28 f18 rfl rfl
              have f26 : zfr [0, 3] [1, 2, 6, 20, 21] h h23 := zfr_wa f27 e24 rfl
              exact zj_zret rfl (zdk ttX11_act 39 rfl rfl) (Nat.le_refl _) (Nat.le_refl _) (by omega) ⟨1, rfl, by omega, s25, f26, (by intro z t0; have g0 := xL_g t0; have n1 : h1.2 0 6 = h.2 0 6 := zwr_r e2 (by first | decide | exact (absurd ·.1 (by decide)) | exact (absurd ·.2 (by decide)) | omega); have n2 : h1.2 1 (9 + p2) = h.2 1 (9 + p2) := zwr_r e2 (by first | decide | exact (absurd ·.1 (by decide)) | exact (absurd ·.2 (by decide)) | omega); have n3 : h1.2 1 (27 + p2) = h.2 1 (27 + p2) := zwr_r e2 (by first | decide | exact (absurd ·.1 (by decide)) | exact (absurd ·.2 (by decide)) | omega); unfold pAct; have r8 := xL_r t0 (k := 9 + p2) (by omega) (by omega); have r9 := xL_r t0 (k := 27 + p2) (by omega) (by omega); have w7 := t0.1.2.1.2.2.1 p2 (by omega) (by omega); rw [if_pos (by omega)]; have y0 := zY_o t0.1 e2 (by unfold zDm zDe; omega); have q0 := u17 z.u z.q z.x.1 (xQ_f t0.2.1 (zwr_r e2 (by first | decide | exact (absurd ·.1 (by decide)) | exact (absurd ·.2 (by decide)) | omega)) (fun b9 => zwr_r e2 (by first | decide | exact (absurd ·.1 (by decide)) | exact (absurd ·.2 (by decide)) | omega))) t0.1.2.1 (fun k9 a9 b9 => (zwr_r e2 (by first | decide | exact (absurd ·.1 (by decide)) | exact (absurd ·.2 (by decide)) | omega)).trans (xL_r t0 a9 b9)); have y1 := zY_fr y0 f18 rfl; refine ⟨rfl, ?_⟩; have ac : fAc p1 p2 z = (fup z.x.1 (27 + p2) 0, z.x.2) := (by unfold fAc; rw [if_neg (by omega), if_neg (by omega), if_neg (by omega)]); rw [ac]; have y2 := zY_w (k := 27 + p2) (u := 0) y1 e24 (by omega) rfl (by omega) (by omega) (by omega) (by omega); exact xL_k t0 q0 y2 (zwr_r e24 (by first | decide | exact (absurd ·.1 (by decide)) | exact (absurd ·.2 (by decide)) | omega)) (fun b9 => (zwr_r e24 (by first | decide | exact (absurd ·.1 (by decide)) | exact (absurd ·.2 (by decide)) | omega))) (((zwr_r e24 (by first | decide | exact (absurd ·.1 (by decide)) | exact (absurd ·.2 (by decide)) | omega)).trans (zfr_f f18 rfl rfl)).trans (zwr_r e2 (by first | decide | exact (absurd ·.1 (by decide)) | exact (absurd ·.2 (by decide)) | omega))) (fun b9 => (((zwr_r e24 (by first | decide | exact (absurd ·.1 (by decide)) | exact (absurd ·.2 (by decide)) | omega)).trans (zfr_a f18 rfl (by decide))).trans (zwr_r e2 (by first | decide | exact (absurd ·.1 (by decide)) | exact (absurd ·.2 (by decide)) | omega)))))⟩
            · refine zj_iconst (zdk ttX11_act 34 rfl rfl) ?_
              refine zj_goto (t := 62) (zdk ttX11_act 35 rfl rfl) (by decide) ?_
              refine zj_iast (zdk ttX11_act 37 rfl rfl) (kaM_1 s16) (by decide) (by omega) (fun h29 e30 => ?_)
              refine zj_iconst (zdk ttX11_act 38 rfl rfl) ?_
              have s31 : okM h29 := okM_wr s16 e30 (by decide) (by omega) (by omega)
              have f34 : zfr [0, 3] [1, 2, 6, 20, 21] h h1 := zfr_wf (zfr_r _ _ _) e2 rfl
              have f33 : zfr [0, 3] [1, 2, 6, 20, 21] h h14 := zfr_t f34 f18 rfl rfl
              have f32 : zfr [0, 3] [1, 2, 6, 20, 21] h h29 := zfr_wa f33 e30 rfl
              exact zj_zret rfl (zdk ttX11_act 39 rfl rfl) (Nat.le_refl _) (Nat.le_refl _) (by omega) ⟨1, rfl, by omega, s31, f32, (by intro z t0; have g0 := xL_g t0; have n1 : h1.2 0 6 = h.2 0 6 := zwr_r e2 (by first | decide | exact (absurd ·.1 (by decide)) | exact (absurd ·.2 (by decide)) | omega); have n2 : h1.2 1 (9 + p2) = h.2 1 (9 + p2) := zwr_r e2 (by first | decide | exact (absurd ·.1 (by decide)) | exact (absurd ·.2 (by decide)) | omega); have n3 : h1.2 1 (27 + p2) = h.2 1 (27 + p2) := zwr_r e2 (by first | decide | exact (absurd ·.1 (by decide)) | exact (absurd ·.2 (by decide)) | omega); unfold pAct; have r8 := xL_r t0 (k := 9 + p2) (by omega) (by omega); have r9 := xL_r t0 (k := 27 + p2) (by omega) (by omega); have w7 := t0.1.2.1.2.2.1 p2 (by omega) (by omega); rw [if_pos (by omega)]; have y0 := zY_o t0.1 e2 (by unfold zDm zDe; omega); have q0 := u17 z.u z.q z.x.1 (xQ_f t0.2.1 (zwr_r e2 (by first | decide | exact (absurd ·.1 (by decide)) | exact (absurd ·.2 (by decide)) | omega)) (fun b9 => zwr_r e2 (by first | decide | exact (absurd ·.1 (by decide)) | exact (absurd ·.2 (by decide)) | omega))) t0.1.2.1 (fun k9 a9 b9 => (zwr_r e2 (by first | decide | exact (absurd ·.1 (by decide)) | exact (absurd ·.2 (by decide)) | omega)).trans (xL_r t0 a9 b9)); have y1 := zY_fr y0 f18 rfl; refine ⟨rfl, ?_⟩; have ac : fAc p1 p2 z = (fup z.x.1 (27 + p2) 1, z.x.2) := (by unfold fAc; rw [if_neg (by omega), if_neg (by omega), if_pos (by omega)]); rw [ac]; have y2 := zY_w (k := 27 + p2) (u := 1) y1 e30 (by omega) rfl (by omega) (by omega) (by omega) (by omega); exact xL_k t0 q0 y2 (zwr_r e30 (by first | decide | exact (absurd ·.1 (by decide)) | exact (absurd ·.2 (by decide)) | omega)) (fun b9 => (zwr_r e30 (by first | decide | exact (absurd ·.1 (by decide)) | exact (absurd ·.2 (by decide)) | omega))) (((zwr_r e30 (by first | decide | exact (absurd ·.1 (by decide)) | exact (absurd ·.2 (by decide)) | omega)).trans (zfr_f f18 rfl rfl)).trans (zwr_r e2 (by first | decide | exact (absurd ·.1 (by decide)) | exact (absurd ·.2 (by decide)) | omega))) (fun b9 => (((zwr_r e30 (by first | decide | exact (absurd ·.1 (by decide)) | exact (absurd ·.2 (by decide)) | omega)).trans (zfr_a f18 rfl (by decide))).trans (zwr_r e2 (by first | decide | exact (absurd ·.1 (by decide)) | exact (absurd ·.2 (by decide)) | omega)))))⟩
        · refine zj_aload_n (zdk ttX11_act 20 rfl rfl) rfl (by decide) ?_
          refine zj_iload_n (zdk ttX11_act 21 rfl rfl) rfl ?_
          refine zj_callV (av := [.inl p2]) (st := []) (zdk ttX11_act 22 rfl rfl) mb_X11_comesBack mv_RX11_350 (ci := 11) rfl rfl (k_M s16) rfl rfl (Nat.le_of_ble_eq_true rfl) (s2_X11_comesBack l h14 p2 s16 (by omega)) (rm_ok (by decide) (by decide)) (zq_v fun h37 q35 => ?_)
          obtain ⟨s39, f41, u40⟩ := q35
          refine zj_iload_n (zdk ttX11_act 23 rfl rfl) rfl ?_
          refine zj_iconst (zdk ttX11_act 24 rfl rfl) ?_
          refine zj_icmp_le (t := 63) (zdk ttX11_act 25 rfl rfl) (by decide) (by omega) (by decide) (fun c42 => ?_) (fun c42 => ?_)
          · refine zj_iconst (zdk ttX11_act 38 rfl rfl) ?_
            have f45 : zfr [0, 3] [1, 2, 6, 20, 21] h h1 := zfr_wf (zfr_r _ _ _) e2 rfl
            have f44 : zfr [0, 3] [1, 2, 6, 20, 21] h h14 := zfr_t f45 f18 rfl rfl
            have f43 : zfr [0, 3] [1, 2, 6, 20, 21] h h37 := zfr_t f44 f41 rfl rfl
            exact zj_zret rfl (zdk ttX11_act 39 rfl rfl) (Nat.le_refl _) (Nat.le_refl _) (by omega) ⟨1, rfl, by omega, s39, f43, (by intro z t0; have g0 := xL_g t0; have n1 : h1.2 0 6 = h.2 0 6 := zwr_r e2 (by first | decide | exact (absurd ·.1 (by decide)) | exact (absurd ·.2 (by decide)) | omega); have n2 : h1.2 1 (9 + p2) = h.2 1 (9 + p2) := zwr_r e2 (by first | decide | exact (absurd ·.1 (by decide)) | exact (absurd ·.2 (by decide)) | omega); have n3 : h1.2 1 (27 + p2) = h.2 1 (27 + p2) := zwr_r e2 (by first | decide | exact (absurd ·.1 (by decide)) | exact (absurd ·.2 (by decide)) | omega); unfold pAct; have r8 := xL_r t0 (k := 9 + p2) (by omega) (by omega); have r9 := xL_r t0 (k := 27 + p2) (by omega) (by omega); have w7 := t0.1.2.1.2.2.1 p2 (by omega) (by omega); rw [if_pos (by omega)]; have y0 := zY_o t0.1 e2 (by unfold zDm zDe; omega); have q0 := u17 z.u z.q z.x.1 (xQ_f t0.2.1 (zwr_r e2 (by first | decide | exact (absurd ·.1 (by decide)) | exact (absurd ·.2 (by decide)) | omega)) (fun b9 => zwr_r e2 (by first | decide | exact (absurd ·.1 (by decide)) | exact (absurd ·.2 (by decide)) | omega))) t0.1.2.1 (fun k9 a9 b9 => (zwr_r e2 (by first | decide | exact (absurd ·.1 (by decide)) | exact (absurd ·.2 (by decide)) | omega)).trans (xL_r t0 a9 b9)); have y1 := zY_fr y0 f18 rfl; refine ⟨rfl, ?_⟩; have ac : fAc p1 p2 z = fBk z.e false p2 z.x := (by unfold fAc; rw [if_neg (by omega), if_pos (by omega)]); rw [ac]; have y2 := u40 z.e false z.x y1 (by omega); exact xL_k t0 q0 y2 (zfr_f f41 rfl rfl) (fun b9 => (zfr_a f41 rfl (by decide))) (((zfr_f f41 rfl rfl).trans (zfr_f f18 rfl rfl)).trans (zwr_r e2 (by first | decide | exact (absurd ·.1 (by decide)) | exact (absurd ·.2 (by decide)) | omega))) (fun b9 => (((zfr_a f41 rfl (by decide)).trans (zfr_a f18 rfl (by decide))).trans (zwr_r e2 (by first | decide | exact (absurd ·.1 (by decide)) | exact (absurd ·.2 (by decide)) | omega)))))⟩
          · exact absurd c42 (by omega)
      · refine zj_aload_n (zdk ttX11_act 14 rfl rfl) rfl (by decide) ?_
        refine zj_iload_n (zdk ttX11_act 15 rfl rfl) rfl ?_
        refine zj_callV (av := [.inl p2]) (st := []) (zdk ttX11_act 16 rfl rfl) mb_X11_goesAboard mv_RX11_347 (ci := 11) rfl rfl (k_M s16) rfl rfl (Nat.le_of_ble_eq_true rfl) (s2_X11_goesAboard l h14 p2 s16 (by omega)) (rm_ok (by decide) (by decide)) (zq_v fun h48 q46 => ?_)
        obtain ⟨s50, f52, u51⟩ := q46
        refine zj_iload_n (zdk ttX11_act 17 rfl rfl) rfl ?_
        refine zj_iconst (zdk ttX11_act 18 rfl rfl) ?_
        refine zj_icmp_ne (t := 39) (zdk ttX11_act 19 rfl rfl) (by decide) (by omega) (by decide) (fun c53 => ?_) (fun c53 => ?_)
        · refine zj_iload_n (zdk ttX11_act 23 rfl rfl) rfl ?_
          refine zj_iconst (zdk ttX11_act 24 rfl rfl) ?_
          refine zj_icmp_le (t := 63) (zdk ttX11_act 25 rfl rfl) (by decide) (by omega) (by decide) (fun c54 => ?_) (fun c54 => ?_)
          · refine zj_iconst (zdk ttX11_act 38 rfl rfl) ?_
            have f57 : zfr [0, 3] [1, 2, 6, 20, 21] h h1 := zfr_wf (zfr_r _ _ _) e2 rfl
            have f56 : zfr [0, 3] [1, 2, 6, 20, 21] h h14 := zfr_t f57 f18 rfl rfl
            have f55 : zfr [0, 3] [1, 2, 6, 20, 21] h h48 := zfr_t f56 f52 rfl rfl
            exact zj_zret rfl (zdk ttX11_act 39 rfl rfl) (Nat.le_refl _) (Nat.le_refl _) (by omega) ⟨1, rfl, by omega, s50, f55, (by intro z t0; have g0 := xL_g t0; have n1 : h1.2 0 6 = h.2 0 6 := zwr_r e2 (by first | decide | exact (absurd ·.1 (by decide)) | exact (absurd ·.2 (by decide)) | omega); have n2 : h1.2 1 (9 + p2) = h.2 1 (9 + p2) := zwr_r e2 (by first | decide | exact (absurd ·.1 (by decide)) | exact (absurd ·.2 (by decide)) | omega); have n3 : h1.2 1 (27 + p2) = h.2 1 (27 + p2) := zwr_r e2 (by first | decide | exact (absurd ·.1 (by decide)) | exact (absurd ·.2 (by decide)) | omega); unfold pAct; have r8 := xL_r t0 (k := 9 + p2) (by omega) (by omega); have r9 := xL_r t0 (k := 27 + p2) (by omega) (by omega); have w7 := t0.1.2.1.2.2.1 p2 (by omega) (by omega); rw [if_pos (by omega)]; have y0 := zY_o t0.1 e2 (by unfold zDm zDe; omega); have q0 := u17 z.u z.q z.x.1 (xQ_f t0.2.1 (zwr_r e2 (by first | decide | exact (absurd ·.1 (by decide)) | exact (absurd ·.2 (by decide)) | omega)) (fun b9 => zwr_r e2 (by first | decide | exact (absurd ·.1 (by decide)) | exact (absurd ·.2 (by decide)) | omega))) t0.1.2.1 (fun k9 a9 b9 => (zwr_r e2 (by first | decide | exact (absurd ·.1 (by decide)) | exact (absurd ·.2 (by decide)) | omega)).trans (xL_r t0 a9 b9)); have y1 := zY_fr y0 f18 rfl; refine ⟨rfl, ?_⟩; have ac : fAc p1 p2 z = fGo z.e false p2 z.x := if_pos (by omega); rw [ac]; have y2 := u51 z.e false z.x y1 (by omega); exact xL_k t0 q0 y2 (zfr_f f52 rfl rfl) (fun b9 => (zfr_a f52 rfl (by decide))) (((zfr_f f52 rfl rfl).trans (zfr_f f18 rfl rfl)).trans (zwr_r e2 (by first | decide | exact (absurd ·.1 (by decide)) | exact (absurd ·.2 (by decide)) | omega))) (fun b9 => (((zfr_a f52 rfl (by decide)).trans (zfr_a f18 rfl (by decide))).trans (zwr_r e2 (by first | decide | exact (absurd ·.1 (by decide)) | exact (absurd ·.2 (by decide)) | omega)))))⟩
          · exact absurd c54 (by omega)
        · exact absurd c53 (by omega)
    · exact absurd c11 (by omega)

abbrev q2_X11_days (h : zM) (p1 : Int) : Option zV → zM → Prop := zqi fun v h' => ((-2147483648) ≤ v ∧ v ≤ 2147483647) ∧ okM h' ∧ zfr [0, 3] [1, 2, 6, 20, 21] h h' ∧ (∀ z, xL h z → fWz z → v = (pDays p1 z).1 ∧ xL h' (pDays p1 z).2)
set_option maxRecDepth 100000 in
set_option maxHeartbeats 4000000 in
theorem s2_X11_days (l : Launch) (h : zM) (p1 : Int) (s0 : okM h) (b_p1 : (-2147483648) ≤ p1 ∧ p1 ≤ 2147483647) : zT shM l yX11_days cX11_days 4 (some .int) (rmL 9) 0 0 [.inr 0, .inl p1] h (q2_X11_days h p1) := by
  refine zT_of (by decide +kernel) (L0 := [some (.inr 0), some (.inl p1), none, none]) rfl (Nat.le_of_ble_eq_true rfl) ?_
  refine zj_aload_n (zdk ttX11_days 0 rfl rfl) rfl (by decide) ?_
  refine zj_iconst (zdk ttX11_days 1 rfl rfl) ?_
  refine zj_puti (zdk ttX11_days 2 rfl rfl) zf_RX11_120 rfl (k_M s0) (Or.inl zw_RX11_120) (k2 := 0) rfl (fun h1 e2 => ?_)
  refine zj_aload_n (zdk ttX11_days 3 rfl rfl) rfl (by decide) ?_
  refine zj_iload_n (zdk ttX11_days 4 rfl rfl) rfl ?_
  refine zj_iconst (zdk ttX11_days 5 rfl rfl) ?_
  refine zj_bipush (zdk ttX11_days 6 rfl rfl) (by decide) ?_
  have s3 : okM h1 := fwM_0 s0 e2 (by omega)
  refine zj_callV (av := [.inl p1, .inl 1, .inl 60]) (st := []) (zdk ttX11_days 7 rfl rfl) mb_X11_isIn mv_RX11_139 (ci := 11) rfl rfl (k_M s3) rfl rfl (Nat.le_of_ble_eq_true rfl) (s_X11_isIn l h1 p1 1 60 s3 (by omega) (by omega) (by omega)) (rm_ok (by decide) (by decide)) (zq_i fun v5 h6 q4 => ?_)
  obtain ⟨rfl, ⟨rfl, b7⟩ | ⟨rfl, b7⟩⟩ := q4
  · refine zj_if_eq (t := 30) (zdk ttX11_days 8 rfl rfl) (by decide) (by decide) (fun c8 => ?_) (fun c8 => ?_)
    · refine zj_iconst (zdk ttX11_days 17 rfl rfl) ?_
      have f9 : zfr [0, 3] [1, 2, 6, 20, 21] h h1 := zfr_wf (zfr_r _ _ _) e2 rfl
      exact zj_iret rfl (zdk ttX11_days 18 rfl rfl) (Nat.le_refl _) (Nat.le_refl _) ⟨(-1), rfl, by omega, s3, f9, (by intro z t0 w0; have r0 := xL_r t0 (k := 0) (by decide) (by decide); have w1 := w0.1; have zd : zwp ((h.2 1 0) + p1) = (h.2 1 0) + p1 ∨ ¬ (1 ≤ p1 ∧ p1 ≤ 60) := (by by_cases q9 : 1 ≤ p1 ∧ p1 ≤ 60; exact Or.inl (zwp_s (by omega)); exact Or.inr q9); unfold pDays; rw [if_neg (by omega)]; exact ⟨rfl, (xL_f t0 (fun a9 b9 y9 => (zwr_r e2 (by unfold zDm zDe at y9; omega))) (zwr_r e2 (by first | decide | exact (absurd ·.1 (by decide)) | exact (absurd ·.2 (by decide)) | omega)) (zwr_r e2 (by first | decide | exact (absurd ·.1 (by decide)) | exact (absurd ·.2 (by decide)) | omega)) (fun b9 => (zwr_r e2 (by first | decide | exact (absurd ·.1 (by decide)) | exact (absurd ·.2 (by decide)) | omega))) (fun b9 => (zwr_r e2 (by first | decide | exact (absurd ·.1 (by decide)) | exact (absurd ·.2 (by decide)) | omega))))⟩)⟩
    · exact absurd c8 (by omega)
  · refine zj_if_eq (t := 30) (zdk ttX11_days 8 rfl rfl) (by decide) (by decide) (fun c10 => ?_) (fun c10 => ?_)
    · exact absurd c10 (by omega)
    · refine zj_aload_n (zdk ttX11_days 9 rfl rfl) rfl (by decide) ?_
      refine zj_getr (r := 1) (zdk ttX11_days 10 rfl rfl) zf_RX11_7 rfl (k_M s3) (rfM_1 s3) ?_
      refine zj_iconst (zdk ttX11_days 11 rfl rfl) ?_
      have b12 : -2147483648 ≤ (h.2 1 0) ∧ (h.2 1 0) ≤ 2147483647 := (rM_b s0 1 0 (by omega)).1
      refine zj_iald (v := (h.2 1 0)) (zdk ttX11_days 12 rfl rfl) (kaM_1 s3) (by decide) (by omega) (zwr_r e2 (by first | decide | exact (absurd ·.1 (by decide)) | exact (absurd ·.2 (by decide)) | omega)) ?_
      refine zj_iload_n (zdk ttX11_days 13 rfl rfl) rfl ?_
      refine zj_iadd (zdk ttX11_days 14 rfl rfl) ?_
      refine zj_wrap ?_
      have b13 := zwp_in ((h.2 1 0) + p1)
      refine zj_sipush (zdk ttX11_days 15 rfl rfl) (by decide) ?_
      refine zj_icmp_le (t := 32) (zdk ttX11_days 16 rfl rfl) (by decide) (by omega) (by decide) (fun c14 => ?_) (fun c14 => ?_)
      · refine zj_iconst (zdk ttX11_days 19 rfl rfl) ?_
        refine zj_istore_n (L' := [some (.inr 0), some (.inl p1), some (.inl 0), none]) (zdk ttX11_days 20 rfl rfl) (by decide) rfl ?_
        refine zj_iconst (zdk ttX11_days 21 rfl rfl) ?_
        refine zj_istore_n (L' := [some (.inr 0), some (.inl p1), some (.inl 0), some (.inl 0)]) (zdk ttX11_days 22 rfl rfl) (by decide) rfl ?_
        have lp99 : ∀ (n36 : Nat) (x15 x16 : Int) (h17 : zM), (-2147483648 ≤ x15 ∧ x15 ≤ 2147483647) → (0 ≤ x16 ∧ x16 ≤ 60) → okM h17 → zfr [0, 3] [1, 2, 6, 20, 21] h h17 → (∀ z, xL h z → fWz z → (1 ≤ p1 ∧ p1 ≤ 60) → xL h17 (fDs x16.toNat z) ∧ zwp (z.x.1 5 + x15) = (fDs x16.toNat z).x.1 5) → (x16 ≤ p1) → (61 - x16).toNat < n36 → zJ shM l yX11_days cX11_days 4 (some .int) (rmL 9) 0 0 (q2_X11_days h p1) 0 0 36 [some (.inr 0), some (.inl p1), some (.inl x15), some (.inl x16)] [] h17 := by
          intro n36
          induction n36 with
          | zero => intro x15 x16 h17 b100 b101 s18 f19 u102 u103 m104; exact absurd m104 (Nat.not_lt_zero _)
          | succ n36 ih105 =>
            intro x15 x16 h17 b100 b101 s18 f19 u102 u103 m104
            refine zj_iload_n (zdk ttX11_days 23 rfl rfl) rfl ?_
            refine zj_iload_n (zdk ttX11_days 24 rfl rfl) rfl ?_
            refine zj_icmp_ge (t := 58) (zdk ttX11_days 25 rfl rfl) (by decide) (by omega) (by omega) (fun c106 => ?_) (fun c106 => ?_)
            · refine zj_iload_n (zdk ttX11_days 35 rfl rfl) rfl ?_
              exact zj_iret rfl (zdk ttX11_days 36 rfl rfl) (Nat.le_refl _) (Nat.le_refl _) ⟨x15, rfl, by omega, s18, f19, (by intro z t0 w0; have r0 := xL_r t0 (k := 0) (by decide) (by decide); have w1 := w0.1; have zd : zwp ((h.2 1 0) + p1) = (h.2 1 0) + p1 ∨ ¬ (1 ≤ p1 ∧ p1 ≤ 60) := (by by_cases q9 : 1 ≤ p1 ∧ p1 ≤ 60; exact Or.inl (zwp_s (by omega)); exact Or.inr q9); unfold pDays; rw [if_pos (by omega)]; obtain ⟨tH, sH⟩ := u102 z t0 w0 (by omega); rw [show x16 = p1 by omega] at tH sH; refine ⟨?_, tH⟩; show x15 = zwp ((fDs p1.toNat z).x.1 5 - z.x.1 5); rw [← sH, zwp_m, Int.add_comm, Int.add_sub_cancel]; exact (zwp_id (by unfold zin; omega)).symm)⟩
            · refine zj_aload_n (zdk ttX11_days 26 rfl rfl) rfl (by decide) ?_
              refine zj_callV (av := []) (st := []) (zdk ttX11_days 27 rfl rfl) mb_X11_keepsAhead mv_RX11_344 (ci := 11) rfl rfl (k_M s18) rfl rfl (Nat.le_of_ble_eq_true rfl) (s2_X11_keepsAhead l h17 s18) (rm_ok (by decide) (by decide)) (zq_v fun h109 q107 => ?_)
              obtain ⟨s111, f113, u112⟩ := q107
              refine zj_iload_n (zdk ttX11_days 28 rfl rfl) rfl ?_
              refine zj_aload_n (zdk ttX11_days 29 rfl rfl) rfl (by decide) ?_
              refine zj_callV (av := []) (st := [.inl x15]) (zdk ttX11_days 30 rfl rfl) mb_X11_goesBy mv_RX11_389 (ci := 11) rfl rfl (k_M s111) rfl rfl (Nat.le_of_ble_eq_true rfl) (s2_X11_goesBy l h109 s111) (rm_ok (by decide) (by decide)) (zq_i fun v115 h116 q114 => ?_)
              obtain ⟨b117, s118, f120, u119⟩ := q114
              refine zj_iadd (zdk ttX11_days 31 rfl rfl) ?_
              refine zj_wrap ?_
              have b121 := zwp_in (x15 + v115)
              refine zj_istore_n (L' := [some (.inr 0), some (.inl p1), some (.inl (zwp (x15 + v115))), some (.inl x16)]) (zdk ttX11_days 32 rfl rfl) (by decide) rfl ?_
              refine zj_iinc (L' := [some (.inr 0), some (.inl p1), some (.inl (zwp (x15 + v115))), some (.inl (x16 + 1))]) (zdk ttX11_days 33 rfl rfl) rfl (by decide) rfl ?_
              refine zj_goto (t := 36) (zdk ttX11_days 34 rfl rfl) (by decide) ?_
              have f123 : zfr [0, 3] [1, 2, 6, 20, 21] h h109 := zfr_t f19 f113 rfl rfl
              have f122 : zfr [0, 3] [1, 2, 6, 20, 21] h h116 := zfr_t f123 f120 rfl rfl
              exact ih105  (zwp (x15 + v115)) (x16 + 1) h116 (by omega) (by omega) s118 f122 (by intro z t0 w0 a0; obtain ⟨tH, sH⟩ := u102 z t0 w0 (by omega); have b4 := fDs_4 (B := 2000000000) x16.toNat z t0.1.1 w0.2.1 w0.2.2 (by omega); have q0 := u112 (fDs x16.toNat z).u (fDs x16.toNat z).q (fDs x16.toNat z).x.1 tH.2.1 tH.1.2.1 (fun k9 a9 b9 => xL_r tH a9 b9); have y1 := zY_fr tH.1 f113 rfl; obtain ⟨y2, v2⟩ := u119 (fDs x16.toNat z).e false (fDs x16.toNat z).x y1 (by omega); rw [fDs_n (by omega)]; refine ⟨xL_k tH q0 y2 (zfr_f f120 rfl rfl) (fun b9 => (zfr_a f120 rfl (by decide))) (((zfr_f f120 rfl rfl).trans (zfr_f f113 rfl rfl))) (fun b9 => ((zfr_a f120 rfl (by decide)).trans (zfr_a f113 rfl (by decide)))), ?_⟩; show zwp (z.x.1 5 + (zwp (x15 + v115))) = (fDy (fDs x16.toNat z).e false (fDs x16.toNat z).x).1 5; rw [← v2, ← sH, zwp_a, zwp_r, Int.add_assoc]) (by omega) (by omega)
        have f124 : zfr [0, 3] [1, 2, 6, 20, 21] h h1 := zfr_wf (zfr_r _ _ _) e2 rfl
        exact lp99 _ 0 0 h1 (by omega) (by omega) s3 f124 (by intro z t0 w0 a0; refine ⟨(xL_f t0 (fun a9 b9 y9 => (zwr_r e2 (by unfold zDm zDe at y9; omega))) (zwr_r e2 (by first | decide | exact (absurd ·.1 (by decide)) | exact (absurd ·.2 (by decide)) | omega)) (zwr_r e2 (by first | decide | exact (absurd ·.1 (by decide)) | exact (absurd ·.2 (by decide)) | omega)) (fun b9 => (zwr_r e2 (by first | decide | exact (absurd ·.1 (by decide)) | exact (absurd ·.2 (by decide)) | omega))) (fun b9 => (zwr_r e2 (by first | decide | exact (absurd ·.1 (by decide)) | exact (absurd ·.2 (by decide)) | omega)))), ?_⟩; show zwp (z.x.1 5 + 0) = z.x.1 5; have r5 := xL_r t0 (k := 5) (by decide) (by decide); have pm9 := s0.2.1 1 5; unfold PM at pm9; rw [show z.x.1 5 + 0 = z.x.1 5 by omega, ← r5]; exact zwp_id pm9) (by omega) (Nat.lt_succ_self _)
      · refine zj_iconst (zdk ttX11_days 17 rfl rfl) ?_
        have f125 : zfr [0, 3] [1, 2, 6, 20, 21] h h1 := zfr_wf (zfr_r _ _ _) e2 rfl
        exact zj_iret rfl (zdk ttX11_days 18 rfl rfl) (Nat.le_refl _) (Nat.le_refl _) ⟨(-1), rfl, by omega, s3, f125, (by intro z t0 w0; have r0 := xL_r t0 (k := 0) (by decide) (by decide); have w1 := w0.1; have zd : zwp ((h.2 1 0) + p1) = (h.2 1 0) + p1 ∨ ¬ (1 ≤ p1 ∧ p1 ≤ 60) := (by by_cases q9 : 1 ≤ p1 ∧ p1 ≤ 60; exact Or.inl (zwp_s (by omega)); exact Or.inr q9); unfold pDays; rw [if_neg (by omega)]; exact ⟨rfl, (xL_f t0 (fun a9 b9 y9 => (zwr_r e2 (by unfold zDm zDe at y9; omega))) (zwr_r e2 (by first | decide | exact (absurd ·.1 (by decide)) | exact (absurd ·.2 (by decide)) | omega)) (zwr_r e2 (by first | decide | exact (absurd ·.1 (by decide)) | exact (absurd ·.2 (by decide)) | omega)) (fun b9 => (zwr_r e2 (by first | decide | exact (absurd ·.1 (by decide)) | exact (absurd ·.2 (by decide)) | omega))) (fun b9 => (zwr_r e2 (by first | decide | exact (absurd ·.1 (by decide)) | exact (absurd ·.2 (by decide)) | omega))))⟩)⟩

abbrev q2_X11_undo (h : zM) : Option zV → zM → Prop := zqi fun v h' => (0 ≤ v ∧ v ≤ 1) ∧ okM h' ∧ zfr [0, 3] [1] h h' ∧ (∀ z, xL h z → v = (pUndo z).1 ∧ xL h' (pUndo z).2)
set_option maxRecDepth 100000 in
set_option maxHeartbeats 4000000 in
theorem s2_X11_undo (l : Launch) (h : zM) (s0 : okM h) : zT shM l yX11_undo cX11_undo 2 (some .boolean) (rmL 1) 0 0 [.inr 0] h (q2_X11_undo h) := by
  refine zT_of (by decide +kernel) (L0 := [some (.inr 0), none]) rfl (Nat.le_of_ble_eq_true rfl) ?_
  refine zj_aload_n (zdk ttX11_undo 0 rfl rfl) rfl (by decide) ?_
  refine zj_iconst (zdk ttX11_undo 1 rfl rfl) ?_
  refine zj_puti (zdk ttX11_undo 2 rfl rfl) zf_RX11_120 rfl (k_M s0) (Or.inl zw_RX11_120) (k2 := 0) rfl (fun h1 e2 => ?_)
  refine zj_aload_n (zdk ttX11_undo 3 rfl rfl) rfl (by decide) ?_
  have b3 : 0 ≤ (h.2 0 3) ∧ (h.2 0 3) ≤ 6 := fM_3 s0
  have s4 : okM h1 := fwM_0 s0 e2 (by omega)
  refine zj_geti (v := (h.2 0 3)) (zdk ttX11_undo 4 rfl rfl) zf_RX11_123 rfl (k_M s4) (zwr_r e2 (by first | decide | exact (absurd ·.1 (by decide)) | exact (absurd ·.2 (by decide)) | omega)) ?_
  refine zj_if_ne (t := 14) (zdk ttX11_undo 5 rfl rfl) (by decide) (by omega) (fun c5 => ?_) (fun c5 => ?_)
  · refine zj_aload_n (zdk ttX11_undo 8 rfl rfl) rfl (by decide) ?_
    refine zj_aload_n (zdk ttX11_undo 9 rfl rfl) rfl (by decide) ?_
    refine zj_geti (v := (h.2 0 3)) (zdk ttX11_undo 10 rfl rfl) zf_RX11_123 rfl (k_M s4) (zwr_r e2 (by first | decide | exact (absurd ·.1 (by decide)) | exact (absurd ·.2 (by decide)) | omega)) ?_
    refine zj_iconst (zdk ttX11_undo 11 rfl rfl) ?_
    refine zj_isub (zdk ttX11_undo 12 rfl rfl) ?_
    refine zj_puti (zdk ttX11_undo 13 rfl rfl) zf_RX11_123 rfl (k_M s4) (Or.inl zw_RX11_123) (k2 := 3) rfl (fun h6 e7 => ?_)
    refine zj_iconst (zdk ttX11_undo 14 rfl rfl) ?_
    refine zj_istore_n (L' := [some (.inr 0), some (.inl 0)]) (zdk ttX11_undo 15 rfl rfl) (by decide) rfl ?_
    have lp42 : ∀ (n26 : Nat) (x8 : Int) (h9 : zM), (0 ≤ x8 ∧ x8 ≤ 63) → okM h9 → zfr [0, 3] [1] h h9 → (h9.2 0 3 ≤ 5) → (∀ k9, 0 ≤ k9 → k9 < x8 → h9.2 1 k9 = h.2 2 (63 * (h.2 0 3 - 1) + k9)) → (h9.2 0 3 = h.2 0 3 - 1) → (64 - x8).toNat < n26 → zJ shM l yX11_undo cX11_undo 2 (some .boolean) (rmL 1) 0 0 (q2_X11_undo h) 0 0 26 [some (.inr 0), some (.inl x8)] [] h9 := by
      intro n26
      induction n26 with
      | zero => intro x8 h9 b43 s10 f11 u44 u45 u46 m47; exact absurd m47 (Nat.not_lt_zero _)
      | succ n26 ih48 =>
        intro x8 h9 b43 s10 f11 u44 u45 u46 m47
        refine zj_iload_n (zdk ttX11_undo 16 rfl rfl) rfl ?_
        refine zj_bipush (zdk ttX11_undo 17 rfl rfl) (by decide) ?_
        refine zj_icmp_ge (t := 58) (zdk ttX11_undo 18 rfl rfl) (by decide) (by omega) (by decide) (fun c49 => ?_) (fun c49 => ?_)
        · refine zj_iconst (zdk ttX11_undo 34 rfl rfl) ?_
          exact zj_zret rfl (zdk ttX11_undo 35 rfl rfl) (Nat.le_refl _) (Nat.le_refl _) (by omega) ⟨1, rfl, by omega, s10, f11, (by intro z t0; have g0 := xL_g t0; unfold pUndo; rw [if_pos (by omega)]; have rr : ∀ k9, 0 ≤ k9 → k9 < 63 → h9.2 1 k9 = z.q (z.u - 1) k9 := fun k9 a9 b9 => ((u45 k9 a9 (by omega)).trans (by rw [g0.2.2.1])).trans (t0.2.1.2.1 (z.u - 1) k9 (by omega) (by omega) a9 b9); have y1 : zY h9 z.e false (z.q (z.u - 1), z.x.2) := zY_e t0.1 f11 rfl (t0.2.1.2.2 (z.u - 1) (by omega) (by omega)) rr (fun k9 a9 b9 => ((zfr_a f11 rfl (by decide))).trans (xL_b t0 a9 b9)) (by rw [show h9.2 0 5 = h.2 0 5 from (zfr_f f11 rfl rfl)]; exact t0.1.2.2.2.2.2); refine ⟨rfl, y1, ⟨⟨?_, (show (0 : Int) ≤ z.u - 1 by omega), (show z.u - 1 ≤ 6 by omega)⟩, fun i9 k9 a9 b9 c9 d9 => ((zfr_a f11 rfl (by decide))).trans (t0.2.1.2.1 i9 k9 a9 (by have b8 : i9 < z.u - 1 := b9; omega) c9 d9), fun i9 a9 b9 => t0.2.1.2.2 i9 a9 (by have b8 : i9 < z.u - 1 := b9; omega)⟩, ((zfr_f f11 rfl rfl)).trans t0.2.2.1, fun q9 => xI_f (t0.2.2.2 q9) (fun b9 => (zfr_a f11 rfl (by decide)))⟩; (have u9 := u46; show h9.2 0 3 = z.u - 1; omega))⟩
        · refine zj_aload_n (zdk ttX11_undo 19 rfl rfl) rfl (by decide) ?_
          refine zj_getr (r := 1) (zdk ttX11_undo 20 rfl rfl) zf_RX11_7 rfl (k_M s10) (rfM_1 s10) ?_
          refine zj_iload_n (zdk ttX11_undo 21 rfl rfl) rfl ?_
          refine zj_aload_n (zdk ttX11_undo 22 rfl rfl) rfl (by decide) ?_
          refine zj_getr (r := 2) (zdk ttX11_undo 23 rfl rfl) zf_RX11_13 rfl (k_M s10) (rfM_2 s10) ?_
          refine zj_bipush (zdk ttX11_undo 24 rfl rfl) (by decide) ?_
          refine zj_aload_n (zdk ttX11_undo 25 rfl rfl) rfl (by decide) ?_
          have b50 : 0 ≤ (h9.2 0 3) ∧ (h9.2 0 3) ≤ 6 := fM_3 s10
          refine zj_geti (v := (h9.2 0 3)) (zdk ttX11_undo 26 rfl rfl) zf_RX11_123 rfl (k_M s10) rfl ?_
          refine zj_imul (zdk ttX11_undo 27 rfl rfl) ?_
          refine zj_iload_n (zdk ttX11_undo 28 rfl rfl) rfl ?_
          refine zj_iadd (zdk ttX11_undo 29 rfl rfl) ?_
          have b51 := (rM_b s0 2 ((63 * (h9.2 0 3)) + x8) (by omega)).2
          have b52 : -2147483648 ≤ (h.2 2 ((63 * (h9.2 0 3)) + x8)) ∧ (h.2 2 ((63 * (h9.2 0 3)) + x8)) ≤ 2147483647 := (rM_b s0 2 ((63 * (h9.2 0 3)) + x8) (by omega)).1
          refine zj_iald (v := (h.2 2 ((63 * (h9.2 0 3)) + x8))) (zdk ttX11_undo 30 rfl rfl) (kaM_2 s10) (by decide) (by omega) (zfr_a f11 rfl (by decide)) ?_
          refine zj_iast (zdk ttX11_undo 31 rfl rfl) (kaM_1 s10) (by decide) (by omega) (fun h53 e54 => ?_)
          refine zj_iinc (L' := [some (.inr 0), some (.inl (x8 + 1))]) (zdk ttX11_undo 32 rfl rfl) rfl (by decide) rfl ?_
          refine zj_goto (t := 26) (zdk ttX11_undo 33 rfl rfl) (by decide) ?_
          have b55 : h53.2 0 3 = (h9.2 0 3) := (zwr_r e54 (by first | decide | exact (absurd ·.1 (by decide)) | exact (absurd ·.2 (by decide)) | omega))
          have s56 : okM h53 := okM_wr s10 e54 (by decide) (by omega) (by omega)
          have f57 : zfr [0, 3] [1] h h53 := zfr_wa f11 e54 rfl
          exact ih48  (x8 + 1) h53 (by omega) s56 f57 (by omega) (by intro k9 a9 b9; rw [zwr_if e54 k9]; by_cases q9 : k9 = x8; (rw [if_pos q9, q9, show 63 * (h.2 0 3 - 1) + x8 = ((63 * (h9.2 0 3)) + x8) by omega]); (rw [if_neg q9]; exact u45 k9 a9 (by omega))) (by omega) (by omega)
    have b58 : h6.2 0 3 = ((h.2 0 3) - 1) := (zwr_v e7)
    have s59 : okM h6 := fwM_3 s4 e7 (by omega)
    have f61 : zfr [0, 3] [1] h h1 := zfr_wf (zfr_r _ _ _) e2 rfl
    have f60 : zfr [0, 3] [1] h h6 := zfr_wf f61 e7 rfl
    exact lp42 _ 0 h6 (by omega) s59 f60 (by omega) (fun k9 a9 b9 => absurd b9 (by omega)) (by omega) (Nat.lt_succ_self _)
  · refine zj_iconst (zdk ttX11_undo 6 rfl rfl) ?_
    have f62 : zfr [0, 3] [1] h h1 := zfr_wf (zfr_r _ _ _) e2 rfl
    exact zj_zret rfl (zdk ttX11_undo 7 rfl rfl) (Nat.le_refl _) (Nat.le_refl _) (by omega) ⟨0, rfl, by omega, s4, f62, (by intro z t0; have g0 := xL_g t0; unfold pUndo; rw [if_neg (by omega)]; exact ⟨rfl, (xL_f t0 (fun a9 b9 y9 => (zwr_r e2 (by unfold zDm zDe at y9; omega))) (zwr_r e2 (by first | decide | exact (absurd ·.1 (by decide)) | exact (absurd ·.2 (by decide)) | omega)) (zwr_r e2 (by first | decide | exact (absurd ·.1 (by decide)) | exact (absurd ·.2 (by decide)) | omega)) (fun b9 => (zwr_r e2 (by first | decide | exact (absurd ·.1 (by decide)) | exact (absurd ·.2 (by decide)) | omega))) (fun b9 => (zwr_r e2 (by first | decide | exact (absurd ·.1 (by decide)) | exact (absurd ·.2 (by decide)) | omega))))⟩)⟩

abbrev q2_X11_of (h : zM) (p1 : Int) (p2 : Int) : Option zV → zM → Prop := zqi fun v h' => ((-2147483648) ≤ v ∧ v ≤ 2147483647) ∧ okM h' ∧ zfr [0] [20, 21] h h' ∧ (∀ z, xL h z → v = vOf p1 p2 z ∧ xL h' z)
set_option maxRecDepth 100000 in
set_option maxHeartbeats 4000000 in
theorem s2_X11_of (l : Launch) (h : zM) (p1 : Int) (p2 : Int) (s0 : okM h) (b_p1 : (-2147483648) ≤ p1 ∧ p1 ≤ 2147483647) (b_p2 : (-2147483648) ≤ p2 ∧ p2 ≤ 2147483647) : zT shM l yX11_of cX11_of 3 (some .int) (rmL 6) 0 0 [.inr 0, .inl p1, .inl p2] h (q2_X11_of h p1 p2) := by
  refine zT_of (by decide +kernel) (L0 := [some (.inr 0), some (.inl p1), some (.inl p2)]) rfl (Nat.le_of_ble_eq_true rfl) ?_
  refine zj_aload_n (zdk ttX11_of 0 rfl rfl) rfl (by decide) ?_
  refine zj_iconst (zdk ttX11_of 1 rfl rfl) ?_
  refine zj_puti (zdk ttX11_of 2 rfl rfl) zf_RX11_120 rfl (k_M s0) (Or.inl zw_RX11_120) (k2 := 0) rfl (fun h1 e2 => ?_)
  refine zj_aload_n (zdk ttX11_of 3 rfl rfl) rfl (by decide) ?_
  refine zj_iload_n (zdk ttX11_of 4 rfl rfl) rfl ?_
  have s3 : okM h1 := fwM_0 s0 e2 (by omega)
  refine zj_callV (av := [.inl p1]) (st := []) (zdk ttX11_of 5 rfl rfl) mb_X11_isIslander mv_RX11_143 (ci := 11) rfl rfl (k_M s3) rfl rfl (Nat.le_of_ble_eq_true rfl) (s_X11_isIslander l h1 p1 s3 (by omega)) (rm_ok (by decide) (by decide)) (zq_i fun v5 h6 q4 => ?_)
  obtain ⟨rfl, b8, ⟨rfl, b7⟩ | ⟨rfl, b7⟩⟩ := q4
  · refine zj_if_ne (t := 15) (zdk ttX11_of 6 rfl rfl) (by decide) (by decide) (fun c9 => ?_) (fun c9 => ?_)
    · exact absurd c9 (by omega)
    · refine zj_iconst (zdk ttX11_of 7 rfl rfl) ?_
      have f10 : zfr [0] [20, 21] h h1 := zfr_wf (zfr_r _ _ _) e2 rfl
      exact zj_iret rfl (zdk ttX11_of 8 rfl rfl) (Nat.le_refl _) (Nat.le_refl _) ⟨(-1), rfl, by omega, s3, f10, (by intro z t0; have g0 := xL_g t0; have n1 : h1.2 0 6 = h.2 0 6 := zwr_r e2 (by first | decide | exact (absurd ·.1 (by decide)) | exact (absurd ·.2 (by decide)) | omega); have n2 : h1.2 1 (9 + p1) = h.2 1 (9 + p1) := zwr_r e2 (by first | decide | exact (absurd ·.1 (by decide)) | exact (absurd ·.2 (by decide)) | omega); have n3 : h1.2 1 (27 + p1) = h.2 1 (27 + p1) := zwr_r e2 (by first | decide | exact (absurd ·.1 (by decide)) | exact (absurd ·.2 (by decide)) | omega); have vf := vOf_f p1 p2 z; exact ⟨(by first | (have e9 := vf.1 (by clear vf; omega); clear vf; omega) | (have vg := vf.2 (by clear vf; omega); clear vf; first | (have e9 := vg.1 (by clear vg; omega); clear vg; omega) | (have e9 := vg.2.1 (by clear vg; omega); clear vg; omega) | (have e9 := vg.2.2.1 (by clear vg; omega); clear vg; omega) | (have e9 := vg.2.2.2.1 (by clear vg; omega); clear vg; omega) | (have e9 := vg.2.2.2.2.1 (by clear vg; omega); clear vg; omega) | (have e9 := vg.2.2.2.2.2.1 (by clear vg; omega); clear vg; omega) | (have e9 := vg.2.2.2.2.2.2.1 (by clear vg; omega); clear vg; omega) | (have e9 := vg.2.2.2.2.2.2.2.1 (by clear vg; omega); clear vg; omega) | (have e9 := vg.2.2.2.2.2.2.2.2.1 (by clear vg; omega); clear vg; omega) | (have e9 := vg.2.2.2.2.2.2.2.2.2 (by clear vg; omega); clear vg; omega))), (xL_f t0 (fun a9 b9 y9 => (zwr_r e2 (by unfold zDm zDe at y9; omega))) (zwr_r e2 (by first | decide | exact (absurd ·.1 (by decide)) | exact (absurd ·.2 (by decide)) | omega)) (zwr_r e2 (by first | decide | exact (absurd ·.1 (by decide)) | exact (absurd ·.2 (by decide)) | omega)) (fun b9 => (zwr_r e2 (by first | decide | exact (absurd ·.1 (by decide)) | exact (absurd ·.2 (by decide)) | omega))) (fun b9 => (zwr_r e2 (by first | decide | exact (absurd ·.1 (by decide)) | exact (absurd ·.2 (by decide)) | omega))))⟩)⟩
  · refine zj_if_ne (t := 15) (zdk ttX11_of 6 rfl rfl) (by decide) (by decide) (fun c11 => ?_) (fun c11 => ?_)
    · refine zj_iload_n (zdk ttX11_of 9 rfl rfl) rfl ?_
      refine zj_if_ne (t := 26) (zdk ttX11_of 10 rfl rfl) (by decide) (by omega) (fun c12 => ?_) (fun c12 => ?_)
      · refine zj_iload_n (zdk ttX11_of 16 rfl rfl) rfl ?_
        refine zj_iconst (zdk ttX11_of 17 rfl rfl) ?_
        refine zj_icmp_ne (t := 38) (zdk ttX11_of 18 rfl rfl) (by decide) (by omega) (by decide) (fun c13 => ?_) (fun c13 => ?_)
        · refine zj_iload_n (zdk ttX11_of 24 rfl rfl) rfl ?_
          refine zj_iconst (zdk ttX11_of 25 rfl rfl) ?_
          refine zj_icmp_ne (t := 57) (zdk ttX11_of 26 rfl rfl) (by decide) (by omega) (by decide) (fun c14 => ?_) (fun c14 => ?_)
          · refine zj_iload_n (zdk ttX11_of 35 rfl rfl) rfl ?_
            refine zj_iconst (zdk ttX11_of 36 rfl rfl) ?_
            refine zj_icmp_ne (t := 72) (zdk ttX11_of 37 rfl rfl) (by decide) (by omega) (by decide) (fun c15 => ?_) (fun c15 => ?_)
            · refine zj_iload_n (zdk ttX11_of 45 rfl rfl) rfl ?_
              refine zj_iconst (zdk ttX11_of 46 rfl rfl) ?_
              refine zj_icmp_ne (t := 87) (zdk ttX11_of 47 rfl rfl) (by decide) (by omega) (by decide) (fun c16 => ?_) (fun c16 => ?_)
              · refine zj_iload_n (zdk ttX11_of 55 rfl rfl) rfl ?_
                refine zj_iconst (zdk ttX11_of 56 rfl rfl) ?_
                refine zj_icmp_ne (t := 98) (zdk ttX11_of 57 rfl rfl) (by decide) (by omega) (by decide) (fun c17 => ?_) (fun c17 => ?_)
                · refine zj_iload_n (zdk ttX11_of 62 rfl rfl) rfl ?_
                  refine zj_bipush (zdk ttX11_of 63 rfl rfl) (by decide) ?_
                  refine zj_icmp_ne (t := 112) (zdk ttX11_of 64 rfl rfl) (by decide) (by omega) (by decide) (fun c18 => ?_) (fun c18 => ?_)
                  · refine zj_iload_n (zdk ttX11_of 69 rfl rfl) rfl ?_
                    refine zj_bipush (zdk ttX11_of 70 rfl rfl) (by decide) ?_
                    refine zj_icmp_ne (t := 126) (zdk ttX11_of 71 rfl rfl) (by decide) (by omega) (by decide) (fun c19 => ?_) (fun c19 => ?_)
                    · refine zj_iload_n (zdk ttX11_of 76 rfl rfl) rfl ?_
                      refine zj_bipush (zdk ttX11_of 77 rfl rfl) (by decide) ?_
                      refine zj_icmp_ne (t := 141) (zdk ttX11_of 78 rfl rfl) (by decide) (by omega) (by decide) (fun c20 => ?_) (fun c20 => ?_)
                      · refine zj_iconst (zdk ttX11_of 84 rfl rfl) ?_
                        have f21 : zfr [0] [20, 21] h h1 := zfr_wf (zfr_r _ _ _) e2 rfl
                        exact zj_iret rfl (zdk ttX11_of 85 rfl rfl) (Nat.le_refl _) (Nat.le_refl _) ⟨(-1), rfl, by omega, s3, f21, (by intro z t0; have g0 := xL_g t0; have n1 : h1.2 0 6 = h.2 0 6 := zwr_r e2 (by first | decide | exact (absurd ·.1 (by decide)) | exact (absurd ·.2 (by decide)) | omega); have n2 : h1.2 1 (9 + p1) = h.2 1 (9 + p1) := zwr_r e2 (by first | decide | exact (absurd ·.1 (by decide)) | exact (absurd ·.2 (by decide)) | omega); have n3 : h1.2 1 (27 + p1) = h.2 1 (27 + p1) := zwr_r e2 (by first | decide | exact (absurd ·.1 (by decide)) | exact (absurd ·.2 (by decide)) | omega); have vf := vOf_f p1 p2 z; exact ⟨(by first | (have e9 := vf.1 (by clear vf; omega); clear vf; omega) | (have vg := vf.2 (by clear vf; omega); clear vf; first | (have e9 := vg.1 (by clear vg; omega); clear vg; omega) | (have e9 := vg.2.1 (by clear vg; omega); clear vg; omega) | (have e9 := vg.2.2.1 (by clear vg; omega); clear vg; omega) | (have e9 := vg.2.2.2.1 (by clear vg; omega); clear vg; omega) | (have e9 := vg.2.2.2.2.1 (by clear vg; omega); clear vg; omega) | (have e9 := vg.2.2.2.2.2.1 (by clear vg; omega); clear vg; omega) | (have e9 := vg.2.2.2.2.2.2.1 (by clear vg; omega); clear vg; omega) | (have e9 := vg.2.2.2.2.2.2.2.1 (by clear vg; omega); clear vg; omega) | (have e9 := vg.2.2.2.2.2.2.2.2.1 (by clear vg; omega); clear vg; omega) | (have e9 := vg.2.2.2.2.2.2.2.2.2 (by clear vg; omega); clear vg; omega))), (xL_f t0 (fun a9 b9 y9 => (zwr_r e2 (by unfold zDm zDe at y9; omega))) (zwr_r e2 (by first | decide | exact (absurd ·.1 (by decide)) | exact (absurd ·.2 (by decide)) | omega)) (zwr_r e2 (by first | decide | exact (absurd ·.1 (by decide)) | exact (absurd ·.2 (by decide)) | omega)) (fun b9 => (zwr_r e2 (by first | decide | exact (absurd ·.1 (by decide)) | exact (absurd ·.2 (by decide)) | omega))) (fun b9 => (zwr_r e2 (by first | decide | exact (absurd ·.1 (by decide)) | exact (absurd ·.2 (by decide)) | omega))))⟩)⟩
                      · refine zj_aload_n (zdk ttX11_of 79 rfl rfl) rfl (by decide) ?_
                        refine zj_getr (r := 19) (zdk ttX11_of 80 rfl rfl) zf_RX11_68 rfl (k_M s3) (rfM_38 s3) ?_
                        refine zj_iload_n (zdk ttX11_of 81 rfl rfl) rfl ?_
                        have b22 : -2147483648 ≤ (h.2 19 p1) ∧ (h.2 19 p1) ≤ 2147483647 := abM_19 s0 p1
                        refine zj_iald (v := (h.2 19 p1)) (zdk ttX11_of 82 rfl rfl) (kaM_19 s3) (by decide) (by omega) (zwr_r e2 (by first | decide | exact (absurd ·.1 (by decide)) | exact (absurd ·.2 (by decide)) | omega)) ?_
                        refine zj_goto (t := 142) (zdk ttX11_of 83 rfl rfl) (by decide) ?_
                        have f23 : zfr [0] [20, 21] h h1 := zfr_wf (zfr_r _ _ _) e2 rfl
                        exact zj_iret rfl (zdk ttX11_of 85 rfl rfl) (Nat.le_refl _) (Nat.le_refl _) ⟨(h.2 19 p1), rfl, by omega, s3, f23, (by intro z t0; have g0 := xL_g t0; have n1 : h1.2 0 6 = h.2 0 6 := zwr_r e2 (by first | decide | exact (absurd ·.1 (by decide)) | exact (absurd ·.2 (by decide)) | omega); have n2 : h1.2 1 (9 + p1) = h.2 1 (9 + p1) := zwr_r e2 (by first | decide | exact (absurd ·.1 (by decide)) | exact (absurd ·.2 (by decide)) | omega); have n3 : h1.2 1 (27 + p1) = h.2 1 (27 + p1) := zwr_r e2 (by first | decide | exact (absurd ·.1 (by decide)) | exact (absurd ·.2 (by decide)) | omega); have vf := vOf_f p1 p2 z; have i0 : 0 ≤ p1 ∧ p1 < z.e.n := (by omega); have vg := vf.2 i0; clear vf; have i1 := xL_i t0 i0.1 (by omega); have r8 := xL_r t0 (k := 9 + p1) (by omega) (by omega); have r9 := xL_r t0 (k := 27 + p1) (by omega) (by omega); have r5 := xL_r t0 (k := 45 + p1) (by omega) (by omega); exact ⟨(by first | (have e9 := vg.1 (by clear vg; omega); clear vg; omega) | (have e9 := vg.2.1 (by clear vg; omega); clear vg; omega) | (have e9 := vg.2.2.1 (by clear vg; omega); clear vg; omega) | (have e9 := vg.2.2.2.1 (by clear vg; omega); clear vg; omega) | (have e9 := vg.2.2.2.2.1 (by clear vg; omega); clear vg; omega) | (have e9 := vg.2.2.2.2.2.1 (by clear vg; omega); clear vg; omega) | (have e9 := vg.2.2.2.2.2.2.1 (by clear vg; omega); clear vg; omega) | (have e9 := vg.2.2.2.2.2.2.2.1 (by clear vg; omega); clear vg; omega) | (have e9 := vg.2.2.2.2.2.2.2.2.1 (by clear vg; omega); clear vg; omega) | (have e9 := vg.2.2.2.2.2.2.2.2.2 (by clear vg; omega); clear vg; omega)), (xL_f t0 (fun a9 b9 y9 => (zwr_r e2 (by unfold zDm zDe at y9; omega))) (zwr_r e2 (by first | decide | exact (absurd ·.1 (by decide)) | exact (absurd ·.2 (by decide)) | omega)) (zwr_r e2 (by first | decide | exact (absurd ·.1 (by decide)) | exact (absurd ·.2 (by decide)) | omega)) (fun b9 => (zwr_r e2 (by first | decide | exact (absurd ·.1 (by decide)) | exact (absurd ·.2 (by decide)) | omega))) (fun b9 => (zwr_r e2 (by first | decide | exact (absurd ·.1 (by decide)) | exact (absurd ·.2 (by decide)) | omega))))⟩)⟩
                    · refine zj_aload_n (zdk ttX11_of 72 rfl rfl) rfl (by decide) ?_
                      refine zj_iload_n (zdk ttX11_of 73 rfl rfl) rfl ?_
                      refine zj_callV (av := [.inl p1]) (st := []) (zdk ttX11_of 74 rfl rfl) mb_X11_returnsOf mv_RX11_365 (ci := 11) rfl rfl (k_M s3) rfl rfl (Nat.le_of_ble_eq_true rfl) (s2_X11_returnsOf l h1 p1 s3 (by omega)) (rm_ok (by decide) (by decide)) (zq_i fun v25 h26 q24 => ?_)
                      obtain ⟨b27, s28, f30, u29⟩ := q24
                      refine zj_goto (t := 142) (zdk ttX11_of 75 rfl rfl) (by decide) ?_
                      have f32 : zfr [0] [20, 21] h h1 := zfr_wf (zfr_r _ _ _) e2 rfl
                      have f31 : zfr [0] [20, 21] h h26 := zfr_t f32 f30 rfl rfl
                      exact zj_iret rfl (zdk ttX11_of 85 rfl rfl) (Nat.le_refl _) (Nat.le_refl _) ⟨v25, rfl, by omega, s28, f31, (by intro z t0; have g0 := xL_g t0; have n1 : h1.2 0 6 = h.2 0 6 := zwr_r e2 (by first | decide | exact (absurd ·.1 (by decide)) | exact (absurd ·.2 (by decide)) | omega); have n2 : h1.2 1 (9 + p1) = h.2 1 (9 + p1) := zwr_r e2 (by first | decide | exact (absurd ·.1 (by decide)) | exact (absurd ·.2 (by decide)) | omega); have n3 : h1.2 1 (27 + p1) = h.2 1 (27 + p1) := zwr_r e2 (by first | decide | exact (absurd ·.1 (by decide)) | exact (absurd ·.2 (by decide)) | omega); have vf := vOf_f p1 p2 z; have i0 : 0 ≤ p1 ∧ p1 < z.e.n := (by omega); have vg := vf.2 i0; clear vf; have i1 := xL_i t0 i0.1 (by omega); have r8 := xL_r t0 (k := 9 + p1) (by omega) (by omega); have r9 := xL_r t0 (k := 27 + p1) (by omega) (by omega); have r5 := xL_r t0 (k := 45 + p1) (by omega) (by omega); have tl : v25 = fTl z.e z.x.1 2 p1 := u29 z.e false z.x (zY_o t0.1 e2 (by unfold zDm zDe; omega)) i0; exact ⟨(by first | (have e9 := vg.1 (by clear vg; omega); clear vg; omega) | (have e9 := vg.2.1 (by clear vg; omega); clear vg; omega) | (have e9 := vg.2.2.1 (by clear vg; omega); clear vg; omega) | (have e9 := vg.2.2.2.1 (by clear vg; omega); clear vg; omega) | (have e9 := vg.2.2.2.2.1 (by clear vg; omega); clear vg; omega) | (have e9 := vg.2.2.2.2.2.1 (by clear vg; omega); clear vg; omega) | (have e9 := vg.2.2.2.2.2.2.1 (by clear vg; omega); clear vg; omega) | (have e9 := vg.2.2.2.2.2.2.2.1 (by clear vg; omega); clear vg; omega) | (have e9 := vg.2.2.2.2.2.2.2.2.1 (by clear vg; omega); clear vg; omega) | (have e9 := vg.2.2.2.2.2.2.2.2.2 (by clear vg; omega); clear vg; omega)), (xL_f t0 (fun a9 b9 y9 => ((zDm_o f30 rfl a9 b9 y9).trans (zwr_r e2 (by unfold zDm zDe at y9; omega)))) ((zfr_f f30 rfl rfl).trans (zwr_r e2 (by first | decide | exact (absurd ·.1 (by decide)) | exact (absurd ·.2 (by decide)) | omega))) ((zfr_f f30 rfl rfl).trans (zwr_r e2 (by first | decide | exact (absurd ·.1 (by decide)) | exact (absurd ·.2 (by decide)) | omega))) (fun b9 => ((zfr_a f30 rfl (by decide)).trans (zwr_r e2 (by first | decide | exact (absurd ·.1 (by decide)) | exact (absurd ·.2 (by decide)) | omega)))) (fun b9 => ((zfr_a f30 rfl (by decide)).trans (zwr_r e2 (by first | decide | exact (absurd ·.1 (by decide)) | exact (absurd ·.2 (by decide)) | omega)))))⟩)⟩
                  · refine zj_aload_n (zdk ttX11_of 65 rfl rfl) rfl (by decide) ?_
                    refine zj_iload_n (zdk ttX11_of 66 rfl rfl) rfl ?_
                    refine zj_callV (av := [.inl p1]) (st := []) (zdk ttX11_of 67 rfl rfl) mb_X11_windsOf mv_RX11_334 (ci := 11) rfl rfl (k_M s3) rfl rfl (Nat.le_of_ble_eq_true rfl) (s2_X11_windsOf l h1 p1 s3 (by omega)) (rm_ok (by decide) (by decide)) (zq_i fun v34 h35 q33 => ?_)
                    obtain ⟨b36, s37, f39, u38⟩ := q33
                    refine zj_goto (t := 142) (zdk ttX11_of 68 rfl rfl) (by decide) ?_
                    have f41 : zfr [0] [20, 21] h h1 := zfr_wf (zfr_r _ _ _) e2 rfl
                    have f40 : zfr [0] [20, 21] h h35 := zfr_t f41 f39 rfl rfl
                    exact zj_iret rfl (zdk ttX11_of 85 rfl rfl) (Nat.le_refl _) (Nat.le_refl _) ⟨v34, rfl, by omega, s37, f40, (by intro z t0; have g0 := xL_g t0; have n1 : h1.2 0 6 = h.2 0 6 := zwr_r e2 (by first | decide | exact (absurd ·.1 (by decide)) | exact (absurd ·.2 (by decide)) | omega); have n2 : h1.2 1 (9 + p1) = h.2 1 (9 + p1) := zwr_r e2 (by first | decide | exact (absurd ·.1 (by decide)) | exact (absurd ·.2 (by decide)) | omega); have n3 : h1.2 1 (27 + p1) = h.2 1 (27 + p1) := zwr_r e2 (by first | decide | exact (absurd ·.1 (by decide)) | exact (absurd ·.2 (by decide)) | omega); have vf := vOf_f p1 p2 z; have i0 : 0 ≤ p1 ∧ p1 < z.e.n := (by omega); have vg := vf.2 i0; clear vf; have i1 := xL_i t0 i0.1 (by omega); have r8 := xL_r t0 (k := 9 + p1) (by omega) (by omega); have r9 := xL_r t0 (k := 27 + p1) (by omega) (by omega); have r5 := xL_r t0 (k := 45 + p1) (by omega) (by omega); have tl : v34 = fTl z.e z.x.1 1 p1 := u38 z.e false z.x (zY_o t0.1 e2 (by unfold zDm zDe; omega)) i0; exact ⟨(by first | (have e9 := vg.1 (by clear vg; omega); clear vg; omega) | (have e9 := vg.2.1 (by clear vg; omega); clear vg; omega) | (have e9 := vg.2.2.1 (by clear vg; omega); clear vg; omega) | (have e9 := vg.2.2.2.1 (by clear vg; omega); clear vg; omega) | (have e9 := vg.2.2.2.2.1 (by clear vg; omega); clear vg; omega) | (have e9 := vg.2.2.2.2.2.1 (by clear vg; omega); clear vg; omega) | (have e9 := vg.2.2.2.2.2.2.1 (by clear vg; omega); clear vg; omega) | (have e9 := vg.2.2.2.2.2.2.2.1 (by clear vg; omega); clear vg; omega) | (have e9 := vg.2.2.2.2.2.2.2.2.1 (by clear vg; omega); clear vg; omega) | (have e9 := vg.2.2.2.2.2.2.2.2.2 (by clear vg; omega); clear vg; omega)), (xL_f t0 (fun a9 b9 y9 => ((zDm_o f39 rfl a9 b9 y9).trans (zwr_r e2 (by unfold zDm zDe at y9; omega)))) ((zfr_f f39 rfl rfl).trans (zwr_r e2 (by first | decide | exact (absurd ·.1 (by decide)) | exact (absurd ·.2 (by decide)) | omega))) ((zfr_f f39 rfl rfl).trans (zwr_r e2 (by first | decide | exact (absurd ·.1 (by decide)) | exact (absurd ·.2 (by decide)) | omega))) (fun b9 => ((zfr_a f39 rfl (by decide)).trans (zwr_r e2 (by first | decide | exact (absurd ·.1 (by decide)) | exact (absurd ·.2 (by decide)) | omega)))) (fun b9 => ((zfr_a f39 rfl (by decide)).trans (zwr_r e2 (by first | decide | exact (absurd ·.1 (by decide)) | exact (absurd ·.2 (by decide)) | omega)))))⟩)⟩
                · refine zj_aload_n (zdk ttX11_of 58 rfl rfl) rfl (by decide) ?_
                  refine zj_iload_n (zdk ttX11_of 59 rfl rfl) rfl ?_
                  refine zj_callV (av := [.inl p1]) (st := []) (zdk ttX11_of 60 rfl rfl) mb_X11_leavesOf mv_RX11_359 (ci := 11) rfl rfl (k_M s3) rfl rfl (Nat.le_of_ble_eq_true rfl) (s2_X11_leavesOf l h1 p1 s3 (by omega)) (rm_ok (by decide) (by decide)) (zq_i fun v43 h44 q42 => ?_)
                  obtain ⟨b45, s46, f48, u47⟩ := q42
                  have f50 : zfr [0] [20, 21] h h1 := zfr_wf (zfr_r _ _ _) e2 rfl
                  have f49 : zfr [0] [20, 21] h h44 := zfr_t f50 f48 rfl rfl
                  exact zj_iret rfl (zdk ttX11_of 61 rfl rfl) (Nat.le_refl _) (Nat.le_refl _) ⟨v43, rfl, by omega, s46, f49, (by intro z t0; have g0 := xL_g t0; have n1 : h1.2 0 6 = h.2 0 6 := zwr_r e2 (by first | decide | exact (absurd ·.1 (by decide)) | exact (absurd ·.2 (by decide)) | omega); have n2 : h1.2 1 (9 + p1) = h.2 1 (9 + p1) := zwr_r e2 (by first | decide | exact (absurd ·.1 (by decide)) | exact (absurd ·.2 (by decide)) | omega); have n3 : h1.2 1 (27 + p1) = h.2 1 (27 + p1) := zwr_r e2 (by first | decide | exact (absurd ·.1 (by decide)) | exact (absurd ·.2 (by decide)) | omega); have vf := vOf_f p1 p2 z; have i0 : 0 ≤ p1 ∧ p1 < z.e.n := (by omega); have vg := vf.2 i0; clear vf; have i1 := xL_i t0 i0.1 (by omega); have r8 := xL_r t0 (k := 9 + p1) (by omega) (by omega); have r9 := xL_r t0 (k := 27 + p1) (by omega) (by omega); have r5 := xL_r t0 (k := 45 + p1) (by omega) (by omega); have tl : v43 = fTl z.e z.x.1 0 p1 := u47 z.e false z.x (zY_o t0.1 e2 (by unfold zDm zDe; omega)) i0; exact ⟨(by first | (have e9 := vg.1 (by clear vg; omega); clear vg; omega) | (have e9 := vg.2.1 (by clear vg; omega); clear vg; omega) | (have e9 := vg.2.2.1 (by clear vg; omega); clear vg; omega) | (have e9 := vg.2.2.2.1 (by clear vg; omega); clear vg; omega) | (have e9 := vg.2.2.2.2.1 (by clear vg; omega); clear vg; omega) | (have e9 := vg.2.2.2.2.2.1 (by clear vg; omega); clear vg; omega) | (have e9 := vg.2.2.2.2.2.2.1 (by clear vg; omega); clear vg; omega) | (have e9 := vg.2.2.2.2.2.2.2.1 (by clear vg; omega); clear vg; omega) | (have e9 := vg.2.2.2.2.2.2.2.2.1 (by clear vg; omega); clear vg; omega) | (have e9 := vg.2.2.2.2.2.2.2.2.2 (by clear vg; omega); clear vg; omega)), (xL_f t0 (fun a9 b9 y9 => ((zDm_o f48 rfl a9 b9 y9).trans (zwr_r e2 (by unfold zDm zDe at y9; omega)))) ((zfr_f f48 rfl rfl).trans (zwr_r e2 (by first | decide | exact (absurd ·.1 (by decide)) | exact (absurd ·.2 (by decide)) | omega))) ((zfr_f f48 rfl rfl).trans (zwr_r e2 (by first | decide | exact (absurd ·.1 (by decide)) | exact (absurd ·.2 (by decide)) | omega))) (fun b9 => ((zfr_a f48 rfl (by decide)).trans (zwr_r e2 (by first | decide | exact (absurd ·.1 (by decide)) | exact (absurd ·.2 (by decide)) | omega)))) (fun b9 => ((zfr_a f48 rfl (by decide)).trans (zwr_r e2 (by first | decide | exact (absurd ·.1 (by decide)) | exact (absurd ·.2 (by decide)) | omega)))))⟩)⟩
              · refine zj_aload_n (zdk ttX11_of 48 rfl rfl) rfl (by decide) ?_
                refine zj_getr (r := 1) (zdk ttX11_of 49 rfl rfl) zf_RX11_7 rfl (k_M s3) (rfM_1 s3) ?_
                refine zj_bipush (zdk ttX11_of 50 rfl rfl) (by decide) ?_
                refine zj_iload_n (zdk ttX11_of 51 rfl rfl) rfl ?_
                refine zj_iadd (zdk ttX11_of 52 rfl rfl) ?_
                have b51 := (rM_b s0 1 (45 + p1) (by omega)).2
                have b52 : -2147483648 ≤ (h.2 1 (45 + p1)) ∧ (h.2 1 (45 + p1)) ≤ 2147483647 := (rM_b s0 1 (45 + p1) (by omega)).1
                refine zj_iald (v := (h.2 1 (45 + p1))) (zdk ttX11_of 53 rfl rfl) (kaM_1 s3) (by decide) (by omega) (zwr_r e2 (by first | decide | exact (absurd ·.1 (by decide)) | exact (absurd ·.2 (by decide)) | omega)) ?_
                have f53 : zfr [0] [20, 21] h h1 := zfr_wf (zfr_r _ _ _) e2 rfl
                exact zj_iret rfl (zdk ttX11_of 54 rfl rfl) (Nat.le_refl _) (Nat.le_refl _) ⟨(h.2 1 (45 + p1)), rfl, by omega, s3, f53, (by intro z t0; have g0 := xL_g t0; have n1 : h1.2 0 6 = h.2 0 6 := zwr_r e2 (by first | decide | exact (absurd ·.1 (by decide)) | exact (absurd ·.2 (by decide)) | omega); have n2 : h1.2 1 (9 + p1) = h.2 1 (9 + p1) := zwr_r e2 (by first | decide | exact (absurd ·.1 (by decide)) | exact (absurd ·.2 (by decide)) | omega); have n3 : h1.2 1 (27 + p1) = h.2 1 (27 + p1) := zwr_r e2 (by first | decide | exact (absurd ·.1 (by decide)) | exact (absurd ·.2 (by decide)) | omega); have vf := vOf_f p1 p2 z; have i0 : 0 ≤ p1 ∧ p1 < z.e.n := (by omega); have vg := vf.2 i0; clear vf; have i1 := xL_i t0 i0.1 (by omega); have r8 := xL_r t0 (k := 9 + p1) (by omega) (by omega); have r9 := xL_r t0 (k := 27 + p1) (by omega) (by omega); have r5 := xL_r t0 (k := 45 + p1) (by omega) (by omega); exact ⟨(by first | (have e9 := vg.1 (by clear vg; omega); clear vg; omega) | (have e9 := vg.2.1 (by clear vg; omega); clear vg; omega) | (have e9 := vg.2.2.1 (by clear vg; omega); clear vg; omega) | (have e9 := vg.2.2.2.1 (by clear vg; omega); clear vg; omega) | (have e9 := vg.2.2.2.2.1 (by clear vg; omega); clear vg; omega) | (have e9 := vg.2.2.2.2.2.1 (by clear vg; omega); clear vg; omega) | (have e9 := vg.2.2.2.2.2.2.1 (by clear vg; omega); clear vg; omega) | (have e9 := vg.2.2.2.2.2.2.2.1 (by clear vg; omega); clear vg; omega) | (have e9 := vg.2.2.2.2.2.2.2.2.1 (by clear vg; omega); clear vg; omega) | (have e9 := vg.2.2.2.2.2.2.2.2.2 (by clear vg; omega); clear vg; omega)), (xL_f t0 (fun a9 b9 y9 => (zwr_r e2 (by unfold zDm zDe at y9; omega))) (zwr_r e2 (by first | decide | exact (absurd ·.1 (by decide)) | exact (absurd ·.2 (by decide)) | omega)) (zwr_r e2 (by first | decide | exact (absurd ·.1 (by decide)) | exact (absurd ·.2 (by decide)) | omega)) (fun b9 => (zwr_r e2 (by first | decide | exact (absurd ·.1 (by decide)) | exact (absurd ·.2 (by decide)) | omega))) (fun b9 => (zwr_r e2 (by first | decide | exact (absurd ·.1 (by decide)) | exact (absurd ·.2 (by decide)) | omega))))⟩)⟩
            · refine zj_aload_n (zdk ttX11_of 38 rfl rfl) rfl (by decide) ?_
              refine zj_getr (r := 1) (zdk ttX11_of 39 rfl rfl) zf_RX11_7 rfl (k_M s3) (rfM_1 s3) ?_
              refine zj_bipush (zdk ttX11_of 40 rfl rfl) (by decide) ?_
              refine zj_iload_n (zdk ttX11_of 41 rfl rfl) rfl ?_
              refine zj_iadd (zdk ttX11_of 42 rfl rfl) ?_
              have b54 := (rM_b s0 1 (27 + p1) (by omega)).2
              have b55 : -2147483648 ≤ (h.2 1 (27 + p1)) ∧ (h.2 1 (27 + p1)) ≤ 2147483647 := (rM_b s0 1 (27 + p1) (by omega)).1
              refine zj_iald (v := (h.2 1 (27 + p1))) (zdk ttX11_of 43 rfl rfl) (kaM_1 s3) (by decide) (by omega) (zwr_r e2 (by first | decide | exact (absurd ·.1 (by decide)) | exact (absurd ·.2 (by decide)) | omega)) ?_
              have f56 : zfr [0] [20, 21] h h1 := zfr_wf (zfr_r _ _ _) e2 rfl
              exact zj_iret rfl (zdk ttX11_of 44 rfl rfl) (Nat.le_refl _) (Nat.le_refl _) ⟨(h.2 1 (27 + p1)), rfl, by omega, s3, f56, (by intro z t0; have g0 := xL_g t0; have n1 : h1.2 0 6 = h.2 0 6 := zwr_r e2 (by first | decide | exact (absurd ·.1 (by decide)) | exact (absurd ·.2 (by decide)) | omega); have n2 : h1.2 1 (9 + p1) = h.2 1 (9 + p1) := zwr_r e2 (by first | decide | exact (absurd ·.1 (by decide)) | exact (absurd ·.2 (by decide)) | omega); have n3 : h1.2 1 (27 + p1) = h.2 1 (27 + p1) := zwr_r e2 (by first | decide | exact (absurd ·.1 (by decide)) | exact (absurd ·.2 (by decide)) | omega); have vf := vOf_f p1 p2 z; have i0 : 0 ≤ p1 ∧ p1 < z.e.n := (by omega); have vg := vf.2 i0; clear vf; have i1 := xL_i t0 i0.1 (by omega); have r8 := xL_r t0 (k := 9 + p1) (by omega) (by omega); have r9 := xL_r t0 (k := 27 + p1) (by omega) (by omega); have r5 := xL_r t0 (k := 45 + p1) (by omega) (by omega); exact ⟨(by first | (have e9 := vg.1 (by clear vg; omega); clear vg; omega) | (have e9 := vg.2.1 (by clear vg; omega); clear vg; omega) | (have e9 := vg.2.2.1 (by clear vg; omega); clear vg; omega) | (have e9 := vg.2.2.2.1 (by clear vg; omega); clear vg; omega) | (have e9 := vg.2.2.2.2.1 (by clear vg; omega); clear vg; omega) | (have e9 := vg.2.2.2.2.2.1 (by clear vg; omega); clear vg; omega) | (have e9 := vg.2.2.2.2.2.2.1 (by clear vg; omega); clear vg; omega) | (have e9 := vg.2.2.2.2.2.2.2.1 (by clear vg; omega); clear vg; omega) | (have e9 := vg.2.2.2.2.2.2.2.2.1 (by clear vg; omega); clear vg; omega) | (have e9 := vg.2.2.2.2.2.2.2.2.2 (by clear vg; omega); clear vg; omega)), (xL_f t0 (fun a9 b9 y9 => (zwr_r e2 (by unfold zDm zDe at y9; omega))) (zwr_r e2 (by first | decide | exact (absurd ·.1 (by decide)) | exact (absurd ·.2 (by decide)) | omega)) (zwr_r e2 (by first | decide | exact (absurd ·.1 (by decide)) | exact (absurd ·.2 (by decide)) | omega)) (fun b9 => (zwr_r e2 (by first | decide | exact (absurd ·.1 (by decide)) | exact (absurd ·.2 (by decide)) | omega))) (fun b9 => (zwr_r e2 (by first | decide | exact (absurd ·.1 (by decide)) | exact (absurd ·.2 (by decide)) | omega))))⟩)⟩
          · refine zj_aload_n (zdk ttX11_of 27 rfl rfl) rfl (by decide) ?_
            refine zj_iload_n (zdk ttX11_of 28 rfl rfl) rfl ?_
            refine zj_callV (av := [.inl p1]) (st := []) (zdk ttX11_of 29 rfl rfl) mb_X11_isHere mv_RX11_135 (ci := 11) rfl rfl (k_M s3) rfl rfl (Nat.le_of_ble_eq_true rfl) (s_X11_isHere l h1 p1 s3 (by omega)) (rm_ok (by decide) (by decide)) (zq_i fun v58 h59 q57 => ?_)
            obtain ⟨rfl, ⟨rfl, b60⟩ | ⟨rfl, b60⟩⟩ := q57
            · refine zj_if_eq (t := 55) (zdk ttX11_of 30 rfl rfl) (by decide) (by decide) (fun c61 => ?_) (fun c61 => ?_)
              · refine zj_iconst (zdk ttX11_of 33 rfl rfl) ?_
                have f62 : zfr [0] [20, 21] h h1 := zfr_wf (zfr_r _ _ _) e2 rfl
                exact zj_iret rfl (zdk ttX11_of 34 rfl rfl) (Nat.le_refl _) (Nat.le_refl _) ⟨0, rfl, by omega, s3, f62, (by intro z t0; have g0 := xL_g t0; have n1 : h1.2 0 6 = h.2 0 6 := zwr_r e2 (by first | decide | exact (absurd ·.1 (by decide)) | exact (absurd ·.2 (by decide)) | omega); have n2 : h1.2 1 (9 + p1) = h.2 1 (9 + p1) := zwr_r e2 (by first | decide | exact (absurd ·.1 (by decide)) | exact (absurd ·.2 (by decide)) | omega); have n3 : h1.2 1 (27 + p1) = h.2 1 (27 + p1) := zwr_r e2 (by first | decide | exact (absurd ·.1 (by decide)) | exact (absurd ·.2 (by decide)) | omega); have vf := vOf_f p1 p2 z; have i0 : 0 ≤ p1 ∧ p1 < z.e.n := (by omega); have vg := vf.2 i0; clear vf; have i1 := xL_i t0 i0.1 (by omega); have r8 := xL_r t0 (k := 9 + p1) (by omega) (by omega); have r9 := xL_r t0 (k := 27 + p1) (by omega) (by omega); have r5 := xL_r t0 (k := 45 + p1) (by omega) (by omega); have vh := vg.2.2.1 (by clear vg; omega); clear vg; exact ⟨by first | (rw [if_pos (by omega)] at vh; omega) | (rw [if_neg (by omega)] at vh; omega), (xL_f t0 (fun a9 b9 y9 => (zwr_r e2 (by unfold zDm zDe at y9; omega))) (zwr_r e2 (by first | decide | exact (absurd ·.1 (by decide)) | exact (absurd ·.2 (by decide)) | omega)) (zwr_r e2 (by first | decide | exact (absurd ·.1 (by decide)) | exact (absurd ·.2 (by decide)) | omega)) (fun b9 => (zwr_r e2 (by first | decide | exact (absurd ·.1 (by decide)) | exact (absurd ·.2 (by decide)) | omega))) (fun b9 => (zwr_r e2 (by first | decide | exact (absurd ·.1 (by decide)) | exact (absurd ·.2 (by decide)) | omega))))⟩)⟩
              · exact absurd c61 (by omega)
            · refine zj_if_eq (t := 55) (zdk ttX11_of 30 rfl rfl) (by decide) (by decide) (fun c63 => ?_) (fun c63 => ?_)
              · exact absurd c63 (by omega)
              · refine zj_iconst (zdk ttX11_of 31 rfl rfl) ?_
                refine zj_goto (t := 56) (zdk ttX11_of 32 rfl rfl) (by decide) ?_
                have f64 : zfr [0] [20, 21] h h1 := zfr_wf (zfr_r _ _ _) e2 rfl
                exact zj_iret rfl (zdk ttX11_of 34 rfl rfl) (Nat.le_refl _) (Nat.le_refl _) ⟨1, rfl, by omega, s3, f64, (by intro z t0; have g0 := xL_g t0; have n1 : h1.2 0 6 = h.2 0 6 := zwr_r e2 (by first | decide | exact (absurd ·.1 (by decide)) | exact (absurd ·.2 (by decide)) | omega); have n2 : h1.2 1 (9 + p1) = h.2 1 (9 + p1) := zwr_r e2 (by first | decide | exact (absurd ·.1 (by decide)) | exact (absurd ·.2 (by decide)) | omega); have n3 : h1.2 1 (27 + p1) = h.2 1 (27 + p1) := zwr_r e2 (by first | decide | exact (absurd ·.1 (by decide)) | exact (absurd ·.2 (by decide)) | omega); have vf := vOf_f p1 p2 z; have i0 : 0 ≤ p1 ∧ p1 < z.e.n := (by omega); have vg := vf.2 i0; clear vf; have i1 := xL_i t0 i0.1 (by omega); have r8 := xL_r t0 (k := 9 + p1) (by omega) (by omega); have r9 := xL_r t0 (k := 27 + p1) (by omega) (by omega); have r5 := xL_r t0 (k := 45 + p1) (by omega) (by omega); have vh := vg.2.2.1 (by clear vg; omega); clear vg; exact ⟨by first | (rw [if_pos (by omega)] at vh; omega) | (rw [if_neg (by omega)] at vh; omega), (xL_f t0 (fun a9 b9 y9 => (zwr_r e2 (by unfold zDm zDe at y9; omega))) (zwr_r e2 (by first | decide | exact (absurd ·.1 (by decide)) | exact (absurd ·.2 (by decide)) | omega)) (zwr_r e2 (by first | decide | exact (absurd ·.1 (by decide)) | exact (absurd ·.2 (by decide)) | omega)) (fun b9 => (zwr_r e2 (by first | decide | exact (absurd ·.1 (by decide)) | exact (absurd ·.2 (by decide)) | omega))) (fun b9 => (zwr_r e2 (by first | decide | exact (absurd ·.1 (by decide)) | exact (absurd ·.2 (by decide)) | omega))))⟩)⟩
        · refine zj_aload_n (zdk ttX11_of 19 rfl rfl) rfl (by decide) ?_
          refine zj_getr (r := 5) (zdk ttX11_of 20 rfl rfl) zf_RX11_22 rfl (k_M s3) (rfM_8 s3) ?_
          refine zj_iload_n (zdk ttX11_of 21 rfl rfl) rfl ?_
          have b65 : -2147483648 ≤ (h.2 5 p1) ∧ (h.2 5 p1) ≤ 2147483647 := abM_5 s0 p1
          refine zj_iald (v := (h.2 5 p1)) (zdk ttX11_of 22 rfl rfl) (kaM_5 s3) (by decide) (by omega) (zwr_r e2 (by first | decide | exact (absurd ·.1 (by decide)) | exact (absurd ·.2 (by decide)) | omega)) ?_
          have f66 : zfr [0] [20, 21] h h1 := zfr_wf (zfr_r _ _ _) e2 rfl
          exact zj_iret rfl (zdk ttX11_of 23 rfl rfl) (Nat.le_refl _) (Nat.le_refl _) ⟨(h.2 5 p1), rfl, by omega, s3, f66, (by intro z t0; have g0 := xL_g t0; have n1 : h1.2 0 6 = h.2 0 6 := zwr_r e2 (by first | decide | exact (absurd ·.1 (by decide)) | exact (absurd ·.2 (by decide)) | omega); have n2 : h1.2 1 (9 + p1) = h.2 1 (9 + p1) := zwr_r e2 (by first | decide | exact (absurd ·.1 (by decide)) | exact (absurd ·.2 (by decide)) | omega); have n3 : h1.2 1 (27 + p1) = h.2 1 (27 + p1) := zwr_r e2 (by first | decide | exact (absurd ·.1 (by decide)) | exact (absurd ·.2 (by decide)) | omega); have vf := vOf_f p1 p2 z; have i0 : 0 ≤ p1 ∧ p1 < z.e.n := (by omega); have vg := vf.2 i0; clear vf; have i1 := xL_i t0 i0.1 (by omega); have r8 := xL_r t0 (k := 9 + p1) (by omega) (by omega); have r9 := xL_r t0 (k := 27 + p1) (by omega) (by omega); have r5 := xL_r t0 (k := 45 + p1) (by omega) (by omega); exact ⟨(by first | (have e9 := vg.1 (by clear vg; omega); clear vg; omega) | (have e9 := vg.2.1 (by clear vg; omega); clear vg; omega) | (have e9 := vg.2.2.1 (by clear vg; omega); clear vg; omega) | (have e9 := vg.2.2.2.1 (by clear vg; omega); clear vg; omega) | (have e9 := vg.2.2.2.2.1 (by clear vg; omega); clear vg; omega) | (have e9 := vg.2.2.2.2.2.1 (by clear vg; omega); clear vg; omega) | (have e9 := vg.2.2.2.2.2.2.1 (by clear vg; omega); clear vg; omega) | (have e9 := vg.2.2.2.2.2.2.2.1 (by clear vg; omega); clear vg; omega) | (have e9 := vg.2.2.2.2.2.2.2.2.1 (by clear vg; omega); clear vg; omega) | (have e9 := vg.2.2.2.2.2.2.2.2.2 (by clear vg; omega); clear vg; omega)), (xL_f t0 (fun a9 b9 y9 => (zwr_r e2 (by unfold zDm zDe at y9; omega))) (zwr_r e2 (by first | decide | exact (absurd ·.1 (by decide)) | exact (absurd ·.2 (by decide)) | omega)) (zwr_r e2 (by first | decide | exact (absurd ·.1 (by decide)) | exact (absurd ·.2 (by decide)) | omega)) (fun b9 => (zwr_r e2 (by first | decide | exact (absurd ·.1 (by decide)) | exact (absurd ·.2 (by decide)) | omega))) (fun b9 => (zwr_r e2 (by first | decide | exact (absurd ·.1 (by decide)) | exact (absurd ·.2 (by decide)) | omega))))⟩)⟩
      · refine zj_aload_n (zdk ttX11_of 11 rfl rfl) rfl (by decide) ?_
        refine zj_getr (r := 4) (zdk ttX11_of 12 rfl rfl) zf_RX11_19 rfl (k_M s3) (rfM_7 s3) ?_
        refine zj_iload_n (zdk ttX11_of 13 rfl rfl) rfl ?_
        have b67 : -2147483648 ≤ (h.2 4 p1) ∧ (h.2 4 p1) ≤ 2147483647 := abM_4 s0 p1
        refine zj_iald (v := (h.2 4 p1)) (zdk ttX11_of 14 rfl rfl) (kaM_4 s3) (by decide) (by omega) (zwr_r e2 (by first | decide | exact (absurd ·.1 (by decide)) | exact (absurd ·.2 (by decide)) | omega)) ?_
        have f68 : zfr [0] [20, 21] h h1 := zfr_wf (zfr_r _ _ _) e2 rfl
        exact zj_iret rfl (zdk ttX11_of 15 rfl rfl) (Nat.le_refl _) (Nat.le_refl _) ⟨(h.2 4 p1), rfl, by omega, s3, f68, (by intro z t0; have g0 := xL_g t0; have n1 : h1.2 0 6 = h.2 0 6 := zwr_r e2 (by first | decide | exact (absurd ·.1 (by decide)) | exact (absurd ·.2 (by decide)) | omega); have n2 : h1.2 1 (9 + p1) = h.2 1 (9 + p1) := zwr_r e2 (by first | decide | exact (absurd ·.1 (by decide)) | exact (absurd ·.2 (by decide)) | omega); have n3 : h1.2 1 (27 + p1) = h.2 1 (27 + p1) := zwr_r e2 (by first | decide | exact (absurd ·.1 (by decide)) | exact (absurd ·.2 (by decide)) | omega); have vf := vOf_f p1 p2 z; have i0 : 0 ≤ p1 ∧ p1 < z.e.n := (by omega); have vg := vf.2 i0; clear vf; have i1 := xL_i t0 i0.1 (by omega); have r8 := xL_r t0 (k := 9 + p1) (by omega) (by omega); have r9 := xL_r t0 (k := 27 + p1) (by omega) (by omega); have r5 := xL_r t0 (k := 45 + p1) (by omega) (by omega); exact ⟨(by first | (have e9 := vg.1 (by clear vg; omega); clear vg; omega) | (have e9 := vg.2.1 (by clear vg; omega); clear vg; omega) | (have e9 := vg.2.2.1 (by clear vg; omega); clear vg; omega) | (have e9 := vg.2.2.2.1 (by clear vg; omega); clear vg; omega) | (have e9 := vg.2.2.2.2.1 (by clear vg; omega); clear vg; omega) | (have e9 := vg.2.2.2.2.2.1 (by clear vg; omega); clear vg; omega) | (have e9 := vg.2.2.2.2.2.2.1 (by clear vg; omega); clear vg; omega) | (have e9 := vg.2.2.2.2.2.2.2.1 (by clear vg; omega); clear vg; omega) | (have e9 := vg.2.2.2.2.2.2.2.2.1 (by clear vg; omega); clear vg; omega) | (have e9 := vg.2.2.2.2.2.2.2.2.2 (by clear vg; omega); clear vg; omega)), (xL_f t0 (fun a9 b9 y9 => (zwr_r e2 (by unfold zDm zDe at y9; omega))) (zwr_r e2 (by first | decide | exact (absurd ·.1 (by decide)) | exact (absurd ·.2 (by decide)) | omega)) (zwr_r e2 (by first | decide | exact (absurd ·.1 (by decide)) | exact (absurd ·.2 (by decide)) | omega)) (fun b9 => (zwr_r e2 (by first | decide | exact (absurd ·.1 (by decide)) | exact (absurd ·.2 (by decide)) | omega))) (fun b9 => (zwr_r e2 (by first | decide | exact (absurd ·.1 (by decide)) | exact (absurd ·.2 (by decide)) | omega))))⟩)⟩
    · exact absurd c11 (by omega)

abbrev q2_X11_book (h : zM) (p1 : Int) (p2 : Int) : Option zV → zM → Prop := zqi fun v h' => ((-2147483648) ≤ v ∧ v ≤ 2147483647) ∧ okM h' ∧ zfr [0] [] h h' ∧ (∀ z, xL h z → v = vBook p1 p2 z ∧ xL h' z)
set_option maxRecDepth 100000 in
set_option maxHeartbeats 4000000 in
theorem s2_X11_book (l : Launch) (h : zM) (p1 : Int) (p2 : Int) (s0 : okM h) (b_p1 : (-2147483648) ≤ p1 ∧ p1 ≤ 2147483647) (b_p2 : (-2147483648) ≤ p2 ∧ p2 ≤ 2147483647) : zT shM l yX11_book cX11_book 3 (some .int) (rmL 2) 0 0 [.inr 0, .inl p1, .inl p2] h (q2_X11_book h p1 p2) := by
  refine zT_of (by decide +kernel) (L0 := [some (.inr 0), some (.inl p1), some (.inl p2)]) rfl (Nat.le_of_ble_eq_true rfl) ?_
  refine zj_aload_n (zdk ttX11_book 0 rfl rfl) rfl (by decide) ?_
  refine zj_iconst (zdk ttX11_book 1 rfl rfl) ?_
  refine zj_puti (zdk ttX11_book 2 rfl rfl) zf_RX11_120 rfl (k_M s0) (Or.inl zw_RX11_120) (k2 := 0) rfl (fun h1 e2 => ?_)
  refine zj_aload_n (zdk ttX11_book 3 rfl rfl) rfl (by decide) ?_
  refine zj_iload_n (zdk ttX11_book 4 rfl rfl) rfl ?_
  refine zj_iconst (zdk ttX11_book 5 rfl rfl) ?_
  refine zj_aload_n (zdk ttX11_book 6 rfl rfl) rfl (by decide) ?_
  have s3 : okM h1 := fwM_0 s0 e2 (by omega)
  refine zj_getr (r := 1) (zdk ttX11_book 7 rfl rfl) zf_RX11_7 rfl (k_M s3) (rfM_1 s3) ?_
  refine zj_iconst (zdk ttX11_book 8 rfl rfl) ?_
  have b4 : 0 ≤ (h.2 1 2) ∧ (h.2 1 2) ≤ 150 := (rM_b s0 1 2 (by decide)).2 (by decide)
  refine zj_iald (v := (h.2 1 2)) (zdk ttX11_book 9 rfl rfl) (kaM_1 s3) (by decide) (by omega) (zwr_r e2 (by first | decide | exact (absurd ·.1 (by decide)) | exact (absurd ·.2 (by decide)) | omega)) ?_
  refine zj_iconst (zdk ttX11_book 10 rfl rfl) ?_
  refine zj_isub (zdk ttX11_book 11 rfl rfl) ?_
  refine zj_callV (av := [.inl p1, .inl 0, .inl ((h.2 1 2) - 1)]) (st := []) (zdk ttX11_book 12 rfl rfl) mb_X11_isIn mv_RX11_139 (ci := 11) rfl rfl (k_M s3) rfl rfl (Nat.le_of_ble_eq_true rfl) (s_X11_isIn l h1 p1 0 ((h.2 1 2) - 1) s3 (by omega) (by omega) (by omega)) (rm_ok (by decide) (by decide)) (zq_i fun v6 h7 q5 => ?_)
  obtain ⟨rfl, ⟨rfl, b8⟩ | ⟨rfl, b8⟩⟩ := q5
  · refine zj_if_eq (t := 45) (zdk ttX11_book 13 rfl rfl) (by decide) (by decide) (fun c9 => ?_) (fun c9 => ?_)
    · refine zj_bipush (zdk ttX11_book 29 rfl rfl) (by decide) ?_
      have f10 : zfr [0] [] h h1 := zfr_wf (zfr_r _ _ _) e2 rfl
      exact zj_iret rfl (zdk ttX11_book 30 rfl rfl) (Nat.le_refl _) (Nat.le_refl _) ⟨(-2), rfl, by omega, s3, f10, (by intro z t0; have r2 := xL_r t0 (k := 2) (by decide) (by decide); unfold vBook; rw [if_neg (by omega)]; exact ⟨rfl, (xL_f t0 (fun a9 b9 y9 => (zwr_r e2 (by unfold zDm zDe at y9; omega))) (zwr_r e2 (by first | decide | exact (absurd ·.1 (by decide)) | exact (absurd ·.2 (by decide)) | omega)) (zwr_r e2 (by first | decide | exact (absurd ·.1 (by decide)) | exact (absurd ·.2 (by decide)) | omega)) (fun b9 => (zwr_r e2 (by first | decide | exact (absurd ·.1 (by decide)) | exact (absurd ·.2 (by decide)) | omega))) (fun b9 => (zwr_r e2 (by first | decide | exact (absurd ·.1 (by decide)) | exact (absurd ·.2 (by decide)) | omega))))⟩)⟩
    · exact absurd c9 (by omega)
  · refine zj_if_eq (t := 45) (zdk ttX11_book 13 rfl rfl) (by decide) (by decide) (fun c11 => ?_) (fun c11 => ?_)
    · exact absurd c11 (by omega)
    · refine zj_aload_n (zdk ttX11_book 14 rfl rfl) rfl (by decide) ?_
      refine zj_iload_n (zdk ttX11_book 15 rfl rfl) rfl ?_
      refine zj_iconst (zdk ttX11_book 16 rfl rfl) ?_
      refine zj_iconst (zdk ttX11_book 17 rfl rfl) ?_
      refine zj_callV (av := [.inl p2, .inl 0, .inl 3]) (st := []) (zdk ttX11_book 18 rfl rfl) mb_X11_isIn mv_RX11_139 (ci := 11) rfl rfl (k_M s3) rfl rfl (Nat.le_of_ble_eq_true rfl) (s_X11_isIn l h1 p2 0 3 s3 (by omega) (by omega) (by omega)) (rm_ok (by decide) (by decide)) (zq_i fun v13 h14 q12 => ?_)
      obtain ⟨rfl, ⟨rfl, b15⟩ | ⟨rfl, b15⟩⟩ := q12
      · refine zj_if_eq (t := 45) (zdk ttX11_book 19 rfl rfl) (by decide) (by decide) (fun c16 => ?_) (fun c16 => ?_)
        · refine zj_bipush (zdk ttX11_book 29 rfl rfl) (by decide) ?_
          have f17 : zfr [0] [] h h1 := zfr_wf (zfr_r _ _ _) e2 rfl
          exact zj_iret rfl (zdk ttX11_book 30 rfl rfl) (Nat.le_refl _) (Nat.le_refl _) ⟨(-2), rfl, by omega, s3, f17, (by intro z t0; have r2 := xL_r t0 (k := 2) (by decide) (by decide); unfold vBook; rw [if_neg (by omega)]; exact ⟨rfl, (xL_f t0 (fun a9 b9 y9 => (zwr_r e2 (by unfold zDm zDe at y9; omega))) (zwr_r e2 (by first | decide | exact (absurd ·.1 (by decide)) | exact (absurd ·.2 (by decide)) | omega)) (zwr_r e2 (by first | decide | exact (absurd ·.1 (by decide)) | exact (absurd ·.2 (by decide)) | omega)) (fun b9 => (zwr_r e2 (by first | decide | exact (absurd ·.1 (by decide)) | exact (absurd ·.2 (by decide)) | omega))) (fun b9 => (zwr_r e2 (by first | decide | exact (absurd ·.1 (by decide)) | exact (absurd ·.2 (by decide)) | omega))))⟩)⟩
        · exact absurd c16 (by omega)
      · refine zj_if_eq (t := 45) (zdk ttX11_book 19 rfl rfl) (by decide) (by decide) (fun c18 => ?_) (fun c18 => ?_)
        · exact absurd c18 (by omega)
        · refine zj_aload_n (zdk ttX11_book 20 rfl rfl) rfl (by decide) ?_
          refine zj_getr (r := 6) (zdk ttX11_book 21 rfl rfl) zf_RX11_25 rfl (k_M s3) (rfM_9 s3) ?_
          refine zj_iconst (zdk ttX11_book 22 rfl rfl) ?_
          refine zj_iload_n (zdk ttX11_book 23 rfl rfl) rfl ?_
          refine zj_imul (zdk ttX11_book 24 rfl rfl) ?_
          refine zj_iload_n (zdk ttX11_book 25 rfl rfl) rfl ?_
          refine zj_iadd (zdk ttX11_book 26 rfl rfl) ?_
          have b19 : -2147483648 ≤ (h.2 6 ((4 * p1) + p2)) ∧ (h.2 6 ((4 * p1) + p2)) ≤ 2147483647 := abM_6 s0 ((4 * p1) + p2)
          refine zj_iald (v := (h.2 6 ((4 * p1) + p2))) (zdk ttX11_book 27 rfl rfl) (kaM_6 s3) (by decide) (by omega) (zwr_r e2 (by first | decide | exact (absurd ·.1 (by decide)) | exact (absurd ·.2 (by decide)) | omega)) ?_
          refine zj_goto (t := 47) (zdk ttX11_book 28 rfl rfl) (by decide) ?_
          have f20 : zfr [0] [] h h1 := zfr_wf (zfr_r _ _ _) e2 rfl
          exact zj_iret rfl (zdk ttX11_book 30 rfl rfl) (Nat.le_refl _) (Nat.le_refl _) ⟨(h.2 6 ((4 * p1) + p2)), rfl, by omega, s3, f20, (by intro z t0; have r2 := xL_r t0 (k := 2) (by decide) (by decide); unfold vBook; rw [if_pos (by omega)]; exact ⟨(by have w2 := t0.1.2.1.2.1; exact xL_b t0 (by omega) (by omega)), (xL_f t0 (fun a9 b9 y9 => (zwr_r e2 (by unfold zDm zDe at y9; omega))) (zwr_r e2 (by first | decide | exact (absurd ·.1 (by decide)) | exact (absurd ·.2 (by decide)) | omega)) (zwr_r e2 (by first | decide | exact (absurd ·.1 (by decide)) | exact (absurd ·.2 (by decide)) | omega)) (fun b9 => (zwr_r e2 (by first | decide | exact (absurd ·.1 (by decide)) | exact (absurd ·.2 (by decide)) | omega))) (fun b9 => (zwr_r e2 (by first | decide | exact (absurd ·.1 (by decide)) | exact (absurd ·.2 (by decide)) | omega))))⟩)⟩

abbrev q2_X11_look (h : zM) (p1 : Int) : Option zV → zM → Prop := zqi fun v h' => ((-2147483648) ≤ v ∧ v ≤ 2147483647) ∧ okM h' ∧ zfr [0] [] h h' ∧ (∀ z, xL h z → (p1 = 1 → zHs v z.e.n z.x.1) ∧ (¬ p1 = 1 → v = vLook p1 z) ∧ xL h' z)
set_option maxRecDepth 100000 in
set_option maxHeartbeats 4000000 in
theorem s2_X11_look (l : Launch) (h : zM) (p1 : Int) (s0 : okM h) (b_p1 : (-2147483648) ≤ p1 ∧ p1 ≤ 2147483647) : zT shM l yX11_look cX11_look 2 (some .int) (rmL 3) 0 0 [.inr 0, .inl p1] h (q2_X11_look h p1) := by
  refine zT_of (by decide +kernel) (L0 := [some (.inr 0), some (.inl p1)]) rfl (Nat.le_of_ble_eq_true rfl) ?_
  refine zj_aload_n (zdk ttX11_look 0 rfl rfl) rfl (by decide) ?_
  refine zj_iconst (zdk ttX11_look 1 rfl rfl) ?_
  refine zj_puti (zdk ttX11_look 2 rfl rfl) zf_RX11_120 rfl (k_M s0) (Or.inl zw_RX11_120) (k2 := 0) rfl (fun h1 e2 => ?_)
  refine zj_iload_n (zdk ttX11_look 3 rfl rfl) rfl ?_
  refine zj_if_ne (t := 14) (zdk ttX11_look 4 rfl rfl) (by decide) (by omega) (fun c3 => ?_) (fun c3 => ?_)
  · refine zj_iload_n (zdk ttX11_look 8 rfl rfl) rfl ?_
    refine zj_iconst (zdk ttX11_look 9 rfl rfl) ?_
    refine zj_icmp_ne (t := 24) (zdk ttX11_look 10 rfl rfl) (by decide) (by omega) (by decide) (fun c4 => ?_) (fun c4 => ?_)
    · refine zj_iload_n (zdk ttX11_look 14 rfl rfl) rfl ?_
      refine zj_iconst (zdk ttX11_look 15 rfl rfl) ?_
      refine zj_icmp_ne (t := 36) (zdk ttX11_look 16 rfl rfl) (by decide) (by omega) (by decide) (fun c5 => ?_) (fun c5 => ?_)
      · refine zj_iload_n (zdk ttX11_look 22 rfl rfl) rfl ?_
        refine zj_iconst (zdk ttX11_look 23 rfl rfl) ?_
        refine zj_icmp_ne (t := 48) (zdk ttX11_look 24 rfl rfl) (by decide) (by omega) (by decide) (fun c6 => ?_) (fun c6 => ?_)
        · refine zj_iload_n (zdk ttX11_look 30 rfl rfl) rfl ?_
          refine zj_iconst (zdk ttX11_look 31 rfl rfl) ?_
          refine zj_icmp_ne (t := 60) (zdk ttX11_look 32 rfl rfl) (by decide) (by omega) (by decide) (fun c7 => ?_) (fun c7 => ?_)
          · refine zj_iload_n (zdk ttX11_look 38 rfl rfl) rfl ?_
            refine zj_iconst (zdk ttX11_look 39 rfl rfl) ?_
            refine zj_icmp_ne (t := 73) (zdk ttX11_look 40 rfl rfl) (by decide) (by omega) (by decide) (fun c8 => ?_) (fun c8 => ?_)
            · refine zj_iload_n (zdk ttX11_look 46 rfl rfl) rfl ?_
              refine zj_bipush (zdk ttX11_look 47 rfl rfl) (by decide) ?_
              refine zj_icmp_ne (t := 89) (zdk ttX11_look 48 rfl rfl) (by decide) (by omega) (by decide) (fun c9 => ?_) (fun c9 => ?_)
              · refine zj_iload_n (zdk ttX11_look 56 rfl rfl) rfl ?_
                refine zj_bipush (zdk ttX11_look 57 rfl rfl) (by decide) ?_
                refine zj_icmp_ne (t := 103) (zdk ttX11_look 58 rfl rfl) (by decide) (by omega) (by decide) (fun c10 => ?_) (fun c10 => ?_)
                · refine zj_iload_n (zdk ttX11_look 64 rfl rfl) rfl ?_
                  refine zj_bipush (zdk ttX11_look 65 rfl rfl) (by decide) ?_
                  refine zj_icmp_ne (t := 116) (zdk ttX11_look 66 rfl rfl) (by decide) (by omega) (by decide) (fun c11 => ?_) (fun c11 => ?_)
                  · refine zj_iload_n (zdk ttX11_look 72 rfl rfl) rfl ?_
                    refine zj_bipush (zdk ttX11_look 73 rfl rfl) (by decide) ?_
                    refine zj_icmp_ne (t := 129) (zdk ttX11_look 74 rfl rfl) (by decide) (by omega) (by decide) (fun c12 => ?_) (fun c12 => ?_)
                    · refine zj_iload_n (zdk ttX11_look 80 rfl rfl) rfl ?_
                      refine zj_bipush (zdk ttX11_look 81 rfl rfl) (by decide) ?_
                      refine zj_icmp_ne (t := 142) (zdk ttX11_look 82 rfl rfl) (by decide) (by omega) (by decide) (fun c13 => ?_) (fun c13 => ?_)
                      · refine zj_iload_n (zdk ttX11_look 88 rfl rfl) rfl ?_
                        refine zj_bipush (zdk ttX11_look 89 rfl rfl) (by decide) ?_
                        refine zj_icmp_ne (t := 155) (zdk ttX11_look 90 rfl rfl) (by decide) (by omega) (by decide) (fun c14 => ?_) (fun c14 => ?_)
                        · refine zj_iload_n (zdk ttX11_look 96 rfl rfl) rfl ?_
                          refine zj_bipush (zdk ttX11_look 97 rfl rfl) (by decide) ?_
                          refine zj_icmp_ne (t := 166) (zdk ttX11_look 98 rfl rfl) (by decide) (by omega) (by decide) (fun c15 => ?_) (fun c15 => ?_)
                          · refine zj_iload_n (zdk ttX11_look 102 rfl rfl) rfl ?_
                            refine zj_bipush (zdk ttX11_look 103 rfl rfl) (by decide) ?_
                            refine zj_icmp_ne (t := 177) (zdk ttX11_look 104 rfl rfl) (by decide) (by omega) (by decide) (fun c16 => ?_) (fun c16 => ?_)
                            · refine zj_iload_n (zdk ttX11_look 108 rfl rfl) rfl ?_
                              refine zj_bipush (zdk ttX11_look 109 rfl rfl) (by decide) ?_
                              refine zj_icmp_ne (t := 188) (zdk ttX11_look 110 rfl rfl) (by decide) (by omega) (by decide) (fun c17 => ?_) (fun c17 => ?_)
                              · refine zj_iload_n (zdk ttX11_look 114 rfl rfl) rfl ?_
                                refine zj_bipush (zdk ttX11_look 115 rfl rfl) (by decide) ?_
                                refine zj_icmp_ne (t := 201) (zdk ttX11_look 116 rfl rfl) (by decide) (by omega) (by decide) (fun c18 => ?_) (fun c18 => ?_)
                                · refine zj_ldc_w (z := (-100000)) (zdk ttX11_look 120 rfl rfl) wc_RX11_479 ?_
                                  have s19 : okM h1 := fwM_0 s0 e2 (by omega)
                                  have f20 : zfr [0] [] h h1 := zfr_wf (zfr_r _ _ _) e2 rfl
                                  exact zj_iret rfl (zdk ttX11_look 121 rfl rfl) (Nat.le_refl _) (Nat.le_refl _) ⟨(-100000), rfl, by omega, s19, f20, (by intro z t0; have g0 := xL_g t0; have r0 := xL_r t0 (k := 0) (by decide) (by decide); have r1 := xL_r t0 (k := 1) (by decide) (by decide); have r2 := xL_r t0 (k := 2) (by decide) (by decide); have r3 := xL_r t0 (k := 3) (by decide) (by decide); have r4 := xL_r t0 (k := 4) (by decide) (by decide); have r5 := xL_r t0 (k := 5) (by decide) (by decide); have r6 := xL_r t0 (k := 6) (by decide) (by decide); have r7 := xL_r t0 (k := 7) (by decide) (by decide); have r8 := xL_r t0 (k := 8) (by decide) (by decide); have w7 := t0.1.2.1.2.2.2; have z7 : zwp (1 - (h.2 1 7)) = 1 - (h.2 1 7) := zwp_s (by omega); have vf := vLook_f p1 z; exact ⟨fun q9 => absurd q9 (by omega), (fun q9 => by first | (have e9 := vf.1 (by clear vf; omega); clear vf; omega) | (have e9 := vf.2.1 (by clear vf; omega); clear vf; omega) | (have e9 := vf.2.2.1 (by clear vf; omega); clear vf; omega) | (have e9 := vf.2.2.2.1 (by clear vf; omega); clear vf; omega) | (have e9 := vf.2.2.2.2.1 (by clear vf; omega); clear vf; omega) | (have e9 := vf.2.2.2.2.2.1 (by clear vf; omega); clear vf; omega) | (have e9 := vf.2.2.2.2.2.2.1 (by clear vf; omega); clear vf; omega) | (have e9 := vf.2.2.2.2.2.2.2.1 (by clear vf; omega); clear vf; omega) | (have e9 := vf.2.2.2.2.2.2.2.2.1 (by clear vf; omega); clear vf; omega) | (have e9 := vf.2.2.2.2.2.2.2.2.2.1 (by clear vf; omega); clear vf; omega) | (have e9 := vf.2.2.2.2.2.2.2.2.2.2.1 (by clear vf; omega); clear vf; omega) | (have e9 := vf.2.2.2.2.2.2.2.2.2.2.2.1 (by clear vf; omega); clear vf; omega) | (have e9 := vf.2.2.2.2.2.2.2.2.2.2.2.2.1 (by clear vf; omega); clear vf; omega) | (have e9 := vf.2.2.2.2.2.2.2.2.2.2.2.2.2.1 (by clear vf; omega); clear vf; omega) | (have e9 := vf.2.2.2.2.2.2.2.2.2.2.2.2.2.2.1 (by clear vf; omega); clear vf; omega) | (have e9 := vf.2.2.2.2.2.2.2.2.2.2.2.2.2.2.2 (by clear vf; omega); clear vf; omega)), (xL_f t0 (fun a9 b9 y9 => (zwr_r e2 (by unfold zDm zDe at y9; omega))) (zwr_r e2 (by first | decide | exact (absurd ·.1 (by decide)) | exact (absurd ·.2 (by decide)) | omega)) (zwr_r e2 (by first | decide | exact (absurd ·.1 (by decide)) | exact (absurd ·.2 (by decide)) | omega)) (fun b9 => (zwr_r e2 (by first | decide | exact (absurd ·.1 (by decide)) | exact (absurd ·.2 (by decide)) | omega))) (fun b9 => (zwr_r e2 (by first | decide | exact (absurd ·.1 (by decide)) | exact (absurd ·.2 (by decide)) | omega))))⟩)⟩
                                · refine zj_aload_n (zdk ttX11_look 117 rfl rfl) rfl (by decide) ?_
                                  have b21 : 0 ≤ (h.2 0 3) ∧ (h.2 0 3) ≤ 6 := fM_3 s0
                                  have s22 : okM h1 := fwM_0 s0 e2 (by omega)
                                  refine zj_geti (v := (h.2 0 3)) (zdk ttX11_look 118 rfl rfl) zf_RX11_123 rfl (k_M s22) (zwr_r e2 (by first | decide | exact (absurd ·.1 (by decide)) | exact (absurd ·.2 (by decide)) | omega)) ?_
                                  refine zj_goto (t := 204) (zdk ttX11_look 119 rfl rfl) (by decide) ?_
                                  have f23 : zfr [0] [] h h1 := zfr_wf (zfr_r _ _ _) e2 rfl
                                  exact zj_iret rfl (zdk ttX11_look 121 rfl rfl) (Nat.le_refl _) (Nat.le_refl _) ⟨(h.2 0 3), rfl, by omega, s22, f23, (by intro z t0; have g0 := xL_g t0; have r0 := xL_r t0 (k := 0) (by decide) (by decide); have r1 := xL_r t0 (k := 1) (by decide) (by decide); have r2 := xL_r t0 (k := 2) (by decide) (by decide); have r3 := xL_r t0 (k := 3) (by decide) (by decide); have r4 := xL_r t0 (k := 4) (by decide) (by decide); have r5 := xL_r t0 (k := 5) (by decide) (by decide); have r6 := xL_r t0 (k := 6) (by decide) (by decide); have r7 := xL_r t0 (k := 7) (by decide) (by decide); have r8 := xL_r t0 (k := 8) (by decide) (by decide); have w7 := t0.1.2.1.2.2.2; have z7 : zwp (1 - (h.2 1 7)) = 1 - (h.2 1 7) := zwp_s (by omega); have vf := vLook_f p1 z; exact ⟨fun q9 => absurd q9 (by omega), (fun q9 => by first | (have e9 := vf.1 (by clear vf; omega); clear vf; omega) | (have e9 := vf.2.1 (by clear vf; omega); clear vf; omega) | (have e9 := vf.2.2.1 (by clear vf; omega); clear vf; omega) | (have e9 := vf.2.2.2.1 (by clear vf; omega); clear vf; omega) | (have e9 := vf.2.2.2.2.1 (by clear vf; omega); clear vf; omega) | (have e9 := vf.2.2.2.2.2.1 (by clear vf; omega); clear vf; omega) | (have e9 := vf.2.2.2.2.2.2.1 (by clear vf; omega); clear vf; omega) | (have e9 := vf.2.2.2.2.2.2.2.1 (by clear vf; omega); clear vf; omega) | (have e9 := vf.2.2.2.2.2.2.2.2.1 (by clear vf; omega); clear vf; omega) | (have e9 := vf.2.2.2.2.2.2.2.2.2.1 (by clear vf; omega); clear vf; omega) | (have e9 := vf.2.2.2.2.2.2.2.2.2.2.1 (by clear vf; omega); clear vf; omega) | (have e9 := vf.2.2.2.2.2.2.2.2.2.2.2.1 (by clear vf; omega); clear vf; omega) | (have e9 := vf.2.2.2.2.2.2.2.2.2.2.2.2.1 (by clear vf; omega); clear vf; omega) | (have e9 := vf.2.2.2.2.2.2.2.2.2.2.2.2.2.1 (by clear vf; omega); clear vf; omega) | (have e9 := vf.2.2.2.2.2.2.2.2.2.2.2.2.2.2.1 (by clear vf; omega); clear vf; omega) | (have e9 := vf.2.2.2.2.2.2.2.2.2.2.2.2.2.2.2 (by clear vf; omega); clear vf; omega)), (xL_f t0 (fun a9 b9 y9 => (zwr_r e2 (by unfold zDm zDe at y9; omega))) (zwr_r e2 (by first | decide | exact (absurd ·.1 (by decide)) | exact (absurd ·.2 (by decide)) | omega)) (zwr_r e2 (by first | decide | exact (absurd ·.1 (by decide)) | exact (absurd ·.2 (by decide)) | omega)) (fun b9 => (zwr_r e2 (by first | decide | exact (absurd ·.1 (by decide)) | exact (absurd ·.2 (by decide)) | omega))) (fun b9 => (zwr_r e2 (by first | decide | exact (absurd ·.1 (by decide)) | exact (absurd ·.2 (by decide)) | omega))))⟩)⟩
                              · refine zj_aload_n (zdk ttX11_look 111 rfl rfl) rfl (by decide) ?_
                                have b24 : -2147483648 ≤ (h.2 0 37) ∧ (h.2 0 37) ≤ 2147483647 := fM_37 s0
                                have s25 : okM h1 := fwM_0 s0 e2 (by omega)
                                refine zj_geti (v := (h.2 0 37)) (zdk ttX11_look 112 rfl rfl) zf_RX11_282 rfl (k_M s25) (zwr_r e2 (by first | decide | exact (absurd ·.1 (by decide)) | exact (absurd ·.2 (by decide)) | omega)) ?_
                                have f26 : zfr [0] [] h h1 := zfr_wf (zfr_r _ _ _) e2 rfl
                                exact zj_iret rfl (zdk ttX11_look 113 rfl rfl) (Nat.le_refl _) (Nat.le_refl _) ⟨(h.2 0 37), rfl, by omega, s25, f26, (by intro z t0; have g0 := xL_g t0; have r0 := xL_r t0 (k := 0) (by decide) (by decide); have r1 := xL_r t0 (k := 1) (by decide) (by decide); have r2 := xL_r t0 (k := 2) (by decide) (by decide); have r3 := xL_r t0 (k := 3) (by decide) (by decide); have r4 := xL_r t0 (k := 4) (by decide) (by decide); have r5 := xL_r t0 (k := 5) (by decide) (by decide); have r6 := xL_r t0 (k := 6) (by decide) (by decide); have r7 := xL_r t0 (k := 7) (by decide) (by decide); have r8 := xL_r t0 (k := 8) (by decide) (by decide); have w7 := t0.1.2.1.2.2.2; have z7 : zwp (1 - (h.2 1 7)) = 1 - (h.2 1 7) := zwp_s (by omega); have vf := vLook_f p1 z; exact ⟨fun q9 => absurd q9 (by omega), (fun q9 => by first | (have e9 := vf.1 (by clear vf; omega); clear vf; omega) | (have e9 := vf.2.1 (by clear vf; omega); clear vf; omega) | (have e9 := vf.2.2.1 (by clear vf; omega); clear vf; omega) | (have e9 := vf.2.2.2.1 (by clear vf; omega); clear vf; omega) | (have e9 := vf.2.2.2.2.1 (by clear vf; omega); clear vf; omega) | (have e9 := vf.2.2.2.2.2.1 (by clear vf; omega); clear vf; omega) | (have e9 := vf.2.2.2.2.2.2.1 (by clear vf; omega); clear vf; omega) | (have e9 := vf.2.2.2.2.2.2.2.1 (by clear vf; omega); clear vf; omega) | (have e9 := vf.2.2.2.2.2.2.2.2.1 (by clear vf; omega); clear vf; omega) | (have e9 := vf.2.2.2.2.2.2.2.2.2.1 (by clear vf; omega); clear vf; omega) | (have e9 := vf.2.2.2.2.2.2.2.2.2.2.1 (by clear vf; omega); clear vf; omega) | (have e9 := vf.2.2.2.2.2.2.2.2.2.2.2.1 (by clear vf; omega); clear vf; omega) | (have e9 := vf.2.2.2.2.2.2.2.2.2.2.2.2.1 (by clear vf; omega); clear vf; omega) | (have e9 := vf.2.2.2.2.2.2.2.2.2.2.2.2.2.1 (by clear vf; omega); clear vf; omega) | (have e9 := vf.2.2.2.2.2.2.2.2.2.2.2.2.2.2.1 (by clear vf; omega); clear vf; omega) | (have e9 := vf.2.2.2.2.2.2.2.2.2.2.2.2.2.2.2 (by clear vf; omega); clear vf; omega)), (xL_f t0 (fun a9 b9 y9 => (zwr_r e2 (by unfold zDm zDe at y9; omega))) (zwr_r e2 (by first | decide | exact (absurd ·.1 (by decide)) | exact (absurd ·.2 (by decide)) | omega)) (zwr_r e2 (by first | decide | exact (absurd ·.1 (by decide)) | exact (absurd ·.2 (by decide)) | omega)) (fun b9 => (zwr_r e2 (by first | decide | exact (absurd ·.1 (by decide)) | exact (absurd ·.2 (by decide)) | omega))) (fun b9 => (zwr_r e2 (by first | decide | exact (absurd ·.1 (by decide)) | exact (absurd ·.2 (by decide)) | omega))))⟩)⟩
                            · refine zj_aload_n (zdk ttX11_look 105 rfl rfl) rfl (by decide) ?_
                              have b27 : 0 ≤ (h.2 0 35) ∧ (h.2 0 35) ≤ 16 := fM_35 s0
                              have s28 : okM h1 := fwM_0 s0 e2 (by omega)
                              refine zj_geti (v := (h.2 0 35)) (zdk ttX11_look 106 rfl rfl) zf_RX11_288 rfl (k_M s28) (zwr_r e2 (by first | decide | exact (absurd ·.1 (by decide)) | exact (absurd ·.2 (by decide)) | omega)) ?_
                              have f29 : zfr [0] [] h h1 := zfr_wf (zfr_r _ _ _) e2 rfl
                              exact zj_iret rfl (zdk ttX11_look 107 rfl rfl) (Nat.le_refl _) (Nat.le_refl _) ⟨(h.2 0 35), rfl, by omega, s28, f29, (by intro z t0; have g0 := xL_g t0; have r0 := xL_r t0 (k := 0) (by decide) (by decide); have r1 := xL_r t0 (k := 1) (by decide) (by decide); have r2 := xL_r t0 (k := 2) (by decide) (by decide); have r3 := xL_r t0 (k := 3) (by decide) (by decide); have r4 := xL_r t0 (k := 4) (by decide) (by decide); have r5 := xL_r t0 (k := 5) (by decide) (by decide); have r6 := xL_r t0 (k := 6) (by decide) (by decide); have r7 := xL_r t0 (k := 7) (by decide) (by decide); have r8 := xL_r t0 (k := 8) (by decide) (by decide); have w7 := t0.1.2.1.2.2.2; have z7 : zwp (1 - (h.2 1 7)) = 1 - (h.2 1 7) := zwp_s (by omega); have vf := vLook_f p1 z; exact ⟨fun q9 => absurd q9 (by omega), (fun q9 => by first | (have e9 := vf.1 (by clear vf; omega); clear vf; omega) | (have e9 := vf.2.1 (by clear vf; omega); clear vf; omega) | (have e9 := vf.2.2.1 (by clear vf; omega); clear vf; omega) | (have e9 := vf.2.2.2.1 (by clear vf; omega); clear vf; omega) | (have e9 := vf.2.2.2.2.1 (by clear vf; omega); clear vf; omega) | (have e9 := vf.2.2.2.2.2.1 (by clear vf; omega); clear vf; omega) | (have e9 := vf.2.2.2.2.2.2.1 (by clear vf; omega); clear vf; omega) | (have e9 := vf.2.2.2.2.2.2.2.1 (by clear vf; omega); clear vf; omega) | (have e9 := vf.2.2.2.2.2.2.2.2.1 (by clear vf; omega); clear vf; omega) | (have e9 := vf.2.2.2.2.2.2.2.2.2.1 (by clear vf; omega); clear vf; omega) | (have e9 := vf.2.2.2.2.2.2.2.2.2.2.1 (by clear vf; omega); clear vf; omega) | (have e9 := vf.2.2.2.2.2.2.2.2.2.2.2.1 (by clear vf; omega); clear vf; omega) | (have e9 := vf.2.2.2.2.2.2.2.2.2.2.2.2.1 (by clear vf; omega); clear vf; omega) | (have e9 := vf.2.2.2.2.2.2.2.2.2.2.2.2.2.1 (by clear vf; omega); clear vf; omega) | (have e9 := vf.2.2.2.2.2.2.2.2.2.2.2.2.2.2.1 (by clear vf; omega); clear vf; omega) | (have e9 := vf.2.2.2.2.2.2.2.2.2.2.2.2.2.2.2 (by clear vf; omega); clear vf; omega)), (xL_f t0 (fun a9 b9 y9 => (zwr_r e2 (by unfold zDm zDe at y9; omega))) (zwr_r e2 (by first | decide | exact (absurd ·.1 (by decide)) | exact (absurd ·.2 (by decide)) | omega)) (zwr_r e2 (by first | decide | exact (absurd ·.1 (by decide)) | exact (absurd ·.2 (by decide)) | omega)) (fun b9 => (zwr_r e2 (by first | decide | exact (absurd ·.1 (by decide)) | exact (absurd ·.2 (by decide)) | omega))) (fun b9 => (zwr_r e2 (by first | decide | exact (absurd ·.1 (by decide)) | exact (absurd ·.2 (by decide)) | omega))))⟩)⟩
                          · refine zj_aload_n (zdk ttX11_look 99 rfl rfl) rfl (by decide) ?_
                            have b30 : 0 ≤ (h.2 0 33) ∧ (h.2 0 33) ≤ 16 := fM_33 s0
                            have s31 : okM h1 := fwM_0 s0 e2 (by omega)
                            refine zj_geti (v := (h.2 0 33)) (zdk ttX11_look 100 rfl rfl) zf_RX11_285 rfl (k_M s31) (zwr_r e2 (by first | decide | exact (absurd ·.1 (by decide)) | exact (absurd ·.2 (by decide)) | omega)) ?_
                            have f32 : zfr [0] [] h h1 := zfr_wf (zfr_r _ _ _) e2 rfl
                            exact zj_iret rfl (zdk ttX11_look 101 rfl rfl) (Nat.le_refl _) (Nat.le_refl _) ⟨(h.2 0 33), rfl, by omega, s31, f32, (by intro z t0; have g0 := xL_g t0; have r0 := xL_r t0 (k := 0) (by decide) (by decide); have r1 := xL_r t0 (k := 1) (by decide) (by decide); have r2 := xL_r t0 (k := 2) (by decide) (by decide); have r3 := xL_r t0 (k := 3) (by decide) (by decide); have r4 := xL_r t0 (k := 4) (by decide) (by decide); have r5 := xL_r t0 (k := 5) (by decide) (by decide); have r6 := xL_r t0 (k := 6) (by decide) (by decide); have r7 := xL_r t0 (k := 7) (by decide) (by decide); have r8 := xL_r t0 (k := 8) (by decide) (by decide); have w7 := t0.1.2.1.2.2.2; have z7 : zwp (1 - (h.2 1 7)) = 1 - (h.2 1 7) := zwp_s (by omega); have vf := vLook_f p1 z; exact ⟨fun q9 => absurd q9 (by omega), (fun q9 => by first | (have e9 := vf.1 (by clear vf; omega); clear vf; omega) | (have e9 := vf.2.1 (by clear vf; omega); clear vf; omega) | (have e9 := vf.2.2.1 (by clear vf; omega); clear vf; omega) | (have e9 := vf.2.2.2.1 (by clear vf; omega); clear vf; omega) | (have e9 := vf.2.2.2.2.1 (by clear vf; omega); clear vf; omega) | (have e9 := vf.2.2.2.2.2.1 (by clear vf; omega); clear vf; omega) | (have e9 := vf.2.2.2.2.2.2.1 (by clear vf; omega); clear vf; omega) | (have e9 := vf.2.2.2.2.2.2.2.1 (by clear vf; omega); clear vf; omega) | (have e9 := vf.2.2.2.2.2.2.2.2.1 (by clear vf; omega); clear vf; omega) | (have e9 := vf.2.2.2.2.2.2.2.2.2.1 (by clear vf; omega); clear vf; omega) | (have e9 := vf.2.2.2.2.2.2.2.2.2.2.1 (by clear vf; omega); clear vf; omega) | (have e9 := vf.2.2.2.2.2.2.2.2.2.2.2.1 (by clear vf; omega); clear vf; omega) | (have e9 := vf.2.2.2.2.2.2.2.2.2.2.2.2.1 (by clear vf; omega); clear vf; omega) | (have e9 := vf.2.2.2.2.2.2.2.2.2.2.2.2.2.1 (by clear vf; omega); clear vf; omega) | (have e9 := vf.2.2.2.2.2.2.2.2.2.2.2.2.2.2.1 (by clear vf; omega); clear vf; omega) | (have e9 := vf.2.2.2.2.2.2.2.2.2.2.2.2.2.2.2 (by clear vf; omega); clear vf; omega)), (xL_f t0 (fun a9 b9 y9 => (zwr_r e2 (by unfold zDm zDe at y9; omega))) (zwr_r e2 (by first | decide | exact (absurd ·.1 (by decide)) | exact (absurd ·.2 (by decide)) | omega)) (zwr_r e2 (by first | decide | exact (absurd ·.1 (by decide)) | exact (absurd ·.2 (by decide)) | omega)) (fun b9 => (zwr_r e2 (by first | decide | exact (absurd ·.1 (by decide)) | exact (absurd ·.2 (by decide)) | omega))) (fun b9 => (zwr_r e2 (by first | decide | exact (absurd ·.1 (by decide)) | exact (absurd ·.2 (by decide)) | omega))))⟩)⟩
                        · refine zj_aload_n (zdk ttX11_look 91 rfl rfl) rfl (by decide) ?_
                          have s33 : okM h1 := fwM_0 s0 e2 (by omega)
                          refine zj_getr (r := 9) (zdk ttX11_look 92 rfl rfl) zf_RX11_34 rfl (k_M s33) (rfM_17 s33) ?_
                          refine zj_iconst (zdk ttX11_look 93 rfl rfl) ?_
                          have b34 : 0 ≤ (h.2 9 0) ∧ (h.2 9 0) ≤ 16 := abM_9 s0 0
                          refine zj_iald (v := (h.2 9 0)) (zdk ttX11_look 94 rfl rfl) (kaM_9 s33) (by decide) (by omega) (zwr_r e2 (by first | decide | exact (absurd ·.1 (by decide)) | exact (absurd ·.2 (by decide)) | omega)) ?_
                          have f35 : zfr [0] [] h h1 := zfr_wf (zfr_r _ _ _) e2 rfl
                          exact zj_iret rfl (zdk ttX11_look 95 rfl rfl) (Nat.le_refl _) (Nat.le_refl _) ⟨(h.2 9 0), rfl, by omega, s33, f35, (by intro z t0; have g0 := xL_g t0; have r0 := xL_r t0 (k := 0) (by decide) (by decide); have r1 := xL_r t0 (k := 1) (by decide) (by decide); have r2 := xL_r t0 (k := 2) (by decide) (by decide); have r3 := xL_r t0 (k := 3) (by decide) (by decide); have r4 := xL_r t0 (k := 4) (by decide) (by decide); have r5 := xL_r t0 (k := 5) (by decide) (by decide); have r6 := xL_r t0 (k := 6) (by decide) (by decide); have r7 := xL_r t0 (k := 7) (by decide) (by decide); have r8 := xL_r t0 (k := 8) (by decide) (by decide); have w7 := t0.1.2.1.2.2.2; have z7 : zwp (1 - (h.2 1 7)) = 1 - (h.2 1 7) := zwp_s (by omega); have vf := vLook_f p1 z; exact ⟨fun q9 => absurd q9 (by omega), (fun q9 => by first | (have e9 := vf.1 (by clear vf; omega); clear vf; omega) | (have e9 := vf.2.1 (by clear vf; omega); clear vf; omega) | (have e9 := vf.2.2.1 (by clear vf; omega); clear vf; omega) | (have e9 := vf.2.2.2.1 (by clear vf; omega); clear vf; omega) | (have e9 := vf.2.2.2.2.1 (by clear vf; omega); clear vf; omega) | (have e9 := vf.2.2.2.2.2.1 (by clear vf; omega); clear vf; omega) | (have e9 := vf.2.2.2.2.2.2.1 (by clear vf; omega); clear vf; omega) | (have e9 := vf.2.2.2.2.2.2.2.1 (by clear vf; omega); clear vf; omega) | (have e9 := vf.2.2.2.2.2.2.2.2.1 (by clear vf; omega); clear vf; omega) | (have e9 := vf.2.2.2.2.2.2.2.2.2.1 (by clear vf; omega); clear vf; omega) | (have e9 := vf.2.2.2.2.2.2.2.2.2.2.1 (by clear vf; omega); clear vf; omega) | (have e9 := vf.2.2.2.2.2.2.2.2.2.2.2.1 (by clear vf; omega); clear vf; omega) | (have e9 := vf.2.2.2.2.2.2.2.2.2.2.2.2.1 (by clear vf; omega); clear vf; omega) | (have e9 := vf.2.2.2.2.2.2.2.2.2.2.2.2.2.1 (by clear vf; omega); clear vf; omega) | (have e9 := vf.2.2.2.2.2.2.2.2.2.2.2.2.2.2.1 (by clear vf; omega); clear vf; omega) | (have e9 := vf.2.2.2.2.2.2.2.2.2.2.2.2.2.2.2 (by clear vf; omega); clear vf; omega)), (xL_f t0 (fun a9 b9 y9 => (zwr_r e2 (by unfold zDm zDe at y9; omega))) (zwr_r e2 (by first | decide | exact (absurd ·.1 (by decide)) | exact (absurd ·.2 (by decide)) | omega)) (zwr_r e2 (by first | decide | exact (absurd ·.1 (by decide)) | exact (absurd ·.2 (by decide)) | omega)) (fun b9 => (zwr_r e2 (by first | decide | exact (absurd ·.1 (by decide)) | exact (absurd ·.2 (by decide)) | omega))) (fun b9 => (zwr_r e2 (by first | decide | exact (absurd ·.1 (by decide)) | exact (absurd ·.2 (by decide)) | omega))))⟩)⟩
                      · refine zj_aload_n (zdk ttX11_look 83 rfl rfl) rfl (by decide) ?_
                        have s36 : okM h1 := fwM_0 s0 e2 (by omega)
                        refine zj_getr (r := 1) (zdk ttX11_look 84 rfl rfl) zf_RX11_7 rfl (k_M s36) (rfM_1 s36) ?_
                        refine zj_iconst (zdk ttX11_look 85 rfl rfl) ?_
                        have b38 : -2147483648 ≤ (h.2 1 1) ∧ (h.2 1 1) ≤ 2147483647 := (rM_b s0 1 1 (by omega)).1
                        refine zj_iald (v := (h.2 1 1)) (zdk ttX11_look 86 rfl rfl) (kaM_1 s36) (by decide) (by omega) (zwr_r e2 (by first | decide | exact (absurd ·.1 (by decide)) | exact (absurd ·.2 (by decide)) | omega)) ?_
                        have f39 : zfr [0] [] h h1 := zfr_wf (zfr_r _ _ _) e2 rfl
                        exact zj_iret rfl (zdk ttX11_look 87 rfl rfl) (Nat.le_refl _) (Nat.le_refl _) ⟨(h.2 1 1), rfl, by omega, s36, f39, (by intro z t0; have g0 := xL_g t0; have r0 := xL_r t0 (k := 0) (by decide) (by decide); have r1 := xL_r t0 (k := 1) (by decide) (by decide); have r2 := xL_r t0 (k := 2) (by decide) (by decide); have r3 := xL_r t0 (k := 3) (by decide) (by decide); have r4 := xL_r t0 (k := 4) (by decide) (by decide); have r5 := xL_r t0 (k := 5) (by decide) (by decide); have r6 := xL_r t0 (k := 6) (by decide) (by decide); have r7 := xL_r t0 (k := 7) (by decide) (by decide); have r8 := xL_r t0 (k := 8) (by decide) (by decide); have w7 := t0.1.2.1.2.2.2; have z7 : zwp (1 - (h.2 1 7)) = 1 - (h.2 1 7) := zwp_s (by omega); have vf := vLook_f p1 z; exact ⟨fun q9 => absurd q9 (by omega), (fun q9 => by first | (have e9 := vf.1 (by clear vf; omega); clear vf; omega) | (have e9 := vf.2.1 (by clear vf; omega); clear vf; omega) | (have e9 := vf.2.2.1 (by clear vf; omega); clear vf; omega) | (have e9 := vf.2.2.2.1 (by clear vf; omega); clear vf; omega) | (have e9 := vf.2.2.2.2.1 (by clear vf; omega); clear vf; omega) | (have e9 := vf.2.2.2.2.2.1 (by clear vf; omega); clear vf; omega) | (have e9 := vf.2.2.2.2.2.2.1 (by clear vf; omega); clear vf; omega) | (have e9 := vf.2.2.2.2.2.2.2.1 (by clear vf; omega); clear vf; omega) | (have e9 := vf.2.2.2.2.2.2.2.2.1 (by clear vf; omega); clear vf; omega) | (have e9 := vf.2.2.2.2.2.2.2.2.2.1 (by clear vf; omega); clear vf; omega) | (have e9 := vf.2.2.2.2.2.2.2.2.2.2.1 (by clear vf; omega); clear vf; omega) | (have e9 := vf.2.2.2.2.2.2.2.2.2.2.2.1 (by clear vf; omega); clear vf; omega) | (have e9 := vf.2.2.2.2.2.2.2.2.2.2.2.2.1 (by clear vf; omega); clear vf; omega) | (have e9 := vf.2.2.2.2.2.2.2.2.2.2.2.2.2.1 (by clear vf; omega); clear vf; omega) | (have e9 := vf.2.2.2.2.2.2.2.2.2.2.2.2.2.2.1 (by clear vf; omega); clear vf; omega) | (have e9 := vf.2.2.2.2.2.2.2.2.2.2.2.2.2.2.2 (by clear vf; omega); clear vf; omega)), (xL_f t0 (fun a9 b9 y9 => (zwr_r e2 (by unfold zDm zDe at y9; omega))) (zwr_r e2 (by first | decide | exact (absurd ·.1 (by decide)) | exact (absurd ·.2 (by decide)) | omega)) (zwr_r e2 (by first | decide | exact (absurd ·.1 (by decide)) | exact (absurd ·.2 (by decide)) | omega)) (fun b9 => (zwr_r e2 (by first | decide | exact (absurd ·.1 (by decide)) | exact (absurd ·.2 (by decide)) | omega))) (fun b9 => (zwr_r e2 (by first | decide | exact (absurd ·.1 (by decide)) | exact (absurd ·.2 (by decide)) | omega))))⟩)⟩
                    · refine zj_aload_n (zdk ttX11_look 75 rfl rfl) rfl (by decide) ?_
                      have s40 : okM h1 := fwM_0 s0 e2 (by omega)
                      refine zj_getr (r := 1) (zdk ttX11_look 76 rfl rfl) zf_RX11_7 rfl (k_M s40) (rfM_1 s40) ?_
                      refine zj_iconst (zdk ttX11_look 77 rfl rfl) ?_
                      have b41 : 0 ≤ (h.2 1 2) ∧ (h.2 1 2) ≤ 150 := (rM_b s0 1 2 (by decide)).2 (by decide)
                      refine zj_iald (v := (h.2 1 2)) (zdk ttX11_look 78 rfl rfl) (kaM_1 s40) (by decide) (by omega) (zwr_r e2 (by first | decide | exact (absurd ·.1 (by decide)) | exact (absurd ·.2 (by decide)) | omega)) ?_
                      have f42 : zfr [0] [] h h1 := zfr_wf (zfr_r _ _ _) e2 rfl
                      exact zj_iret rfl (zdk ttX11_look 79 rfl rfl) (Nat.le_refl _) (Nat.le_refl _) ⟨(h.2 1 2), rfl, by omega, s40, f42, (by intro z t0; have g0 := xL_g t0; have r0 := xL_r t0 (k := 0) (by decide) (by decide); have r1 := xL_r t0 (k := 1) (by decide) (by decide); have r2 := xL_r t0 (k := 2) (by decide) (by decide); have r3 := xL_r t0 (k := 3) (by decide) (by decide); have r4 := xL_r t0 (k := 4) (by decide) (by decide); have r5 := xL_r t0 (k := 5) (by decide) (by decide); have r6 := xL_r t0 (k := 6) (by decide) (by decide); have r7 := xL_r t0 (k := 7) (by decide) (by decide); have r8 := xL_r t0 (k := 8) (by decide) (by decide); have w7 := t0.1.2.1.2.2.2; have z7 : zwp (1 - (h.2 1 7)) = 1 - (h.2 1 7) := zwp_s (by omega); have vf := vLook_f p1 z; exact ⟨fun q9 => absurd q9 (by omega), (fun q9 => by first | (have e9 := vf.1 (by clear vf; omega); clear vf; omega) | (have e9 := vf.2.1 (by clear vf; omega); clear vf; omega) | (have e9 := vf.2.2.1 (by clear vf; omega); clear vf; omega) | (have e9 := vf.2.2.2.1 (by clear vf; omega); clear vf; omega) | (have e9 := vf.2.2.2.2.1 (by clear vf; omega); clear vf; omega) | (have e9 := vf.2.2.2.2.2.1 (by clear vf; omega); clear vf; omega) | (have e9 := vf.2.2.2.2.2.2.1 (by clear vf; omega); clear vf; omega) | (have e9 := vf.2.2.2.2.2.2.2.1 (by clear vf; omega); clear vf; omega) | (have e9 := vf.2.2.2.2.2.2.2.2.1 (by clear vf; omega); clear vf; omega) | (have e9 := vf.2.2.2.2.2.2.2.2.2.1 (by clear vf; omega); clear vf; omega) | (have e9 := vf.2.2.2.2.2.2.2.2.2.2.1 (by clear vf; omega); clear vf; omega) | (have e9 := vf.2.2.2.2.2.2.2.2.2.2.2.1 (by clear vf; omega); clear vf; omega) | (have e9 := vf.2.2.2.2.2.2.2.2.2.2.2.2.1 (by clear vf; omega); clear vf; omega) | (have e9 := vf.2.2.2.2.2.2.2.2.2.2.2.2.2.1 (by clear vf; omega); clear vf; omega) | (have e9 := vf.2.2.2.2.2.2.2.2.2.2.2.2.2.2.1 (by clear vf; omega); clear vf; omega) | (have e9 := vf.2.2.2.2.2.2.2.2.2.2.2.2.2.2.2 (by clear vf; omega); clear vf; omega)), (xL_f t0 (fun a9 b9 y9 => (zwr_r e2 (by unfold zDm zDe at y9; omega))) (zwr_r e2 (by first | decide | exact (absurd ·.1 (by decide)) | exact (absurd ·.2 (by decide)) | omega)) (zwr_r e2 (by first | decide | exact (absurd ·.1 (by decide)) | exact (absurd ·.2 (by decide)) | omega)) (fun b9 => (zwr_r e2 (by first | decide | exact (absurd ·.1 (by decide)) | exact (absurd ·.2 (by decide)) | omega))) (fun b9 => (zwr_r e2 (by first | decide | exact (absurd ·.1 (by decide)) | exact (absurd ·.2 (by decide)) | omega))))⟩)⟩
                  · refine zj_aload_n (zdk ttX11_look 67 rfl rfl) rfl (by decide) ?_
                    have s43 : okM h1 := fwM_0 s0 e2 (by omega)
                    refine zj_getr (r := 1) (zdk ttX11_look 68 rfl rfl) zf_RX11_7 rfl (k_M s43) (rfM_1 s43) ?_
                    refine zj_iconst (zdk ttX11_look 69 rfl rfl) ?_
                    have b45 : -2147483648 ≤ (h.2 1 0) ∧ (h.2 1 0) ≤ 2147483647 := (rM_b s0 1 0 (by omega)).1
                    refine zj_iald (v := (h.2 1 0)) (zdk ttX11_look 70 rfl rfl) (kaM_1 s43) (by decide) (by omega) (zwr_r e2 (by first | decide | exact (absurd ·.1 (by decide)) | exact (absurd ·.2 (by decide)) | omega)) ?_
                    have f46 : zfr [0] [] h h1 := zfr_wf (zfr_r _ _ _) e2 rfl
                    exact zj_iret rfl (zdk ttX11_look 71 rfl rfl) (Nat.le_refl _) (Nat.le_refl _) ⟨(h.2 1 0), rfl, by omega, s43, f46, (by intro z t0; have g0 := xL_g t0; have r0 := xL_r t0 (k := 0) (by decide) (by decide); have r1 := xL_r t0 (k := 1) (by decide) (by decide); have r2 := xL_r t0 (k := 2) (by decide) (by decide); have r3 := xL_r t0 (k := 3) (by decide) (by decide); have r4 := xL_r t0 (k := 4) (by decide) (by decide); have r5 := xL_r t0 (k := 5) (by decide) (by decide); have r6 := xL_r t0 (k := 6) (by decide) (by decide); have r7 := xL_r t0 (k := 7) (by decide) (by decide); have r8 := xL_r t0 (k := 8) (by decide) (by decide); have w7 := t0.1.2.1.2.2.2; have z7 : zwp (1 - (h.2 1 7)) = 1 - (h.2 1 7) := zwp_s (by omega); have vf := vLook_f p1 z; exact ⟨fun q9 => absurd q9 (by omega), (fun q9 => by first | (have e9 := vf.1 (by clear vf; omega); clear vf; omega) | (have e9 := vf.2.1 (by clear vf; omega); clear vf; omega) | (have e9 := vf.2.2.1 (by clear vf; omega); clear vf; omega) | (have e9 := vf.2.2.2.1 (by clear vf; omega); clear vf; omega) | (have e9 := vf.2.2.2.2.1 (by clear vf; omega); clear vf; omega) | (have e9 := vf.2.2.2.2.2.1 (by clear vf; omega); clear vf; omega) | (have e9 := vf.2.2.2.2.2.2.1 (by clear vf; omega); clear vf; omega) | (have e9 := vf.2.2.2.2.2.2.2.1 (by clear vf; omega); clear vf; omega) | (have e9 := vf.2.2.2.2.2.2.2.2.1 (by clear vf; omega); clear vf; omega) | (have e9 := vf.2.2.2.2.2.2.2.2.2.1 (by clear vf; omega); clear vf; omega) | (have e9 := vf.2.2.2.2.2.2.2.2.2.2.1 (by clear vf; omega); clear vf; omega) | (have e9 := vf.2.2.2.2.2.2.2.2.2.2.2.1 (by clear vf; omega); clear vf; omega) | (have e9 := vf.2.2.2.2.2.2.2.2.2.2.2.2.1 (by clear vf; omega); clear vf; omega) | (have e9 := vf.2.2.2.2.2.2.2.2.2.2.2.2.2.1 (by clear vf; omega); clear vf; omega) | (have e9 := vf.2.2.2.2.2.2.2.2.2.2.2.2.2.2.1 (by clear vf; omega); clear vf; omega) | (have e9 := vf.2.2.2.2.2.2.2.2.2.2.2.2.2.2.2 (by clear vf; omega); clear vf; omega)), (xL_f t0 (fun a9 b9 y9 => (zwr_r e2 (by unfold zDm zDe at y9; omega))) (zwr_r e2 (by first | decide | exact (absurd ·.1 (by decide)) | exact (absurd ·.2 (by decide)) | omega)) (zwr_r e2 (by first | decide | exact (absurd ·.1 (by decide)) | exact (absurd ·.2 (by decide)) | omega)) (fun b9 => (zwr_r e2 (by first | decide | exact (absurd ·.1 (by decide)) | exact (absurd ·.2 (by decide)) | omega))) (fun b9 => (zwr_r e2 (by first | decide | exact (absurd ·.1 (by decide)) | exact (absurd ·.2 (by decide)) | omega))))⟩)⟩
                · refine zj_aload_n (zdk ttX11_look 59 rfl rfl) rfl (by decide) ?_
                  have s47 : okM h1 := fwM_0 s0 e2 (by omega)
                  refine zj_getr (r := 1) (zdk ttX11_look 60 rfl rfl) zf_RX11_7 rfl (k_M s47) (rfM_1 s47) ?_
                  refine zj_bipush (zdk ttX11_look 61 rfl rfl) (by decide) ?_
                  have b49 : -2147483648 ≤ (h.2 1 8) ∧ (h.2 1 8) ≤ 2147483647 := (rM_b s0 1 8 (by omega)).1
                  refine zj_iald (v := (h.2 1 8)) (zdk ttX11_look 62 rfl rfl) (kaM_1 s47) (by decide) (by omega) (zwr_r e2 (by first | decide | exact (absurd ·.1 (by decide)) | exact (absurd ·.2 (by decide)) | omega)) ?_
                  have f50 : zfr [0] [] h h1 := zfr_wf (zfr_r _ _ _) e2 rfl
                  exact zj_iret rfl (zdk ttX11_look 63 rfl rfl) (Nat.le_refl _) (Nat.le_refl _) ⟨(h.2 1 8), rfl, by omega, s47, f50, (by intro z t0; have g0 := xL_g t0; have r0 := xL_r t0 (k := 0) (by decide) (by decide); have r1 := xL_r t0 (k := 1) (by decide) (by decide); have r2 := xL_r t0 (k := 2) (by decide) (by decide); have r3 := xL_r t0 (k := 3) (by decide) (by decide); have r4 := xL_r t0 (k := 4) (by decide) (by decide); have r5 := xL_r t0 (k := 5) (by decide) (by decide); have r6 := xL_r t0 (k := 6) (by decide) (by decide); have r7 := xL_r t0 (k := 7) (by decide) (by decide); have r8 := xL_r t0 (k := 8) (by decide) (by decide); have w7 := t0.1.2.1.2.2.2; have z7 : zwp (1 - (h.2 1 7)) = 1 - (h.2 1 7) := zwp_s (by omega); have vf := vLook_f p1 z; exact ⟨fun q9 => absurd q9 (by omega), (fun q9 => by first | (have e9 := vf.1 (by clear vf; omega); clear vf; omega) | (have e9 := vf.2.1 (by clear vf; omega); clear vf; omega) | (have e9 := vf.2.2.1 (by clear vf; omega); clear vf; omega) | (have e9 := vf.2.2.2.1 (by clear vf; omega); clear vf; omega) | (have e9 := vf.2.2.2.2.1 (by clear vf; omega); clear vf; omega) | (have e9 := vf.2.2.2.2.2.1 (by clear vf; omega); clear vf; omega) | (have e9 := vf.2.2.2.2.2.2.1 (by clear vf; omega); clear vf; omega) | (have e9 := vf.2.2.2.2.2.2.2.1 (by clear vf; omega); clear vf; omega) | (have e9 := vf.2.2.2.2.2.2.2.2.1 (by clear vf; omega); clear vf; omega) | (have e9 := vf.2.2.2.2.2.2.2.2.2.1 (by clear vf; omega); clear vf; omega) | (have e9 := vf.2.2.2.2.2.2.2.2.2.2.1 (by clear vf; omega); clear vf; omega) | (have e9 := vf.2.2.2.2.2.2.2.2.2.2.2.1 (by clear vf; omega); clear vf; omega) | (have e9 := vf.2.2.2.2.2.2.2.2.2.2.2.2.1 (by clear vf; omega); clear vf; omega) | (have e9 := vf.2.2.2.2.2.2.2.2.2.2.2.2.2.1 (by clear vf; omega); clear vf; omega) | (have e9 := vf.2.2.2.2.2.2.2.2.2.2.2.2.2.2.1 (by clear vf; omega); clear vf; omega) | (have e9 := vf.2.2.2.2.2.2.2.2.2.2.2.2.2.2.2 (by clear vf; omega); clear vf; omega)), (xL_f t0 (fun a9 b9 y9 => (zwr_r e2 (by unfold zDm zDe at y9; omega))) (zwr_r e2 (by first | decide | exact (absurd ·.1 (by decide)) | exact (absurd ·.2 (by decide)) | omega)) (zwr_r e2 (by first | decide | exact (absurd ·.1 (by decide)) | exact (absurd ·.2 (by decide)) | omega)) (fun b9 => (zwr_r e2 (by first | decide | exact (absurd ·.1 (by decide)) | exact (absurd ·.2 (by decide)) | omega))) (fun b9 => (zwr_r e2 (by first | decide | exact (absurd ·.1 (by decide)) | exact (absurd ·.2 (by decide)) | omega))))⟩)⟩
              · refine zj_iconst (zdk ttX11_look 49 rfl rfl) ?_
                refine zj_aload_n (zdk ttX11_look 50 rfl rfl) rfl (by decide) ?_
                have s51 : okM h1 := fwM_0 s0 e2 (by omega)
                refine zj_getr (r := 1) (zdk ttX11_look 51 rfl rfl) zf_RX11_7 rfl (k_M s51) (rfM_1 s51) ?_
                refine zj_bipush (zdk ttX11_look 52 rfl rfl) (by decide) ?_
                have b53 : -2147483648 ≤ (h.2 1 7) ∧ (h.2 1 7) ≤ 2147483647 := (rM_b s0 1 7 (by omega)).1
                refine zj_iald (v := (h.2 1 7)) (zdk ttX11_look 53 rfl rfl) (kaM_1 s51) (by decide) (by omega) (zwr_r e2 (by first | decide | exact (absurd ·.1 (by decide)) | exact (absurd ·.2 (by decide)) | omega)) ?_
                refine zj_isub (zdk ttX11_look 54 rfl rfl) ?_
                refine zj_wrap ?_
                have b54 := zwp_in (1 - (h.2 1 7))
                have f55 : zfr [0] [] h h1 := zfr_wf (zfr_r _ _ _) e2 rfl
                exact zj_iret rfl (zdk ttX11_look 55 rfl rfl) (Nat.le_refl _) (Nat.le_refl _) ⟨(zwp (1 - (h.2 1 7))), rfl, by omega, s51, f55, (by intro z t0; have g0 := xL_g t0; have r0 := xL_r t0 (k := 0) (by decide) (by decide); have r1 := xL_r t0 (k := 1) (by decide) (by decide); have r2 := xL_r t0 (k := 2) (by decide) (by decide); have r3 := xL_r t0 (k := 3) (by decide) (by decide); have r4 := xL_r t0 (k := 4) (by decide) (by decide); have r5 := xL_r t0 (k := 5) (by decide) (by decide); have r6 := xL_r t0 (k := 6) (by decide) (by decide); have r7 := xL_r t0 (k := 7) (by decide) (by decide); have r8 := xL_r t0 (k := 8) (by decide) (by decide); have w7 := t0.1.2.1.2.2.2; have z7 : zwp (1 - (h.2 1 7)) = 1 - (h.2 1 7) := zwp_s (by omega); have vf := vLook_f p1 z; exact ⟨fun q9 => absurd q9 (by omega), (fun q9 => by first | (have e9 := vf.1 (by clear vf; omega); clear vf; omega) | (have e9 := vf.2.1 (by clear vf; omega); clear vf; omega) | (have e9 := vf.2.2.1 (by clear vf; omega); clear vf; omega) | (have e9 := vf.2.2.2.1 (by clear vf; omega); clear vf; omega) | (have e9 := vf.2.2.2.2.1 (by clear vf; omega); clear vf; omega) | (have e9 := vf.2.2.2.2.2.1 (by clear vf; omega); clear vf; omega) | (have e9 := vf.2.2.2.2.2.2.1 (by clear vf; omega); clear vf; omega) | (have e9 := vf.2.2.2.2.2.2.2.1 (by clear vf; omega); clear vf; omega) | (have e9 := vf.2.2.2.2.2.2.2.2.1 (by clear vf; omega); clear vf; omega) | (have e9 := vf.2.2.2.2.2.2.2.2.2.1 (by clear vf; omega); clear vf; omega) | (have e9 := vf.2.2.2.2.2.2.2.2.2.2.1 (by clear vf; omega); clear vf; omega) | (have e9 := vf.2.2.2.2.2.2.2.2.2.2.2.1 (by clear vf; omega); clear vf; omega) | (have e9 := vf.2.2.2.2.2.2.2.2.2.2.2.2.1 (by clear vf; omega); clear vf; omega) | (have e9 := vf.2.2.2.2.2.2.2.2.2.2.2.2.2.1 (by clear vf; omega); clear vf; omega) | (have e9 := vf.2.2.2.2.2.2.2.2.2.2.2.2.2.2.1 (by clear vf; omega); clear vf; omega) | (have e9 := vf.2.2.2.2.2.2.2.2.2.2.2.2.2.2.2 (by clear vf; omega); clear vf; omega)), (xL_f t0 (fun a9 b9 y9 => (zwr_r e2 (by unfold zDm zDe at y9; omega))) (zwr_r e2 (by first | decide | exact (absurd ·.1 (by decide)) | exact (absurd ·.2 (by decide)) | omega)) (zwr_r e2 (by first | decide | exact (absurd ·.1 (by decide)) | exact (absurd ·.2 (by decide)) | omega)) (fun b9 => (zwr_r e2 (by first | decide | exact (absurd ·.1 (by decide)) | exact (absurd ·.2 (by decide)) | omega))) (fun b9 => (zwr_r e2 (by first | decide | exact (absurd ·.1 (by decide)) | exact (absurd ·.2 (by decide)) | omega))))⟩)⟩
            · refine zj_aload_n (zdk ttX11_look 41 rfl rfl) rfl (by decide) ?_
              have s56 : okM h1 := fwM_0 s0 e2 (by omega)
              refine zj_getr (r := 1) (zdk ttX11_look 42 rfl rfl) zf_RX11_7 rfl (k_M s56) (rfM_1 s56) ?_
              refine zj_bipush (zdk ttX11_look 43 rfl rfl) (by decide) ?_
              have b58 : -2147483648 ≤ (h.2 1 6) ∧ (h.2 1 6) ≤ 2147483647 := (rM_b s0 1 6 (by omega)).1
              refine zj_iald (v := (h.2 1 6)) (zdk ttX11_look 44 rfl rfl) (kaM_1 s56) (by decide) (by omega) (zwr_r e2 (by first | decide | exact (absurd ·.1 (by decide)) | exact (absurd ·.2 (by decide)) | omega)) ?_
              have f59 : zfr [0] [] h h1 := zfr_wf (zfr_r _ _ _) e2 rfl
              exact zj_iret rfl (zdk ttX11_look 45 rfl rfl) (Nat.le_refl _) (Nat.le_refl _) ⟨(h.2 1 6), rfl, by omega, s56, f59, (by intro z t0; have g0 := xL_g t0; have r0 := xL_r t0 (k := 0) (by decide) (by decide); have r1 := xL_r t0 (k := 1) (by decide) (by decide); have r2 := xL_r t0 (k := 2) (by decide) (by decide); have r3 := xL_r t0 (k := 3) (by decide) (by decide); have r4 := xL_r t0 (k := 4) (by decide) (by decide); have r5 := xL_r t0 (k := 5) (by decide) (by decide); have r6 := xL_r t0 (k := 6) (by decide) (by decide); have r7 := xL_r t0 (k := 7) (by decide) (by decide); have r8 := xL_r t0 (k := 8) (by decide) (by decide); have w7 := t0.1.2.1.2.2.2; have z7 : zwp (1 - (h.2 1 7)) = 1 - (h.2 1 7) := zwp_s (by omega); have vf := vLook_f p1 z; exact ⟨fun q9 => absurd q9 (by omega), (fun q9 => by first | (have e9 := vf.1 (by clear vf; omega); clear vf; omega) | (have e9 := vf.2.1 (by clear vf; omega); clear vf; omega) | (have e9 := vf.2.2.1 (by clear vf; omega); clear vf; omega) | (have e9 := vf.2.2.2.1 (by clear vf; omega); clear vf; omega) | (have e9 := vf.2.2.2.2.1 (by clear vf; omega); clear vf; omega) | (have e9 := vf.2.2.2.2.2.1 (by clear vf; omega); clear vf; omega) | (have e9 := vf.2.2.2.2.2.2.1 (by clear vf; omega); clear vf; omega) | (have e9 := vf.2.2.2.2.2.2.2.1 (by clear vf; omega); clear vf; omega) | (have e9 := vf.2.2.2.2.2.2.2.2.1 (by clear vf; omega); clear vf; omega) | (have e9 := vf.2.2.2.2.2.2.2.2.2.1 (by clear vf; omega); clear vf; omega) | (have e9 := vf.2.2.2.2.2.2.2.2.2.2.1 (by clear vf; omega); clear vf; omega) | (have e9 := vf.2.2.2.2.2.2.2.2.2.2.2.1 (by clear vf; omega); clear vf; omega) | (have e9 := vf.2.2.2.2.2.2.2.2.2.2.2.2.1 (by clear vf; omega); clear vf; omega) | (have e9 := vf.2.2.2.2.2.2.2.2.2.2.2.2.2.1 (by clear vf; omega); clear vf; omega) | (have e9 := vf.2.2.2.2.2.2.2.2.2.2.2.2.2.2.1 (by clear vf; omega); clear vf; omega) | (have e9 := vf.2.2.2.2.2.2.2.2.2.2.2.2.2.2.2 (by clear vf; omega); clear vf; omega)), (xL_f t0 (fun a9 b9 y9 => (zwr_r e2 (by unfold zDm zDe at y9; omega))) (zwr_r e2 (by first | decide | exact (absurd ·.1 (by decide)) | exact (absurd ·.2 (by decide)) | omega)) (zwr_r e2 (by first | decide | exact (absurd ·.1 (by decide)) | exact (absurd ·.2 (by decide)) | omega)) (fun b9 => (zwr_r e2 (by first | decide | exact (absurd ·.1 (by decide)) | exact (absurd ·.2 (by decide)) | omega))) (fun b9 => (zwr_r e2 (by first | decide | exact (absurd ·.1 (by decide)) | exact (absurd ·.2 (by decide)) | omega))))⟩)⟩
          · refine zj_aload_n (zdk ttX11_look 33 rfl rfl) rfl (by decide) ?_
            have s60 : okM h1 := fwM_0 s0 e2 (by omega)
            refine zj_getr (r := 1) (zdk ttX11_look 34 rfl rfl) zf_RX11_7 rfl (k_M s60) (rfM_1 s60) ?_
            refine zj_iconst (zdk ttX11_look 35 rfl rfl) ?_
            have b62 : -2147483648 ≤ (h.2 1 5) ∧ (h.2 1 5) ≤ 2147483647 := (rM_b s0 1 5 (by omega)).1
            refine zj_iald (v := (h.2 1 5)) (zdk ttX11_look 36 rfl rfl) (kaM_1 s60) (by decide) (by omega) (zwr_r e2 (by first | decide | exact (absurd ·.1 (by decide)) | exact (absurd ·.2 (by decide)) | omega)) ?_
            have f63 : zfr [0] [] h h1 := zfr_wf (zfr_r _ _ _) e2 rfl
            exact zj_iret rfl (zdk ttX11_look 37 rfl rfl) (Nat.le_refl _) (Nat.le_refl _) ⟨(h.2 1 5), rfl, by omega, s60, f63, (by intro z t0; have g0 := xL_g t0; have r0 := xL_r t0 (k := 0) (by decide) (by decide); have r1 := xL_r t0 (k := 1) (by decide) (by decide); have r2 := xL_r t0 (k := 2) (by decide) (by decide); have r3 := xL_r t0 (k := 3) (by decide) (by decide); have r4 := xL_r t0 (k := 4) (by decide) (by decide); have r5 := xL_r t0 (k := 5) (by decide) (by decide); have r6 := xL_r t0 (k := 6) (by decide) (by decide); have r7 := xL_r t0 (k := 7) (by decide) (by decide); have r8 := xL_r t0 (k := 8) (by decide) (by decide); have w7 := t0.1.2.1.2.2.2; have z7 : zwp (1 - (h.2 1 7)) = 1 - (h.2 1 7) := zwp_s (by omega); have vf := vLook_f p1 z; exact ⟨fun q9 => absurd q9 (by omega), (fun q9 => by first | (have e9 := vf.1 (by clear vf; omega); clear vf; omega) | (have e9 := vf.2.1 (by clear vf; omega); clear vf; omega) | (have e9 := vf.2.2.1 (by clear vf; omega); clear vf; omega) | (have e9 := vf.2.2.2.1 (by clear vf; omega); clear vf; omega) | (have e9 := vf.2.2.2.2.1 (by clear vf; omega); clear vf; omega) | (have e9 := vf.2.2.2.2.2.1 (by clear vf; omega); clear vf; omega) | (have e9 := vf.2.2.2.2.2.2.1 (by clear vf; omega); clear vf; omega) | (have e9 := vf.2.2.2.2.2.2.2.1 (by clear vf; omega); clear vf; omega) | (have e9 := vf.2.2.2.2.2.2.2.2.1 (by clear vf; omega); clear vf; omega) | (have e9 := vf.2.2.2.2.2.2.2.2.2.1 (by clear vf; omega); clear vf; omega) | (have e9 := vf.2.2.2.2.2.2.2.2.2.2.1 (by clear vf; omega); clear vf; omega) | (have e9 := vf.2.2.2.2.2.2.2.2.2.2.2.1 (by clear vf; omega); clear vf; omega) | (have e9 := vf.2.2.2.2.2.2.2.2.2.2.2.2.1 (by clear vf; omega); clear vf; omega) | (have e9 := vf.2.2.2.2.2.2.2.2.2.2.2.2.2.1 (by clear vf; omega); clear vf; omega) | (have e9 := vf.2.2.2.2.2.2.2.2.2.2.2.2.2.2.1 (by clear vf; omega); clear vf; omega) | (have e9 := vf.2.2.2.2.2.2.2.2.2.2.2.2.2.2.2 (by clear vf; omega); clear vf; omega)), (xL_f t0 (fun a9 b9 y9 => (zwr_r e2 (by unfold zDm zDe at y9; omega))) (zwr_r e2 (by first | decide | exact (absurd ·.1 (by decide)) | exact (absurd ·.2 (by decide)) | omega)) (zwr_r e2 (by first | decide | exact (absurd ·.1 (by decide)) | exact (absurd ·.2 (by decide)) | omega)) (fun b9 => (zwr_r e2 (by first | decide | exact (absurd ·.1 (by decide)) | exact (absurd ·.2 (by decide)) | omega))) (fun b9 => (zwr_r e2 (by first | decide | exact (absurd ·.1 (by decide)) | exact (absurd ·.2 (by decide)) | omega))))⟩)⟩
        · refine zj_aload_n (zdk ttX11_look 25 rfl rfl) rfl (by decide) ?_
          have s64 : okM h1 := fwM_0 s0 e2 (by omega)
          refine zj_getr (r := 1) (zdk ttX11_look 26 rfl rfl) zf_RX11_7 rfl (k_M s64) (rfM_1 s64) ?_
          refine zj_iconst (zdk ttX11_look 27 rfl rfl) ?_
          have b66 : -2147483648 ≤ (h.2 1 4) ∧ (h.2 1 4) ≤ 2147483647 := (rM_b s0 1 4 (by omega)).1
          refine zj_iald (v := (h.2 1 4)) (zdk ttX11_look 28 rfl rfl) (kaM_1 s64) (by decide) (by omega) (zwr_r e2 (by first | decide | exact (absurd ·.1 (by decide)) | exact (absurd ·.2 (by decide)) | omega)) ?_
          have f67 : zfr [0] [] h h1 := zfr_wf (zfr_r _ _ _) e2 rfl
          exact zj_iret rfl (zdk ttX11_look 29 rfl rfl) (Nat.le_refl _) (Nat.le_refl _) ⟨(h.2 1 4), rfl, by omega, s64, f67, (by intro z t0; have g0 := xL_g t0; have r0 := xL_r t0 (k := 0) (by decide) (by decide); have r1 := xL_r t0 (k := 1) (by decide) (by decide); have r2 := xL_r t0 (k := 2) (by decide) (by decide); have r3 := xL_r t0 (k := 3) (by decide) (by decide); have r4 := xL_r t0 (k := 4) (by decide) (by decide); have r5 := xL_r t0 (k := 5) (by decide) (by decide); have r6 := xL_r t0 (k := 6) (by decide) (by decide); have r7 := xL_r t0 (k := 7) (by decide) (by decide); have r8 := xL_r t0 (k := 8) (by decide) (by decide); have w7 := t0.1.2.1.2.2.2; have z7 : zwp (1 - (h.2 1 7)) = 1 - (h.2 1 7) := zwp_s (by omega); have vf := vLook_f p1 z; exact ⟨fun q9 => absurd q9 (by omega), (fun q9 => by first | (have e9 := vf.1 (by clear vf; omega); clear vf; omega) | (have e9 := vf.2.1 (by clear vf; omega); clear vf; omega) | (have e9 := vf.2.2.1 (by clear vf; omega); clear vf; omega) | (have e9 := vf.2.2.2.1 (by clear vf; omega); clear vf; omega) | (have e9 := vf.2.2.2.2.1 (by clear vf; omega); clear vf; omega) | (have e9 := vf.2.2.2.2.2.1 (by clear vf; omega); clear vf; omega) | (have e9 := vf.2.2.2.2.2.2.1 (by clear vf; omega); clear vf; omega) | (have e9 := vf.2.2.2.2.2.2.2.1 (by clear vf; omega); clear vf; omega) | (have e9 := vf.2.2.2.2.2.2.2.2.1 (by clear vf; omega); clear vf; omega) | (have e9 := vf.2.2.2.2.2.2.2.2.2.1 (by clear vf; omega); clear vf; omega) | (have e9 := vf.2.2.2.2.2.2.2.2.2.2.1 (by clear vf; omega); clear vf; omega) | (have e9 := vf.2.2.2.2.2.2.2.2.2.2.2.1 (by clear vf; omega); clear vf; omega) | (have e9 := vf.2.2.2.2.2.2.2.2.2.2.2.2.1 (by clear vf; omega); clear vf; omega) | (have e9 := vf.2.2.2.2.2.2.2.2.2.2.2.2.2.1 (by clear vf; omega); clear vf; omega) | (have e9 := vf.2.2.2.2.2.2.2.2.2.2.2.2.2.2.1 (by clear vf; omega); clear vf; omega) | (have e9 := vf.2.2.2.2.2.2.2.2.2.2.2.2.2.2.2 (by clear vf; omega); clear vf; omega)), (xL_f t0 (fun a9 b9 y9 => (zwr_r e2 (by unfold zDm zDe at y9; omega))) (zwr_r e2 (by first | decide | exact (absurd ·.1 (by decide)) | exact (absurd ·.2 (by decide)) | omega)) (zwr_r e2 (by first | decide | exact (absurd ·.1 (by decide)) | exact (absurd ·.2 (by decide)) | omega)) (fun b9 => (zwr_r e2 (by first | decide | exact (absurd ·.1 (by decide)) | exact (absurd ·.2 (by decide)) | omega))) (fun b9 => (zwr_r e2 (by first | decide | exact (absurd ·.1 (by decide)) | exact (absurd ·.2 (by decide)) | omega))))⟩)⟩
      · refine zj_aload_n (zdk ttX11_look 17 rfl rfl) rfl (by decide) ?_
        have s68 : okM h1 := fwM_0 s0 e2 (by omega)
        refine zj_getr (r := 1) (zdk ttX11_look 18 rfl rfl) zf_RX11_7 rfl (k_M s68) (rfM_1 s68) ?_
        refine zj_iconst (zdk ttX11_look 19 rfl rfl) ?_
        have b70 : -2147483648 ≤ (h.2 1 3) ∧ (h.2 1 3) ≤ 2147483647 := (rM_b s0 1 3 (by omega)).1
        refine zj_iald (v := (h.2 1 3)) (zdk ttX11_look 20 rfl rfl) (kaM_1 s68) (by decide) (by omega) (zwr_r e2 (by first | decide | exact (absurd ·.1 (by decide)) | exact (absurd ·.2 (by decide)) | omega)) ?_
        have f71 : zfr [0] [] h h1 := zfr_wf (zfr_r _ _ _) e2 rfl
        exact zj_iret rfl (zdk ttX11_look 21 rfl rfl) (Nat.le_refl _) (Nat.le_refl _) ⟨(h.2 1 3), rfl, by omega, s68, f71, (by intro z t0; have g0 := xL_g t0; have r0 := xL_r t0 (k := 0) (by decide) (by decide); have r1 := xL_r t0 (k := 1) (by decide) (by decide); have r2 := xL_r t0 (k := 2) (by decide) (by decide); have r3 := xL_r t0 (k := 3) (by decide) (by decide); have r4 := xL_r t0 (k := 4) (by decide) (by decide); have r5 := xL_r t0 (k := 5) (by decide) (by decide); have r6 := xL_r t0 (k := 6) (by decide) (by decide); have r7 := xL_r t0 (k := 7) (by decide) (by decide); have r8 := xL_r t0 (k := 8) (by decide) (by decide); have w7 := t0.1.2.1.2.2.2; have z7 : zwp (1 - (h.2 1 7)) = 1 - (h.2 1 7) := zwp_s (by omega); have vf := vLook_f p1 z; exact ⟨fun q9 => absurd q9 (by omega), (fun q9 => by first | (have e9 := vf.1 (by clear vf; omega); clear vf; omega) | (have e9 := vf.2.1 (by clear vf; omega); clear vf; omega) | (have e9 := vf.2.2.1 (by clear vf; omega); clear vf; omega) | (have e9 := vf.2.2.2.1 (by clear vf; omega); clear vf; omega) | (have e9 := vf.2.2.2.2.1 (by clear vf; omega); clear vf; omega) | (have e9 := vf.2.2.2.2.2.1 (by clear vf; omega); clear vf; omega) | (have e9 := vf.2.2.2.2.2.2.1 (by clear vf; omega); clear vf; omega) | (have e9 := vf.2.2.2.2.2.2.2.1 (by clear vf; omega); clear vf; omega) | (have e9 := vf.2.2.2.2.2.2.2.2.1 (by clear vf; omega); clear vf; omega) | (have e9 := vf.2.2.2.2.2.2.2.2.2.1 (by clear vf; omega); clear vf; omega) | (have e9 := vf.2.2.2.2.2.2.2.2.2.2.1 (by clear vf; omega); clear vf; omega) | (have e9 := vf.2.2.2.2.2.2.2.2.2.2.2.1 (by clear vf; omega); clear vf; omega) | (have e9 := vf.2.2.2.2.2.2.2.2.2.2.2.2.1 (by clear vf; omega); clear vf; omega) | (have e9 := vf.2.2.2.2.2.2.2.2.2.2.2.2.2.1 (by clear vf; omega); clear vf; omega) | (have e9 := vf.2.2.2.2.2.2.2.2.2.2.2.2.2.2.1 (by clear vf; omega); clear vf; omega) | (have e9 := vf.2.2.2.2.2.2.2.2.2.2.2.2.2.2.2 (by clear vf; omega); clear vf; omega)), (xL_f t0 (fun a9 b9 y9 => (zwr_r e2 (by unfold zDm zDe at y9; omega))) (zwr_r e2 (by first | decide | exact (absurd ·.1 (by decide)) | exact (absurd ·.2 (by decide)) | omega)) (zwr_r e2 (by first | decide | exact (absurd ·.1 (by decide)) | exact (absurd ·.2 (by decide)) | omega)) (fun b9 => (zwr_r e2 (by first | decide | exact (absurd ·.1 (by decide)) | exact (absurd ·.2 (by decide)) | omega))) (fun b9 => (zwr_r e2 (by first | decide | exact (absurd ·.1 (by decide)) | exact (absurd ·.2 (by decide)) | omega))))⟩)⟩
    · refine zj_aload_n (zdk ttX11_look 11 rfl rfl) rfl (by decide) ?_
      have s72 : okM h1 := fwM_0 s0 e2 (by omega)
      refine zj_callV (av := []) (st := []) (zdk ttX11_look 12 rfl rfl) mb_X11_hereSet mv_RX11_313 (ci := 11) rfl rfl (k_M s72) rfl rfl (Nat.le_of_ble_eq_true rfl) (s2_X11_hereSet l h1 s72) (rm_ok (by decide) (by decide)) (zq_i fun v74 h75 q73 => ?_)
      obtain ⟨rfl, b76, u77⟩ := q73
      have f78 : zfr [0] [] h h1 := zfr_wf (zfr_r _ _ _) e2 rfl
      exact zj_iret rfl (zdk ttX11_look 13 rfl rfl) (Nat.le_refl _) (Nat.le_refl _) ⟨v74, rfl, by omega, s72, f78, (by intro z t0; have g0 := xL_g t0; have r0 := xL_r t0 (k := 0) (by decide) (by decide); have r1 := xL_r t0 (k := 1) (by decide) (by decide); have r2 := xL_r t0 (k := 2) (by decide) (by decide); have r3 := xL_r t0 (k := 3) (by decide) (by decide); have r4 := xL_r t0 (k := 4) (by decide) (by decide); have r5 := xL_r t0 (k := 5) (by decide) (by decide); have r6 := xL_r t0 (k := 6) (by decide) (by decide); have r7 := xL_r t0 (k := 7) (by decide) (by decide); have r8 := xL_r t0 (k := 8) (by decide) (by decide); have w7 := t0.1.2.1.2.2.2; have z7 : zwp (1 - (h.2 1 7)) = 1 - (h.2 1 7) := zwp_s (by omega); have vf := vLook_f p1 z; exact ⟨fun _ => u77 z.e false z.x (zY_o t0.1 e2 (by unfold zDm zDe; omega)), fun q9 => by omega, (xL_f t0 (fun a9 b9 y9 => (zwr_r e2 (by unfold zDm zDe at y9; omega))) (zwr_r e2 (by first | decide | exact (absurd ·.1 (by decide)) | exact (absurd ·.2 (by decide)) | omega)) (zwr_r e2 (by first | decide | exact (absurd ·.1 (by decide)) | exact (absurd ·.2 (by decide)) | omega)) (fun b9 => (zwr_r e2 (by first | decide | exact (absurd ·.1 (by decide)) | exact (absurd ·.2 (by decide)) | omega))) (fun b9 => (zwr_r e2 (by first | decide | exact (absurd ·.1 (by decide)) | exact (absurd ·.2 (by decide)) | omega))))⟩)⟩
  · refine zj_aload_n (zdk ttX11_look 5 rfl rfl) rfl (by decide) ?_
    have b79 : 0 ≤ (h.2 0 6) ∧ (h.2 0 6) ≤ 18 := fM_6 s0
    have s80 : okM h1 := fwM_0 s0 e2 (by omega)
    refine zj_geti (v := (h.2 0 6)) (zdk ttX11_look 6 rfl rfl) zf_RX11_132 rfl (k_M s80) (zwr_r e2 (by first | decide | exact (absurd ·.1 (by decide)) | exact (absurd ·.2 (by decide)) | omega)) ?_
    have f81 : zfr [0] [] h h1 := zfr_wf (zfr_r _ _ _) e2 rfl
    exact zj_iret rfl (zdk ttX11_look 7 rfl rfl) (Nat.le_refl _) (Nat.le_refl _) ⟨(h.2 0 6), rfl, by omega, s80, f81, (by intro z t0; have g0 := xL_g t0; have r0 := xL_r t0 (k := 0) (by decide) (by decide); have r1 := xL_r t0 (k := 1) (by decide) (by decide); have r2 := xL_r t0 (k := 2) (by decide) (by decide); have r3 := xL_r t0 (k := 3) (by decide) (by decide); have r4 := xL_r t0 (k := 4) (by decide) (by decide); have r5 := xL_r t0 (k := 5) (by decide) (by decide); have r6 := xL_r t0 (k := 6) (by decide) (by decide); have r7 := xL_r t0 (k := 7) (by decide) (by decide); have r8 := xL_r t0 (k := 8) (by decide) (by decide); have w7 := t0.1.2.1.2.2.2; have z7 : zwp (1 - (h.2 1 7)) = 1 - (h.2 1 7) := zwp_s (by omega); have vf := vLook_f p1 z; exact ⟨fun q9 => absurd q9 (by omega), (fun q9 => by first | (have e9 := vf.1 (by clear vf; omega); clear vf; omega) | (have e9 := vf.2.1 (by clear vf; omega); clear vf; omega) | (have e9 := vf.2.2.1 (by clear vf; omega); clear vf; omega) | (have e9 := vf.2.2.2.1 (by clear vf; omega); clear vf; omega) | (have e9 := vf.2.2.2.2.1 (by clear vf; omega); clear vf; omega) | (have e9 := vf.2.2.2.2.2.1 (by clear vf; omega); clear vf; omega) | (have e9 := vf.2.2.2.2.2.2.1 (by clear vf; omega); clear vf; omega) | (have e9 := vf.2.2.2.2.2.2.2.1 (by clear vf; omega); clear vf; omega) | (have e9 := vf.2.2.2.2.2.2.2.2.1 (by clear vf; omega); clear vf; omega) | (have e9 := vf.2.2.2.2.2.2.2.2.2.1 (by clear vf; omega); clear vf; omega) | (have e9 := vf.2.2.2.2.2.2.2.2.2.2.1 (by clear vf; omega); clear vf; omega) | (have e9 := vf.2.2.2.2.2.2.2.2.2.2.2.1 (by clear vf; omega); clear vf; omega) | (have e9 := vf.2.2.2.2.2.2.2.2.2.2.2.2.1 (by clear vf; omega); clear vf; omega) | (have e9 := vf.2.2.2.2.2.2.2.2.2.2.2.2.2.1 (by clear vf; omega); clear vf; omega) | (have e9 := vf.2.2.2.2.2.2.2.2.2.2.2.2.2.2.1 (by clear vf; omega); clear vf; omega) | (have e9 := vf.2.2.2.2.2.2.2.2.2.2.2.2.2.2.2 (by clear vf; omega); clear vf; omega)), (xL_f t0 (fun a9 b9 y9 => (zwr_r e2 (by unfold zDm zDe at y9; omega))) (zwr_r e2 (by first | decide | exact (absurd ·.1 (by decide)) | exact (absurd ·.2 (by decide)) | omega)) (zwr_r e2 (by first | decide | exact (absurd ·.1 (by decide)) | exact (absurd ·.2 (by decide)) | omega)) (fun b9 => (zwr_r e2 (by first | decide | exact (absurd ·.1 (by decide)) | exact (absurd ·.2 (by decide)) | omega))) (fun b9 => (zwr_r e2 (by first | decide | exact (absurd ·.1 (by decide)) | exact (absurd ·.2 (by decide)) | omega))))⟩)⟩

abbrev q2_X11_goes (h : zM) (p1 : Int) (p2 : Int) : Option zV → zM → Prop := zqi fun v h' => ((-2147483648) ≤ v ∧ v ≤ 2147483647) ∧ okM h' ∧ zfr [0, 5] [1, 3, 6, 20, 21] h h' ∧ (∀ z, xL h z → fWz z → v = vGoes p1 p2 z ∧ xL h' z)
set_option maxRecDepth 100000 in
set_option maxHeartbeats 4000000 in
theorem s2_X11_goes (l : Launch) (h : zM) (p1 : Int) (p2 : Int) (s0 : okM h) (b_p1 : (-2147483648) ≤ p1 ∧ p1 ≤ 2147483647) (b_p2 : (-2147483648) ≤ p2 ∧ p2 ≤ 2147483647) : zT shM l yX11_goes cX11_goes 4 (some .int) (rmL 9) 0 0 [.inr 0, .inl p1, .inl p2] h (q2_X11_goes h p1 p2) := by
  refine zT_of (by decide +kernel) (L0 := [some (.inr 0), some (.inl p1), some (.inl p2), none]) rfl (Nat.le_of_ble_eq_true rfl) ?_
  refine zj_aload_n (zdk ttX11_goes 0 rfl rfl) rfl (by decide) ?_
  refine zj_iconst (zdk ttX11_goes 1 rfl rfl) ?_
  refine zj_puti (zdk ttX11_goes 2 rfl rfl) zf_RX11_120 rfl (k_M s0) (Or.inl zw_RX11_120) (k2 := 0) rfl (fun h1 e2 => ?_)
  refine zj_aload_n (zdk ttX11_goes 3 rfl rfl) rfl (by decide) ?_
  refine zj_iload_n (zdk ttX11_goes 4 rfl rfl) rfl ?_
  refine zj_iconst (zdk ttX11_goes 5 rfl rfl) ?_
  refine zj_bipush (zdk ttX11_goes 6 rfl rfl) (by decide) ?_
  have s3 : okM h1 := fwM_0 s0 e2 (by omega)
  refine zj_callV (av := [.inl p1, .inl 1, .inl 60]) (st := []) (zdk ttX11_goes 7 rfl rfl) mb_X11_isIn mv_RX11_139 (ci := 11) rfl rfl (k_M s3) rfl rfl (Nat.le_of_ble_eq_true rfl) (s_X11_isIn l h1 p1 1 60 s3 (by omega) (by omega) (by omega)) (rm_ok (by decide) (by decide)) (zq_i fun v5 h6 q4 => ?_)
  obtain ⟨rfl, ⟨rfl, b7⟩ | ⟨rfl, b7⟩⟩ := q4
  · refine zj_if_eq (t := 26) (zdk ttX11_goes 8 rfl rfl) (by decide) (by decide) (fun c8 => ?_) (fun c8 => ?_)
    · refine zj_iconst (zdk ttX11_goes 15 rfl rfl) ?_
      have f9 : zfr [0, 5] [1, 3, 6, 20, 21] h h1 := zfr_wf (zfr_r _ _ _) e2 rfl
      exact zj_iret rfl (zdk ttX11_goes 16 rfl rfl) (Nat.le_refl _) (Nat.le_refl _) ⟨(-1), rfl, by omega, s3, f9, (by intro z t0 w0; unfold vGoes; rw [if_neg (by omega)]; exact ⟨rfl, (xL_f t0 (fun a9 b9 y9 => (zwr_r e2 (by unfold zDm zDe at y9; omega))) (zwr_r e2 (by first | decide | exact (absurd ·.1 (by decide)) | exact (absurd ·.2 (by decide)) | omega)) (zwr_r e2 (by first | decide | exact (absurd ·.1 (by decide)) | exact (absurd ·.2 (by decide)) | omega)) (fun b9 => (zwr_r e2 (by first | decide | exact (absurd ·.1 (by decide)) | exact (absurd ·.2 (by decide)) | omega))) (fun b9 => (zwr_r e2 (by first | decide | exact (absurd ·.1 (by decide)) | exact (absurd ·.2 (by decide)) | omega))))⟩)⟩
    · exact absurd c8 (by omega)
  · refine zj_if_eq (t := 26) (zdk ttX11_goes 8 rfl rfl) (by decide) (by decide) (fun c10 => ?_) (fun c10 => ?_)
    · exact absurd c10 (by omega)
    · refine zj_aload_n (zdk ttX11_goes 9 rfl rfl) rfl (by decide) ?_
      refine zj_iload_n (zdk ttX11_goes 10 rfl rfl) rfl ?_
      refine zj_iconst (zdk ttX11_goes 11 rfl rfl) ?_
      refine zj_iconst (zdk ttX11_goes 12 rfl rfl) ?_
      refine zj_callV (av := [.inl p2, .inl 0, .inl 3]) (st := []) (zdk ttX11_goes 13 rfl rfl) mb_X11_isIn mv_RX11_139 (ci := 11) rfl rfl (k_M s3) rfl rfl (Nat.le_of_ble_eq_true rfl) (s_X11_isIn l h1 p2 0 3 s3 (by omega) (by omega) (by omega)) (rm_ok (by decide) (by decide)) (zq_i fun v12 h13 q11 => ?_)
      obtain ⟨rfl, ⟨rfl, b14⟩ | ⟨rfl, b14⟩⟩ := q11
      · refine zj_if_ne (t := 28) (zdk ttX11_goes 14 rfl rfl) (by decide) (by decide) (fun c15 => ?_) (fun c15 => ?_)
        · exact absurd c15 (by omega)
        · refine zj_iconst (zdk ttX11_goes 15 rfl rfl) ?_
          have f16 : zfr [0, 5] [1, 3, 6, 20, 21] h h1 := zfr_wf (zfr_r _ _ _) e2 rfl
          exact zj_iret rfl (zdk ttX11_goes 16 rfl rfl) (Nat.le_refl _) (Nat.le_refl _) ⟨(-1), rfl, by omega, s3, f16, (by intro z t0 w0; unfold vGoes; rw [if_neg (by omega)]; exact ⟨rfl, (xL_f t0 (fun a9 b9 y9 => (zwr_r e2 (by unfold zDm zDe at y9; omega))) (zwr_r e2 (by first | decide | exact (absurd ·.1 (by decide)) | exact (absurd ·.2 (by decide)) | omega)) (zwr_r e2 (by first | decide | exact (absurd ·.1 (by decide)) | exact (absurd ·.2 (by decide)) | omega)) (fun b9 => (zwr_r e2 (by first | decide | exact (absurd ·.1 (by decide)) | exact (absurd ·.2 (by decide)) | omega))) (fun b9 => (zwr_r e2 (by first | decide | exact (absurd ·.1 (by decide)) | exact (absurd ·.2 (by decide)) | omega))))⟩)⟩
      · refine zj_if_ne (t := 28) (zdk ttX11_goes 14 rfl rfl) (by decide) (by decide) (fun c17 => ?_) (fun c17 => ?_)
        · refine zj_aload_n (zdk ttX11_goes 17 rfl rfl) rfl (by decide) ?_
          refine zj_callV (av := []) (st := []) (zdk ttX11_goes 18 rfl rfl) mb_X11_thinks mv_RX11_392 (ci := 11) rfl rfl (k_M s3) rfl rfl (Nat.le_of_ble_eq_true rfl) (s2_X11_thinks l h1 s3) (rm_ok (by decide) (by decide)) (zq_v fun h20 q18 => ?_)
          obtain ⟨s22, f25, u23, u24⟩ := q18
          refine zj_iconst (zdk ttX11_goes 19 rfl rfl) ?_
          refine zj_istore_n (L' := [some (.inr 0), some (.inl p1), some (.inl p2), some (.inl 0)]) (zdk ttX11_goes 20 rfl rfl) (by decide) rfl ?_
          have lp38 : ∀ (n34 : Nat) (x26 : Int) (h27 : zM), (0 ≤ x26 ∧ x26 ≤ 60) → okM h27 → zfr [0, 5] [1, 3, 6, 20, 21] h h27 → (∀ z, xL h z → fWz z → zY h27 z.e true (fTd x26.toNat z.e z.x) ∧ (∀ k9, 0 ≤ k9 → k9 < 63 → h27.2 3 k9 = h.2 1 k9)) → (x26 ≤ p1) → (61 - x26).toNat < n34 → zJ shM l yX11_goes cX11_goes 4 (some .int) (rmL 9) 0 0 (q2_X11_goes h p1 p2) 0 0 34 [some (.inr 0), some (.inl p1), some (.inl p2), some (.inl x26)] [] h27 := by
            intro n34
            induction n34 with
            | zero => intro x26 h27 b39 s28 f29 u40 u41 m42; exact absurd m42 (Nat.not_lt_zero _)
            | succ n34 ih43 =>
              intro x26 h27 b39 s28 f29 u40 u41 m42
              refine zj_iload_n (zdk ttX11_goes 21 rfl rfl) rfl ?_
              refine zj_iload_n (zdk ttX11_goes 22 rfl rfl) rfl ?_
              refine zj_icmp_ge (t := 50) (zdk ttX11_goes 23 rfl rfl) (by decide) (by omega) (by omega) (fun c44 => ?_) (fun c44 => ?_)
              · refine zj_iload_n (zdk ttX11_goes 29 rfl rfl) rfl ?_
                refine zj_if_ne (t := 63) (zdk ttX11_goes 30 rfl rfl) (by decide) (by omega) (fun c45 => ?_) (fun c45 => ?_)
                · refine zj_iload_n (zdk ttX11_goes 36 rfl rfl) rfl ?_
                  refine zj_iconst (zdk ttX11_goes 37 rfl rfl) ?_
                  refine zj_icmp_ne (t := 79) (zdk ttX11_goes 38 rfl rfl) (by decide) (by omega) (by decide) (fun c46 => ?_) (fun c46 => ?_)
                  · refine zj_iload_n (zdk ttX11_goes 44 rfl rfl) rfl ?_
                    refine zj_iconst (zdk ttX11_goes 45 rfl rfl) ?_
                    refine zj_icmp_ne (t := 93) (zdk ttX11_goes 46 rfl rfl) (by decide) (by omega) (by decide) (fun c47 => ?_) (fun c47 => ?_)
                    · refine zj_aload_n (zdk ttX11_goes 52 rfl rfl) rfl (by decide) ?_
                      refine zj_getr (r := 1) (zdk ttX11_goes 53 rfl rfl) zf_RX11_7 rfl (k_M s28) (rfM_1 s28) ?_
                      refine zj_bipush (zdk ttX11_goes 54 rfl rfl) (by decide) ?_
                      have b49 : -2147483648 ≤ (h27.2 1 8) ∧ (h27.2 1 8) ≤ 2147483647 := (rM_b s28 1 8 (by omega)).1
                      refine zj_iald (v := (h27.2 1 8)) (zdk ttX11_goes 55 rfl rfl) (kaM_1 s28) (by decide) (by omega) rfl ?_
                      refine zj_istore_n (L' := [some (.inr 0), some (.inl p1), some (.inl p2), some (.inl (h27.2 1 8))]) (zdk ttX11_goes 56 rfl rfl) (by decide) rfl ?_
                      refine zj_aload_n (zdk ttX11_goes 57 rfl rfl) rfl (by decide) ?_
                      refine zj_callV (av := []) (st := []) (zdk ttX11_goes 58 rfl rfl) mb_X11_endsThought mv_RX11_395 (ci := 11) rfl rfl (k_M s28) rfl rfl (Nat.le_of_ble_eq_true rfl) (s2_X11_endsThought l h27 s28) (rm_ok (by decide) (by decide)) (zq_v fun h52 q50 => ?_)
                      obtain ⟨s54, f57, u55, u56⟩ := q50
                      refine zj_iload_n (zdk ttX11_goes 59 rfl rfl) rfl ?_
                      have f58 : zfr [0, 5] [1, 3, 6, 20, 21] h h52 := zfr_t f29 f57 rfl rfl
                      exact zj_iret rfl (zdk ttX11_goes 60 rfl rfl) (Nat.le_refl _) (Nat.le_refl _) ⟨(h27.2 1 8), rfl, by omega, s54, f58, (by intro z t0 w0; unfold vGoes; rw [if_pos (by omega)]; obtain ⟨yH, pH⟩ := u40 z t0 w0; rw [show x26 = p1 by omega] at yH; have ye : zY h52 z.e false z.x := zY_e yH f57 rfl t0.1.2.1 (fun k9 a9 b9 => (u55 k9 a9 b9).trans ((rfl).trans ((pH k9 a9 b9).trans (xL_r t0 a9 b9)))) (fun k9 a9 b9 => ((zfr_a f57 rfl (by decide))).trans ((yH.2.2.2.2.1 k9 a9 b9).trans (by rw [fTd_b]))) ⟨fun q9 => absurd q9 (by decide), fun q9 => absurd ((u56).symm.trans q9) (by decide)⟩; have ze : xL h52 z := ⟨ye, xQ_f t0.2.1 ((zfr_f f57 rfl rfl).trans (zfr_f f29 rfl rfl)) (fun b9 => ((zfr_a f57 rfl (by decide)).trans (zfr_a f29 rfl (by decide)))), (((zfr_f f57 rfl rfl).trans (zfr_f f29 rfl rfl))).trans t0.2.2.1, fun q9 => xI_f (t0.2.2.2 q9) (fun b9 => ((zfr_a f57 rfl (by decide)).trans (zfr_a f29 rfl (by decide))))⟩; refine ⟨?_, ze⟩; have r3 := zY_r yH (k := 3) (by decide) (by decide); have r5 := zY_r yH (k := 5) (by decide) (by decide); have r8 := zY_r yH (k := 8) (by decide) (by decide); first | (rw [if_pos (by omega)]; omega) | (rw [if_neg (by omega), if_neg (by omega), if_pos (by omega)]; omega) | (rw [if_neg (by omega), if_neg (by omega), if_neg (by omega)]; omega))⟩
                    · refine zj_aload_n (zdk ttX11_goes 47 rfl rfl) rfl (by decide) ?_
                      refine zj_getr (r := 1) (zdk ttX11_goes 48 rfl rfl) zf_RX11_7 rfl (k_M s28) (rfM_1 s28) ?_
                      refine zj_iconst (zdk ttX11_goes 49 rfl rfl) ?_
                      have b60 : -2147483648 ≤ (h27.2 1 5) ∧ (h27.2 1 5) ≤ 2147483647 := (rM_b s28 1 5 (by omega)).1
                      refine zj_iald (v := (h27.2 1 5)) (zdk ttX11_goes 50 rfl rfl) (kaM_1 s28) (by decide) (by omega) rfl ?_
                      refine zj_goto (t := 100) (zdk ttX11_goes 51 rfl rfl) (by decide) ?_
                      refine zj_istore_n (L' := [some (.inr 0), some (.inl p1), some (.inl p2), some (.inl (h27.2 1 5))]) (zdk ttX11_goes 56 rfl rfl) (by decide) rfl ?_
                      refine zj_aload_n (zdk ttX11_goes 57 rfl rfl) rfl (by decide) ?_
                      refine zj_callV (av := []) (st := []) (zdk ttX11_goes 58 rfl rfl) mb_X11_endsThought mv_RX11_395 (ci := 11) rfl rfl (k_M s28) rfl rfl (Nat.le_of_ble_eq_true rfl) (s2_X11_endsThought l h27 s28) (rm_ok (by decide) (by decide)) (zq_v fun h63 q61 => ?_)
                      obtain ⟨s65, f68, u66, u67⟩ := q61
                      refine zj_iload_n (zdk ttX11_goes 59 rfl rfl) rfl ?_
                      have f69 : zfr [0, 5] [1, 3, 6, 20, 21] h h63 := zfr_t f29 f68 rfl rfl
                      exact zj_iret rfl (zdk ttX11_goes 60 rfl rfl) (Nat.le_refl _) (Nat.le_refl _) ⟨(h27.2 1 5), rfl, by omega, s65, f69, (by intro z t0 w0; unfold vGoes; rw [if_pos (by omega)]; obtain ⟨yH, pH⟩ := u40 z t0 w0; rw [show x26 = p1 by omega] at yH; have ye : zY h63 z.e false z.x := zY_e yH f68 rfl t0.1.2.1 (fun k9 a9 b9 => (u66 k9 a9 b9).trans ((rfl).trans ((pH k9 a9 b9).trans (xL_r t0 a9 b9)))) (fun k9 a9 b9 => ((zfr_a f68 rfl (by decide))).trans ((yH.2.2.2.2.1 k9 a9 b9).trans (by rw [fTd_b]))) ⟨fun q9 => absurd q9 (by decide), fun q9 => absurd ((u67).symm.trans q9) (by decide)⟩; have ze : xL h63 z := ⟨ye, xQ_f t0.2.1 ((zfr_f f68 rfl rfl).trans (zfr_f f29 rfl rfl)) (fun b9 => ((zfr_a f68 rfl (by decide)).trans (zfr_a f29 rfl (by decide)))), (((zfr_f f68 rfl rfl).trans (zfr_f f29 rfl rfl))).trans t0.2.2.1, fun q9 => xI_f (t0.2.2.2 q9) (fun b9 => ((zfr_a f68 rfl (by decide)).trans (zfr_a f29 rfl (by decide))))⟩; refine ⟨?_, ze⟩; have r3 := zY_r yH (k := 3) (by decide) (by decide); have r5 := zY_r yH (k := 5) (by decide) (by decide); have r8 := zY_r yH (k := 8) (by decide) (by decide); first | (rw [if_pos (by omega)]; omega) | (rw [if_neg (by omega), if_neg (by omega), if_pos (by omega)]; omega) | (rw [if_neg (by omega), if_neg (by omega), if_neg (by omega)]; omega))⟩
                  · refine zj_aload_n (zdk ttX11_goes 39 rfl rfl) rfl (by decide) ?_
                    refine zj_aload_n (zdk ttX11_goes 40 rfl rfl) rfl (by decide) ?_
                    refine zj_callV (av := []) (st := [.inr 0]) (zdk ttX11_goes 41 rfl rfl) mb_X11_hereSet mv_RX11_313 (ci := 11) rfl rfl (k_M s28) rfl rfl (Nat.le_of_ble_eq_true rfl) (s2_X11_hereSet l h27 s28) (rm_ok (by decide) (by decide)) (zq_i fun v71 h72 q70 => ?_)
                    obtain ⟨rfl, b73, u74⟩ := q70
                    refine zj_callV (av := [.inl v71]) (st := []) (zdk ttX11_goes 42 rfl rfl) mb_X11_onesOf mv_RX11_316 (ci := 11) rfl rfl (k_M s28) rfl rfl (Nat.le_of_ble_eq_true rfl) (s2_X11_onezOf l h27 v71 s28 (by omega)) (rm_ok (by decide) (by decide)) (zq_i fun v76 h77 q75 => ?_)
                    obtain ⟨rfl, b78, u79⟩ := q75
                    refine zj_goto (t := 100) (zdk ttX11_goes 43 rfl rfl) (by decide) ?_
                    refine zj_istore_n (L' := [some (.inr 0), some (.inl p1), some (.inl p2), some (.inl v76)]) (zdk ttX11_goes 56 rfl rfl) (by decide) rfl ?_
                    refine zj_aload_n (zdk ttX11_goes 57 rfl rfl) rfl (by decide) ?_
                    refine zj_callV (av := []) (st := []) (zdk ttX11_goes 58 rfl rfl) mb_X11_endsThought mv_RX11_395 (ci := 11) rfl rfl (k_M s28) rfl rfl (Nat.le_of_ble_eq_true rfl) (s2_X11_endsThought l h27 s28) (rm_ok (by decide) (by decide)) (zq_v fun h82 q80 => ?_)
                    obtain ⟨s84, f87, u85, u86⟩ := q80
                    refine zj_iload_n (zdk ttX11_goes 59 rfl rfl) rfl ?_
                    have f88 : zfr [0, 5] [1, 3, 6, 20, 21] h h82 := zfr_t f29 f87 rfl rfl
                    exact zj_iret rfl (zdk ttX11_goes 60 rfl rfl) (Nat.le_refl _) (Nat.le_refl _) ⟨v76, rfl, by omega, s84, f88, (by intro z t0 w0; unfold vGoes; rw [if_pos (by omega)]; obtain ⟨yH, pH⟩ := u40 z t0 w0; rw [show x26 = p1 by omega] at yH; have ye : zY h82 z.e false z.x := zY_e yH f87 rfl t0.1.2.1 (fun k9 a9 b9 => (u85 k9 a9 b9).trans ((rfl).trans ((pH k9 a9 b9).trans (xL_r t0 a9 b9)))) (fun k9 a9 b9 => ((zfr_a f87 rfl (by decide))).trans ((yH.2.2.2.2.1 k9 a9 b9).trans (by rw [fTd_b]))) ⟨fun q9 => absurd q9 (by decide), fun q9 => absurd ((u86).symm.trans q9) (by decide)⟩; have ze : xL h82 z := ⟨ye, xQ_f t0.2.1 ((zfr_f f87 rfl rfl).trans (zfr_f f29 rfl rfl)) (fun b9 => ((zfr_a f87 rfl (by decide)).trans (zfr_a f29 rfl (by decide)))), (((zfr_f f87 rfl rfl).trans (zfr_f f29 rfl rfl))).trans t0.2.2.1, fun q9 => xI_f (t0.2.2.2 q9) (fun b9 => ((zfr_a f87 rfl (by decide)).trans (zfr_a f29 rfl (by decide))))⟩; refine ⟨?_, ze⟩; have r3 := zY_r yH (k := 3) (by decide) (by decide); have r5 := zY_r yH (k := 5) (by decide) (by decide); have r8 := zY_r yH (k := 8) (by decide) (by decide); have zh := u74 z.e true _ yH; have zo := u79; rw [zHs_c zh t0.1.1.1] at zo; rw [if_neg (by omega), if_pos (by omega)]; exact zo)⟩
                · refine zj_aload_n (zdk ttX11_goes 31 rfl rfl) rfl (by decide) ?_
                  refine zj_getr (r := 1) (zdk ttX11_goes 32 rfl rfl) zf_RX11_7 rfl (k_M s28) (rfM_1 s28) ?_
                  refine zj_iconst (zdk ttX11_goes 33 rfl rfl) ?_
                  have b90 : -2147483648 ≤ (h27.2 1 3) ∧ (h27.2 1 3) ≤ 2147483647 := (rM_b s28 1 3 (by omega)).1
                  refine zj_iald (v := (h27.2 1 3)) (zdk ttX11_goes 34 rfl rfl) (kaM_1 s28) (by decide) (by omega) rfl ?_
                  refine zj_goto (t := 100) (zdk ttX11_goes 35 rfl rfl) (by decide) ?_
                  refine zj_istore_n (L' := [some (.inr 0), some (.inl p1), some (.inl p2), some (.inl (h27.2 1 3))]) (zdk ttX11_goes 56 rfl rfl) (by decide) rfl ?_
                  refine zj_aload_n (zdk ttX11_goes 57 rfl rfl) rfl (by decide) ?_
                  refine zj_callV (av := []) (st := []) (zdk ttX11_goes 58 rfl rfl) mb_X11_endsThought mv_RX11_395 (ci := 11) rfl rfl (k_M s28) rfl rfl (Nat.le_of_ble_eq_true rfl) (s2_X11_endsThought l h27 s28) (rm_ok (by decide) (by decide)) (zq_v fun h93 q91 => ?_)
                  obtain ⟨s95, f98, u96, u97⟩ := q91
                  refine zj_iload_n (zdk ttX11_goes 59 rfl rfl) rfl ?_
                  have f99 : zfr [0, 5] [1, 3, 6, 20, 21] h h93 := zfr_t f29 f98 rfl rfl
                  exact zj_iret rfl (zdk ttX11_goes 60 rfl rfl) (Nat.le_refl _) (Nat.le_refl _) ⟨(h27.2 1 3), rfl, by omega, s95, f99, (by intro z t0 w0; unfold vGoes; rw [if_pos (by omega)]; obtain ⟨yH, pH⟩ := u40 z t0 w0; rw [show x26 = p1 by omega] at yH; have ye : zY h93 z.e false z.x := zY_e yH f98 rfl t0.1.2.1 (fun k9 a9 b9 => (u96 k9 a9 b9).trans ((rfl).trans ((pH k9 a9 b9).trans (xL_r t0 a9 b9)))) (fun k9 a9 b9 => ((zfr_a f98 rfl (by decide))).trans ((yH.2.2.2.2.1 k9 a9 b9).trans (by rw [fTd_b]))) ⟨fun q9 => absurd q9 (by decide), fun q9 => absurd ((u97).symm.trans q9) (by decide)⟩; have ze : xL h93 z := ⟨ye, xQ_f t0.2.1 ((zfr_f f98 rfl rfl).trans (zfr_f f29 rfl rfl)) (fun b9 => ((zfr_a f98 rfl (by decide)).trans (zfr_a f29 rfl (by decide)))), (((zfr_f f98 rfl rfl).trans (zfr_f f29 rfl rfl))).trans t0.2.2.1, fun q9 => xI_f (t0.2.2.2 q9) (fun b9 => ((zfr_a f98 rfl (by decide)).trans (zfr_a f29 rfl (by decide))))⟩; refine ⟨?_, ze⟩; have r3 := zY_r yH (k := 3) (by decide) (by decide); have r5 := zY_r yH (k := 5) (by decide) (by decide); have r8 := zY_r yH (k := 8) (by decide) (by decide); first | (rw [if_pos (by omega)]; omega) | (rw [if_neg (by omega), if_neg (by omega), if_pos (by omega)]; omega) | (rw [if_neg (by omega), if_neg (by omega), if_neg (by omega)]; omega))⟩
              · refine zj_aload_n (zdk ttX11_goes 24 rfl rfl) rfl (by decide) ?_
                refine zj_callV (av := []) (st := []) (zdk ttX11_goes 25 rfl rfl) mb_X11_goesBy mv_RX11_389 (ci := 11) rfl rfl (k_M s28) rfl rfl (Nat.le_of_ble_eq_true rfl) (s2_X11_goesBy l h27 s28) (rm_ok (by decide) (by decide)) (zq_i fun v101 h102 q100 => ?_)
                obtain ⟨b103, s104, f106, u105⟩ := q100
                refine zj_pop (zdk ttX11_goes 26 rfl rfl) ?_
                refine zj_iinc (L' := [some (.inr 0), some (.inl p1), some (.inl p2), some (.inl (x26 + 1))]) (zdk ttX11_goes 27 rfl rfl) rfl (by decide) rfl ?_
                refine zj_goto (t := 34) (zdk ttX11_goes 28 rfl rfl) (by decide) ?_
                have f107 : zfr [0, 5] [1, 3, 6, 20, 21] h h102 := zfr_t f29 f106 rfl rfl
                exact ih43  (x26 + 1) h102 (by omega) s104 f107 (by intro z t0 w0; obtain ⟨yH, pH⟩ := u40 z t0 w0; have b4 := fTd_4 (B := 2000000000) (E := z.e) x26.toNat z.x t0.1.1 w0.2.1 w0.2.2 (by omega); obtain ⟨y2, v2⟩ := u105 z.e true _ yH (by omega); rw [fTd_n (by omega)]; exact ⟨y2, fun k9 a9 b9 => ((zfr_a f106 rfl (by decide))).trans (pH k9 a9 b9)⟩) (by omega) (by omega)
          have f109 : zfr [0, 5] [1, 3, 6, 20, 21] h h1 := zfr_wf (zfr_r _ _ _) e2 rfl
          have f108 : zfr [0, 5] [1, 3, 6, 20, 21] h h20 := zfr_t f109 f25 rfl rfl
          exact lp38 _ 0 h20 (by omega) s22 f108 (by intro z t0 w0; have y0 := zY_o t0.1 e2 (by unfold zDm zDe; omega); have y1 : zY h20 z.e true z.x := zY_e y0 f25 rfl t0.1.2.1 (fun k9 a9 b9 => (((zfr_a f25 rfl (by decide)).trans (zwr_r e2 (by first | decide | exact (absurd ·.1 (by decide)) | exact (absurd ·.2 (by decide)) | omega)))).trans (xL_r t0 a9 b9)) (fun k9 a9 b9 => (((zfr_a f25 rfl (by decide)).trans (zwr_r e2 (by first | decide | exact (absurd ·.1 (by decide)) | exact (absurd ·.2 (by decide)) | omega)))).trans (xL_b t0 a9 b9)) ⟨fun _ => u24, fun _ => rfl⟩; have p3 : ∀ k9, 0 ≤ k9 → k9 < 63 → h20.2 3 k9 = h.2 1 k9 := fun k9 a9 b9 => (u23 k9 a9 b9).trans (zwr_r e2 (by first | decide | exact (absurd ·.1 (by decide)) | exact (absurd ·.2 (by decide)) | omega)); exact ⟨y1, p3⟩) (by omega) (Nat.lt_succ_self _)
        · exact absurd c17 (by omega)

abbrev q2_X11_lonely (h : zM) : Option zV → zM → Prop := zqi fun v h' => ((-2147483648) ≤ v ∧ v ≤ 2147483647) ∧ okM h' ∧ zfr [0, 5] [1, 3, 6, 20, 21] h h' ∧ (∀ z, xL h z → fWz z → v = vLon z ∧ xL h' z)
set_option maxRecDepth 100000 in
set_option maxHeartbeats 4000000 in
theorem s2_X11_lonely (l : Launch) (h : zM) (s0 : okM h) : zT shM l yX11_lonely cX11_lonely 2 (some .int) (rmL 9) 0 0 [.inr 0] h (q2_X11_lonely h) := by
  refine zT_of (by decide +kernel) (L0 := [some (.inr 0), none]) rfl (Nat.le_of_ble_eq_true rfl) ?_
  refine zj_aload_n (zdk ttX11_lonely 0 rfl rfl) rfl (by decide) ?_
  refine zj_iconst (zdk ttX11_lonely 1 rfl rfl) ?_
  refine zj_puti (zdk ttX11_lonely 2 rfl rfl) zf_RX11_120 rfl (k_M s0) (Or.inl zw_RX11_120) (k2 := 0) rfl (fun h1 e2 => ?_)
  refine zj_aload_n (zdk ttX11_lonely 3 rfl rfl) rfl (by decide) ?_
  have s3 : okM h1 := fwM_0 s0 e2 (by omega)
  refine zj_callV (av := []) (st := []) (zdk ttX11_lonely 4 rfl rfl) mb_X11_thinks mv_RX11_392 (ci := 11) rfl rfl (k_M s3) rfl rfl (Nat.le_of_ble_eq_true rfl) (s2_X11_thinks l h1 s3) (rm_ok (by decide) (by decide)) (zq_v fun h6 q4 => ?_)
  obtain ⟨s8, f11, u9, u10⟩ := q4
  refine zj_iconst (zdk ttX11_lonely 5 rfl rfl) ?_
  refine zj_istore_n (L' := [some (.inr 0), some (.inl 0)]) (zdk ttX11_lonely 6 rfl rfl) (by decide) rfl ?_
  have lp30 : ∀ (n11 : Nat) (x12 : Int) (h13 : zM), (0 ≤ x12 ∧ x12 ≤ 61) → okM h13 → zfr [0, 5] [1, 3, 6, 20, 21] h h13 → (∀ z, xL h z → fWz z → ∃ y : fS, zY h13 z.e true y ∧ (∀ k9, 0 ≤ k9 → k9 < 63 → h13.2 3 k9 = h.2 1 k9) ∧ y.2 = z.x.2 ∧ fLo z.e (61 - x12).toNat x12 y = vLon z ∧ (-(2000000000 + 287712 * x12) ≤ y.1 4 ∧ y.1 4 ≤ 2000000000 + 287712 * x12)) → (62 - x12).toNat < n11 → zJ shM l yX11_lonely cX11_lonely 2 (some .int) (rmL 9) 0 0 (q2_X11_lonely h) 0 0 11 [some (.inr 0), some (.inl x12)] [] h13 := by
    intro n11
    induction n11 with
    | zero => intro x12 h13 b31 s14 f15 u32 m33; exact absurd m33 (Nat.not_lt_zero _)
    | succ n11 ih34 =>
      intro x12 h13 b31 s14 f15 u32 m33
      refine zj_iload_n (zdk ttX11_lonely 7 rfl rfl) rfl ?_
      refine zj_bipush (zdk ttX11_lonely 8 rfl rfl) (by decide) ?_
      refine zj_icmp_gt (t := 36) (zdk ttX11_lonely 9 rfl rfl) (by decide) (by omega) (by decide) (fun c35 => ?_) (fun c35 => ?_)
      · refine zj_aload_n (zdk ttX11_lonely 21 rfl rfl) rfl (by decide) ?_
        refine zj_callV (av := []) (st := []) (zdk ttX11_lonely 22 rfl rfl) mb_X11_endsThought mv_RX11_395 (ci := 11) rfl rfl (k_M s14) rfl rfl (Nat.le_of_ble_eq_true rfl) (s2_X11_endsThought l h13 s14) (rm_ok (by decide) (by decide)) (zq_v fun h38 q36 => ?_)
        obtain ⟨s40, f43, u41, u42⟩ := q36
        refine zj_iload_n (zdk ttX11_lonely 23 rfl rfl) rfl ?_
        refine zj_bipush (zdk ttX11_lonely 24 rfl rfl) (by decide) ?_
        refine zj_icmp_le (t := 50) (zdk ttX11_lonely 25 rfl rfl) (by decide) (by omega) (by decide) (fun c44 => ?_) (fun c44 => ?_)
        · exact absurd c44 (by omega)
        · refine zj_iconst (zdk ttX11_lonely 26 rfl rfl) ?_
          refine zj_goto (t := 51) (zdk ttX11_lonely 27 rfl rfl) (by decide) ?_
          have f45 : zfr [0, 5] [1, 3, 6, 20, 21] h h38 := zfr_t f15 f43 rfl rfl
          exact zj_iret rfl (zdk ttX11_lonely 29 rfl rfl) (Nat.le_refl _) (Nat.le_refl _) ⟨(-1), rfl, by omega, s40, f45, (by intro z t0 w0; obtain ⟨y, yH, pH, bH, rH, wH⟩ := u32 z t0 w0; have ye : zY h38 z.e false z.x := zY_e yH f43 rfl t0.1.2.1 (fun k9 a9 b9 => (u41 k9 a9 b9).trans ((rfl).trans ((pH k9 a9 b9).trans (xL_r t0 a9 b9)))) (fun k9 a9 b9 => ((zfr_a f43 rfl (by decide))).trans ((yH.2.2.2.2.1 k9 a9 b9).trans (by rw [bH]))) ⟨fun q9 => absurd q9 (by decide), fun q9 => absurd ((u42).symm.trans q9) (by decide)⟩; have ze : xL h38 z := ⟨ye, xQ_f t0.2.1 ((zfr_f f43 rfl rfl).trans (zfr_f f15 rfl rfl)) (fun b9 => ((zfr_a f43 rfl (by decide)).trans (zfr_a f15 rfl (by decide)))), (((zfr_f f43 rfl rfl).trans (zfr_f f15 rfl rfl))).trans t0.2.2.1, fun q9 => xI_f (t0.2.2.2 q9) (fun b9 => ((zfr_a f43 rfl (by decide)).trans (zfr_a f15 rfl (by decide))))⟩; refine ⟨?_, ze⟩; rw [fLo_e (by omega)] at rH; exact rH)⟩
      · refine zj_aload_n (zdk ttX11_lonely 10 rfl rfl) rfl (by decide) ?_
        refine zj_callV (av := []) (st := []) (zdk ttX11_lonely 11 rfl rfl) mb_X11_hereSet mv_RX11_313 (ci := 11) rfl rfl (k_M s14) rfl rfl (Nat.le_of_ble_eq_true rfl) (s2_X11_hereSet l h13 s14) (rm_ok (by decide) (by decide)) (zq_i fun v47 h48 q46 => ?_)
        obtain ⟨rfl, b49, u50⟩ := q46
        refine zj_if_eq (t := 36) (zdk ttX11_lonely 12 rfl rfl) (by decide) (by omega) (fun c51 => ?_) (fun c51 => ?_)
        · refine zj_aload_n (zdk ttX11_lonely 21 rfl rfl) rfl (by decide) ?_
          refine zj_callV (av := []) (st := []) (zdk ttX11_lonely 22 rfl rfl) mb_X11_endsThought mv_RX11_395 (ci := 11) rfl rfl (k_M s14) rfl rfl (Nat.le_of_ble_eq_true rfl) (s2_X11_endsThought l h13 s14) (rm_ok (by decide) (by decide)) (zq_v fun h54 q52 => ?_)
          obtain ⟨s56, f59, u57, u58⟩ := q52
          refine zj_iload_n (zdk ttX11_lonely 23 rfl rfl) rfl ?_
          refine zj_bipush (zdk ttX11_lonely 24 rfl rfl) (by decide) ?_
          refine zj_icmp_le (t := 50) (zdk ttX11_lonely 25 rfl rfl) (by decide) (by omega) (by decide) (fun c60 => ?_) (fun c60 => ?_)
          · refine zj_iload_n (zdk ttX11_lonely 28 rfl rfl) rfl ?_
            have f61 : zfr [0, 5] [1, 3, 6, 20, 21] h h54 := zfr_t f15 f59 rfl rfl
            exact zj_iret rfl (zdk ttX11_lonely 29 rfl rfl) (Nat.le_refl _) (Nat.le_refl _) ⟨x12, rfl, by omega, s56, f61, (by intro z t0 w0; obtain ⟨y, yH, pH, bH, rH, wH⟩ := u32 z t0 w0; have ye : zY h54 z.e false z.x := zY_e yH f59 rfl t0.1.2.1 (fun k9 a9 b9 => (u57 k9 a9 b9).trans ((rfl).trans ((pH k9 a9 b9).trans (xL_r t0 a9 b9)))) (fun k9 a9 b9 => ((zfr_a f59 rfl (by decide))).trans ((yH.2.2.2.2.1 k9 a9 b9).trans (by rw [bH]))) ⟨fun q9 => absurd q9 (by decide), fun q9 => absurd ((u58).symm.trans q9) (by decide)⟩; have ze : xL h54 z := ⟨ye, xQ_f t0.2.1 ((zfr_f f59 rfl rfl).trans (zfr_f f15 rfl rfl)) (fun b9 => ((zfr_a f59 rfl (by decide)).trans (zfr_a f15 rfl (by decide)))), (((zfr_f f59 rfl rfl).trans (zfr_f f15 rfl rfl))).trans t0.2.2.1, fun q9 => xI_f (t0.2.2.2 q9) (fun b9 => ((zfr_a f59 rfl (by decide)).trans (zfr_a f15 rfl (by decide))))⟩; refine ⟨?_, ze⟩; first | (rw [fLo_e (by omega)] at rH; omega) | (have zh := u50 z.e true y yH; rw [fLo_y (by omega) ((zHs_0z zh t0.1.1.1 (by omega)).mp (by omega))] at rH; exact rH))⟩
          · exact absurd c60 (by omega)
        · refine zj_aload_n (zdk ttX11_lonely 13 rfl rfl) rfl (by decide) ?_
          refine zj_callV (av := []) (st := []) (zdk ttX11_lonely 14 rfl rfl) mb_X11_goesBy mv_RX11_389 (ci := 11) rfl rfl (k_M s14) rfl rfl (Nat.le_of_ble_eq_true rfl) (s2_X11_goesBy l h13 s14) (rm_ok (by decide) (by decide)) (zq_i fun v63 h64 q62 => ?_)
          obtain ⟨b65, s66, f68, u67⟩ := q62
          refine zj_pop (zdk ttX11_lonely 15 rfl rfl) ?_
          refine zj_iload_n (zdk ttX11_lonely 16 rfl rfl) rfl ?_
          refine zj_iconst (zdk ttX11_lonely 17 rfl rfl) ?_
          refine zj_iadd (zdk ttX11_lonely 18 rfl rfl) ?_
          refine zj_istore_n (L' := [some (.inr 0), some (.inl (x12 + 1))]) (zdk ttX11_lonely 19 rfl rfl) (by decide) rfl ?_
          refine zj_goto (t := 11) (zdk ttX11_lonely 20 rfl rfl) (by decide) ?_
          have f69 : zfr [0, 5] [1, 3, 6, 20, 21] h h64 := zfr_t f15 f68 rfl rfl
          exact ih34  (x12 + 1) h64 (by omega) s66 f69 (by intro z t0 w0; obtain ⟨y, yH, pH, bH, rH, wH⟩ := u32 z t0 w0; have zh := u50 z.e true y yH; have hz : ¬ fct (fHr y.1) z.e.n.toNat = 0 := (fun q9 => absurd ((zHs_0z zh t0.1.1.1 (by omega)).mpr q9) (by omega)); obtain ⟨y2, v2⟩ := u67 z.e true y yH (by omega); have d4 := fDy_4 (th := true) (x := y) (B := 2000000000 + 287712 * x12) t0.1.1 wH (by omega); have iv : (0 : Int) ≤ (if y.1 0 ≤ 999 then 287712 else 0) ∧ (if y.1 0 ≤ 999 then 287712 else 0) ≤ (287712 : Int) := (by by_cases q9 : y.1 0 ≤ 999; (rw [if_pos q9]; omega); (rw [if_neg q9]; omega)); exact ⟨_, y2, fun k9 a9 b9 => ((zfr_a f68 rfl (by decide))).trans (pH k9 a9 b9), (fDy_b z.e y).trans bH, (fLo_n (by omega) hz).symm.trans rH, by omega, by omega⟩) (by omega)
  have f71 : zfr [0, 5] [1, 3, 6, 20, 21] h h1 := zfr_wf (zfr_r _ _ _) e2 rfl
  have f70 : zfr [0, 5] [1, 3, 6, 20, 21] h h6 := zfr_t f71 f11 rfl rfl
  exact lp30 _ 0 h6 (by omega) s8 f70 (by intro z t0 w0; have y0 := zY_o t0.1 e2 (by unfold zDm zDe; omega); have y1 : zY h6 z.e true z.x := zY_e y0 f11 rfl t0.1.2.1 (fun k9 a9 b9 => (((zfr_a f11 rfl (by decide)).trans (zwr_r e2 (by first | decide | exact (absurd ·.1 (by decide)) | exact (absurd ·.2 (by decide)) | omega)))).trans (xL_r t0 a9 b9)) (fun k9 a9 b9 => (((zfr_a f11 rfl (by decide)).trans (zwr_r e2 (by first | decide | exact (absurd ·.1 (by decide)) | exact (absurd ·.2 (by decide)) | omega)))).trans (xL_b t0 a9 b9)) ⟨fun _ => u10, fun _ => rfl⟩; have p3 : ∀ k9, 0 ≤ k9 → k9 < 63 → h6.2 3 k9 = h.2 1 k9 := fun k9 a9 b9 => (u9 k9 a9 b9).trans (zwr_r e2 (by first | decide | exact (absurd ·.1 (by decide)) | exact (absurd ·.2 (by decide)) | omega)); exact ⟨z.x, y1, p3, rfl, rfl, (by have w4 := w0.2; exact ⟨by omega, by omega⟩)⟩) (Nat.lt_succ_self _)

abbrev q2_X11_imagez (h : zM) (p1 : Int) : Option zV → zM → Prop := zqi fun v h' => (0 ≤ v ∧ v ≤ 1) ∧ okB h' ∧ zfr [0, 3, 6, 33, 35, 37, 42, 45, 49, 53, 58, 59, 60] [1, 4, 5, 6, 9, 10, 11, 12, 13, 14, 15, 17, 18, 19, 23, 24, 25, 28, 31, 32, 35] h h' ∧ (okM h') ∧ (zimc p1 (h.2 0 59) v (h'.2 0 59)) ∧ (zGm h h' p1 (h.2 0 59)) ∧ ((p1 = 0 → ¬ h.2 0 59 = 0 → h'.2 0 3 = 0) ∧ ((¬ p1 = 0 ∨ h.2 0 59 = 0) → h'.2 0 3 = h.2 0 3))
set_option maxRecDepth 100000 in
set_option maxHeartbeats 4000000 in
theorem s2_X11_imagez (l : Launch) (h : zM) (p1 : Int) (s0 : okB h) (b_p1 : 0 ≤ p1 ∧ p1 ≤ 1) (u_0 : okM h) : zT shM l yX11_image cX11_image 3 (some .boolean) (rmL 3) 0 0 [.inr 0, .inl p1] h (q2_X11_imagez h p1) := by
  refine zT_of (by decide +kernel) (L0 := [some (.inr 0), some (.inl p1), none]) rfl (Nat.le_of_ble_eq_true rfl) ?_
  refine zj_aload_n (zdk ttX11_image 0 rfl rfl) rfl (by decide) ?_
  refine zj_iconst (zdk ttX11_image 1 rfl rfl) ?_
  refine zj_puti (zdk ttX11_image 2 rfl rfl) zf_RX11_120 rfl (k_B s0) (Or.inl zw_RX11_120) (k2 := 0) rfl (fun h1 e2 => ?_)
  refine zj_iload_n (zdk ttX11_image 3 rfl rfl) rfl ?_
  refine zj_if_ne (t := 18) (zdk ttX11_image 4 rfl rfl) (by decide) (by omega) (fun c3 => ?_) (fun c3 => ?_)
  · refine zj_aload_n (zdk ttX11_image 10 rfl rfl) rfl (by decide) ?_
    refine zj_iload_n (zdk ttX11_image 11 rfl rfl) rfl ?_
    have s4 : okB h1 := fwB_0 s0 e2 (by omega)
    refine zj_putz (zdk ttX11_image 12 rfl rfl) zf_RX11_464 rfl (by omega) (k_B s4) (Or.inl zw_RX11_464) (k2 := 58) rfl (fun h5 e6 => ?_)
    refine zj_aload_n (zdk ttX11_image 13 rfl rfl) rfl (by decide) ?_
    refine zj_iconst (zdk ttX11_image 14 rfl rfl) ?_
    have s7 : okB h5 := fwB_58 s4 e6 (by omega)
    refine zj_putz (zdk ttX11_image 15 rfl rfl) zf_RX11_470 rfl (by omega) (k_B s7) (Or.inl zw_RX11_470) (k2 := 59) rfl (fun h8 e9 => ?_)
    refine zj_aload_n (zdk ttX11_image 16 rfl rfl) rfl (by decide) ?_
    refine zj_iconst (zdk ttX11_image 17 rfl rfl) ?_
    have s10 : okB h8 := fwB_59 s7 e9 (by omega)
    refine zj_puti (zdk ttX11_image 18 rfl rfl) zf_RX11_461 rfl (k_B s10) (Or.inl zw_RX11_461) (k2 := 60) rfl (fun h11 e12 => ?_)
    have f0 : zfr [0, 58, 59, 60] [] h h11 := (zfr_wf (zfr_wf (zfr_wf (zfr_wf (zfr_r _ _ _) e2 rfl) e6 rfl) e9 rfl) e12 rfl)
    have b13 : h11.2 0 58 = p1 := (((zwr_r e12 (by first | decide | exact (absurd ·.1 (by decide)) | exact (absurd ·.2 (by decide)) | omega)).trans (zwr_r e9 (by first | decide | exact (absurd ·.1 (by decide)) | exact (absurd ·.2 (by decide)) | omega))).trans (zwr_v e6))
    have b14 : h11.2 0 59 = 1 := ((zwr_r e12 (by first | decide | exact (absurd ·.1 (by decide)) | exact (absurd ·.2 (by decide)) | omega)).trans (zwr_v e9))
    have b15 : h11.2 0 60 = 0 := (zwr_v e12)
    have hT0 : h11.2 0 58 = 0 → h.2 0 59 = 1 := fun q => by omega
    have zI0 := zPI_of u_0 f0 hT0
    have z0 : zSt h11 h11 0 := zSt_0 (by omega)
    refine zj_iconst (zdk ttX11_image 19 rfl rfl) ?_
    refine zj_istore_n (L' := [some (.inr 0), some (.inl p1), some (.inl 0)]) (zdk ttX11_image 20 rfl rfl) (by decide) rfl ?_
    have lp98 : ∀ (n35 : Nat) (x16 : Int) (h17 : zM), (0 ≤ x16 ∧ x16 ≤ 63) → okB h17 → zfr [0, 3, 6, 33, 35, 37, 42, 45, 49, 53, 58, 59, 60] [1, 4, 5, 6, 9, 10, 11, 12, 13, 14, 15, 17, 18, 19, 23, 24, 25, 28, 31, 32, 35] h h17 → (zSt h11 h17 (x16)) → (h17.2 0 59 = 1) → (h17.2 0 3 = h.2 0 3) → (64 - x16).toNat < n35 → zJ shM l yX11_image cX11_image 3 (some .boolean) (rmL 3) 0 0 (q2_X11_imagez h p1) 0 0 35 [some (.inr 0), some (.inl p1), some (.inl x16)] [] h17 := by
      intro n35
      induction n35 with
      | zero => intro x16 h17 b99 s18 f19 u100 u101 u102 m103; exact absurd m103 (Nat.not_lt_zero _)
      | succ n35 ih104 =>
        intro x16 h17 b99 s18 f19 u100 u101 u102 m103
        refine zj_iload_n (zdk ttX11_image 21 rfl rfl) rfl ?_
        refine zj_bipush (zdk ttX11_image 22 rfl rfl) (by decide) ?_
        refine zj_icmp_ge (t := 63) (zdk ttX11_image 23 rfl rfl) (by decide) (by omega) (by decide) (fun c105 => ?_) (fun c105 => ?_)
        · refine zj_aload_n (zdk ttX11_image 36 rfl rfl) rfl (by decide) ?_
          refine zj_callV (av := []) (st := []) (zdk ttX11_image 37 rfl rfl) mb_X11_keepsTold mv_RX11_473 (ci := 11) rfl rfl (k_B s18) rfl rfl (Nat.le_of_ble_eq_true rfl) (s_X11_keepsTold l h17 h11 s18 (zSt_j u100 (by omega)) zI0) (rm_ok (by decide) (by decide)) (zq_v fun h108 q106 => ?_)
          obtain ⟨s110, f112, u111⟩ := q106
          refine zj_iconst (zdk ttX11_image 38 rfl rfl) ?_
          refine zj_istore_n (L' := [some (.inr 0), some (.inl p1), some (.inl 0)]) (zdk ttX11_image 39 rfl rfl) (by decide) rfl ?_
          have lp234 : ∀ (n69 : Nat) (x113 : Int) (h114 : zM), (0 ≤ x113 ∧ x113 ≤ 600) → okB h114 → zfr [0, 3, 6, 33, 35, 37, 42, 45, 49, 53, 58, 59, 60] [1, 4, 5, 6, 9, 10, 11, 12, 13, 14, 15, 17, 18, 19, 23, 24, 25, 28, 31, 32, 35] h h114 → (zSt h11 h114 (262 + x113)) → (h114.2 0 59 = 1) → (h114.2 0 3 = h.2 0 3) → (601 - x113).toNat < n69 → zJ shM l yX11_image cX11_image 3 (some .boolean) (rmL 3) 0 0 (q2_X11_imagez h p1) 0 0 69 [some (.inr 0), some (.inl p1), some (.inl x113)] [] h114 := by
            intro n69
            induction n69 with
            | zero => intro x113 h114 b235 s115 f116 u236 u237 u238 m239; exact absurd m239 (Nat.not_lt_zero _)
            | succ n69 ih240 =>
              intro x113 h114 b235 s115 f116 u236 u237 u238 m239
              refine zj_iload_n (zdk ttX11_image 40 rfl rfl) rfl ?_
              refine zj_sipush (zdk ttX11_image 41 rfl rfl) (by decide) ?_
              refine zj_icmp_ge (t := 98) (zdk ttX11_image 42 rfl rfl) (by decide) (by omega) (by decide) (fun c241 => ?_) (fun c241 => ?_)
              · refine zj_aload_n (zdk ttX11_image 55 rfl rfl) rfl (by decide) ?_
                refine zj_callV (av := []) (st := []) (zdk ttX11_image 56 rfl rfl) mb_X11_keepsLaw mv_RX11_476 (ci := 11) rfl rfl (k_B s115) rfl rfl (Nat.le_of_ble_eq_true rfl) (s_X11_keepsLaw l h114 h11 s115 (zSt_j u236 (by omega)) zI0) (rm_ok (by decide) (by decide)) (zq_v fun h244 q242 => ?_)
                obtain ⟨s246, f248, u247⟩ := q242
                refine zj_iload_n (zdk ttX11_image 57 rfl rfl) rfl ?_
                refine zj_if_ne (t := 111) (zdk ttX11_image 58 rfl rfl) (by decide) (by omega) (fun c249 => ?_) (fun c249 => ?_)
                · refine zj_iconst (zdk ttX11_image 62 rfl rfl) ?_
                  have f250 : zfr [0, 3, 6, 33, 35, 37, 42, 45, 49, 53, 58, 59, 60] [1, 4, 5, 6, 9, 10, 11, 12, 13, 14, 15, 17, 18, 19, 23, 24, 25, 28, 31, 32, 35] h h244 := zfr_t f116 f248 rfl rfl
                  have b251 : h244.2 0 59 = (h114.2 0 59) := (zfr_f f248 rfl rfl)
                  have b252 : 0 ≤ (h114.2 0 59) ∧ (h114.2 0 59) ≤ 1 := fB_59 s115
                  have b253 : h244.2 0 59 = (h114.2 0 59) := (zfr_f f248 rfl rfl)
                  have b254 : h244.2 0 3 = (h114.2 0 3) := (zfr_f f248 rfl rfl)
                  have b255 : 0 ≤ (h114.2 0 3) ∧ (h114.2 0 3) ≤ 6 := fB_3 s115
                  exact zj_zret rfl (zdk ttX11_image 63 rfl rfl) (Nat.le_refl _) (Nat.le_refl _) (by omega) ⟨1, rfl, by omega, s246, f250, (okM_img u_0 f0 (by omega) hT0 s246 f250 (zSt_j u247 (by omega))), by unfold zimc; omega, (fun j9 a9 b9 => by have z9 := zSt_pt f0 (zSt_j u247 (by omega)) (j := j9) ⟨a9, b9⟩ (c := (zloc j9).1) (k := (zloc j9).2) rfl; have z8 : (¬ (_ : Int) = 0 → h244.2 35 j9 = zlv h j9 ∧ zlv h244 j9 = zlv h j9) ∧ ((_ : Int) = 0 → h244.2 35 j9 = h.2 35 j9 ∧ zlv h244 j9 = h.2 35 j9) := z9; unfold zimx; omega), by omega⟩
                · exact absurd c249 (by omega)
              · refine zj_aload_n (zdk ttX11_image 43 rfl rfl) rfl (by decide) ?_
                refine zj_getr (r := 6) (zdk ttX11_image 44 rfl rfl) zf_RX11_25 rfl (k_B s115) (rfB_9 s115) ?_
                refine zj_iload_n (zdk ttX11_image 45 rfl rfl) rfl ?_
                refine zj_aload_n (zdk ttX11_image 46 rfl rfl) rfl (by decide) ?_
                refine zj_aload_n (zdk ttX11_image 47 rfl rfl) rfl (by decide) ?_
                refine zj_getr (r := 6) (zdk ttX11_image 48 rfl rfl) zf_RX11_25 rfl (k_B s115) (rfB_9 s115) ?_
                refine zj_iload_n (zdk ttX11_image 49 rfl rfl) rfl ?_
                have b256 : -2147483648 ≤ (h114.2 6 x113) ∧ (h114.2 6 x113) ≤ 2147483647 := abB_6 s115 x113
                refine zj_iald (v := (h114.2 6 x113)) (zdk ttX11_image 50 rfl rfl) (kaB_6 s115) (by decide) (by omega) rfl ?_
                refine zj_callV (av := [.inl (h114.2 6 x113)]) (st := [.inl x113, .inr 6]) (zdk ttX11_image 51 rfl rfl) mb_X11_keeps mv_RX11_467 (ci := 11) rfl rfl (k_B s115) rfl rfl (Nat.le_of_ble_eq_true rfl) (s_X11_keeps l h114 (h114.2 6 x113) s115 (by omega) (by have := u236.1; omega)) (rm_ok (by decide) (by decide)) (zq_i fun v258 h259 q257 => ?_)
                obtain ⟨b260, s261, f265, u262, u263, u264⟩ := q257
                refine zj_iast (zdk ttX11_image 52 rfl rfl) (kaB_6 s261) (by decide) (by omega) (fun h266 e267 => ?_)
                refine zj_iinc (L' := [some (.inr 0), some (.inl p1), some (.inl (x113 + 1))]) (zdk ttX11_image 53 rfl rfl) rfl (by decide) rfl ?_
                refine zj_goto (t := 69) (zdk ttX11_image 54 rfl rfl) (by decide) ?_
                have b268 : h266.2 0 59 = (h114.2 0 59) := ((zwr_r e267 (by first | decide | exact (absurd ·.1 (by decide)) | exact (absurd ·.2 (by decide)) | omega)).trans (zfr_f f265 rfl rfl))
                have b269 : 0 ≤ (h114.2 0 59) ∧ (h114.2 0 59) ≤ 1 := fB_59 s115
                have z271r : h114.2 6 x113 = (h114.2 6 x113) := rfl
                have z271l : zloc (262 + x113) = (6, x113) := (zl_6 (by omega) (by omega))
                have z271 : zSt h11 h266 (262 + x113 + 1) := zSt_step u236 (by omega) z271l f265 u262 u263 z271r u264 e267
                have s270 : okB h266 := okB_w s261 e267 (zSt_pm u236 (by omega) z271l s115 zI0 u263 z271r u264)
                have f273 : zfr [0, 3, 6, 33, 35, 37, 42, 45, 49, 53, 58, 59, 60] [1, 4, 5, 6, 9, 10, 11, 12, 13, 14, 15, 17, 18, 19, 23, 24, 25, 28, 31, 32, 35] h h259 := zfr_t f116 f265 rfl rfl
                have f272 : zfr [0, 3, 6, 33, 35, 37, 42, 45, 49, 53, 58, 59, 60] [1, 4, 5, 6, 9, 10, 11, 12, 13, 14, 15, 17, 18, 19, 23, 24, 25, 28, 31, 32, 35] h h266 := zfr_wa f273 e267 rfl
                have b274 : h266.2 0 3 = (h114.2 0 3) := ((zwr_r e267 (by first | decide | exact (absurd ·.1 (by decide)) | exact (absurd ·.2 (by decide)) | omega)).trans (zfr_f f265 rfl rfl))
                have b275 : 0 ≤ (h114.2 0 3) ∧ (h114.2 0 3) ≤ 6 := fB_3 s115
                exact ih240  (x113 + 1) h266 (by omega) s270 f272 (zSt_j z271 (by omega)) (by omega) (by omega) (by omega)
          have b276 : h108.2 0 59 = (h17.2 0 59) := (zfr_f f112 rfl rfl)
          have b277 : 0 ≤ (h17.2 0 59) ∧ (h17.2 0 59) ≤ 1 := fB_59 s18
          have f278 : zfr [0, 3, 6, 33, 35, 37, 42, 45, 49, 53, 58, 59, 60] [1, 4, 5, 6, 9, 10, 11, 12, 13, 14, 15, 17, 18, 19, 23, 24, 25, 28, 31, 32, 35] h h108 := zfr_t f19 f112 rfl rfl
          have b279 : h108.2 0 3 = (h17.2 0 3) := (zfr_f f112 rfl rfl)
          have b280 : 0 ≤ (h17.2 0 3) ∧ (h17.2 0 3) ≤ 6 := fB_3 s18
          exact lp234 _ 0 h108 (by omega) s110 f278 (zSt_j u111 (by omega)) (by omega) (by omega) (Nat.lt_succ_self _)
        · refine zj_aload_n (zdk ttX11_image 24 rfl rfl) rfl (by decide) ?_
          refine zj_getr (r := 1) (zdk ttX11_image 25 rfl rfl) zf_RX11_7 rfl (k_B s18) (rfB_1 s18) ?_
          refine zj_iload_n (zdk ttX11_image 26 rfl rfl) rfl ?_
          refine zj_aload_n (zdk ttX11_image 27 rfl rfl) rfl (by decide) ?_
          refine zj_aload_n (zdk ttX11_image 28 rfl rfl) rfl (by decide) ?_
          refine zj_getr (r := 1) (zdk ttX11_image 29 rfl rfl) zf_RX11_7 rfl (k_B s18) (rfB_1 s18) ?_
          refine zj_iload_n (zdk ttX11_image 30 rfl rfl) rfl ?_
          have b281 : -2147483648 ≤ (h17.2 1 x16) ∧ (h17.2 1 x16) ≤ 2147483647 := abB_1 s18 x16
          refine zj_iald (v := (h17.2 1 x16)) (zdk ttX11_image 31 rfl rfl) (kaB_1 s18) (by decide) (by omega) rfl ?_
          refine zj_callV (av := [.inl (h17.2 1 x16)]) (st := [.inl x16, .inr 1]) (zdk ttX11_image 32 rfl rfl) mb_X11_keeps mv_RX11_467 (ci := 11) rfl rfl (k_B s18) rfl rfl (Nat.le_of_ble_eq_true rfl) (s_X11_keeps l h17 (h17.2 1 x16) s18 (by omega) (by have := u100.1; omega)) (rm_ok (by decide) (by decide)) (zq_i fun v283 h284 q282 => ?_)
          obtain ⟨b285, s286, f290, u287, u288, u289⟩ := q282
          refine zj_iast (zdk ttX11_image 33 rfl rfl) (kaB_1 s286) (by decide) (by omega) (fun h291 e292 => ?_)
          refine zj_iinc (L' := [some (.inr 0), some (.inl p1), some (.inl (x16 + 1))]) (zdk ttX11_image 34 rfl rfl) rfl (by decide) rfl ?_
          refine zj_goto (t := 35) (zdk ttX11_image 35 rfl rfl) (by decide) ?_
          have b293 : h291.2 0 59 = (h17.2 0 59) := ((zwr_r e292 (by first | decide | exact (absurd ·.1 (by decide)) | exact (absurd ·.2 (by decide)) | omega)).trans (zfr_f f290 rfl rfl))
          have b294 : 0 ≤ (h17.2 0 59) ∧ (h17.2 0 59) ≤ 1 := fB_59 s18
          have z296r : h17.2 1 x16 = (h17.2 1 x16) := rfl
          have z296l : zloc (x16) = (1, x16) := (zl_1 (by omega) (by omega))
          have z296 : zSt h11 h291 (x16 + 1) := zSt_step u100 (by omega) z296l f290 u287 u288 z296r u289 e292
          have s295 : okB h291 := okB_w s286 e292 (zSt_pm u100 (by omega) z296l s18 zI0 u288 z296r u289)
          have f298 : zfr [0, 3, 6, 33, 35, 37, 42, 45, 49, 53, 58, 59, 60] [1, 4, 5, 6, 9, 10, 11, 12, 13, 14, 15, 17, 18, 19, 23, 24, 25, 28, 31, 32, 35] h h284 := zfr_t f19 f290 rfl rfl
          have f297 : zfr [0, 3, 6, 33, 35, 37, 42, 45, 49, 53, 58, 59, 60] [1, 4, 5, 6, 9, 10, 11, 12, 13, 14, 15, 17, 18, 19, 23, 24, 25, 28, 31, 32, 35] h h291 := zfr_wa f298 e292 rfl
          have b299 : h291.2 0 3 = (h17.2 0 3) := ((zwr_r e292 (by first | decide | exact (absurd ·.1 (by decide)) | exact (absurd ·.2 (by decide)) | omega)).trans (zfr_f f290 rfl rfl))
          have b300 : 0 ≤ (h17.2 0 3) ∧ (h17.2 0 3) ≤ 6 := fB_3 s18
          exact ih104  (x16 + 1) h291 (by omega) s295 f297 (zSt_j z296 (by omega)) (by omega) (by omega) (by omega)
    have b301 : h11.2 0 59 = 1 := ((zwr_r e12 (by first | decide | exact (absurd ·.1 (by decide)) | exact (absurd ·.2 (by decide)) | omega)).trans (zwr_v e9))
    have s302 : okB h11 := fwB_60 s10 e12 (by omega)
    have f306 : zfr [0, 3, 6, 33, 35, 37, 42, 45, 49, 53, 58, 59, 60] [1, 4, 5, 6, 9, 10, 11, 12, 13, 14, 15, 17, 18, 19, 23, 24, 25, 28, 31, 32, 35] h h1 := zfr_wf (zfr_r _ _ _) e2 rfl
    have f305 : zfr [0, 3, 6, 33, 35, 37, 42, 45, 49, 53, 58, 59, 60] [1, 4, 5, 6, 9, 10, 11, 12, 13, 14, 15, 17, 18, 19, 23, 24, 25, 28, 31, 32, 35] h h5 := zfr_wf f306 e6 rfl
    have f304 : zfr [0, 3, 6, 33, 35, 37, 42, 45, 49, 53, 58, 59, 60] [1, 4, 5, 6, 9, 10, 11, 12, 13, 14, 15, 17, 18, 19, 23, 24, 25, 28, 31, 32, 35] h h8 := zfr_wf f305 e9 rfl
    have f303 : zfr [0, 3, 6, 33, 35, 37, 42, 45, 49, 53, 58, 59, 60] [1, 4, 5, 6, 9, 10, 11, 12, 13, 14, 15, 17, 18, 19, 23, 24, 25, 28, 31, 32, 35] h h11 := zfr_wf f304 e12 rfl
    have b307 : h11.2 0 3 = (h.2 0 3) := ((((zwr_r e12 (by first | decide | exact (absurd ·.1 (by decide)) | exact (absurd ·.2 (by decide)) | omega)).trans (zwr_r e9 (by first | decide | exact (absurd ·.1 (by decide)) | exact (absurd ·.2 (by decide)) | omega))).trans (zwr_r e6 (by first | decide | exact (absurd ·.1 (by decide)) | exact (absurd ·.2 (by decide)) | omega))).trans (zwr_r e2 (by first | decide | exact (absurd ·.1 (by decide)) | exact (absurd ·.2 (by decide)) | omega)))
    have b308 : 0 ≤ (h.2 0 3) ∧ (h.2 0 3) ≤ 6 := fB_3 s0
    exact lp98 _ 0 h11 (by omega) s302 f303 (zSt_j z0 (by omega)) (by omega) (by omega) (Nat.lt_succ_self _)
  · refine zj_aload_n (zdk ttX11_image 5 rfl rfl) rfl (by decide) ?_
    have b309 : 0 ≤ (h.2 0 59) ∧ (h.2 0 59) ≤ 1 := fB_59 s0
    have s310 : okB h1 := fwB_0 s0 e2 (by omega)
    refine zj_geti (v := (h.2 0 59)) (zdk ttX11_image 6 rfl rfl) zf_RX11_470 rfl (k_B s310) (zwr_r e2 (by first | decide | exact (absurd ·.1 (by decide)) | exact (absurd ·.2 (by decide)) | omega)) ?_
    refine zj_if_ne (t := 18) (zdk ttX11_image 7 rfl rfl) (by decide) (by omega) (fun c311 => ?_) (fun c311 => ?_)
    · refine zj_aload_n (zdk ttX11_image 10 rfl rfl) rfl (by decide) ?_
      refine zj_iload_n (zdk ttX11_image 11 rfl rfl) rfl ?_
      refine zj_putz (zdk ttX11_image 12 rfl rfl) zf_RX11_464 rfl (by omega) (k_B s310) (Or.inl zw_RX11_464) (k2 := 58) rfl (fun h312 e313 => ?_)
      refine zj_aload_n (zdk ttX11_image 13 rfl rfl) rfl (by decide) ?_
      refine zj_iconst (zdk ttX11_image 14 rfl rfl) ?_
      have s314 : okB h312 := fwB_58 s310 e313 (by omega)
      refine zj_putz (zdk ttX11_image 15 rfl rfl) zf_RX11_470 rfl (by omega) (k_B s314) (Or.inl zw_RX11_470) (k2 := 59) rfl (fun h315 e316 => ?_)
      refine zj_aload_n (zdk ttX11_image 16 rfl rfl) rfl (by decide) ?_
      refine zj_iconst (zdk ttX11_image 17 rfl rfl) ?_
      have s317 : okB h315 := fwB_59 s314 e316 (by omega)
      refine zj_puti (zdk ttX11_image 18 rfl rfl) zf_RX11_461 rfl (k_B s317) (Or.inl zw_RX11_461) (k2 := 60) rfl (fun h318 e319 => ?_)
      have f0 : zfr [0, 58, 59, 60] [] h h318 := (zfr_wf (zfr_wf (zfr_wf (zfr_wf (zfr_r _ _ _) e2 rfl) e313 rfl) e316 rfl) e319 rfl)
      have b320 : h318.2 0 58 = p1 := (((zwr_r e319 (by first | decide | exact (absurd ·.1 (by decide)) | exact (absurd ·.2 (by decide)) | omega)).trans (zwr_r e316 (by first | decide | exact (absurd ·.1 (by decide)) | exact (absurd ·.2 (by decide)) | omega))).trans (zwr_v e313))
      have b321 : h318.2 0 59 = 1 := ((zwr_r e319 (by first | decide | exact (absurd ·.1 (by decide)) | exact (absurd ·.2 (by decide)) | omega)).trans (zwr_v e316))
      have b322 : h318.2 0 60 = 0 := (zwr_v e319)
      have hT0 : h318.2 0 58 = 0 → h.2 0 59 = 1 := fun q => by omega
      have zI0 := zPI_of u_0 f0 hT0
      have z0 : zSt h318 h318 0 := zSt_0 (by omega)
      refine zj_iconst (zdk ttX11_image 19 rfl rfl) ?_
      refine zj_istore_n (L' := [some (.inr 0), some (.inl p1), some (.inl 0)]) (zdk ttX11_image 20 rfl rfl) (by decide) rfl ?_
      have lp405 : ∀ (n35 : Nat) (x323 : Int) (h324 : zM), (0 ≤ x323 ∧ x323 ≤ 63) → okB h324 → zfr [0, 3, 6, 33, 35, 37, 42, 45, 49, 53, 58, 59, 60] [1, 4, 5, 6, 9, 10, 11, 12, 13, 14, 15, 17, 18, 19, 23, 24, 25, 28, 31, 32, 35] h h324 → (zSt h318 h324 (x323)) → (h324.2 0 59 = 1) → (h324.2 0 3 = h.2 0 3) → (64 - x323).toNat < n35 → zJ shM l yX11_image cX11_image 3 (some .boolean) (rmL 3) 0 0 (q2_X11_imagez h p1) 0 0 35 [some (.inr 0), some (.inl p1), some (.inl x323)] [] h324 := by
        intro n35
        induction n35 with
        | zero => intro x323 h324 b406 s325 f326 u407 u408 u409 m410; exact absurd m410 (Nat.not_lt_zero _)
        | succ n35 ih411 =>
          intro x323 h324 b406 s325 f326 u407 u408 u409 m410
          refine zj_iload_n (zdk ttX11_image 21 rfl rfl) rfl ?_
          refine zj_bipush (zdk ttX11_image 22 rfl rfl) (by decide) ?_
          refine zj_icmp_ge (t := 63) (zdk ttX11_image 23 rfl rfl) (by decide) (by omega) (by decide) (fun c412 => ?_) (fun c412 => ?_)
          · refine zj_aload_n (zdk ttX11_image 36 rfl rfl) rfl (by decide) ?_
            refine zj_callV (av := []) (st := []) (zdk ttX11_image 37 rfl rfl) mb_X11_keepsTold mv_RX11_473 (ci := 11) rfl rfl (k_B s325) rfl rfl (Nat.le_of_ble_eq_true rfl) (s_X11_keepsTold l h324 h318 s325 (zSt_j u407 (by omega)) zI0) (rm_ok (by decide) (by decide)) (zq_v fun h415 q413 => ?_)
            obtain ⟨s417, f419, u418⟩ := q413
            refine zj_iconst (zdk ttX11_image 38 rfl rfl) ?_
            refine zj_istore_n (L' := [some (.inr 0), some (.inl p1), some (.inl 0)]) (zdk ttX11_image 39 rfl rfl) (by decide) rfl ?_
            have lp541 : ∀ (n69 : Nat) (x420 : Int) (h421 : zM), (0 ≤ x420 ∧ x420 ≤ 600) → okB h421 → zfr [0, 3, 6, 33, 35, 37, 42, 45, 49, 53, 58, 59, 60] [1, 4, 5, 6, 9, 10, 11, 12, 13, 14, 15, 17, 18, 19, 23, 24, 25, 28, 31, 32, 35] h h421 → (zSt h318 h421 (262 + x420)) → (h421.2 0 59 = 1) → (h421.2 0 3 = h.2 0 3) → (601 - x420).toNat < n69 → zJ shM l yX11_image cX11_image 3 (some .boolean) (rmL 3) 0 0 (q2_X11_imagez h p1) 0 0 69 [some (.inr 0), some (.inl p1), some (.inl x420)] [] h421 := by
              intro n69
              induction n69 with
              | zero => intro x420 h421 b542 s422 f423 u543 u544 u545 m546; exact absurd m546 (Nat.not_lt_zero _)
              | succ n69 ih547 =>
                intro x420 h421 b542 s422 f423 u543 u544 u545 m546
                refine zj_iload_n (zdk ttX11_image 40 rfl rfl) rfl ?_
                refine zj_sipush (zdk ttX11_image 41 rfl rfl) (by decide) ?_
                refine zj_icmp_ge (t := 98) (zdk ttX11_image 42 rfl rfl) (by decide) (by omega) (by decide) (fun c548 => ?_) (fun c548 => ?_)
                · refine zj_aload_n (zdk ttX11_image 55 rfl rfl) rfl (by decide) ?_
                  refine zj_callV (av := []) (st := []) (zdk ttX11_image 56 rfl rfl) mb_X11_keepsLaw mv_RX11_476 (ci := 11) rfl rfl (k_B s422) rfl rfl (Nat.le_of_ble_eq_true rfl) (s_X11_keepsLaw l h421 h318 s422 (zSt_j u543 (by omega)) zI0) (rm_ok (by decide) (by decide)) (zq_v fun h551 q549 => ?_)
                  obtain ⟨s553, f555, u554⟩ := q549
                  refine zj_iload_n (zdk ttX11_image 57 rfl rfl) rfl ?_
                  refine zj_if_ne (t := 111) (zdk ttX11_image 58 rfl rfl) (by decide) (by omega) (fun c556 => ?_) (fun c556 => ?_)
                  · exact absurd c556 (by omega)
                  · refine zj_aload_n (zdk ttX11_image 59 rfl rfl) rfl (by decide) ?_
                    refine zj_iconst (zdk ttX11_image 60 rfl rfl) ?_
                    refine zj_puti (zdk ttX11_image 61 rfl rfl) zf_RX11_123 rfl (k_B s553) (Or.inl zw_RX11_123) (k2 := 3) rfl (fun h557 e558 => ?_)
                    refine zj_iconst (zdk ttX11_image 62 rfl rfl) ?_
                    have s559 : okB h557 := fwB_3 s553 e558 (by omega)
                    have f561 : zfr [0, 3, 6, 33, 35, 37, 42, 45, 49, 53, 58, 59, 60] [1, 4, 5, 6, 9, 10, 11, 12, 13, 14, 15, 17, 18, 19, 23, 24, 25, 28, 31, 32, 35] h h551 := zfr_t f423 f555 rfl rfl
                    have f560 : zfr [0, 3, 6, 33, 35, 37, 42, 45, 49, 53, 58, 59, 60] [1, 4, 5, 6, 9, 10, 11, 12, 13, 14, 15, 17, 18, 19, 23, 24, 25, 28, 31, 32, 35] h h557 := zfr_wf f561 e558 rfl
                    have b562 : h551.2 0 59 = (h421.2 0 59) := (zfr_f f555 rfl rfl)
                    have b563 : 0 ≤ (h421.2 0 59) ∧ (h421.2 0 59) ≤ 1 := fB_59 s422
                    have b564 : h557.2 0 59 = (h421.2 0 59) := ((zwr_r e558 (by first | decide | exact (absurd ·.1 (by decide)) | exact (absurd ·.2 (by decide)) | omega)).trans (zfr_f f555 rfl rfl))
                    have b565 : h557.2 0 3 = 0 := (zwr_v e558)
                    exact zj_zret rfl (zdk ttX11_image 63 rfl rfl) (Nat.le_refl _) (Nat.le_refl _) (by omega) ⟨1, rfl, by omega, s559, f560, (fwM_3 (okM_img u_0 f0 (by omega) hT0 s553 f561 (zSt_j u554 (by omega))) e558 (by decide)), by unfold zimc; omega, (fun j9 a9 b9 => by have z9 := zSt_pt f0 (zSt_j u554 (by omega)) (j := j9) ⟨a9, b9⟩ (c := (zloc j9).1) (k := (zloc j9).2) rfl; have z8 : (¬ (_ : Int) = 0 → h551.2 35 j9 = zlv h j9 ∧ zlv h551 j9 = zlv h j9) ∧ ((_ : Int) = 0 → h551.2 35 j9 = h.2 35 j9 ∧ zlv h551 j9 = h.2 35 j9) := z9; have z1 : zlv h557 j9 = zlv h551 j9 := zwr_r e558 (by have q9 := zloc_n ⟨a9, b9⟩; omega); have z2 : h557.2 35 j9 = h551.2 35 j9 := zwr_r e558 (by first | decide | exact (absurd ·.1 (by decide)) | exact (absurd ·.2 (by decide)) | omega); unfold zimx; omega), by omega⟩
                · refine zj_aload_n (zdk ttX11_image 43 rfl rfl) rfl (by decide) ?_
                  refine zj_getr (r := 6) (zdk ttX11_image 44 rfl rfl) zf_RX11_25 rfl (k_B s422) (rfB_9 s422) ?_
                  refine zj_iload_n (zdk ttX11_image 45 rfl rfl) rfl ?_
                  refine zj_aload_n (zdk ttX11_image 46 rfl rfl) rfl (by decide) ?_
                  refine zj_aload_n (zdk ttX11_image 47 rfl rfl) rfl (by decide) ?_
                  refine zj_getr (r := 6) (zdk ttX11_image 48 rfl rfl) zf_RX11_25 rfl (k_B s422) (rfB_9 s422) ?_
                  refine zj_iload_n (zdk ttX11_image 49 rfl rfl) rfl ?_
                  have b566 : -2147483648 ≤ (h421.2 6 x420) ∧ (h421.2 6 x420) ≤ 2147483647 := abB_6 s422 x420
                  refine zj_iald (v := (h421.2 6 x420)) (zdk ttX11_image 50 rfl rfl) (kaB_6 s422) (by decide) (by omega) rfl ?_
                  refine zj_callV (av := [.inl (h421.2 6 x420)]) (st := [.inl x420, .inr 6]) (zdk ttX11_image 51 rfl rfl) mb_X11_keeps mv_RX11_467 (ci := 11) rfl rfl (k_B s422) rfl rfl (Nat.le_of_ble_eq_true rfl) (s_X11_keeps l h421 (h421.2 6 x420) s422 (by omega) (by have := u543.1; omega)) (rm_ok (by decide) (by decide)) (zq_i fun v568 h569 q567 => ?_)
                  obtain ⟨b570, s571, f575, u572, u573, u574⟩ := q567
                  refine zj_iast (zdk ttX11_image 52 rfl rfl) (kaB_6 s571) (by decide) (by omega) (fun h576 e577 => ?_)
                  refine zj_iinc (L' := [some (.inr 0), some (.inl p1), some (.inl (x420 + 1))]) (zdk ttX11_image 53 rfl rfl) rfl (by decide) rfl ?_
                  refine zj_goto (t := 69) (zdk ttX11_image 54 rfl rfl) (by decide) ?_
                  have b578 : h576.2 0 59 = (h421.2 0 59) := ((zwr_r e577 (by first | decide | exact (absurd ·.1 (by decide)) | exact (absurd ·.2 (by decide)) | omega)).trans (zfr_f f575 rfl rfl))
                  have b579 : 0 ≤ (h421.2 0 59) ∧ (h421.2 0 59) ≤ 1 := fB_59 s422
                  have z581r : h421.2 6 x420 = (h421.2 6 x420) := rfl
                  have z581l : zloc (262 + x420) = (6, x420) := (zl_6 (by omega) (by omega))
                  have z581 : zSt h318 h576 (262 + x420 + 1) := zSt_step u543 (by omega) z581l f575 u572 u573 z581r u574 e577
                  have s580 : okB h576 := okB_w s571 e577 (zSt_pm u543 (by omega) z581l s422 zI0 u573 z581r u574)
                  have f583 : zfr [0, 3, 6, 33, 35, 37, 42, 45, 49, 53, 58, 59, 60] [1, 4, 5, 6, 9, 10, 11, 12, 13, 14, 15, 17, 18, 19, 23, 24, 25, 28, 31, 32, 35] h h569 := zfr_t f423 f575 rfl rfl
                  have f582 : zfr [0, 3, 6, 33, 35, 37, 42, 45, 49, 53, 58, 59, 60] [1, 4, 5, 6, 9, 10, 11, 12, 13, 14, 15, 17, 18, 19, 23, 24, 25, 28, 31, 32, 35] h h576 := zfr_wa f583 e577 rfl
                  have b584 : h576.2 0 3 = (h421.2 0 3) := ((zwr_r e577 (by first | decide | exact (absurd ·.1 (by decide)) | exact (absurd ·.2 (by decide)) | omega)).trans (zfr_f f575 rfl rfl))
                  have b585 : 0 ≤ (h421.2 0 3) ∧ (h421.2 0 3) ≤ 6 := fB_3 s422
                  exact ih547  (x420 + 1) h576 (by omega) s580 f582 (zSt_j z581 (by omega)) (by omega) (by omega) (by omega)
            have b586 : h415.2 0 59 = (h324.2 0 59) := (zfr_f f419 rfl rfl)
            have b587 : 0 ≤ (h324.2 0 59) ∧ (h324.2 0 59) ≤ 1 := fB_59 s325
            have f588 : zfr [0, 3, 6, 33, 35, 37, 42, 45, 49, 53, 58, 59, 60] [1, 4, 5, 6, 9, 10, 11, 12, 13, 14, 15, 17, 18, 19, 23, 24, 25, 28, 31, 32, 35] h h415 := zfr_t f326 f419 rfl rfl
            have b589 : h415.2 0 3 = (h324.2 0 3) := (zfr_f f419 rfl rfl)
            have b590 : 0 ≤ (h324.2 0 3) ∧ (h324.2 0 3) ≤ 6 := fB_3 s325
            exact lp541 _ 0 h415 (by omega) s417 f588 (zSt_j u418 (by omega)) (by omega) (by omega) (Nat.lt_succ_self _)
          · refine zj_aload_n (zdk ttX11_image 24 rfl rfl) rfl (by decide) ?_
            refine zj_getr (r := 1) (zdk ttX11_image 25 rfl rfl) zf_RX11_7 rfl (k_B s325) (rfB_1 s325) ?_
            refine zj_iload_n (zdk ttX11_image 26 rfl rfl) rfl ?_
            refine zj_aload_n (zdk ttX11_image 27 rfl rfl) rfl (by decide) ?_
            refine zj_aload_n (zdk ttX11_image 28 rfl rfl) rfl (by decide) ?_
            refine zj_getr (r := 1) (zdk ttX11_image 29 rfl rfl) zf_RX11_7 rfl (k_B s325) (rfB_1 s325) ?_
            refine zj_iload_n (zdk ttX11_image 30 rfl rfl) rfl ?_
            have b591 : -2147483648 ≤ (h324.2 1 x323) ∧ (h324.2 1 x323) ≤ 2147483647 := abB_1 s325 x323
            refine zj_iald (v := (h324.2 1 x323)) (zdk ttX11_image 31 rfl rfl) (kaB_1 s325) (by decide) (by omega) rfl ?_
            refine zj_callV (av := [.inl (h324.2 1 x323)]) (st := [.inl x323, .inr 1]) (zdk ttX11_image 32 rfl rfl) mb_X11_keeps mv_RX11_467 (ci := 11) rfl rfl (k_B s325) rfl rfl (Nat.le_of_ble_eq_true rfl) (s_X11_keeps l h324 (h324.2 1 x323) s325 (by omega) (by have := u407.1; omega)) (rm_ok (by decide) (by decide)) (zq_i fun v593 h594 q592 => ?_)
            obtain ⟨b595, s596, f600, u597, u598, u599⟩ := q592
            refine zj_iast (zdk ttX11_image 33 rfl rfl) (kaB_1 s596) (by decide) (by omega) (fun h601 e602 => ?_)
            refine zj_iinc (L' := [some (.inr 0), some (.inl p1), some (.inl (x323 + 1))]) (zdk ttX11_image 34 rfl rfl) rfl (by decide) rfl ?_
            refine zj_goto (t := 35) (zdk ttX11_image 35 rfl rfl) (by decide) ?_
            have b603 : h601.2 0 59 = (h324.2 0 59) := ((zwr_r e602 (by first | decide | exact (absurd ·.1 (by decide)) | exact (absurd ·.2 (by decide)) | omega)).trans (zfr_f f600 rfl rfl))
            have b604 : 0 ≤ (h324.2 0 59) ∧ (h324.2 0 59) ≤ 1 := fB_59 s325
            have z606r : h324.2 1 x323 = (h324.2 1 x323) := rfl
            have z606l : zloc (x323) = (1, x323) := (zl_1 (by omega) (by omega))
            have z606 : zSt h318 h601 (x323 + 1) := zSt_step u407 (by omega) z606l f600 u597 u598 z606r u599 e602
            have s605 : okB h601 := okB_w s596 e602 (zSt_pm u407 (by omega) z606l s325 zI0 u598 z606r u599)
            have f608 : zfr [0, 3, 6, 33, 35, 37, 42, 45, 49, 53, 58, 59, 60] [1, 4, 5, 6, 9, 10, 11, 12, 13, 14, 15, 17, 18, 19, 23, 24, 25, 28, 31, 32, 35] h h594 := zfr_t f326 f600 rfl rfl
            have f607 : zfr [0, 3, 6, 33, 35, 37, 42, 45, 49, 53, 58, 59, 60] [1, 4, 5, 6, 9, 10, 11, 12, 13, 14, 15, 17, 18, 19, 23, 24, 25, 28, 31, 32, 35] h h601 := zfr_wa f608 e602 rfl
            have b609 : h601.2 0 3 = (h324.2 0 3) := ((zwr_r e602 (by first | decide | exact (absurd ·.1 (by decide)) | exact (absurd ·.2 (by decide)) | omega)).trans (zfr_f f600 rfl rfl))
            have b610 : 0 ≤ (h324.2 0 3) ∧ (h324.2 0 3) ≤ 6 := fB_3 s325
            exact ih411  (x323 + 1) h601 (by omega) s605 f607 (zSt_j z606 (by omega)) (by omega) (by omega) (by omega)
      have b611 : h318.2 0 59 = 1 := ((zwr_r e319 (by first | decide | exact (absurd ·.1 (by decide)) | exact (absurd ·.2 (by decide)) | omega)).trans (zwr_v e316))
      have s612 : okB h318 := fwB_60 s317 e319 (by omega)
      have f616 : zfr [0, 3, 6, 33, 35, 37, 42, 45, 49, 53, 58, 59, 60] [1, 4, 5, 6, 9, 10, 11, 12, 13, 14, 15, 17, 18, 19, 23, 24, 25, 28, 31, 32, 35] h h1 := zfr_wf (zfr_r _ _ _) e2 rfl
      have f615 : zfr [0, 3, 6, 33, 35, 37, 42, 45, 49, 53, 58, 59, 60] [1, 4, 5, 6, 9, 10, 11, 12, 13, 14, 15, 17, 18, 19, 23, 24, 25, 28, 31, 32, 35] h h312 := zfr_wf f616 e313 rfl
      have f614 : zfr [0, 3, 6, 33, 35, 37, 42, 45, 49, 53, 58, 59, 60] [1, 4, 5, 6, 9, 10, 11, 12, 13, 14, 15, 17, 18, 19, 23, 24, 25, 28, 31, 32, 35] h h315 := zfr_wf f615 e316 rfl
      have f613 : zfr [0, 3, 6, 33, 35, 37, 42, 45, 49, 53, 58, 59, 60] [1, 4, 5, 6, 9, 10, 11, 12, 13, 14, 15, 17, 18, 19, 23, 24, 25, 28, 31, 32, 35] h h318 := zfr_wf f614 e319 rfl
      have b617 : h318.2 0 3 = (h.2 0 3) := ((((zwr_r e319 (by first | decide | exact (absurd ·.1 (by decide)) | exact (absurd ·.2 (by decide)) | omega)).trans (zwr_r e316 (by first | decide | exact (absurd ·.1 (by decide)) | exact (absurd ·.2 (by decide)) | omega))).trans (zwr_r e313 (by first | decide | exact (absurd ·.1 (by decide)) | exact (absurd ·.2 (by decide)) | omega))).trans (zwr_r e2 (by first | decide | exact (absurd ·.1 (by decide)) | exact (absurd ·.2 (by decide)) | omega)))
      have b618 : 0 ≤ (h.2 0 3) ∧ (h.2 0 3) ≤ 6 := fB_3 s0
      exact lp405 _ 0 h318 (by omega) s612 f613 (zSt_j z0 (by omega)) (by omega) (by omega) (Nat.lt_succ_self _)
    · refine zj_iconst (zdk ttX11_image 8 rfl rfl) ?_
      have f619 : zfr [0, 3, 6, 33, 35, 37, 42, 45, 49, 53, 58, 59, 60] [1, 4, 5, 6, 9, 10, 11, 12, 13, 14, 15, 17, 18, 19, 23, 24, 25, 28, 31, 32, 35] h h1 := zfr_wf (zfr_r _ _ _) e2 rfl
      have b620 : h1.2 0 59 = (h.2 0 59) := (zwr_r e2 (by first | decide | exact (absurd ·.1 (by decide)) | exact (absurd ·.2 (by decide)) | omega))
      have b621 : h1.2 0 3 = (h.2 0 3) := (zwr_r e2 (by first | decide | exact (absurd ·.1 (by decide)) | exact (absurd ·.2 (by decide)) | omega))
      have b622 : 0 ≤ (h.2 0 3) ∧ (h.2 0 3) ≤ 6 := fB_3 s0
      exact zj_zret rfl (zdk ttX11_image 9 rfl rfl) (Nat.le_refl _) (Nat.le_refl _) (by omega) ⟨0, rfl, by omega, s310, f619, (fwM_0 u_0 e2 (by decide)), by unfold zimc; omega, (fun j9 a9 b9 => by have z1 : zlv h1 j9 = zlv h j9 := zwr_r e2 (by have q9 := zloc_n ⟨a9, b9⟩; omega); have z2 : h1.2 35 j9 = h.2 35 j9 := (zwr_r e2 (by first | decide | exact (absurd ·.1 (by decide)) | exact (absurd ·.2 (by decide)) | omega)); unfold zimx; omega), by omega⟩
