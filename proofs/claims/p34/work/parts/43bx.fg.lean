abbrev q2_X11_goesBy (h : zM) : Option zV → zM → Prop := zqi fun v h' => ((-2147483648) ≤ v ∧ v ≤ 2147483647) ∧ okM h' ∧ zfr [] [1, 6, 20, 21] h h' ∧ (∀ E th x, zY h E th x → (-2147000000 ≤ x.1 4 ∧ x.1 4 ≤ 2147000000) → zY h' E th (fDy E th x) ∧ zwp (x.1 5 + v) = (fDy E th x).1 5)
set_option maxRecDepth 100000 in
set_option maxHeartbeats 4000000 in
theorem s2_X11_goesBy (l : Launch) (h : zM) (s0 : okM h) : zT shM l yX11_goesBy cX11_goesBy 2 (some .int) (rmL 8) 0 0 [.inr 0] h (q2_X11_goesBy h) := by
  refine zT_of (by decide +kernel) (L0 := [some (.inr 0), none]) rfl (Nat.le_of_ble_eq_true rfl) ?_
  refine zj_iconst (zdk ttX11_goesBy 0 rfl rfl) ?_
  refine zj_istore_n (L' := [some (.inr 0), some (.inl 0)]) (zdk ttX11_goesBy 1 rfl rfl) (by decide) rfl ?_
  have lp70 : ∀ (n2 : Nat) (x1 : Int) (h2 : zM), (0 ≤ x1 ∧ x1 ≤ 50) → okM h2 → zfr [] [1, 6, 20, 21] h h2 → (x1 % 3 = 0) → (∀ E th x, zY h E th x → (-2147000000 ≤ x.1 4 ∧ x.1 4 ≤ 2147000000) → ∃ r, zY h2 E th (r, x.2) ∧ fTw E (E.dm - x1 / 3).toNat (x1 / 3) r = fTw E E.dm.toNat 0 x.1) → (51 - x1).toNat < n2 → zJ shM l yX11_goesBy cX11_goesBy 2 (some .int) (rmL 8) 0 0 (q2_X11_goesBy h) 0 0 2 [some (.inr 0), some (.inl x1)] [] h2 := by
    intro n2
    induction n2 with
    | zero => intro x1 h2 b71 s3 f4 u72 u73 m74; exact absurd m74 (Nat.not_lt_zero _)
    | succ n2 ih75 =>
      intro x1 h2 b71 s3 f4 u72 u73 m74
      refine zj_iload_n (zdk ttX11_goesBy 2 rfl rfl) rfl ?_
      refine zj_iconst (zdk ttX11_goesBy 3 rfl rfl) ?_
      refine zj_aload_n (zdk ttX11_goesBy 4 rfl rfl) rfl (by decide) ?_
      have b76 : 0 ≤ (h.2 0 35) ∧ (h.2 0 35) ≤ 16 := fM_35 s0
      refine zj_geti (v := (h.2 0 35)) (zdk ttX11_goesBy 5 rfl rfl) zf_RX11_288 rfl (k_M s3) (zfr_f f4 rfl rfl) ?_
      refine zj_imul (zdk ttX11_goesBy 6 rfl rfl) ?_
      refine zj_icmp_ge (t := 39) (zdk ttX11_goesBy 7 rfl rfl) (by decide) (by omega) (by omega) (fun c77 => ?_) (fun c77 => ?_)
      · refine zj_iconst (zdk ttX11_goesBy 25 rfl rfl) ?_
        refine zj_istore_n (L' := [some (.inr 0), some (.inl 0)]) (zdk ttX11_goesBy 26 rfl rfl) (by decide) rfl ?_
        have lp202 : ∀ (n41 : Nat) (x78 : Int) (h79 : zM), (0 ≤ x78 ∧ x78 ≤ 50) → okM h79 → zfr [] [1, 6, 20, 21] h h79 → (∀ E th x, zY h E th x → (-2147000000 ≤ x.1 4 ∧ x.1 4 ≤ 2147000000) → ∃ y, zY h79 E th y ∧ fBs E th (E.bm - x78 / 3).toNat (x78 / 3) y = fDz E th x) → (x78 % 3 = 0) → (51 - x78).toNat < n41 → zJ shM l yX11_goesBy cX11_goesBy 2 (some .int) (rmL 8) 0 0 (q2_X11_goesBy h) 0 0 41 [some (.inr 0), some (.inl x78)] [] h79 := by
          intro n41
          induction n41 with
          | zero => intro x78 h79 b203 s80 f81 u204 u205 m206; exact absurd m206 (Nat.not_lt_zero _)
          | succ n41 ih207 =>
            intro x78 h79 b203 s80 f81 u204 u205 m206
            refine zj_iload_n (zdk ttX11_goesBy 27 rfl rfl) rfl ?_
            refine zj_iconst (zdk ttX11_goesBy 28 rfl rfl) ?_
            refine zj_aload_n (zdk ttX11_goesBy 29 rfl rfl) rfl (by decide) ?_
            have b208 : 0 ≤ (h.2 0 33) ∧ (h.2 0 33) ≤ 16 := fM_33 s0
            refine zj_geti (v := (h.2 0 33)) (zdk ttX11_goesBy 30 rfl rfl) zf_RX11_285 rfl (k_M s80) (zfr_f f81 rfl rfl) ?_
            refine zj_imul (zdk ttX11_goesBy 31 rfl rfl) ?_
            refine zj_icmp_ge (t := 115) (zdk ttX11_goesBy 32 rfl rfl) (by decide) (by omega) (by omega) (fun c209 => ?_) (fun c209 => ?_)
            · refine zj_aload_n (zdk ttX11_goesBy 73 rfl rfl) rfl (by decide) ?_
              refine zj_callV (av := []) (st := []) (zdk ttX11_goesBy 74 rfl rfl) mb_X11_clockRuns mv_RX11_386 (ci := 11) rfl rfl (k_M s80) rfl rfl (Nat.le_of_ble_eq_true rfl) (s2_X11_clockRuns l h79 s80) (rm_ok (by decide) (by decide)) (zq_i fun v211 h212 q210 => ?_)
              obtain ⟨b213, s214, f216, u215⟩ := q210
              refine zj_istore_n (L' := [some (.inr 0), some (.inl v211)]) (zdk ttX11_goesBy 75 rfl rfl) (by decide) rfl ?_
              refine zj_aload_n (zdk ttX11_goesBy 76 rfl rfl) rfl (by decide) ?_
              refine zj_getr (r := 1) (zdk ttX11_goesBy 77 rfl rfl) zf_RX11_7 rfl (k_M s214) (rfM_1 s214) ?_
              refine zj_iconst (zdk ttX11_goesBy 78 rfl rfl) ?_
              refine zj_aload_n (zdk ttX11_goesBy 79 rfl rfl) rfl (by decide) ?_
              refine zj_getr (r := 1) (zdk ttX11_goesBy 80 rfl rfl) zf_RX11_7 rfl (k_M s214) (rfM_1 s214) ?_
              refine zj_iconst (zdk ttX11_goesBy 81 rfl rfl) ?_
              have b218 : -2147483648 ≤ (h212.2 1 0) ∧ (h212.2 1 0) ≤ 2147483647 := (rM_b s214 1 0 (by omega)).1
              refine zj_iald (v := (h212.2 1 0)) (zdk ttX11_goesBy 82 rfl rfl) (kaM_1 s214) (by decide) (by omega) rfl ?_
              refine zj_iconst (zdk ttX11_goesBy 83 rfl rfl) ?_
              refine zj_iadd (zdk ttX11_goesBy 84 rfl rfl) ?_
              refine zj_wrap ?_
              have b219 := zwp_in ((h212.2 1 0) + 1)
              refine zj_iast (zdk ttX11_goesBy 85 rfl rfl) (kaM_1 s214) (by decide) (by omega) (fun h220 e221 => ?_)
              refine zj_iload_n (zdk ttX11_goesBy 86 rfl rfl) rfl ?_
              have s222 : okM h220 := okM_wr s214 e221 (by decide) (by omega) (by omega)
              have f224 : zfr [] [1, 6, 20, 21] h h212 := zfr_t f81 f216 rfl rfl
              have f223 : zfr [] [1, 6, 20, 21] h h220 := zfr_wa f224 e221 rfl
              exact zj_iret rfl (zdk ttX11_goesBy 87 rfl rfl) (Nat.le_refl _) (Nat.le_refl _) ⟨v211, rfl, by omega, s222, f223, (by intro E th x t0 w0; obtain ⟨y, t1, q1⟩ := u204 E th x t0 w0; have g9 := zY_g t0; rw [fBs_e (by omega)] at q1; have dz := fDz_q (th := th) t0.1 w0; have iv : (0 : Int) ≤ (if x.1 0 ≤ 999 then 287712 else 0) ∧ (if x.1 0 ≤ 999 then 287712 else 0) ≤ (287712 : Int) := (by split <;> omega); subst q1; obtain ⟨t2, v2⟩ := u215 E th (fDz E th x) t1 (by omega); have r0 : h212.2 1 0 = (fCl th (fDz E th x)).1 0 := zY_r t2 (k := 0) (by decide) (by decide); have t3 := zY_w (k := 0) (u := zwp ((fCl th (fDz E th x)).1 0 + 1)) t2 e221 (by decide) (congrArg (fun z9 => zwp (z9 + 1)) (by omega)) (by omega) (by omega) (by omega) (by omega); refine ⟨t3, ?_⟩; rw [fDy_5 t0.1 w0, v2])⟩
            · refine zj_aload_n (zdk ttX11_goesBy 33 rfl rfl) rfl (by decide) ?_
              refine zj_getr (r := 17) (zdk ttX11_goesBy 34 rfl rfl) zf_RX11_62 rfl (k_M s80) (rfM_34 s80) ?_
              refine zj_iload_n (zdk ttX11_goesBy 35 rfl rfl) rfl ?_
              have b225 : -2147483648 ≤ (h.2 17 x78) ∧ (h.2 17 x78) ≤ 2147483647 := abM_17 s0 x78
              refine zj_iald (v := (h.2 17 x78)) (zdk ttX11_goesBy 36 rfl rfl) (kaM_17 s80) (by decide) (by omega) (zfr_a f81 rfl (by decide)) ?_
              refine zj_aload_n (zdk ttX11_goesBy 37 rfl rfl) rfl (by decide) ?_
              refine zj_getr (r := 1) (zdk ttX11_goesBy 38 rfl rfl) zf_RX11_7 rfl (k_M s80) (rfM_1 s80) ?_
              refine zj_iconst (zdk ttX11_goesBy 39 rfl rfl) ?_
              have b227 : -2147483648 ≤ (h79.2 1 0) ∧ (h79.2 1 0) ≤ 2147483647 := (rM_b s80 1 0 (by omega)).1
              refine zj_iald (v := (h79.2 1 0)) (zdk ttX11_goesBy 40 rfl rfl) (kaM_1 s80) (by decide) (by omega) rfl ?_
              refine zj_icmp_eq (t := 69) (zdk ttX11_goesBy 41 rfl rfl) (by decide) (by omega) (by omega) (fun c228 => ?_) (fun c228 => ?_)
              · refine zj_aload_n (zdk ttX11_goesBy 43 rfl rfl) rfl (by decide) ?_
                refine zj_getr (r := 17) (zdk ttX11_goesBy 44 rfl rfl) zf_RX11_62 rfl (k_M s80) (rfM_34 s80) ?_
                refine zj_iload_n (zdk ttX11_goesBy 45 rfl rfl) rfl ?_
                refine zj_iconst (zdk ttX11_goesBy 46 rfl rfl) ?_
                refine zj_iadd (zdk ttX11_goesBy 47 rfl rfl) ?_
                have b229 : -2147483648 ≤ (h.2 17 (x78 + 2)) ∧ (h.2 17 (x78 + 2)) ≤ 2147483647 := abM_17 s0 (x78 + 2)
                refine zj_iald (v := (h.2 17 (x78 + 2))) (zdk ttX11_goesBy 48 rfl rfl) (kaM_17 s80) (by decide) (by omega) (zfr_a f81 rfl (by decide)) ?_
                refine zj_iconst (zdk ttX11_goesBy 49 rfl rfl) ?_
                refine zj_icmp_ne (t := 96) (zdk ttX11_goesBy 50 rfl rfl) (by decide) (by omega) (by decide) (fun c230 => ?_) (fun c230 => ?_)
                · refine zj_aload_n (zdk ttX11_goesBy 60 rfl rfl) rfl (by decide) ?_
                  refine zj_aload_n (zdk ttX11_goesBy 61 rfl rfl) rfl (by decide) ?_
                  refine zj_getr (r := 17) (zdk ttX11_goesBy 62 rfl rfl) zf_RX11_62 rfl (k_M s80) (rfM_34 s80) ?_
                  refine zj_iload_n (zdk ttX11_goesBy 63 rfl rfl) rfl ?_
                  refine zj_iconst (zdk ttX11_goesBy 64 rfl rfl) ?_
                  refine zj_iadd (zdk ttX11_goesBy 65 rfl rfl) ?_
                  have b231 : -2147483648 ≤ (h.2 17 (x78 + 1)) ∧ (h.2 17 (x78 + 1)) ≤ 2147483647 := abM_17 s0 (x78 + 1)
                  refine zj_iald (v := (h.2 17 (x78 + 1))) (zdk ttX11_goesBy 66 rfl rfl) (kaM_17 s80) (by decide) (by omega) (zfr_a f81 rfl (by decide)) ?_
                  refine zj_callV (av := [.inl (h.2 17 (x78 + 1))]) (st := []) (zdk ttX11_goesBy 67 rfl rfl) mb_X11_bringsBack mv_RX11_383 (ci := 11) rfl rfl (k_M s80) rfl rfl (Nat.le_of_ble_eq_true rfl) (s2_X11_bringsBack l h79 (h.2 17 (x78 + 1)) s80 (by omega)) (rm_ok (by decide) (by decide)) (zq_v fun h234 q232 => ?_)
                  obtain ⟨s236, f238, u237⟩ := q232
                  refine zj_iload_n (zdk ttX11_goesBy 68 rfl rfl) rfl ?_
                  refine zj_iconst (zdk ttX11_goesBy 69 rfl rfl) ?_
                  refine zj_iadd (zdk ttX11_goesBy 70 rfl rfl) ?_
                  refine zj_istore_n (L' := [some (.inr 0), some (.inl (x78 + 3))]) (zdk ttX11_goesBy 71 rfl rfl) (by decide) rfl ?_
                  refine zj_goto (t := 41) (zdk ttX11_goesBy 72 rfl rfl) (by decide) ?_
                  have f239 : zfr [] [1, 6, 20, 21] h h234 := zfr_t f81 f238 rfl rfl
                  exact ih207  (x78 + 3) h234 (by omega) s236 f239 (by intro E th x t0 w0; obtain ⟨y, t1, q1⟩ := u204 E th x t0 w0; have g9 := zY_g t0; have bt := zY_b t0 (k := x78) (by omega) (by omega) (by omega); have r0 : h79.2 1 0 = y.1 0 := zY_r t1 (k := 0) (by decide) (by decide); have n3 : (x78 + 3) / 3 = x78 / 3 + 1 := (by omega); have t2 := u237 E th y t1; rw [show (h.2 17 (x78 + 1)) = E.bs (x78 / 3) by omega] at t2; have sa : fSa E th (x78 / 3) y = fBa E th E.n.toNat 0 (E.bs (x78 / 3)) y := if_neg (by omega); rw [← sa] at t2; rw [n3]; exact ⟨_, t2, (fBs_y (by omega) (show E.bd (x78 / 3) = y.1 0 by omega)).symm.trans q1⟩) (by omega) (by omega)
                · refine zj_aload_n (zdk ttX11_goesBy 51 rfl rfl) rfl (by decide) ?_
                  refine zj_aload_n (zdk ttX11_goesBy 52 rfl rfl) rfl (by decide) ?_
                  refine zj_getr (r := 17) (zdk ttX11_goesBy 53 rfl rfl) zf_RX11_62 rfl (k_M s80) (rfM_34 s80) ?_
                  refine zj_iload_n (zdk ttX11_goesBy 54 rfl rfl) rfl ?_
                  refine zj_iconst (zdk ttX11_goesBy 55 rfl rfl) ?_
                  refine zj_iadd (zdk ttX11_goesBy 56 rfl rfl) ?_
                  have b240 : -2147483648 ≤ (h.2 17 (x78 + 1)) ∧ (h.2 17 (x78 + 1)) ≤ 2147483647 := abM_17 s0 (x78 + 1)
                  refine zj_iald (v := (h.2 17 (x78 + 1))) (zdk ttX11_goesBy 57 rfl rfl) (kaM_17 s80) (by decide) (by omega) (zfr_a f81 rfl (by decide)) ?_
                  refine zj_callV (av := [.inl (h.2 17 (x78 + 1))]) (st := []) (zdk ttX11_goesBy 58 rfl rfl) mb_X11_goesOut mv_RX11_380 (ci := 11) rfl rfl (k_M s80) rfl rfl (Nat.le_of_ble_eq_true rfl) (s2_X11_goesOut l h79 (h.2 17 (x78 + 1)) s80 (by omega)) (rm_ok (by decide) (by decide)) (zq_v fun h243 q241 => ?_)
                  obtain ⟨s245, f247, u246⟩ := q241
                  refine zj_goto (t := 108) (zdk ttX11_goesBy 59 rfl rfl) (by decide) ?_
                  refine zj_iload_n (zdk ttX11_goesBy 68 rfl rfl) rfl ?_
                  refine zj_iconst (zdk ttX11_goesBy 69 rfl rfl) ?_
                  refine zj_iadd (zdk ttX11_goesBy 70 rfl rfl) ?_
                  refine zj_istore_n (L' := [some (.inr 0), some (.inl (x78 + 3))]) (zdk ttX11_goesBy 71 rfl rfl) (by decide) rfl ?_
                  refine zj_goto (t := 41) (zdk ttX11_goesBy 72 rfl rfl) (by decide) ?_
                  have f248 : zfr [] [1, 6, 20, 21] h h243 := zfr_t f81 f247 rfl rfl
                  exact ih207  (x78 + 3) h243 (by omega) s245 f248 (by intro E th x t0 w0; obtain ⟨y, t1, q1⟩ := u204 E th x t0 w0; have g9 := zY_g t0; have bt := zY_b t0 (k := x78) (by omega) (by omega) (by omega); have r0 : h79.2 1 0 = y.1 0 := zY_r t1 (k := 0) (by decide) (by decide); have n3 : (x78 + 3) / 3 = x78 / 3 + 1 := (by omega); have t2 := u246 E th y t1; rw [show (h.2 17 (x78 + 1)) = E.bs (x78 / 3) by omega] at t2; have sa : fSa E th (x78 / 3) y = fOu E th E.n.toNat 0 (E.bs (x78 / 3)) y := if_pos (by omega); rw [← sa] at t2; rw [n3]; exact ⟨_, t2, (fBs_y (by omega) (show E.bd (x78 / 3) = y.1 0 by omega)).symm.trans q1⟩) (by omega) (by omega)
              · refine zj_goto (t := 108) (zdk ttX11_goesBy 42 rfl rfl) (by decide) ?_
                refine zj_iload_n (zdk ttX11_goesBy 68 rfl rfl) rfl ?_
                refine zj_iconst (zdk ttX11_goesBy 69 rfl rfl) ?_
                refine zj_iadd (zdk ttX11_goesBy 70 rfl rfl) ?_
                refine zj_istore_n (L' := [some (.inr 0), some (.inl (x78 + 3))]) (zdk ttX11_goesBy 71 rfl rfl) (by decide) rfl ?_
                refine zj_goto (t := 41) (zdk ttX11_goesBy 72 rfl rfl) (by decide) ?_
                exact ih207  (x78 + 3) h79 (by omega) s80 f81 (by intro E th x t0 w0; obtain ⟨y, t1, q1⟩ := u204 E th x t0 w0; have g9 := zY_g t0; have bt := zY_b t0 (k := x78) (by omega) (by omega) (by omega); have r0 : h79.2 1 0 = y.1 0 := zY_r t1 (k := 0) (by decide) (by decide); have n3 : (x78 + 3) / 3 = x78 / 3 + 1 := (by omega); rw [n3]; exact ⟨y, t1, (fBs_n (by omega) (show ¬ E.bd (x78 / 3) = y.1 0 by omega)).symm.trans q1⟩) (by omega) (by omega)
        exact lp202 _ 0 h2 (by omega) s3 f4 (by intro E th x t0 w0; obtain ⟨r, t1, q1⟩ := u73 E th x t0 w0; have g9 := zY_g t0; rw [fTw_e (by omega)] at q1; unfold fDz; rw [← q1]; exact ⟨_, t1, by rw [show E.bm - 0 / 3 = E.bm by omega, show (0 : Int) / 3 = 0 by decide]⟩) (by omega) (Nat.lt_succ_self _)
      · refine zj_aload_n (zdk ttX11_goesBy 8 rfl rfl) rfl (by decide) ?_
        refine zj_getr (r := 18) (zdk ttX11_goesBy 9 rfl rfl) zf_RX11_65 rfl (k_M s3) (rfM_36 s3) ?_
        refine zj_iload_n (zdk ttX11_goesBy 10 rfl rfl) rfl ?_
        have b249 : -2147483648 ≤ (h.2 18 x1) ∧ (h.2 18 x1) ≤ 2147483647 := abM_18 s0 x1
        refine zj_iald (v := (h.2 18 x1)) (zdk ttX11_goesBy 11 rfl rfl) (kaM_18 s3) (by decide) (by omega) (zfr_a f4 rfl (by decide)) ?_
        refine zj_aload_n (zdk ttX11_goesBy 12 rfl rfl) rfl (by decide) ?_
        refine zj_getr (r := 1) (zdk ttX11_goesBy 13 rfl rfl) zf_RX11_7 rfl (k_M s3) (rfM_1 s3) ?_
        refine zj_iconst (zdk ttX11_goesBy 14 rfl rfl) ?_
        have b251 : -2147483648 ≤ (h2.2 1 0) ∧ (h2.2 1 0) ≤ 2147483647 := (rM_b s3 1 0 (by omega)).1
        refine zj_iald (v := (h2.2 1 0)) (zdk ttX11_goesBy 15 rfl rfl) (kaM_1 s3) (by decide) (by omega) rfl ?_
        refine zj_icmp_ne (t := 32) (zdk ttX11_goesBy 16 rfl rfl) (by decide) (by omega) (by omega) (fun c252 => ?_) (fun c252 => ?_)
        · refine zj_iload_n (zdk ttX11_goesBy 20 rfl rfl) rfl ?_
          refine zj_iconst (zdk ttX11_goesBy 21 rfl rfl) ?_
          refine zj_iadd (zdk ttX11_goesBy 22 rfl rfl) ?_
          refine zj_istore_n (L' := [some (.inr 0), some (.inl (x1 + 3))]) (zdk ttX11_goesBy 23 rfl rfl) (by decide) rfl ?_
          refine zj_goto (t := 2) (zdk ttX11_goesBy 24 rfl rfl) (by decide) ?_
          exact ih75  (x1 + 3) h2 (by omega) s3 f4 (by omega) (by intro E th x t0 w0; obtain ⟨r, t1, q1⟩ := u73 E th x t0 w0; have g9 := zY_g t0; have td := (zY_d t0 (k := x1) (by omega) (by omega) (by omega)).1; have r0 : h2.2 1 0 = r 0 := zY_r t1 (k := 0) (by decide) (by decide); have r6 : h2.2 1 6 = r 6 := zY_r t1 (k := 6) (by decide) (by decide); have n3 : (x1 + 3) / 3 = x1 / 3 + 1 := (by omega); rw [n3]; exact ⟨r, t1, (fTw_n (by omega) (show ¬ E.dd (x1 / 3) = r 0 by omega)).symm.trans q1⟩) (by omega)
        · refine zj_aload_n (zdk ttX11_goesBy 17 rfl rfl) rfl (by decide) ?_
          refine zj_iload_n (zdk ttX11_goesBy 18 rfl rfl) rfl ?_
          refine zj_callV (av := [.inl x1]) (st := []) (zdk ttX11_goesBy 19 rfl rfl) mb_X11_does mv_RX11_377 (ci := 11) rfl rfl (k_M s3) rfl rfl (Nat.le_of_ble_eq_true rfl) (s2_X11_does l h2 x1 s3 (by omega) (by omega)) (rm_ok (by decide) (by decide)) (zq_v fun h255 q253 => ?_)
          obtain ⟨s257, f259, u258⟩ := q253
          refine zj_iload_n (zdk ttX11_goesBy 20 rfl rfl) rfl ?_
          refine zj_iconst (zdk ttX11_goesBy 21 rfl rfl) ?_
          refine zj_iadd (zdk ttX11_goesBy 22 rfl rfl) ?_
          refine zj_istore_n (L' := [some (.inr 0), some (.inl (x1 + 3))]) (zdk ttX11_goesBy 23 rfl rfl) (by decide) rfl ?_
          refine zj_goto (t := 2) (zdk ttX11_goesBy 24 rfl rfl) (by decide) ?_
          have f260 : zfr [] [1, 6, 20, 21] h h255 := zfr_t f4 f259 rfl rfl
          have pm9 := s3.2.1 1 6
          exact ih75  (x1 + 3) h255 (by omega) s257 f260 (by omega) (by intro E th x t0 w0; obtain ⟨r, t1, q1⟩ := u73 E th x t0 w0; have g9 := zY_g t0; have td := (zY_d t0 (k := x1) (by omega) (by omega) (by omega)).1; have r0 : h2.2 1 0 = r 0 := zY_r t1 (k := 0) (by decide) (by decide); have r6 : h2.2 1 6 = r 6 := zY_r t1 (k := 6) (by decide) (by decide); have n3 : (x1 + 3) / 3 = x1 / 3 + 1 := (by omega); unfold PM at pm9; have t2 := u258 E th (r, x.2) t1 (by omega) (by show -2147483648 ≤ r 6 ∧ r 6 ≤ 2147483647; rw [← r6]; exact pm9); rw [n3]; exact ⟨_, t2, (fTw_y (by omega) (show E.dd (x1 / 3) = r 0 by omega)).symm.trans q1⟩) (by omega)
  exact lp70 _ 0 h (by omega) s0 (zfr_r _ _ _) (by omega) (fun E th x t0 w0 => ⟨x.1, t0, by rw [show E.dm - 0 / 3 = E.dm by omega, show (0 : Int) / 3 = 0 by decide]⟩) (Nat.lt_succ_self _)
