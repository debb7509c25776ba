abbrev q2_X11_goesOut (h : zM) (p1 : Int) : Option zV → zM → Prop := zqv fun h' => okM h' ∧ zfr [] [1, 6, 20, 21] h h' ∧ (∀ E th x, zY h E th x → zY h' E th (fOu E th E.n.toNat 0 p1 x))
set_option maxRecDepth 100000 in
set_option maxHeartbeats 4000000 in
theorem s2_X11_goesOut (l : Launch) (h : zM) (p1 : Int) (s0 : okM h) (b_p1 : (-2147483648) ≤ p1 ∧ p1 ≤ 2147483647) : zT shM l yX11_goesOut cX11_goesOut 5 none (rmL 7) 0 0 [.inr 0, .inl p1] h (q2_X11_goesOut h p1) := by
  refine zT_of (by decide +kernel) (L0 := [some (.inr 0), some (.inl p1), none, none, none]) rfl (Nat.le_of_ble_eq_true rfl) ?_
  refine zj_iload_n (zdk ttX11_goesOut 0 rfl rfl) rfl ?_
  refine zj_istore_n (L' := [some (.inr 0), some (.inl p1), some (.inl p1), none, none]) (zdk ttX11_goesOut 1 rfl rfl) (by decide) rfl ?_
  refine zj_iconst (zdk ttX11_goesOut 2 rfl rfl) ?_
  refine zj_istore_n (L' := [some (.inr 0), some (.inl p1), some (.inl p1), some (.inl 0), none]) (zdk ttX11_goesOut 3 rfl rfl) (by decide) rfl ?_
  have lp906 : ∀ (n4 : Nat) (x1 x2 : Int) (h3 : zM), (-2147483648 ≤ x1 ∧ x1 ≤ 2147483647) → (0 ≤ x2 ∧ x2 ≤ 18) → okM h3 → zfr [] [1, 6, 20, 21] h h3 → (∀ E th x, zY h E th x → ∃ y, zY h3 E th y ∧ fOu E th (E.n - x2).toNat x2 x1 y = fOu E th E.n.toNat 0 p1 x) → (19 - x2).toNat < n4 → zJ shM l yX11_goesOut cX11_goesOut 5 none (rmL 7) 0 0 (q2_X11_goesOut h p1) 0 0 4 [some (.inr 0), some (.inl p1), some (.inl x1), some (.inl x2), none] [] h3 := by
    intro n4
    induction n4 with
    | zero => intro x1 x2 h3 b907 b908 s4 f5 u909 m910; exact absurd m910 (Nat.not_lt_zero _)
    | succ n4 ih911 =>
      intro x1 x2 h3 b907 b908 s4 f5 u909 m910
      refine zj_iload_n (zdk ttX11_goesOut 4 rfl rfl) rfl ?_
      refine zj_aload_n (zdk ttX11_goesOut 5 rfl rfl) rfl (by decide) ?_
      have b912 : 0 ≤ (h.2 0 6) ∧ (h.2 0 6) ≤ 18 := fM_6 s0
      refine zj_geti (v := (h.2 0 6)) (zdk ttX11_goesOut 6 rfl rfl) zf_RX11_132 rfl (k_M s4) (zfr_f f5 rfl rfl) ?_
      refine zj_icmp_ge (t := 126) (zdk ttX11_goesOut 7 rfl rfl) (by decide) (by omega) (by omega) (fun c913 => ?_) (fun c913 => ?_)
      · exact zj_vret rfl (zdk ttX11_goesOut 68 rfl rfl) (Nat.le_refl _) (Nat.le_refl _) ⟨rfl, s4, f5, (by intro E th x t0; obtain ⟨y, t1, r1⟩ := u909 E th x t0; have g9 := zY_g t0; rw [fOu_e (by omega)] at r1; rw [← r1]; exact t1)⟩
      · refine zj_iload_n (zdk ttX11_goesOut 8 rfl rfl) rfl ?_
        refine zj_if_le (t := 126) (zdk ttX11_goesOut 9 rfl rfl) (by decide) (by omega) (fun c914 => ?_) (fun c914 => ?_)
        · exact zj_vret rfl (zdk ttX11_goesOut 68 rfl rfl) (Nat.le_refl _) (Nat.le_refl _) ⟨rfl, s4, f5, (by intro E th x t0; obtain ⟨y, t1, r1⟩ := u909 E th x t0; have g9 := zY_g t0; rw [fOu_e (by omega)] at r1; rw [← r1]; exact t1)⟩
        · refine zj_aload_n (zdk ttX11_goesOut 10 rfl rfl) rfl (by decide) ?_
          refine zj_iload_n (zdk ttX11_goesOut 11 rfl rfl) rfl ?_
          refine zj_callV (av := [.inl x2]) (st := []) (zdk ttX11_goesOut 12 rfl rfl) mb_X11_isHere mv_RX11_135 (ci := 11) rfl rfl (k_M s4) rfl rfl (Nat.le_of_ble_eq_true rfl) (s_X11_isHere l h3 x2 s4 (by omega)) (rm_ok (by decide) (by decide)) (zq_i fun v916 h917 q915 => ?_)
          obtain ⟨rfl, ⟨rfl, b918⟩ | ⟨rfl, b918⟩⟩ := q915
          · refine zj_if_eq (t := 120) (zdk ttX11_goesOut 13 rfl rfl) (by decide) (by decide) (fun c919 => ?_) (fun c919 => ?_)
            · refine zj_iinc (L' := [some (.inr 0), some (.inl p1), some (.inl x1), some (.inl (x2 + 1)), none]) (zdk ttX11_goesOut 66 rfl rfl) rfl (by decide) rfl ?_
              refine zj_goto (t := 4) (zdk ttX11_goesOut 67 rfl rfl) (by decide) ?_
              exact ih911  x1 (x2 + 1) h3 (by omega) (by omega) s4 f5 (by intro E th x t0; obtain ⟨y, t1, r1⟩ := u909 E th x t0; have g9 := zY_g t0; have r8 := zY_r t1 (k := 9 + x2) (by omega) (by omega); have r9 := zY_r t1 (k := 27 + x2) (by omega) (by omega); have ob : fOb E th x2 x1 y = (x1, y) := (by unfold fOb; rw [if_neg (fun z9 => by have q8 := z9.1; have q9 := z9.2; omega)]); exact ⟨y, t1, (fOu_s (by omega) (by omega) ob).symm.trans r1⟩) (by omega)
            · exact absurd c919 (by omega)
          · refine zj_if_eq (t := 120) (zdk ttX11_goesOut 13 rfl rfl) (by decide) (by decide) (fun c920 => ?_) (fun c920 => ?_)
            · exact absurd c920 (by omega)
            · refine zj_aload_n (zdk ttX11_goesOut 14 rfl rfl) rfl (by decide) ?_
              refine zj_getr (r := 1) (zdk ttX11_goesOut 15 rfl rfl) zf_RX11_7 rfl (k_M s4) (rfM_1 s4) ?_
              refine zj_bipush (zdk ttX11_goesOut 16 rfl rfl) (by decide) ?_
              refine zj_iload_n (zdk ttX11_goesOut 17 rfl rfl) rfl ?_
              refine zj_iadd (zdk ttX11_goesOut 18 rfl rfl) ?_
              have b921 := (rM_b s4 1 (27 + x2) (by omega)).2
              have b922 : -2147483648 ≤ (h3.2 1 (27 + x2)) ∧ (h3.2 1 (27 + x2)) ≤ 2147483647 := (rM_b s4 1 (27 + x2) (by omega)).1
              refine zj_iald (v := (h3.2 1 (27 + x2))) (zdk ttX11_goesOut 19 rfl rfl) (kaM_1 s4) (by decide) (by omega) rfl ?_
              refine zj_iconst (zdk ttX11_goesOut 20 rfl rfl) ?_
              refine zj_icmp_eq (t := 120) (zdk ttX11_goesOut 21 rfl rfl) (by decide) (by omega) (by decide) (fun c923 => ?_) (fun c923 => ?_)
              · refine zj_iinc (L' := [some (.inr 0), some (.inl p1), some (.inl x1), some (.inl (x2 + 1)), none]) (zdk ttX11_goesOut 66 rfl rfl) rfl (by decide) rfl ?_
                refine zj_goto (t := 4) (zdk ttX11_goesOut 67 rfl rfl) (by decide) ?_
                exact ih911  x1 (x2 + 1) h3 (by omega) (by omega) s4 f5 (by intro E th x t0; obtain ⟨y, t1, r1⟩ := u909 E th x t0; have g9 := zY_g t0; have r8 := zY_r t1 (k := 9 + x2) (by omega) (by omega); have r9 := zY_r t1 (k := 27 + x2) (by omega) (by omega); have ob : fOb E th x2 x1 y = (x1, y) := (by unfold fOb; rw [if_neg (fun z9 => by have q8 := z9.1; have q9 := z9.2; omega)]); exact ⟨y, t1, (fOu_s (by omega) (by omega) ob).symm.trans r1⟩) (by omega)
              · refine zj_aload_n (zdk ttX11_goesOut 22 rfl rfl) rfl (by decide) ?_
                refine zj_aload_n (zdk ttX11_goesOut 23 rfl rfl) rfl (by decide) ?_
                refine zj_iload_n (zdk ttX11_goesOut 24 rfl rfl) rfl ?_
                refine zj_callV (av := [.inl x2]) (st := [.inr 0]) (zdk ttX11_goesOut 25 rfl rfl) mb_X11_leavesOf mv_RX11_359 (ci := 11) rfl rfl (k_M s4) rfl rfl (Nat.le_of_ble_eq_true rfl) (s2_X11_leavesOf l h3 x2 s4 (by omega)) (rm_ok (by decide) (by decide)) (zq_i fun v925 h926 q924 => ?_)
                obtain ⟨b927, s928, f930, u929⟩ := q924
                refine zj_callV (av := [.inl v925]) (st := []) (zdk ttX11_goesOut 26 rfl rfl) mb_X11_happens mv_RX11_362 (ci := 11) rfl rfl (k_M s928) rfl rfl (Nat.le_of_ble_eq_true rfl) (s2_X11_happens l h926 v925 s928 (by omega)) (rm_ok (by decide) (by decide)) (zq_i fun v932 h933 q931 => ?_)
                obtain ⟨b934, s935, f937, u936⟩ := q931
                refine zj_if_ne (t := 52) (zdk ttX11_goesOut 27 rfl rfl) (by decide) (by omega) (fun c938 => ?_) (fun c938 => ?_)
                · refine zj_aload_n (zdk ttX11_goesOut 29 rfl rfl) rfl (by decide) ?_
                  refine zj_iload_n (zdk ttX11_goesOut 30 rfl rfl) rfl ?_
                  refine zj_callV (av := [.inl x2]) (st := []) (zdk ttX11_goesOut 31 rfl rfl) mb_X11_goesAboard mv_RX11_347 (ci := 11) rfl rfl (k_M s935) rfl rfl (Nat.le_of_ble_eq_true rfl) (s2_X11_goesAboard l h933 x2 s935 (by omega)) (rm_ok (by decide) (by decide)) (zq_v fun h941 q939 => ?_)
                  obtain ⟨s943, f945, u944⟩ := q939
                  refine zj_iload_n (zdk ttX11_goesOut 32 rfl rfl) rfl ?_
                  refine zj_iconst (zdk ttX11_goesOut 33 rfl rfl) ?_
                  refine zj_isub (zdk ttX11_goesOut 34 rfl rfl) ?_
                  refine zj_istore_n (L' := [some (.inr 0), some (.inl p1), some (.inl (x1 - 1)), some (.inl x2), none]) (zdk ttX11_goesOut 35 rfl rfl) (by decide) rfl ?_
                  refine zj_iconst (zdk ttX11_goesOut 36 rfl rfl) ?_
                  refine zj_istore (L' := [some (.inr 0), some (.inl p1), some (.inl (x1 - 1)), some (.inl x2), some (.inl 0)]) (zdk ttX11_goesOut 37 rfl rfl) (by decide) rfl ?_
                  have lp1061 : ∀ (n64 : Nat) (x946 x947 : Int) (h948 : zM), (0 ≤ x946 ∧ x946 ≤ 2147483646) → (0 ≤ x947 ∧ x947 ≤ 18) → okM h948 → zfr [] [1, 6, 20, 21] h h948 → (∀ E th x, zY h E th x → ∃ y, zY h948 E th y ∧ fOu E th (E.n - (x2 + 1)).toNat (x2 + 1) (fO2 E th x2 (E.n - x947).toNat x947 x946 y).1 (fO2 E th x2 (E.n - x947).toNat x947 x946 y).2 = fOu E th E.n.toNat 0 p1 x) → (19 - x947).toNat < n64 → zJ shM l yX11_goesOut cX11_goesOut 5 none (rmL 7) 0 0 (q2_X11_goesOut h p1) 0 0 64 [some (.inr 0), some (.inl p1), some (.inl x946), some (.inl x2), some (.inl x947)] [] h948 := by
                    intro n64
                    induction n64 with
                    | zero => intro x946 x947 h948 b1062 b1063 s949 f950 u1064 m1065; exact absurd m1065 (Nat.not_lt_zero _)
                    | succ n64 ih1066 =>
                      intro x946 x947 h948 b1062 b1063 s949 f950 u1064 m1065
                      refine zj_iload (zdk ttX11_goesOut 38 rfl rfl) rfl ?_
                      refine zj_aload_n (zdk ttX11_goesOut 39 rfl rfl) rfl (by decide) ?_
                      refine zj_geti (v := (h.2 0 6)) (zdk ttX11_goesOut 40 rfl rfl) zf_RX11_132 rfl (k_M s949) (zfr_f f950 rfl rfl) ?_
                      refine zj_icmp_ge (t := 120) (zdk ttX11_goesOut 41 rfl rfl) (by decide) (by omega) (by omega) (fun c1067 => ?_) (fun c1067 => ?_)
                      · refine zj_iinc (L' := [some (.inr 0), some (.inl p1), some (.inl x946), some (.inl (x2 + 1)), some (.inl x947)]) (zdk ttX11_goesOut 66 rfl rfl) rfl (by decide) rfl ?_
                        refine zj_goto (t := 4) (zdk ttX11_goesOut 67 rfl rfl) (by decide) ?_
                        refine zj_kill (k := 4) (L' := [some (.inr 0), some (.inl p1), some (.inl x946), some (.inl (x2 + 1)), none]) rfl ?_
                        exact ih911  x946 (x2 + 1) h948 (by omega) (by omega) s949 f950 (by intro E th x t0; obtain ⟨y, t1, r1⟩ := u1064 E th x t0; have g9 := zY_g t0; rw [fO2_e (by omega)] at r1; exact ⟨y, t1, r1⟩) (by omega)
                      · refine zj_iload_n (zdk ttX11_goesOut 42 rfl rfl) rfl ?_
                        refine zj_if_le (t := 120) (zdk ttX11_goesOut 43 rfl rfl) (by decide) (by omega) (fun c1068 => ?_) (fun c1068 => ?_)
                        · refine zj_iinc (L' := [some (.inr 0), some (.inl p1), some (.inl x946), some (.inl (x2 + 1)), some (.inl x947)]) (zdk ttX11_goesOut 66 rfl rfl) rfl (by decide) rfl ?_
                          refine zj_goto (t := 4) (zdk ttX11_goesOut 67 rfl rfl) (by decide) ?_
                          refine zj_kill (k := 4) (L' := [some (.inr 0), some (.inl p1), some (.inl x946), some (.inl (x2 + 1)), none]) rfl ?_
                          exact ih911  x946 (x2 + 1) h948 (by omega) (by omega) s949 f950 (by intro E th x t0; obtain ⟨y, t1, r1⟩ := u1064 E th x t0; have g9 := zY_g t0; rw [fO2_e (by omega)] at r1; exact ⟨y, t1, r1⟩) (by omega)
                        · refine zj_aload_n (zdk ttX11_goesOut 44 rfl rfl) rfl (by decide) ?_
                          refine zj_aload_n (zdk ttX11_goesOut 45 rfl rfl) rfl (by decide) ?_
                          refine zj_getr (r := 19) (zdk ttX11_goesOut 46 rfl rfl) zf_RX11_68 rfl (k_M s949) (rfM_38 s949) ?_
                          refine zj_iload_n (zdk ttX11_goesOut 47 rfl rfl) rfl ?_
                          have b1069 : -2147483648 ≤ (h.2 19 x2) ∧ (h.2 19 x2) ≤ 2147483647 := abM_19 s0 x2
                          refine zj_iald (v := (h.2 19 x2)) (zdk ttX11_goesOut 48 rfl rfl) (kaM_19 s949) (by decide) (by omega) (zfr_a f950 rfl (by decide)) ?_
                          refine zj_iload (zdk ttX11_goesOut 49 rfl rfl) rfl ?_
                          refine zj_callV (av := [.inl (h.2 19 x2), .inl x947]) (st := []) (zdk ttX11_goesOut 50 rfl rfl) mb_X11_has mv_RX11_309 (ci := 11) rfl rfl (k_M s949) rfl rfl (Nat.le_of_ble_eq_true rfl) (s_X11_has l h948 (h.2 19 x2) x947 s949 (by omega) (by omega)) (rm_ok (by decide) (by decide)) (zq_i fun v1071 h1072 q1070 => ?_)
                          obtain ⟨rfl, ⟨rfl, b1073⟩ | ⟨rfl, b1073⟩⟩ := q1070
                          · refine zj_if_eq (t := 114) (zdk ttX11_goesOut 51 rfl rfl) (by decide) (by decide) (fun c1074 => ?_) (fun c1074 => ?_)
                            · refine zj_iinc (L' := [some (.inr 0), some (.inl p1), some (.inl x946), some (.inl x2), some (.inl (x947 + 1))]) (zdk ttX11_goesOut 64 rfl rfl) rfl (by decide) rfl ?_
                              refine zj_goto (t := 64) (zdk ttX11_goesOut 65 rfl rfl) (by decide) ?_
                              exact ih1066  x946 (x947 + 1) h948 (by omega) (by omega) s949 f950 (by intro E th x t0; obtain ⟨y, t1, r1⟩ := u1064 E th x t0; have g9 := zY_g t0; have kn := zY_kn (i := x2) (o := x947) t0 (by omega) (by omega); have r8 := zY_r t1 (k := 9 + x947) (by omega) (by omega); rw [fO2_n (by omega) (by omega) (fun z9 => by have q9 := kn.2 z9.1; have q8 := z9.2; omega)] at r1; exact ⟨y, t1, r1⟩) (by omega)
                            · exact absurd c1074 (by omega)
                          · refine zj_if_eq (t := 114) (zdk ttX11_goesOut 51 rfl rfl) (by decide) (by decide) (fun c1075 => ?_) (fun c1075 => ?_)
                            · exact absurd c1075 (by omega)
                            · refine zj_aload_n (zdk ttX11_goesOut 52 rfl rfl) rfl (by decide) ?_
                              refine zj_iload (zdk ttX11_goesOut 53 rfl rfl) rfl ?_
                              refine zj_callV (av := [.inl x947]) (st := []) (zdk ttX11_goesOut 54 rfl rfl) mb_X11_isHere mv_RX11_135 (ci := 11) rfl rfl (k_M s949) rfl rfl (Nat.le_of_ble_eq_true rfl) (s_X11_isHere l h948 x947 s949 (by omega)) (rm_ok (by decide) (by decide)) (zq_i fun v1077 h1078 q1076 => ?_)
                              obtain ⟨rfl, ⟨rfl, b1079⟩ | ⟨rfl, b1079⟩⟩ := q1076
                              · refine zj_if_ne (t := 104) (zdk ttX11_goesOut 55 rfl rfl) (by decide) (by decide) (fun c1080 => ?_) (fun c1080 => ?_)
                                · exact absurd c1080 (by omega)
                                · refine zj_goto (t := 114) (zdk ttX11_goesOut 56 rfl rfl) (by decide) ?_
                                  refine zj_iinc (L' := [some (.inr 0), some (.inl p1), some (.inl x946), some (.inl x2), some (.inl (x947 + 1))]) (zdk ttX11_goesOut 64 rfl rfl) rfl (by decide) rfl ?_
                                  refine zj_goto (t := 64) (zdk ttX11_goesOut 65 rfl rfl) (by decide) ?_
                                  exact ih1066  x946 (x947 + 1) h948 (by omega) (by omega) s949 f950 (by intro E th x t0; obtain ⟨y, t1, r1⟩ := u1064 E th x t0; have g9 := zY_g t0; have kn := zY_kn (i := x2) (o := x947) t0 (by omega) (by omega); have r8 := zY_r t1 (k := 9 + x947) (by omega) (by omega); rw [fO2_n (by omega) (by omega) (fun z9 => by have q9 := kn.2 z9.1; have q8 := z9.2; omega)] at r1; exact ⟨y, t1, r1⟩) (by omega)
                              · refine zj_if_ne (t := 104) (zdk ttX11_goesOut 55 rfl rfl) (by decide) (by decide) (fun c1081 => ?_) (fun c1081 => ?_)
                                · refine zj_aload_n (zdk ttX11_goesOut 57 rfl rfl) rfl (by decide) ?_
                                  refine zj_iload (zdk ttX11_goesOut 58 rfl rfl) rfl ?_
                                  refine zj_callV (av := [.inl x947]) (st := []) (zdk ttX11_goesOut 59 rfl rfl) mb_X11_goesAboard mv_RX11_347 (ci := 11) rfl rfl (k_M s949) rfl rfl (Nat.le_of_ble_eq_true rfl) (s2_X11_goesAboard l h948 x947 s949 (by omega)) (rm_ok (by decide) (by decide)) (zq_v fun h1084 q1082 => ?_)
                                  obtain ⟨s1086, f1088, u1087⟩ := q1082
                                  refine zj_iload_n (zdk ttX11_goesOut 60 rfl rfl) rfl ?_
                                  refine zj_iconst (zdk ttX11_goesOut 61 rfl rfl) ?_
                                  refine zj_isub (zdk ttX11_goesOut 62 rfl rfl) ?_
                                  refine zj_istore_n (L' := [some (.inr 0), some (.inl p1), some (.inl (x946 - 1)), some (.inl x2), some (.inl x947)]) (zdk ttX11_goesOut 63 rfl rfl) (by decide) rfl ?_
                                  refine zj_iinc (L' := [some (.inr 0), some (.inl p1), some (.inl (x946 - 1)), some (.inl x2), some (.inl (x947 + 1))]) (zdk ttX11_goesOut 64 rfl rfl) rfl (by decide) rfl ?_
                                  refine zj_goto (t := 64) (zdk ttX11_goesOut 65 rfl rfl) (by decide) ?_
                                  have f1089 : zfr [] [1, 6, 20, 21] h h1084 := zfr_t f950 f1088 rfl rfl
                                  exact ih1066  (x946 - 1) (x947 + 1) h1084 (by omega) (by omega) s1086 f1089 (by intro E th x t0; obtain ⟨y, t1, r1⟩ := u1064 E th x t0; have g9 := zY_g t0; have kn := zY_kn (i := x2) (o := x947) t0 (by omega) (by omega); have r8 := zY_r t1 (k := 9 + x947) (by omega) (by omega); have t2 := u1087 E th y t1 (by omega); refine ⟨_, t2, ?_⟩; rw [fO2_y (by omega) (by omega) ⟨kn.1 (by omega), by omega⟩, show x946 - 1 = (x946 - 1) by omega] at r1; exact r1) (by omega)
                                · exact absurd c1081 (by omega)
                  have f1092 : zfr [] [1, 6, 20, 21] h h926 := zfr_t f5 f930 rfl rfl
                  have f1091 : zfr [] [1, 6, 20, 21] h h933 := zfr_t f1092 f937 rfl rfl
                  have f1090 : zfr [] [1, 6, 20, 21] h h941 := zfr_t f1091 f945 rfl rfl
                  exact lp1061 _ (x1 - 1) 0 h941 (by omega) (by omega) s943 f1090 (by intro E th x t0; obtain ⟨y, t1, r1⟩ := u909 E th x t0; have g9 := zY_g t0; have r8 := zY_r t1 (k := 9 + x2) (by omega) (by omega); have r9 := zY_r t1 (k := 27 + x2) (by omega) (by omega); have e2 : v925 = fTl E y.1 0 x2 := u929 E th y t1 (by omega); have tb := fTl_b E y.1 0 x2; have mo : fMo 0 = 1000 := rfl; obtain ⟨t2, w2⟩ := u936 E th y (zY_fr t1 f930 rfl) (by omega); rw [e2] at t2 w2; have t3 := u944 E th _ t2 (by omega); have ob : fOb E th x2 x1 y = fO2 E th x2 E.n.toNat 0 (x1 - 1) (fGo E th x2 (fHx th (fTl E y.1 0 x2) y)) := (by unfold fOb; rw [if_pos ⟨by omega, by omega⟩, if_pos (w2.1 (by omega)), show x1 - 1 = (x1 - 1) by omega]); refine ⟨_, t3, ?_⟩; rw [show E.n - 0 = E.n by omega]; exact (fOu_s (by omega) (by omega) ob).symm.trans r1) (Nat.lt_succ_self _)
                · refine zj_goto (t := 120) (zdk ttX11_goesOut 28 rfl rfl) (by decide) ?_
                  refine zj_iinc (L' := [some (.inr 0), some (.inl p1), some (.inl x1), some (.inl (x2 + 1)), none]) (zdk ttX11_goesOut 66 rfl rfl) rfl (by decide) rfl ?_
                  refine zj_goto (t := 4) (zdk ttX11_goesOut 67 rfl rfl) (by decide) ?_
                  have f1094 : zfr [] [1, 6, 20, 21] h h926 := zfr_t f5 f930 rfl rfl
                  have f1093 : zfr [] [1, 6, 20, 21] h h933 := zfr_t f1094 f937 rfl rfl
                  exact ih911  x1 (x2 + 1) h933 (by omega) (by omega) s935 f1093 (by intro E th x t0; obtain ⟨y, t1, r1⟩ := u909 E th x t0; have g9 := zY_g t0; have r8 := zY_r t1 (k := 9 + x2) (by omega) (by omega); have r9 := zY_r t1 (k := 27 + x2) (by omega) (by omega); have e2 : v925 = fTl E y.1 0 x2 := u929 E th y t1 (by omega); have tb := fTl_b E y.1 0 x2; have mo : fMo 0 = 1000 := rfl; obtain ⟨t2, w2⟩ := u936 E th y (zY_fr t1 f930 rfl) (by omega); rw [e2] at t2 w2; have ob : fOb E th x2 x1 y = (x1, fHx th (fTl E y.1 0 x2) y) := (by unfold fOb; rw [if_pos ⟨by omega, by omega⟩, if_neg (fun z9 => by have q9 := w2.2 z9; omega)]); exact ⟨_, t2, (fOu_s (by omega) (by omega) ob).symm.trans r1⟩) (by omega)
  exact lp906 _ p1 0 h (by omega) (by omega) s0 (zfr_r _ _ _) (fun E th x t0 => ⟨x, t0, by rw [show E.n - 0 = E.n by omega]⟩) (Nat.lt_succ_self _)

abbrev q2_X11_bringsBack (h : zM) (p1 : Int) : Option zV → zM → Prop := zqv fun h' => okM h' ∧ zfr [] [1, 6, 20, 21] h h' ∧ (∀ E th x, zY h E th x → zY h' E th (fBa E th E.n.toNat 0 p1 x))
set_option maxRecDepth 100000 in
set_option maxHeartbeats 4000000 in
theorem s2_X11_bringsBack (l : Launch) (h : zM) (p1 : Int) (s0 : okM h) (b_p1 : (-2147483648) ≤ p1 ∧ p1 ≤ 2147483647) : zT shM l yX11_bringsBack cX11_bringsBack 4 none (rmL 7) 0 0 [.inr 0, .inl p1] h (q2_X11_bringsBack h p1) := by
  refine zT_of (by decide +kernel) (L0 := [some (.inr 0), some (.inl p1), none, none]) rfl (Nat.le_of_ble_eq_true rfl) ?_
  refine zj_iload_n (zdk ttX11_bringsBack 0 rfl rfl) rfl ?_
  refine zj_istore_n (L' := [some (.inr 0), some (.inl p1), some (.inl p1), none]) (zdk ttX11_bringsBack 1 rfl rfl) (by decide) rfl ?_
  refine zj_iconst (zdk ttX11_bringsBack 2 rfl rfl) ?_
  refine zj_istore_n (L' := [some (.inr 0), some (.inl p1), some (.inl p1), some (.inl 0)]) (zdk ttX11_bringsBack 3 rfl rfl) (by decide) rfl ?_
  have lp161 : ∀ (n4 : Nat) (x1 x2 : Int) (h3 : zM), (-2147483648 ≤ x1 ∧ x1 ≤ 2147483647) → (0 ≤ x2 ∧ x2 ≤ 18) → okM h3 → zfr [] [1, 6, 20, 21] h h3 → (∀ E th x, zY h E th x → ∃ y, zY h3 E th y ∧ fBa E th (E.n - x2).toNat x2 x1 y = fBa E th E.n.toNat 0 p1 x) → (19 - x2).toNat < n4 → zJ shM l yX11_bringsBack cX11_bringsBack 4 none (rmL 7) 0 0 (q2_X11_bringsBack h p1) 0 0 4 [some (.inr 0), some (.inl p1), some (.inl x1), some (.inl x2)] [] h3 := by
    intro n4
    induction n4 with
    | zero => intro x1 x2 h3 b162 b163 s4 f5 u164 m165; exact absurd m165 (Nat.not_lt_zero _)
    | succ n4 ih166 =>
      intro x1 x2 h3 b162 b163 s4 f5 u164 m165
      refine zj_iload_n (zdk ttX11_bringsBack 4 rfl rfl) rfl ?_
      refine zj_aload_n (zdk ttX11_bringsBack 5 rfl rfl) rfl (by decide) ?_
      have b167 : 0 ≤ (h.2 0 6) ∧ (h.2 0 6) ≤ 18 := fM_6 s0
      refine zj_geti (v := (h.2 0 6)) (zdk ttX11_bringsBack 6 rfl rfl) zf_RX11_132 rfl (k_M s4) (zfr_f f5 rfl rfl) ?_
      refine zj_icmp_ge (t := 54) (zdk ttX11_bringsBack 7 rfl rfl) (by decide) (by omega) (by omega) (fun c168 => ?_) (fun c168 => ?_)
      · exact zj_vret rfl (zdk ttX11_bringsBack 30 rfl rfl) (Nat.le_refl _) (Nat.le_refl _) ⟨rfl, s4, f5, (by intro E th x t0; obtain ⟨y, t1, r1⟩ := u164 E th x t0; have g9 := zY_g t0; rw [fBa_e (by omega)] at r1; rw [← r1]; exact t1)⟩
      · refine zj_iload_n (zdk ttX11_bringsBack 8 rfl rfl) rfl ?_
        refine zj_if_le (t := 54) (zdk ttX11_bringsBack 9 rfl rfl) (by decide) (by omega) (fun c169 => ?_) (fun c169 => ?_)
        · exact zj_vret rfl (zdk ttX11_bringsBack 30 rfl rfl) (Nat.le_refl _) (Nat.le_refl _) ⟨rfl, s4, f5, (by intro E th x t0; obtain ⟨y, t1, r1⟩ := u164 E th x t0; have g9 := zY_g t0; rw [fBa_e (by omega)] at r1; rw [← r1]; exact t1)⟩
        · refine zj_aload_n (zdk ttX11_bringsBack 10 rfl rfl) rfl (by decide) ?_
          refine zj_iload_n (zdk ttX11_bringsBack 11 rfl rfl) rfl ?_
          refine zj_callV (av := [.inl x2]) (st := []) (zdk ttX11_bringsBack 12 rfl rfl) mb_X11_isHere mv_RX11_135 (ci := 11) rfl rfl (k_M s4) rfl rfl (Nat.le_of_ble_eq_true rfl) (s_X11_isHere l h3 x2 s4 (by omega)) (rm_ok (by decide) (by decide)) (zq_i fun v171 h172 q170 => ?_)
          obtain ⟨rfl, ⟨rfl, b173⟩ | ⟨rfl, b173⟩⟩ := q170
          · refine zj_if_ne (t := 48) (zdk ttX11_bringsBack 13 rfl rfl) (by decide) (by decide) (fun c174 => ?_) (fun c174 => ?_)
            · exact absurd c174 (by omega)
            · refine zj_aload_n (zdk ttX11_bringsBack 14 rfl rfl) rfl (by decide) ?_
              refine zj_aload_n (zdk ttX11_bringsBack 15 rfl rfl) rfl (by decide) ?_
              refine zj_iload_n (zdk ttX11_bringsBack 16 rfl rfl) rfl ?_
              refine zj_callV (av := [.inl x2]) (st := [.inr 0]) (zdk ttX11_bringsBack 17 rfl rfl) mb_X11_returnsOf mv_RX11_365 (ci := 11) rfl rfl (k_M s4) rfl rfl (Nat.le_of_ble_eq_true rfl) (s2_X11_returnsOf l h3 x2 s4 (by omega)) (rm_ok (by decide) (by decide)) (zq_i fun v176 h177 q175 => ?_)
              obtain ⟨b178, s179, f181, u180⟩ := q175
              refine zj_callV (av := [.inl v176]) (st := []) (zdk ttX11_bringsBack 18 rfl rfl) mb_X11_happens mv_RX11_362 (ci := 11) rfl rfl (k_M s179) rfl rfl (Nat.le_of_ble_eq_true rfl) (s2_X11_happens l h177 v176 s179 (by omega)) (rm_ok (by decide) (by decide)) (zq_i fun v183 h184 q182 => ?_)
              obtain ⟨b185, s186, f188, u187⟩ := q182
              refine zj_if_ne (t := 39) (zdk ttX11_bringsBack 19 rfl rfl) (by decide) (by omega) (fun c189 => ?_) (fun c189 => ?_)
              · refine zj_aload_n (zdk ttX11_bringsBack 21 rfl rfl) rfl (by decide) ?_
                refine zj_iload_n (zdk ttX11_bringsBack 22 rfl rfl) rfl ?_
                refine zj_callV (av := [.inl x2]) (st := []) (zdk ttX11_bringsBack 23 rfl rfl) mb_X11_comesBack mv_RX11_350 (ci := 11) rfl rfl (k_M s186) rfl rfl (Nat.le_of_ble_eq_true rfl) (s2_X11_comesBack l h184 x2 s186 (by omega)) (rm_ok (by decide) (by decide)) (zq_v fun h192 q190 => ?_)
                obtain ⟨s194, f196, u195⟩ := q190
                refine zj_iload_n (zdk ttX11_bringsBack 24 rfl rfl) rfl ?_
                refine zj_iconst (zdk ttX11_bringsBack 25 rfl rfl) ?_
                refine zj_isub (zdk ttX11_bringsBack 26 rfl rfl) ?_
                refine zj_istore_n (L' := [some (.inr 0), some (.inl p1), some (.inl (x1 - 1)), some (.inl x2)]) (zdk ttX11_bringsBack 27 rfl rfl) (by decide) rfl ?_
                refine zj_iinc (L' := [some (.inr 0), some (.inl p1), some (.inl (x1 - 1)), some (.inl (x2 + 1))]) (zdk ttX11_bringsBack 28 rfl rfl) rfl (by decide) rfl ?_
                refine zj_goto (t := 4) (zdk ttX11_bringsBack 29 rfl rfl) (by decide) ?_
                have f199 : zfr [] [1, 6, 20, 21] h h177 := zfr_t f5 f181 rfl rfl
                have f198 : zfr [] [1, 6, 20, 21] h h184 := zfr_t f199 f188 rfl rfl
                have f197 : zfr [] [1, 6, 20, 21] h h192 := zfr_t f198 f196 rfl rfl
                exact ih166  (x1 - 1) (x2 + 1) h192 (by omega) (by omega) s194 f197 (by intro E th x t0; obtain ⟨y, t1, r1⟩ := u164 E th x t0; have g9 := zY_g t0; have r8 := zY_r t1 (k := 9 + x2) (by omega) (by omega); have e2 : v176 = fTl E y.1 2 x2 := u180 E th y t1 (by omega); have tb := fTl_b E y.1 2 x2; have mo : fMo 2 = 1000 := rfl; obtain ⟨t2, w2⟩ := u187 E th y (zY_fr t1 f181 rfl) (by omega); rw [e2] at t2 w2; have t3 := u195 E th _ t2 (by omega); have ob : fBb E th x2 x1 y = ((x1 - 1), fBk E th x2 (fHx th (fTl E y.1 2 x2) y)) := (by unfold fBb; rw [if_neg (by omega), if_pos (w2.1 (by omega)), show x1 - 1 = (x1 - 1) by omega]); exact ⟨_, t3, (fBa_s (by omega) (by omega) ob).symm.trans r1⟩) (by omega)
              · refine zj_goto (t := 48) (zdk ttX11_bringsBack 20 rfl rfl) (by decide) ?_
                refine zj_iinc (L' := [some (.inr 0), some (.inl p1), some (.inl x1), some (.inl (x2 + 1))]) (zdk ttX11_bringsBack 28 rfl rfl) rfl (by decide) rfl ?_
                refine zj_goto (t := 4) (zdk ttX11_bringsBack 29 rfl rfl) (by decide) ?_
                have f201 : zfr [] [1, 6, 20, 21] h h177 := zfr_t f5 f181 rfl rfl
                have f200 : zfr [] [1, 6, 20, 21] h h184 := zfr_t f201 f188 rfl rfl
                exact ih166  x1 (x2 + 1) h184 (by omega) (by omega) s186 f200 (by intro E th x t0; obtain ⟨y, t1, r1⟩ := u164 E th x t0; have g9 := zY_g t0; have r8 := zY_r t1 (k := 9 + x2) (by omega) (by omega); have e2 : v176 = fTl E y.1 2 x2 := u180 E th y t1 (by omega); have tb := fTl_b E y.1 2 x2; have mo : fMo 2 = 1000 := rfl; obtain ⟨t2, w2⟩ := u187 E th y (zY_fr t1 f181 rfl) (by omega); rw [e2] at t2 w2; have ob : fBb E th x2 x1 y = (x1, fHx th (fTl E y.1 2 x2) y) := (by unfold fBb; rw [if_neg (by omega), if_neg (fun z9 => by have q9 := w2.2 z9; omega)]); exact ⟨_, t2, (fBa_s (by omega) (by omega) ob).symm.trans r1⟩) (by omega)
          · refine zj_if_ne (t := 48) (zdk ttX11_bringsBack 13 rfl rfl) (by decide) (by decide) (fun c202 => ?_) (fun c202 => ?_)
            · refine zj_iinc (L' := [some (.inr 0), some (.inl p1), some (.inl x1), some (.inl (x2 + 1))]) (zdk ttX11_bringsBack 28 rfl rfl) rfl (by decide) rfl ?_
              refine zj_goto (t := 4) (zdk ttX11_bringsBack 29 rfl rfl) (by decide) ?_
              exact ih166  x1 (x2 + 1) h3 (by omega) (by omega) s4 f5 (by intro E th x t0; obtain ⟨y, t1, r1⟩ := u164 E th x t0; have g9 := zY_g t0; have r8 := zY_r t1 (k := 9 + x2) (by omega) (by omega); have ob : fBb E th x2 x1 y = (x1, y) := (by unfold fBb; rw [if_pos (by omega)]); exact ⟨y, t1, (fBa_s (by omega) (by omega) ob).symm.trans r1⟩) (by omega)
            · exact absurd c202 (by omega)
  exact lp161 _ p1 0 h (by omega) (by omega) s0 (zfr_r _ _ _) (fun E th x t0 => ⟨x, t0, by rw [show E.n - 0 = E.n by omega]⟩) (Nat.lt_succ_self _)

