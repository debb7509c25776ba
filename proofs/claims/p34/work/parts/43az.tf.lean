abbrev q2_X11_wordAt (h : zM) (p1 : Int) (p2 : Int) : Option zV → zM → Prop := zqi fun v h' => h = h' ∧ ((-1) ≤ v ∧ v ≤ 2147483647) ∧ (tWr h → p1 < p2 → tWv (h.2 7) p1 p2 v)
set_option maxRecDepth 100000 in
set_option maxHeartbeats 4000000 in
theorem s2_X11_wordAt (l : Launch) (h : zM) (p1 : Int) (p2 : Int) (s0 : okM h) (b_p1 : 0 ≤ p1 ∧ p1 ≤ 400) (b_p2 : 0 ≤ p2 ∧ p2 ≤ 400) (u_0 : ∀ j, p1 ≤ j → j < p2 → ¬ h.2 7 j = 32) : zT shM l yX11_wordAt cX11_wordAt 6 (some .int) (rmL 1) 0 0 [.inr 0, .inl p1, .inl p2] h (q2_X11_wordAt h p1 p2) := by
  refine zT_of (by decide +kernel) (L0 := [some (.inr 0), some (.inl p1), some (.inl p2), none, none, none]) rfl (Nat.le_of_ble_eq_true rfl) ?_
  refine zj_iconst (zdk ttX11_wordAt 0 rfl rfl) ?_
  refine zj_istore_n (L' := [some (.inr 0), some (.inl p1), some (.inl p2), some (.inl (-1)), none, none]) (zdk ttX11_wordAt 1 rfl rfl) (by decide) rfl ?_
  refine zj_iconst (zdk ttX11_wordAt 2 rfl rfl) ?_
  refine zj_istore (L' := [some (.inr 0), some (.inl p1), some (.inl p2), some (.inl (-1)), some (.inl 0), none]) (zdk ttX11_wordAt 3 rfl rfl) (by decide) rfl ?_
  have lp86 : ∀ (n5 : Nat) (x1 x2 : Int), (-1 ≤ x1 ∧ x1 ≤ 150) → (0 ≤ x2 ∧ x2 ≤ 149) → (x1 ≤ x2 - 1) → (tWr h → p1 < p2 → tVi (h.2 7) p1 p2 x1 x2) → (150 - x2).toNat < n5 → zJ shM l yX11_wordAt cX11_wordAt 6 (some .int) (rmL 1) 0 0 (q2_X11_wordAt h p1 p2) 0 0 5 [some (.inr 0), some (.inl p1), some (.inl p2), some (.inl x1), some (.inl x2), none] [] h := by
    intro n5
    induction n5 with
    | zero => intro x1 x2 b87 b88 u89 u90 m91; exact absurd m91 (Nat.not_lt_zero _)
    | succ n5 ih92 =>
      intro x1 x2 b87 b88 u89 u90 m91
      refine zj_iload (zdk ttX11_wordAt 4 rfl rfl) rfl ?_
      refine zj_sipush (zdk ttX11_wordAt 5 rfl rfl) (by decide) ?_
      refine zj_icmp_ge (t := 118) (zdk ttX11_wordAt 6 rfl rfl) (by decide) (by omega) (by decide) (fun c93 => ?_) (fun c93 => ?_)
      · refine zj_iconst (zdk ttX11_wordAt 71 rfl rfl) ?_
        exact zj_iret rfl (zdk ttX11_wordAt 72 rfl rfl) (Nat.le_refl _) (Nat.le_refl _) ⟨(-1), rfl, rfl, by omega, (fun W p9 => by have v9 := u90 W p9; have k9 := (tVi_k v9).2 (by omega); exact Or.inl ⟨rfl, fun k hk => v9.2.2 k (by omega)⟩)⟩
      · refine zj_iconst (zdk ttX11_wordAt 7 rfl rfl) ?_
        refine zj_istore (L' := [some (.inr 0), some (.inl p1), some (.inl p2), some (.inl x1), some (.inl x2), some (.inl 0)]) (zdk ttX11_wordAt 8 rfl rfl) (by decide) rfl ?_
        refine zj_iload_n (zdk ttX11_wordAt 9 rfl rfl) rfl ?_
        refine zj_iconst (zdk ttX11_wordAt 10 rfl rfl) ?_
        refine zj_iadd (zdk ttX11_wordAt 11 rfl rfl) ?_
        refine zj_istore_n (L' := [some (.inr 0), some (.inl p1), some (.inl p2), some (.inl (x1 + 1)), some (.inl x2), some (.inl 0)]) (zdk ttX11_wordAt 12 rfl rfl) (by decide) rfl ?_
        have lp101 : ∀ (n20 : Nat) (x94 : Int), (0 ≤ x94 ∧ x94 ≤ 149) → (x2 + 1 + x94 ≤ 149) → (∀ t, 0 ≤ t → t < x94 → h.2 8 (x2 + 1 + t) = h.2 7 (p1 + t)) → (p1 < p2 → p1 + x94 ≤ p2) → (150 - x94).toNat < n20 → zJ shM l yX11_wordAt cX11_wordAt 6 (some .int) (rmL 1) 0 0 (q2_X11_wordAt h p1 p2) 0 0 20 [some (.inr 0), some (.inl p1), some (.inl p2), some (.inl (x1 + 1)), some (.inl x2), some (.inl x94)] [] h := by
          intro n20
          induction n20 with
          | zero => intro x94 b102 u103 u104 u105 m106; exact absurd m106 (Nat.not_lt_zero _)
          | succ n20 ih107 =>
            intro x94 b102 u103 u104 u105 m106
            refine zj_iload_n (zdk ttX11_wordAt 13 rfl rfl) rfl ?_
            refine zj_iload (zdk ttX11_wordAt 14 rfl rfl) rfl ?_
            refine zj_iadd (zdk ttX11_wordAt 15 rfl rfl) ?_
            refine zj_iload_n (zdk ttX11_wordAt 16 rfl rfl) rfl ?_
            refine zj_icmp_ge (t := 61) (zdk ttX11_wordAt 17 rfl rfl) (by decide) (by omega) (by omega) (fun c108 => ?_) (fun c108 => ?_)
            · refine zj_iload_n (zdk ttX11_wordAt 38 rfl rfl) rfl ?_
              refine zj_iload (zdk ttX11_wordAt 39 rfl rfl) rfl ?_
              refine zj_iadd (zdk ttX11_wordAt 40 rfl rfl) ?_
              refine zj_iload_n (zdk ttX11_wordAt 41 rfl rfl) rfl ?_
              refine zj_icmp_ne (t := 88) (zdk ttX11_wordAt 42 rfl rfl) (by decide) (by omega) (by omega) (fun c109 => ?_) (fun c109 => ?_)
              · refine zj_iload (zdk ttX11_wordAt 55 rfl rfl) rfl ?_
                refine zj_iconst (zdk ttX11_wordAt 56 rfl rfl) ?_
                refine zj_iadd (zdk ttX11_wordAt 57 rfl rfl) ?_
                refine zj_istore (L' := [some (.inr 0), some (.inl p1), some (.inl p2), some (.inl (x1 + 1)), some (.inl (x2 + 1)), some (.inl x94)]) (zdk ttX11_wordAt 58 rfl rfl) (by decide) rfl ?_
                have lp114 : ∀ (n94 : Nat) (x110 : Int), (1 ≤ x110 ∧ x110 ≤ 149) → ((x1 + 1) ≤ x110 - 1) → ((150 - x110).toNat < n5) → (tWr h → p1 < p2 → tRp (x1 + 1) < x110 ∧ x110 ≤ tRp ((x1 + 1) + 1) ∧ ¬ tEq (h.2 7) p1 p2 (tWd.getD ((x1 + 1)).toNat [])) → (150 - x110).toNat < n94 → zJ shM l yX11_wordAt cX11_wordAt 6 (some .int) (rmL 1) 0 0 (q2_X11_wordAt h p1 p2) 0 0 94 [some (.inr 0), some (.inl p1), some (.inl p2), some (.inl (x1 + 1)), some (.inl x110), some (.inl x94)] [] h := by
                  intro n94
                  induction n94 with
                  | zero => intro x110 b115 u116 u117 u118 m119; exact absurd m119 (Nat.not_lt_zero _)
                  | succ n94 ih120 =>
                    intro x110 b115 u116 u117 u118 m119
                    refine zj_aload_n (zdk ttX11_wordAt 59 rfl rfl) rfl (by decide) ?_
                    refine zj_getr (r := 8) (zdk ttX11_wordAt 60 rfl rfl) zf_RX11_31 rfl (k_M s0) (rfM_16 s0) ?_
                    refine zj_iload (zdk ttX11_wordAt 61 rfl rfl) rfl ?_
                    have b121 : x110 = 149 → (h.2 8 x110) = 32 := fun q => by rw [q]; exact s0.2.2.2.2.2
                    have b122 : -2147483648 ≤ (h.2 8 x110) ∧ (h.2 8 x110) ≤ 2147483647 := abM_8 s0 x110
                    refine zj_iald (v := (h.2 8 x110)) (zdk ttX11_wordAt 62 rfl rfl) (kaM_8 s0) (by decide) (by omega) rfl ?_
                    refine zj_bipush (zdk ttX11_wordAt 63 rfl rfl) (by decide) ?_
                    refine zj_icmp_eq (t := 115) (zdk ttX11_wordAt 64 rfl rfl) (by decide) (by omega) (by decide) (fun c123 => ?_) (fun c123 => ?_)
                    · refine zj_goto (t := 5) (zdk ttX11_wordAt 70 rfl rfl) (by decide) ?_
                      refine zj_kill (k := 5) (L' := [some (.inr 0), some (.inl p1), some (.inl p2), some (.inl (x1 + 1)), some (.inl x110), none]) rfl ?_
                      exact ih92  (x1 + 1) x110 (by omega) (by omega) (by omega) (fun W p9 => by have v9 := u90 W p9; have k9 := (tVi_k v9).1 (by omega); have b9 := u118 W p9; have n9 := v9.1; exact tVi_s v9 k9 ((tV_b W (by omega) b9.1 b9.2.1).1 (by omega)) b9.2.2) (by omega)
                    · refine zj_iload (zdk ttX11_wordAt 65 rfl rfl) rfl ?_
                      refine zj_iconst (zdk ttX11_wordAt 66 rfl rfl) ?_
                      refine zj_iadd (zdk ttX11_wordAt 67 rfl rfl) ?_
                      refine zj_istore (L' := [some (.inr 0), some (.inl p1), some (.inl p2), some (.inl (x1 + 1)), some (.inl (x110 + 1)), some (.inl x94)]) (zdk ttX11_wordAt 68 rfl rfl) (by decide) rfl ?_
                      refine zj_goto (t := 94) (zdk ttX11_wordAt 69 rfl rfl) (by decide) ?_
                      exact ih120  (x110 + 1) (by omega) (by omega) (by omega) (fun W p9 => by have b9 := u118 W p9; have v9 := u90 W p9; have k9 := (tVi_k v9).1 (by omega); have n9 := v9.1; have c9 := (tV_b W (by omega) b9.1 b9.2.1).2 (by omega); exact ⟨by omega, by omega, b9.2.2⟩) (by omega)
                exact lp114 _ (x2 + 1) (by omega) (by omega) (by omega) (fun W p9 => by have v9 := u90 W p9; have i9 := u105 p9; have k9 := (tVi_k v9).1 (by omega); have e9 := v9.2.1; have n9 := v9.1; have a9 := tR_a ((x1 + 1)).toNat (by omega); rw [tV_i (m := (x1 + 1)) (by omega)] at a9; exact ⟨by omega, by omega, tV_n (k := x2) (i := x94) W (by omega) e9 (by omega) (by omega)⟩) (Nat.lt_succ_self _)
              · refine zj_aload_n (zdk ttX11_wordAt 43 rfl rfl) rfl (by decide) ?_
                refine zj_getr (r := 8) (zdk ttX11_wordAt 44 rfl rfl) zf_RX11_31 rfl (k_M s0) (rfM_16 s0) ?_
                refine zj_iload (zdk ttX11_wordAt 45 rfl rfl) rfl ?_
                refine zj_iconst (zdk ttX11_wordAt 46 rfl rfl) ?_
                refine zj_iadd (zdk ttX11_wordAt 47 rfl rfl) ?_
                refine zj_iload (zdk ttX11_wordAt 48 rfl rfl) rfl ?_
                refine zj_iadd (zdk ttX11_wordAt 49 rfl rfl) ?_
                have b124 : ((x2 + 1) + x94) = 149 → (h.2 8 ((x2 + 1) + x94)) = 32 := fun q => by rw [q]; exact s0.2.2.2.2.2
                have b125 : -2147483648 ≤ (h.2 8 ((x2 + 1) + x94)) ∧ (h.2 8 ((x2 + 1) + x94)) ≤ 2147483647 := abM_8 s0 ((x2 + 1) + x94)
                refine zj_iald (v := (h.2 8 ((x2 + 1) + x94))) (zdk ttX11_wordAt 50 rfl rfl) (kaM_8 s0) (by decide) (by omega) rfl ?_
                refine zj_bipush (zdk ttX11_wordAt 51 rfl rfl) (by decide) ?_
                refine zj_icmp_ne (t := 88) (zdk ttX11_wordAt 52 rfl rfl) (by decide) (by omega) (by decide) (fun c126 => ?_) (fun c126 => ?_)
                · refine zj_iload (zdk ttX11_wordAt 55 rfl rfl) rfl ?_
                  refine zj_iconst (zdk ttX11_wordAt 56 rfl rfl) ?_
                  refine zj_iadd (zdk ttX11_wordAt 57 rfl rfl) ?_
                  refine zj_istore (L' := [some (.inr 0), some (.inl p1), some (.inl p2), some (.inl (x1 + 1)), some (.inl (x2 + 1)), some (.inl x94)]) (zdk ttX11_wordAt 58 rfl rfl) (by decide) rfl ?_
                  have lp131 : ∀ (n94 : Nat) (x127 : Int), (1 ≤ x127 ∧ x127 ≤ 149) → ((x1 + 1) ≤ x127 - 1) → ((150 - x127).toNat < n5) → (tWr h → p1 < p2 → tRp (x1 + 1) < x127 ∧ x127 ≤ tRp ((x1 + 1) + 1) ∧ ¬ tEq (h.2 7) p1 p2 (tWd.getD ((x1 + 1)).toNat [])) → (150 - x127).toNat < n94 → zJ shM l yX11_wordAt cX11_wordAt 6 (some .int) (rmL 1) 0 0 (q2_X11_wordAt h p1 p2) 0 0 94 [some (.inr 0), some (.inl p1), some (.inl p2), some (.inl (x1 + 1)), some (.inl x127), some (.inl x94)] [] h := by
                    intro n94
                    induction n94 with
                    | zero => intro x127 b132 u133 u134 u135 m136; exact absurd m136 (Nat.not_lt_zero _)
                    | succ n94 ih137 =>
                      intro x127 b132 u133 u134 u135 m136
                      refine zj_aload_n (zdk ttX11_wordAt 59 rfl rfl) rfl (by decide) ?_
                      refine zj_getr (r := 8) (zdk ttX11_wordAt 60 rfl rfl) zf_RX11_31 rfl (k_M s0) (rfM_16 s0) ?_
                      refine zj_iload (zdk ttX11_wordAt 61 rfl rfl) rfl ?_
                      have b138 : x127 = 149 → (h.2 8 x127) = 32 := fun q => by rw [q]; exact s0.2.2.2.2.2
                      have b139 : -2147483648 ≤ (h.2 8 x127) ∧ (h.2 8 x127) ≤ 2147483647 := abM_8 s0 x127
                      refine zj_iald (v := (h.2 8 x127)) (zdk ttX11_wordAt 62 rfl rfl) (kaM_8 s0) (by decide) (by omega) rfl ?_
                      refine zj_bipush (zdk ttX11_wordAt 63 rfl rfl) (by decide) ?_
                      refine zj_icmp_eq (t := 115) (zdk ttX11_wordAt 64 rfl rfl) (by decide) (by omega) (by decide) (fun c140 => ?_) (fun c140 => ?_)
                      · refine zj_goto (t := 5) (zdk ttX11_wordAt 70 rfl rfl) (by decide) ?_
                        refine zj_kill (k := 5) (L' := [some (.inr 0), some (.inl p1), some (.inl p2), some (.inl (x1 + 1)), some (.inl x127), none]) rfl ?_
                        exact ih92  (x1 + 1) x127 (by omega) (by omega) (by omega) (fun W p9 => by have v9 := u90 W p9; have k9 := (tVi_k v9).1 (by omega); have b9 := u135 W p9; have n9 := v9.1; exact tVi_s v9 k9 ((tV_b W (by omega) b9.1 b9.2.1).1 (by omega)) b9.2.2) (by omega)
                      · refine zj_iload (zdk ttX11_wordAt 65 rfl rfl) rfl ?_
                        refine zj_iconst (zdk ttX11_wordAt 66 rfl rfl) ?_
                        refine zj_iadd (zdk ttX11_wordAt 67 rfl rfl) ?_
                        refine zj_istore (L' := [some (.inr 0), some (.inl p1), some (.inl p2), some (.inl (x1 + 1)), some (.inl (x127 + 1)), some (.inl x94)]) (zdk ttX11_wordAt 68 rfl rfl) (by decide) rfl ?_
                        refine zj_goto (t := 94) (zdk ttX11_wordAt 69 rfl rfl) (by decide) ?_
                        exact ih137  (x127 + 1) (by omega) (by omega) (by omega) (fun W p9 => by have b9 := u135 W p9; have v9 := u90 W p9; have k9 := (tVi_k v9).1 (by omega); have n9 := v9.1; have c9 := (tV_b W (by omega) b9.1 b9.2.1).2 (by omega); exact ⟨by omega, by omega, b9.2.2⟩) (by omega)
                  exact lp131 _ (x2 + 1) (by omega) (by omega) (by omega) (fun W p9 => by have v9 := u90 W p9; have i9 := u105 p9; have k9 := (tVi_k v9).1 (by omega); have e9 := v9.2.1; have n9 := v9.1; have a9 := tR_a ((x1 + 1)).toNat (by omega); rw [tV_i (m := (x1 + 1)) (by omega)] at a9; exact ⟨by omega, by omega, tV_n (k := x2) (i := x94) W (by omega) e9 (by omega) (by omega)⟩) (Nat.lt_succ_self _)
                · refine zj_iload_n (zdk ttX11_wordAt 53 rfl rfl) rfl ?_
                  exact zj_iret rfl (zdk ttX11_wordAt 54 rfl rfl) (Nat.le_refl _) (Nat.le_refl _) ⟨(x1 + 1), rfl, rfl, by omega, (fun W p9 => by have v9 := u90 W p9; have k9 := (tVi_k v9).1 (by omega); have e9 := v9.2.1; have n9 := v9.1; exact Or.inr ⟨by omega, tV_y (k := x2) (i := x94) W (by omega) e9 u_0 (by omega) (by omega) u104 (by omega) (by omega)⟩)⟩
            · refine zj_aload_n (zdk ttX11_wordAt 18 rfl rfl) rfl (by decide) ?_
              refine zj_getr (r := 8) (zdk ttX11_wordAt 19 rfl rfl) zf_RX11_31 rfl (k_M s0) (rfM_16 s0) ?_
              refine zj_iload (zdk ttX11_wordAt 20 rfl rfl) rfl ?_
              refine zj_iconst (zdk ttX11_wordAt 21 rfl rfl) ?_
              refine zj_iadd (zdk ttX11_wordAt 22 rfl rfl) ?_
              refine zj_iload (zdk ttX11_wordAt 23 rfl rfl) rfl ?_
              refine zj_iadd (zdk ttX11_wordAt 24 rfl rfl) ?_
              have b141 : ((x2 + 1) + x94) = 149 → (h.2 8 ((x2 + 1) + x94)) = 32 := fun q => by rw [q]; exact s0.2.2.2.2.2
              have b142 : -2147483648 ≤ (h.2 8 ((x2 + 1) + x94)) ∧ (h.2 8 ((x2 + 1) + x94)) ≤ 2147483647 := abM_8 s0 ((x2 + 1) + x94)
              refine zj_iald (v := (h.2 8 ((x2 + 1) + x94))) (zdk ttX11_wordAt 25 rfl rfl) (kaM_8 s0) (by decide) (by omega) rfl ?_
              refine zj_aload_n (zdk ttX11_wordAt 26 rfl rfl) rfl (by decide) ?_
              refine zj_getr (r := 7) (zdk ttX11_wordAt 27 rfl rfl) zf_RX11_28 rfl (k_M s0) (rfM_10 s0) ?_
              refine zj_iload_n (zdk ttX11_wordAt 28 rfl rfl) rfl ?_
              refine zj_iload (zdk ttX11_wordAt 29 rfl rfl) rfl ?_
              refine zj_iadd (zdk ttX11_wordAt 30 rfl rfl) ?_
              have b143 := u_0 (p1 + x94) (by omega) (by omega)
              have b144 : 0 ≤ (h.2 7 (p1 + x94)) ∧ (h.2 7 (p1 + x94)) ≤ 255 := abM_7 s0 (p1 + x94)
              refine zj_iald (v := (h.2 7 (p1 + x94))) (zdk ttX11_wordAt 31 rfl rfl) (kaM_7 s0) (by decide) (by omega) rfl ?_
              refine zj_icmp_ne (t := 61) (zdk ttX11_wordAt 32 rfl rfl) (by decide) (by omega) (by omega) (fun c145 => ?_) (fun c145 => ?_)
              · refine zj_iload_n (zdk ttX11_wordAt 38 rfl rfl) rfl ?_
                refine zj_iload (zdk ttX11_wordAt 39 rfl rfl) rfl ?_
                refine zj_iadd (zdk ttX11_wordAt 40 rfl rfl) ?_
                refine zj_iload_n (zdk ttX11_wordAt 41 rfl rfl) rfl ?_
                refine zj_icmp_ne (t := 88) (zdk ttX11_wordAt 42 rfl rfl) (by decide) (by omega) (by omega) (fun c146 => ?_) (fun c146 => ?_)
                · refine zj_iload (zdk ttX11_wordAt 55 rfl rfl) rfl ?_
                  refine zj_iconst (zdk ttX11_wordAt 56 rfl rfl) ?_
                  refine zj_iadd (zdk ttX11_wordAt 57 rfl rfl) ?_
                  refine zj_istore (L' := [some (.inr 0), some (.inl p1), some (.inl p2), some (.inl (x1 + 1)), some (.inl (x2 + 1)), some (.inl x94)]) (zdk ttX11_wordAt 58 rfl rfl) (by decide) rfl ?_
                  have lp151 : ∀ (n94 : Nat) (x147 : Int), (1 ≤ x147 ∧ x147 ≤ 149) → ((x1 + 1) ≤ x147 - 1) → ((150 - x147).toNat < n5) → (tWr h → p1 < p2 → tRp (x1 + 1) < x147 ∧ x147 ≤ tRp ((x1 + 1) + 1) ∧ ¬ tEq (h.2 7) p1 p2 (tWd.getD ((x1 + 1)).toNat [])) → (150 - x147).toNat < n94 → zJ shM l yX11_wordAt cX11_wordAt 6 (some .int) (rmL 1) 0 0 (q2_X11_wordAt h p1 p2) 0 0 94 [some (.inr 0), some (.inl p1), some (.inl p2), some (.inl (x1 + 1)), some (.inl x147), some (.inl x94)] [] h := by
                    intro n94
                    induction n94 with
                    | zero => intro x147 b152 u153 u154 u155 m156; exact absurd m156 (Nat.not_lt_zero _)
                    | succ n94 ih157 =>
                      intro x147 b152 u153 u154 u155 m156
                      refine zj_aload_n (zdk ttX11_wordAt 59 rfl rfl) rfl (by decide) ?_
                      refine zj_getr (r := 8) (zdk ttX11_wordAt 60 rfl rfl) zf_RX11_31 rfl (k_M s0) (rfM_16 s0) ?_
                      refine zj_iload (zdk ttX11_wordAt 61 rfl rfl) rfl ?_
                      have b158 : x147 = 149 → (h.2 8 x147) = 32 := fun q => by rw [q]; exact s0.2.2.2.2.2
                      have b159 : -2147483648 ≤ (h.2 8 x147) ∧ (h.2 8 x147) ≤ 2147483647 := abM_8 s0 x147
                      refine zj_iald (v := (h.2 8 x147)) (zdk ttX11_wordAt 62 rfl rfl) (kaM_8 s0) (by decide) (by omega) rfl ?_
                      refine zj_bipush (zdk ttX11_wordAt 63 rfl rfl) (by decide) ?_
                      refine zj_icmp_eq (t := 115) (zdk ttX11_wordAt 64 rfl rfl) (by decide) (by omega) (by decide) (fun c160 => ?_) (fun c160 => ?_)
                      · refine zj_goto (t := 5) (zdk ttX11_wordAt 70 rfl rfl) (by decide) ?_
                        refine zj_kill (k := 5) (L' := [some (.inr 0), some (.inl p1), some (.inl p2), some (.inl (x1 + 1)), some (.inl x147), none]) rfl ?_
                        exact ih92  (x1 + 1) x147 (by omega) (by omega) (by omega) (fun W p9 => by have v9 := u90 W p9; have k9 := (tVi_k v9).1 (by omega); have b9 := u155 W p9; have n9 := v9.1; exact tVi_s v9 k9 ((tV_b W (by omega) b9.1 b9.2.1).1 (by omega)) b9.2.2) (by omega)
                      · refine zj_iload (zdk ttX11_wordAt 65 rfl rfl) rfl ?_
                        refine zj_iconst (zdk ttX11_wordAt 66 rfl rfl) ?_
                        refine zj_iadd (zdk ttX11_wordAt 67 rfl rfl) ?_
                        refine zj_istore (L' := [some (.inr 0), some (.inl p1), some (.inl p2), some (.inl (x1 + 1)), some (.inl (x147 + 1)), some (.inl x94)]) (zdk ttX11_wordAt 68 rfl rfl) (by decide) rfl ?_
                        refine zj_goto (t := 94) (zdk ttX11_wordAt 69 rfl rfl) (by decide) ?_
                        exact ih157  (x147 + 1) (by omega) (by omega) (by omega) (fun W p9 => by have b9 := u155 W p9; have v9 := u90 W p9; have k9 := (tVi_k v9).1 (by omega); have n9 := v9.1; have c9 := (tV_b W (by omega) b9.1 b9.2.1).2 (by omega); exact ⟨by omega, by omega, b9.2.2⟩) (by omega)
                  exact lp151 _ (x2 + 1) (by omega) (by omega) (by omega) (fun W p9 => by have v9 := u90 W p9; have i9 := u105 p9; have k9 := (tVi_k v9).1 (by omega); have e9 := v9.2.1; have n9 := v9.1; have a9 := tR_a ((x1 + 1)).toNat (by omega); rw [tV_i (m := (x1 + 1)) (by omega)] at a9; exact ⟨by omega, by omega, tV_n (k := x2) (i := x94) W (by omega) e9 (by omega) (by omega)⟩) (Nat.lt_succ_self _)
                · refine zj_aload_n (zdk ttX11_wordAt 43 rfl rfl) rfl (by decide) ?_
                  refine zj_getr (r := 8) (zdk ttX11_wordAt 44 rfl rfl) zf_RX11_31 rfl (k_M s0) (rfM_16 s0) ?_
                  refine zj_iload (zdk ttX11_wordAt 45 rfl rfl) rfl ?_
                  refine zj_iconst (zdk ttX11_wordAt 46 rfl rfl) ?_
                  refine zj_iadd (zdk ttX11_wordAt 47 rfl rfl) ?_
                  refine zj_iload (zdk ttX11_wordAt 48 rfl rfl) rfl ?_
                  refine zj_iadd (zdk ttX11_wordAt 49 rfl rfl) ?_
                  refine zj_iald (v := (h.2 8 ((x2 + 1) + x94))) (zdk ttX11_wordAt 50 rfl rfl) (kaM_8 s0) (by decide) (by omega) rfl ?_
                  refine zj_bipush (zdk ttX11_wordAt 51 rfl rfl) (by decide) ?_
                  refine zj_icmp_ne (t := 88) (zdk ttX11_wordAt 52 rfl rfl) (by decide) (by omega) (by decide) (fun c161 => ?_) (fun c161 => ?_)
                  · refine zj_iload (zdk ttX11_wordAt 55 rfl rfl) rfl ?_
                    refine zj_iconst (zdk ttX11_wordAt 56 rfl rfl) ?_
                    refine zj_iadd (zdk ttX11_wordAt 57 rfl rfl) ?_
                    refine zj_istore (L' := [some (.inr 0), some (.inl p1), some (.inl p2), some (.inl (x1 + 1)), some (.inl (x2 + 1)), some (.inl x94)]) (zdk ttX11_wordAt 58 rfl rfl) (by decide) rfl ?_
                    have lp166 : ∀ (n94 : Nat) (x162 : Int), (1 ≤ x162 ∧ x162 ≤ 149) → ((x1 + 1) ≤ x162 - 1) → ((150 - x162).toNat < n5) → (tWr h → p1 < p2 → tRp (x1 + 1) < x162 ∧ x162 ≤ tRp ((x1 + 1) + 1) ∧ ¬ tEq (h.2 7) p1 p2 (tWd.getD ((x1 + 1)).toNat [])) → (150 - x162).toNat < n94 → zJ shM l yX11_wordAt cX11_wordAt 6 (some .int) (rmL 1) 0 0 (q2_X11_wordAt h p1 p2) 0 0 94 [some (.inr 0), some (.inl p1), some (.inl p2), some (.inl (x1 + 1)), some (.inl x162), some (.inl x94)] [] h := by
                      intro n94
                      induction n94 with
                      | zero => intro x162 b167 u168 u169 u170 m171; exact absurd m171 (Nat.not_lt_zero _)
                      | succ n94 ih172 =>
                        intro x162 b167 u168 u169 u170 m171
                        refine zj_aload_n (zdk ttX11_wordAt 59 rfl rfl) rfl (by decide) ?_
                        refine zj_getr (r := 8) (zdk ttX11_wordAt 60 rfl rfl) zf_RX11_31 rfl (k_M s0) (rfM_16 s0) ?_
                        refine zj_iload (zdk ttX11_wordAt 61 rfl rfl) rfl ?_
                        have b173 : x162 = 149 → (h.2 8 x162) = 32 := fun q => by rw [q]; exact s0.2.2.2.2.2
                        have b174 : -2147483648 ≤ (h.2 8 x162) ∧ (h.2 8 x162) ≤ 2147483647 := abM_8 s0 x162
                        refine zj_iald (v := (h.2 8 x162)) (zdk ttX11_wordAt 62 rfl rfl) (kaM_8 s0) (by decide) (by omega) rfl ?_
                        refine zj_bipush (zdk ttX11_wordAt 63 rfl rfl) (by decide) ?_
                        refine zj_icmp_eq (t := 115) (zdk ttX11_wordAt 64 rfl rfl) (by decide) (by omega) (by decide) (fun c175 => ?_) (fun c175 => ?_)
                        · refine zj_goto (t := 5) (zdk ttX11_wordAt 70 rfl rfl) (by decide) ?_
                          refine zj_kill (k := 5) (L' := [some (.inr 0), some (.inl p1), some (.inl p2), some (.inl (x1 + 1)), some (.inl x162), none]) rfl ?_
                          exact ih92  (x1 + 1) x162 (by omega) (by omega) (by omega) (fun W p9 => by have v9 := u90 W p9; have k9 := (tVi_k v9).1 (by omega); have b9 := u170 W p9; have n9 := v9.1; exact tVi_s v9 k9 ((tV_b W (by omega) b9.1 b9.2.1).1 (by omega)) b9.2.2) (by omega)
                        · refine zj_iload (zdk ttX11_wordAt 65 rfl rfl) rfl ?_
                          refine zj_iconst (zdk ttX11_wordAt 66 rfl rfl) ?_
                          refine zj_iadd (zdk ttX11_wordAt 67 rfl rfl) ?_
                          refine zj_istore (L' := [some (.inr 0), some (.inl p1), some (.inl p2), some (.inl (x1 + 1)), some (.inl (x162 + 1)), some (.inl x94)]) (zdk ttX11_wordAt 68 rfl rfl) (by decide) rfl ?_
                          refine zj_goto (t := 94) (zdk ttX11_wordAt 69 rfl rfl) (by decide) ?_
                          exact ih172  (x162 + 1) (by omega) (by omega) (by omega) (fun W p9 => by have b9 := u170 W p9; have v9 := u90 W p9; have k9 := (tVi_k v9).1 (by omega); have n9 := v9.1; have c9 := (tV_b W (by omega) b9.1 b9.2.1).2 (by omega); exact ⟨by omega, by omega, b9.2.2⟩) (by omega)
                    exact lp166 _ (x2 + 1) (by omega) (by omega) (by omega) (fun W p9 => by have v9 := u90 W p9; have i9 := u105 p9; have k9 := (tVi_k v9).1 (by omega); have e9 := v9.2.1; have n9 := v9.1; have a9 := tR_a ((x1 + 1)).toNat (by omega); rw [tV_i (m := (x1 + 1)) (by omega)] at a9; exact ⟨by omega, by omega, tV_n (k := x2) (i := x94) W (by omega) e9 (by omega) (by omega)⟩) (Nat.lt_succ_self _)
                  · refine zj_iload_n (zdk ttX11_wordAt 53 rfl rfl) rfl ?_
                    exact zj_iret rfl (zdk ttX11_wordAt 54 rfl rfl) (Nat.le_refl _) (Nat.le_refl _) ⟨(x1 + 1), rfl, rfl, by omega, (fun W p9 => by have v9 := u90 W p9; have k9 := (tVi_k v9).1 (by omega); have e9 := v9.2.1; have n9 := v9.1; exact Or.inr ⟨by omega, tV_y (k := x2) (i := x94) W (by omega) e9 u_0 (by omega) (by omega) u104 (by omega) (by omega)⟩)⟩
              · refine zj_iload (zdk ttX11_wordAt 33 rfl rfl) rfl ?_
                refine zj_iconst (zdk ttX11_wordAt 34 rfl rfl) ?_
                refine zj_iadd (zdk ttX11_wordAt 35 rfl rfl) ?_
                refine zj_istore (L' := [some (.inr 0), some (.inl p1), some (.inl p2), some (.inl (x1 + 1)), some (.inl x2), some (.inl (x94 + 1))]) (zdk ttX11_wordAt 36 rfl rfl) (by decide) rfl ?_
                refine zj_goto (t := 20) (zdk ttX11_wordAt 37 rfl rfl) (by decide) ?_
                exact ih107  (x94 + 1) (by omega) (by omega) (fun t a b => (Classical.em (t = x94)).elim (fun q => by rw [q]; omega) (fun q => u104 t a (by omega))) (by omega) (by omega)
        exact lp101 _ 0 (by omega) (by omega) (fun t a b => absurd b (by omega)) (by omega) (Nat.lt_succ_self _)
  exact lp86 _ (-1) 0 (by omega) (by omega) (by omega) (fun _ _ => tVi_0) (Nat.lt_succ_self _)

abbrev q2_X11_reads (h : zM) : Option zV → zM → Prop := zqv fun h' => okM h' ∧ zfr [12, 13, 14, 15] [] h h' ∧ (tok h') ∧ (h.2 0 12 ≤ h'.2 0 13) ∧ (tWr h → h.2 0 12 ≤ h.2 0 11 → tRds h h')
set_option maxRecDepth 100000 in
set_option maxHeartbeats 4000000 in
theorem s2_X11_reads (l : Launch) (h : zM) (s0 : okM h) : zT shM l yX11_reads cX11_reads 2 none (rmL 3) 0 0 [.inr 0] h (q2_X11_reads h) := by
  refine zT_of (by decide +kernel) (L0 := [some (.inr 0), none]) rfl (Nat.le_of_ble_eq_true rfl) ?_
  have lp28 : ∀ (n0 : Nat) (h1 : zM), okM h1 → zfr [12, 13, 14, 15] [] h h1 → (h.2 0 12 ≤ h1.2 0 12) → (∀ i, h.2 0 12 ≤ i → i < h1.2 0 12 → (h.2 7 i = 32 ∨ h.2 7 i = 10)) → (h.2 0 12 ≤ h.2 0 11 → h1.2 0 12 ≤ h.2 0 11) → (400 - (h1.2 0 12)).toNat < n0 → zJ shM l yX11_reads cX11_reads 2 none (rmL 3) 0 0 (q2_X11_reads h) 0 0 0 [some (.inr 0), none] [] h1 := by
    intro n0
    induction n0 with
    | zero => intro h1 s2 f3 u29 u30 u31 m32; exact absurd m32 (Nat.not_lt_zero _)
    | succ n0 ih33 =>
      intro h1 s2 f3 u29 u30 u31 m32
      refine zj_aload_n (zdk ttX11_reads 0 rfl rfl) rfl (by decide) ?_
      refine zj_aload_n (zdk ttX11_reads 1 rfl rfl) rfl (by decide) ?_
      have b34 : 0 ≤ (h1.2 0 12) ∧ (h1.2 0 12) ≤ 400 := fM_12 s2
      refine zj_geti (v := (h1.2 0 12)) (zdk ttX11_reads 2 rfl rfl) zf_RX11_156 rfl (k_M s2) rfl ?_
      have b35 : h1.2 0 11 = (h.2 0 11) := (zfr_f f3 rfl rfl)
      have b36 : 0 ≤ (h.2 0 11) ∧ (h.2 0 11) ≤ 400 := fM_11 s0
      have b37 : h1.2 7 (h1.2 0 12) = h.2 7 (h1.2 0 12) := (zfr_a f3 rfl (by decide))
      refine zj_callV (av := [.inl (h1.2 0 12)]) (st := []) (zdk ttX11_reads 3 rfl rfl) mb_X11_raw mv_RX11_159 (ci := 11) rfl rfl (k_M s2) rfl rfl (Nat.le_of_ble_eq_true rfl) (s_X11_raw l h1 (h1.2 0 12) s2 (by omega)) (rm_ok (by decide) (by decide)) (zq_i fun v39 h40 q38 => ?_)
      obtain ⟨rfl, b42, b41⟩ := q38
      have b43 : -1 ≤ v39 ∧ v39 ≤ 255 := by omega
      refine zj_bipush (zdk ttX11_reads 4 rfl rfl) (by decide) ?_
      refine zj_icmp_eq (t := 26) (zdk ttX11_reads 5 rfl rfl) (by decide) (by omega) (by decide) (fun c44 => ?_) (fun c44 => ?_)
      · refine zj_aload_n (zdk ttX11_reads 12 rfl rfl) rfl (by decide) ?_
        refine zj_aload_n (zdk ttX11_reads 13 rfl rfl) rfl (by decide) ?_
        refine zj_geti (v := (h1.2 0 12)) (zdk ttX11_reads 14 rfl rfl) zf_RX11_156 rfl (k_M s2) rfl ?_
        refine zj_iconst (zdk ttX11_reads 15 rfl rfl) ?_
        refine zj_iadd (zdk ttX11_reads 16 rfl rfl) ?_
        refine zj_puti (zdk ttX11_reads 17 rfl rfl) zf_RX11_156 rfl (k_M s2) (Or.inl zw_RX11_156) (k2 := 12) rfl (fun h45 e46 => ?_)
        refine zj_goto (t := 0) (zdk ttX11_reads 18 rfl rfl) (by decide) ?_
        have b47 : h45.2 0 12 = ((h1.2 0 12) + 1) := (zwr_v e46)
        have s48 : okM h45 := fwM_12 s2 e46 (by omega)
        have f49 : zfr [12, 13, 14, 15] [] h h45 := zfr_wf f3 e46 rfl
        exact ih33  h45 s48 f49 (by omega) (fun i a b => (Classical.em (i = (h1.2 0 12))).elim (fun q => by rw [q]; omega) (fun q => u30 i a (by omega))) (by omega) (by omega)
      · refine zj_aload_n (zdk ttX11_reads 6 rfl rfl) rfl (by decide) ?_
        refine zj_aload_n (zdk ttX11_reads 7 rfl rfl) rfl (by decide) ?_
        refine zj_geti (v := (h1.2 0 12)) (zdk ttX11_reads 8 rfl rfl) zf_RX11_156 rfl (k_M s2) rfl ?_
        have b50 : h1.2 0 11 = (h.2 0 11) := (zfr_f f3 rfl rfl)
        have b51 : h1.2 7 (h1.2 0 12) = h.2 7 (h1.2 0 12) := (zfr_a f3 rfl (by decide))
        refine zj_callV (av := [.inl (h1.2 0 12)]) (st := []) (zdk ttX11_reads 9 rfl rfl) mb_X11_raw mv_RX11_159 (ci := 11) rfl rfl (k_M s2) rfl rfl (Nat.le_of_ble_eq_true rfl) (s_X11_raw l h1 (h1.2 0 12) s2 (by omega)) (rm_ok (by decide) (by decide)) (zq_i fun v53 h54 q52 => ?_)
        obtain ⟨rfl, b56, b55⟩ := q52
        have b57 : -1 ≤ v53 ∧ v53 ≤ 255 := by omega
        refine zj_bipush (zdk ttX11_reads 10 rfl rfl) (by decide) ?_
        refine zj_icmp_ne (t := 39) (zdk ttX11_reads 11 rfl rfl) (by decide) (by omega) (by decide) (fun c58 => ?_) (fun c58 => ?_)
        · refine zj_aload_n (zdk ttX11_reads 19 rfl rfl) rfl (by decide) ?_
          refine zj_aload_n (zdk ttX11_reads 20 rfl rfl) rfl (by decide) ?_
          refine zj_geti (v := (h1.2 0 12)) (zdk ttX11_reads 21 rfl rfl) zf_RX11_156 rfl (k_M s2) rfl ?_
          refine zj_puti (zdk ttX11_reads 22 rfl rfl) zf_RX11_163 rfl (k_M s2) (Or.inl zw_RX11_163) (k2 := 13) rfl (fun h59 e60 => ?_)
          refine zj_aload_n (zdk ttX11_reads 23 rfl rfl) rfl (by decide) ?_
          refine zj_iconst (zdk ttX11_reads 24 rfl rfl) ?_
          have s61 : okM h59 := fwM_13 s2 e60 (by omega)
          refine zj_puti (zdk ttX11_reads 25 rfl rfl) zf_RX11_166 rfl (k_M s61) (Or.inl zw_RX11_166) (k2 := 14) rfl (fun h62 e63 => ?_)
          refine zj_aload_n (zdk ttX11_reads 26 rfl rfl) rfl (by decide) ?_
          refine zj_aload_n (zdk ttX11_reads 27 rfl rfl) rfl (by decide) ?_
          have s64 : okM h62 := fwM_14 s61 e63 (by omega)
          refine zj_geti (v := (h1.2 0 12)) (zdk ttX11_reads 28 rfl rfl) zf_RX11_156 rfl (k_M s64) ((zwr_r e63 (by first | decide | exact (absurd ·.1 (by decide)) | exact (absurd ·.2 (by decide)) | omega)).trans (zwr_r e60 (by first | decide | exact (absurd ·.1 (by decide)) | exact (absurd ·.2 (by decide)) | omega))) ?_
          have b65 : h62.2 0 11 = (h.2 0 11) := (((zwr_r e63 (by first | decide | exact (absurd ·.1 (by decide)) | exact (absurd ·.2 (by decide)) | omega)).trans (zwr_r e60 (by first | decide | exact (absurd ·.1 (by decide)) | exact (absurd ·.2 (by decide)) | omega))).trans (zfr_f f3 rfl rfl))
          have b66 : h62.2 7 (h1.2 0 12) = h.2 7 (h1.2 0 12) := (((zwr_r e63 (by first | decide | exact (absurd ·.1 (by decide)) | exact (absurd ·.2 (by decide)) | omega)).trans (zwr_r e60 (by first | decide | exact (absurd ·.1 (by decide)) | exact (absurd ·.2 (by decide)) | omega))).trans (zfr_a f3 rfl (by decide)))
          refine zj_callV (av := [.inl (h1.2 0 12)]) (st := []) (zdk ttX11_reads 29 rfl rfl) mb_X11_raw mv_RX11_159 (ci := 11) rfl rfl (k_M s64) rfl rfl (Nat.le_of_ble_eq_true rfl) (s_X11_raw l h62 (h1.2 0 12) s64 (by omega)) (rm_ok (by decide) (by decide)) (zq_i fun v68 h69 q67 => ?_)
          obtain ⟨rfl, b71, b70⟩ := q67
          have b72 : -1 ≤ v68 ∧ v68 ≤ 255 := by omega
          refine zj_istore_n (L' := [some (.inr 0), some (.inl v68)]) (zdk ttX11_reads 30 rfl rfl) (by decide) rfl ?_
          refine zj_iload_n (zdk ttX11_reads 31 rfl rfl) rfl ?_
          refine zj_iconst (zdk ttX11_reads 32 rfl rfl) ?_
          refine zj_icmp_ne (t := 72) (zdk ttX11_reads 33 rfl rfl) (by decide) (by omega) (by decide) (fun c73 => ?_) (fun c73 => ?_)
          · refine zj_aload_n (zdk ttX11_reads 38 rfl rfl) rfl (by decide) ?_
            refine zj_aload_n (zdk ttX11_reads 39 rfl rfl) rfl (by decide) ?_
            refine zj_geti (v := (h1.2 0 12)) (zdk ttX11_reads 40 rfl rfl) zf_RX11_156 rfl (k_M s64) ((zwr_r e63 (by first | decide | exact (absurd ·.1 (by decide)) | exact (absurd ·.2 (by decide)) | omega)).trans (zwr_r e60 (by first | decide | exact (absurd ·.1 (by decide)) | exact (absurd ·.2 (by decide)) | omega))) ?_
            refine zj_iconst (zdk ttX11_reads 41 rfl rfl) ?_
            refine zj_iadd (zdk ttX11_reads 42 rfl rfl) ?_
            refine zj_puti (zdk ttX11_reads 43 rfl rfl) zf_RX11_156 rfl (k_M s64) (Or.inl zw_RX11_156) (k2 := 12) rfl (fun h74 e75 => ?_)
            refine zj_aload_n (zdk ttX11_reads 44 rfl rfl) rfl (by decide) ?_
            refine zj_iload_n (zdk ttX11_reads 45 rfl rfl) rfl ?_
            have s76 : okM h74 := fwM_12 s64 e75 (by omega)
            refine zj_puti (zdk ttX11_reads 46 rfl rfl) zf_RX11_169 rfl (k_M s76) (Or.inl zw_RX11_169) (k2 := 15) rfl (fun h77 e78 => ?_)
            refine zj_aload_n (zdk ttX11_reads 47 rfl rfl) rfl (by decide) ?_
            refine zj_iload_n (zdk ttX11_reads 48 rfl rfl) rfl ?_
            have s79 : okM h77 := fwM_15 s76 e78 (by omega)
            refine zj_callV (av := [.inl v68]) (st := []) (zdk ttX11_reads 49 rfl rfl) mb_X11_isLetter mv_RX11_172 (ci := 11) rfl rfl (k_M s79) rfl rfl (Nat.le_of_ble_eq_true rfl) (s_X11_isLetter l h77 v68 s79 (by omega)) (rm_ok (by decide) (by decide)) (zq_i fun v81 h82 q80 => ?_)
            obtain ⟨rfl, ⟨rfl, b83⟩ | ⟨rfl, b83⟩⟩ := q80
            · refine zj_if_eq (t := 155) (zdk ttX11_reads 50 rfl rfl) (by decide) (by decide) (fun c84 => ?_) (fun c84 => ?_)
              · refine zj_aload_n (zdk ttX11_reads 81 rfl rfl) rfl (by decide) ?_
                refine zj_iload_n (zdk ttX11_reads 82 rfl rfl) rfl ?_
                refine zj_callV (av := [.inl v68]) (st := []) (zdk ttX11_reads 83 rfl rfl) mb_X11_isDigit mv_RX11_179 (ci := 11) rfl rfl (k_M s79) rfl rfl (Nat.le_of_ble_eq_true rfl) (s_X11_isDigit l h77 v68 s79 (by omega)) (rm_ok (by decide) (by decide)) (zq_i fun v86 h87 q85 => ?_)
                obtain ⟨rfl, ⟨rfl, b88⟩ | ⟨rfl, b88⟩⟩ := q85
                · refine zj_if_eq (t := 260) (zdk ttX11_reads 84 rfl rfl) (by decide) (by decide) (fun c89 => ?_) (fun c89 => ?_)
                  · refine zj_aload_n (zdk ttX11_reads 135 rfl rfl) rfl (by decide) ?_
                    refine zj_iload_n (zdk ttX11_reads 136 rfl rfl) rfl ?_
                    refine zj_callV (av := [.inl v68]) (st := []) (zdk ttX11_reads 137 rfl rfl) mb_X11_isMarkSign mv_RX11_182 (ci := 11) rfl rfl (k_M s79) rfl rfl (Nat.le_of_ble_eq_true rfl) (s_X11_isMarkSign l h77 v68 s79 (by omega)) (rm_ok (by decide) (by decide)) (zq_i fun v91 h92 q90 => ?_)
                    obtain ⟨rfl, ⟨rfl, b93⟩ | ⟨rfl, b93⟩⟩ := q90
                    · refine zj_if_eq (t := 273) (zdk ttX11_reads 138 rfl rfl) (by decide) (by decide) (fun c94 => ?_) (fun c94 => ?_)
                      · exact absurd c94 (by omega)
                      · refine zj_aload_n (zdk ttX11_reads 139 rfl rfl) rfl (by decide) ?_
                        refine zj_iconst (zdk ttX11_reads 140 rfl rfl) ?_
                        refine zj_puti (zdk ttX11_reads 141 rfl rfl) zf_RX11_166 rfl (k_M s79) (Or.inl zw_RX11_166) (k2 := 14) rfl (fun h95 e96 => ?_)
                        have s97 : okM h95 := fwM_14 s79 e96 (by omega)
                        have b98 : h95.2 0 12 = ((h1.2 0 12) + 1) := (((zwr_r e96 (by first | decide | exact (absurd ·.1 (by decide)) | exact (absurd ·.2 (by decide)) | omega)).trans (zwr_r e78 (by first | decide | exact (absurd ·.1 (by decide)) | exact (absurd ·.2 (by decide)) | omega))).trans (zwr_v e75))
                        have b99 : h95.2 0 13 = (h1.2 0 12) := (((((zwr_r e96 (by first | decide | exact (absurd ·.1 (by decide)) | exact (absurd ·.2 (by decide)) | omega)).trans (zwr_r e78 (by first | decide | exact (absurd ·.1 (by decide)) | exact (absurd ·.2 (by decide)) | omega))).trans (zwr_r e75 (by first | decide | exact (absurd ·.1 (by decide)) | exact (absurd ·.2 (by decide)) | omega))).trans (zwr_r e63 (by first | decide | exact (absurd ·.1 (by decide)) | exact (absurd ·.2 (by decide)) | omega))).trans (zwr_v e60))
                        have b100 : h95.2 0 14 = 4 := (zwr_v e96)
                        have f105 : zfr [12, 13, 14, 15] [] h h59 := zfr_wf f3 e60 rfl
                        have f104 : zfr [12, 13, 14, 15] [] h h62 := zfr_wf f105 e63 rfl
                        have f103 : zfr [12, 13, 14, 15] [] h h74 := zfr_wf f104 e75 rfl
                        have f102 : zfr [12, 13, 14, 15] [] h h77 := zfr_wf f103 e78 rfl
                        have f101 : zfr [12, 13, 14, 15] [] h h95 := zfr_wf f102 e96 rfl
                        have b106 : h95.2 0 12 = ((h1.2 0 12) + 1) := (((zwr_r e96 (by first | decide | exact (absurd ·.1 (by decide)) | exact (absurd ·.2 (by decide)) | omega)).trans (zwr_r e78 (by first | decide | exact (absurd ·.1 (by decide)) | exact (absurd ·.2 (by decide)) | omega))).trans (zwr_v e75))
                        have b107 : h95.2 0 13 = (h1.2 0 12) := (((((zwr_r e96 (by first | decide | exact (absurd ·.1 (by decide)) | exact (absurd ·.2 (by decide)) | omega)).trans (zwr_r e78 (by first | decide | exact (absurd ·.1 (by decide)) | exact (absurd ·.2 (by decide)) | omega))).trans (zwr_r e75 (by first | decide | exact (absurd ·.1 (by decide)) | exact (absurd ·.2 (by decide)) | omega))).trans (zwr_r e63 (by first | decide | exact (absurd ·.1 (by decide)) | exact (absurd ·.2 (by decide)) | omega))).trans (zwr_v e60))
                        have b108 : h95.2 0 14 = 4 := (zwr_v e96)
                        have b109 : h95.2 0 15 = v68 := ((zwr_r e96 (by first | decide | exact (absurd ·.1 (by decide)) | exact (absurd ·.2 (by decide)) | omega)).trans (zwr_v e78))
                        exact zj_vret rfl (zdk ttX11_reads 142 rfl rfl) (Nat.le_refl _) (Nat.le_refl _) ⟨rfl, s97, f101, by unfold tok; omega, by omega, (fun W l9 => ⟨(h1.2 0 12), ⟨by omega, by omega, u30, fun z9 => by omega⟩, by omega, Or.inr ⟨by omega, by omega, Or.inr (Or.inr ⟨by omega, by omega, by omega⟩), by first | exact Or.inr (Or.inr (Or.inr (Or.inl ⟨by omega, by omega, by omega, by omega, by omega⟩))) | exact Or.inr (Or.inr (Or.inr (Or.inr ⟨by omega, by omega, by omega, by omega⟩)))⟩⟩)⟩
                    · refine zj_if_eq (t := 273) (zdk ttX11_reads 138 rfl rfl) (by decide) (by decide) (fun c110 => ?_) (fun c110 => ?_)
                      · have b111 : h77.2 0 12 = ((h1.2 0 12) + 1) := ((zwr_r e78 (by first | decide | exact (absurd ·.1 (by decide)) | exact (absurd ·.2 (by decide)) | omega)).trans (zwr_v e75))
                        have b112 : h77.2 0 13 = (h1.2 0 12) := ((((zwr_r e78 (by first | decide | exact (absurd ·.1 (by decide)) | exact (absurd ·.2 (by decide)) | omega)).trans (zwr_r e75 (by first | decide | exact (absurd ·.1 (by decide)) | exact (absurd ·.2 (by decide)) | omega))).trans (zwr_r e63 (by first | decide | exact (absurd ·.1 (by decide)) | exact (absurd ·.2 (by decide)) | omega))).trans (zwr_v e60))
                        have b113 : h77.2 0 14 = 1 := (((zwr_r e78 (by first | decide | exact (absurd ·.1 (by decide)) | exact (absurd ·.2 (by decide)) | omega)).trans (zwr_r e75 (by first | decide | exact (absurd ·.1 (by decide)) | exact (absurd ·.2 (by decide)) | omega))).trans (zwr_v e63))
                        have f117 : zfr [12, 13, 14, 15] [] h h59 := zfr_wf f3 e60 rfl
                        have f116 : zfr [12, 13, 14, 15] [] h h62 := zfr_wf f117 e63 rfl
                        have f115 : zfr [12, 13, 14, 15] [] h h74 := zfr_wf f116 e75 rfl
                        have f114 : zfr [12, 13, 14, 15] [] h h77 := zfr_wf f115 e78 rfl
                        have b118 : h77.2 0 12 = ((h1.2 0 12) + 1) := ((zwr_r e78 (by first | decide | exact (absurd ·.1 (by decide)) | exact (absurd ·.2 (by decide)) | omega)).trans (zwr_v e75))
                        have b119 : h77.2 0 13 = (h1.2 0 12) := ((((zwr_r e78 (by first | decide | exact (absurd ·.1 (by decide)) | exact (absurd ·.2 (by decide)) | omega)).trans (zwr_r e75 (by first | decide | exact (absurd ·.1 (by decide)) | exact (absurd ·.2 (by decide)) | omega))).trans (zwr_r e63 (by first | decide | exact (absurd ·.1 (by decide)) | exact (absurd ·.2 (by decide)) | omega))).trans (zwr_v e60))
                        have b120 : h77.2 0 14 = 1 := (((zwr_r e78 (by first | decide | exact (absurd ·.1 (by decide)) | exact (absurd ·.2 (by decide)) | omega)).trans (zwr_r e75 (by first | decide | exact (absurd ·.1 (by decide)) | exact (absurd ·.2 (by decide)) | omega))).trans (zwr_v e63))
                        have b121 : h77.2 0 15 = v68 := (zwr_v e78)
                        exact zj_vret rfl (zdk ttX11_reads 142 rfl rfl) (Nat.le_refl _) (Nat.le_refl _) ⟨rfl, s79, f114, by unfold tok; omega, by omega, (fun W l9 => ⟨(h1.2 0 12), ⟨by omega, by omega, u30, fun z9 => by omega⟩, by omega, Or.inr ⟨by omega, by omega, Or.inr (Or.inr ⟨by omega, by omega, by omega⟩), by first | exact Or.inr (Or.inr (Or.inr (Or.inl ⟨by omega, by omega, by omega, by omega, by omega⟩))) | exact Or.inr (Or.inr (Or.inr (Or.inr ⟨by omega, by omega, by omega, by omega⟩)))⟩⟩)⟩
                      · exact absurd c110 (by omega)
                  · exact absurd c89 (by omega)
                · refine zj_if_eq (t := 260) (zdk ttX11_reads 84 rfl rfl) (by decide) (by decide) (fun c122 => ?_) (fun c122 => ?_)
                  · exact absurd c122 (by omega)
                  · refine zj_aload_n (zdk ttX11_reads 85 rfl rfl) rfl (by decide) ?_
                    refine zj_iload_n (zdk ttX11_reads 86 rfl rfl) rfl ?_
                    refine zj_bipush (zdk ttX11_reads 87 rfl rfl) (by decide) ?_
                    refine zj_isub (zdk ttX11_reads 88 rfl rfl) ?_
                    refine zj_puti (zdk ttX11_reads 89 rfl rfl) zf_RX11_169 rfl (k_M s79) (Or.inl zw_RX11_169) (k2 := 15) rfl (fun h123 e124 => ?_)
                    have lp163 : ∀ (n171 : Nat) (h125 : zM), okM h125 → zfr [12, 13, 14, 15] [] h h125 → (h.2 0 12 ≤ h125.2 0 13) → (h125.2 0 13 + 1 ≤ h125.2 0 12) → (∀ i, h1.2 0 12 + 1 ≤ i → i < h125.2 0 12 → (48 ≤ h.2 7 i ∧ h.2 7 i ≤ 57)) → (h.2 0 12 ≤ h.2 0 11 → h125.2 0 12 ≤ h.2 0 11) → (h125.2 0 13 = h1.2 0 12) → (h125.2 0 12 - h1.2 0 12 ≤ 4 → h125.2 0 15 = tvl (h.2 7) (h1.2 0 12) (h125.2 0 12 - h1.2 0 12).toNat) → (0 ≤ h125.2 0 15 ∧ h125.2 0 15 ≤ 100000) → (h125.2 0 14 = 1) → (400 - (h125.2 0 12)).toNat < n171 → zJ shM l yX11_reads cX11_reads 2 none (rmL 3) 0 0 (q2_X11_reads h) 0 0 171 [some (.inr 0), some (.inl v68)] [] h125 := by
                      intro n171
                      induction n171 with
                      | zero => intro h125 s126 f127 u164 u165 u166 u167 u168 u169 u170 u171 m172; exact absurd m172 (Nat.not_lt_zero _)
                      | succ n171 ih173 =>
                        intro h125 s126 f127 u164 u165 u166 u167 u168 u169 u170 u171 m172
                        refine zj_aload_n (zdk ttX11_reads 90 rfl rfl) rfl (by decide) ?_
                        refine zj_aload_n (zdk ttX11_reads 91 rfl rfl) rfl (by decide) ?_
                        refine zj_aload_n (zdk ttX11_reads 92 rfl rfl) rfl (by decide) ?_
                        have b174 : 0 ≤ (h125.2 0 12) ∧ (h125.2 0 12) ≤ 400 := fM_12 s126
                        refine zj_geti (v := (h125.2 0 12)) (zdk ttX11_reads 93 rfl rfl) zf_RX11_156 rfl (k_M s126) rfl ?_
                        have b175 : h125.2 0 11 = (h.2 0 11) := (zfr_f f127 rfl rfl)
                        have b176 : h125.2 7 (h125.2 0 12) = h.2 7 (h125.2 0 12) := (zfr_a f127 rfl (by decide))
                        refine zj_callV (av := [.inl (h125.2 0 12)]) (st := [.inr 0]) (zdk ttX11_reads 94 rfl rfl) mb_X11_raw mv_RX11_159 (ci := 11) rfl rfl (k_M s126) rfl rfl (Nat.le_of_ble_eq_true rfl) (s_X11_raw l h125 (h125.2 0 12) s126 (by omega)) (rm_ok (by decide) (by decide)) (zq_i fun v178 h179 q177 => ?_)
                        obtain ⟨rfl, b181, b180⟩ := q177
                        have b182 : -1 ≤ v178 ∧ v178 ≤ 255 := by omega
                        refine zj_callV (av := [.inl v178]) (st := []) (zdk ttX11_reads 95 rfl rfl) mb_X11_isDigit mv_RX11_179 (ci := 11) rfl rfl (k_M s126) rfl rfl (Nat.le_of_ble_eq_true rfl) (s_X11_isDigit l h125 v178 s126 (by omega)) (rm_ok (by decide) (by decide)) (zq_i fun v184 h185 q183 => ?_)
                        obtain ⟨rfl, ⟨rfl, b186⟩ | ⟨rfl, b186⟩⟩ := q183
                        · refine zj_if_eq (t := 239) (zdk ttX11_reads 96 rfl rfl) (by decide) (by decide) (fun c187 => ?_) (fun c187 => ?_)
                          · refine zj_aload_n (zdk ttX11_reads 124 rfl rfl) rfl (by decide) ?_
                            refine zj_geti (v := (h125.2 0 12)) (zdk ttX11_reads 125 rfl rfl) zf_RX11_156 rfl (k_M s126) rfl ?_
                            refine zj_aload_n (zdk ttX11_reads 126 rfl rfl) rfl (by decide) ?_
                            have b188 : 0 ≤ (h125.2 0 13) ∧ (h125.2 0 13) ≤ 400 := fM_13 s126
                            refine zj_geti (v := (h125.2 0 13)) (zdk ttX11_reads 127 rfl rfl) zf_RX11_163 rfl (k_M s126) rfl ?_
                            refine zj_isub (zdk ttX11_reads 128 rfl rfl) ?_
                            refine zj_iconst (zdk ttX11_reads 129 rfl rfl) ?_
                            refine zj_icmp_ge (t := 273) (zdk ttX11_reads 130 rfl rfl) (by decide) (by omega) (by decide) (fun c189 => ?_) (fun c189 => ?_)
                            · have b190 : 0 ≤ (h125.2 0 14) ∧ (h125.2 0 14) ≤ 4 := fM_14 s126
                              have b191 : -2147483648 ≤ (h125.2 0 15) ∧ (h125.2 0 15) ≤ 2147483647 := fM_15 s126
                              exact zj_vret rfl (zdk ttX11_reads 142 rfl rfl) (Nat.le_refl _) (Nat.le_refl _) ⟨rfl, s126, f127, by unfold tok; omega, by omega, (fun W l9 => ⟨(h1.2 0 12), ⟨by omega, by omega, u30, fun z9 => by omega⟩, by omega, by have v9 := u169; rw [show h125.2 0 12 = (h125.2 0 12) by omega]; exact Or.inr ⟨by omega, by omega, Or.inr (Or.inl ⟨by omega, ⟨by omega, by omega, u166, fun z9 => by omega⟩⟩), by first | exact Or.inr (Or.inl ⟨by omega, by omega, by omega, by have v8 := v9 (by omega); omega⟩) | exact Or.inr (Or.inr (Or.inl ⟨by omega, by omega, by omega⟩))⟩⟩)⟩
                            · refine zj_aload_n (zdk ttX11_reads 131 rfl rfl) rfl (by decide) ?_
                              refine zj_iconst (zdk ttX11_reads 132 rfl rfl) ?_
                              refine zj_puti (zdk ttX11_reads 133 rfl rfl) zf_RX11_166 rfl (k_M s126) (Or.inl zw_RX11_166) (k2 := 14) rfl (fun h192 e193 => ?_)
                              refine zj_goto (t := 273) (zdk ttX11_reads 134 rfl rfl) (by decide) ?_
                              have s194 : okM h192 := fwM_14 s126 e193 (by omega)
                              have b195 : h192.2 0 12 = (h125.2 0 12) := (zwr_r e193 (by first | decide | exact (absurd ·.1 (by decide)) | exact (absurd ·.2 (by decide)) | omega))
                              have b196 : h192.2 0 13 = (h125.2 0 13) := (zwr_r e193 (by first | decide | exact (absurd ·.1 (by decide)) | exact (absurd ·.2 (by decide)) | omega))
                              have b197 : h192.2 0 14 = 3 := (zwr_v e193)
                              have f198 : zfr [12, 13, 14, 15] [] h h192 := zfr_wf f127 e193 rfl
                              have b199 : h192.2 0 12 = (h125.2 0 12) := (zwr_r e193 (by first | decide | exact (absurd ·.1 (by decide)) | exact (absurd ·.2 (by decide)) | omega))
                              have b200 : h192.2 0 13 = (h125.2 0 13) := (zwr_r e193 (by first | decide | exact (absurd ·.1 (by decide)) | exact (absurd ·.2 (by decide)) | omega))
                              have b201 : h192.2 0 14 = 3 := (zwr_v e193)
                              have b202 : h192.2 0 15 = (h125.2 0 15) := (zwr_r e193 (by first | decide | exact (absurd ·.1 (by decide)) | exact (absurd ·.2 (by decide)) | omega))
                              have b203 : -2147483648 ≤ (h125.2 0 15) ∧ (h125.2 0 15) ≤ 2147483647 := fM_15 s126
                              exact zj_vret rfl (zdk ttX11_reads 142 rfl rfl) (Nat.le_refl _) (Nat.le_refl _) ⟨rfl, s194, f198, by unfold tok; omega, by omega, (fun W l9 => ⟨(h1.2 0 12), ⟨by omega, by omega, u30, fun z9 => by omega⟩, by omega, by have v9 := u169; rw [show h192.2 0 12 = (h125.2 0 12) by omega]; exact Or.inr ⟨by omega, by omega, Or.inr (Or.inl ⟨by omega, ⟨by omega, by omega, u166, fun z9 => by omega⟩⟩), by first | exact Or.inr (Or.inl ⟨by omega, by omega, by omega, by have v8 := v9 (by omega); omega⟩) | exact Or.inr (Or.inr (Or.inl ⟨by omega, by omega, by omega⟩))⟩⟩)⟩
                          · exact absurd c187 (by omega)
                        · refine zj_if_eq (t := 239) (zdk ttX11_reads 96 rfl rfl) (by decide) (by decide) (fun c204 => ?_) (fun c204 => ?_)
                          · exact absurd c204 (by omega)
                          · refine zj_aload_n (zdk ttX11_reads 97 rfl rfl) rfl (by decide) ?_
                            refine zj_aload_n (zdk ttX11_reads 98 rfl rfl) rfl (by decide) ?_
                            have b205 : -2147483648 ≤ (h125.2 0 15) ∧ (h125.2 0 15) ≤ 2147483647 := fM_15 s126
                            refine zj_geti (v := (h125.2 0 15)) (zdk ttX11_reads 99 rfl rfl) zf_RX11_169 rfl (k_M s126) rfl ?_
                            refine zj_sipush (zdk ttX11_reads 100 rfl rfl) (by decide) ?_
                            refine zj_icmp_ge (t := 219) (zdk ttX11_reads 101 rfl rfl) (by decide) (by omega) (by decide) (fun c206 => ?_) (fun c206 => ?_)
                            · refine zj_aload_n (zdk ttX11_reads 114 rfl rfl) rfl (by decide) ?_
                              refine zj_geti (v := (h125.2 0 15)) (zdk ttX11_reads 115 rfl rfl) zf_RX11_169 rfl (k_M s126) rfl ?_
                              refine zj_puti (zdk ttX11_reads 116 rfl rfl) zf_RX11_169 rfl (k_M s126) (Or.inl zw_RX11_169) (k2 := 15) rfl (fun h207 e208 => ?_)
                              refine zj_aload_n (zdk ttX11_reads 117 rfl rfl) rfl (by decide) ?_
                              refine zj_aload_n (zdk ttX11_reads 118 rfl rfl) rfl (by decide) ?_
                              have s209 : okM h207 := fwM_15 s126 e208 (by omega)
                              refine zj_geti (v := (h125.2 0 12)) (zdk ttX11_reads 119 rfl rfl) zf_RX11_156 rfl (k_M s209) (zwr_r e208 (by first | decide | exact (absurd ·.1 (by decide)) | exact (absurd ·.2 (by decide)) | omega)) ?_
                              refine zj_iconst (zdk ttX11_reads 120 rfl rfl) ?_
                              refine zj_iadd (zdk ttX11_reads 121 rfl rfl) ?_
                              refine zj_puti (zdk ttX11_reads 122 rfl rfl) zf_RX11_156 rfl (k_M s209) (Or.inl zw_RX11_156) (k2 := 12) rfl (fun h210 e211 => ?_)
                              refine zj_goto (t := 171) (zdk ttX11_reads 123 rfl rfl) (by decide) ?_
                              have b212 : h210.2 0 12 = ((h125.2 0 12) + 1) := (zwr_v e211)
                              have b213 : h210.2 0 13 = (h125.2 0 13) := ((zwr_r e211 (by first | decide | exact (absurd ·.1 (by decide)) | exact (absurd ·.2 (by decide)) | omega)).trans (zwr_r e208 (by first | decide | exact (absurd ·.1 (by decide)) | exact (absurd ·.2 (by decide)) | omega)))
                              have b214 : 0 ≤ (h125.2 0 13) ∧ (h125.2 0 13) ≤ 400 := fM_13 s126
                              have b215 : h210.2 0 15 = (h125.2 0 15) := ((zwr_r e211 (by first | decide | exact (absurd ·.1 (by decide)) | exact (absurd ·.2 (by decide)) | omega)).trans (zwr_v e208))
                              have b216 : h210.2 0 14 = (h125.2 0 14) := ((zwr_r e211 (by first | decide | exact (absurd ·.1 (by decide)) | exact (absurd ·.2 (by decide)) | omega)).trans (zwr_r e208 (by first | decide | exact (absurd ·.1 (by decide)) | exact (absurd ·.2 (by decide)) | omega)))
                              have b217 : 0 ≤ (h125.2 0 14) ∧ (h125.2 0 14) ≤ 4 := fM_14 s126
                              have s218 : okM h210 := fwM_12 s209 e211 (by omega)
                              have f220 : zfr [12, 13, 14, 15] [] h h207 := zfr_wf f127 e208 rfl
                              have f219 : zfr [12, 13, 14, 15] [] h h210 := zfr_wf f220 e211 rfl
                              have b221 := tvl_s (h.2 7) (q := (h1.2 0 12)) (x := (h125.2 0 12)) (by omega)
                              have b221t := tvl_b (B := h.2 7) (q := (h1.2 0 12)) ((h125.2 0 12) - (h1.2 0 12)).toNat (fun i a b => (Classical.em (i = (h1.2 0 12))).elim (fun e => by rw [e]; omega) (fun e => u166 i (by omega) (by omega)))
                              exact ih173  h210 s218 f219 (by omega) (by omega) (fun i a b => (Classical.em (i = (h125.2 0 12))).elim (fun q => by rw [q]; omega) (fun q => u166 i a (by omega))) (by omega) (by omega) (fun z9 => by have y9 := u169 (by omega); have p9 : (10 : Nat) ^ ((h125.2 0 12) - (h1.2 0 12)).toNat ≤ 10 ^ 3 := Nat.pow_le_pow_right (by decide) (by omega); have p8 : (10 : Nat) ^ 3 = 1000 := (by decide); rw [show h210.2 0 12 = (h125.2 0 12) + 1 by omega, b221]; omega) (by omega) (by omega) (by omega)
                            · refine zj_bipush (zdk ttX11_reads 102 rfl rfl) (by decide) ?_
                              refine zj_aload_n (zdk ttX11_reads 103 rfl rfl) rfl (by decide) ?_
                              refine zj_geti (v := (h125.2 0 15)) (zdk ttX11_reads 104 rfl rfl) zf_RX11_169 rfl (k_M s126) rfl ?_
                              refine zj_imul (zdk ttX11_reads 105 rfl rfl) ?_
                              refine zj_aload_n (zdk ttX11_reads 106 rfl rfl) rfl (by decide) ?_
                              refine zj_aload_n (zdk ttX11_reads 107 rfl rfl) rfl (by decide) ?_
                              refine zj_geti (v := (h125.2 0 12)) (zdk ttX11_reads 108 rfl rfl) zf_RX11_156 rfl (k_M s126) rfl ?_
                              have b222 : h125.2 0 11 = (h.2 0 11) := (zfr_f f127 rfl rfl)
                              have b223 : h125.2 7 (h125.2 0 12) = h.2 7 (h125.2 0 12) := (zfr_a f127 rfl (by decide))
                              refine zj_callV (av := [.inl (h125.2 0 12)]) (st := [.inl (10 * (h125.2 0 15)), .inr 0]) (zdk ttX11_reads 109 rfl rfl) mb_X11_raw mv_RX11_159 (ci := 11) rfl rfl (k_M s126) rfl rfl (Nat.le_of_ble_eq_true rfl) (s_X11_raw l h125 (h125.2 0 12) s126 (by omega)) (rm_ok (by decide) (by decide)) (zq_i fun v225 h226 q224 => ?_)
                              obtain ⟨rfl, b228, b227⟩ := q224
                              have b229 : -1 ≤ v225 ∧ v225 ≤ 255 := by omega
                              refine zj_iadd (zdk ttX11_reads 110 rfl rfl) ?_
                              refine zj_bipush (zdk ttX11_reads 111 rfl rfl) (by decide) ?_
                              refine zj_isub (zdk ttX11_reads 112 rfl rfl) ?_
                              refine zj_goto (t := 223) (zdk ttX11_reads 113 rfl rfl) (by decide) ?_
                              refine zj_puti (zdk ttX11_reads 116 rfl rfl) zf_RX11_169 rfl (k_M s126) (Or.inl zw_RX11_169) (k2 := 15) rfl (fun h230 e231 => ?_)
                              refine zj_aload_n (zdk ttX11_reads 117 rfl rfl) rfl (by decide) ?_
                              refine zj_aload_n (zdk ttX11_reads 118 rfl rfl) rfl (by decide) ?_
                              have s232 : okM h230 := fwM_15 s126 e231 (by omega)
                              refine zj_geti (v := (h125.2 0 12)) (zdk ttX11_reads 119 rfl rfl) zf_RX11_156 rfl (k_M s232) (zwr_r e231 (by first | decide | exact (absurd ·.1 (by decide)) | exact (absurd ·.2 (by decide)) | omega)) ?_
                              refine zj_iconst (zdk ttX11_reads 120 rfl rfl) ?_
                              refine zj_iadd (zdk ttX11_reads 121 rfl rfl) ?_
                              refine zj_puti (zdk ttX11_reads 122 rfl rfl) zf_RX11_156 rfl (k_M s232) (Or.inl zw_RX11_156) (k2 := 12) rfl (fun h233 e234 => ?_)
                              refine zj_goto (t := 171) (zdk ttX11_reads 123 rfl rfl) (by decide) ?_
                              have b235 : h233.2 0 12 = ((h125.2 0 12) + 1) := (zwr_v e234)
                              have b236 : h233.2 0 13 = (h125.2 0 13) := ((zwr_r e234 (by first | decide | exact (absurd ·.1 (by decide)) | exact (absurd ·.2 (by decide)) | omega)).trans (zwr_r e231 (by first | decide | exact (absurd ·.1 (by decide)) | exact (absurd ·.2 (by decide)) | omega)))
                              have b237 : 0 ≤ (h125.2 0 13) ∧ (h125.2 0 13) ≤ 400 := fM_13 s126
                              have b238 : h233.2 0 15 = (((10 * (h125.2 0 15)) + v225) - 48) := ((zwr_r e234 (by first | decide | exact (absurd ·.1 (by decide)) | exact (absurd ·.2 (by decide)) | omega)).trans (zwr_v e231))
                              have b239 : h233.2 0 14 = (h125.2 0 14) := ((zwr_r e234 (by first | decide | exact (absurd ·.1 (by decide)) | exact (absurd ·.2 (by decide)) | omega)).trans (zwr_r e231 (by first | decide | exact (absurd ·.1 (by decide)) | exact (absurd ·.2 (by decide)) | omega)))
                              have b240 : 0 ≤ (h125.2 0 14) ∧ (h125.2 0 14) ≤ 4 := fM_14 s126
                              have s241 : okM h233 := fwM_12 s232 e234 (by omega)
                              have f243 : zfr [12, 13, 14, 15] [] h h230 := zfr_wf f127 e231 rfl
                              have f242 : zfr [12, 13, 14, 15] [] h h233 := zfr_wf f243 e234 rfl
                              have b244 := tvl_s (h.2 7) (q := (h1.2 0 12)) (x := (h125.2 0 12)) (by omega)
                              have b244t := tvl_b (B := h.2 7) (q := (h1.2 0 12)) ((h125.2 0 12) - (h1.2 0 12)).toNat (fun i a b => (Classical.em (i = (h1.2 0 12))).elim (fun e => by rw [e]; omega) (fun e => u166 i (by omega) (by omega)))
                              exact ih173  h233 s241 f242 (by omega) (by omega) (fun i a b => (Classical.em (i = (h125.2 0 12))).elim (fun q => by rw [q]; omega) (fun q => u166 i a (by omega))) (by omega) (by omega) (fun z9 => by have y9 := u169 (by omega); have p9 : (10 : Nat) ^ ((h125.2 0 12) - (h1.2 0 12)).toNat ≤ 10 ^ 3 := Nat.pow_le_pow_right (by decide) (by omega); have p8 : (10 : Nat) ^ 3 = 1000 := (by decide); rw [show h233.2 0 12 = (h125.2 0 12) + 1 by omega, b244]; omega) (by omega) (by omega) (by omega)
                    have b245 : h123.2 0 12 = ((h1.2 0 12) + 1) := (((zwr_r e124 (by first | decide | exact (absurd ·.1 (by decide)) | exact (absurd ·.2 (by decide)) | omega)).trans (zwr_r e78 (by first | decide | exact (absurd ·.1 (by decide)) | exact (absurd ·.2 (by decide)) | omega))).trans (zwr_v e75))
                    have b246 : h123.2 0 13 = (h1.2 0 12) := (((((zwr_r e124 (by first | decide | exact (absurd ·.1 (by decide)) | exact (absurd ·.2 (by decide)) | omega)).trans (zwr_r e78 (by first | decide | exact (absurd ·.1 (by decide)) | exact (absurd ·.2 (by decide)) | omega))).trans (zwr_r e75 (by first | decide | exact (absurd ·.1 (by decide)) | exact (absurd ·.2 (by decide)) | omega))).trans (zwr_r e63 (by first | decide | exact (absurd ·.1 (by decide)) | exact (absurd ·.2 (by decide)) | omega))).trans (zwr_v e60))
                    have b247 : h123.2 0 15 = (v68 - 48) := (zwr_v e124)
                    have b248 : h123.2 0 14 = 1 := ((((zwr_r e124 (by first | decide | exact (absurd ·.1 (by decide)) | exact (absurd ·.2 (by decide)) | omega)).trans (zwr_r e78 (by first | decide | exact (absurd ·.1 (by decide)) | exact (absurd ·.2 (by decide)) | omega))).trans (zwr_r e75 (by first | decide | exact (absurd ·.1 (by decide)) | exact (absurd ·.2 (by decide)) | omega))).trans (zwr_v e63))
                    have s249 : okM h123 := fwM_15 s79 e124 (by omega)
                    have f254 : zfr [12, 13, 14, 15] [] h h59 := zfr_wf f3 e60 rfl
                    have f253 : zfr [12, 13, 14, 15] [] h h62 := zfr_wf f254 e63 rfl
                    have f252 : zfr [12, 13, 14, 15] [] h h74 := zfr_wf f253 e75 rfl
                    have f251 : zfr [12, 13, 14, 15] [] h h77 := zfr_wf f252 e78 rfl
                    have f250 : zfr [12, 13, 14, 15] [] h h123 := zfr_wf f251 e124 rfl
                    exact lp163 _ h123 s249 f250 (by omega) (by omega) (fun i a b => absurd b (by omega)) (by omega) (by omega) (fun _ => vl_1 (by omega) (by omega)) (by omega) (by omega) (Nat.lt_succ_self _)
              · exact absurd c84 (by omega)
            · refine zj_if_eq (t := 155) (zdk ttX11_reads 50 rfl rfl) (by decide) (by decide) (fun c255 => ?_) (fun c255 => ?_)
              · exact absurd c255 (by omega)
              · have lp276 : ∀ (n95 : Nat) (h256 : zM), okM h256 → zfr [12, 13, 14, 15] [] h h256 → (h.2 0 12 ≤ h256.2 0 13) → (h256.2 0 13 + 1 ≤ h256.2 0 12) → (∀ j, h256.2 0 13 ≤ j → j < h256.2 0 12 → ¬ h.2 7 j = 32) → (∀ i, h1.2 0 12 + 1 ≤ i → i < h256.2 0 12 → ((97 ≤ h.2 7 i ∧ h.2 7 i ≤ 122) ∨ (65 ≤ h.2 7 i ∧ h.2 7 i ≤ 90))) → (h.2 0 12 ≤ h.2 0 11 → h256.2 0 12 ≤ h.2 0 11) → (h256.2 0 13 = h1.2 0 12) → (h256.2 0 14 = 1) → (400 - (h256.2 0 12)).toNat < n95 → zJ shM l yX11_reads cX11_reads 2 none (rmL 3) 0 0 (q2_X11_reads h) 0 0 95 [some (.inr 0), some (.inl v68)] [] h256 := by
                  intro n95
                  induction n95 with
                  | zero => intro h256 s257 f258 u277 u278 u279 u280 u281 u282 u283 m284; exact absurd m284 (Nat.not_lt_zero _)
                  | succ n95 ih285 =>
                    intro h256 s257 f258 u277 u278 u279 u280 u281 u282 u283 m284
                    refine zj_aload_n (zdk ttX11_reads 51 rfl rfl) rfl (by decide) ?_
                    refine zj_aload_n (zdk ttX11_reads 52 rfl rfl) rfl (by decide) ?_
                    refine zj_aload_n (zdk ttX11_reads 53 rfl rfl) rfl (by decide) ?_
                    have b286 : 0 ≤ (h256.2 0 12) ∧ (h256.2 0 12) ≤ 400 := fM_12 s257
                    refine zj_geti (v := (h256.2 0 12)) (zdk ttX11_reads 54 rfl rfl) zf_RX11_156 rfl (k_M s257) rfl ?_
                    have b287 : h256.2 0 11 = (h.2 0 11) := (zfr_f f258 rfl rfl)
                    have b288 : h256.2 7 (h256.2 0 12) = h.2 7 (h256.2 0 12) := (zfr_a f258 rfl (by decide))
                    refine zj_callV (av := [.inl (h256.2 0 12)]) (st := [.inr 0]) (zdk ttX11_reads 55 rfl rfl) mb_X11_raw mv_RX11_159 (ci := 11) rfl rfl (k_M s257) rfl rfl (Nat.le_of_ble_eq_true rfl) (s_X11_raw l h256 (h256.2 0 12) s257 (by omega)) (rm_ok (by decide) (by decide)) (zq_i fun v290 h291 q289 => ?_)
                    obtain ⟨rfl, b293, b292⟩ := q289
                    have b294 : -1 ≤ v290 ∧ v290 ≤ 255 := by omega
                    refine zj_callV (av := [.inl v290]) (st := []) (zdk ttX11_reads 56 rfl rfl) mb_X11_isLetter mv_RX11_172 (ci := 11) rfl rfl (k_M s257) rfl rfl (Nat.le_of_ble_eq_true rfl) (s_X11_isLetter l h256 v290 s257 (by omega)) (rm_ok (by decide) (by decide)) (zq_i fun v296 h297 q295 => ?_)
                    obtain ⟨rfl, ⟨rfl, b298⟩ | ⟨rfl, b298⟩⟩ := q295
                    · refine zj_if_eq (t := 123) (zdk ttX11_reads 57 rfl rfl) (by decide) (by decide) (fun c299 => ?_) (fun c299 => ?_)
                      · refine zj_aload_n (zdk ttX11_reads 65 rfl rfl) rfl (by decide) ?_
                        refine zj_aload_n (zdk ttX11_reads 66 rfl rfl) rfl (by decide) ?_
                        refine zj_aload_n (zdk ttX11_reads 67 rfl rfl) rfl (by decide) ?_
                        have b300 : 0 ≤ (h256.2 0 13) ∧ (h256.2 0 13) ≤ 400 := fM_13 s257
                        refine zj_geti (v := (h256.2 0 13)) (zdk ttX11_reads 68 rfl rfl) zf_RX11_163 rfl (k_M s257) rfl ?_
                        refine zj_aload_n (zdk ttX11_reads 69 rfl rfl) rfl (by decide) ?_
                        refine zj_geti (v := (h256.2 0 12)) (zdk ttX11_reads 70 rfl rfl) zf_RX11_156 rfl (k_M s257) rfl ?_
                        refine zj_callV (av := [.inl (h256.2 0 13), .inl (h256.2 0 12)]) (st := [.inr 0]) (zdk ttX11_reads 71 rfl rfl) mb_X11_wordAt mv_RX11_175 (ci := 11) rfl rfl (k_M s257) rfl rfl (Nat.le_of_ble_eq_true rfl) (s2_X11_wordAt l h256 (h256.2 0 13) (h256.2 0 12) s257 (by omega) (by omega) (fun j q1 q2 => by rw [(zfr_a f258 rfl (by decide))]; exact u279 j (by omega) (by omega))) (rm_ok (by decide) (by decide)) (zq_i fun v302 h303 q301 => ?_)
                        obtain ⟨rfl, b304, u305⟩ := q301
                        refine zj_puti (zdk ttX11_reads 72 rfl rfl) zf_RX11_169 rfl (k_M s257) (Or.inl zw_RX11_169) (k2 := 15) rfl (fun h306 e307 => ?_)
                        refine zj_aload_n (zdk ttX11_reads 73 rfl rfl) rfl (by decide) ?_
                        have s308 : okM h306 := fwM_15 s257 e307 (by omega)
                        refine zj_geti (v := v302) (zdk ttX11_reads 74 rfl rfl) zf_RX11_169 rfl (k_M s308) (zwr_v e307) ?_
                        refine zj_iconst (zdk ttX11_reads 75 rfl rfl) ?_
                        refine zj_icmp_eq (t := 273) (zdk ttX11_reads 76 rfl rfl) (by decide) (by omega) (by decide) (fun c309 => ?_) (fun c309 => ?_)
                        · have b310 : h306.2 0 12 = (h256.2 0 12) := (zwr_r e307 (by first | decide | exact (absurd ·.1 (by decide)) | exact (absurd ·.2 (by decide)) | omega))
                          have b311 : h306.2 0 13 = (h256.2 0 13) := (zwr_r e307 (by first | decide | exact (absurd ·.1 (by decide)) | exact (absurd ·.2 (by decide)) | omega))
                          have b312 : h306.2 0 14 = (h256.2 0 14) := (zwr_r e307 (by first | decide | exact (absurd ·.1 (by decide)) | exact (absurd ·.2 (by decide)) | omega))
                          have b313 : 0 ≤ (h256.2 0 14) ∧ (h256.2 0 14) ≤ 4 := fM_14 s257
                          have f314 : zfr [12, 13, 14, 15] [] h h306 := zfr_wf f258 e307 rfl
                          have b315 : h306.2 0 12 = (h256.2 0 12) := (zwr_r e307 (by first | decide | exact (absurd ·.1 (by decide)) | exact (absurd ·.2 (by decide)) | omega))
                          have b316 : h306.2 0 13 = (h256.2 0 13) := (zwr_r e307 (by first | decide | exact (absurd ·.1 (by decide)) | exact (absurd ·.2 (by decide)) | omega))
                          have b317 : h306.2 0 14 = (h256.2 0 14) := (zwr_r e307 (by first | decide | exact (absurd ·.1 (by decide)) | exact (absurd ·.2 (by decide)) | omega))
                          have b318 : h306.2 0 15 = v302 := (zwr_v e307)
                          exact zj_vret rfl (zdk ttX11_reads 142 rfl rfl) (Nat.le_refl _) (Nat.le_refl _) ⟨rfl, s308, f314, by unfold tok; omega, by omega, (fun W l9 => ⟨(h1.2 0 12), ⟨by omega, by omega, u30, fun z9 => by omega⟩, by omega, by have w9 := u305 (fun k a b => ((zfr_a f258 rfl (by decide))).trans (W k a b)) (by omega); rw [show h256.2 7 = h.2 7 from funext fun i9 => (zfr_a f258 rfl (by decide))] at w9; rw [show (h256.2 0 13) = (h1.2 0 12) by omega] at w9; rw [show h306.2 0 12 = (h256.2 0 12) by omega]; exact Or.inr ⟨by omega, by omega, Or.inl ⟨by omega, ⟨by omega, by omega, u280, fun z9 => by omega⟩⟩, Or.inl ⟨by omega, by rcases w9 with w9 | w9; (first | exact Or.inr ⟨by omega, w9.2⟩ | exact absurd w9.1 (by omega)); (first | exact Or.inl ⟨by omega, by omega, by rw [show h306.2 0 15 = v302 by omega]; exact w9.2⟩ | exact absurd w9.1 (by omega))⟩⟩⟩)⟩
                        · refine zj_aload_n (zdk ttX11_reads 77 rfl rfl) rfl (by decide) ?_
                          refine zj_iconst (zdk ttX11_reads 78 rfl rfl) ?_
                          refine zj_puti (zdk ttX11_reads 79 rfl rfl) zf_RX11_166 rfl (k_M s308) (Or.inl zw_RX11_166) (k2 := 14) rfl (fun h319 e320 => ?_)
                          refine zj_goto (t := 273) (zdk ttX11_reads 80 rfl rfl) (by decide) ?_
                          have s321 : okM h319 := fwM_14 s308 e320 (by omega)
                          have b322 : h319.2 0 12 = (h256.2 0 12) := ((zwr_r e320 (by first | decide | exact (absurd ·.1 (by decide)) | exact (absurd ·.2 (by decide)) | omega)).trans (zwr_r e307 (by first | decide | exact (absurd ·.1 (by decide)) | exact (absurd ·.2 (by decide)) | omega)))
                          have b323 : h319.2 0 13 = (h256.2 0 13) := ((zwr_r e320 (by first | decide | exact (absurd ·.1 (by decide)) | exact (absurd ·.2 (by decide)) | omega)).trans (zwr_r e307 (by first | decide | exact (absurd ·.1 (by decide)) | exact (absurd ·.2 (by decide)) | omega)))
                          have b324 : h319.2 0 14 = 2 := (zwr_v e320)
                          have f326 : zfr [12, 13, 14, 15] [] h h306 := zfr_wf f258 e307 rfl
                          have f325 : zfr [12, 13, 14, 15] [] h h319 := zfr_wf f326 e320 rfl
                          have b327 : h319.2 0 12 = (h256.2 0 12) := ((zwr_r e320 (by first | decide | exact (absurd ·.1 (by decide)) | exact (absurd ·.2 (by decide)) | omega)).trans (zwr_r e307 (by first | decide | exact (absurd ·.1 (by decide)) | exact (absurd ·.2 (by decide)) | omega)))
                          have b328 : h319.2 0 13 = (h256.2 0 13) := ((zwr_r e320 (by first | decide | exact (absurd ·.1 (by decide)) | exact (absurd ·.2 (by decide)) | omega)).trans (zwr_r e307 (by first | decide | exact (absurd ·.1 (by decide)) | exact (absurd ·.2 (by decide)) | omega)))
                          have b329 : h319.2 0 14 = 2 := (zwr_v e320)
                          have b330 : h319.2 0 15 = v302 := ((zwr_r e320 (by first | decide | exact (absurd ·.1 (by decide)) | exact (absurd ·.2 (by decide)) | omega)).trans (zwr_v e307))
                          exact zj_vret rfl (zdk ttX11_reads 142 rfl rfl) (Nat.le_refl _) (Nat.le_refl _) ⟨rfl, s321, f325, by unfold tok; omega, by omega, (fun W l9 => ⟨(h1.2 0 12), ⟨by omega, by omega, u30, fun z9 => by omega⟩, by omega, by have w9 := u305 (fun k a b => ((zfr_a f258 rfl (by decide))).trans (W k a b)) (by omega); rw [show h256.2 7 = h.2 7 from funext fun i9 => (zfr_a f258 rfl (by decide))] at w9; rw [show (h256.2 0 13) = (h1.2 0 12) by omega] at w9; rw [show h319.2 0 12 = (h256.2 0 12) by omega]; exact Or.inr ⟨by omega, by omega, Or.inl ⟨by omega, ⟨by omega, by omega, u280, fun z9 => by omega⟩⟩, Or.inl ⟨by omega, by rcases w9 with w9 | w9; (first | exact Or.inr ⟨by omega, w9.2⟩ | exact absurd w9.1 (by omega)); (first | exact Or.inl ⟨by omega, by omega, by rw [show h319.2 0 15 = v302 by omega]; exact w9.2⟩ | exact absurd w9.1 (by omega))⟩⟩⟩)⟩
                      · exact absurd c299 (by omega)
                    · refine zj_if_eq (t := 123) (zdk ttX11_reads 57 rfl rfl) (by decide) (by decide) (fun c331 => ?_) (fun c331 => ?_)
                      · exact absurd c331 (by omega)
                      · refine zj_aload_n (zdk ttX11_reads 58 rfl rfl) rfl (by decide) ?_
                        refine zj_aload_n (zdk ttX11_reads 59 rfl rfl) rfl (by decide) ?_
                        refine zj_geti (v := (h256.2 0 12)) (zdk ttX11_reads 60 rfl rfl) zf_RX11_156 rfl (k_M s257) rfl ?_
                        refine zj_iconst (zdk ttX11_reads 61 rfl rfl) ?_
                        refine zj_iadd (zdk ttX11_reads 62 rfl rfl) ?_
                        refine zj_puti (zdk ttX11_reads 63 rfl rfl) zf_RX11_156 rfl (k_M s257) (Or.inl zw_RX11_156) (k2 := 12) rfl (fun h332 e333 => ?_)
                        refine zj_goto (t := 95) (zdk ttX11_reads 64 rfl rfl) (by decide) ?_
                        have b334 : h332.2 0 12 = ((h256.2 0 12) + 1) := (zwr_v e333)
                        have b335 : h332.2 0 13 = (h256.2 0 13) := (zwr_r e333 (by first | decide | exact (absurd ·.1 (by decide)) | exact (absurd ·.2 (by decide)) | omega))
                        have b336 : 0 ≤ (h256.2 0 13) ∧ (h256.2 0 13) ≤ 400 := fM_13 s257
                        have b337 : h332.2 0 14 = (h256.2 0 14) := (zwr_r e333 (by first | decide | exact (absurd ·.1 (by decide)) | exact (absurd ·.2 (by decide)) | omega))
                        have b338 : 0 ≤ (h256.2 0 14) ∧ (h256.2 0 14) ≤ 4 := fM_14 s257
                        have s339 : okM h332 := fwM_12 s257 e333 (by omega)
                        have f340 : zfr [12, 13, 14, 15] [] h h332 := zfr_wf f258 e333 rfl
                        exact ih285  h332 s339 f340 (by omega) (by omega) (fun j q1 q2 => (Classical.em (j = (h256.2 0 12))).elim (fun q => by rw [q]; omega) (fun q => u279 j (by omega) (by omega))) (fun i a b => (Classical.em (i = (h256.2 0 12))).elim (fun q => by rw [q]; omega) (fun q => u280 i a (by omega))) (by omega) (by omega) (by omega) (by omega)
                have b341 : h77.2 0 12 = ((h1.2 0 12) + 1) := ((zwr_r e78 (by first | decide | exact (absurd ·.1 (by decide)) | exact (absurd ·.2 (by decide)) | omega)).trans (zwr_v e75))
                have b342 : h77.2 0 13 = (h1.2 0 12) := ((((zwr_r e78 (by first | decide | exact (absurd ·.1 (by decide)) | exact (absurd ·.2 (by decide)) | omega)).trans (zwr_r e75 (by first | decide | exact (absurd ·.1 (by decide)) | exact (absurd ·.2 (by decide)) | omega))).trans (zwr_r e63 (by first | decide | exact (absurd ·.1 (by decide)) | exact (absurd ·.2 (by decide)) | omega))).trans (zwr_v e60))
                have b343 : h77.2 0 14 = 1 := (((zwr_r e78 (by first | decide | exact (absurd ·.1 (by decide)) | exact (absurd ·.2 (by decide)) | omega)).trans (zwr_r e75 (by first | decide | exact (absurd ·.1 (by decide)) | exact (absurd ·.2 (by decide)) | omega))).trans (zwr_v e63))
                have f347 : zfr [12, 13, 14, 15] [] h h59 := zfr_wf f3 e60 rfl
                have f346 : zfr [12, 13, 14, 15] [] h h62 := zfr_wf f347 e63 rfl
                have f345 : zfr [12, 13, 14, 15] [] h h74 := zfr_wf f346 e75 rfl
                have f344 : zfr [12, 13, 14, 15] [] h h77 := zfr_wf f345 e78 rfl
                exact lp276 _ h77 s79 f344 (by omega) (by omega) (fun j q1 q2 => by rw [show j = (h1.2 0 12) by omega]; omega) (fun i a b => absurd b (by omega)) (by omega) (by omega) (by omega) (Nat.lt_succ_self _)
          · refine zj_aload_n (zdk ttX11_reads 34 rfl rfl) rfl (by decide) ?_
            refine zj_iconst (zdk ttX11_reads 35 rfl rfl) ?_
            refine zj_puti (zdk ttX11_reads 36 rfl rfl) zf_RX11_166 rfl (k_M s64) (Or.inl zw_RX11_166) (k2 := 14) rfl (fun h348 e349 => ?_)
            have s350 : okM h348 := fwM_14 s64 e349 (by omega)
            have b351 : h348.2 0 12 = (h1.2 0 12) := (((zwr_r e349 (by first | decide | exact (absurd ·.1 (by decide)) | exact (absurd ·.2 (by decide)) | omega)).trans (zwr_r e63 (by first | decide | exact (absurd ·.1 (by decide)) | exact (absurd ·.2 (by decide)) | omega))).trans (zwr_r e60 (by first | decide | exact (absurd ·.1 (by decide)) | exact (absurd ·.2 (by decide)) | omega)))
            have b352 : h348.2 0 13 = (h1.2 0 12) := (((zwr_r e349 (by first | decide | exact (absurd ·.1 (by decide)) | exact (absurd ·.2 (by decide)) | omega)).trans (zwr_r e63 (by first | decide | exact (absurd ·.1 (by decide)) | exact (absurd ·.2 (by decide)) | omega))).trans (zwr_v e60))
            have b353 : h348.2 0 14 = 0 := (zwr_v e349)
            have f356 : zfr [12, 13, 14, 15] [] h h59 := zfr_wf f3 e60 rfl
            have f355 : zfr [12, 13, 14, 15] [] h h62 := zfr_wf f356 e63 rfl
            have f354 : zfr [12, 13, 14, 15] [] h h348 := zfr_wf f355 e349 rfl
            have b357 : h348.2 0 12 = (h1.2 0 12) := (((zwr_r e349 (by first | decide | exact (absurd ·.1 (by decide)) | exact (absurd ·.2 (by decide)) | omega)).trans (zwr_r e63 (by first | decide | exact (absurd ·.1 (by decide)) | exact (absurd ·.2 (by decide)) | omega))).trans (zwr_r e60 (by first | decide | exact (absurd ·.1 (by decide)) | exact (absurd ·.2 (by decide)) | omega)))
            have b358 : h348.2 0 13 = (h1.2 0 12) := (((zwr_r e349 (by first | decide | exact (absurd ·.1 (by decide)) | exact (absurd ·.2 (by decide)) | omega)).trans (zwr_r e63 (by first | decide | exact (absurd ·.1 (by decide)) | exact (absurd ·.2 (by decide)) | omega))).trans (zwr_v e60))
            have b359 : h348.2 0 14 = 0 := (zwr_v e349)
            have b360 : h348.2 0 15 = (h1.2 0 15) := (((zwr_r e349 (by first | decide | exact (absurd ·.1 (by decide)) | exact (absurd ·.2 (by decide)) | omega)).trans (zwr_r e63 (by first | decide | exact (absurd ·.1 (by decide)) | exact (absurd ·.2 (by decide)) | omega))).trans (zwr_r e60 (by first | decide | exact (absurd ·.1 (by decide)) | exact (absurd ·.2 (by decide)) | omega)))
            have b361 : -2147483648 ≤ (h1.2 0 15) ∧ (h1.2 0 15) ≤ 2147483647 := fM_15 s2
            exact zj_vret rfl (zdk ttX11_reads 37 rfl rfl) (Nat.le_refl _) (Nat.le_refl _) ⟨rfl, s350, f354, by unfold tok; omega, by omega, (fun W l9 => ⟨(h1.2 0 12), ⟨by omega, by omega, u30, fun z9 => by omega⟩, by omega, Or.inl ⟨by omega, by omega⟩⟩)⟩
        · refine zj_aload_n (zdk ttX11_reads 12 rfl rfl) rfl (by decide) ?_
          refine zj_aload_n (zdk ttX11_reads 13 rfl rfl) rfl (by decide) ?_
          refine zj_geti (v := (h1.2 0 12)) (zdk ttX11_reads 14 rfl rfl) zf_RX11_156 rfl (k_M s2) rfl ?_
          refine zj_iconst (zdk ttX11_reads 15 rfl rfl) ?_
          refine zj_iadd (zdk ttX11_reads 16 rfl rfl) ?_
          refine zj_puti (zdk ttX11_reads 17 rfl rfl) zf_RX11_156 rfl (k_M s2) (Or.inl zw_RX11_156) (k2 := 12) rfl (fun h362 e363 => ?_)
          refine zj_goto (t := 0) (zdk ttX11_reads 18 rfl rfl) (by decide) ?_
          have b364 : h362.2 0 12 = ((h1.2 0 12) + 1) := (zwr_v e363)
          have s365 : okM h362 := fwM_12 s2 e363 (by omega)
          have f366 : zfr [12, 13, 14, 15] [] h h362 := zfr_wf f3 e363 rfl
          exact ih33  h362 s365 f366 (by omega) (fun i a b => (Classical.em (i = (h1.2 0 12))).elim (fun q => by rw [q]; omega) (fun q => u30 i a (by omega))) (by omega) (by omega)
  have b367 : 0 ≤ (h.2 0 12) ∧ (h.2 0 12) ≤ 400 := fM_12 s0
  exact lp28 _ h s0 (zfr_r _ _ _) (by omega) (fun i a b => absurd b (by omega)) (by omega) (Nat.lt_succ_self _)

