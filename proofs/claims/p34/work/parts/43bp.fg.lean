abbrev q2_X11_twoOf (h : zM) (p1 : Int) (p2 : Int) (p3 : Int) : Option zV → zM → Prop := zqi fun v h' => h = h' ∧ ((-2147483648) ≤ v ∧ v ≤ 2147483647) ∧ (∀ e9, fJm p1 e9 → fJg e9 p2 p3 → v = fJn e9 p2 p3)
set_option maxRecDepth 100000 in
set_option maxHeartbeats 4000000 in
theorem s2_X11_twoOf (l : Launch) (h : zM) (p1 : Int) (p2 : Int) (p3 : Int) (s0 : okM h) (b_p1 : (-2147483648) ≤ p1 ∧ p1 ≤ 2147483647) (b_p2 : (-2147483648) ≤ p2 ∧ p2 ≤ 2147483647) (b_p3 : (-2147483648) ≤ p3 ∧ p3 ≤ 2147483647) (u_0 : p1 = 5 → ¬ p3 = 0) : zT shM l yX11_twoOf cX11_twoOf 4 (some .int) (rmL 1) 0 0 [.inr 0, .inl p1, .inl p2, .inl p3] h (q2_X11_twoOf h p1 p2 p3) := by
  refine zT_of (by decide +kernel) (L0 := [some (.inr 0), some (.inl p1), some (.inl p2), some (.inl p3)]) rfl (Nat.le_of_ble_eq_true rfl) ?_
  refine zj_iload_n (zdk ttX11_twoOf 0 rfl rfl) rfl ?_
  refine zj_iconst (zdk ttX11_twoOf 1 rfl rfl) ?_
  refine zj_icmp_ne (t := 9) (zdk ttX11_twoOf 2 rfl rfl) (by decide) (by omega) (by decide) (fun c1 => ?_) (fun c1 => ?_)
  · refine zj_iload_n (zdk ttX11_twoOf 7 rfl rfl) rfl ?_
    refine zj_iconst (zdk ttX11_twoOf 8 rfl rfl) ?_
    refine zj_icmp_ne (t := 18) (zdk ttX11_twoOf 9 rfl rfl) (by decide) (by omega) (by decide) (fun c2 => ?_) (fun c2 => ?_)
    · refine zj_iload_n (zdk ttX11_twoOf 14 rfl rfl) rfl ?_
      refine zj_iconst (zdk ttX11_twoOf 15 rfl rfl) ?_
      refine zj_icmp_ne (t := 27) (zdk ttX11_twoOf 16 rfl rfl) (by decide) (by omega) (by decide) (fun c3 => ?_) (fun c3 => ?_)
      · refine zj_iload_n (zdk ttX11_twoOf 21 rfl rfl) rfl ?_
        refine zj_iconst (zdk ttX11_twoOf 22 rfl rfl) ?_
        refine zj_icmp_ne (t := 36) (zdk ttX11_twoOf 23 rfl rfl) (by decide) (by omega) (by decide) (fun c4 => ?_) (fun c4 => ?_)
        · refine zj_iload_n (zdk ttX11_twoOf 28 rfl rfl) rfl ?_
          refine zj_bipush (zdk ttX11_twoOf 29 rfl rfl) (by decide) ?_
          refine zj_icmp_ne (t := 53) (zdk ttX11_twoOf 30 rfl rfl) (by decide) (by omega) (by decide) (fun c5 => ?_) (fun c5 => ?_)
          · refine zj_iload_n (zdk ttX11_twoOf 38 rfl rfl) rfl ?_
            refine zj_bipush (zdk ttX11_twoOf 39 rfl rfl) (by decide) ?_
            refine zj_icmp_ne (t := 70) (zdk ttX11_twoOf 40 rfl rfl) (by decide) (by omega) (by decide) (fun c6 => ?_) (fun c6 => ?_)
            · refine zj_iload_n (zdk ttX11_twoOf 48 rfl rfl) rfl ?_
              refine zj_bipush (zdk ttX11_twoOf 49 rfl rfl) (by decide) ?_
              refine zj_icmp_ne (t := 87) (zdk ttX11_twoOf 50 rfl rfl) (by decide) (by omega) (by decide) (fun c7 => ?_) (fun c7 => ?_)
              · refine zj_iload_n (zdk ttX11_twoOf 58 rfl rfl) rfl ?_
                refine zj_bipush (zdk ttX11_twoOf 59 rfl rfl) (by decide) ?_
                refine zj_icmp_ne (t := 99) (zdk ttX11_twoOf 60 rfl rfl) (by decide) (by omega) (by decide) (fun c8 => ?_) (fun c8 => ?_)
                · refine zj_iload_n (zdk ttX11_twoOf 65 rfl rfl) rfl ?_
                  refine zj_iload_n (zdk ttX11_twoOf 66 rfl rfl) rfl ?_
                  refine zj_iadd (zdk ttX11_twoOf 67 rfl rfl) ?_
                  refine zj_wrap ?_
                  have b9 := zwp_in (p2 + p3)
                  refine zj_if_le (t := 109) (zdk ttX11_twoOf 68 rfl rfl) (by decide) (by omega) (fun c10 => ?_) (fun c10 => ?_)
                  · refine zj_iconst (zdk ttX11_twoOf 71 rfl rfl) ?_
                    exact zj_iret rfl (zdk ttX11_twoOf 72 rfl rfl) (Nat.le_refl _) (Nat.le_refl _) ⟨0, rfl, rfl, by omega, (by intro e9 m9 g9; have k9 := fJn_k p2 p3; unfold fJm at m9; rcases m9 with ⟨a9, rfl⟩ | ⟨a9, rfl⟩ | ⟨a9, rfl⟩ | ⟨a9, rfl⟩ | ⟨a9, rfl⟩ | ⟨a9, rfl⟩ | ⟨a9, rfl⟩ | ⟨a9, rfl⟩ | ⟨a9, rfl⟩ <;> first | (clear g9; exfalso; clear k9; omega) | (clear g9; omega) | (have b9 := fJg_b g9 (Or.inr rfl); exact fJn_10 b9.1 b9.2) | (have b9 := fJg_b g9 (Or.inl rfl); have q9 := fJn_11 b9.1 b9.2; clear g9 b9; omega))⟩
                  · refine zj_iconst (zdk ttX11_twoOf 69 rfl rfl) ?_
                    refine zj_goto (t := 110) (zdk ttX11_twoOf 70 rfl rfl) (by decide) ?_
                    exact zj_iret rfl (zdk ttX11_twoOf 72 rfl rfl) (Nat.le_refl _) (Nat.le_refl _) ⟨1, rfl, rfl, by omega, (by intro e9 m9 g9; have k9 := fJn_k p2 p3; unfold fJm at m9; rcases m9 with ⟨a9, rfl⟩ | ⟨a9, rfl⟩ | ⟨a9, rfl⟩ | ⟨a9, rfl⟩ | ⟨a9, rfl⟩ | ⟨a9, rfl⟩ | ⟨a9, rfl⟩ | ⟨a9, rfl⟩ | ⟨a9, rfl⟩ <;> first | (clear g9; exfalso; clear k9; omega) | (clear g9; omega) | (have b9 := fJg_b g9 (Or.inr rfl); exact fJn_10 b9.1 b9.2) | (have b9 := fJg_b g9 (Or.inl rfl); have q9 := fJn_11 b9.1 b9.2; clear g9 b9; omega))⟩
                · refine zj_iload_n (zdk ttX11_twoOf 61 rfl rfl) rfl ?_
                  refine zj_iload_n (zdk ttX11_twoOf 62 rfl rfl) rfl ?_
                  refine zj_imul (zdk ttX11_twoOf 63 rfl rfl) ?_
                  refine zj_wrap ?_
                  have b11 := zwp_in (p2 * p3)
                  refine zj_goto (t := 110) (zdk ttX11_twoOf 64 rfl rfl) (by decide) ?_
                  exact zj_iret rfl (zdk ttX11_twoOf 72 rfl rfl) (Nat.le_refl _) (Nat.le_refl _) ⟨(zwp (p2 * p3)), rfl, rfl, by omega, (by intro e9 m9 g9; have k9 := fJn_k p2 p3; unfold fJm at m9; rcases m9 with ⟨a9, rfl⟩ | ⟨a9, rfl⟩ | ⟨a9, rfl⟩ | ⟨a9, rfl⟩ | ⟨a9, rfl⟩ | ⟨a9, rfl⟩ | ⟨a9, rfl⟩ | ⟨a9, rfl⟩ | ⟨a9, rfl⟩ <;> first | (clear g9; exfalso; clear k9; omega) | (clear g9; omega) | (have b9 := fJg_b g9 (Or.inr rfl); exact fJn_10 b9.1 b9.2) | (have b9 := fJg_b g9 (Or.inl rfl); have q9 := fJn_11 b9.1 b9.2; clear g9 b9; omega))⟩
              · refine zj_iload_n (zdk ttX11_twoOf 51 rfl rfl) rfl ?_
                refine zj_iload_n (zdk ttX11_twoOf 52 rfl rfl) rfl ?_
                refine zj_icmp_le (t := 85) (zdk ttX11_twoOf 53 rfl rfl) (by decide) (by omega) (by omega) (fun c12 => ?_) (fun c12 => ?_)
                · refine zj_iconst (zdk ttX11_twoOf 56 rfl rfl) ?_
                  exact zj_iret rfl (zdk ttX11_twoOf 57 rfl rfl) (Nat.le_refl _) (Nat.le_refl _) ⟨0, rfl, rfl, by omega, (by intro e9 m9 g9; have k9 := fJn_k p2 p3; unfold fJm at m9; rcases m9 with ⟨a9, rfl⟩ | ⟨a9, rfl⟩ | ⟨a9, rfl⟩ | ⟨a9, rfl⟩ | ⟨a9, rfl⟩ | ⟨a9, rfl⟩ | ⟨a9, rfl⟩ | ⟨a9, rfl⟩ | ⟨a9, rfl⟩ <;> first | (clear g9; exfalso; clear k9; omega) | (clear g9; omega) | (have b9 := fJg_b g9 (Or.inr rfl); exact fJn_10 b9.1 b9.2) | (have b9 := fJg_b g9 (Or.inl rfl); have q9 := fJn_11 b9.1 b9.2; clear g9 b9; omega))⟩
                · refine zj_iconst (zdk ttX11_twoOf 54 rfl rfl) ?_
                  refine zj_goto (t := 86) (zdk ttX11_twoOf 55 rfl rfl) (by decide) ?_
                  exact zj_iret rfl (zdk ttX11_twoOf 57 rfl rfl) (Nat.le_refl _) (Nat.le_refl _) ⟨1, rfl, rfl, by omega, (by intro e9 m9 g9; have k9 := fJn_k p2 p3; unfold fJm at m9; rcases m9 with ⟨a9, rfl⟩ | ⟨a9, rfl⟩ | ⟨a9, rfl⟩ | ⟨a9, rfl⟩ | ⟨a9, rfl⟩ | ⟨a9, rfl⟩ | ⟨a9, rfl⟩ | ⟨a9, rfl⟩ | ⟨a9, rfl⟩ <;> first | (clear g9; exfalso; clear k9; omega) | (clear g9; omega) | (have b9 := fJg_b g9 (Or.inr rfl); exact fJn_10 b9.1 b9.2) | (have b9 := fJg_b g9 (Or.inl rfl); have q9 := fJn_11 b9.1 b9.2; clear g9 b9; omega))⟩
            · refine zj_iload_n (zdk ttX11_twoOf 41 rfl rfl) rfl ?_
              refine zj_iload_n (zdk ttX11_twoOf 42 rfl rfl) rfl ?_
              refine zj_icmp_ne (t := 68) (zdk ttX11_twoOf 43 rfl rfl) (by decide) (by omega) (by omega) (fun c13 => ?_) (fun c13 => ?_)
              · refine zj_iconst (zdk ttX11_twoOf 46 rfl rfl) ?_
                exact zj_iret rfl (zdk ttX11_twoOf 47 rfl rfl) (Nat.le_refl _) (Nat.le_refl _) ⟨0, rfl, rfl, by omega, (by intro e9 m9 g9; have k9 := fJn_k p2 p3; unfold fJm at m9; rcases m9 with ⟨a9, rfl⟩ | ⟨a9, rfl⟩ | ⟨a9, rfl⟩ | ⟨a9, rfl⟩ | ⟨a9, rfl⟩ | ⟨a9, rfl⟩ | ⟨a9, rfl⟩ | ⟨a9, rfl⟩ | ⟨a9, rfl⟩ <;> first | (clear g9; exfalso; clear k9; omega) | (clear g9; omega) | (have b9 := fJg_b g9 (Or.inr rfl); exact fJn_10 b9.1 b9.2) | (have b9 := fJg_b g9 (Or.inl rfl); have q9 := fJn_11 b9.1 b9.2; clear g9 b9; omega))⟩
              · refine zj_iconst (zdk ttX11_twoOf 44 rfl rfl) ?_
                refine zj_goto (t := 69) (zdk ttX11_twoOf 45 rfl rfl) (by decide) ?_
                exact zj_iret rfl (zdk ttX11_twoOf 47 rfl rfl) (Nat.le_refl _) (Nat.le_refl _) ⟨1, rfl, rfl, by omega, (by intro e9 m9 g9; have k9 := fJn_k p2 p3; unfold fJm at m9; rcases m9 with ⟨a9, rfl⟩ | ⟨a9, rfl⟩ | ⟨a9, rfl⟩ | ⟨a9, rfl⟩ | ⟨a9, rfl⟩ | ⟨a9, rfl⟩ | ⟨a9, rfl⟩ | ⟨a9, rfl⟩ | ⟨a9, rfl⟩ <;> first | (clear g9; exfalso; clear k9; omega) | (clear g9; omega) | (have b9 := fJg_b g9 (Or.inr rfl); exact fJn_10 b9.1 b9.2) | (have b9 := fJg_b g9 (Or.inl rfl); have q9 := fJn_11 b9.1 b9.2; clear g9 b9; omega))⟩
          · refine zj_iload_n (zdk ttX11_twoOf 31 rfl rfl) rfl ?_
            refine zj_iload_n (zdk ttX11_twoOf 32 rfl rfl) rfl ?_
            refine zj_icmp_ge (t := 51) (zdk ttX11_twoOf 33 rfl rfl) (by decide) (by omega) (by omega) (fun c14 => ?_) (fun c14 => ?_)
            · refine zj_iconst (zdk ttX11_twoOf 36 rfl rfl) ?_
              exact zj_iret rfl (zdk ttX11_twoOf 37 rfl rfl) (Nat.le_refl _) (Nat.le_refl _) ⟨0, rfl, rfl, by omega, (by intro e9 m9 g9; have k9 := fJn_k p2 p3; unfold fJm at m9; rcases m9 with ⟨a9, rfl⟩ | ⟨a9, rfl⟩ | ⟨a9, rfl⟩ | ⟨a9, rfl⟩ | ⟨a9, rfl⟩ | ⟨a9, rfl⟩ | ⟨a9, rfl⟩ | ⟨a9, rfl⟩ | ⟨a9, rfl⟩ <;> first | (clear g9; exfalso; clear k9; omega) | (clear g9; omega) | (have b9 := fJg_b g9 (Or.inr rfl); exact fJn_10 b9.1 b9.2) | (have b9 := fJg_b g9 (Or.inl rfl); have q9 := fJn_11 b9.1 b9.2; clear g9 b9; omega))⟩
            · refine zj_iconst (zdk ttX11_twoOf 34 rfl rfl) ?_
              refine zj_goto (t := 52) (zdk ttX11_twoOf 35 rfl rfl) (by decide) ?_
              exact zj_iret rfl (zdk ttX11_twoOf 37 rfl rfl) (Nat.le_refl _) (Nat.le_refl _) ⟨1, rfl, rfl, by omega, (by intro e9 m9 g9; have k9 := fJn_k p2 p3; unfold fJm at m9; rcases m9 with ⟨a9, rfl⟩ | ⟨a9, rfl⟩ | ⟨a9, rfl⟩ | ⟨a9, rfl⟩ | ⟨a9, rfl⟩ | ⟨a9, rfl⟩ | ⟨a9, rfl⟩ | ⟨a9, rfl⟩ | ⟨a9, rfl⟩ <;> first | (clear g9; exfalso; clear k9; omega) | (clear g9; omega) | (have b9 := fJg_b g9 (Or.inr rfl); exact fJn_10 b9.1 b9.2) | (have b9 := fJg_b g9 (Or.inl rfl); have q9 := fJn_11 b9.1 b9.2; clear g9 b9; omega))⟩
        · refine zj_iload_n (zdk ttX11_twoOf 24 rfl rfl) rfl ?_
          refine zj_iload_n (zdk ttX11_twoOf 25 rfl rfl) rfl ?_
          refine zj_idiv (zdk ttX11_twoOf 26 rfl rfl) (by omega) (by omega) (by omega) ?_
          have b15 := ztd_b p2 p3
          refine zj_wrap ?_
          have b16 := zwp_in (p2.tdiv p3)
          exact zj_iret rfl (zdk ttX11_twoOf 27 rfl rfl) (Nat.le_refl _) (Nat.le_refl _) ⟨(zwp (p2.tdiv p3)), rfl, rfl, by omega, (by intro e9 m9 g9; have k9 := fJn_k p2 p3; unfold fJm at m9; rcases m9 with ⟨a9, rfl⟩ | ⟨a9, rfl⟩ | ⟨a9, rfl⟩ | ⟨a9, rfl⟩ | ⟨a9, rfl⟩ | ⟨a9, rfl⟩ | ⟨a9, rfl⟩ | ⟨a9, rfl⟩ | ⟨a9, rfl⟩ <;> first | (clear g9; exfalso; clear k9; omega) | (clear g9; omega) | (have b9 := fJg_b g9 (Or.inr rfl); exact fJn_10 b9.1 b9.2) | (have b9 := fJg_b g9 (Or.inl rfl); have q9 := fJn_11 b9.1 b9.2; clear g9 b9; omega))⟩
      · refine zj_iload_n (zdk ttX11_twoOf 17 rfl rfl) rfl ?_
        refine zj_iload_n (zdk ttX11_twoOf 18 rfl rfl) rfl ?_
        refine zj_imul (zdk ttX11_twoOf 19 rfl rfl) ?_
        refine zj_wrap ?_
        have b17 := zwp_in (p2 * p3)
        exact zj_iret rfl (zdk ttX11_twoOf 20 rfl rfl) (Nat.le_refl _) (Nat.le_refl _) ⟨(zwp (p2 * p3)), rfl, rfl, by omega, (by intro e9 m9 g9; have k9 := fJn_k p2 p3; unfold fJm at m9; rcases m9 with ⟨a9, rfl⟩ | ⟨a9, rfl⟩ | ⟨a9, rfl⟩ | ⟨a9, rfl⟩ | ⟨a9, rfl⟩ | ⟨a9, rfl⟩ | ⟨a9, rfl⟩ | ⟨a9, rfl⟩ | ⟨a9, rfl⟩ <;> first | (clear g9; exfalso; clear k9; omega) | (clear g9; omega) | (have b9 := fJg_b g9 (Or.inr rfl); exact fJn_10 b9.1 b9.2) | (have b9 := fJg_b g9 (Or.inl rfl); have q9 := fJn_11 b9.1 b9.2; clear g9 b9; omega))⟩
    · refine zj_iload_n (zdk ttX11_twoOf 10 rfl rfl) rfl ?_
      refine zj_iload_n (zdk ttX11_twoOf 11 rfl rfl) rfl ?_
      refine zj_isub (zdk ttX11_twoOf 12 rfl rfl) ?_
      refine zj_wrap ?_
      have b18 := zwp_in (p2 - p3)
      exact zj_iret rfl (zdk ttX11_twoOf 13 rfl rfl) (Nat.le_refl _) (Nat.le_refl _) ⟨(zwp (p2 - p3)), rfl, rfl, by omega, (by intro e9 m9 g9; have k9 := fJn_k p2 p3; unfold fJm at m9; rcases m9 with ⟨a9, rfl⟩ | ⟨a9, rfl⟩ | ⟨a9, rfl⟩ | ⟨a9, rfl⟩ | ⟨a9, rfl⟩ | ⟨a9, rfl⟩ | ⟨a9, rfl⟩ | ⟨a9, rfl⟩ | ⟨a9, rfl⟩ <;> first | (clear g9; exfalso; clear k9; omega) | (clear g9; omega) | (have b9 := fJg_b g9 (Or.inr rfl); exact fJn_10 b9.1 b9.2) | (have b9 := fJg_b g9 (Or.inl rfl); have q9 := fJn_11 b9.1 b9.2; clear g9 b9; omega))⟩
  · refine zj_iload_n (zdk ttX11_twoOf 3 rfl rfl) rfl ?_
    refine zj_iload_n (zdk ttX11_twoOf 4 rfl rfl) rfl ?_
    refine zj_iadd (zdk ttX11_twoOf 5 rfl rfl) ?_
    refine zj_wrap ?_
    have b19 := zwp_in (p2 + p3)
    exact zj_iret rfl (zdk ttX11_twoOf 6 rfl rfl) (Nat.le_refl _) (Nat.le_refl _) ⟨(zwp (p2 + p3)), rfl, rfl, by omega, (by intro e9 m9 g9; have k9 := fJn_k p2 p3; unfold fJm at m9; rcases m9 with ⟨a9, rfl⟩ | ⟨a9, rfl⟩ | ⟨a9, rfl⟩ | ⟨a9, rfl⟩ | ⟨a9, rfl⟩ | ⟨a9, rfl⟩ | ⟨a9, rfl⟩ | ⟨a9, rfl⟩ | ⟨a9, rfl⟩ <;> first | (clear g9; exfalso; clear k9; omega) | (clear g9; omega) | (have b9 := fJg_b g9 (Or.inr rfl); exact fJn_10 b9.1 b9.2) | (have b9 := fJg_b g9 (Or.inl rfl); have q9 := fJn_11 b9.1 b9.2; clear g9 b9; omega))⟩

