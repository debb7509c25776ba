theorem wa_int : Cond.arrayClass .int ∈ zt := zt_a1 111 rfl rfl
theorem wa_bool : Cond.arrayClass .boolean ∈ zt := zt_a2 29 rfl rfl
theorem zfill_n {h : zM} {c a b v x y : Int} (e : ¬ x = c) : (zfill h c a b v).2 x y = h.2 x y := if_neg (fun q => e q.1)
theorem k140 {h : zM} (s : okC h) (e : h.2 0 10 = 140) : shC 140 = .inr (0, 10000) ∧ (0 : Int) ≤ 140 ∧ (140 : Int) < h.1 := by
  refine ⟨by unfold shC; rw [kka_140]; rfl, by decide, ?_⟩
  rcases s.2.2.2 with q | q
  · omega
  · rw [q.2]; decide
def rmS (d : Nat) : Room := { frames := d, cells := 1, slots := 10000, locals := 80 * d }
theorem rm_okS {d d' nL : Nat} (h1 : d' < d) (h2 : nL ≤ 50) : zRm (rmS d) (rmL d') nL 1 10000 0 0 := ⟨rfl, rfl, ⟨h1, by show 8 + (nL + 11) + 80 * d' ≤ 80 * d; omega⟩, Nat.le_refl _, Nat.le_refl _⟩
theorem rm_okS0 {d d' nL : Nat} (h1 : d' < d) (h2 : nL ≤ 50) : zRm (rmS d) (rmL d') nL 0 0 0 0 := ⟨rfl, rfl, ⟨h1, by show 8 + (nL + 11) + 80 * d' ≤ 80 * d; omega⟩, Nat.zero_le _, Nat.zero_le _⟩
theorem rm_okS1 {d d' nL : Nat} (h1 : d' < d) (h2 : nL ≤ 50) : zRm (rmS d) (rmS d') nL 0 0 1 10000 := ⟨rfl, rfl, ⟨h1, by show 8 + (nL + 11) + 80 * d' ≤ 80 * d; omega⟩, Nat.le_refl _, Nat.le_refl _⟩
theorem rm_mS {d : Nat} (h : 1 ≤ d) : (1 ≤ (rmS d).frames ∧ 40 ≤ (rmS d).locals) ∧ 1 ≤ (rmS d).cells ∧ 10000 ≤ (rmS d).slots := ⟨⟨h, by show 40 ≤ 80 * d; omega⟩, Nat.le_refl _, Nat.le_refl _⟩
/-- the row of sums is made -/
theorem okC_new {h h1 h2 : zM} (s : okC h) (e0 : h.2 0 10 = -1) (e1 : h1 = znew h (fun _ => 0)) (e2 : h2 = zwr h1 0 10 140) : okC h2 ∧ h2.2 0 10 = 140 := by
  have hn : h.1 = 140 := by rcases s.2.2.2 with q | q; exact q.2; omega
  have hnc : (h.1 : Int) = 140 := by omega
  have e3 : ∀ a b, ¬ a = 140 → h1.2 a b = h.2 a b := fun a b q => by rw [e1, znew_n (by omega)]
  have e4 : ∀ b, h1.2 140 b = 0 := fun b => by rw [e1, ← hnc]; exact znew_s
  have e5 : h1.1 = 141 := by rw [e1]; show h.1 + 1 = 141; omega
  subst e2
  refine ⟨⟨by show 140 ≤ h1.1; omega, fun a b => ?_, fun b q1 q2 => ?_, Or.inr ⟨zwr_s _ _ _ _, e5⟩⟩, zwr_s _ _ _ _⟩
  · by_cases q : a = 0 ∧ b = 10
    · rw [q.1, q.2, zwr_s]
      exact PC_k (kk_L0) (show (-1 : Int) ≤ 140 ∧ (140 : Int) ≤ 140 by decide)
    · rw [zwr_n q]
      by_cases q2 : a = 140
      · rw [q2, e4]; exact pa_140 (by decide) b
      · rw [e3 a b q2]; exact s.2.1 a b
  · rw [zwr_n (by omega), e3 114 b (by decide)]; exact s.2.2.1 b q1 q2
abbrev q2_X3_run (h : zM) (c : Int) (p1 : Int) (p2 : Int) (p3 : Int) (p4 : Int) : Option zV → zM → Prop := zqi fun v h' => ((-2147483648) ≤ v ∧ v ≤ 2147483647) ∧ okC h' ∧ (h'.2 0 10 = h.2 0 10)
set_option maxRecDepth 100000 in
set_option maxHeartbeats 4000000 in
theorem s2_X3_run (l : Launch) (h : zM) (c : Int) (p1 : Int) (p2 : Int) (p3 : Int) (p4 : Int) (s0 : okC h) (hc : zLw c) (b_p1 : 0 ≤ p1 ∧ p1 ≤ 400) (b_p2 : 0 ≤ p2 ∧ p2 ≤ 400) (r_p3 : zWd p3) (b_p4 : 0 ≤ p4 ∧ p4 ≤ 17) : zT shC l yX3_run cX3_run 8 (some .int) (rmL 3) 0 0 [.inr c, .inl p1, .inl p2, .inr p3, .inl p4] h (q2_X3_run h c p1 p2 p3 p4) := by
  refine zT_of (by decide +kernel) (L0 := [some (.inr c), some (.inl p1), some (.inl p2), some (.inr p3), some (.inl p4), none, none, none]) rfl (Nat.le_of_ble_eq_true rfl) ?_
  have b1 := zLw_b hc
  have b2 := zWd_b r_p3
  refine zj_iconst (zdk ttX3_run 0 rfl rfl) ?_
  refine zj_istore (L' := [some (.inr c), some (.inl p1), some (.inl p2), some (.inr p3), some (.inl p4), some (.inl 0), none, none]) (zdk ttX3_run 1 rfl rfl) (by decide) rfl ?_
  refine zj_iload_n (zdk ttX3_run 2 rfl rfl) rfl ?_
  refine zj_istore (L' := [some (.inr c), some (.inl p1), some (.inl p2), some (.inr p3), some (.inl p4), some (.inl 0), some (.inl p1), none]) (zdk ttX3_run 3 rfl rfl) (by decide) rfl ?_
  have lp248 : ∀ (n : Nat) (x3 x4 : Int) (h5 : zM), (0 ≤ x3 ∧ x3 ≤ 64) → (0 ≤ x4 ∧ x4 ≤ 400) → okC h5 → (h5.2 0 10 = h.2 0 10) → (401 - x4).toNat < n → zJ shC l yX3_run cX3_run 8 (some .int) (rmL 3) 0 0 (q2_X3_run h c p1 p2 p3 p4) 0 0 6 [some (.inr c), some (.inl p1), some (.inl p2), some (.inr p3), some (.inl p4), some (.inl x3), some (.inl x4), none] [] h5 := by
    intro n
    induction n with
    | zero => intro x3 x4 h5 b249 b250 s6 u251 m252; exact absurd m252 (Nat.not_lt_zero _)
    | succ n ih253 =>
      intro x3 x4 h5 b249 b250 s6 u251 m252
      refine zj_iload (zdk ttX3_run 4 rfl rfl) rfl ?_
      refine zj_iload_n (zdk ttX3_run 5 rfl rfl) rfl ?_
      refine zj_icmp_ge (t := 167) (zdk ttX3_run 6 rfl rfl) (by decide) (by omega) (by omega) (fun c254 => ?_) (fun c254 => ?_)
      · refine zj_iload (zdk ttX3_run 84 rfl rfl) rfl ?_
        refine zj_if_le (t := 184) (zdk ttX3_run 85 rfl rfl) (by decide) (by omega) (fun c255 => ?_) (fun c255 => ?_)
        · refine zj_iconst (zdk ttX3_run 93 rfl rfl) ?_
          exact zj_iret rfl (zdk ttX3_run 94 rfl rfl) (Nat.le_refl _) (Nat.le_refl _) ⟨0, rfl, by omega, s6, u251⟩
        · refine zj_aload_n (zdk ttX3_run 86 rfl rfl) rfl (by omega) ?_
          refine zj_getr (r := (c + 6)) (zdk ttX3_run 87 rfl rfl) zf_RX3_29 rfl (k_3_0 s6 hc) (rf_3_0_5 s6 hc) ?_
          refine zj_iload (zdk ttX3_run 88 rfl rfl) rfl ?_
          refine zj_iconst (zdk ttX3_run 89 rfl rfl) ?_
          refine zj_isub (zdk ttX3_run 90 rfl rfl) ?_
          have b256 : -2147483648 ≤ (h5.2 (c + 6) (x3 - 1)) ∧ (h5.2 (c + 6) (x3 - 1)) ≤ 2147483647 := ab_3_0_5 s6 hc (x3 - 1)
          refine zj_iald (v := (h5.2 (c + 6) (x3 - 1))) (zdk ttX3_run 91 rfl rfl) (ka_3_0_5 s6 hc) (by decide) (by omega) rfl ?_
          refine zj_goto (t := 185) (zdk ttX3_run 92 rfl rfl) (by decide) ?_
          exact zj_iret rfl (zdk ttX3_run 94 rfl rfl) (Nat.le_refl _) (Nat.le_refl _) ⟨(h5.2 (c + 6) (x3 - 1)), rfl, by omega, s6, u251⟩
      · refine zj_iload (zdk ttX3_run 7 rfl rfl) rfl ?_
        refine zj_sipush (zdk ttX3_run 8 rfl rfl) (by decide) ?_
        refine zj_icmp_ge (t := 167) (zdk ttX3_run 9 rfl rfl) (by decide) (by omega) (by decide) (fun c257 => ?_) (fun c257 => ?_)
        · exact absurd c257 (by omega)
        · refine zj_aload_n (zdk ttX3_run 10 rfl rfl) rfl (by omega) ?_
          refine zj_getr (r := (c + 5)) (zdk ttX3_run 11 rfl rfl) zf_RX3_26 rfl (k_3_0 s6 hc) (rf_3_0_4 s6 hc) ?_
          refine zj_iload (zdk ttX3_run 12 rfl rfl) rfl ?_
          have b258 : -2147483648 ≤ (h5.2 (c + 5) x4) ∧ (h5.2 (c + 5) x4) ≤ 2147483647 := ab_3_0_4 s6 hc x4
          refine zj_iald (v := (h5.2 (c + 5) x4)) (zdk ttX3_run 13 rfl rfl) (ka_3_0_4 s6 hc) (by decide) (by omega) rfl ?_
          refine zj_istore (L' := [some (.inr c), some (.inl p1), some (.inl p2), some (.inr p3), some (.inl p4), some (.inl x3), some (.inl x4), some (.inl (h5.2 (c + 5) x4))]) (zdk ttX3_run 14 rfl rfl) (by decide) rfl ?_
          refine zj_iload (zdk ttX3_run 15 rfl rfl) rfl ?_
          refine zj_sipush (zdk ttX3_run 16 rfl rfl) (by decide) ?_
          refine zj_icmp_ge (t := 82) (zdk ttX3_run 17 rfl rfl) (by decide) (by omega) (by decide) (fun c259 => ?_) (fun c259 => ?_)
          · refine zj_iload (zdk ttX3_run 38 rfl rfl) rfl ?_
            refine zj_sipush (zdk ttX3_run 39 rfl rfl) (by decide) ?_
            refine zj_icmp_ne (t := 118) (zdk ttX3_run 40 rfl rfl) (by decide) (by omega) (by decide) (fun c260 => ?_) (fun c260 => ?_)
            · refine zj_iload (zdk ttX3_run 58 rfl rfl) rfl ?_
              refine zj_iconst (zdk ttX3_run 59 rfl rfl) ?_
              refine zj_icmp_le (t := 161) (zdk ttX3_run 60 rfl rfl) (by decide) (by omega) (by decide) (fun c261 => ?_) (fun c261 => ?_)
              · refine zj_iinc (L' := [some (.inr c), some (.inl p1), some (.inl p2), some (.inr p3), some (.inl p4), some (.inl x3), some (.inl (x4 + 1)), some (.inl (h5.2 (c + 5) x4))]) (zdk ttX3_run 82 rfl rfl) rfl (by decide) rfl ?_
                refine zj_goto (t := 6) (zdk ttX3_run 83 rfl rfl) (by decide) ?_
                refine zj_kill (k := 7) (L' := [some (.inr c), some (.inl p1), some (.inl p2), some (.inr p3), some (.inl p4), some (.inl x3), some (.inl (x4 + 1)), none]) rfl ?_
                exact ih253  x3 (x4 + 1) h5 (by omega) (by omega) s6 u251 (by omega)
              · refine zj_iinc (L' := [some (.inr c), some (.inl p1), some (.inl p2), some (.inr p3), some (.inl p4), some (.inl (x3 + (-1))), some (.inl x4), some (.inl (h5.2 (c + 5) x4))]) (zdk ttX3_run 61 rfl rfl) rfl (by decide) rfl ?_
                refine zj_aload_n (zdk ttX3_run 62 rfl rfl) rfl (by omega) ?_
                refine zj_getr (r := (c + 6)) (zdk ttX3_run 63 rfl rfl) zf_RX3_29 rfl (k_3_0 s6 hc) (rf_3_0_5 s6 hc) ?_
                refine zj_iload (zdk ttX3_run 64 rfl rfl) rfl ?_
                refine zj_iconst (zdk ttX3_run 65 rfl rfl) ?_
                refine zj_isub (zdk ttX3_run 66 rfl rfl) ?_
                refine zj_iload (zdk ttX3_run 67 rfl rfl) rfl ?_
                refine zj_sipush (zdk ttX3_run 68 rfl rfl) (by decide) ?_
                refine zj_isub (zdk ttX3_run 69 rfl rfl) ?_
                refine zj_aload_n (zdk ttX3_run 70 rfl rfl) rfl (by omega) ?_
                refine zj_getr (r := (c + 6)) (zdk ttX3_run 71 rfl rfl) zf_RX3_29 rfl (k_3_0 s6 hc) (rf_3_0_5 s6 hc) ?_
                refine zj_iload (zdk ttX3_run 72 rfl rfl) rfl ?_
                refine zj_iconst (zdk ttX3_run 73 rfl rfl) ?_
                refine zj_isub (zdk ttX3_run 74 rfl rfl) ?_
                have b262 : -2147483648 ≤ (h5.2 (c + 6) ((x3 + (-1)) - 1)) ∧ (h5.2 (c + 6) ((x3 + (-1)) - 1)) ≤ 2147483647 := ab_3_0_5 s6 hc ((x3 + (-1)) - 1)
                refine zj_iald (v := (h5.2 (c + 6) ((x3 + (-1)) - 1))) (zdk ttX3_run 75 rfl rfl) (ka_3_0_5 s6 hc) (by decide) (by omega) rfl ?_
                refine zj_aload_n (zdk ttX3_run 76 rfl rfl) rfl (by omega) ?_
                refine zj_getr (r := (c + 6)) (zdk ttX3_run 77 rfl rfl) zf_RX3_29 rfl (k_3_0 s6 hc) (rf_3_0_5 s6 hc) ?_
                refine zj_iload (zdk ttX3_run 78 rfl rfl) rfl ?_
                have b263 : -2147483648 ≤ (h5.2 (c + 6) (x3 + (-1))) ∧ (h5.2 (c + 6) (x3 + (-1))) ≤ 2147483647 := ab_3_0_5 s6 hc (x3 + (-1))
                refine zj_iald (v := (h5.2 (c + 6) (x3 + (-1)))) (zdk ttX3_run 79 rfl rfl) (ka_3_0_5 s6 hc) (by decide) (by omega) rfl ?_
                refine zj_callS (av := [.inl ((h5.2 (c + 5) x4) - 20000), .inl (h5.2 (c + 6) ((x3 + (-1)) - 1)), .inl (h5.2 (c + 6) (x3 + (-1)))]) (st := [.inl ((x3 + (-1)) - 1), .inr (c + 6)]) (zdk ttX3_run 80 rfl rfl) mb_X3_joined ms_RX3_51 rfl rfl (Nat.le_of_ble_eq_true rfl) (s_X3_joined l h5 ((h5.2 (c + 5) x4) - 20000) (h5.2 (c + 6) ((x3 + (-1)) - 1)) (h5.2 (c + 6) (x3 + (-1))) s6 (by omega) (by omega) (by omega)) (rm_ok (by decide) (by decide)) (zq_i fun v265 h266 q264 => ?_)
                obtain ⟨rfl, b267⟩ := q264
                refine zj_iast (zdk ttX3_run 81 rfl rfl) (ka_3_0_5 s6 hc) (by decide) (by omega) (fun h268 e269 => ?_)
                refine zj_iinc (L' := [some (.inr c), some (.inl p1), some (.inl p2), some (.inr p3), some (.inl p4), some (.inl (x3 + (-1))), some (.inl (x4 + 1)), some (.inl (h5.2 (c + 5) x4))]) (zdk ttX3_run 82 rfl rfl) rfl (by decide) rfl ?_
                refine zj_goto (t := 6) (zdk ttX3_run 83 rfl rfl) (by decide) ?_
                refine zj_kill (k := 7) (L' := [some (.inr c), some (.inl p1), some (.inl p2), some (.inr p3), some (.inl p4), some (.inl (x3 + (-1))), some (.inl (x4 + 1)), none]) rfl ?_
                have s270 : okC h268 := aw_3_0_5 s6 hc e269 (by omega)
                exact ih253  (x3 + (-1)) (x4 + 1) h268 (by omega) (by omega) s270 ((zwr_r (a := 0) (b := 10) e269 (by omega)).trans u251) (by omega)
            · refine zj_iload (zdk ttX3_run 41 rfl rfl) rfl ?_
              refine zj_if_le (t := 161) (zdk ttX3_run 42 rfl rfl) (by decide) (by omega) (fun c271 => ?_) (fun c271 => ?_)
              · refine zj_iinc (L' := [some (.inr c), some (.inl p1), some (.inl p2), some (.inr p3), some (.inl p4), some (.inl x3), some (.inl (x4 + 1)), some (.inl (h5.2 (c + 5) x4))]) (zdk ttX3_run 82 rfl rfl) rfl (by decide) rfl ?_
                refine zj_goto (t := 6) (zdk ttX3_run 83 rfl rfl) (by decide) ?_
                refine zj_kill (k := 7) (L' := [some (.inr c), some (.inl p1), some (.inl p2), some (.inr p3), some (.inl p4), some (.inl x3), some (.inl (x4 + 1)), none]) rfl ?_
                exact ih253  x3 (x4 + 1) h5 (by omega) (by omega) s6 u251 (by omega)
              · refine zj_aload_n (zdk ttX3_run 43 rfl rfl) rfl (by omega) ?_
                refine zj_getr (r := (c + 6)) (zdk ttX3_run 44 rfl rfl) zf_RX3_29 rfl (k_3_0 s6 hc) (rf_3_0_5 s6 hc) ?_
                refine zj_iload (zdk ttX3_run 45 rfl rfl) rfl ?_
                refine zj_iconst (zdk ttX3_run 46 rfl rfl) ?_
                refine zj_isub (zdk ttX3_run 47 rfl rfl) ?_
                refine zj_iconst (zdk ttX3_run 48 rfl rfl) ?_
                refine zj_aload_n (zdk ttX3_run 49 rfl rfl) rfl (by omega) ?_
                refine zj_getr (r := (c + 6)) (zdk ttX3_run 50 rfl rfl) zf_RX3_29 rfl (k_3_0 s6 hc) (rf_3_0_5 s6 hc) ?_
                refine zj_iload (zdk ttX3_run 51 rfl rfl) rfl ?_
                refine zj_iconst (zdk ttX3_run 52 rfl rfl) ?_
                refine zj_isub (zdk ttX3_run 53 rfl rfl) ?_
                have b272 : -2147483648 ≤ (h5.2 (c + 6) (x3 - 1)) ∧ (h5.2 (c + 6) (x3 - 1)) ≤ 2147483647 := ab_3_0_5 s6 hc (x3 - 1)
                refine zj_iald (v := (h5.2 (c + 6) (x3 - 1))) (zdk ttX3_run 54 rfl rfl) (ka_3_0_5 s6 hc) (by decide) (by omega) rfl ?_
                refine zj_isub (zdk ttX3_run 55 rfl rfl) ?_
                refine zj_wrap ?_
                have b273 := zwp_in (1 - (h5.2 (c + 6) (x3 - 1)))
                refine zj_iast (zdk ttX3_run 56 rfl rfl) (ka_3_0_5 s6 hc) (by decide) (by omega) (fun h274 e275 => ?_)
                refine zj_goto (t := 161) (zdk ttX3_run 57 rfl rfl) (by decide) ?_
                refine zj_iinc (L' := [some (.inr c), some (.inl p1), some (.inl p2), some (.inr p3), some (.inl p4), some (.inl x3), some (.inl (x4 + 1)), some (.inl (h5.2 (c + 5) x4))]) (zdk ttX3_run 82 rfl rfl) rfl (by decide) rfl ?_
                refine zj_goto (t := 6) (zdk ttX3_run 83 rfl rfl) (by decide) ?_
                refine zj_kill (k := 7) (L' := [some (.inr c), some (.inl p1), some (.inl p2), some (.inr p3), some (.inl p4), some (.inl x3), some (.inl (x4 + 1)), none]) rfl ?_
                have s276 : okC h274 := aw_3_0_5 s6 hc e275 (by omega)
                exact ih253  x3 (x4 + 1) h274 (by omega) (by omega) s276 ((zwr_r (a := 0) (b := 10) e275 (by omega)).trans u251) (by omega)
          · refine zj_iload (zdk ttX3_run 18 rfl rfl) rfl ?_
            refine zj_bipush (zdk ttX3_run 19 rfl rfl) (by decide) ?_
            refine zj_icmp_ge (t := 161) (zdk ttX3_run 20 rfl rfl) (by decide) (by omega) (by decide) (fun c277 => ?_) (fun c277 => ?_)
            · refine zj_iinc (L' := [some (.inr c), some (.inl p1), some (.inl p2), some (.inr p3), some (.inl p4), some (.inl x3), some (.inl (x4 + 1)), some (.inl (h5.2 (c + 5) x4))]) (zdk ttX3_run 82 rfl rfl) rfl (by decide) rfl ?_
              refine zj_goto (t := 6) (zdk ttX3_run 83 rfl rfl) (by decide) ?_
              refine zj_kill (k := 7) (L' := [some (.inr c), some (.inl p1), some (.inl p2), some (.inr p3), some (.inl p4), some (.inl x3), some (.inl (x4 + 1)), none]) rfl ?_
              exact ih253  x3 (x4 + 1) h5 (by omega) (by omega) s6 u251 (by omega)
            · refine zj_aload_n (zdk ttX3_run 21 rfl rfl) rfl (by omega) ?_
              refine zj_getr (r := (c + 6)) (zdk ttX3_run 22 rfl rfl) zf_RX3_29 rfl (k_3_0 s6 hc) (rf_3_0_5 s6 hc) ?_
              refine zj_iload (zdk ttX3_run 23 rfl rfl) rfl ?_
              refine zj_iinc (L' := [some (.inr c), some (.inl p1), some (.inl p2), some (.inr p3), some (.inl p4), some (.inl (x3 + 1)), some (.inl x4), some (.inl (h5.2 (c + 5) x4))]) (zdk ttX3_run 24 rfl rfl) rfl (by decide) rfl ?_
              refine zj_iload (zdk ttX3_run 25 rfl rfl) rfl ?_
              refine zj_sipush (zdk ttX3_run 26 rfl rfl) (by decide) ?_
              refine zj_icmp_ge (t := 66) (zdk ttX3_run 27 rfl rfl) (by decide) (by omega) (by decide) (fun c278 => ?_) (fun c278 => ?_)
              · refine zj_aload_n (zdk ttX3_run 30 rfl rfl) rfl (by omega) ?_
                refine zj_iload (zdk ttX3_run 31 rfl rfl) rfl ?_
                refine zj_sipush (zdk ttX3_run 32 rfl rfl) (by decide) ?_
                refine zj_isub (zdk ttX3_run 33 rfl rfl) ?_
                refine zj_iload (zdk ttX3_run 34 rfl rfl) rfl ?_
                refine zj_callV (av := [.inl ((h5.2 (c + 5) x4) - 10000), .inl p4]) (st := [.inl x3, .inr (c + 6)]) (zdk ttX3_run 35 rfl rfl) mb_X9_valueOf mv_RX3_45 (ci := 9) rfl rfl (k_9_0 s6 r_p3) rfl rfl (Nat.le_of_ble_eq_true rfl) (s_X9_valueOf l h5 p3 ((h5.2 (c + 5) x4) - 10000) p4 s6 r_p3 (by omega) (by omega)) (rm_ok (by decide) (by decide)) (zq_i fun v280 h281 q279 => ?_)
                obtain ⟨rfl, b282⟩ := q279
                refine zj_iast (zdk ttX3_run 36 rfl rfl) (ka_3_0_5 s6 hc) (by decide) (by omega) (fun h283 e284 => ?_)
                refine zj_goto (t := 161) (zdk ttX3_run 37 rfl rfl) (by decide) ?_
                refine zj_iinc (L' := [some (.inr c), some (.inl p1), some (.inl p2), some (.inr p3), some (.inl p4), some (.inl (x3 + 1)), some (.inl (x4 + 1)), some (.inl (h5.2 (c + 5) x4))]) (zdk ttX3_run 82 rfl rfl) rfl (by decide) rfl ?_
                refine zj_goto (t := 6) (zdk ttX3_run 83 rfl rfl) (by decide) ?_
                refine zj_kill (k := 7) (L' := [some (.inr c), some (.inl p1), some (.inl p2), some (.inr p3), some (.inl p4), some (.inl (x3 + 1)), some (.inl (x4 + 1)), none]) rfl ?_
                have s285 : okC h283 := aw_3_0_5 s6 hc e284 (by omega)
                exact ih253  (x3 + 1) (x4 + 1) h283 (by omega) (by omega) s285 ((zwr_r (a := 0) (b := 10) e284 (by omega)).trans u251) (by omega)
              · refine zj_iload (zdk ttX3_run 28 rfl rfl) rfl ?_
                refine zj_goto (t := 78) (zdk ttX3_run 29 rfl rfl) (by decide) ?_
                refine zj_iast (zdk ttX3_run 36 rfl rfl) (ka_3_0_5 s6 hc) (by decide) (by omega) (fun h286 e287 => ?_)
                refine zj_goto (t := 161) (zdk ttX3_run 37 rfl rfl) (by decide) ?_
                refine zj_iinc (L' := [some (.inr c), some (.inl p1), some (.inl p2), some (.inr p3), some (.inl p4), some (.inl (x3 + 1)), some (.inl (x4 + 1)), some (.inl (h5.2 (c + 5) x4))]) (zdk ttX3_run 82 rfl rfl) rfl (by decide) rfl ?_
                refine zj_goto (t := 6) (zdk ttX3_run 83 rfl rfl) (by decide) ?_
                refine zj_kill (k := 7) (L' := [some (.inr c), some (.inl p1), some (.inl p2), some (.inr p3), some (.inl p4), some (.inl (x3 + 1)), some (.inl (x4 + 1)), none]) rfl ?_
                have s288 : okC h286 := aw_3_0_5 s6 hc e287 (by omega)
                exact ih253  (x3 + 1) (x4 + 1) h286 (by omega) (by omega) s288 ((zwr_r (a := 0) (b := 10) e287 (by omega)).trans u251) (by omega)
  exact lp248 _ 0 p1 h (by omega) (by omega) s0 rfl (Nat.lt_succ_self _)

abbrev q2_X9_tells (h : zM) (c : Int) (p1 : Int) (p2 : Int) : Option zV → zM → Prop := zqi fun v h' => (0 ≤ v ∧ v ≤ 1000) ∧ okC h' ∧ (h'.2 0 10 = h.2 0 10)
set_option maxRecDepth 100000 in
set_option maxHeartbeats 4000000 in
theorem s2_X9_tells (l : Launch) (h : zM) (c : Int) (p1 : Int) (p2 : Int) (s0 : okC h) (hc : zWd c) (b_p1 : (-2147483648) ≤ p1 ∧ p1 ≤ 2147483647) (b_p2 : 0 ≤ p2 ∧ p2 ≤ 17) : zT shC l yX9_tells cX9_tells 6 (some .int) (rmL 4) 0 0 [.inr c, .inl p1, .inl p2] h (q2_X9_tells h c p1 p2) := by
  refine zT_of (by decide +kernel) (L0 := [some (.inr c), some (.inl p1), some (.inl p2), none, none, none]) rfl (Nat.le_of_ble_eq_true rfl) ?_
  have b1 := zWd_b hc
  refine zj_iload_n (zdk ttX9_tells 0 rfl rfl) rfl ?_
  refine zj_iconst (zdk ttX9_tells 1 rfl rfl) ?_
  refine zj_icmp_ne (t := 11) (zdk ttX9_tells 2 rfl rfl) (by decide) (by omega) (by decide) (fun c2 => ?_) (fun c2 => ?_)
  · refine zj_sipush (zdk ttX9_tells 5 rfl rfl) (by decide) ?_
    refine zj_istore_n (L' := [some (.inr c), some (.inl p1), some (.inl p2), some (.inl 1000), none, none]) (zdk ttX9_tells 6 rfl rfl) (by decide) rfl ?_
    refine zj_iconst (zdk ttX9_tells 7 rfl rfl) ?_
    refine zj_istore (L' := [some (.inr c), some (.inl p1), some (.inl p2), some (.inl 1000), some (.inl 0), none]) (zdk ttX9_tells 8 rfl rfl) (by decide) rfl ?_
    have lp86 : ∀ (n : Nat) (x3 : Int) (h4 : zM), (0 ≤ x3 ∧ x3 ≤ 16) → okC h4 → (h4.2 0 10 = h.2 0 10) → (17 - x3).toNat < n → zJ shC l yX9_tells cX9_tells 6 (some .int) (rmL 4) 0 0 (q2_X9_tells h c p1 p2) 0 0 18 [some (.inr c), some (.inl p1), some (.inl p2), some (.inl 1000), some (.inl x3), none] [] h4 := by
      intro n
      induction n with
      | zero => intro x3 h4 b87 s5 u88 m89; exact absurd m89 (Nat.not_lt_zero _)
      | succ n ih90 =>
        intro x3 h4 b87 s5 u88 m89
        refine zj_iload (zdk ttX9_tells 9 rfl rfl) rfl ?_
        refine zj_aload_n (zdk ttX9_tells 10 rfl rfl) rfl (by omega) ?_
        refine zj_getr (r := (c + 5)) (zdk ttX9_tells 11 rfl rfl) zf_RX9_21 rfl (k_9_0 s5 hc) (rf_9_0_1 s5 hc) ?_
        have b91 : 0 ≤ (h4.2 (c + 5) 6) ∧ (h4.2 (c + 5) 6) ≤ 16 := fb_9_5_6 s5 hc
        refine zj_geti (v := (h4.2 (c + 5) 6)) (zdk ttX9_tells 12 rfl rfl) zf_RX9_182 rfl (k_9_5 s5 hc) rfl ?_
        refine zj_icmp_ge (t := 154) (zdk ttX9_tells 13 rfl rfl) (by decide) (by omega) (by omega) (fun c92 => ?_) (fun c92 => ?_)
        · refine zj_iload_n (zdk ttX9_tells 75 rfl rfl) rfl ?_
          have k94 : (¬ p1 = 0 ∧ ¬ p1 = 1) → zJ shC l yX9_tells cX9_tells 6 (some .int) (rmL 4) 0 0 (q2_X9_tells h c p1 p2) 0 0 211 [some (.inr c), some (.inl p1), some (.inl p2), some (.inl 1000), some (.inl x3), none] [] h4 := by
            intro c93
            refine zj_sipush (zdk ttX9_tells 95 rfl rfl) (by decide) ?_
            refine zj_bipush (zdk ttX9_tells 96 rfl rfl) (by decide) ?_
            refine zj_aload_n (zdk ttX9_tells 97 rfl rfl) rfl (by omega) ?_
            refine zj_getr (r := (c + 1)) (zdk ttX9_tells 98 rfl rfl) zf_RX9_12 rfl (k_9_0 s5 hc) (rf_9_0_0 s5 hc) ?_
            refine zj_getr (r := (c + 3)) (zdk ttX9_tells 99 rfl rfl) zf_RX9_202 rfl (k_9_1 s5 hc) (rf_9_1_1 s5 hc) ?_
            refine zj_iload_n (zdk ttX9_tells 100 rfl rfl) rfl ?_
            have b95 : -2147483648 ≤ (h4.2 (c + 3) p2) ∧ (h4.2 (c + 3) p2) ≤ 2147483647 := ab_9_1_1 s5 hc p2
            refine zj_iald (v := (h4.2 (c + 3) p2)) (zdk ttX9_tells 101 rfl rfl) (ka_9_1_1 s5 hc) (by decide) (by omega) rfl ?_
            refine zj_imul (zdk ttX9_tells 102 rfl rfl) ?_
            refine zj_wrap ?_
            have b96 := zwp_in (50 * (h4.2 (c + 3) p2))
            refine zj_isub (zdk ttX9_tells 103 rfl rfl) ?_
            refine zj_wrap ?_
            have b97 := zwp_in (500 - (zwp (50 * (h4.2 (c + 3) p2))))
            refine zj_iload_n (zdk ttX9_tells 104 rfl rfl) rfl ?_
            refine zj_callS (av := [.inl (zwp (500 - (zwp (50 * (h4.2 (c + 3) p2))))), .inl 1000]) (st := []) (zdk ttX9_tells 105 rfl rfl) mb_X9_held ms_RX9_199 rfl rfl (Nat.le_of_ble_eq_true rfl) (s_X9_held l h4 (zwp (500 - (zwp (50 * (h4.2 (c + 3) p2))))) 1000 s5 (by omega) (by omega)) (rm_ok (by decide) (by decide)) (zq_i fun v99 h100 q98 => ?_)
            obtain ⟨rfl, b101, u102, u103⟩ := q98
            exact zj_iret rfl (zdk ttX9_tells 106 rfl rfl) (Nat.le_refl _) (Nat.le_refl _) ⟨v99, rfl, by omega, s5, u88⟩
          have k104 : p1 = 0 → zJ shC l yX9_tells cX9_tells 6 (some .int) (rmL 4) 0 0 (q2_X9_tells h c p1 p2) 0 0 180 [some (.inr c), some (.inl p1), some (.inl p2), some (.inl 1000), some (.inl x3), none] [] h4 := by
            intro c93
            refine zj_bipush (zdk ttX9_tells 77 rfl rfl) (by decide) ?_
            refine zj_aload_n (zdk ttX9_tells 78 rfl rfl) rfl (by omega) ?_
            refine zj_getr (r := (c + 1)) (zdk ttX9_tells 79 rfl rfl) zf_RX9_12 rfl (k_9_0 s5 hc) (rf_9_0_0 s5 hc) ?_
            refine zj_getr (r := (c + 3)) (zdk ttX9_tells 80 rfl rfl) zf_RX9_202 rfl (k_9_1 s5 hc) (rf_9_1_1 s5 hc) ?_
            refine zj_iload_n (zdk ttX9_tells 81 rfl rfl) rfl ?_
            have b105 : -2147483648 ≤ (h4.2 (c + 3) p2) ∧ (h4.2 (c + 3) p2) ≤ 2147483647 := ab_9_1_1 s5 hc p2
            refine zj_iald (v := (h4.2 (c + 3) p2)) (zdk ttX9_tells 82 rfl rfl) (ka_9_1_1 s5 hc) (by decide) (by omega) rfl ?_
            refine zj_imul (zdk ttX9_tells 83 rfl rfl) ?_
            refine zj_wrap ?_
            have b106 := zwp_in (80 * (h4.2 (c + 3) p2))
            refine zj_iload_n (zdk ttX9_tells 84 rfl rfl) rfl ?_
            refine zj_callS (av := [.inl (zwp (80 * (h4.2 (c + 3) p2))), .inl 1000]) (st := []) (zdk ttX9_tells 85 rfl rfl) mb_X9_held ms_RX9_199 rfl rfl (Nat.le_of_ble_eq_true rfl) (s_X9_held l h4 (zwp (80 * (h4.2 (c + 3) p2))) 1000 s5 (by omega) (by omega)) (rm_ok (by decide) (by decide)) (zq_i fun v108 h109 q107 => ?_)
            obtain ⟨rfl, b110, u111, u112⟩ := q107
            exact zj_iret rfl (zdk ttX9_tells 86 rfl rfl) (Nat.le_refl _) (Nat.le_refl _) ⟨v108, rfl, by omega, s5, u88⟩
          have k113 : p1 = 1 → zJ shC l yX9_tells cX9_tells 6 (some .int) (rmL 4) 0 0 (q2_X9_tells h c p1 p2) 0 0 197 [some (.inr c), some (.inl p1), some (.inl p2), some (.inl 1000), some (.inl x3), none] [] h4 := by
            intro c93
            refine zj_aload_n (zdk ttX9_tells 87 rfl rfl) rfl (by omega) ?_
            refine zj_getr (r := (c + 1)) (zdk ttX9_tells 88 rfl rfl) zf_RX9_12 rfl (k_9_0 s5 hc) (rf_9_0_0 s5 hc) ?_
            refine zj_getr (r := (c + 2)) (zdk ttX9_tells 89 rfl rfl) zf_RX9_205 rfl (k_9_1 s5 hc) (rf_9_1_0 s5 hc) ?_
            refine zj_iload_n (zdk ttX9_tells 90 rfl rfl) rfl ?_
            have b114 : -2147483648 ≤ (h4.2 (c + 2) p2) ∧ (h4.2 (c + 2) p2) ≤ 2147483647 := ab_9_1_0 s5 hc p2
            refine zj_iald (v := (h4.2 (c + 2) p2)) (zdk ttX9_tells 91 rfl rfl) (ka_9_1_0 s5 hc) (by decide) (by omega) rfl ?_
            refine zj_iload_n (zdk ttX9_tells 92 rfl rfl) rfl ?_
            refine zj_callS (av := [.inl (h4.2 (c + 2) p2), .inl 1000]) (st := []) (zdk ttX9_tells 93 rfl rfl) mb_X9_held ms_RX9_199 rfl rfl (Nat.le_of_ble_eq_true rfl) (s_X9_held l h4 (h4.2 (c + 2) p2) 1000 s5 (by omega) (by omega)) (rm_ok (by decide) (by decide)) (zq_i fun v116 h117 q115 => ?_)
            obtain ⟨rfl, b118, u119, u120⟩ := q115
            exact zj_iret rfl (zdk ttX9_tells 94 rfl rfl) (Nat.le_refl _) (Nat.le_refl _) ⟨v116, rfl, by omega, s5, u88⟩
          by_cases z121 : p1 = 0
          · exact zj_lookup (t := 180) (zdk ttX9_tells 76 rfl rfl) (by omega) rfl (by rw [z121] <;> rfl) (by decide) (k104 z121)
          by_cases z122 : p1 = 1
          · exact zj_lookup (t := 197) (zdk ttX9_tells 76 rfl rfl) (by omega) rfl (by rw [z122] <;> rfl) (by decide) (k113 z122)
          exact zj_lookup (t := 211) (zdk ttX9_tells 76 rfl rfl) (by omega) rfl (by show Op.lookupswitch.offset [(0, 25), (1, 42)] 56 p1 = _; rw [Op.lookupswitch.offset_cons, if_neg (by omega), Op.lookupswitch.offset_cons, if_neg (by omega), Op.lookupswitch.offset_nil]) (by decide) (k94 (by omega))
        · refine zj_aload_n (zdk ttX9_tells 14 rfl rfl) rfl (by omega) ?_
          refine zj_getr (r := (c + 5)) (zdk ttX9_tells 15 rfl rfl) zf_RX9_21 rfl (k_9_0 s5 hc) (rf_9_0_1 s5 hc) ?_
          refine zj_getr (r := (c + 6)) (zdk ttX9_tells 16 rfl rfl) zf_RX9_183 rfl (k_9_5 s5 hc) (rf_9_5_0 s5 hc) ?_
          refine zj_iload (zdk ttX9_tells 17 rfl rfl) rfl ?_
          have b123 : -2147483648 ≤ (h4.2 (c + 6) x3) ∧ (h4.2 (c + 6) x3) ≤ 2147483647 := ab_9_5_0 s5 hc x3
          refine zj_iald (v := (h4.2 (c + 6) x3)) (zdk ttX9_tells 18 rfl rfl) (ka_9_5_0 s5 hc) (by decide) (by omega) rfl ?_
          refine zj_iload_n (zdk ttX9_tells 19 rfl rfl) rfl ?_
          refine zj_icmp_eq (t := 47) (zdk ttX9_tells 20 rfl rfl) (by decide) (by omega) (by omega) (fun c124 => ?_) (fun c124 => ?_)
          · refine zj_aload_n (zdk ttX9_tells 22 rfl rfl) rfl (by omega) ?_
            refine zj_getr (r := (c + 5)) (zdk ttX9_tells 23 rfl rfl) zf_RX9_21 rfl (k_9_0 s5 hc) (rf_9_0_1 s5 hc) ?_
            refine zj_getr (r := (c + 8)) (zdk ttX9_tells 24 rfl rfl) zf_RX9_186 rfl (k_9_5 s5 hc) (rf_9_5_2 s5 hc) ?_
            refine zj_iload (zdk ttX9_tells 25 rfl rfl) rfl ?_
            have b125 : 0 ≤ (h4.2 (c + 8) x3) ∧ (h4.2 (c + 8) x3) ≤ 400 := ab_9_5_2 s5 hc x3
            refine zj_iald (v := (h4.2 (c + 8) x3)) (zdk ttX9_tells 26 rfl rfl) (ka_9_5_2 s5 hc) (by decide) (by omega) rfl ?_
            refine zj_aload_n (zdk ttX9_tells 27 rfl rfl) rfl (by omega) ?_
            refine zj_getr (r := (c + 5)) (zdk ttX9_tells 28 rfl rfl) zf_RX9_21 rfl (k_9_0 s5 hc) (rf_9_0_1 s5 hc) ?_
            refine zj_getr (r := (c + 9)) (zdk ttX9_tells 29 rfl rfl) zf_RX9_189 rfl (k_9_5 s5 hc) (rf_9_5_3 s5 hc) ?_
            refine zj_iload (zdk ttX9_tells 30 rfl rfl) rfl ?_
            have b126 : 0 ≤ (h4.2 (c + 9) x3) ∧ (h4.2 (c + 9) x3) ≤ 400 := ab_9_5_3 s5 hc x3
            refine zj_iald (v := (h4.2 (c + 9) x3)) (zdk ttX9_tells 31 rfl rfl) (ka_9_5_3 s5 hc) (by decide) (by omega) rfl ?_
            refine zj_icmp_ne (t := 74) (zdk ttX9_tells 32 rfl rfl) (by decide) (by omega) (by omega) (fun c127 => ?_) (fun c127 => ?_)
            · refine zj_iconst (zdk ttX9_tells 35 rfl rfl) ?_
              refine zj_istore (L' := [some (.inr c), some (.inl p1), some (.inl p2), some (.inl 1000), some (.inl x3), some (.inl 0)]) (zdk ttX9_tells 36 rfl rfl) (by decide) rfl ?_
              refine zj_iload (zdk ttX9_tells 37 rfl rfl) rfl ?_
              refine zj_if_ne (t := 114) (zdk ttX9_tells 38 rfl rfl) (by decide) (by decide) (fun c128 => ?_) (fun c128 => ?_)
              · exact absurd c128 (by omega)
              · refine zj_aload_n (zdk ttX9_tells 39 rfl rfl) rfl (by omega) ?_
                refine zj_getr (r := (c + 5)) (zdk ttX9_tells 40 rfl rfl) zf_RX9_21 rfl (k_9_0 s5 hc) (rf_9_0_1 s5 hc) ?_
                refine zj_aload_n (zdk ttX9_tells 41 rfl rfl) rfl (by omega) ?_
                refine zj_getr (r := (c + 5)) (zdk ttX9_tells 42 rfl rfl) zf_RX9_21 rfl (k_9_0 s5 hc) (rf_9_0_1 s5 hc) ?_
                refine zj_getr (r := (c + 8)) (zdk ttX9_tells 43 rfl rfl) zf_RX9_186 rfl (k_9_5 s5 hc) (rf_9_5_2 s5 hc) ?_
                refine zj_iload (zdk ttX9_tells 44 rfl rfl) rfl ?_
                refine zj_iald (v := (h4.2 (c + 8) x3)) (zdk ttX9_tells 45 rfl rfl) (ka_9_5_2 s5 hc) (by decide) (by omega) rfl ?_
                refine zj_aload_n (zdk ttX9_tells 46 rfl rfl) rfl (by omega) ?_
                refine zj_getr (r := (c + 5)) (zdk ttX9_tells 47 rfl rfl) zf_RX9_21 rfl (k_9_0 s5 hc) (rf_9_0_1 s5 hc) ?_
                refine zj_getr (r := (c + 9)) (zdk ttX9_tells 48 rfl rfl) zf_RX9_189 rfl (k_9_5 s5 hc) (rf_9_5_3 s5 hc) ?_
                refine zj_iload (zdk ttX9_tells 49 rfl rfl) rfl ?_
                refine zj_iald (v := (h4.2 (c + 9) x3)) (zdk ttX9_tells 50 rfl rfl) (ka_9_5_3 s5 hc) (by decide) (by omega) rfl ?_
                refine zj_aload_n (zdk ttX9_tells 51 rfl rfl) rfl (by omega) ?_
                refine zj_iload_n (zdk ttX9_tells 52 rfl rfl) rfl ?_
                refine zj_callV (av := [.inl (h4.2 (c + 8) x3), .inl (h4.2 (c + 9) x3), .inr c, .inl p2]) (st := []) (zdk ttX9_tells 53 rfl rfl) mb_X3_run mv_RX9_192 (ci := 3) rfl rfl (k_9_5 s5 hc) rfl rfl (Nat.le_of_ble_eq_true rfl) (s2_X3_run l h4 (c + 5) (h4.2 (c + 8) x3) (h4.2 (c + 9) x3) c p2 s5 (zs_9_5 hc) (by omega) (by omega) hc (by omega)) (rm_ok (by decide) (by decide)) (zq_i fun v130 h131 q129 => ?_)
                obtain ⟨b132, s133, u134⟩ := q129
                refine zj_if_eq (t := 148) (zdk ttX9_tells 54 rfl rfl) (by decide) (by omega) (fun c135 => ?_) (fun c135 => ?_)
                · refine zj_iinc (L' := [some (.inr c), some (.inl p1), some (.inl p2), some (.inl 1000), some (.inl (x3 + 1)), some (.inl 0)]) (zdk ttX9_tells 73 rfl rfl) rfl (by decide) rfl ?_
                  refine zj_goto (t := 18) (zdk ttX9_tells 74 rfl rfl) (by decide) ?_
                  refine zj_kill (k := 5) (L' := [some (.inr c), some (.inl p1), some (.inl p2), some (.inl 1000), some (.inl (x3 + 1)), none]) rfl ?_
                  exact ih90  (x3 + 1) h131 (by omega) s133 (u134.trans u88) (by omega)
                · refine zj_aload_n (zdk ttX9_tells 55 rfl rfl) rfl (by omega) ?_
                  refine zj_getr (r := (c + 5)) (zdk ttX9_tells 56 rfl rfl) zf_RX9_21 rfl (k_9_0 s133 hc) (rf_9_0_1 s133 hc) ?_
                  refine zj_aload_n (zdk ttX9_tells 57 rfl rfl) rfl (by omega) ?_
                  refine zj_getr (r := (c + 5)) (zdk ttX9_tells 58 rfl rfl) zf_RX9_21 rfl (k_9_0 s133 hc) (rf_9_0_1 s133 hc) ?_
                  refine zj_getr (r := (c + 7)) (zdk ttX9_tells 59 rfl rfl) zf_RX9_196 rfl (k_9_5 s133 hc) (rf_9_5_1 s133 hc) ?_
                  refine zj_iload (zdk ttX9_tells 60 rfl rfl) rfl ?_
                  have b136 : 0 ≤ (h131.2 (c + 7) x3) ∧ (h131.2 (c + 7) x3) ≤ 400 := ab_9_5_1 s133 hc x3
                  refine zj_iald (v := (h131.2 (c + 7) x3)) (zdk ttX9_tells 61 rfl rfl) (ka_9_5_1 s133 hc) (by decide) (by omega) rfl ?_
                  refine zj_aload_n (zdk ttX9_tells 62 rfl rfl) rfl (by omega) ?_
                  refine zj_getr (r := (c + 5)) (zdk ttX9_tells 63 rfl rfl) zf_RX9_21 rfl (k_9_0 s133 hc) (rf_9_0_1 s133 hc) ?_
                  refine zj_getr (r := (c + 8)) (zdk ttX9_tells 64 rfl rfl) zf_RX9_186 rfl (k_9_5 s133 hc) (rf_9_5_2 s133 hc) ?_
                  refine zj_iload (zdk ttX9_tells 65 rfl rfl) rfl ?_
                  have b137 : 0 ≤ (h131.2 (c + 8) x3) ∧ (h131.2 (c + 8) x3) ≤ 400 := ab_9_5_2 s133 hc x3
                  refine zj_iald (v := (h131.2 (c + 8) x3)) (zdk ttX9_tells 66 rfl rfl) (ka_9_5_2 s133 hc) (by decide) (by omega) rfl ?_
                  refine zj_aload_n (zdk ttX9_tells 67 rfl rfl) rfl (by omega) ?_
                  refine zj_iload_n (zdk ttX9_tells 68 rfl rfl) rfl ?_
                  refine zj_callV (av := [.inl (h131.2 (c + 7) x3), .inl (h131.2 (c + 8) x3), .inr c, .inl p2]) (st := []) (zdk ttX9_tells 69 rfl rfl) mb_X3_run mv_RX9_192 (ci := 3) rfl rfl (k_9_5 s133 hc) rfl rfl (Nat.le_of_ble_eq_true rfl) (s2_X3_run l h131 (c + 5) (h131.2 (c + 7) x3) (h131.2 (c + 8) x3) c p2 s133 (zs_9_5 hc) (by omega) (by omega) hc (by omega)) (rm_ok (by decide) (by decide)) (zq_i fun v139 h140 q138 => ?_)
                  obtain ⟨b141, s142, u143⟩ := q138
                  refine zj_iload_n (zdk ttX9_tells 70 rfl rfl) rfl ?_
                  refine zj_callS (av := [.inl v139, .inl 1000]) (st := []) (zdk ttX9_tells 71 rfl rfl) mb_X9_held ms_RX9_199 rfl rfl (Nat.le_of_ble_eq_true rfl) (s_X9_held l h140 v139 1000 s142 (by omega) (by omega)) (rm_ok (by decide) (by decide)) (zq_i fun v145 h146 q144 => ?_)
                  obtain ⟨rfl, b147, u148, u149⟩ := q144
                  exact zj_iret rfl (zdk ttX9_tells 72 rfl rfl) (Nat.le_refl _) (Nat.le_refl _) ⟨v145, rfl, by omega, s142, (u143.trans (u134.trans u88))⟩
            · refine zj_iconst (zdk ttX9_tells 33 rfl rfl) ?_
              refine zj_goto (t := 75) (zdk ttX9_tells 34 rfl rfl) (by decide) ?_
              refine zj_istore (L' := [some (.inr c), some (.inl p1), some (.inl p2), some (.inl 1000), some (.inl x3), some (.inl 1)]) (zdk ttX9_tells 36 rfl rfl) (by decide) rfl ?_
              refine zj_iload (zdk ttX9_tells 37 rfl rfl) rfl ?_
              refine zj_if_ne (t := 114) (zdk ttX9_tells 38 rfl rfl) (by decide) (by decide) (fun c150 => ?_) (fun c150 => ?_)
              · refine zj_aload_n (zdk ttX9_tells 55 rfl rfl) rfl (by omega) ?_
                refine zj_getr (r := (c + 5)) (zdk ttX9_tells 56 rfl rfl) zf_RX9_21 rfl (k_9_0 s5 hc) (rf_9_0_1 s5 hc) ?_
                refine zj_aload_n (zdk ttX9_tells 57 rfl rfl) rfl (by omega) ?_
                refine zj_getr (r := (c + 5)) (zdk ttX9_tells 58 rfl rfl) zf_RX9_21 rfl (k_9_0 s5 hc) (rf_9_0_1 s5 hc) ?_
                refine zj_getr (r := (c + 7)) (zdk ttX9_tells 59 rfl rfl) zf_RX9_196 rfl (k_9_5 s5 hc) (rf_9_5_1 s5 hc) ?_
                refine zj_iload (zdk ttX9_tells 60 rfl rfl) rfl ?_
                have b151 : 0 ≤ (h4.2 (c + 7) x3) ∧ (h4.2 (c + 7) x3) ≤ 400 := ab_9_5_1 s5 hc x3
                refine zj_iald (v := (h4.2 (c + 7) x3)) (zdk ttX9_tells 61 rfl rfl) (ka_9_5_1 s5 hc) (by decide) (by omega) rfl ?_
                refine zj_aload_n (zdk ttX9_tells 62 rfl rfl) rfl (by omega) ?_
                refine zj_getr (r := (c + 5)) (zdk ttX9_tells 63 rfl rfl) zf_RX9_21 rfl (k_9_0 s5 hc) (rf_9_0_1 s5 hc) ?_
                refine zj_getr (r := (c + 8)) (zdk ttX9_tells 64 rfl rfl) zf_RX9_186 rfl (k_9_5 s5 hc) (rf_9_5_2 s5 hc) ?_
                refine zj_iload (zdk ttX9_tells 65 rfl rfl) rfl ?_
                refine zj_iald (v := (h4.2 (c + 8) x3)) (zdk ttX9_tells 66 rfl rfl) (ka_9_5_2 s5 hc) (by decide) (by omega) rfl ?_
                refine zj_aload_n (zdk ttX9_tells 67 rfl rfl) rfl (by omega) ?_
                refine zj_iload_n (zdk ttX9_tells 68 rfl rfl) rfl ?_
                refine zj_callV (av := [.inl (h4.2 (c + 7) x3), .inl (h4.2 (c + 8) x3), .inr c, .inl p2]) (st := []) (zdk ttX9_tells 69 rfl rfl) mb_X3_run mv_RX9_192 (ci := 3) rfl rfl (k_9_5 s5 hc) rfl rfl (Nat.le_of_ble_eq_true rfl) (s2_X3_run l h4 (c + 5) (h4.2 (c + 7) x3) (h4.2 (c + 8) x3) c p2 s5 (zs_9_5 hc) (by omega) (by omega) hc (by omega)) (rm_ok (by decide) (by decide)) (zq_i fun v153 h154 q152 => ?_)
                obtain ⟨b155, s156, u157⟩ := q152
                refine zj_iload_n (zdk ttX9_tells 70 rfl rfl) rfl ?_
                refine zj_callS (av := [.inl v153, .inl 1000]) (st := []) (zdk ttX9_tells 71 rfl rfl) mb_X9_held ms_RX9_199 rfl rfl (Nat.le_of_ble_eq_true rfl) (s_X9_held l h154 v153 1000 s156 (by omega) (by omega)) (rm_ok (by decide) (by decide)) (zq_i fun v159 h160 q158 => ?_)
                obtain ⟨rfl, b161, u162, u163⟩ := q158
                exact zj_iret rfl (zdk ttX9_tells 72 rfl rfl) (Nat.le_refl _) (Nat.le_refl _) ⟨v159, rfl, by omega, s156, (u157.trans u88)⟩
              · exact absurd c150 (by omega)
          · refine zj_goto (t := 148) (zdk ttX9_tells 21 rfl rfl) (by decide) ?_
            refine zj_iinc (L' := [some (.inr c), some (.inl p1), some (.inl p2), some (.inl 1000), some (.inl (x3 + 1)), none]) (zdk ttX9_tells 73 rfl rfl) rfl (by decide) rfl ?_
            refine zj_goto (t := 18) (zdk ttX9_tells 74 rfl rfl) (by decide) ?_
            exact ih90  (x3 + 1) h4 (by omega) s5 u88 (by omega)
    exact lp86 _ 0 h (by omega) s0 rfl (Nat.lt_succ_self _)
  · refine zj_sipush (zdk ttX9_tells 3 rfl rfl) (by decide) ?_
    refine zj_goto (t := 14) (zdk ttX9_tells 4 rfl rfl) (by decide) ?_
    refine zj_istore_n (L' := [some (.inr c), some (.inl p1), some (.inl p2), some (.inl 999), none, none]) (zdk ttX9_tells 6 rfl rfl) (by decide) rfl ?_
    refine zj_iconst (zdk ttX9_tells 7 rfl rfl) ?_
    refine zj_istore (L' := [some (.inr c), some (.inl p1), some (.inl p2), some (.inl 999), some (.inl 0), none]) (zdk ttX9_tells 8 rfl rfl) (by decide) rfl ?_
    have lp247 : ∀ (n : Nat) (x164 : Int) (h165 : zM), (0 ≤ x164 ∧ x164 ≤ 16) → okC h165 → (h165.2 0 10 = h.2 0 10) → (17 - x164).toNat < n → zJ shC l yX9_tells cX9_tells 6 (some .int) (rmL 4) 0 0 (q2_X9_tells h c p1 p2) 0 0 18 [some (.inr c), some (.inl p1), some (.inl p2), some (.inl 999), some (.inl x164), none] [] h165 := by
      intro n
      induction n with
      | zero => intro x164 h165 b248 s166 u249 m250; exact absurd m250 (Nat.not_lt_zero _)
      | succ n ih251 =>
        intro x164 h165 b248 s166 u249 m250
        refine zj_iload (zdk ttX9_tells 9 rfl rfl) rfl ?_
        refine zj_aload_n (zdk ttX9_tells 10 rfl rfl) rfl (by omega) ?_
        refine zj_getr (r := (c + 5)) (zdk ttX9_tells 11 rfl rfl) zf_RX9_21 rfl (k_9_0 s166 hc) (rf_9_0_1 s166 hc) ?_
        have b252 : 0 ≤ (h165.2 (c + 5) 6) ∧ (h165.2 (c + 5) 6) ≤ 16 := fb_9_5_6 s166 hc
        refine zj_geti (v := (h165.2 (c + 5) 6)) (zdk ttX9_tells 12 rfl rfl) zf_RX9_182 rfl (k_9_5 s166 hc) rfl ?_
        refine zj_icmp_ge (t := 154) (zdk ttX9_tells 13 rfl rfl) (by decide) (by omega) (by omega) (fun c253 => ?_) (fun c253 => ?_)
        · refine zj_iload_n (zdk ttX9_tells 75 rfl rfl) rfl ?_
          have k255 : (¬ p1 = 0 ∧ ¬ p1 = 1) → zJ shC l yX9_tells cX9_tells 6 (some .int) (rmL 4) 0 0 (q2_X9_tells h c p1 p2) 0 0 211 [some (.inr c), some (.inl p1), some (.inl p2), some (.inl 999), some (.inl x164), none] [] h165 := by
            intro c254
            exact absurd c254 (by omega)
          have k256 : p1 = 0 → zJ shC l yX9_tells cX9_tells 6 (some .int) (rmL 4) 0 0 (q2_X9_tells h c p1 p2) 0 0 180 [some (.inr c), some (.inl p1), some (.inl p2), some (.inl 999), some (.inl x164), none] [] h165 := by
            intro c254
            exact absurd c254 (by omega)
          have k257 : p1 = 1 → zJ shC l yX9_tells cX9_tells 6 (some .int) (rmL 4) 0 0 (q2_X9_tells h c p1 p2) 0 0 197 [some (.inr c), some (.inl p1), some (.inl p2), some (.inl 999), some (.inl x164), none] [] h165 := by
            intro c254
            refine zj_aload_n (zdk ttX9_tells 87 rfl rfl) rfl (by omega) ?_
            refine zj_getr (r := (c + 1)) (zdk ttX9_tells 88 rfl rfl) zf_RX9_12 rfl (k_9_0 s166 hc) (rf_9_0_0 s166 hc) ?_
            refine zj_getr (r := (c + 2)) (zdk ttX9_tells 89 rfl rfl) zf_RX9_205 rfl (k_9_1 s166 hc) (rf_9_1_0 s166 hc) ?_
            refine zj_iload_n (zdk ttX9_tells 90 rfl rfl) rfl ?_
            have b258 : -2147483648 ≤ (h165.2 (c + 2) p2) ∧ (h165.2 (c + 2) p2) ≤ 2147483647 := ab_9_1_0 s166 hc p2
            refine zj_iald (v := (h165.2 (c + 2) p2)) (zdk ttX9_tells 91 rfl rfl) (ka_9_1_0 s166 hc) (by decide) (by omega) rfl ?_
            refine zj_iload_n (zdk ttX9_tells 92 rfl rfl) rfl ?_
            refine zj_callS (av := [.inl (h165.2 (c + 2) p2), .inl 999]) (st := []) (zdk ttX9_tells 93 rfl rfl) mb_X9_held ms_RX9_199 rfl rfl (Nat.le_of_ble_eq_true rfl) (s_X9_held l h165 (h165.2 (c + 2) p2) 999 s166 (by omega) (by omega)) (rm_ok (by decide) (by decide)) (zq_i fun v260 h261 q259 => ?_)
            obtain ⟨rfl, b262, u263, u264⟩ := q259
            exact zj_iret rfl (zdk ttX9_tells 94 rfl rfl) (Nat.le_refl _) (Nat.le_refl _) ⟨v260, rfl, by omega, s166, u249⟩
          by_cases z265 : p1 = 0
          · exact zj_lookup (t := 180) (zdk ttX9_tells 76 rfl rfl) (by omega) rfl (by rw [z265] <;> rfl) (by decide) (k256 z265)
          by_cases z266 : p1 = 1
          · exact zj_lookup (t := 197) (zdk ttX9_tells 76 rfl rfl) (by omega) rfl (by rw [z266] <;> rfl) (by decide) (k257 z266)
          exact zj_lookup (t := 211) (zdk ttX9_tells 76 rfl rfl) (by omega) rfl (by show Op.lookupswitch.offset [(0, 25), (1, 42)] 56 p1 = _; rw [Op.lookupswitch.offset_cons, if_neg (by omega), Op.lookupswitch.offset_cons, if_neg (by omega), Op.lookupswitch.offset_nil]) (by decide) (k255 (by omega))
        · refine zj_aload_n (zdk ttX9_tells 14 rfl rfl) rfl (by omega) ?_
          refine zj_getr (r := (c + 5)) (zdk ttX9_tells 15 rfl rfl) zf_RX9_21 rfl (k_9_0 s166 hc) (rf_9_0_1 s166 hc) ?_
          refine zj_getr (r := (c + 6)) (zdk ttX9_tells 16 rfl rfl) zf_RX9_183 rfl (k_9_5 s166 hc) (rf_9_5_0 s166 hc) ?_
          refine zj_iload (zdk ttX9_tells 17 rfl rfl) rfl ?_
          have b267 : -2147483648 ≤ (h165.2 (c + 6) x164) ∧ (h165.2 (c + 6) x164) ≤ 2147483647 := ab_9_5_0 s166 hc x164
          refine zj_iald (v := (h165.2 (c + 6) x164)) (zdk ttX9_tells 18 rfl rfl) (ka_9_5_0 s166 hc) (by decide) (by omega) rfl ?_
          refine zj_iload_n (zdk ttX9_tells 19 rfl rfl) rfl ?_
          refine zj_icmp_eq (t := 47) (zdk ttX9_tells 20 rfl rfl) (by decide) (by omega) (by omega) (fun c268 => ?_) (fun c268 => ?_)
          · refine zj_aload_n (zdk ttX9_tells 22 rfl rfl) rfl (by omega) ?_
            refine zj_getr (r := (c + 5)) (zdk ttX9_tells 23 rfl rfl) zf_RX9_21 rfl (k_9_0 s166 hc) (rf_9_0_1 s166 hc) ?_
            refine zj_getr (r := (c + 8)) (zdk ttX9_tells 24 rfl rfl) zf_RX9_186 rfl (k_9_5 s166 hc) (rf_9_5_2 s166 hc) ?_
            refine zj_iload (zdk ttX9_tells 25 rfl rfl) rfl ?_
            have b269 : 0 ≤ (h165.2 (c + 8) x164) ∧ (h165.2 (c + 8) x164) ≤ 400 := ab_9_5_2 s166 hc x164
            refine zj_iald (v := (h165.2 (c + 8) x164)) (zdk ttX9_tells 26 rfl rfl) (ka_9_5_2 s166 hc) (by decide) (by omega) rfl ?_
            refine zj_aload_n (zdk ttX9_tells 27 rfl rfl) rfl (by omega) ?_
            refine zj_getr (r := (c + 5)) (zdk ttX9_tells 28 rfl rfl) zf_RX9_21 rfl (k_9_0 s166 hc) (rf_9_0_1 s166 hc) ?_
            refine zj_getr (r := (c + 9)) (zdk ttX9_tells 29 rfl rfl) zf_RX9_189 rfl (k_9_5 s166 hc) (rf_9_5_3 s166 hc) ?_
            refine zj_iload (zdk ttX9_tells 30 rfl rfl) rfl ?_
            have b270 : 0 ≤ (h165.2 (c + 9) x164) ∧ (h165.2 (c + 9) x164) ≤ 400 := ab_9_5_3 s166 hc x164
            refine zj_iald (v := (h165.2 (c + 9) x164)) (zdk ttX9_tells 31 rfl rfl) (ka_9_5_3 s166 hc) (by decide) (by omega) rfl ?_
            refine zj_icmp_ne (t := 74) (zdk ttX9_tells 32 rfl rfl) (by decide) (by omega) (by omega) (fun c271 => ?_) (fun c271 => ?_)
            · refine zj_iconst (zdk ttX9_tells 35 rfl rfl) ?_
              refine zj_istore (L' := [some (.inr c), some (.inl p1), some (.inl p2), some (.inl 999), some (.inl x164), some (.inl 0)]) (zdk ttX9_tells 36 rfl rfl) (by decide) rfl ?_
              refine zj_iload (zdk ttX9_tells 37 rfl rfl) rfl ?_
              refine zj_if_ne (t := 114) (zdk ttX9_tells 38 rfl rfl) (by decide) (by decide) (fun c272 => ?_) (fun c272 => ?_)
              · exact absurd c272 (by omega)
              · refine zj_aload_n (zdk ttX9_tells 39 rfl rfl) rfl (by omega) ?_
                refine zj_getr (r := (c + 5)) (zdk ttX9_tells 40 rfl rfl) zf_RX9_21 rfl (k_9_0 s166 hc) (rf_9_0_1 s166 hc) ?_
                refine zj_aload_n (zdk ttX9_tells 41 rfl rfl) rfl (by omega) ?_
                refine zj_getr (r := (c + 5)) (zdk ttX9_tells 42 rfl rfl) zf_RX9_21 rfl (k_9_0 s166 hc) (rf_9_0_1 s166 hc) ?_
                refine zj_getr (r := (c + 8)) (zdk ttX9_tells 43 rfl rfl) zf_RX9_186 rfl (k_9_5 s166 hc) (rf_9_5_2 s166 hc) ?_
                refine zj_iload (zdk ttX9_tells 44 rfl rfl) rfl ?_
                refine zj_iald (v := (h165.2 (c + 8) x164)) (zdk ttX9_tells 45 rfl rfl) (ka_9_5_2 s166 hc) (by decide) (by omega) rfl ?_
                refine zj_aload_n (zdk ttX9_tells 46 rfl rfl) rfl (by omega) ?_
                refine zj_getr (r := (c + 5)) (zdk ttX9_tells 47 rfl rfl) zf_RX9_21 rfl (k_9_0 s166 hc) (rf_9_0_1 s166 hc) ?_
                refine zj_getr (r := (c + 9)) (zdk ttX9_tells 48 rfl rfl) zf_RX9_189 rfl (k_9_5 s166 hc) (rf_9_5_3 s166 hc) ?_
                refine zj_iload (zdk ttX9_tells 49 rfl rfl) rfl ?_
                refine zj_iald (v := (h165.2 (c + 9) x164)) (zdk ttX9_tells 50 rfl rfl) (ka_9_5_3 s166 hc) (by decide) (by omega) rfl ?_
                refine zj_aload_n (zdk ttX9_tells 51 rfl rfl) rfl (by omega) ?_
                refine zj_iload_n (zdk ttX9_tells 52 rfl rfl) rfl ?_
                refine zj_callV (av := [.inl (h165.2 (c + 8) x164), .inl (h165.2 (c + 9) x164), .inr c, .inl p2]) (st := []) (zdk ttX9_tells 53 rfl rfl) mb_X3_run mv_RX9_192 (ci := 3) rfl rfl (k_9_5 s166 hc) rfl rfl (Nat.le_of_ble_eq_true rfl) (s2_X3_run l h165 (c + 5) (h165.2 (c + 8) x164) (h165.2 (c + 9) x164) c p2 s166 (zs_9_5 hc) (by omega) (by omega) hc (by omega)) (rm_ok (by decide) (by decide)) (zq_i fun v274 h275 q273 => ?_)
                obtain ⟨b276, s277, u278⟩ := q273
                refine zj_if_eq (t := 148) (zdk ttX9_tells 54 rfl rfl) (by decide) (by omega) (fun c279 => ?_) (fun c279 => ?_)
                · refine zj_iinc (L' := [some (.inr c), some (.inl p1), some (.inl p2), some (.inl 999), some (.inl (x164 + 1)), some (.inl 0)]) (zdk ttX9_tells 73 rfl rfl) rfl (by decide) rfl ?_
                  refine zj_goto (t := 18) (zdk ttX9_tells 74 rfl rfl) (by decide) ?_
                  refine zj_kill (k := 5) (L' := [some (.inr c), some (.inl p1), some (.inl p2), some (.inl 999), some (.inl (x164 + 1)), none]) rfl ?_
                  exact ih251  (x164 + 1) h275 (by omega) s277 (u278.trans u249) (by omega)
                · refine zj_aload_n (zdk ttX9_tells 55 rfl rfl) rfl (by omega) ?_
                  refine zj_getr (r := (c + 5)) (zdk ttX9_tells 56 rfl rfl) zf_RX9_21 rfl (k_9_0 s277 hc) (rf_9_0_1 s277 hc) ?_
                  refine zj_aload_n (zdk ttX9_tells 57 rfl rfl) rfl (by omega) ?_
                  refine zj_getr (r := (c + 5)) (zdk ttX9_tells 58 rfl rfl) zf_RX9_21 rfl (k_9_0 s277 hc) (rf_9_0_1 s277 hc) ?_
                  refine zj_getr (r := (c + 7)) (zdk ttX9_tells 59 rfl rfl) zf_RX9_196 rfl (k_9_5 s277 hc) (rf_9_5_1 s277 hc) ?_
                  refine zj_iload (zdk ttX9_tells 60 rfl rfl) rfl ?_
                  have b280 : 0 ≤ (h275.2 (c + 7) x164) ∧ (h275.2 (c + 7) x164) ≤ 400 := ab_9_5_1 s277 hc x164
                  refine zj_iald (v := (h275.2 (c + 7) x164)) (zdk ttX9_tells 61 rfl rfl) (ka_9_5_1 s277 hc) (by decide) (by omega) rfl ?_
                  refine zj_aload_n (zdk ttX9_tells 62 rfl rfl) rfl (by omega) ?_
                  refine zj_getr (r := (c + 5)) (zdk ttX9_tells 63 rfl rfl) zf_RX9_21 rfl (k_9_0 s277 hc) (rf_9_0_1 s277 hc) ?_
                  refine zj_getr (r := (c + 8)) (zdk ttX9_tells 64 rfl rfl) zf_RX9_186 rfl (k_9_5 s277 hc) (rf_9_5_2 s277 hc) ?_
                  refine zj_iload (zdk ttX9_tells 65 rfl rfl) rfl ?_
                  have b281 : 0 ≤ (h275.2 (c + 8) x164) ∧ (h275.2 (c + 8) x164) ≤ 400 := ab_9_5_2 s277 hc x164
                  refine zj_iald (v := (h275.2 (c + 8) x164)) (zdk ttX9_tells 66 rfl rfl) (ka_9_5_2 s277 hc) (by decide) (by omega) rfl ?_
                  refine zj_aload_n (zdk ttX9_tells 67 rfl rfl) rfl (by omega) ?_
                  refine zj_iload_n (zdk ttX9_tells 68 rfl rfl) rfl ?_
                  refine zj_callV (av := [.inl (h275.2 (c + 7) x164), .inl (h275.2 (c + 8) x164), .inr c, .inl p2]) (st := []) (zdk ttX9_tells 69 rfl rfl) mb_X3_run mv_RX9_192 (ci := 3) rfl rfl (k_9_5 s277 hc) rfl rfl (Nat.le_of_ble_eq_true rfl) (s2_X3_run l h275 (c + 5) (h275.2 (c + 7) x164) (h275.2 (c + 8) x164) c p2 s277 (zs_9_5 hc) (by omega) (by omega) hc (by omega)) (rm_ok (by decide) (by decide)) (zq_i fun v283 h284 q282 => ?_)
                  obtain ⟨b285, s286, u287⟩ := q282
                  refine zj_iload_n (zdk ttX9_tells 70 rfl rfl) rfl ?_
                  refine zj_callS (av := [.inl v283, .inl 999]) (st := []) (zdk ttX9_tells 71 rfl rfl) mb_X9_held ms_RX9_199 rfl rfl (Nat.le_of_ble_eq_true rfl) (s_X9_held l h284 v283 999 s286 (by omega) (by omega)) (rm_ok (by decide) (by decide)) (zq_i fun v289 h290 q288 => ?_)
                  obtain ⟨rfl, b291, u292, u293⟩ := q288
                  exact zj_iret rfl (zdk ttX9_tells 72 rfl rfl) (Nat.le_refl _) (Nat.le_refl _) ⟨v289, rfl, by omega, s286, (u287.trans (u278.trans u249))⟩
            · refine zj_iconst (zdk ttX9_tells 33 rfl rfl) ?_
              refine zj_goto (t := 75) (zdk ttX9_tells 34 rfl rfl) (by decide) ?_
              refine zj_istore (L' := [some (.inr c), some (.inl p1), some (.inl p2), some (.inl 999), some (.inl x164), some (.inl 1)]) (zdk ttX9_tells 36 rfl rfl) (by decide) rfl ?_
              refine zj_iload (zdk ttX9_tells 37 rfl rfl) rfl ?_
              refine zj_if_ne (t := 114) (zdk ttX9_tells 38 rfl rfl) (by decide) (by decide) (fun c294 => ?_) (fun c294 => ?_)
              · refine zj_aload_n (zdk ttX9_tells 55 rfl rfl) rfl (by omega) ?_
                refine zj_getr (r := (c + 5)) (zdk ttX9_tells 56 rfl rfl) zf_RX9_21 rfl (k_9_0 s166 hc) (rf_9_0_1 s166 hc) ?_
                refine zj_aload_n (zdk ttX9_tells 57 rfl rfl) rfl (by omega) ?_
                refine zj_getr (r := (c + 5)) (zdk ttX9_tells 58 rfl rfl) zf_RX9_21 rfl (k_9_0 s166 hc) (rf_9_0_1 s166 hc) ?_
                refine zj_getr (r := (c + 7)) (zdk ttX9_tells 59 rfl rfl) zf_RX9_196 rfl (k_9_5 s166 hc) (rf_9_5_1 s166 hc) ?_
                refine zj_iload (zdk ttX9_tells 60 rfl rfl) rfl ?_
                have b295 : 0 ≤ (h165.2 (c + 7) x164) ∧ (h165.2 (c + 7) x164) ≤ 400 := ab_9_5_1 s166 hc x164
                refine zj_iald (v := (h165.2 (c + 7) x164)) (zdk ttX9_tells 61 rfl rfl) (ka_9_5_1 s166 hc) (by decide) (by omega) rfl ?_
                refine zj_aload_n (zdk ttX9_tells 62 rfl rfl) rfl (by omega) ?_
                refine zj_getr (r := (c + 5)) (zdk ttX9_tells 63 rfl rfl) zf_RX9_21 rfl (k_9_0 s166 hc) (rf_9_0_1 s166 hc) ?_
                refine zj_getr (r := (c + 8)) (zdk ttX9_tells 64 rfl rfl) zf_RX9_186 rfl (k_9_5 s166 hc) (rf_9_5_2 s166 hc) ?_
                refine zj_iload (zdk ttX9_tells 65 rfl rfl) rfl ?_
                refine zj_iald (v := (h165.2 (c + 8) x164)) (zdk ttX9_tells 66 rfl rfl) (ka_9_5_2 s166 hc) (by decide) (by omega) rfl ?_
                refine zj_aload_n (zdk ttX9_tells 67 rfl rfl) rfl (by omega) ?_
                refine zj_iload_n (zdk ttX9_tells 68 rfl rfl) rfl ?_
                refine zj_callV (av := [.inl (h165.2 (c + 7) x164), .inl (h165.2 (c + 8) x164), .inr c, .inl p2]) (st := []) (zdk ttX9_tells 69 rfl rfl) mb_X3_run mv_RX9_192 (ci := 3) rfl rfl (k_9_5 s166 hc) rfl rfl (Nat.le_of_ble_eq_true rfl) (s2_X3_run l h165 (c + 5) (h165.2 (c + 7) x164) (h165.2 (c + 8) x164) c p2 s166 (zs_9_5 hc) (by omega) (by omega) hc (by omega)) (rm_ok (by decide) (by decide)) (zq_i fun v297 h298 q296 => ?_)
                obtain ⟨b299, s300, u301⟩ := q296
                refine zj_iload_n (zdk ttX9_tells 70 rfl rfl) rfl ?_
                refine zj_callS (av := [.inl v297, .inl 999]) (st := []) (zdk ttX9_tells 71 rfl rfl) mb_X9_held ms_RX9_199 rfl rfl (Nat.le_of_ble_eq_true rfl) (s_X9_held l h298 v297 999 s300 (by omega) (by omega)) (rm_ok (by decide) (by decide)) (zq_i fun v303 h304 q302 => ?_)
                obtain ⟨rfl, b305, u306, u307⟩ := q302
                exact zj_iret rfl (zdk ttX9_tells 72 rfl rfl) (Nat.le_refl _) (Nat.le_refl _) ⟨v303, rfl, by omega, s300, (u301.trans u249)⟩
              · exact absurd c294 (by omega)
          · refine zj_goto (t := 148) (zdk ttX9_tells 21 rfl rfl) (by decide) ?_
            refine zj_iinc (L' := [some (.inr c), some (.inl p1), some (.inl p2), some (.inl 999), some (.inl (x164 + 1)), none]) (zdk ttX9_tells 73 rfl rfl) rfl (by decide) rfl ?_
            refine zj_goto (t := 18) (zdk ttX9_tells 74 rfl rfl) (by decide) ?_
            exact ih251  (x164 + 1) h165 (by omega) s166 u249 (by omega)
    exact lp247 _ 0 h (by omega) s0 rfl (Nat.lt_succ_self _)

abbrev tX10_addToSums : List (Nat × Instr × Nat) := [(0, .iload_n 2, 1), (1, .istore 4, 2), (3, .iload 4, 2), (5, .iload_n 1, 1), (6, .if_icmp .lt 48, 3), (9, .aload_n 0, 1), (10, .getfield 63, 3), (13, .iload 4, 2), (15, .iload_n 1, 1), (16, .isub, 1), (17, .iaload, 1), (18, .istore 5, 2), (20, .iload 5, 2), (22, .ldc 252, 2), (24, .if_icmp .eq 24, 3), (27, .aload_n 0, 1), (28, .getfield 63, 3), (31, .iload 4, 2), (33, .aload_n 0, 1), (34, .getfield 63, 3), (37, .iload 4, 2), (39, .iaload, 1), (40, .iload 5, 2), (42, .iload_n 3, 1), (43, .iadd, 1), (44, .invokestatic 348, 3), (47, .iastore, 1), (48, .iinc 4 (-1), 3), (51, .goto (-48), 3), (54, .return_, 1)]
theorem ttX10_addToSums : zdt cX10_addToSums tX10_addToSums = true := by decide +kernel
abbrev q_X10_addToSums (h : zM) (p1 : Int) (p2 : Int) (p3 : Int) : Option zV → zM → Prop := zqv fun h' => okC h' ∧ (h'.2 0 10 = h.2 0 10)
set_option maxRecDepth 100000 in
set_option maxHeartbeats 4000000 in
theorem s_X10_addToSums (l : Launch) (h : zM) (p1 : Int) (p2 : Int) (p3 : Int) (s0 : okC h) (b_p1 : 1 ≤ p1 ∧ p1 ≤ 1000) (b_p2 : 0 ≤ p2 ∧ p2 ≤ 9999) (b_p3 : (-2147483648) ≤ p3 ∧ p3 ≤ 2147483647) (u_0 : h.2 0 10 = 140) : zT shC l yX10_addToSums cX10_addToSums 6 none (rmL 3) 0 0 [.inr 0, .inl p1, .inl p2, .inl p3] h (q_X10_addToSums h p1 p2 p3) := by
  have k10 := u_0
  refine zT_of (by decide +kernel) (L0 := [some (.inr 0), some (.inl p1), some (.inl p2), some (.inl p3), none, none]) rfl (Nat.le_of_ble_eq_true rfl) ?_
  refine zj_iload_n (zdk ttX10_addToSums 0 rfl rfl) rfl ?_
  refine zj_istore (L' := [some (.inr 0), some (.inl p1), some (.inl p2), some (.inl p3), some (.inl p2), none]) (zdk ttX10_addToSums 1 rfl rfl) (by decide) rfl ?_
  have lp12 : ∀ (n : Nat) (x1 : Int) (h2 : zM), (-1 ≤ x1 ∧ x1 ≤ 9999) → okC h2 → (h2.2 0 10 = h.2 0 10) → (x1 - -2).toNat < n → zJ shC l yX10_addToSums cX10_addToSums 6 none (rmL 3) 0 0 (q_X10_addToSums h p1 p2 p3) 0 0 3 [some (.inr 0), some (.inl p1), some (.inl p2), some (.inl p3), some (.inl x1), none] [] h2 := by
    intro n
    induction n with
    | zero => intro x1 h2 b13 s3 u14 m15; exact absurd m15 (Nat.not_lt_zero _)
    | succ n ih16 =>
      intro x1 h2 b13 s3 u14 m15
      refine zj_iload (zdk ttX10_addToSums 2 rfl rfl) rfl ?_
      refine zj_iload_n (zdk ttX10_addToSums 3 rfl rfl) rfl ?_
      refine zj_icmp_lt (t := 54) (zdk ttX10_addToSums 4 rfl rfl) (by decide) (by omega) (by omega) (fun c17 => ?_) (fun c17 => ?_)
      · exact zj_vret rfl (zdk ttX10_addToSums 29 rfl rfl) (Nat.le_refl _) (Nat.le_refl _) ⟨rfl, s3, u14⟩
      · refine zj_aload_n (zdk ttX10_addToSums 5 rfl rfl) rfl (by decide) ?_
        refine zj_getr (r := 140) (zdk ttX10_addToSums 6 rfl rfl) zf_RX10_63 rfl (k_L0 s3) (u14.trans k10) ?_
        refine zj_iload (zdk ttX10_addToSums 7 rfl rfl) rfl ?_
        refine zj_iload_n (zdk ttX10_addToSums 8 rfl rfl) rfl ?_
        refine zj_isub (zdk ttX10_addToSums 9 rfl rfl) ?_
        have b18 : -2147483648 ≤ (h2.2 140 (x1 - p1)) ∧ (h2.2 140 (x1 - p1)) ≤ 2147483647 := ab_140 s3 (x1 - p1)
        refine zj_iald (v := (h2.2 140 (x1 - p1))) (zdk ttX10_addToSums 10 rfl rfl) (k140 s3 (u14.trans k10)) (by decide) (by omega) rfl ?_
        refine zj_istore (L' := [some (.inr 0), some (.inl p1), some (.inl p2), some (.inl p3), some (.inl x1), some (.inl (h2.2 140 (x1 - p1)))]) (zdk ttX10_addToSums 11 rfl rfl) (by decide) rfl ?_
        refine zj_iload (zdk ttX10_addToSums 12 rfl rfl) rfl ?_
        refine zj_ldc (z := 2147483647) (zdk ttX10_addToSums 13 rfl rfl) wc_RX10_252 ?_
        refine zj_icmp_eq (t := 48) (zdk ttX10_addToSums 14 rfl rfl) (by decide) (by omega) (by decide) (fun c19 => ?_) (fun c19 => ?_)
        · refine zj_iinc (L' := [some (.inr 0), some (.inl p1), some (.inl p2), some (.inl p3), some (.inl (x1 + (-1))), some (.inl (h2.2 140 (x1 - p1)))]) (zdk ttX10_addToSums 27 rfl rfl) rfl (by decide) rfl ?_
          refine zj_goto (t := 3) (zdk ttX10_addToSums 28 rfl rfl) (by decide) ?_
          refine zj_kill (k := 5) (L' := [some (.inr 0), some (.inl p1), some (.inl p2), some (.inl p3), some (.inl (x1 + (-1))), none]) rfl ?_
          exact ih16  (x1 + (-1)) h2 (by omega) s3 u14 (by omega)
        · refine zj_aload_n (zdk ttX10_addToSums 15 rfl rfl) rfl (by decide) ?_
          refine zj_getr (r := 140) (zdk ttX10_addToSums 16 rfl rfl) zf_RX10_63 rfl (k_L0 s3) (u14.trans k10) ?_
          refine zj_iload (zdk ttX10_addToSums 17 rfl rfl) rfl ?_
          refine zj_aload_n (zdk ttX10_addToSums 18 rfl rfl) rfl (by decide) ?_
          refine zj_getr (r := 140) (zdk ttX10_addToSums 19 rfl rfl) zf_RX10_63 rfl (k_L0 s3) (u14.trans k10) ?_
          refine zj_iload (zdk ttX10_addToSums 20 rfl rfl) rfl ?_
          have b20 : -2147483648 ≤ (h2.2 140 x1) ∧ (h2.2 140 x1) ≤ 2147483647 := ab_140 s3 x1
          refine zj_iald (v := (h2.2 140 x1)) (zdk ttX10_addToSums 21 rfl rfl) (k140 s3 (u14.trans k10)) (by decide) (by omega) rfl ?_
          refine zj_iload (zdk ttX10_addToSums 22 rfl rfl) rfl ?_
          refine zj_iload_n (zdk ttX10_addToSums 23 rfl rfl) rfl ?_
          refine zj_iadd (zdk ttX10_addToSums 24 rfl rfl) ?_
          refine zj_wrap ?_
          have b21 := zwp_in ((h2.2 140 (x1 - p1)) + p3)
          refine zj_min (zdk ttX10_addToSums 25 rfl rfl) mx_RX10_348 (by omega) (by omega) (Nat.le_of_ble_eq_true rfl) (rm_m (by decide)) ?_
          have b22 := zm_min_f (h2.2 140 x1) (zwp ((h2.2 140 (x1 - p1)) + p3))
          refine zj_iast (zdk ttX10_addToSums 26 rfl rfl) (k140 s3 (u14.trans k10)) (by decide) (by omega) (fun h23 e24 => ?_)
          refine zj_iinc (L' := [some (.inr 0), some (.inl p1), some (.inl p2), some (.inl p3), some (.inl (x1 + (-1))), some (.inl (h2.2 140 (x1 - p1)))]) (zdk ttX10_addToSums 27 rfl rfl) rfl (by decide) rfl ?_
          refine zj_goto (t := 3) (zdk ttX10_addToSums 28 rfl rfl) (by decide) ?_
          refine zj_kill (k := 5) (L' := [some (.inr 0), some (.inl p1), some (.inl p2), some (.inl p3), some (.inl (x1 + (-1))), none]) rfl ?_
          have s25 : okC h23 := aw_140 s3 e24 (by omega)
          exact ih16  (x1 + (-1)) h23 (by omega) s25 ((zwr_r (a := 0) (b := 10) e24 (by omega)).trans u14) (by omega)
  exact lp12 _ p2 h (by omega) s0 rfl (Nat.lt_succ_self _)

abbrev tX10_fewestWinding : List (Nat × Instr × Nat) := [(0, .aload_n 0, 1), (1, .getfield 63, 3), (4, .ifnonnull 12, 3), (7, .aload_n 0, 1), (8, .sipush 10000, 3), (11, .newarray .int, 2), (13, .putfield 63, 3), (16, .aload_n 0, 1), (17, .getfield 63, 3), (20, .iconst 0, 1), (21, .iload_n 1, 1), (22, .iconst 1, 1), (23, .iadd, 1), (24, .ldc 252, 2), (26, .invokestatic 342, 3), (29, .aload_n 0, 1), (30, .getfield 63, 3), (33, .iconst 0, 1), (34, .iconst 0, 1), (35, .iastore, 1), (36, .aload_n 0, 1), (37, .getfield 10, 3), (40, .getfield 67, 3), (43, .astore_n 2, 1), (44, .iconst 0, 1), (45, .istore_n 3, 1), (46, .iconst 0, 1), (47, .istore 4, 2), (49, .iload 4, 2), (51, .aload_n 2, 1), (52, .getfield 81, 3), (55, .if_icmp .ge 63, 3), (58, .aload_n 2, 1), (59, .iload 4, 2), (61, .invokevirtual 204, 3), (64, .ifCond .eq 16, 3), (67, .aload_n 0, 1), (68, .getfield 10, 3), (71, .iconst 1, 1), (72, .iload 4, 2), (74, .invokevirtual 213, 3), (77, .goto 4, 3), (80, .iconst 0, 1), (81, .istore 5, 2), (83, .iload 5, 2), (85, .ifCond .le 27, 3), (88, .iload_n 1, 1), (89, .iload_n 3, 1), (90, .iload 5, 2), (92, .iadd, 1), (93, .invokestatic 348, 3), (96, .istore_n 3, 1), (97, .aload_n 0, 1), (98, .iload 5, 2), (100, .iload_n 3, 1), (101, .ldc_w 353, 3), (104, .iconst 1, 1), (105, .iload 4, 2), (107, .ishl, 1), (108, .iadd, 1), (109, .invokevirtual 354, 3), (112, .iinc 4 1, 3), (115, .goto (-66), 3), (118, .aload_n 0, 1), (119, .getfield 63, 3), (122, .iload_n 1, 1), (123, .iaload, 1), (124, .ireturn, 1)]
theorem ttX10_fewestWinding : zdt cX10_fewestWinding tX10_fewestWinding = true := by decide +kernel
abbrev q_X10_fewestWinding : Option zV → zM → Prop := zqi fun v h' => (-2147483648 ≤ v ∧ v ≤ 2147483647) ∧ okC h'
set_option maxRecDepth 100000 in
set_option maxHeartbeats 4000000 in
theorem fw_tail (l : Launch) (h : zM) (p1 : Int) (s0 : okC h) (b_p1 : 0 ≤ p1 ∧ p1 ≤ 9999) (k10 : h.2 0 10 = 140) : zJ shC l yX10_fewestWinding cX10_fewestWinding 6 (some .int) (rmS 20) 1 10000 q_X10_fewestWinding 1 10000 16 [some (.inr 0), some (.inl p1), none, none, none, none] [] h := by
  refine zj_aload_n (zdk ttX10_fewestWinding 7 rfl rfl) rfl (by decide) ?_
  refine zj_getr (r := 140) (zdk ttX10_fewestWinding 8 rfl rfl) zf_RX10_63 rfl (k_L0 s0) k10 ?_
  refine zj_iconst (zdk ttX10_fewestWinding 9 rfl rfl) ?_
  refine zj_iload_n (zdk ttX10_fewestWinding 10 rfl rfl) rfl ?_
  refine zj_iconst (zdk ttX10_fewestWinding 11 rfl rfl) ?_
  refine zj_iadd (zdk ttX10_fewestWinding 12 rfl rfl) ?_
  refine zj_ldc (z := 2147483647) (zdk ttX10_fewestWinding 13 rfl rfl) wc_RX10_252 ?_
  refine zj_callS (av := [.inr 140, .inl 0, .inl (p1 + 1), .inl 2147483647]) (st := []) (zdk ttX10_fewestWinding 14 rfl rfl) mb_J7_fill_fda19 ms_RX10_342 rfl rfl (Nat.le_of_ble_eq_true rfl) (s_J7_fill_fda19 shC l h 140 0 (p1 + 1) 2147483647 (k140 s0 k10) (by decide) (by omega) (by omega)) (rm_okS (by decide) (by decide)) (zq_v fun h1 e2 => ?_)
  refine zj_aload_n (zdk ttX10_fewestWinding 15 rfl rfl) rfl (by decide) ?_
  have s3 : okC h1 := okC_fill s0 e2 (fun j => pa_140 (v := 2147483647) (by omega) j) (na_140).1 (na_140).2
  refine zj_getr (r := 140) (zdk ttX10_fewestWinding 16 rfl rfl) zf_RX10_63 rfl (k_L0 s3) ((show h1.2 0 10 = h.2 0 10 by rw [e2]; exact zfill_n (by decide)).trans k10) ?_
  refine zj_iconst (zdk ttX10_fewestWinding 17 rfl rfl) ?_
  refine zj_iconst (zdk ttX10_fewestWinding 18 rfl rfl) ?_
  refine zj_iast (zdk ttX10_fewestWinding 19 rfl rfl) (k140 s3 ((show h1.2 0 10 = h.2 0 10 by rw [e2]; exact zfill_n (by decide)).trans k10)) (by decide) (by omega) (fun h4 e5 => ?_)
  refine zj_aload_n (zdk ttX10_fewestWinding 20 rfl rfl) rfl (by decide) ?_
  have s6 : okC h4 := aw_140 s3 e5 (by omega)
  refine zj_getr (r := 1) (zdk ttX10_fewestWinding 21 rfl rfl) zf_RX10_10 rfl (k_L0 s6) (rf_L0_0 s6) ?_
  refine zj_getr (r := 2) (zdk ttX10_fewestWinding 22 rfl rfl) zf_RX10_67 rfl (k_9_0 s6 zWd_1) (rf_9_0_0 s6 zWd_1) ?_
  refine zj_astore_n (L' := [some (.inr 0), some (.inl p1), some (.inr 2), none, none, none]) (zdk ttX10_fewestWinding 23 rfl rfl) (by decide) (by decide) rfl ?_
  refine zj_iconst (zdk ttX10_fewestWinding 24 rfl rfl) ?_
  refine zj_istore_n (L' := [some (.inr 0), some (.inl p1), some (.inr 2), some (.inl 0), none, none]) (zdk ttX10_fewestWinding 25 rfl rfl) (by decide) rfl ?_
  refine zj_iconst (zdk ttX10_fewestWinding 26 rfl rfl) ?_
  refine zj_istore (L' := [some (.inr 0), some (.inl p1), some (.inr 2), some (.inl 0), some (.inl 0), none]) (zdk ttX10_fewestWinding 27 rfl rfl) (by decide) rfl ?_
  have lp136 : ∀ (n : Nat) (x7 x8 : Int) (h9 : zM), (0 ≤ x7 ∧ x7 ≤ 9999) → (0 ≤ x8 ∧ x8 ≤ 18) → okC h9 → (h9.2 0 10 = h.2 0 10) → (19 - x8).toNat < n → zJ shC l yX10_fewestWinding cX10_fewestWinding 6 (some .int) (rmS 20) 1 10000 q_X10_fewestWinding 1 10000 49 [some (.inr 0), some (.inl p1), some (.inr 2), some (.inl x7), some (.inl x8), none] [] h9 := by
    intro n
    induction n with
    | zero => intro x7 x8 h9 b137 b138 s10 u139 m140; exact absurd m140 (Nat.not_lt_zero _)
    | succ n ih141 =>
      intro x7 x8 h9 b137 b138 s10 u139 m140
      refine zj_iload (zdk ttX10_fewestWinding 28 rfl rfl) rfl ?_
      refine zj_aload_n (zdk ttX10_fewestWinding 29 rfl rfl) rfl (by decide) ?_
      have b142 : 0 ≤ (h9.2 2 3) ∧ (h9.2 2 3) ≤ 18 := fb_1_0_3 s10 zIs_2
      refine zj_geti (v := (h9.2 2 3)) (zdk ttX10_fewestWinding 30 rfl rfl) zf_RX10_81 rfl (k_1_0 s10 zIs_2) rfl ?_
      refine zj_icmp_ge (t := 118) (zdk ttX10_fewestWinding 31 rfl rfl) (by decide) (by omega) (by omega) (fun c143 => ?_) (fun c143 => ?_)
      · refine zj_aload_n (zdk ttX10_fewestWinding 63 rfl rfl) rfl (by decide) ?_
        refine zj_getr (r := 140) (zdk ttX10_fewestWinding 64 rfl rfl) zf_RX10_63 rfl (k_L0 s10) (u139.trans k10) ?_
        refine zj_iload_n (zdk ttX10_fewestWinding 65 rfl rfl) rfl ?_
        have b144 : -2147483648 ≤ (h9.2 140 p1) ∧ (h9.2 140 p1) ≤ 2147483647 := ab_140 s10 p1
        refine zj_iald (v := (h9.2 140 p1)) (zdk ttX10_fewestWinding 66 rfl rfl) (k140 s10 (u139.trans k10)) (by decide) (by omega) rfl ?_
        exact zj_iret rfl (zdk ttX10_fewestWinding 67 rfl rfl) (Nat.le_refl _) (Nat.le_refl _) ⟨(h9.2 140 p1), rfl, by omega, s10⟩
      · refine zj_aload_n (zdk ttX10_fewestWinding 32 rfl rfl) rfl (by decide) ?_
        refine zj_iload (zdk ttX10_fewestWinding 33 rfl rfl) rfl ?_
        refine zj_callV (av := [.inl x8]) (st := []) (zdk ttX10_fewestWinding 34 rfl rfl) mb_X1_isHere mv_RX10_204 (ci := 1) rfl rfl (k_1_0 s10 zIs_2) rfl rfl (Nat.le_of_ble_eq_true rfl) (s_X1_isHere l h9 2 x8 s10 zIs_2 (by omega)) (rm_okS (by decide) (by decide)) (zq_i fun v146 h147 q145 => ?_)
        obtain ⟨rfl, b149, ⟨rfl, b148⟩ | ⟨rfl, b148⟩⟩ := q145
        · refine zj_if_eq (t := 80) (zdk ttX10_fewestWinding 35 rfl rfl) (by decide) (by decide) (fun c150 => ?_) (fun c150 => ?_)
          · refine zj_iconst (zdk ttX10_fewestWinding 42 rfl rfl) ?_
            refine zj_istore (L' := [some (.inr 0), some (.inl p1), some (.inr 2), some (.inl x7), some (.inl x8), some (.inl 0)]) (zdk ttX10_fewestWinding 43 rfl rfl) (by decide) rfl ?_
            refine zj_iload (zdk ttX10_fewestWinding 44 rfl rfl) rfl ?_
            refine zj_if_le (t := 112) (zdk ttX10_fewestWinding 45 rfl rfl) (by decide) (by decide) (fun c151 => ?_) (fun c151 => ?_)
            · refine zj_iinc (L' := [some (.inr 0), some (.inl p1), some (.inr 2), some (.inl x7), some (.inl (x8 + 1)), some (.inl 0)]) (zdk ttX10_fewestWinding 61 rfl rfl) rfl (by decide) rfl ?_
              refine zj_goto (t := 49) (zdk ttX10_fewestWinding 62 rfl rfl) (by decide) ?_
              refine zj_kill (k := 5) (L' := [some (.inr 0), some (.inl p1), some (.inr 2), some (.inl x7), some (.inl (x8 + 1)), none]) rfl ?_
              exact ih141  x7 (x8 + 1) h9 (by omega) (by omega) s10 u139 (by omega)
            · exact absurd c151 (by omega)
          · exact absurd c150 (by omega)
        · refine zj_if_eq (t := 80) (zdk ttX10_fewestWinding 35 rfl rfl) (by decide) (by decide) (fun c152 => ?_) (fun c152 => ?_)
          · exact absurd c152 (by omega)
          · refine zj_aload_n (zdk ttX10_fewestWinding 36 rfl rfl) rfl (by decide) ?_
            refine zj_getr (r := 1) (zdk ttX10_fewestWinding 37 rfl rfl) zf_RX10_10 rfl (k_L0 s10) (rf_L0_0 s10) ?_
            refine zj_iconst (zdk ttX10_fewestWinding 38 rfl rfl) ?_
            refine zj_iload (zdk ttX10_fewestWinding 39 rfl rfl) rfl ?_
            refine zj_callV (av := [.inl 1, .inl x8]) (st := []) (zdk ttX10_fewestWinding 40 rfl rfl) mb_X9_tells mv_RX10_213 (ci := 9) rfl rfl (k_9_0 s10 zWd_1) rfl rfl (Nat.le_of_ble_eq_true rfl) (s2_X9_tells l h9 1 1 x8 s10 zWd_1 (by omega) (by omega)) (rm_okS (by decide) (by decide)) (zq_i fun v154 h155 q153 => ?_)
            obtain ⟨b156, s157, u158⟩ := q153
            refine zj_goto (t := 81) (zdk ttX10_fewestWinding 41 rfl rfl) (by decide) ?_
            refine zj_istore (L' := [some (.inr 0), some (.inl p1), some (.inr 2), some (.inl x7), some (.inl x8), some (.inl v154)]) (zdk ttX10_fewestWinding 43 rfl rfl) (by decide) rfl ?_
            refine zj_iload (zdk ttX10_fewestWinding 44 rfl rfl) rfl ?_
            refine zj_if_le (t := 112) (zdk ttX10_fewestWinding 45 rfl rfl) (by decide) (by omega) (fun c159 => ?_) (fun c159 => ?_)
            · refine zj_iinc (L' := [some (.inr 0), some (.inl p1), some (.inr 2), some (.inl x7), some (.inl (x8 + 1)), some (.inl v154)]) (zdk ttX10_fewestWinding 61 rfl rfl) rfl (by decide) rfl ?_
              refine zj_goto (t := 49) (zdk ttX10_fewestWinding 62 rfl rfl) (by decide) ?_
              refine zj_kill (k := 5) (L' := [some (.inr 0), some (.inl p1), some (.inr 2), some (.inl x7), some (.inl (x8 + 1)), none]) rfl ?_
              exact ih141  x7 (x8 + 1) h155 (by omega) (by omega) s157 (u158.trans u139) (by omega)
            · refine zj_iload_n (zdk ttX10_fewestWinding 46 rfl rfl) rfl ?_
              refine zj_iload_n (zdk ttX10_fewestWinding 47 rfl rfl) rfl ?_
              refine zj_iload (zdk ttX10_fewestWinding 48 rfl rfl) rfl ?_
              refine zj_iadd (zdk ttX10_fewestWinding 49 rfl rfl) ?_
              refine zj_min (zdk ttX10_fewestWinding 50 rfl rfl) mx_RX10_348 (by omega) (by omega) (Nat.le_of_ble_eq_true rfl) (rm_mS (by decide)) ?_
              have b160 := zm_min_f p1 (x7 + v154)
              refine zj_istore_n (L' := [some (.inr 0), some (.inl p1), some (.inr 2), some (.inl (zm_min p1 (x7 + v154))), some (.inl x8), some (.inl v154)]) (zdk ttX10_fewestWinding 51 rfl rfl) (by decide) rfl ?_
              refine zj_aload_n (zdk ttX10_fewestWinding 52 rfl rfl) rfl (by decide) ?_
              refine zj_iload (zdk ttX10_fewestWinding 53 rfl rfl) rfl ?_
              refine zj_iload_n (zdk ttX10_fewestWinding 54 rfl rfl) rfl ?_
              refine zj_ldc_w (z := 262144) (zdk ttX10_fewestWinding 55 rfl rfl) wc_RX10_353 ?_
              refine zj_iconst (zdk ttX10_fewestWinding 56 rfl rfl) ?_
              refine zj_iload (zdk ttX10_fewestWinding 57 rfl rfl) rfl ?_
              refine zj_ishl (zdk ttX10_fewestWinding 58 rfl rfl) ?_
              have b161 := zshl_1 (n := x8) (a := 0) (b := 17) (lo := 1) (hi := 131072) (by omega) (by decide) (by decide) (by decide)
              refine zj_iadd (zdk ttX10_fewestWinding 59 rfl rfl) ?_
              refine zj_callV (av := [.inl v154, .inl (zm_min p1 (x7 + v154)), .inl (262144 + (zshl 1 x8))]) (st := []) (zdk ttX10_fewestWinding 60 rfl rfl) mb_X10_addToSums mv_RX10_354 (ci := 10) rfl rfl (k_L0 s157) rfl rfl (Nat.le_of_ble_eq_true rfl) (s_X10_addToSums l h155 v154 (zm_min p1 (x7 + v154)) (262144 + (zshl 1 x8)) s157 (by omega) (by omega) (by omega) ((u158.trans u139).trans k10)) (rm_okS (by decide) (by decide)) (zq_v fun h164 q162 => ?_)
              obtain ⟨s166, u167⟩ := q162
              refine zj_iinc (L' := [some (.inr 0), some (.inl p1), some (.inr 2), some (.inl (zm_min p1 (x7 + v154))), some (.inl (x8 + 1)), some (.inl v154)]) (zdk ttX10_fewestWinding 61 rfl rfl) rfl (by decide) rfl ?_
              refine zj_goto (t := 49) (zdk ttX10_fewestWinding 62 rfl rfl) (by decide) ?_
              refine zj_kill (k := 5) (L' := [some (.inr 0), some (.inl p1), some (.inr 2), some (.inl (zm_min p1 (x7 + v154))), some (.inl (x8 + 1)), none]) rfl ?_
              exact ih141  (zm_min p1 (x7 + v154)) (x8 + 1) h164 (by omega) (by omega) s166 (u167.trans (u158.trans u139)) (by omega)
  exact lp136 _ 0 0 h4 (by omega) (by omega) s6 ((zwr_r (a := 0) (b := 10) e5 (by omega)).trans (show h1.2 0 10 = h.2 0 10 by rw [e2]; exact zfill_n (by decide))) (Nat.lt_succ_self _)
set_option maxRecDepth 100000 in
theorem s_X10_fewestWinding (l : Launch) (h : zM) (p1 : Int) (s0 : okC h) (b_p1 : 0 ≤ p1 ∧ p1 ≤ 9999) : zT shC l yX10_fewestWinding cX10_fewestWinding 6 (some .int) (rmS 20) 1 10000 [.inr 0, .inl p1] h q_X10_fewestWinding := by
  refine zT_of (by decide +kernel) (L0 := [some (.inr 0), some (.inl p1), none, none, none, none]) rfl (Nat.le_of_ble_eq_true rfl) ?_
  refine zj_aload_n (zdk ttX10_fewestWinding 0 rfl rfl) rfl (by decide) ?_
  rcases s0.2.2.2 with ⟨e0, en⟩ | ⟨e0, en⟩
  · refine zj_getr (r := -1) (zdk ttX10_fewestWinding 1 rfl rfl) zf_RX10_63 rfl (k_L0 s0) e0 ?_
    refine zj_ifnonnull (t := 16) (zdk ttX10_fewestWinding 2 rfl rfl) (by decide) (fun q => absurd rfl q) (fun q => ?_)
    refine zj_aload_n (zdk ttX10_fewestWinding 3 rfl rfl) rfl (by decide) ?_
    refine zj_sipush (zdk ttX10_fewestWinding 4 rfl rfl) (by decide) ?_
    refine zj_newi (N := 10000) (zdk ttX10_fewestWinding 5 rfl rfl) wa_int rfl (by decide) (by rw [en]; decide +kernel) ⟨Nat.le_refl _, Nat.le_refl _⟩ (fun h1 e1 => ?_)
    have h140 : (h.1 : Int) = 140 := by omega
    have hk : shC 0 = .inl 10 ∧ (0 : Int) ≤ 0 ∧ (0 : Int) < h1.1 := ⟨(k_L0 s0).1, by decide, by rw [e1]; show (0 : Int) < ((h.1 + 1 : Nat) : Int); omega⟩
    refine zj_putr (zdk ttX10_fewestWinding 6 rfl rfl) zf_RX10_63 rfl hk (Or.inl zw_RX10_63) (k2 := 10) rfl (fun h2 e2 => ?_)
    rw [h140] at e2
    obtain ⟨s2, k2⟩ := okC_new s0 e0 e1 e2
    exact fw_tail l h2 p1 s2 b_p1 k2
  · refine zj_getr (r := 140) (zdk ttX10_fewestWinding 1 rfl rfl) zf_RX10_63 rfl (k_L0 s0) e0 ?_
    refine zj_ifnonnull (t := 16) (zdk ttX10_fewestWinding 2 rfl rfl) (by decide) (fun q => ?_) (fun q => absurd q (by decide))
    exact zj_widen (Nat.zero_le _) (Nat.zero_le _) (fw_tail l h p1 s0 b_p1 e0)

abbrev tX10_must : List (Nat × Instr × Nat) := [(0, .iload_n 1, 1), (1, .iconst 0, 1), (2, .sipush 9999, 3), (5, .invokestatic 77, 3), (8, .ifCond .eq 12, 3), (11, .iload_n 2, 1), (12, .iconst 0, 1), (13, .iconst 1, 1), (14, .invokestatic 77, 3), (17, .ifCond .ne 5, 3), (20, .iconst (-1), 1), (21, .ireturn, 1), (22, .aload_n 0, 1), (23, .iload_n 1, 1), (24, .invokevirtual 249, 3), (27, .istore_n 3, 1), (28, .iload_n 3, 1), (29, .ldc 252, 2), (31, .if_icmp .ne 5, 3), (34, .iconst (-1), 1), (35, .ireturn, 1), (36, .iload_n 2, 1), (37, .ifCond .ne 10, 3), (40, .iload_n 3, 1), (41, .bipush 18, 2), (43, .ishr, 1), (44, .goto 7, 3), (47, .iload_n 3, 1), (48, .ldc 253, 2), (50, .iand, 1), (51, .ireturn, 1)]
theorem ttX10_must : zdt cX10_must tX10_must = true := by decide +kernel
abbrev q_X10_must (h : zM) (p1 : Int) (p2 : Int) : Option zV → zM → Prop := zqi fun v h' => ((-2147483648) ≤ v ∧ v ≤ 2147483647) ∧ okC h'
set_option maxRecDepth 100000 in
set_option maxHeartbeats 4000000 in
theorem s_X10_must (l : Launch) (h : zM) (p1 : Int) (p2 : Int) (s0 : okC h) (b_p1 : (-2147483648) ≤ p1 ∧ p1 ≤ 2147483647) (b_p2 : (-2147483648) ≤ p2 ∧ p2 ≤ 2147483647) : zT shC l yX10_must cX10_must 4 (some .int) (rmS 21) 1 10000 [.inr 0, .inl p1, .inl p2] h (q_X10_must h p1 p2) := by
  refine zT_of (by decide +kernel) (L0 := [some (.inr 0), some (.inl p1), some (.inl p2), none]) rfl (Nat.le_of_ble_eq_true rfl) ?_
  refine zj_iload_n (zdk ttX10_must 0 rfl rfl) rfl ?_
  refine zj_iconst (zdk ttX10_must 1 rfl rfl) ?_
  refine zj_sipush (zdk ttX10_must 2 rfl rfl) (by decide) ?_
  refine zj_callS (av := [.inl p1, .inl 0, .inl 9999]) (st := []) (zdk ttX10_must 3 rfl rfl) mb_X10_within ms_RX10_77 rfl rfl (Nat.le_of_ble_eq_true rfl) (s_X10_within l h p1 0 9999 s0 (by omega) (by omega) (by omega)) (rm_okS0 (by decide) (by decide)) (zq_i fun v2 h3 q1 => ?_)
  obtain ⟨rfl, ⟨rfl, b4⟩ | ⟨rfl, b4⟩⟩ := q1
  · refine zj_if_eq (t := 20) (zdk ttX10_must 4 rfl rfl) (by decide) (by decide) (fun c5 => ?_) (fun c5 => ?_)
    · refine zj_iconst (zdk ttX10_must 10 rfl rfl) ?_
      exact zj_iret rfl (zdk ttX10_must 11 rfl rfl) (Nat.le_of_ble_eq_true rfl) (Nat.le_of_ble_eq_true rfl) ⟨(-1), rfl, by omega, s0⟩
    · exact absurd c5 (by omega)
  · refine zj_if_eq (t := 20) (zdk ttX10_must 4 rfl rfl) (by decide) (by decide) (fun c6 => ?_) (fun c6 => ?_)
    · exact absurd c6 (by omega)
    · refine zj_iload_n (zdk ttX10_must 5 rfl rfl) rfl ?_
      refine zj_iconst (zdk ttX10_must 6 rfl rfl) ?_
      refine zj_iconst (zdk ttX10_must 7 rfl rfl) ?_
      refine zj_callS (av := [.inl p2, .inl 0, .inl 1]) (st := []) (zdk ttX10_must 8 rfl rfl) mb_X10_within ms_RX10_77 rfl rfl (Nat.le_of_ble_eq_true rfl) (s_X10_within l h p2 0 1 s0 (by omega) (by omega) (by omega)) (rm_okS0 (by decide) (by decide)) (zq_i fun v8 h9 q7 => ?_)
      obtain ⟨rfl, ⟨rfl, b10⟩ | ⟨rfl, b10⟩⟩ := q7
      · refine zj_if_ne (t := 22) (zdk ttX10_must 9 rfl rfl) (by decide) (by decide) (fun c11 => ?_) (fun c11 => ?_)
        · exact absurd c11 (by omega)
        · refine zj_iconst (zdk ttX10_must 10 rfl rfl) ?_
          exact zj_iret rfl (zdk ttX10_must 11 rfl rfl) (Nat.le_of_ble_eq_true rfl) (Nat.le_of_ble_eq_true rfl) ⟨(-1), rfl, by omega, s0⟩
      · refine zj_if_ne (t := 22) (zdk ttX10_must 9 rfl rfl) (by decide) (by decide) (fun c12 => ?_) (fun c12 => ?_)
        · refine zj_aload_n (zdk ttX10_must 12 rfl rfl) rfl (by decide) ?_
          refine zj_iload_n (zdk ttX10_must 13 rfl rfl) rfl ?_
          refine zj_callV (av := [.inl p1]) (st := []) (zdk ttX10_must 14 rfl rfl) mb_X10_fewestWinding mv_RX10_249 (ci := 10) rfl rfl (k_L0 s0) rfl rfl (Nat.le_of_ble_eq_true rfl) (s_X10_fewestWinding l h p1 s0 (by omega)) (rm_okS1 (by decide) (by decide)) (zq_i fun v14 h15 q13 => ?_)
          obtain ⟨b16, s17⟩ := q13
          refine zj_istore_n (L' := [some (.inr 0), some (.inl p1), some (.inl p2), some (.inl v14)]) (zdk ttX10_must 15 rfl rfl) (by decide) rfl ?_
          refine zj_iload_n (zdk ttX10_must 16 rfl rfl) rfl ?_
          refine zj_ldc (z := 2147483647) (zdk ttX10_must 17 rfl rfl) wc_RX10_252 ?_
          refine zj_icmp_ne (t := 36) (zdk ttX10_must 18 rfl rfl) (by decide) (by omega) (by decide) (fun c18 => ?_) (fun c18 => ?_)
          · refine zj_iload_n (zdk ttX10_must 21 rfl rfl) rfl ?_
            refine zj_if_ne (t := 47) (zdk ttX10_must 22 rfl rfl) (by decide) (by omega) (fun c19 => ?_) (fun c19 => ?_)
            · refine zj_iload_n (zdk ttX10_must 27 rfl rfl) rfl ?_
              refine zj_ldc (z := 262143) (zdk ttX10_must 28 rfl rfl) wc_RX10_253 ?_
              refine zj_iand (zdk ttX10_must 29 rfl rfl) ?_
              have b20 := zand_m (d := 262144) 18 (by decide) (c := 262143) (by decide) (by decide) v14
              exact zj_iret rfl (zdk ttX10_must 30 rfl rfl) (Nat.le_of_ble_eq_true rfl) (Nat.le_of_ble_eq_true rfl) ⟨(zand v14 262143), rfl, by omega, s17⟩
            · refine zj_iload_n (zdk ttX10_must 23 rfl rfl) rfl ?_
              refine zj_bipush (zdk ttX10_must 24 rfl rfl) (by decide) ?_
              refine zj_ishr (zdk ttX10_must 25 rfl rfl) ?_
              have b21 := zshr_in v14 18
              refine zj_goto (t := 51) (zdk ttX10_must 26 rfl rfl) (by decide) ?_
              exact zj_iret rfl (zdk ttX10_must 30 rfl rfl) (Nat.le_of_ble_eq_true rfl) (Nat.le_of_ble_eq_true rfl) ⟨(zshr v14 18), rfl, by omega, s17⟩
          · refine zj_iconst (zdk ttX10_must 19 rfl rfl) ?_
            exact zj_iret rfl (zdk ttX10_must 20 rfl rfl) (Nat.le_of_ble_eq_true rfl) (Nat.le_of_ble_eq_true rfl) ⟨(-1), rfl, by omega, s17⟩
        · exact absurd c12 (by omega)
