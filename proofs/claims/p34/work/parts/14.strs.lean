def zi8 (a : Int) : Int := (Int32.ofInt a).toInt8.toInt32.toInt
theorem zi8_n : ∀ n : Nat, n < 256 → zi8 (n : Int) = (if n < 128 then (n : Int) else (n : Int) - 256) := by decide +kernel
theorem zi8_f {a : Int} (h : 0 ≤ a ∧ a ≤ 255) : (zi8 a = a ∧ a ≤ 127) ∨ (zi8 a = a - 256 ∧ 128 ≤ a) := by
  have := zi8_n a.toNat (by omega)
  rw [show ((a.toNat : Nat) : Int) = a by omega] at this
  split at this <;> omega
abbrev q_ix (h : zM) (i : Nat) (a : Int) : Option zV → zM → Prop := zqi fun v h' => h = h' ∧ ((v = -1 ∧ ∀ j : Nat, j < zln i → ¬ zbv i j = a) ∨ (0 ≤ v ∧ v < zln i ∧ zbv i v.toNat = a))
set_option maxHeartbeats 1000000 in
theorem s_J1_indexOfChar_4cfef (sh : zSh) (l : Launch) (h : zM) (i : Nat) (a : Int) (hi : i < 5) (ha : 0 ≤ a ∧ a ≤ 255) : zT sh l yJ1_indexOfChar_4cfef cJ1_indexOfChar_4cfef 6 (some .int) (rmL 0) 0 0 [.inr (-10 - (i : Int)), .inl a, .inl 0, .inl (zln i)] h (q_ix h i a) := by
  have hl := zln_b i hi
  have h8 := zi8_f ha
  refine zT_of (by decide +kernel) (L0 := [some (.inr (-10 - (i : Int))), some (.inl a), some (.inl 0), some (.inl (zln i)), none, none]) rfl (Nat.le_of_ble_eq_true rfl) ?_
  refine zj_iload_n (zdk ttJ1_indexOfChar_4cfef 0 rfl rfl) rfl ?_
  refine zj_i2b (zdk ttJ1_indexOfChar_4cfef 1 rfl rfl) ?_
  refine zj_istore (L' := [some (.inr (-10 - (i : Int))), some (.inl a), some (.inl 0), some (.inl (zln i)), some (.inl (zi8 a)), none]) (zdk ttJ1_indexOfChar_4cfef 2 rfl rfl) (by decide) rfl ?_
  refine zj_iload_n (zdk ttJ1_indexOfChar_4cfef 3 rfl rfl) rfl ?_
  refine zj_istore (L' := [some (.inr (-10 - (i : Int))), some (.inl a), some (.inl 0), some (.inl (zln i)), some (.inl (zi8 a)), some (.inl 0)]) (zdk ttJ1_indexOfChar_4cfef 4 rfl rfl) (by decide) rfl ?_
  have lp : ∀ (n : Nat) (x : Int), (0 ≤ x ∧ x ≤ zln i) → (∀ j : Nat, (j : Int) < x → ¬ zbv i j = a) → (100 - x).toNat < n → zJ sh l yJ1_indexOfChar_4cfef cJ1_indexOfChar_4cfef 6 (some .int) (rmL 0) 0 0 (q_ix h i a) 0 0 7 [some (.inr (-10 - (i : Int))), some (.inl a), some (.inl 0), some (.inl (zln i)), some (.inl (zi8 a)), some (.inl x)] [] h := by
    intro n
    induction n with
    | zero => intro x _ _ hm; exact absurd hm (Nat.not_lt_zero _)
    | succ n ih =>
      intro x hx hj hm
      refine zj_iload (zdk ttJ1_indexOfChar_4cfef 5 rfl rfl) rfl ?_
      refine zj_iload_n (zdk ttJ1_indexOfChar_4cfef 6 rfl rfl) rfl ?_
      refine zj_icmp_ge (t := 31) (zdk ttJ1_indexOfChar_4cfef 7 rfl rfl) (by decide) (by omega) (by omega) (fun q => ?_) (fun q => ?_)
      · refine zj_iconst (zdk ttJ1_indexOfChar_4cfef 17 rfl rfl) ?_
        exact zj_iret rfl (zdk ttJ1_indexOfChar_4cfef 18 rfl rfl) (Nat.le_refl _) (Nat.le_refl _) ⟨-1, rfl, rfl, Or.inl ⟨rfl, fun j hjl => hj j (by omega)⟩⟩
      · have hv := zbv_b i hi x.toNat (by omega)
        refine zj_aload_n (zdk ttJ1_indexOfChar_4cfef 8 rfl rfl) rfl (by omega) ?_
        refine zj_iload (zdk ttJ1_indexOfChar_4cfef 9 rfl rfl) rfl ?_
        refine zj_sbald hi (by omega) (zdk ttJ1_indexOfChar_4cfef 10 rfl rfl) ?_
        refine zj_iload (zdk ttJ1_indexOfChar_4cfef 11 rfl rfl) rfl ?_
        refine zj_icmp_ne (t := 25) (zdk ttJ1_indexOfChar_4cfef 12 rfl rfl) (by decide) (by omega) (by omega) (fun q2 => ?_) (fun q2 => ?_)
        · refine zj_iinc (L' := [some (.inr (-10 - (i : Int))), some (.inl a), some (.inl 0), some (.inl (zln i)), some (.inl (zi8 a)), some (.inl (x + 1))]) (zdk ttJ1_indexOfChar_4cfef 15 rfl rfl) rfl (by decide) rfl ?_
          refine zj_goto (t := 7) (zdk ttJ1_indexOfChar_4cfef 16 rfl rfl) (by decide) ?_
          refine ih (x + 1) (by omega) (fun j hjl => ?_) (by omega)
          by_cases e : (j : Int) = x
          · rw [show j = x.toNat by omega]; omega
          · exact hj j (by omega)
        · refine zj_iload (zdk ttJ1_indexOfChar_4cfef 13 rfl rfl) rfl ?_
          exact zj_iret rfl (zdk ttJ1_indexOfChar_4cfef 14 rfl rfl) (Nat.le_refl _) (Nat.le_refl _) ⟨x, rfl, rfl, Or.inr ⟨by omega, by omega, by omega⟩⟩
  exact lp _ 0 (by omega) (fun j hjl => absurd hjl (by omega)) (Nat.lt_succ_self _)
theorem s_J1_canEncode_9a6ad (sh : zSh) (l : Launch) (h : zM) (a : Int) (ha : 0 ≤ a ∧ a ≤ 255) : zT sh l yJ1_canEncode_9a6ad cJ1_canEncode_9a6ad 1 (some .boolean) (rmL 0) 0 0 [.inl a] h (zqi fun v h' => h = h' ∧ v = 1) := by
  refine zT_of (by decide +kernel) (L0 := [some (.inl a)]) rfl (Nat.le_of_ble_eq_true rfl) ?_
  refine zj_iload_n (zdk ttJ1_canEncode_9a6ad 0 rfl rfl) rfl ?_
  refine zj_if_lt (t := 15) (zdk ttJ1_canEncode_9a6ad 1 rfl rfl) (by decide) (by omega) (fun q => absurd q (by omega)) (fun q => ?_)
  refine zj_iload_n (zdk ttJ1_canEncode_9a6ad 2 rfl rfl) rfl ?_
  refine zj_sipush (zdk ttJ1_canEncode_9a6ad 3 rfl rfl) (by decide) ?_
  refine zj_icmp_gt (t := 15) (zdk ttJ1_canEncode_9a6ad 4 rfl rfl) (by decide) (by omega) (by decide) (fun q => absurd q (by omega)) (fun q => ?_)
  refine zj_iconst (zdk ttJ1_canEncode_9a6ad 5 rfl rfl) ?_
  refine zj_goto (t := 16) (zdk ttJ1_canEncode_9a6ad 6 rfl rfl) (by decide) ?_
  exact zj_zret rfl (zdk ttJ1_canEncode_9a6ad 8 rfl rfl) (Nat.le_refl _) (Nat.le_refl _) (Or.inr rfl) ⟨1, rfl, rfl, rfl⟩
theorem s_J1_indexOf_4cfef (sh : zSh) (l : Launch) (h : zM) (i : Nat) (a : Int) (hi : i < 5) (hp : 0 < zln i) (ha : 0 ≤ a ∧ a ≤ 255) : zT sh l yJ1_indexOf_4cfef cJ1_indexOf_4cfef 4 (some .int) (rmL 1) 0 0 [.inr (-10 - (i : Int)), .inl a, .inl 0, .inl (zln i)] h (q_ix h i a) := by
  have hl := zln_b i hi
  refine zT_of (by decide +kernel) (L0 := [some (.inr (-10 - (i : Int))), some (.inl a), some (.inl 0), some (.inl (zln i))]) rfl (Nat.le_of_ble_eq_true rfl) ?_
  refine zj_iload_n (zdk ttJ1_indexOf_4cfef 0 rfl rfl) rfl ?_
  refine zj_callS (av := [.inl a]) (st := []) (zdk ttJ1_indexOf_4cfef 1 rfl rfl) mb_J1_canEncode_9a6ad ms_RJ1_88 rfl rfl (Nat.le_of_ble_eq_true rfl) (s_J1_canEncode_9a6ad sh l h a ha) (rm_ok (by decide) (by decide)) (zq_i fun v h1 q => ?_)
  obtain ⟨rfl, rfl⟩ := q
  refine zj_if_ne (t := 9) (zdk ttJ1_indexOf_4cfef 2 rfl rfl) (by decide) (by decide) (fun q => ?_) (fun q => absurd q (by decide))
  refine zj_iload_n (zdk ttJ1_indexOf_4cfef 5 rfl rfl) rfl ?_
  refine zj_iconst (zdk ttJ1_indexOf_4cfef 6 rfl rfl) ?_
  refine zj_max (zdk ttJ1_indexOf_4cfef 7 rfl rfl) mx_RJ1_92 (by decide) (by decide) (Nat.le_of_ble_eq_true rfl) (rm_m (by decide)) ?_
  rw [show zm_max 0 0 = 0 by decide]
  refine zj_istore_n (L' := [some (.inr (-10 - (i : Int))), some (.inl a), some (.inl 0), some (.inl (zln i))]) (zdk ttJ1_indexOf_4cfef 8 rfl rfl) (by decide) rfl ?_
  refine zj_iload_n (zdk ttJ1_indexOf_4cfef 9 rfl rfl) rfl ?_
  refine zj_aload_n (zdk ttJ1_indexOf_4cfef 10 rfl rfl) rfl (by omega) ?_
  refine zj_slen hi (zdk ttJ1_indexOf_4cfef 11 rfl rfl) ?_
  refine zj_min (zdk ttJ1_indexOf_4cfef 12 rfl rfl) mx_RJ1_38 (by omega) (by omega) (Nat.le_of_ble_eq_true rfl) (rm_m (by decide)) ?_
  rw [show zm_min (zln i : Int) (zln i) = zln i by have := zm_min_f (zln i : Int) (zln i); omega]
  refine zj_istore_n (L' := [some (.inr (-10 - (i : Int))), some (.inl a), some (.inl 0), some (.inl (zln i))]) (zdk ttJ1_indexOf_4cfef 13 rfl rfl) (by decide) rfl ?_
  refine zj_iload_n (zdk ttJ1_indexOf_4cfef 14 rfl rfl) rfl ?_
  refine zj_iload_n (zdk ttJ1_indexOf_4cfef 15 rfl rfl) rfl ?_
  refine zj_icmp_lt (t := 29) (zdk ttJ1_indexOf_4cfef 16 rfl rfl) (by decide) (by decide) (by omega) (fun q => ?_) (fun q => absurd q (by omega))
  refine zj_aload_n (zdk ttJ1_indexOf_4cfef 19 rfl rfl) rfl (by omega) ?_
  refine zj_iload_n (zdk ttJ1_indexOf_4cfef 20 rfl rfl) rfl ?_
  refine zj_iload_n (zdk ttJ1_indexOf_4cfef 21 rfl rfl) rfl ?_
  refine zj_iload_n (zdk ttJ1_indexOf_4cfef 22 rfl rfl) rfl ?_
  refine zj_callS (av := [.inr (-10 - (i : Int)), .inl a, .inl 0, .inl (zln i)]) (st := []) (zdk ttJ1_indexOf_4cfef 23 rfl rfl) mb_J1_indexOfChar_4cfef ms_RJ1_95 rfl rfl (Nat.le_of_ble_eq_true rfl) (s_J1_indexOfChar_4cfef sh l h i a hi ha) (rm_ok (by decide) (by decide)) (zq_i fun v h1 q => ?_)
  obtain ⟨rfl, q⟩ := q
  exact zj_iret rfl (zdk ttJ1_indexOf_4cfef 24 rfl rfl) (Nat.le_refl _) (Nat.le_refl _) ⟨v, rfl, rfl, q⟩
theorem s_J0_indexOf_7cf53 (sh : zSh) (l : Launch) (h : zM) (i : Nat) (a : Int) (hi : i < 5) (hp : 0 < zln i) (ha : 0 ≤ a ∧ a ≤ 255) : zT sh l yJ0_indexOf_7cf53 cJ0_indexOf_7cf53 3 (some .int) (rmL 2) 0 0 [.inr (-2 - (i : Int)), .inl a, .inl 0] h (q_ix h i a) := by
  refine zT_of (by decide +kernel) (L0 := [some (.inr (-2 - (i : Int))), some (.inl a), some (.inl 0)]) rfl (Nat.le_of_ble_eq_true rfl) ?_
  refine zj_aload_n (zdk ttJ0_indexOf_7cf53 0 rfl rfl) rfl (by omega) ?_
  refine zj_callVs hi (av := []) (st := []) (zdk ttJ0_indexOf_7cf53 1 rfl rfl) mb_J0_isLatin1_aae02 mv_RJ0_492 rfl rfl rfl (Nat.le_of_ble_eq_true rfl) (s_J0_isLatin1_aae02 sh l h i hi) (rm_ok (by decide) (by decide)) (zq_i fun v h1 q => ?_)
  obtain ⟨rfl, rfl⟩ := q
  refine zj_if_eq (t := 23) (zdk ttJ0_indexOf_7cf53 2 rfl rfl) (by decide) (by decide) (fun q => absurd q (by decide)) (fun q => ?_)
  refine zj_aload_n (zdk ttJ0_indexOf_7cf53 3 rfl rfl) rfl (by omega) ?_
  refine zj_sval hi (zdk ttJ0_indexOf_7cf53 4 rfl rfl) ws_val ?_
  refine zj_iload_n (zdk ttJ0_indexOf_7cf53 5 rfl rfl) rfl ?_
  refine zj_iload_n (zdk ttJ0_indexOf_7cf53 6 rfl rfl) rfl ?_
  refine zj_aload_n (zdk ttJ0_indexOf_7cf53 7 rfl rfl) rfl (by omega) ?_
  refine zj_callVs hi (av := []) (st := [.inl 0, .inl a, .inr (-10 - (i : Int))]) (zdk ttJ0_indexOf_7cf53 8 rfl rfl) mb_J0_length_8abf5 mv_RJ0_505 rfl rfl rfl (Nat.le_of_ble_eq_true rfl) (s_J0_length_8abf5 sh l h i hi) (rm_ok (by decide) (by decide)) (zq_i fun v h1 q => ?_)
  obtain ⟨rfl, rfl⟩ := q
  refine zj_callS (av := [.inr (-10 - (i : Int)), .inl a, .inl 0, .inl (zln i)]) (st := []) (zdk ttJ0_indexOf_7cf53 9 rfl rfl) mb_J1_indexOf_4cfef ms_RJ0_637 rfl rfl (Nat.le_of_ble_eq_true rfl) (s_J1_indexOf_4cfef sh l h i a hi hp ha) (rm_ok (by decide) (by decide)) (zq_i fun v h1 q => ?_)
  obtain ⟨rfl, q⟩ := q
  refine zj_goto (t := 36) (zdk ttJ0_indexOf_7cf53 10 rfl rfl) (by decide) ?_
  exact zj_iret rfl (zdk ttJ0_indexOf_7cf53 18 rfl rfl) (Nat.le_refl _) (Nat.le_refl _) ⟨v, rfl, rfl, q⟩
theorem s_J0_indexOf_0f7a4 (sh : zSh) (l : Launch) (h : zM) (i : Nat) (a : Int) (hi : i < 5) (hp : 0 < zln i) (ha : 0 ≤ a ∧ a ≤ 255) : zT sh l yJ0_indexOf_0f7a4 cJ0_indexOf_0f7a4 2 (some .int) (rmL 3) 0 0 [.inr (-2 - (i : Int)), .inl a] h (q_ix h i a) := by
  refine zT_of (by decide +kernel) (L0 := [some (.inr (-2 - (i : Int))), some (.inl a)]) rfl (Nat.le_of_ble_eq_true rfl) ?_
  refine zj_aload_n (zdk ttJ0_indexOf_0f7a4 0 rfl rfl) rfl (by omega) ?_
  refine zj_iload_n (zdk ttJ0_indexOf_0f7a4 1 rfl rfl) rfl ?_
  refine zj_iconst (zdk ttJ0_indexOf_0f7a4 2 rfl rfl) ?_
  refine zj_callVs hi (av := [.inl a, .inl 0]) (st := []) (zdk ttJ0_indexOf_0f7a4 3 rfl rfl) mb_J0_indexOf_7cf53 mv_RJ0_633 rfl rfl rfl (Nat.le_of_ble_eq_true rfl) (s_J0_indexOf_7cf53 sh l h i a hi hp ha) (rm_ok (by decide) (by decide)) (zq_i fun v h1 q => ?_)
  obtain ⟨rfl, q⟩ := q
  exact zj_iret rfl (zdk ttJ0_indexOf_0f7a4 4 rfl rfl) (Nat.le_refl _) (Nat.le_refl _) ⟨v, rfl, rfl, q⟩
