abbrev q2_X11_takesLaw (h : zM) (p1 : Int) : Option zV → zM → Prop := zqv fun h' => okM h' ∧ zfr [] [9, 10, 11, 12, 13, 14, 15] h h' ∧ (∀ l, 0 ≤ l → l < p1 → h'.2 10 l = h.2 10 (32 + l) ∧ h'.2 11 l = h.2 11 (32 + l) ∧ h'.2 12 l = h.2 12 (32 + l) ∧ h'.2 13 l = h.2 13 (32 + l)) ∧ (∀ i, 0 ≤ i → i < h.2 0 25 → h'.2 14 i = h.2 14 (800 + i) ∧ h'.2 15 i = h.2 15 (800 + i)) ∧ (h'.2 9 0 = p1)
set_option maxRecDepth 100000 in
set_option maxHeartbeats 4000000 in
theorem s2_X11_takesLaw (l : Launch) (h : zM) (p1 : Int) (s0 : okM h) (b_p1 : 0 ≤ p1 ∧ p1 ≤ 16) (u_0 : zLn h p1) : zT shM l yX11_takesLaw cX11_takesLaw 3 none (rmL 1) 0 0 [.inr 0, .inl p1] h (q2_X11_takesLaw h p1) := by
  refine zT_of (by decide +kernel) (L0 := [some (.inr 0), some (.inl p1), none]) rfl (Nat.le_of_ble_eq_true rfl) ?_
  have sB := s0.B
  refine zj_iconst (zdk ttX11_takesLaw 0 rfl rfl) ?_
  refine zj_istore_n (L' := [some (.inr 0), some (.inl p1), some (.inl 0)]) (zdk ttX11_takesLaw 1 rfl rfl) (by decide) rfl ?_
  have lp90 : ∀ (n2 : Nat) (x1 : Int) (h2 : zM), (0 ≤ x1 ∧ x1 ≤ 16) → okB h2 → zfr [] [9, 10, 11, 12, 13, 14, 15] h h2 → (∀ l, 0 ≤ l → l < x1 → h2.2 11 l = h.2 11 (32 + l) ∧ h2.2 12 l = h.2 12 (32 + l) ∧ h2.2 13 l = h.2 13 (32 + l)) → (∀ j, 32 ≤ j → h2.2 11 j = h.2 11 j ∧ h2.2 12 j = h.2 12 j ∧ h2.2 13 j = h.2 13 j) → (∀ j, h2.2 14 j = h.2 14 j ∧ h2.2 15 j = h.2 15 j) → (∀ l, 0 ≤ l → l < x1 → h2.2 10 l = h.2 10 (32 + l)) → (∀ j, 32 ≤ j → h2.2 10 j = h.2 10 j) → (17 - x1).toNat < n2 → zJ shM l yX11_takesLaw cX11_takesLaw 3 none (rmL 1) 0 0 (q2_X11_takesLaw h p1) 0 0 2 [some (.inr 0), some (.inl p1), some (.inl x1)] [] h2 := by
    intro n2
    induction n2 with
    | zero => intro x1 h2 b91 s3 f4 u92 u93 u94 u95 u96 m97; exact absurd m97 (Nat.not_lt_zero _)
    | succ n2 ih98 =>
      intro x1 h2 b91 s3 f4 u92 u93 u94 u95 u96 m97
      refine zj_iload_n (zdk ttX11_takesLaw 2 rfl rfl) rfl ?_
      refine zj_iload_n (zdk ttX11_takesLaw 3 rfl rfl) rfl ?_
      refine zj_icmp_ge (t := 105) (zdk ttX11_takesLaw 4 rfl rfl) (by decide) (by omega) (by omega) (fun c99 => ?_) (fun c99 => ?_)
      · refine zj_iconst (zdk ttX11_takesLaw 67 rfl rfl) ?_
        refine zj_istore_n (L' := [some (.inr 0), some (.inl p1), some (.inl 0)]) (zdk ttX11_takesLaw 68 rfl rfl) (by decide) rfl ?_
        have lp214 : ∀ (n107 : Nat) (x100 : Int) (h101 : zM), (0 ≤ x100 ∧ x100 ≤ 400) → okB h101 → zfr [] [9, 10, 11, 12, 13, 14, 15] h h101 → (∀ l, 0 ≤ l → l < p1 → h101.2 11 l = h.2 11 (32 + l) ∧ h101.2 12 l = h.2 12 (32 + l) ∧ h101.2 13 l = h.2 13 (32 + l)) → (∀ i, 0 ≤ i → i < x100 → h101.2 14 i = h.2 14 (800 + i) ∧ h101.2 15 i = h.2 15 (800 + i)) → (∀ j, 800 ≤ j → h101.2 14 j = h.2 14 j ∧ h101.2 15 j = h.2 15 j) → (∀ l, 0 ≤ l → l < p1 → h101.2 10 l = h.2 10 (32 + l)) → (401 - x100).toNat < n107 → zJ shM l yX11_takesLaw cX11_takesLaw 3 none (rmL 1) 0 0 (q2_X11_takesLaw h p1) 0 0 107 [some (.inr 0), some (.inl p1), some (.inl x100)] [] h101 := by
          intro n107
          induction n107 with
          | zero => intro x100 h101 b215 s102 f103 u216 u217 u218 u219 m220; exact absurd m220 (Nat.not_lt_zero _)
          | succ n107 ih221 =>
            intro x100 h101 b215 s102 f103 u216 u217 u218 u219 m220
            refine zj_iload_n (zdk ttX11_takesLaw 69 rfl rfl) rfl ?_
            refine zj_aload_n (zdk ttX11_takesLaw 70 rfl rfl) rfl (by decide) ?_
            have b222 : 0 ≤ (h.2 0 25) ∧ (h.2 0 25) ≤ 400 := fB_25 sB
            refine zj_geti (v := (h.2 0 25)) (zdk ttX11_takesLaw 71 rfl rfl) zf_RX11_191 rfl (k_B s102) (zfr_f f103 rfl rfl) ?_
            refine zj_icmp_ge (t := 171) (zdk ttX11_takesLaw 72 rfl rfl) (by decide) (by omega) (by omega) (fun c223 => ?_) (fun c223 => ?_)
            · refine zj_aload_n (zdk ttX11_takesLaw 105 rfl rfl) rfl (by decide) ?_
              refine zj_getr (r := 9) (zdk ttX11_takesLaw 106 rfl rfl) zf_RX11_34 rfl (k_B s102) (rfB_17 s102) ?_
              refine zj_aload_n (zdk ttX11_takesLaw 107 rfl rfl) rfl (by decide) ?_
              have b224 : 0 ≤ (h.2 0 24) ∧ (h.2 0 24) ≤ 0 := fB_24 sB
              refine zj_geti (v := (h.2 0 24)) (zdk ttX11_takesLaw 108 rfl rfl) zf_RX11_245 rfl (k_B s102) (zfr_f f103 rfl rfl) ?_
              refine zj_iload_n (zdk ttX11_takesLaw 109 rfl rfl) rfl ?_
              refine zj_iast (zdk ttX11_takesLaw 110 rfl rfl) (kaB_9 s102) (by decide) (by omega) (fun h225 e226 => ?_)
              have s227 : okB h225 := awB_9 s102 e226 (by omega)
              have f228 : zfr [] [9, 10, 11, 12, 13, 14, 15] h h225 := zfr_wa f103 e226 rfl
              exact zj_vret rfl (zdk ttX11_takesLaw 111 rfl rfl) (Nat.le_refl _) (Nat.le_refl _) ⟨rfl, (okM_law s0 s227 f228 (zwr_vk e226 (by omega)) (fun l q1 q2 => ⟨(zwr_r e226 (by first | decide | exact (absurd ·.1 (by decide)) | exact (absurd ·.2 (by decide)) | omega)).trans (u216 l q1 q2).1, (zwr_r e226 (by first | decide | exact (absurd ·.1 (by decide)) | exact (absurd ·.2 (by decide)) | omega)).trans (u216 l q1 q2).2.1, (zwr_r e226 (by first | decide | exact (absurd ·.1 (by decide)) | exact (absurd ·.2 (by decide)) | omega)).trans (u216 l q1 q2).2.2⟩) (fun l q1 q2 => ⟨(zwr_r e226 (by first | decide | exact (absurd ·.1 (by decide)) | exact (absurd ·.2 (by decide)) | omega)).trans (u217 l q1 (by omega)).1, (zwr_r e226 (by first | decide | exact (absurd ·.1 (by decide)) | exact (absurd ·.2 (by decide)) | omega)).trans (u217 l q1 (by omega)).2⟩) u_0), f228, (fun l q1 q2 => ⟨(zwr_r e226 (by first | decide | exact (absurd ·.1 (by decide)) | exact (absurd ·.2 (by decide)) | omega)).trans (u219 l q1 q2), (zwr_r e226 (by first | decide | exact (absurd ·.1 (by decide)) | exact (absurd ·.2 (by decide)) | omega)).trans (u216 l q1 q2).1, (zwr_r e226 (by first | decide | exact (absurd ·.1 (by decide)) | exact (absurd ·.2 (by decide)) | omega)).trans (u216 l q1 q2).2.1, (zwr_r e226 (by first | decide | exact (absurd ·.1 (by decide)) | exact (absurd ·.2 (by decide)) | omega)).trans (u216 l q1 q2).2.2⟩), (fun l q1 q2 => ⟨(zwr_r e226 (by first | decide | exact (absurd ·.1 (by decide)) | exact (absurd ·.2 (by decide)) | omega)).trans (u217 l q1 (by omega)).1, (zwr_r e226 (by first | decide | exact (absurd ·.1 (by decide)) | exact (absurd ·.2 (by decide)) | omega)).trans (u217 l q1 (by omega)).2⟩), (zwr_vk e226 (by omega))⟩
            · refine zj_aload_n (zdk ttX11_takesLaw 73 rfl rfl) rfl (by decide) ?_
              refine zj_getr (r := 14) (zdk ttX11_takesLaw 74 rfl rfl) zf_RX11_49 rfl (k_B s102) (rfB_22 s102) ?_
              refine zj_sipush (zdk ttX11_takesLaw 75 rfl rfl) (by decide) ?_
              refine zj_aload_n (zdk ttX11_takesLaw 76 rfl rfl) rfl (by decide) ?_
              have b229 : 0 ≤ (h.2 0 24) ∧ (h.2 0 24) ≤ 0 := fB_24 sB
              refine zj_geti (v := (h.2 0 24)) (zdk ttX11_takesLaw 77 rfl rfl) zf_RX11_245 rfl (k_B s102) (zfr_f f103 rfl rfl) ?_
              refine zj_imul (zdk ttX11_takesLaw 78 rfl rfl) ?_
              refine zj_iload_n (zdk ttX11_takesLaw 79 rfl rfl) rfl ?_
              refine zj_iadd (zdk ttX11_takesLaw 80 rfl rfl) ?_
              refine zj_aload_n (zdk ttX11_takesLaw 81 rfl rfl) rfl (by decide) ?_
              refine zj_getr (r := 14) (zdk ttX11_takesLaw 82 rfl rfl) zf_RX11_49 rfl (k_B s102) (rfB_22 s102) ?_
              refine zj_sipush (zdk ttX11_takesLaw 83 rfl rfl) (by decide) ?_
              refine zj_iload_n (zdk ttX11_takesLaw 84 rfl rfl) rfl ?_
              refine zj_iadd (zdk ttX11_takesLaw 85 rfl rfl) ?_
              have b230 : -2147483648 ≤ (h101.2 14 (800 + x100)) ∧ (h101.2 14 (800 + x100)) ≤ 2147483647 := abB_14 s102 (800 + x100)
              refine zj_iald (v := (h101.2 14 (800 + x100))) (zdk ttX11_takesLaw 86 rfl rfl) (kaB_14 s102) (by decide) (by omega) rfl ?_
              refine zj_iast (zdk ttX11_takesLaw 87 rfl rfl) (kaB_14 s102) (by decide) (by omega) (fun h231 e232 => ?_)
              refine zj_aload_n (zdk ttX11_takesLaw 88 rfl rfl) rfl (by decide) ?_
              have s233 : okB h231 := awB_14 s102 e232 (by omega)
              refine zj_getr (r := 15) (zdk ttX11_takesLaw 89 rfl rfl) zf_RX11_52 rfl (k_B s233) (rfB_23 s233) ?_
              refine zj_sipush (zdk ttX11_takesLaw 90 rfl rfl) (by decide) ?_
              refine zj_aload_n (zdk ttX11_takesLaw 91 rfl rfl) rfl (by decide) ?_
              refine zj_geti (v := (h.2 0 24)) (zdk ttX11_takesLaw 92 rfl rfl) zf_RX11_245 rfl (k_B s233) ((zwr_r e232 (by first | decide | exact (absurd ·.1 (by decide)) | exact (absurd ·.2 (by decide)) | omega)).trans (zfr_f f103 rfl rfl)) ?_
              refine zj_imul (zdk ttX11_takesLaw 93 rfl rfl) ?_
              refine zj_iload_n (zdk ttX11_takesLaw 94 rfl rfl) rfl ?_
              refine zj_iadd (zdk ttX11_takesLaw 95 rfl rfl) ?_
              refine zj_aload_n (zdk ttX11_takesLaw 96 rfl rfl) rfl (by decide) ?_
              refine zj_getr (r := 15) (zdk ttX11_takesLaw 97 rfl rfl) zf_RX11_52 rfl (k_B s233) (rfB_23 s233) ?_
              refine zj_sipush (zdk ttX11_takesLaw 98 rfl rfl) (by decide) ?_
              refine zj_iload_n (zdk ttX11_takesLaw 99 rfl rfl) rfl ?_
              refine zj_iadd (zdk ttX11_takesLaw 100 rfl rfl) ?_
              have b234 : -2147483648 ≤ (h101.2 15 (800 + x100)) ∧ (h101.2 15 (800 + x100)) ≤ 2147483647 := abB_15 s102 (800 + x100)
              refine zj_iald (v := (h101.2 15 (800 + x100))) (zdk ttX11_takesLaw 101 rfl rfl) (kaB_15 s233) (by decide) (by omega) (zwr_r e232 (by first | decide | exact (absurd ·.1 (by decide)) | exact (absurd ·.2 (by decide)) | omega)) ?_
              refine zj_iast (zdk ttX11_takesLaw 102 rfl rfl) (kaB_15 s233) (by decide) (by omega) (fun h235 e236 => ?_)
              refine zj_iinc (L' := [some (.inr 0), some (.inl p1), some (.inl (x100 + 1))]) (zdk ttX11_takesLaw 103 rfl rfl) rfl (by decide) rfl ?_
              refine zj_goto (t := 107) (zdk ttX11_takesLaw 104 rfl rfl) (by decide) ?_
              have s237 : okB h235 := awB_15 s233 e236 (by omega)
              have f239 : zfr [] [9, 10, 11, 12, 13, 14, 15] h h231 := zfr_wa f103 e232 rfl
              have f238 : zfr [] [9, 10, 11, 12, 13, 14, 15] h h235 := zfr_wa f239 e236 rfl
              exact ih221  (x100 + 1) h235 (by omega) s237 f238 (fun l q1 q2 => ⟨((zwr_r e236 (by first | decide | exact (absurd ·.1 (by decide)) | exact (absurd ·.2 (by decide)) | omega)).trans (zwr_r e232 (by first | decide | exact (absurd ·.1 (by decide)) | exact (absurd ·.2 (by decide)) | omega))).trans (u216 l q1 q2).1, ((zwr_r e236 (by first | decide | exact (absurd ·.1 (by decide)) | exact (absurd ·.2 (by decide)) | omega)).trans (zwr_r e232 (by first | decide | exact (absurd ·.1 (by decide)) | exact (absurd ·.2 (by decide)) | omega))).trans (u216 l q1 q2).2.1, ((zwr_r e236 (by first | decide | exact (absurd ·.1 (by decide)) | exact (absurd ·.2 (by decide)) | omega)).trans (zwr_r e232 (by first | decide | exact (absurd ·.1 (by decide)) | exact (absurd ·.2 (by decide)) | omega))).trans (u216 l q1 q2).2.2⟩) (fun l q1 q2 => (Classical.em (l = x100)).elim (fun q => by rw [q]; exact ⟨((zwr_r e236 (by first | decide | exact (absurd ·.1 (by decide)) | exact (absurd ·.2 (by decide)) | omega)).trans (zwr_vk e232 (by omega))).trans (u218 (800 + x100) (by omega)).1, (zwr_vk e236 (by omega)).trans (u218 (800 + x100) (by omega)).2⟩) (fun q => ⟨((zwr_r e236 (by first | decide | exact (absurd ·.1 (by decide)) | exact (absurd ·.2 (by decide)) | omega)).trans (zwr_r e232 (by first | decide | exact (absurd ·.1 (by decide)) | exact (absurd ·.2 (by decide)) | omega))).trans (u217 l q1 (by omega)).1, ((zwr_r e236 (by first | decide | exact (absurd ·.1 (by decide)) | exact (absurd ·.2 (by decide)) | omega)).trans (zwr_r e232 (by first | decide | exact (absurd ·.1 (by decide)) | exact (absurd ·.2 (by decide)) | omega))).trans (u217 l q1 (by omega)).2⟩)) (fun j q => ⟨((zwr_r e236 (by first | decide | exact (absurd ·.1 (by decide)) | exact (absurd ·.2 (by decide)) | omega)).trans (zwr_r e232 (by first | decide | exact (absurd ·.1 (by decide)) | exact (absurd ·.2 (by decide)) | omega))).trans (u218 j q).1, ((zwr_r e236 (by first | decide | exact (absurd ·.1 (by decide)) | exact (absurd ·.2 (by decide)) | omega)).trans (zwr_r e232 (by first | decide | exact (absurd ·.1 (by decide)) | exact (absurd ·.2 (by decide)) | omega))).trans (u218 j q).2⟩) (fun l q1 q2 => ((zwr_r e236 (by first | decide | exact (absurd ·.1 (by decide)) | exact (absurd ·.2 (by decide)) | omega)).trans (zwr_r e232 (by first | decide | exact (absurd ·.1 (by decide)) | exact (absurd ·.2 (by decide)) | omega))).trans (u219 l q1 q2)) (by omega)
        exact lp214 _ 0 h2 (by omega) s3 f4 (fun l q1 q2 => u92 l q1 (by omega)) (fun l q1 q2 => absurd q1 (by omega)) (fun j q => ⟨(u94 j).1, (u94 j).2⟩) (fun l q1 q2 => u95 l q1 (by omega)) (Nat.lt_succ_self _)
      · refine zj_aload_n (zdk ttX11_takesLaw 5 rfl rfl) rfl (by decide) ?_
        refine zj_getr (r := 10) (zdk ttX11_takesLaw 6 rfl rfl) zf_RX11_37 rfl (k_B s3) (rfB_18 s3) ?_
        refine zj_bipush (zdk ttX11_takesLaw 7 rfl rfl) (by decide) ?_
        refine zj_aload_n (zdk ttX11_takesLaw 8 rfl rfl) rfl (by decide) ?_
        have b240 : 0 ≤ (h.2 0 24) ∧ (h.2 0 24) ≤ 0 := fB_24 sB
        refine zj_geti (v := (h.2 0 24)) (zdk ttX11_takesLaw 9 rfl rfl) zf_RX11_245 rfl (k_B s3) (zfr_f f4 rfl rfl) ?_
        refine zj_imul (zdk ttX11_takesLaw 10 rfl rfl) ?_
        refine zj_iload_n (zdk ttX11_takesLaw 11 rfl rfl) rfl ?_
        refine zj_iadd (zdk ttX11_takesLaw 12 rfl rfl) ?_
        refine zj_aload_n (zdk ttX11_takesLaw 13 rfl rfl) rfl (by decide) ?_
        refine zj_getr (r := 10) (zdk ttX11_takesLaw 14 rfl rfl) zf_RX11_37 rfl (k_B s3) (rfB_18 s3) ?_
        refine zj_bipush (zdk ttX11_takesLaw 15 rfl rfl) (by decide) ?_
        refine zj_iload_n (zdk ttX11_takesLaw 16 rfl rfl) rfl ?_
        refine zj_iadd (zdk ttX11_takesLaw 17 rfl rfl) ?_
        have b241 : -2147483648 ≤ (h2.2 10 (32 + x1)) ∧ (h2.2 10 (32 + x1)) ≤ 2147483647 := abB_10 s3 (32 + x1)
        refine zj_iald (v := (h2.2 10 (32 + x1))) (zdk ttX11_takesLaw 18 rfl rfl) (kaB_10 s3) (by decide) (by omega) rfl ?_
        refine zj_iast (zdk ttX11_takesLaw 19 rfl rfl) (kaB_10 s3) (by decide) (by omega) (fun h242 e243 => ?_)
        refine zj_aload_n (zdk ttX11_takesLaw 20 rfl rfl) rfl (by decide) ?_
        have s244 : okB h242 := awB_10 s3 e243 (by omega)
        refine zj_getr (r := 11) (zdk ttX11_takesLaw 21 rfl rfl) zf_RX11_40 rfl (k_B s244) (rfB_19 s244) ?_
        refine zj_bipush (zdk ttX11_takesLaw 22 rfl rfl) (by decide) ?_
        refine zj_aload_n (zdk ttX11_takesLaw 23 rfl rfl) rfl (by decide) ?_
        refine zj_geti (v := (h.2 0 24)) (zdk ttX11_takesLaw 24 rfl rfl) zf_RX11_245 rfl (k_B s244) ((zwr_r e243 (by first | decide | exact (absurd ·.1 (by decide)) | exact (absurd ·.2 (by decide)) | omega)).trans (zfr_f f4 rfl rfl)) ?_
        refine zj_imul (zdk ttX11_takesLaw 25 rfl rfl) ?_
        refine zj_iload_n (zdk ttX11_takesLaw 26 rfl rfl) rfl ?_
        refine zj_iadd (zdk ttX11_takesLaw 27 rfl rfl) ?_
        refine zj_aload_n (zdk ttX11_takesLaw 28 rfl rfl) rfl (by decide) ?_
        refine zj_getr (r := 11) (zdk ttX11_takesLaw 29 rfl rfl) zf_RX11_40 rfl (k_B s244) (rfB_19 s244) ?_
        refine zj_bipush (zdk ttX11_takesLaw 30 rfl rfl) (by decide) ?_
        refine zj_iload_n (zdk ttX11_takesLaw 31 rfl rfl) rfl ?_
        refine zj_iadd (zdk ttX11_takesLaw 32 rfl rfl) ?_
        have b245 : 0 ≤ (h2.2 11 (32 + x1)) ∧ (h2.2 11 (32 + x1)) ≤ 400 := abB_11 s3 (32 + x1)
        refine zj_iald (v := (h2.2 11 (32 + x1))) (zdk ttX11_takesLaw 33 rfl rfl) (kaB_11 s244) (by decide) (by omega) (zwr_r e243 (by first | decide | exact (absurd ·.1 (by decide)) | exact (absurd ·.2 (by decide)) | omega)) ?_
        refine zj_iast (zdk ttX11_takesLaw 34 rfl rfl) (kaB_11 s244) (by decide) (by omega) (fun h246 e247 => ?_)
        refine zj_aload_n (zdk ttX11_takesLaw 35 rfl rfl) rfl (by decide) ?_
        have s248 : okB h246 := awB_11 s244 e247 (by omega)
        refine zj_getr (r := 12) (zdk ttX11_takesLaw 36 rfl rfl) zf_RX11_43 rfl (k_B s248) (rfB_20 s248) ?_
        refine zj_bipush (zdk ttX11_takesLaw 37 rfl rfl) (by decide) ?_
        refine zj_aload_n (zdk ttX11_takesLaw 38 rfl rfl) rfl (by decide) ?_
        refine zj_geti (v := (h.2 0 24)) (zdk ttX11_takesLaw 39 rfl rfl) zf_RX11_245 rfl (k_B s248) (((zwr_r e247 (by first | decide | exact (absurd ·.1 (by decide)) | exact (absurd ·.2 (by decide)) | omega)).trans (zwr_r e243 (by first | decide | exact (absurd ·.1 (by decide)) | exact (absurd ·.2 (by decide)) | omega))).trans (zfr_f f4 rfl rfl)) ?_
        refine zj_imul (zdk ttX11_takesLaw 40 rfl rfl) ?_
        refine zj_iload_n (zdk ttX11_takesLaw 41 rfl rfl) rfl ?_
        refine zj_iadd (zdk ttX11_takesLaw 42 rfl rfl) ?_
        refine zj_aload_n (zdk ttX11_takesLaw 43 rfl rfl) rfl (by decide) ?_
        refine zj_getr (r := 12) (zdk ttX11_takesLaw 44 rfl rfl) zf_RX11_43 rfl (k_B s248) (rfB_20 s248) ?_
        refine zj_bipush (zdk ttX11_takesLaw 45 rfl rfl) (by decide) ?_
        refine zj_iload_n (zdk ttX11_takesLaw 46 rfl rfl) rfl ?_
        refine zj_iadd (zdk ttX11_takesLaw 47 rfl rfl) ?_
        have b249 : 0 ≤ (h2.2 12 (32 + x1)) ∧ (h2.2 12 (32 + x1)) ≤ 400 := abB_12 s3 (32 + x1)
        refine zj_iald (v := (h2.2 12 (32 + x1))) (zdk ttX11_takesLaw 48 rfl rfl) (kaB_12 s248) (by decide) (by omega) ((zwr_r e247 (by first | decide | exact (absurd ·.1 (by decide)) | exact (absurd ·.2 (by decide)) | omega)).trans (zwr_r e243 (by first | decide | exact (absurd ·.1 (by decide)) | exact (absurd ·.2 (by decide)) | omega))) ?_
        refine zj_iast (zdk ttX11_takesLaw 49 rfl rfl) (kaB_12 s248) (by decide) (by omega) (fun h250 e251 => ?_)
        refine zj_aload_n (zdk ttX11_takesLaw 50 rfl rfl) rfl (by decide) ?_
        have s252 : okB h250 := awB_12 s248 e251 (by omega)
        refine zj_getr (r := 13) (zdk ttX11_takesLaw 51 rfl rfl) zf_RX11_46 rfl (k_B s252) (rfB_21 s252) ?_
        refine zj_bipush (zdk ttX11_takesLaw 52 rfl rfl) (by decide) ?_
        refine zj_aload_n (zdk ttX11_takesLaw 53 rfl rfl) rfl (by decide) ?_
        refine zj_geti (v := (h.2 0 24)) (zdk ttX11_takesLaw 54 rfl rfl) zf_RX11_245 rfl (k_B s252) ((((zwr_r e251 (by first | decide | exact (absurd ·.1 (by decide)) | exact (absurd ·.2 (by decide)) | omega)).trans (zwr_r e247 (by first | decide | exact (absurd ·.1 (by decide)) | exact (absurd ·.2 (by decide)) | omega))).trans (zwr_r e243 (by first | decide | exact (absurd ·.1 (by decide)) | exact (absurd ·.2 (by decide)) | omega))).trans (zfr_f f4 rfl rfl)) ?_
        refine zj_imul (zdk ttX11_takesLaw 55 rfl rfl) ?_
        refine zj_iload_n (zdk ttX11_takesLaw 56 rfl rfl) rfl ?_
        refine zj_iadd (zdk ttX11_takesLaw 57 rfl rfl) ?_
        refine zj_aload_n (zdk ttX11_takesLaw 58 rfl rfl) rfl (by decide) ?_
        refine zj_getr (r := 13) (zdk ttX11_takesLaw 59 rfl rfl) zf_RX11_46 rfl (k_B s252) (rfB_21 s252) ?_
        refine zj_bipush (zdk ttX11_takesLaw 60 rfl rfl) (by decide) ?_
        refine zj_iload_n (zdk ttX11_takesLaw 61 rfl rfl) rfl ?_
        refine zj_iadd (zdk ttX11_takesLaw 62 rfl rfl) ?_
        have b253 : 0 ≤ (h2.2 13 (32 + x1)) ∧ (h2.2 13 (32 + x1)) ≤ 400 := abB_13 s3 (32 + x1)
        refine zj_iald (v := (h2.2 13 (32 + x1))) (zdk ttX11_takesLaw 63 rfl rfl) (kaB_13 s252) (by decide) (by omega) (((zwr_r e251 (by first | decide | exact (absurd ·.1 (by decide)) | exact (absurd ·.2 (by decide)) | omega)).trans (zwr_r e247 (by first | decide | exact (absurd ·.1 (by decide)) | exact (absurd ·.2 (by decide)) | omega))).trans (zwr_r e243 (by first | decide | exact (absurd ·.1 (by decide)) | exact (absurd ·.2 (by decide)) | omega))) ?_
        refine zj_iast (zdk ttX11_takesLaw 64 rfl rfl) (kaB_13 s252) (by decide) (by omega) (fun h254 e255 => ?_)
        refine zj_iinc (L' := [some (.inr 0), some (.inl p1), some (.inl (x1 + 1))]) (zdk ttX11_takesLaw 65 rfl rfl) rfl (by decide) rfl ?_
        refine zj_goto (t := 2) (zdk ttX11_takesLaw 66 rfl rfl) (by decide) ?_
        have s256 : okB h254 := awB_13 s252 e255 (by omega)
        have f260 : zfr [] [9, 10, 11, 12, 13, 14, 15] h h242 := zfr_wa f4 e243 rfl
        have f259 : zfr [] [9, 10, 11, 12, 13, 14, 15] h h246 := zfr_wa f260 e247 rfl
        have f258 : zfr [] [9, 10, 11, 12, 13, 14, 15] h h250 := zfr_wa f259 e251 rfl
        have f257 : zfr [] [9, 10, 11, 12, 13, 14, 15] h h254 := zfr_wa f258 e255 rfl
        exact ih98  (x1 + 1) h254 (by omega) s256 f257 (fun l q1 q2 => (Classical.em (l = x1)).elim (fun q => by rw [q]; exact ⟨(((zwr_r e255 (by first | decide | exact (absurd ·.1 (by decide)) | exact (absurd ·.2 (by decide)) | omega)).trans (zwr_r e251 (by first | decide | exact (absurd ·.1 (by decide)) | exact (absurd ·.2 (by decide)) | omega))).trans (zwr_vk e247 (by omega))).trans (u93 (32 + x1) (by omega)).1, ((zwr_r e255 (by first | decide | exact (absurd ·.1 (by decide)) | exact (absurd ·.2 (by decide)) | omega)).trans (zwr_vk e251 (by omega))).trans (u93 (32 + x1) (by omega)).2.1, (zwr_vk e255 (by omega)).trans (u93 (32 + x1) (by omega)).2.2⟩) (fun q => ⟨((((zwr_r e255 (by first | decide | exact (absurd ·.1 (by decide)) | exact (absurd ·.2 (by decide)) | omega)).trans (zwr_r e251 (by first | decide | exact (absurd ·.1 (by decide)) | exact (absurd ·.2 (by decide)) | omega))).trans (zwr_r e247 (by first | decide | exact (absurd ·.1 (by decide)) | exact (absurd ·.2 (by decide)) | omega))).trans (zwr_r e243 (by first | decide | exact (absurd ·.1 (by decide)) | exact (absurd ·.2 (by decide)) | omega))).trans (u92 l q1 (by omega)).1, ((((zwr_r e255 (by first | decide | exact (absurd ·.1 (by decide)) | exact (absurd ·.2 (by decide)) | omega)).trans (zwr_r e251 (by first | decide | exact (absurd ·.1 (by decide)) | exact (absurd ·.2 (by decide)) | omega))).trans (zwr_r e247 (by first | decide | exact (absurd ·.1 (by decide)) | exact (absurd ·.2 (by decide)) | omega))).trans (zwr_r e243 (by first | decide | exact (absurd ·.1 (by decide)) | exact (absurd ·.2 (by decide)) | omega))).trans (u92 l q1 (by omega)).2.1, ((((zwr_r e255 (by first | decide | exact (absurd ·.1 (by decide)) | exact (absurd ·.2 (by decide)) | omega)).trans (zwr_r e251 (by first | decide | exact (absurd ·.1 (by decide)) | exact (absurd ·.2 (by decide)) | omega))).trans (zwr_r e247 (by first | decide | exact (absurd ·.1 (by decide)) | exact (absurd ·.2 (by decide)) | omega))).trans (zwr_r e243 (by first | decide | exact (absurd ·.1 (by decide)) | exact (absurd ·.2 (by decide)) | omega))).trans (u92 l q1 (by omega)).2.2⟩)) (fun j q => ⟨((((zwr_r e255 (by first | decide | exact (absurd ·.1 (by decide)) | exact (absurd ·.2 (by decide)) | omega)).trans (zwr_r e251 (by first | decide | exact (absurd ·.1 (by decide)) | exact (absurd ·.2 (by decide)) | omega))).trans (zwr_r e247 (by first | decide | exact (absurd ·.1 (by decide)) | exact (absurd ·.2 (by decide)) | omega))).trans (zwr_r e243 (by first | decide | exact (absurd ·.1 (by decide)) | exact (absurd ·.2 (by decide)) | omega))).trans (u93 j q).1, ((((zwr_r e255 (by first | decide | exact (absurd ·.1 (by decide)) | exact (absurd ·.2 (by decide)) | omega)).trans (zwr_r e251 (by first | decide | exact (absurd ·.1 (by decide)) | exact (absurd ·.2 (by decide)) | omega))).trans (zwr_r e247 (by first | decide | exact (absurd ·.1 (by decide)) | exact (absurd ·.2 (by decide)) | omega))).trans (zwr_r e243 (by first | decide | exact (absurd ·.1 (by decide)) | exact (absurd ·.2 (by decide)) | omega))).trans (u93 j q).2.1, ((((zwr_r e255 (by first | decide | exact (absurd ·.1 (by decide)) | exact (absurd ·.2 (by decide)) | omega)).trans (zwr_r e251 (by first | decide | exact (absurd ·.1 (by decide)) | exact (absurd ·.2 (by decide)) | omega))).trans (zwr_r e247 (by first | decide | exact (absurd ·.1 (by decide)) | exact (absurd ·.2 (by decide)) | omega))).trans (zwr_r e243 (by first | decide | exact (absurd ·.1 (by decide)) | exact (absurd ·.2 (by decide)) | omega))).trans (u93 j q).2.2⟩) (fun j => ⟨((((zwr_r e255 (by first | decide | exact (absurd ·.1 (by decide)) | exact (absurd ·.2 (by decide)) | omega)).trans (zwr_r e251 (by first | decide | exact (absurd ·.1 (by decide)) | exact (absurd ·.2 (by decide)) | omega))).trans (zwr_r e247 (by first | decide | exact (absurd ·.1 (by decide)) | exact (absurd ·.2 (by decide)) | omega))).trans (zwr_r e243 (by first | decide | exact (absurd ·.1 (by decide)) | exact (absurd ·.2 (by decide)) | omega))).trans (u94 j).1, ((((zwr_r e255 (by first | decide | exact (absurd ·.1 (by decide)) | exact (absurd ·.2 (by decide)) | omega)).trans (zwr_r e251 (by first | decide | exact (absurd ·.1 (by decide)) | exact (absurd ·.2 (by decide)) | omega))).trans (zwr_r e247 (by first | decide | exact (absurd ·.1 (by decide)) | exact (absurd ·.2 (by decide)) | omega))).trans (zwr_r e243 (by first | decide | exact (absurd ·.1 (by decide)) | exact (absurd ·.2 (by decide)) | omega))).trans (u94 j).2⟩) (fun l q1 q2 => (Classical.em (l = x1)).elim (fun q => by rw [q]; exact ((((zwr_r e255 (by first | decide | exact (absurd ·.1 (by decide)) | exact (absurd ·.2 (by decide)) | omega)).trans (zwr_r e251 (by first | decide | exact (absurd ·.1 (by decide)) | exact (absurd ·.2 (by decide)) | omega))).trans (zwr_r e247 (by first | decide | exact (absurd ·.1 (by decide)) | exact (absurd ·.2 (by decide)) | omega))).trans (zwr_vk e243 (by omega))).trans (u96 (32 + x1) (by omega))) (fun q => ((((zwr_r e255 (by first | decide | exact (absurd ·.1 (by decide)) | exact (absurd ·.2 (by decide)) | omega)).trans (zwr_r e251 (by first | decide | exact (absurd ·.1 (by decide)) | exact (absurd ·.2 (by decide)) | omega))).trans (zwr_r e247 (by first | decide | exact (absurd ·.1 (by decide)) | exact (absurd ·.2 (by decide)) | omega))).trans (zwr_r e243 (by first | decide | exact (absurd ·.1 (by decide)) | exact (absurd ·.2 (by decide)) | omega))).trans (u95 l q1 (by omega)))) (fun j q => ((((zwr_r e255 (by first | decide | exact (absurd ·.1 (by decide)) | exact (absurd ·.2 (by decide)) | omega)).trans (zwr_r e251 (by first | decide | exact (absurd ·.1 (by decide)) | exact (absurd ·.2 (by decide)) | omega))).trans (zwr_r e247 (by first | decide | exact (absurd ·.1 (by decide)) | exact (absurd ·.2 (by decide)) | omega))).trans (zwr_r e243 (by first | decide | exact (absurd ·.1 (by decide)) | exact (absurd ·.2 (by decide)) | omega))).trans (u96 j q)) (by omega)
  exact lp90 _ 0 h (by omega) sB (zfr_r _ _ _) (fun l q1 q2 => absurd q1 (by omega)) (fun j q => ⟨rfl, rfl, rfl⟩) (fun j => ⟨rfl, rfl⟩) (fun l q1 q2 => absurd q1 (by omega)) (fun j q => rfl) (Nat.lt_succ_self _)

abbrev q2_X11_takesOther (h : zM) (p1 : Int) (p2 : Int) : Option zV → zM → Prop := zqv fun h' => okM h' ∧ zfr [3, 33, 35, 37] [17, 18, 19] h h' ∧ (p1 = 3 → (∀ j, 0 ≤ j → j < 18 → h'.2 19 j = h.2 19 (18 + j)) ∧ h'.2 0 37 = p2 ∧ (∀ j, h'.2 17 j = h.2 17 j) ∧ (∀ j, h'.2 18 j = h.2 18 j) ∧ (∀ j, ¬ j = 37 → h'.2 0 j = h.2 0 j)) ∧ (p1 = 1 → (∀ j, 0 ≤ j → j < 3 * p2 → h'.2 17 j = h.2 17 (48 + j)) ∧ h'.2 0 33 = p2 ∧ h'.2 0 3 = 0 ∧ (∀ j, h'.2 18 j = h.2 18 j) ∧ (∀ j, h'.2 19 j = h.2 19 j) ∧ (∀ j, ¬ j = 33 → ¬ j = 3 → h'.2 0 j = h.2 0 j)) ∧ (p1 = 2 → (∀ j, 0 ≤ j → j < 3 * p2 → h'.2 18 j = h.2 18 (48 + j)) ∧ h'.2 0 35 = p2 ∧ h'.2 0 3 = 0 ∧ (∀ j, h'.2 17 j = h.2 17 j) ∧ (∀ j, h'.2 19 j = h.2 19 j) ∧ (∀ j, ¬ j = 35 → ¬ j = 3 → h'.2 0 j = h.2 0 j))
set_option maxRecDepth 100000 in
set_option maxHeartbeats 4000000 in
theorem s2_X11_takesOther (l : Launch) (h : zM) (p1 : Int) (p2 : Int) (s0 : okM h) (b_p1 : 1 ≤ p1 ∧ p1 ≤ 3) (b_p2 : 0 ≤ p2 ∧ p2 ≤ 16) (u_0 : p1 = 2 → ∀ j, 0 ≤ j → j < p2 → wfD1 (h.2 18 (48 + 3 * j + 1)) (h.2 18 (48 + 3 * j + 2))) : zT shM l yX11_takesOther cX11_takesOther 4 none (rmL 1) 0 0 [.inr 0, .inl p1, .inl p2] h (q2_X11_takesOther h p1 p2) := by
  refine zT_of (by decide +kernel) (L0 := [some (.inr 0), some (.inl p1), some (.inl p2), none]) rfl (Nat.le_of_ble_eq_true rfl) ?_
  have sB := s0.B
  refine zj_iload_n (zdk ttX11_takesOther 0 rfl rfl) rfl ?_
  refine zj_iconst (zdk ttX11_takesOther 1 rfl rfl) ?_
  refine zj_icmp_ne (t := 40) (zdk ttX11_takesOther 2 rfl rfl) (by decide) (by omega) (by decide) (fun c1 => ?_) (fun c1 => ?_)
  · refine zj_iload_n (zdk ttX11_takesOther 24 rfl rfl) rfl ?_
    refine zj_iconst (zdk ttX11_takesOther 25 rfl rfl) ?_
    refine zj_icmp_ne (t := 83) (zdk ttX11_takesOther 26 rfl rfl) (by decide) (by omega) (by decide) (fun c2 => ?_) (fun c2 => ?_)
    · refine zj_iconst (zdk ttX11_takesOther 50 rfl rfl) ?_
      refine zj_istore_n (L' := [some (.inr 0), some (.inl p1), some (.inl p2), some (.inl 0)]) (zdk ttX11_takesOther 51 rfl rfl) (by decide) rfl ?_
      have lp51 : ∀ (n85 : Nat) (x3 : Int) (h4 : zM), (0 ≤ x3 ∧ x3 ≤ 48) → okB h4 → zfr [3, 33, 35, 37] [17, 18, 19] h h4 → (∀ j, 0 ≤ j → j < x3 → h4.2 18 j = h.2 18 (48 + j)) → (∀ j, x3 ≤ j → h4.2 18 j = h.2 18 j) → (x3 ≤ 3 * p2) → (∀ j, 0 ≤ j → j < x3 → h4.2 18 j = h.2 18 (48 + j)) → (∀ j, x3 ≤ j → h4.2 18 j = h.2 18 j) → (∀ j, h4.2 17 j = h.2 17 j) → (∀ j, h4.2 19 j = h.2 19 j) → (∀ j, h4.2 0 j = h.2 0 j) → (49 - x3).toNat < n85 → zJ shM l yX11_takesOther cX11_takesOther 4 none (rmL 1) 0 0 (q2_X11_takesOther h p1 p2) 0 0 85 [some (.inr 0), some (.inl p1), some (.inl p2), some (.inl x3)] [] h4 := by
        intro n85
        induction n85 with
        | zero => intro x3 h4 b52 s5 f6 u53 u54 u55 u56 u57 u58 u59 u60 m61; exact absurd m61 (Nat.not_lt_zero _)
        | succ n85 ih62 =>
          intro x3 h4 b52 s5 f6 u53 u54 u55 u56 u57 u58 u59 u60 m61
          refine zj_iload_n (zdk ttX11_takesOther 52 rfl rfl) rfl ?_
          refine zj_iconst (zdk ttX11_takesOther 53 rfl rfl) ?_
          refine zj_iload_n (zdk ttX11_takesOther 54 rfl rfl) rfl ?_
          refine zj_imul (zdk ttX11_takesOther 55 rfl rfl) ?_
          refine zj_icmp_ge (t := 113) (zdk ttX11_takesOther 56 rfl rfl) (by decide) (by omega) (by omega) (fun c63 => ?_) (fun c63 => ?_)
          · refine zj_aload_n (zdk ttX11_takesOther 69 rfl rfl) rfl (by decide) ?_
            refine zj_iload_n (zdk ttX11_takesOther 70 rfl rfl) rfl ?_
            refine zj_puti (zdk ttX11_takesOther 71 rfl rfl) zf_RX11_288 rfl (k_B s5) (Or.inl zw_RX11_288) (k2 := 35) rfl (fun h64 e65 => ?_)
            refine zj_aload_n (zdk ttX11_takesOther 72 rfl rfl) rfl (by decide) ?_
            refine zj_iconst (zdk ttX11_takesOther 73 rfl rfl) ?_
            have s66 : okB h64 := fwB_35 s5 e65 (by omega)
            refine zj_puti (zdk ttX11_takesOther 74 rfl rfl) zf_RX11_123 rfl (k_B s66) (Or.inl zw_RX11_123) (k2 := 3) rfl (fun h67 e68 => ?_)
            have s69 : okB h67 := fwB_3 s66 e68 (by omega)
            have f71 : zfr [3, 33, 35, 37] [17, 18, 19] h h64 := zfr_wf f6 e65 rfl
            have f70 : zfr [3, 33, 35, 37] [17, 18, 19] h h67 := zfr_wf f71 e68 rfl
            exact zj_vret rfl (zdk ttX11_takesOther 75 rfl rfl) (Nat.le_refl _) (Nat.le_refl _) ⟨rfl, (okM_deeds (n := p2) s0 s69 f70 (fun j q1 q2 => (((zwr_r e68 (by first | decide | exact (absurd ·.1 (by decide)) | exact (absurd ·.2 (by decide)) | omega)).trans (zwr_r e65 (by first | decide | exact (absurd ·.1 (by decide)) | exact (absurd ·.2 (by decide)) | omega))).trans (u53 j q1 (by omega)))) (fun j q1 q2 => (((zwr_r e68 (by first | decide | exact (absurd ·.1 (by decide)) | exact (absurd ·.2 (by decide)) | omega)).trans (zwr_r e65 (by first | decide | exact (absurd ·.1 (by decide)) | exact (absurd ·.2 (by decide)) | omega))).trans (u54 j (by omega)))) (u_0 (by omega))), f70, (fun q => absurd q (by omega)), (fun q => absurd q (by omega)), (fun _ => ⟨(fun j q1 q2 => ((zwr_r e68 (by first | decide | exact (absurd ·.1 (by decide)) | exact (absurd ·.2 (by decide)) | omega)).trans (zwr_r e65 (by first | decide | exact (absurd ·.1 (by decide)) | exact (absurd ·.2 (by decide)) | omega))).trans (u56 j q1 (by omega))), ((zwr_r e68 (by first | decide | exact (absurd ·.1 (by decide)) | exact (absurd ·.2 (by decide)) | omega)).trans (zwr_v e65)), (zwr_v e68), (fun j => ((zwr_r e68 (by first | decide | exact (absurd ·.1 (by decide)) | exact (absurd ·.2 (by decide)) | omega)).trans (zwr_r e65 (by first | decide | exact (absurd ·.1 (by decide)) | exact (absurd ·.2 (by decide)) | omega))).trans (u58 j)), (fun j => ((zwr_r e68 (by first | decide | exact (absurd ·.1 (by decide)) | exact (absurd ·.2 (by decide)) | omega)).trans (zwr_r e65 (by first | decide | exact (absurd ·.1 (by decide)) | exact (absurd ·.2 (by decide)) | omega))).trans (u59 j)), (fun j q1 q2 => ((zwr_r e68 (by first | decide | exact (absurd ·.1 (by decide)) | exact (absurd ·.2 (by decide)) | omega)).trans (zwr_r e65 (by first | decide | exact (absurd ·.1 (by decide)) | exact (absurd ·.2 (by decide)) | omega))).trans (u60 j))⟩)⟩
          · refine zj_aload_n (zdk ttX11_takesOther 57 rfl rfl) rfl (by decide) ?_
            refine zj_getr (r := 18) (zdk ttX11_takesOther 58 rfl rfl) zf_RX11_65 rfl (k_B s5) (rfB_36 s5) ?_
            refine zj_iload_n (zdk ttX11_takesOther 59 rfl rfl) rfl ?_
            refine zj_aload_n (zdk ttX11_takesOther 60 rfl rfl) rfl (by decide) ?_
            refine zj_getr (r := 18) (zdk ttX11_takesOther 61 rfl rfl) zf_RX11_65 rfl (k_B s5) (rfB_36 s5) ?_
            refine zj_bipush (zdk ttX11_takesOther 62 rfl rfl) (by decide) ?_
            refine zj_iload_n (zdk ttX11_takesOther 63 rfl rfl) rfl ?_
            refine zj_iadd (zdk ttX11_takesOther 64 rfl rfl) ?_
            have b72 : -2147483648 ≤ (h4.2 18 (48 + x3)) ∧ (h4.2 18 (48 + x3)) ≤ 2147483647 := abB_18 s5 (48 + x3)
            refine zj_iald (v := (h4.2 18 (48 + x3))) (zdk ttX11_takesOther 65 rfl rfl) (kaB_18 s5) (by decide) (by omega) rfl ?_
            refine zj_iast (zdk ttX11_takesOther 66 rfl rfl) (kaB_18 s5) (by decide) (by omega) (fun h73 e74 => ?_)
            refine zj_iinc (L' := [some (.inr 0), some (.inl p1), some (.inl p2), some (.inl (x3 + 1))]) (zdk ttX11_takesOther 67 rfl rfl) rfl (by decide) rfl ?_
            refine zj_goto (t := 85) (zdk ttX11_takesOther 68 rfl rfl) (by decide) ?_
            have s75 : okB h73 := awB_18 s5 e74 (by omega)
            have f76 : zfr [3, 33, 35, 37] [17, 18, 19] h h73 := zfr_wa f6 e74 rfl
            exact ih62  (x3 + 1) h73 (by omega) s75 f76 (fun j q1 q2 => (Classical.em (j = x3)).elim (fun q => by rw [q]; exact (zwr_v e74).trans (u54 (48 + x3) (by omega))) (fun q => (zwr_r e74 (by first | decide | exact (absurd ·.1 (by decide)) | exact (absurd ·.2 (by decide)) | omega)).trans (u53 j q1 (by omega)))) (fun j q => (zwr_r e74 (by first | decide | exact (absurd ·.1 (by decide)) | exact (absurd ·.2 (by decide)) | omega)).trans (u54 j (by omega))) (by omega) (fun j q1 q2 => (Classical.em (j = x3)).elim (fun q => by rw [q]; exact (zwr_v e74).trans (u57 (48 + x3) (by omega))) (fun q => (zwr_r e74 (by first | decide | exact (absurd ·.1 (by decide)) | exact (absurd ·.2 (by decide)) | omega)).trans (u56 j q1 (by omega)))) (fun j q => (zwr_r e74 (by first | decide | exact (absurd ·.1 (by decide)) | exact (absurd ·.2 (by decide)) | omega)).trans (u57 j (by omega))) (fun j => (zwr_r e74 (by first | decide | exact (absurd ·.1 (by decide)) | exact (absurd ·.2 (by decide)) | omega)).trans (u58 j)) (fun j => (zwr_r e74 (by first | decide | exact (absurd ·.1 (by decide)) | exact (absurd ·.2 (by decide)) | omega)).trans (u59 j)) (fun j => (zwr_r e74 (by first | decide | exact (absurd ·.1 (by decide)) | exact (absurd ·.2 (by decide)) | omega)).trans (u60 j)) (by omega)
      exact lp51 _ 0 h (by omega) sB (zfr_r _ _ _) (fun j q1 q2 => absurd q1 (by omega)) (fun j q => rfl) (by omega) (fun j q1 q2 => absurd q1 (by omega)) (fun j q => rfl) (fun j => rfl) (fun j => rfl) (fun j => rfl) (Nat.lt_succ_self _)
    · refine zj_iconst (zdk ttX11_takesOther 27 rfl rfl) ?_
      refine zj_istore_n (L' := [some (.inr 0), some (.inl p1), some (.inl p2), some (.inl 0)]) (zdk ttX11_takesOther 28 rfl rfl) (by decide) rfl ?_
      have lp125 : ∀ (n47 : Nat) (x77 : Int) (h78 : zM), (0 ≤ x77 ∧ x77 ≤ 48) → okB h78 → zfr [3, 33, 35, 37] [17, 18, 19] h h78 → (∀ j, h78.2 18 j = h.2 18 j) → (∀ j, 0 ≤ j → j < x77 → h78.2 17 j = h.2 17 (48 + j)) → (∀ j, x77 ≤ j → h78.2 17 j = h.2 17 j) → (∀ j, h78.2 18 j = h.2 18 j) → (∀ j, h78.2 19 j = h.2 19 j) → (∀ j, h78.2 0 j = h.2 0 j) → (49 - x77).toNat < n47 → zJ shM l yX11_takesOther cX11_takesOther 4 none (rmL 1) 0 0 (q2_X11_takesOther h p1 p2) 0 0 47 [some (.inr 0), some (.inl p1), some (.inl p2), some (.inl x77)] [] h78 := by
        intro n47
        induction n47 with
        | zero => intro x77 h78 b126 s79 f80 u127 u128 u129 u130 u131 u132 m133; exact absurd m133 (Nat.not_lt_zero _)
        | succ n47 ih134 =>
          intro x77 h78 b126 s79 f80 u127 u128 u129 u130 u131 u132 m133
          refine zj_iload_n (zdk ttX11_takesOther 29 rfl rfl) rfl ?_
          refine zj_iconst (zdk ttX11_takesOther 30 rfl rfl) ?_
          refine zj_iload_n (zdk ttX11_takesOther 31 rfl rfl) rfl ?_
          refine zj_imul (zdk ttX11_takesOther 32 rfl rfl) ?_
          refine zj_icmp_ge (t := 75) (zdk ttX11_takesOther 33 rfl rfl) (by decide) (by omega) (by omega) (fun c135 => ?_) (fun c135 => ?_)
          · refine zj_aload_n (zdk ttX11_takesOther 46 rfl rfl) rfl (by decide) ?_
            refine zj_iload_n (zdk ttX11_takesOther 47 rfl rfl) rfl ?_
            refine zj_puti (zdk ttX11_takesOther 48 rfl rfl) zf_RX11_285 rfl (k_B s79) (Or.inl zw_RX11_285) (k2 := 33) rfl (fun h136 e137 => ?_)
            refine zj_goto (t := 118) (zdk ttX11_takesOther 49 rfl rfl) (by decide) ?_
            refine zj_aload_n (zdk ttX11_takesOther 72 rfl rfl) rfl (by decide) ?_
            refine zj_iconst (zdk ttX11_takesOther 73 rfl rfl) ?_
            have s138 : okB h136 := fwB_33 s79 e137 (by omega)
            refine zj_puti (zdk ttX11_takesOther 74 rfl rfl) zf_RX11_123 rfl (k_B s138) (Or.inl zw_RX11_123) (k2 := 3) rfl (fun h139 e140 => ?_)
            have s141 : okB h139 := fwB_3 s138 e140 (by omega)
            have f143 : zfr [3, 33, 35, 37] [17, 18, 19] h h136 := zfr_wf f80 e137 rfl
            have f142 : zfr [3, 33, 35, 37] [17, 18, 19] h h139 := zfr_wf f143 e140 rfl
            exact zj_vret rfl (zdk ttX11_takesOther 75 rfl rfl) (Nat.le_refl _) (Nat.le_refl _) ⟨rfl, (okM_deeds (n := 0) s0 s141 f142 (fun j q1 q2 => absurd q1 (by omega)) (fun j q1 q2 => (((zwr_r e140 (by first | decide | exact (absurd ·.1 (by decide)) | exact (absurd ·.2 (by decide)) | omega)).trans (zwr_r e137 (by first | decide | exact (absurd ·.1 (by decide)) | exact (absurd ·.2 (by decide)) | omega))).trans (u127 j))) (fun j q1 q2 => absurd q1 (by omega))), f142, (fun q => absurd q (by omega)), (fun _ => ⟨(fun j q1 q2 => ((zwr_r e140 (by first | decide | exact (absurd ·.1 (by decide)) | exact (absurd ·.2 (by decide)) | omega)).trans (zwr_r e137 (by first | decide | exact (absurd ·.1 (by decide)) | exact (absurd ·.2 (by decide)) | omega))).trans (u128 j q1 (by omega))), ((zwr_r e140 (by first | decide | exact (absurd ·.1 (by decide)) | exact (absurd ·.2 (by decide)) | omega)).trans (zwr_v e137)), (zwr_v e140), (fun j => ((zwr_r e140 (by first | decide | exact (absurd ·.1 (by decide)) | exact (absurd ·.2 (by decide)) | omega)).trans (zwr_r e137 (by first | decide | exact (absurd ·.1 (by decide)) | exact (absurd ·.2 (by decide)) | omega))).trans (u130 j)), (fun j => ((zwr_r e140 (by first | decide | exact (absurd ·.1 (by decide)) | exact (absurd ·.2 (by decide)) | omega)).trans (zwr_r e137 (by first | decide | exact (absurd ·.1 (by decide)) | exact (absurd ·.2 (by decide)) | omega))).trans (u131 j)), (fun j q1 q2 => ((zwr_r e140 (by first | decide | exact (absurd ·.1 (by decide)) | exact (absurd ·.2 (by decide)) | omega)).trans (zwr_r e137 (by first | decide | exact (absurd ·.1 (by decide)) | exact (absurd ·.2 (by decide)) | omega))).trans (u132 j))⟩), (fun q => absurd q (by omega))⟩
          · refine zj_aload_n (zdk ttX11_takesOther 34 rfl rfl) rfl (by decide) ?_
            refine zj_getr (r := 17) (zdk ttX11_takesOther 35 rfl rfl) zf_RX11_62 rfl (k_B s79) (rfB_34 s79) ?_
            refine zj_iload_n (zdk ttX11_takesOther 36 rfl rfl) rfl ?_
            refine zj_aload_n (zdk ttX11_takesOther 37 rfl rfl) rfl (by decide) ?_
            refine zj_getr (r := 17) (zdk ttX11_takesOther 38 rfl rfl) zf_RX11_62 rfl (k_B s79) (rfB_34 s79) ?_
            refine zj_bipush (zdk ttX11_takesOther 39 rfl rfl) (by decide) ?_
            refine zj_iload_n (zdk ttX11_takesOther 40 rfl rfl) rfl ?_
            refine zj_iadd (zdk ttX11_takesOther 41 rfl rfl) ?_
            have b144 : -2147483648 ≤ (h78.2 17 (48 + x77)) ∧ (h78.2 17 (48 + x77)) ≤ 2147483647 := abB_17 s79 (48 + x77)
            refine zj_iald (v := (h78.2 17 (48 + x77))) (zdk ttX11_takesOther 42 rfl rfl) (kaB_17 s79) (by decide) (by omega) rfl ?_
            refine zj_iast (zdk ttX11_takesOther 43 rfl rfl) (kaB_17 s79) (by decide) (by omega) (fun h145 e146 => ?_)
            refine zj_iinc (L' := [some (.inr 0), some (.inl p1), some (.inl p2), some (.inl (x77 + 1))]) (zdk ttX11_takesOther 44 rfl rfl) rfl (by decide) rfl ?_
            refine zj_goto (t := 47) (zdk ttX11_takesOther 45 rfl rfl) (by decide) ?_
            have s147 : okB h145 := awB_17 s79 e146 (by omega)
            have f148 : zfr [3, 33, 35, 37] [17, 18, 19] h h145 := zfr_wa f80 e146 rfl
            exact ih134  (x77 + 1) h145 (by omega) s147 f148 (fun j => (zwr_r e146 (by first | decide | exact (absurd ·.1 (by decide)) | exact (absurd ·.2 (by decide)) | omega)).trans (u127 j)) (fun j q1 q2 => (Classical.em (j = x77)).elim (fun q => by rw [q]; exact (zwr_v e146).trans (u129 (48 + x77) (by omega))) (fun q => (zwr_r e146 (by first | decide | exact (absurd ·.1 (by decide)) | exact (absurd ·.2 (by decide)) | omega)).trans (u128 j q1 (by omega)))) (fun j q => (zwr_r e146 (by first | decide | exact (absurd ·.1 (by decide)) | exact (absurd ·.2 (by decide)) | omega)).trans (u129 j (by omega))) (fun j => (zwr_r e146 (by first | decide | exact (absurd ·.1 (by decide)) | exact (absurd ·.2 (by decide)) | omega)).trans (u130 j)) (fun j => (zwr_r e146 (by first | decide | exact (absurd ·.1 (by decide)) | exact (absurd ·.2 (by decide)) | omega)).trans (u131 j)) (fun j => (zwr_r e146 (by first | decide | exact (absurd ·.1 (by decide)) | exact (absurd ·.2 (by decide)) | omega)).trans (u132 j)) (by omega)
      exact lp125 _ 0 h (by omega) sB (zfr_r _ _ _) (fun j => rfl) (fun j q1 q2 => absurd q1 (by omega)) (fun j q => rfl) (fun j => rfl) (fun j => rfl) (fun j => rfl) (Nat.lt_succ_self _)
  · refine zj_iconst (zdk ttX11_takesOther 3 rfl rfl) ?_
    refine zj_istore_n (L' := [some (.inr 0), some (.inl p1), some (.inl p2), some (.inl 0)]) (zdk ttX11_takesOther 4 rfl rfl) (by decide) rfl ?_
    have lp197 : ∀ (n7 : Nat) (x149 : Int) (h150 : zM), (0 ≤ x149 ∧ x149 ≤ 18) → okB h150 → zfr [3, 33, 35, 37] [17, 18, 19] h h150 → (∀ j, h150.2 18 j = h.2 18 j) → (∀ j, 0 ≤ j → j < x149 → h150.2 19 j = h.2 19 (18 + j)) → (∀ j, x149 ≤ j → h150.2 19 j = h.2 19 j) → (∀ j, h150.2 17 j = h.2 17 j) → (∀ j, h150.2 18 j = h.2 18 j) → (∀ j, h150.2 0 j = h.2 0 j) → (19 - x149).toNat < n7 → zJ shM l yX11_takesOther cX11_takesOther 4 none (rmL 1) 0 0 (q2_X11_takesOther h p1 p2) 0 0 7 [some (.inr 0), some (.inl p1), some (.inl p2), some (.inl x149)] [] h150 := by
      intro n7
      induction n7 with
      | zero => intro x149 h150 b198 s151 f152 u199 u200 u201 u202 u203 u204 m205; exact absurd m205 (Nat.not_lt_zero _)
      | succ n7 ih206 =>
        intro x149 h150 b198 s151 f152 u199 u200 u201 u202 u203 u204 m205
        refine zj_iload_n (zdk ttX11_takesOther 5 rfl rfl) rfl ?_
        refine zj_bipush (zdk ttX11_takesOther 6 rfl rfl) (by decide) ?_
        refine zj_icmp_ge (t := 34) (zdk ttX11_takesOther 7 rfl rfl) (by decide) (by omega) (by decide) (fun c207 => ?_) (fun c207 => ?_)
        · refine zj_aload_n (zdk ttX11_takesOther 20 rfl rfl) rfl (by decide) ?_
          refine zj_iload_n (zdk ttX11_takesOther 21 rfl rfl) rfl ?_
          refine zj_puti (zdk ttX11_takesOther 22 rfl rfl) zf_RX11_282 rfl (k_B s151) (Or.inl zw_RX11_282) (k2 := 37) rfl (fun h208 e209 => ?_)
          have s210 : okB h208 := fwB_37 s151 e209 (by omega)
          have f211 : zfr [3, 33, 35, 37] [17, 18, 19] h h208 := zfr_wf f152 e209 rfl
          exact zj_vret rfl (zdk ttX11_takesOther 23 rfl rfl) (Nat.le_refl _) (Nat.le_refl _) ⟨rfl, (okM_deeds (n := 0) s0 s210 f211 (fun j q1 q2 => absurd q1 (by omega)) (fun j q1 q2 => ((zwr_r e209 (by first | decide | exact (absurd ·.1 (by decide)) | exact (absurd ·.2 (by decide)) | omega)).trans (u199 j))) (fun j q1 q2 => absurd q1 (by omega))), f211, (fun _ => ⟨(fun j q1 q2 => (zwr_r e209 (by first | decide | exact (absurd ·.1 (by decide)) | exact (absurd ·.2 (by decide)) | omega)).trans (u200 j q1 (by omega))), (zwr_v e209), (fun j => (zwr_r e209 (by first | decide | exact (absurd ·.1 (by decide)) | exact (absurd ·.2 (by decide)) | omega)).trans (u202 j)), (fun j => (zwr_r e209 (by first | decide | exact (absurd ·.1 (by decide)) | exact (absurd ·.2 (by decide)) | omega)).trans (u203 j)), (fun j q1 => (zwr_r e209 (by first | decide | exact (absurd ·.1 (by decide)) | exact (absurd ·.2 (by decide)) | omega)).trans (u204 j))⟩), (fun q => absurd q (by omega)), (fun q => absurd q (by omega))⟩
        · refine zj_aload_n (zdk ttX11_takesOther 8 rfl rfl) rfl (by decide) ?_
          refine zj_getr (r := 19) (zdk ttX11_takesOther 9 rfl rfl) zf_RX11_68 rfl (k_B s151) (rfB_38 s151) ?_
          refine zj_iload_n (zdk ttX11_takesOther 10 rfl rfl) rfl ?_
          refine zj_aload_n (zdk ttX11_takesOther 11 rfl rfl) rfl (by decide) ?_
          refine zj_getr (r := 19) (zdk ttX11_takesOther 12 rfl rfl) zf_RX11_68 rfl (k_B s151) (rfB_38 s151) ?_
          refine zj_bipush (zdk ttX11_takesOther 13 rfl rfl) (by decide) ?_
          refine zj_iload_n (zdk ttX11_takesOther 14 rfl rfl) rfl ?_
          refine zj_iadd (zdk ttX11_takesOther 15 rfl rfl) ?_
          have b212 : -2147483648 ≤ (h150.2 19 (18 + x149)) ∧ (h150.2 19 (18 + x149)) ≤ 2147483647 := abB_19 s151 (18 + x149)
          refine zj_iald (v := (h150.2 19 (18 + x149))) (zdk ttX11_takesOther 16 rfl rfl) (kaB_19 s151) (by decide) (by omega) rfl ?_
          refine zj_iast (zdk ttX11_takesOther 17 rfl rfl) (kaB_19 s151) (by decide) (by omega) (fun h213 e214 => ?_)
          refine zj_iinc (L' := [some (.inr 0), some (.inl p1), some (.inl p2), some (.inl (x149 + 1))]) (zdk ttX11_takesOther 18 rfl rfl) rfl (by decide) rfl ?_
          refine zj_goto (t := 7) (zdk ttX11_takesOther 19 rfl rfl) (by decide) ?_
          have s215 : okB h213 := awB_19 s151 e214 (by omega)
          have f216 : zfr [3, 33, 35, 37] [17, 18, 19] h h213 := zfr_wa f152 e214 rfl
          exact ih206  (x149 + 1) h213 (by omega) s215 f216 (fun j => (zwr_r e214 (by first | decide | exact (absurd ·.1 (by decide)) | exact (absurd ·.2 (by decide)) | omega)).trans (u199 j)) (fun j q1 q2 => (Classical.em (j = x149)).elim (fun q => by rw [q]; exact (zwr_v e214).trans (u201 (18 + x149) (by omega))) (fun q => (zwr_r e214 (by first | decide | exact (absurd ·.1 (by decide)) | exact (absurd ·.2 (by decide)) | omega)).trans (u200 j q1 (by omega)))) (fun j q => (zwr_r e214 (by first | decide | exact (absurd ·.1 (by decide)) | exact (absurd ·.2 (by decide)) | omega)).trans (u201 j (by omega))) (fun j => (zwr_r e214 (by first | decide | exact (absurd ·.1 (by decide)) | exact (absurd ·.2 (by decide)) | omega)).trans (u202 j)) (fun j => (zwr_r e214 (by first | decide | exact (absurd ·.1 (by decide)) | exact (absurd ·.2 (by decide)) | omega)).trans (u203 j)) (fun j => (zwr_r e214 (by first | decide | exact (absurd ·.1 (by decide)) | exact (absurd ·.2 (by decide)) | omega)).trans (u204 j)) (by omega)
    exact lp197 _ 0 h (by omega) sB (zfr_r _ _ _) (fun j => rfl) (fun j q1 q2 => absurd q1 (by omega)) (fun j q => rfl) (fun j => rfl) (fun j => rfl) (fun j => rfl) (Nat.lt_succ_self _)

