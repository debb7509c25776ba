section ZSTR
variable {sh : zSh} {l : Launch} {y : MethodName} {cc : ByteArray} {nL : Nat} {ret : Option FieldType} {R : Room} {mc ms : Nat} {Q : Option zV → zM → Prop} {u1 u2 pc n : Nat} {L : List (Option zV)} {st : List zV} {h : zM}
def zln (i : Nat) : Nat := zlen.getD i 0
def zbv (i k : Nat) : Int := ((zbyt.getD i []).getD k 0).toInt
theorem zln_b : ∀ i, i < 5 → zln i < 100 := by decide
theorem zbv_b : ∀ i, i < 5 → ∀ k, k < 100 → 0 ≤ zbv i k ∧ zbv i k ≤ 127 := by decide +kernel
theorem zbv_i (i k : Nat) : (zbyt.getD i []).getD k 0 = Int32.ofInt (zbv i k) := (Int32.ofInt_toInt _).symm
theorem zj_ldcS {i idx : Nat} {tx : String} (hd : zd cc pc (.ldc idx) 2 n) (hm : (y.cls, idx, tx, i) ∈ zsc) (kk : zJ sh l y cc nL ret R mc ms Q u1 u2 n L (.inr (-2 - (i : Int)) :: st) h) : zJ sh l y cc nL ret R mc ms Q u1 u2 pc L st h := by
  intro D g p e s m args below meth c A H locs ls X I Z
  have X0 := X
  obtain ⟨hx, hb, hml, hr, hown, hts, hlk, hK, hnm, hA, hZs⟩ := X0
  obtain ⟨hP, hD, hS, hg⟩ := id I
  refine va_ldcS hx hb hown (hZs.2.2.1 _ hm) hd.1 ?_
  have K := kk D g p e s m args below meth c A H locs ls X I Z
  rw [← hd.2, List.map_cons, zv_ref _ (by omega)] at K
  exact K
theorem zj_sval {i idx : Nat} (hi : i < 5) (hd : zd cc pc (.getfield idx) 3 n) (w1 : Cond.fieldLink y.cls idx "java/lang/String" "value" "[B" ∈ zt) (kk : zJ sh l y cc nL ret R mc ms Q u1 u2 n L (.inr (-10 - (i : Int)) :: st) h) : zJ sh l y cc nL ret R mc ms Q u1 u2 pc L (.inr (-2 - (i : Int)) :: st) h := by
  intro D g p e s m args below meth c A H locs ls X I Z
  have X0 := X
  obtain ⟨hx, hb, hml, hr, hown, hts, hlk, hK, hnm, hA, hZs⟩ := X0
  obtain ⟨hP, hD, hS, hg⟩ := id I
  rw [List.map_cons, zv_ref _ (by omega)]
  refine vk_getf hx hb (hZs.1.1 i hi).2.2.1 hS hown (hts _ w1) (fun _ z => z) hd.1 ?_
  have K := kk D g p e s m args below meth c A H locs ls X I Z
  rw [← hd.2, List.map_cons, zv_ref _ (by omega)] at K
  exact K
theorem zj_scod {i idx : Nat} (hi : i < 5) (hd : zd cc pc (.getfield idx) 3 n) (w1 : Cond.fieldLink y.cls idx "java/lang/String" "code\x72" "B" ∈ zt) (kk : zJ sh l y cc nL ret R mc ms Q u1 u2 n L (.inl 0 :: st) h) : zJ sh l y cc nL ret R mc ms Q u1 u2 pc L (.inr (-2 - (i : Int)) :: st) h := by
  intro D g p e s m args below meth c A H locs ls X I Z
  have X0 := X
  obtain ⟨hx, hb, hml, hr, hown, hts, hlk, hK, hnm, hA, hZs⟩ := X0
  obtain ⟨hP, hD, hS, hg⟩ := id I
  rw [List.map_cons, zv_ref _ (by omega)]
  refine vk_getf hx hb (hZs.1.1 i hi).2.1 hS hown (hts _ w1) (fun _ z => z) hd.1 ?_
  have K := kk D g p e s m args below meth c A H locs ls X I Z
  rw [← hd.2] at K
  exact K
theorem zj_gsC {idx : Nat} (hd : zd cc pc (.getstatic idx) 3 n) (w1 : Cond.fieldLink y.cls idx "java/lang/String" "COMPACT_STRINGS" "Z" ∈ zt) (kk : zJ sh l y cc nL ret R mc ms Q u1 u2 n L (.inl 1 :: st) h) : zJ sh l y cc nL ret R mc ms Q u1 u2 pc L st h := by
  intro D g p e s m args below meth c A H locs ls X I Z
  have X0 := X
  obtain ⟨hx, hb, hml, hr, hown, hts, hlk, hK, hnm, hA, hZs⟩ := X0
  obtain ⟨hP, hD, hS, hg⟩ := id I
  refine va_gets hx hb hZs.2.1 hS hown (hts _ w1) (fun _ z => z) hd.1 ?_
  have K := kk D g p e s m args below meth c A H locs ls X I Z
  rw [← hd.2] at K
  exact K
theorem zj_gsF {idx : Nat} (hd : zd cc pc (.getstatic idx) 3 n) (w1 : Cond.fieldLink y.cls idx "jdk/internal/util/Preconditions" "SIOOBE_FORMATTER" "Ljava/util/function/BiFunction;" ∈ zt) (kk : ∀ r : Int, zJ sh l y cc nL ret R mc ms Q u1 u2 n L (.inr r :: st) h) : zJ sh l y cc nL ret R mc ms Q u1 u2 pc L st h := by
  intro D g p e s m args below meth c A H locs ls X I Z
  have X0 := X
  obtain ⟨hx, hb, hml, hr, hown, hts, hlk, hK, hnm, hA, hZs⟩ := X0
  obtain ⟨hP, hD, hS, hg⟩ := id I
  rcases hZs.2.2.2.2.2 with hz | hz
  · refine va_gets hx hb hz hS hown (hts _ w1) (fun _ z => z) hd.1 ?_
    have K := kk (-1) D g p e s m args below meth c A H locs ls X I Z
    rw [← hd.2] at K
    exact K
  · refine va_gets hx hb hz hS hown (hts _ w1) (fun _ z => z) hd.1 ?_
    have K := kk (-20) D g p e s m args below meth c A H locs ls X I Z
    rw [← hd.2, List.map_cons, zv_ref _ (by decide)] at K
    exact K
theorem zj_slen {i : Nat} (hi : i < 5) (hd : zd cc pc .arraylength 1 n) (kk : zJ sh l y cc nL ret R mc ms Q u1 u2 n L (.inl (zln i) :: st) h) : zJ sh l y cc nL ret R mc ms Q u1 u2 pc L (.inr (-10 - (i : Int)) :: st) h := by
  intro D g p e s m args below meth c A H locs ls X I Z
  have X0 := X
  obtain ⟨hx, hb, hml, hr, hown, hts, hlk, hK, hnm, hA, hZs⟩ := X0
  obtain ⟨hP, hD, hS, hg⟩ := id I
  rw [List.map_cons, zv_ref _ (by omega)]
  refine va_tlen hx hb (hZs.1.1 i hi).2.2.2 hS (v := Int32.ofInt (zln i)) Int32.ofInt_eq_ofNat.symm hd.1 ?_
  have K := kk D g p e s m args below meth c A H locs ls X I Z
  rw [← hd.2] at K
  exact K
theorem zj_sbald {i : Nat} {k : Int} (hi : i < 5) (hk : 0 ≤ k ∧ k < zln i) (hd : zd cc pc .baload 1 n) (kk : zJ sh l y cc nL ret R mc ms Q u1 u2 n L (.inl (zbv i k.toNat) :: st) h) : zJ sh l y cc nL ret R mc ms Q u1 u2 pc L (.inl k :: .inr (-10 - (i : Int)) :: st) h := by
  intro D g p e s m args below meth c A H locs ls X I Z
  have X0 := X
  obtain ⟨hx, hb, hml, hr, hown, hts, hlk, hK, hnm, hA, hZs⟩ := X0
  obtain ⟨hP, hD, hS, hg⟩ := id I
  rw [List.map_cons, List.map_cons, zv_ref _ (by omega)]
  have hl := zln_b i hi
  obtain ⟨z1, z2⟩ := zix (i := k) (N := zln i) hk (by omega)
  refine va_tb hx hb (hZs.1.1 i hi).2.2.2 hS z1 (v := .int (Int32.ofInt (zbv i k.toNat))) (by rw [z2, zbv_i]) hd.1 ?_
  have K := kk D g p e s m args below meth c A H locs ls X I Z
  rw [← hd.2] at K
  exact K
theorem zj_callVs {i idx : Nat} {y' : MethodName} {cc' : ByteArray} {nL' : Nat} {ret' : Option FieldType} {rm' : Room} {mc' ms' np : Nat} {Q' : Option zV → zM → Prop} {av st0 : List zV} (hi : i < 5) (hd : zd cc pc (.invokevirtual idx) 3 n) (hb1 : zMb y' cc' nL' ret' np) (hm : zMV y.cls idx y'.cls y') (hcn : y'.cls = "java/lang/String") (hst : st0 = av.reverse ++ .inr (-2 - (i : Int)) :: st) (hlen : av.length = np) (hrest : st.length ≤ 8) (hT : zT sh l y' cc' nL' ret' rm' mc' ms' (.inr (-2 - (i : Int)) :: av) h Q') (hrm : zRm R rm' nL' u1 u2 mc' ms') (kk : ∀ r h', Q' r h' → zJ sh l y cc nL ret R mc ms Q (u1 + mc') (u2 + ms') n L (r.toList ++ st) h') : zJ sh l y cc nL ret R mc ms Q u1 u2 pc L st0 h := by
  intro D g p e s m args below meth c A H locs ls X I Z
  have X0 := X
  obtain ⟨hx, hb, hml, hr, hown, hts, hlk, hK, hnm, hA, hZs⟩ := X0
  obtain ⟨hP, hD, hS, hg⟩ := id I
  subst hst
  have hrun : va_Run p l e R s m args below meth c H locs u1 u2 mc' ms' (F0 m pc ls ((av.map (zv g.1)).reverse ++ .ref (g.1 (-2 - (i : Int))) :: st.map (zv g.1))) (st.map (zv g.1)) (zQ sh D g (va_A (zw sh g h) H.size) Q' (Value.ref (g.1 (-2 - (i : Int))) :: av.map (zv g.1)).toArray) (va_A (zw sh g h) H.size) := by
    refine va_runV (C := y'.cls) ⟨hx, hb, hml, hown, hts⟩ (hT D g H.size) ⟨callB_of np hts (zws_good hb1.1) rfl hrm.1 hrm.2.1 (hts _ hb1.2.1) (hts _ hm.1) hb1.2.2 hrm.2.2.1, hts _ hm.2.1, hts _ hm.2.2⟩ ⟨zPc_blind sh D g H.size _ h, ?_, fun U hU hW => ?_⟩ rfl (by rw [List.length_map]; exact hlen) (by rw [← hml]; exact (Z.2.1).trans hml.symm) rfl (lv_room (z_cat g.1 st hrest)) hd.1 hrm.2.2.2
    · rw [hcn]; exact vk_recv hZs.1 hi hS
    · have := zPc_at X I (.inr (-2 - (i : Int)) :: av) U hU hW
      rw [List.map_cons, zv_ref _ (by omega)] at this
      exact this
  rw [List.map_append, List.map_reverse, List.map_cons, zv_ref _ (by omega)]
  refine z_back X I hrun (fun r h' hq H1 locs1 I1 => ?_)
  have K := kk r h' hq D g p e s m args below meth c A H1 locs1 ls X I1 Z
  rw [← hd.2] at K
  rw [z_toList]
  exact K
theorem zj_i2b {a : Int} (hd : zd cc pc .i2b 1 n) (kk : zJ sh l y cc nL ret R mc ms Q u1 u2 n L (.inl ((Int32.ofInt a).toInt8.toInt32.toInt) :: st) h) : zJ sh l y cc nL ret R mc ms Q u1 u2 pc L (.inl a :: st) h := by
  intro D g p e s m args below meth c A H locs ls X I Z
  have X0 := X
  obtain ⟨hx, hb, hml, hr, hown, hts, hlk, hK, hnm, hA, hZs⟩ := X0
  obtain ⟨hP, hD, hS, hg⟩ := id I
  refine lv_i2b hx hb hd.1 (v := Int32.ofInt ((Int32.ofInt a).toInt8.toInt32.toInt)) (by rw [Int32.ofInt_toInt]) ?_
  have K := kk D g p e s m args below meth c A H locs ls X I Z
  rw [← hd.2] at K
  exact K
theorem zj_cret {x : Int} (hret : ret = some .char) (hd : zd cc pc .ireturn 1 n) (h1 : u1 ≤ mc) (h2 : u2 ≤ ms) (hz : 0 ≤ x ∧ x ≤ 65535) (hq : Q (some (.inl x)) h) : zJ sh l y cc nL ret R mc ms Q u1 u2 pc L [.inl x] h := by
  intro D g p e s m args below meth c A H locs ls X I Z
  have X0 := X
  obtain ⟨hx, hb, hml, hr, hown, hts, hlk, hK, hnm, hA, hZs⟩ := X0
  obtain ⟨hP, hD, hS, hg⟩ := id I
  subst hret
  refine W.widen h1 h2 ?_
  exact W.zret hx hb hr (by
    obtain ⟨k, rfl⟩ : ∃ k : Nat, x = k := ⟨x.toNat, by omega⟩
    rw [Int32.ofInt_eq_ofNat]
    exact (pk_charN (q := k) (by omega)).1) (fun t ht hW => ⟨⟨some (.inl x), h, rfl, hq, by rw [ht]; exact hP, hD, by rw [ht]; exact hg⟩, hS.F ht⟩) hS.2.2 hd.1 hlk
theorem zj_bret0 (hret : ret = some .byte) (hd : zd cc pc .ireturn 1 n) (h1 : u1 ≤ mc) (h2 : u2 ≤ ms) (hq : Q (some (.inl 0)) h) : zJ sh l y cc nL ret R mc ms Q u1 u2 pc L [.inl 0] h := by
  intro D g p e s m args below meth c A H locs ls X I Z
  have X0 := X
  obtain ⟨hx, hb, hml, hr, hown, hts, hlk, hK, hnm, hA, hZs⟩ := X0
  obtain ⟨hP, hD, hS, hg⟩ := id I
  subst hret
  refine W.widen h1 h2 ?_
  exact W.zret hx hb hr rfl (fun t ht hW => ⟨⟨some (.inl 0), h, rfl, hq, by rw [ht]; exact hP, hD, by rw [ht]; exact hg⟩, hS.F ht⟩) hS.2.2 hd.1 hlk
end ZSTR
theorem ws_val : Cond.fieldLink RJ0 9 "java/lang/String" "value" "[B" ∈ zt := zt_a8 117 rfl rfl
theorem ws_cod : Cond.fieldLink RJ0 15 "java/lang/String" "code\x72" "B" ∈ zt := zt_a8 118 rfl rfl
theorem ws_cs : Cond.fieldLink RJ0 38 "java/lang/String" "COMPACT_STRINGS" "Z" ∈ zt := zt_a3 130 rfl rfl
theorem ws_fm : Cond.fieldLink RJ0 1053 "jdk/internal/util/Preconditions" "SIOOBE_FORMATTER" "Ljava/util/function/BiFunction;" ∈ zt := zt_a3 146 rfl rfl
abbrev tJ0_coder_7d493 : List (Nat × Instr × Nat) := [(0, .getstatic 38, 3), (3, .ifCond .eq 10, 3), (6, .aload_n 0, 1), (7, .getfield 15, 3), (10, .goto 4, 3), (13, .iconst 1, 1), (14, .ireturn, 1)]
theorem ttJ0_coder_7d493 : zdt cJ0_coder_7d493 tJ0_coder_7d493 = true := by decide +kernel

abbrev tJ0_isLatin1_aae02 : List (Nat × Instr × Nat) := [(0, .getstatic 38, 3), (3, .ifCond .eq 14, 3), (6, .aload_n 0, 1), (7, .getfield 15, 3), (10, .ifCond .ne 7, 3), (13, .iconst 1, 1), (14, .goto 4, 3), (17, .iconst 0, 1), (18, .ireturn, 1)]
theorem ttJ0_isLatin1_aae02 : zdt cJ0_isLatin1_aae02 tJ0_isLatin1_aae02 = true := by decide +kernel

abbrev tJ0_length_8abf5 : List (Nat × Instr × Nat) := [(0, .aload_n 0, 1), (1, .getfield 9, 3), (4, .arraylength, 1), (5, .aload_n 0, 1), (6, .invokevirtual 335, 3), (9, .ishr, 1), (10, .ireturn, 1)]
theorem ttJ0_length_8abf5 : zdt cJ0_length_8abf5 tJ0_length_8abf5 = true := by decide +kernel

abbrev tJ0_charAt_5068e : List (Nat × Instr × Nat) := [(0, .aload_n 0, 1), (1, .invokevirtual 492, 3), (4, .ifCond .eq 12, 3), (7, .aload_n 0, 1), (8, .getfield 9, 3), (11, .iload_n 1, 1), (12, .invokestatic 495, 3), (15, .ireturn, 1), (16, .aload_n 0, 1), (17, .getfield 9, 3), (20, .iload_n 1, 1), (21, .invokestatic 498, 3), (24, .ireturn, 1)]
theorem ttJ0_charAt_5068e : zdt cJ0_charAt_5068e tJ0_charAt_5068e = true := by decide +kernel

abbrev tJ0_checkIndex_df160 : List (Nat × Instr × Nat) := [(0, .iload_n 0, 1), (1, .iload_n 1, 1), (2, .getstatic 1053, 3), (5, .invokestatic 1059, 3), (8, .pop, 1), (9, .return_, 1)]
theorem ttJ0_checkIndex_df160 : zdt cJ0_checkIndex_df160 tJ0_checkIndex_df160 = true := by decide +kernel

abbrev tJ3_checkIndex_8e157 : List (Nat × Instr × Nat) := [(0, .iload_n 0, 1), (1, .ifCond .lt 8, 3), (4, .iload_n 0, 1), (5, .iload_n 1, 1), (6, .if_icmp .lt 10, 3), (9, .aload_n 2, 1), (10, .iload_n 0, 1), (11, .iload_n 1, 1), (12, .invokestatic 95, 3), (15, .athrow, 1), (16, .iload_n 0, 1), (17, .ireturn, 1)]
theorem ttJ3_checkIndex_8e157 : zdt cJ3_checkIndex_8e157 tJ3_checkIndex_8e157 = true := by decide +kernel

abbrev tJ1_charAt_3b067 : List (Nat × Instr × Nat) := [(0, .iload_n 1, 1), (1, .aload_n 0, 1), (2, .arraylength, 1), (3, .invokestatic 9, 3), (6, .aload_n 0, 1), (7, .iload_n 1, 1), (8, .baload, 1), (9, .sipush 255, 3), (12, .iand, 1), (13, .i2c, 1), (14, .ireturn, 1)]
theorem ttJ1_charAt_3b067 : zdt cJ1_charAt_3b067 tJ1_charAt_3b067 = true := by decide +kernel

abbrev tJ0_indexOf_0f7a4 : List (Nat × Instr × Nat) := [(0, .aload_n 0, 1), (1, .iload_n 1, 1), (2, .iconst 0, 1), (3, .invokevirtual 633, 3), (6, .ireturn, 1)]
theorem ttJ0_indexOf_0f7a4 : zdt cJ0_indexOf_0f7a4 tJ0_indexOf_0f7a4 = true := by decide +kernel

abbrev tJ0_indexOf_7cf53 : List (Nat × Instr × Nat) := [(0, .aload_n 0, 1), (1, .invokevirtual 492, 3), (4, .ifCond .eq 19, 3), (7, .aload_n 0, 1), (8, .getfield 9, 3), (11, .iload_n 1, 1), (12, .iload_n 2, 1), (13, .aload_n 0, 1), (14, .invokevirtual 505, 3), (17, .invokestatic 637, 3), (20, .goto 16, 3), (23, .aload_n 0, 1), (24, .getfield 9, 3), (27, .iload_n 1, 1), (28, .iload_n 2, 1), (29, .aload_n 0, 1), (30, .invokevirtual 505, 3), (33, .invokestatic 640, 3), (36, .ireturn, 1)]
theorem ttJ0_indexOf_7cf53 : zdt cJ0_indexOf_7cf53 tJ0_indexOf_7cf53 = true := by decide +kernel

abbrev tJ1_canEncode_9a6ad : List (Nat × Instr × Nat) := [(0, .iload_n 0, 1), (1, .ifCond .lt 14, 3), (4, .iload_n 0, 1), (5, .sipush 255, 3), (8, .if_icmp .gt 7, 3), (11, .iconst 1, 1), (12, .goto 4, 3), (15, .iconst 0, 1), (16, .ireturn, 1)]
theorem ttJ1_canEncode_9a6ad : zdt cJ1_canEncode_9a6ad tJ1_canEncode_9a6ad = true := by decide +kernel

abbrev tJ1_indexOf_4cfef : List (Nat × Instr × Nat) := [(0, .iload_n 1, 1), (1, .invokestatic 88, 3), (4, .ifCond .ne 5, 3), (7, .iconst (-1), 1), (8, .ireturn, 1), (9, .iload_n 2, 1), (10, .iconst 0, 1), (11, .invokestatic 92, 3), (14, .istore_n 2, 1), (15, .iload_n 3, 1), (16, .aload_n 0, 1), (17, .arraylength, 1), (18, .invokestatic 38, 3), (21, .istore_n 3, 1), (22, .iload_n 2, 1), (23, .iload_n 3, 1), (24, .if_icmp .lt 5, 3), (27, .iconst (-1), 1), (28, .ireturn, 1), (29, .aload_n 0, 1), (30, .iload_n 1, 1), (31, .iload_n 2, 1), (32, .iload_n 3, 1), (33, .invokestatic 95, 3), (36, .ireturn, 1)]
theorem ttJ1_indexOf_4cfef : zdt cJ1_indexOf_4cfef tJ1_indexOf_4cfef = true := by decide +kernel

abbrev tJ1_indexOfChar_4cfef : List (Nat × Instr × Nat) := [(0, .iload_n 1, 1), (1, .i2b, 1), (2, .istore 4, 2), (4, .iload_n 2, 1), (5, .istore 5, 2), (7, .iload 5, 2), (9, .iload_n 3, 1), (10, .if_icmp .ge 21, 3), (13, .aload_n 0, 1), (14, .iload 5, 2), (16, .baload, 1), (17, .iload 4, 2), (19, .if_icmp .ne 6, 3), (22, .iload 5, 2), (24, .ireturn, 1), (25, .iinc 5 1, 3), (28, .goto (-21), 3), (31, .iconst (-1), 1), (32, .ireturn, 1)]
theorem ttJ1_indexOfChar_4cfef : zdt cJ1_indexOfChar_4cfef tJ1_indexOfChar_4cfef = true := by decide +kernel

theorem s_J0_coder_7d493 (sh : zSh) (l : Launch) (h : zM) (i : Nat) (hi : i < 5) : zT sh l yJ0_coder_7d493 cJ0_coder_7d493 1 (some .byte) (rmL 0) 0 0 [.inr (-2 - (i : Int))] h (zqi fun v h' => h = h' ∧ v = 0) := by
  refine zT_of (by decide +kernel) (L0 := [some (.inr (-2 - (i : Int)))]) rfl (Nat.le_of_ble_eq_true rfl) ?_
  refine zj_gsC (zdk ttJ0_coder_7d493 0 rfl rfl) ws_cs ?_
  refine zj_if_eq (t := 13) (zdk ttJ0_coder_7d493 1 rfl rfl) (by decide) (by decide) (fun q => absurd q (by decide)) (fun q => ?_)
  refine zj_aload_n (zdk ttJ0_coder_7d493 2 rfl rfl) rfl (by omega) ?_
  refine zj_scod hi (zdk ttJ0_coder_7d493 3 rfl rfl) ws_cod ?_
  refine zj_goto (t := 14) (zdk ttJ0_coder_7d493 4 rfl rfl) (by decide) ?_
  exact zj_bret0 rfl (zdk ttJ0_coder_7d493 6 rfl rfl) (Nat.le_refl _) (Nat.le_refl _) ⟨0, rfl, rfl, rfl⟩
theorem s_J0_isLatin1_aae02 (sh : zSh) (l : Launch) (h : zM) (i : Nat) (hi : i < 5) : zT sh l yJ0_isLatin1_aae02 cJ0_isLatin1_aae02 1 (some .boolean) (rmL 0) 0 0 [.inr (-2 - (i : Int))] h (zqi fun v h' => h = h' ∧ v = 1) := by
  refine zT_of (by decide +kernel) (L0 := [some (.inr (-2 - (i : Int)))]) rfl (Nat.le_of_ble_eq_true rfl) ?_
  refine zj_gsC (zdk ttJ0_isLatin1_aae02 0 rfl rfl) ws_cs ?_
  refine zj_if_eq (t := 17) (zdk ttJ0_isLatin1_aae02 1 rfl rfl) (by decide) (by decide) (fun q => absurd q (by decide)) (fun q => ?_)
  refine zj_aload_n (zdk ttJ0_isLatin1_aae02 2 rfl rfl) rfl (by omega) ?_
  refine zj_scod hi (zdk ttJ0_isLatin1_aae02 3 rfl rfl) ws_cod ?_
  refine zj_if_ne (t := 17) (zdk ttJ0_isLatin1_aae02 4 rfl rfl) (by decide) (by decide) (fun q => absurd rfl q) (fun q => ?_)
  refine zj_iconst (zdk ttJ0_isLatin1_aae02 5 rfl rfl) ?_
  refine zj_goto (t := 18) (zdk ttJ0_isLatin1_aae02 6 rfl rfl) (by decide) ?_
  exact zj_zret rfl (zdk ttJ0_isLatin1_aae02 8 rfl rfl) (Nat.le_refl _) (Nat.le_refl _) (Or.inr rfl) ⟨1, rfl, rfl, rfl⟩
theorem zshr_0 : ∀ n : Nat, n < 100 → zshr (n : Int) 0 = n := by decide +kernel
theorem s_J0_length_8abf5 (sh : zSh) (l : Launch) (h : zM) (i : Nat) (hi : i < 5) : zT sh l yJ0_length_8abf5 cJ0_length_8abf5 1 (some .int) (rmL 1) 0 0 [.inr (-2 - (i : Int))] h (zqi fun v h' => h = h' ∧ v = zln i) := by
  refine zT_of (by decide +kernel) (L0 := [some (.inr (-2 - (i : Int)))]) rfl (Nat.le_of_ble_eq_true rfl) ?_
  refine zj_aload_n (zdk ttJ0_length_8abf5 0 rfl rfl) rfl (by omega) ?_
  refine zj_sval hi (zdk ttJ0_length_8abf5 1 rfl rfl) ws_val ?_
  refine zj_slen hi (zdk ttJ0_length_8abf5 2 rfl rfl) ?_
  refine zj_aload_n (zdk ttJ0_length_8abf5 3 rfl rfl) rfl (by omega) ?_
  refine zj_callVs hi (av := []) (st := [.inl (zln i)]) (zdk ttJ0_length_8abf5 4 rfl rfl) mb_J0_coder_7d493 mv_RJ0_335 rfl rfl rfl (Nat.le_of_ble_eq_true rfl) (s_J0_coder_7d493 sh l h i hi) (rm_ok (by decide) (by decide)) (zq_i fun v h1 q => ?_)
  obtain ⟨rfl, rfl⟩ := q
  refine zj_ishr (zdk ttJ0_length_8abf5 5 rfl rfl) ?_
  exact zj_iret rfl (zdk ttJ0_length_8abf5 6 rfl rfl) (Nat.le_refl _) (Nat.le_refl _) ⟨zshr (zln i) 0, rfl, rfl, zshr_0 _ (zln_b i hi)⟩
theorem s_J3_checkIndex_8e157 (sh : zSh) (l : Launch) (h : zM) (a b r : Int) (ha : 0 ≤ a ∧ a < b) (hb : b ≤ 2147483647) : zT sh l yJ3_checkIndex_8e157 cJ3_checkIndex_8e157 3 (some .int) (rmL 0) 0 0 [.inl a, .inl b, .inr r] h (zqi fun v h' => h = h' ∧ v = a) := by
  refine zT_of (by decide +kernel) (L0 := [some (.inl a), some (.inl b), some (.inr r)]) rfl (Nat.le_of_ble_eq_true rfl) ?_
  refine zj_iload_n (zdk ttJ3_checkIndex_8e157 0 rfl rfl) rfl ?_
  refine zj_if_lt (t := 9) (zdk ttJ3_checkIndex_8e157 1 rfl rfl) (by decide) (by omega) (fun q => absurd q (by omega)) (fun q => ?_)
  refine zj_iload_n (zdk ttJ3_checkIndex_8e157 2 rfl rfl) rfl ?_
  refine zj_iload_n (zdk ttJ3_checkIndex_8e157 3 rfl rfl) rfl ?_
  refine zj_icmp_lt (t := 16) (zdk ttJ3_checkIndex_8e157 4 rfl rfl) (by decide) (by omega) (by omega) (fun q => ?_) (fun q => absurd ha.2 q)
  refine zj_iload_n (zdk ttJ3_checkIndex_8e157 10 rfl rfl) rfl ?_
  exact zj_iret rfl (zdk ttJ3_checkIndex_8e157 11 rfl rfl) (Nat.le_refl _) (Nat.le_refl _) ⟨a, rfl, rfl, rfl⟩
theorem s_J0_checkIndex_df160 (sh : zSh) (l : Launch) (h : zM) (a b : Int) (ha : 0 ≤ a ∧ a < b) (hb : b ≤ 2147483647) : zT sh l yJ0_checkIndex_df160 cJ0_checkIndex_df160 2 none (rmL 1) 0 0 [.inl a, .inl b] h (zqv fun h' => h = h') := by
  refine zT_of (by decide +kernel) (L0 := [some (.inl a), some (.inl b)]) rfl (Nat.le_of_ble_eq_true rfl) ?_
  refine zj_iload_n (zdk ttJ0_checkIndex_df160 0 rfl rfl) rfl ?_
  refine zj_iload_n (zdk ttJ0_checkIndex_df160 1 rfl rfl) rfl ?_
  refine zj_gsF (zdk ttJ0_checkIndex_df160 2 rfl rfl) ws_fm (fun r => ?_)
  refine zj_callS (av := [.inl a, .inl b, .inr r]) (st := []) (zdk ttJ0_checkIndex_df160 3 rfl rfl) mb_J3_checkIndex_8e157 ms_RJ0_1059 rfl rfl (Nat.le_of_ble_eq_true rfl) (s_J3_checkIndex_8e157 sh l h a b r ha hb) (rm_ok (by decide) (by decide)) (zq_i fun v h1 q => ?_)
  obtain ⟨rfl, -⟩ := q
  refine zj_pop (zdk ttJ0_checkIndex_df160 4 rfl rfl) ?_
  exact zj_vret rfl (zdk ttJ0_checkIndex_df160 5 rfl rfl) (Nat.le_refl _) (Nat.le_refl _) ⟨rfl, rfl⟩
theorem s_J1_charAt_3b067 (sh : zSh) (l : Launch) (h : zM) (i : Nat) (a : Int) (hi : i < 5) (ha : 0 ≤ a ∧ a < zln i) : zT sh l yJ1_charAt_3b067 cJ1_charAt_3b067 2 (some .char) (rmL 2) 0 0 [.inr (-10 - (i : Int)), .inl a] h (zqi fun v h' => h = h' ∧ v = zbv i a.toNat) := by
  have hl := zln_b i hi
  have hv := zbv_b i hi a.toNat (by omega)
  refine zT_of (by decide +kernel) (L0 := [some (.inr (-10 - (i : Int))), some (.inl a)]) rfl (Nat.le_of_ble_eq_true rfl) ?_
  refine zj_iload_n (zdk ttJ1_charAt_3b067 0 rfl rfl) rfl ?_
  refine zj_aload_n (zdk ttJ1_charAt_3b067 1 rfl rfl) rfl (by omega) ?_
  refine zj_slen hi (zdk ttJ1_charAt_3b067 2 rfl rfl) ?_
  refine zj_callS (av := [.inl a, .inl (zln i)]) (st := []) (zdk ttJ1_charAt_3b067 3 rfl rfl) mb_J0_checkIndex_df160 ms_RJ1_9 rfl rfl (Nat.le_of_ble_eq_true rfl) (s_J0_checkIndex_df160 sh l h a (zln i) ha (by omega)) (rm_ok (by decide) (by decide)) (zq_v fun h1 q => ?_)
  subst q
  refine zj_aload_n (zdk ttJ1_charAt_3b067 4 rfl rfl) rfl (by omega) ?_
  refine zj_iload_n (zdk ttJ1_charAt_3b067 5 rfl rfl) rfl ?_
  refine zj_sbald hi ha (zdk ttJ1_charAt_3b067 6 rfl rfl) ?_
  refine zj_sipush (zdk ttJ1_charAt_3b067 7 rfl rfl) (by decide) ?_
  refine zj_iand (zdk ttJ1_charAt_3b067 8 rfl rfl) ?_
  have hm := zand_m (d := 256) 8 (by decide) (c := 255) (by decide) (by decide) (zbv i a.toNat)
  refine zj_i2c (zdk ttJ1_charAt_3b067 9 rfl rfl) (by omega) ?_
  exact zj_cret rfl (zdk ttJ1_charAt_3b067 10 rfl rfl) (Nat.le_refl _) (Nat.le_refl _) (by omega) ⟨zand (zbv i a.toNat) 255, rfl, rfl, by omega⟩
theorem s_J0_charAt_5068e (sh : zSh) (l : Launch) (h : zM) (i : Nat) (a : Int) (hi : i < 5) (ha : 0 ≤ a ∧ a < zln i) : zT sh l yJ0_charAt_5068e cJ0_charAt_5068e 2 (some .char) (rmL 3) 0 0 [.inr (-2 - (i : Int)), .inl a] h (zqi fun v h' => h = h' ∧ v = zbv i a.toNat) := by
  have hl := zln_b i hi
  have hv := zbv_b i hi a.toNat (by omega)
  refine zT_of (by decide +kernel) (L0 := [some (.inr (-2 - (i : Int))), some (.inl a)]) rfl (Nat.le_of_ble_eq_true rfl) ?_
  refine zj_aload_n (zdk ttJ0_charAt_5068e 0 rfl rfl) rfl (by omega) ?_
  refine zj_callVs hi (av := []) (st := []) (zdk ttJ0_charAt_5068e 1 rfl rfl) mb_J0_isLatin1_aae02 mv_RJ0_492 rfl rfl rfl (Nat.le_of_ble_eq_true rfl) (s_J0_isLatin1_aae02 sh l h i hi) (rm_ok (by decide) (by decide)) (zq_i fun v h1 q => ?_)
  obtain ⟨rfl, rfl⟩ := q
  refine zj_if_eq (t := 16) (zdk ttJ0_charAt_5068e 2 rfl rfl) (by decide) (by decide) (fun q => absurd q (by decide)) (fun q => ?_)
  refine zj_aload_n (zdk ttJ0_charAt_5068e 3 rfl rfl) rfl (by omega) ?_
  refine zj_sval hi (zdk ttJ0_charAt_5068e 4 rfl rfl) ws_val ?_
  refine zj_iload_n (zdk ttJ0_charAt_5068e 5 rfl rfl) rfl ?_
  refine zj_callS (av := [.inr (-10 - (i : Int)), .inl a]) (st := []) (zdk ttJ0_charAt_5068e 6 rfl rfl) mb_J1_charAt_3b067 ms_RJ0_495 rfl rfl (Nat.le_of_ble_eq_true rfl) (s_J1_charAt_3b067 sh l h i a hi ha) (rm_ok (by decide) (by decide)) (zq_i fun v h1 q => ?_)
  obtain ⟨rfl, rfl⟩ := q
  exact zj_cret rfl (zdk ttJ0_charAt_5068e 7 rfl rfl) (Nat.le_refl _) (Nat.le_refl _) (by omega) ⟨zbv i a.toNat, rfl, rfl, rfl⟩
