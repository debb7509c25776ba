def zm_max (a b : Int) : Int := if a < b then b else a
def zm_min (a b : Int) : Int := if a < b then a else b
theorem zm_max_f (a b : Int) : (zm_max a b = a ∧ b ≤ a) ∨ (zm_max a b = b ∧ a ≤ b) := by unfold zm_max; split <;> omega
theorem zm_min_f (a b : Int) : (zm_min a b = a ∧ a ≤ b) ∨ (zm_min a b = b ∧ b ≤ a) := by unfold zm_min; split <;> omega
section ZR2
variable {sh : zSh} {l : Launch} {y : MethodName} {cc : ByteArray} {nL : Nat} {ret : Option FieldType} {R : Room} {mc ms : Nat} {Q : Option zV → zM → Prop} {u1 u2 pc n : Nat} {L : List (Option zV)} {st : List zV} {h : zM}
def zM_max (own : String) (idx : Nat) : Prop := Cond.methodLink own idx Lib.Math.max.name ∈ zt ∧ Cond.static Lib.Math.max.name ∈ zt ∧ Cond.initialized "java/lang/Math" ∈ zt ∧ Cond.code Lib.Math.max.name Lib.Math.max.code 2 (some .int) ∈ zt
def zM_min (own : String) (idx : Nat) : Prop := Cond.methodLink own idx Lib.Math.min.name ∈ zt ∧ Cond.static Lib.Math.min.name ∈ zt ∧ Cond.initialized "java/lang/Math" ∈ zt ∧ Cond.code Lib.Math.min.name Lib.Math.min.code 2 (some .int) ∈ zt
def zM_abs (own : String) (idx : Nat) : Prop := Cond.methodLink own idx Lib.Math.abs.name ∈ zt ∧ Cond.static Lib.Math.abs.name ∈ zt ∧ Cond.initialized "java/lang/Math" ∈ zt ∧ Cond.code Lib.Math.abs.name Lib.Math.abs.code 1 (some .int) ∈ zt
theorem zi_max {a b : Int} (ha : zin a) (hb : zin b) : (if Int32.ofInt a < Int32.ofInt b then Int32.ofInt b else Int32.ofInt a) = Int32.ofInt (zm_max a b) := by
  by_cases q : a < b
  · rw [if_pos ((zin_lt ha hb).mpr q)]; congr 1; unfold zm_max; rw [if_pos q]
  · rw [if_neg (fun z => q ((zin_lt ha hb).mp z))]; congr 1; unfold zm_max; rw [if_neg q]
theorem zj_max {a b : Int} {idx : Nat} (hd : zd cc pc (.invokestatic idx) 3 n) (hm : zM_max y.cls idx) (ha : zin a) (hb2 : zin b) (hst : st.length ≤ 8) (hR : (1 ≤ R.frames ∧ 40 ≤ R.locals) ∧ u1 ≤ R.cells ∧ u2 ≤ R.slots) (kk : zJ sh l y cc nL ret R mc ms Q u1 u2 n L (.inl (zm_max a b) :: st) h) : zJ sh l y cc nL ret R mc ms Q u1 u2 pc L (.inl b :: .inl a :: st) h := by
  intro D g p e s m args below meth c A H locs ls X I Z
  have X0 := X
  obtain ⟨hx, hb, hml, hr, hown, hts, hlk, hK, hnm, hA, hZs⟩ := X0
  obtain ⟨hP, hD, hS, hg⟩ := id I
  have h8 := z_cat g.1 st hst
  refine va_mmax hx hb (by rw [hml]; exact Z.2.1.symm) hown (hts _ hm.1) (hts _ hm.2.1) (hts _ hm.2.2.1) (hts _ hm.2.2.2) hR.1.1 (by omega) hR.2.1 hR.2.2 hd.1 ?_
  have K := kk D g p e s m args below meth c A H locs ls X I Z
  rw [← hd.2, List.map_cons] at K
  have e9 := zi_max ha hb2
  first
    | (rw [e9]; exact K)
    | (have e8 : (if Int32.ofInt b < Int32.ofInt a then Int32.ofInt b else Int32.ofInt a) = Int32.ofInt (zm_max a b) := by
        by_cases q : b < a
        · rw [if_pos ((zin_lt hb2 ha).mpr q)]; congr 1; have := zm_max_f a b; omega
        · rw [if_neg (fun z => q ((zin_lt hb2 ha).mp z))]; congr 1; have := zm_max_f a b; omega
       rw [e8]; exact K)
theorem zi_min {a b : Int} (ha : zin a) (hb : zin b) : (if Int32.ofInt a < Int32.ofInt b then Int32.ofInt a else Int32.ofInt b) = Int32.ofInt (zm_min a b) := by
  by_cases q : a < b
  · rw [if_pos ((zin_lt ha hb).mpr q)]; congr 1; unfold zm_min; rw [if_pos q]
  · rw [if_neg (fun z => q ((zin_lt ha hb).mp z))]; congr 1; unfold zm_min; rw [if_neg q]
theorem zj_min {a b : Int} {idx : Nat} (hd : zd cc pc (.invokestatic idx) 3 n) (hm : zM_min y.cls idx) (ha : zin a) (hb2 : zin b) (hst : st.length ≤ 8) (hR : (1 ≤ R.frames ∧ 40 ≤ R.locals) ∧ u1 ≤ R.cells ∧ u2 ≤ R.slots) (kk : zJ sh l y cc nL ret R mc ms Q u1 u2 n L (.inl (zm_min a b) :: st) h) : zJ sh l y cc nL ret R mc ms Q u1 u2 pc L (.inl b :: .inl a :: st) h := by
  intro D g p e s m args below meth c A H locs ls X I Z
  have X0 := X
  obtain ⟨hx, hb, hml, hr, hown, hts, hlk, hK, hnm, hA, hZs⟩ := X0
  obtain ⟨hP, hD, hS, hg⟩ := id I
  have h8 := z_cat g.1 st hst
  refine va_mmin hx hb (by rw [hml]; exact Z.2.1.symm) hown (hts _ hm.1) (hts _ hm.2.1) (hts _ hm.2.2.1) (hts _ hm.2.2.2) hR.1.1 (by omega) hR.2.1 hR.2.2 hd.1 ?_
  have K := kk D g p e s m args below meth c A H locs ls X I Z
  rw [← hd.2, List.map_cons] at K
  have e9 := zi_min ha hb2
  first
    | (rw [e9]; exact K)
    | (have e8 : (if Int32.ofInt b < Int32.ofInt a then Int32.ofInt b else Int32.ofInt a) = Int32.ofInt (zm_min a b) := by
        by_cases q : b < a
        · rw [if_pos ((zin_lt hb2 ha).mpr q)]; congr 1; have := zm_min_f a b; omega
        · rw [if_neg (fun z => q ((zin_lt hb2 ha).mp z))]; congr 1; have := zm_min_f a b; omega
       rw [e8]; exact K)
theorem zj_abs {a : Int} {idx : Nat} (hd : zd cc pc (.invokestatic idx) 3 n) (hm : zM_abs y.cls idx) (ha : zin a) (hst : st.length ≤ 8) (hR : (1 ≤ R.frames ∧ 40 ≤ R.locals) ∧ u1 ≤ R.cells ∧ u2 ≤ R.slots) (kk : zJ sh l y cc nL ret R mc ms Q u1 u2 n L (.inl (a.natAbs : Int) :: st) h) : zJ sh l y cc nL ret R mc ms Q u1 u2 pc L (.inl a :: st) h := by
  intro D g p e s m args below meth c A H locs ls X I Z
  have X0 := X
  obtain ⟨hx, hb, hml, hr, hown, hts, hlk, hK, hnm, hA, hZs⟩ := X0
  obtain ⟨hP, hD, hS, hg⟩ := id I
  have h8 := z_cat g.1 st hst
  refine va_mabs hx hb (by rw [hml]; exact Z.2.1.symm) hown (hts _ hm.1) (hts _ hm.2.1) (hts _ hm.2.2.1) (hts _ hm.2.2.2) hR.1.1 (by omega) hR.2.1 hR.2.2 hd.1 ?_
  have K := kk D g p e s m args below meth c A H locs ls X I Z
  rw [← hd.2, List.map_cons] at K
  have hlt : 0 ≤ Int32.ofInt a ↔ 0 ≤ a := zin_le zin_0 ha
  have e9 : (if 0 ≤ Int32.ofInt a then Int32.ofInt a else 0 - Int32.ofInt a) = Int32.ofInt (a.natAbs : Int) := by
    by_cases q : 0 ≤ a
    · rw [if_pos (hlt.mpr q)]; congr 1; omega
    · rw [if_neg (fun z => q (hlt.mp z))]
      have : (0 : Int32) - Int32.ofInt a = Int32.ofInt (0 - a) := (Int32.ofInt_sub 0 a).symm
      rw [this]; congr 1; omega
  rw [e9]; exact K
def zMC (own : String) (idx : Nat) : Prop := Cond.methodLink own idx arraycopyName ∈ zt ∧ Cond.native arraycopyName ∈ zt ∧ Cond.static arraycopyName ∈ zt ∧ Cond.initialized "java/lang/System" ∈ zt
def zcp (h : zM) (c0 sp c1 dp k : Int) : zM := (h.1, fun a b => if a = c1 ∧ dp ≤ b ∧ b < dp + k then h.2 c0 (sp + (b - dp)) else h.2 a b)
theorem z_copy {p : Program} {l : Launch} {e : Env} {R : Room} {s : State} {m : MethodId} {args : Array Value} {below : List Frame} {meth : Method} {c : Code} {H : Heap} {locs : List Loc} {cells slots : Nat} {Q : State → Prop} {cc : ByteArray} {pc : Nat} {ls : Array Slot} {rest : List Value} {D : va_G} {cl : List vw_C} {A : Nat → Prop} {a : Nat} {tys : List (ClassId × FieldType)} {ws : va_W} {H0 : Heap}
    (hexec : p.tables.exec = Jvm.exec) (hb : c.code = cc) (hml : c.maxLocals = ls.size) {own : String} {index : Nat} (hown : s.vm.findClass own = some m.cls) (hlink : (Cond.methodLink own index arraycopyName).before args s = true) (hnat : (Cond.native arraycopyName).before args s = true) (hstat : (Cond.static arraycopyName).before args s = true) (hini : (Cond.initialized "java/lang/System").before args s = true)
    (hK : va_K D cl tys s) (hP : va_P D cl ws H) (hD : va_D A ws) (hS : va_S A H0 H locs) (q0 q1 t0 : Nat) {a0 : Nat} {c0 : ClassId} {n0 n1 : Nat} {f g : Nat → Int32} (ha0 : ws[q0]? = some (a0, .inl (c0, n0, .inl f))) (ha1 : ws[q1]? = some (a, .inl (c0, n1, .inl g))) (ht0 : tys[t0]? = some (c0, .int))
    {sp dp k : Int32} (h1 : ¬ sp < 0) (h2 : ¬ dp < 0) (h3 : ¬ k < 0) (h4 : sp.toNatClampNeg + k.toNatClampNeg ≤ n0) (h5 : dp.toNatClampNeg + k.toNatClampNeg ≤ n1)
    (hframes : 1 ≤ R.frames) (hlocals : (rest.map fun v => v.category).sum + (nativeFrameWords "java/lang/System" "arraycopy" 5 + 11) ≤ R.locals) (hdg : decode cc pc = .ok (.invokestatic index, 3))
    (kk : ∀ (H1 : Heap) (locs1 : List Loc), va_P D cl (ws.set q1 (a, .inl (c0, n1, .inl (va_cpy f g sp.toNatClampNeg dp.toNatClampNeg k.toNatClampNeg)))) H1 → va_D A (ws.set q1 (a, .inl (c0, n1, .inl (va_cpy f g sp.toNatClampNeg dp.toNatClampNeg k.toNatClampNeg)))) → va_S A H0 H1 locs1 → H1.size = H.size → W p l e R s m args below meth c H1 locs1 cells slots Q (F0 m (pc + 3) ls rest)) : W p l e R s m args below meth c H locs cells slots Q (F0 m pc ls (.int k :: .int dp :: .ref a :: .int sp :: .ref a0 :: rest)) := by
  have nn : ∀ z : Int32, ¬ z < 0 → z.toInt = (z.toNatClampNeg : Int) := by
    intro z hz
    have hz0 : (0 : Int) ≤ z.toInt := by
      have := Int32.not_lt.mp hz
      simpa using Int32.le_iff_toInt_le.mp this
    show z.toInt = ((z.toInt.toNat : Nat) : Int)
    omega
  intro T hT X
  have hc0 : H[a0]? = some (vp_cell c0 (n0, .inl f)) := hP q0 _ ha0
  have hc1 : H[a]? = some (vp_cell c0 (n1, .inl g)) := hP q1 _ ha1
  obtain ⟨-, k0, hk0, cm0, hkk0⟩ := (hK.2 t0 _ ht0).1 n0 (fun j => .int (f j))
  obtain ⟨-, k1, hk1, cm1, hkk1⟩ := (hK.2 t0 _ ht0).1 n1 (fun j => .int (g j))
  obtain ⟨vm', X', step⟩ := X.arraycopy hexec hown hlink hnat hstat hini (src := a0) (dst := a) (cs := vp_cell c0 (n0, .inl f)) (cd := vp_cell c0 (n1, .inl g)) (srcPos := sp) (destPos := dp) (n := k) (by rw [hT]; exact hc0) (by rw [hT]; exact hc1)
    (fun _ h => by cases h) (fun _ h => by cases h) (fun h => by cases h) (fun h => by cases h) hk0 hk1 hkk0 hkk1 (by simp [refKind]) h1 h2 h3
    (by rw [nn sp h1, nn k h3]; show ¬ _ > ((arrV c0 n0 (fun j => .int (f j))).slots.size : Int); rw [arrV_size]; omega)
    (by rw [nn dp h2, nn k h3]; show ¬ _ > ((arrV c0 n1 (fun j => .int (g j))).slots.size : Int); rw [arrV_size]; omega)
    (fun vm₁ _ i hi => by
      have e : (vp_cell c0 (n0, .inl f)).slots.getD (sp.toNatClampNeg + i) .null = .int (f (sp.toNatClampNeg + i)) := by
        show (arrV c0 n0 (fun j => .int (f j))).slots.getD _ _ = _
        rw [Array.getD_eq_getD_getElem?, arrV_read _ _ (by omega)]
        rfl
      refine ⟨?_, ?_⟩
      · rw [e]; rfl
      · rw [e]; exact trivial)
    (g := F0 m pc ls (.int k :: .int dp :: .ref a :: .int sp :: .ref a0 :: rest)) rfl (by rw [hml]) (rest := rest) rfl (by rw [hb]; exact hdg) hframes (by show 2 * 0 + _ + _ ≤ _; omega)
  have e1 : copied (vp_cell c0 (n0, .inl f)) (vp_cell c0 (n1, .inl g)) sp dp k = vp_cell c0 (n1, .inl (va_cpy f g sp.toNatClampNeg dp.toNatClampNeg k.toNatClampNeg)) := va_copied (fun z => .int z) c0 c0 f g h4
  rw [e1] at X' step
  have hl : a < H.size := (Array.getElem?_eq_some_iff.mp hc1).1
  have hheap : ((T.setVm vm').setCell a (vp_cell c0 (n1, .inl (va_cpy f g sp.toNatClampNeg dp.toNatClampNeg k.toNatClampNeg)))).heap = H.setIfInBounds a (vp_cell c0 (n1, .inl (va_cpy f g sp.toNatClampNeg dp.toNatClampNeg k.toNatClampNeg))) := by rw [← hT]; rfl
  have oq : ∀ q : Nat, q ≠ a → (H.setIfInBounds a (vp_cell c0 (n1, .inl (va_cpy f g sp.toNatClampNeg dp.toNatClampNeg k.toNatClampNeg))))[q]? = H[q]? := fun q hq => by simp [Array.getElem?_setIfInBounds, Ne.symm hq]
  obtain ⟨t, a1, b1⟩ := kk _ _ (hP.set hD ha1 (show (H.setIfInBounds a _)[a]? = some _ by simp [Array.getElem?_setIfInBounds, hl]) oq) (hD.set ha1) ⟨by simp; exact hS.1, fun q g1 g2 => by
      rw [oq q (fun e => g2 (by rw [e]; exact hD.2 q1 _ ha1))]
      exact hS.2.1 q g1 g2, fun q hq => by
      rcases List.mem_append.mp hq with h | h
      · exact hS.2.2 q h
      · obtain ⟨z, -, hz⟩ := List.mem_map.mp h
        rw [← hz]
        exact hD.2 q1 _ ha1⟩ (by simp) _ hheap X'
  exact ⟨t, step t a1, b1⟩
theorem z_aast {p : Program} {l : Launch} {e : Env} {R : Room} {s : State} {m : MethodId} {args : Array Value} {below : List Frame} {meth : Method} {c : Code} {H : Heap} {locs : List Loc} {cells slots : Nat} {Q : State → Prop} {cc : ByteArray} {pc : Nat} {ls : Array Slot} {rest : List Value} {D : va_G} {cl : List vw_C} {A : Nat → Prop} {a : Nat} {tys : List (ClassId × FieldType)} {ws : va_W} {H0 : Heap}
    (hexec : p.tables.exec = Jvm.exec) (hb : c.code = cc) (hK : va_K D cl tys s) (hP : va_P D cl ws H) (hD : va_D A ws) (hS : va_S A H0 H locs) (q0 t0 qk ci : Nat) {cA : ClassId} {r : vw_C} {k v : Nat} {vs : List Value} {f : Nat → Option Nat} (ha : ws[q0]? = some (a, .inl (cA, k, .inr (.inr (.inr (.inr f)))))) (ht : tys[t0]? = some (cA, .object r.1)) (hv : ws[qk]? = some (v, .inr (ci, vs))) (hc : cl[ci]? = some r) {i : Int32} (hin : vp_in i k) (hdg : decode cc pc = .ok (.aastore, 1))
    (kk : ∀ (H1 : Heap) (locs1 : List Loc), va_P D cl (ws.set q0 (a, .inl (cA, k, .inr (.inr (.inr (.inr (va_up f i.toNatClampNeg (some v)))))))) H1 → va_D A (ws.set q0 (a, .inl (cA, k, .inr (.inr (.inr (.inr (va_up f i.toNatClampNeg (some v)))))))) → va_S A H0 H1 locs1 → H1.size = H.size → W p l e R s m args below meth c H1 locs1 cells slots Q (F0 m (pc + 1) ls rest)) : W p l e R s m args below meth c H locs cells slots Q (F0 m pc ls (.ref v :: .int i :: .ref a :: rest)) := by
  have hlt : i.toNatClampNeg < k := Nat.not_le.mp fun q => hin (Or.inr q)
  have h0 : ¬ i < 0 := fun q => hin (Or.inl q)
  obtain ⟨r', hr', cellV, g1, g2, g3, -⟩ := hP qk _ hv
  have hcls := (hK.1 ci r hc).2
  obtain ⟨kA, comp, k1, k2, k3, -⟩ := (hK.2 t0 _ ht).2
  have hcomp : comp = D.1 ci := Option.some.inj (k3.symm.trans hcls.1)
  subst hcomp
  obtain ⟨kC, hkC, -⟩ := hcls.2
  refine W.aast hexec hb (hP q0 _ ha) (fun q h => by cases h) (fun h => by cases h) k1 k2 rfl hkC ⟨h0, by show _ < (arrV _ _ _).slots.size; rw [arrV_size]; exact hlt⟩ g1 (fun q h => by rw [g3] at h; cases h) (by rw [g2]; exact hkC) (by rw [g2]; exact va_assign hcls) rfl rfl hdg fun H1 e z oq => ?_
  refine kk H1 _ (hP.set hD ha ?_ oq) (hD.set ha) (hS.put z oq (hD.2 q0 _ ha)) z
  show H1[a]? = some (vp_cell _ _)
  rw [e]
  rw [vp_cell_q, vp_cell_q, arrV_store]
  congr 2
  funext q
  by_cases hq : q = i.toNatClampNeg
  · subst hq
    simp [updV, va_up, va_rf]
  · simp [updV, va_up, hq]
theorem zj_aast {c0 i v0 : Int} {N : Nat} (hd : zd cc pc .aastore 1 n) (hsc : sh c0 = .inr (2, N) ∧ 0 ≤ c0 ∧ c0 < h.1) (hN : N < 2147483648) (hi : 0 ≤ i ∧ i < N) (hv : sh v0 = .inl 1 ∧ 0 ≤ v0 ∧ v0 < h.1) (kk : ∀ h', h' = zwr h c0 i v0 → zJ sh l y cc nL ret R mc ms Q u1 u2 n L st h') : zJ sh l y cc nL ret R mc ms Q u1 u2 pc L (.inr v0 :: .inl i :: .inr c0 :: st) h := by
  intro D g p e s m args below meth c A H locs ls X I Z
  have X0 := X
  obtain ⟨hx, hb, hml, hr, hown, hts, hlk, hK, hnm, hA, hZs⟩ := X0
  obtain ⟨hP, hD, hS, hg⟩ := id I
  obtain ⟨hs, hc⟩ := hsc
  obtain ⟨cn, rfl⟩ : ∃ cn : Nat, c0 = cn := ⟨c0.toNat, by omega⟩
  obtain ⟨vn, rfl⟩ : ∃ cn : Nat, v0 = cn := ⟨v0.toNat, by omega⟩
  have hP1 := zw_at sh g h (c := cn) (by omega)
  have hP2 := zw_at sh g h (c := vn) (by omega)
  rw [zc_ra hs] at hP1
  rw [zc_obj hv.1] at hP2
  obtain ⟨z1, z2⟩ := zix hi hN
  rw [List.map_cons, List.map_cons, List.map_cons, zv_ref _ (show ¬ (cn : Int) = -1 by omega), zv_ref _ (show ¬ (vn : Int) = -1 by omega)]
  refine z_aast hx hb hK hP hD hS cn 2 vn 1 hP1 rfl hP2 rfl z1 hd.1 (fun H1 locs1 hP3 hD3 hS3 hz => ?_)
  have ef : va_up (fun (j : Nat) => zo g.1 (h.2 cn j)) (Int32.ofInt i).toNatClampNeg (some (g.1 vn)) = fun (j : Nat) => zo g.1 ((zwr h cn i vn).2 cn j) := by
    funext j
    rw [z2]
    unfold va_up
    by_cases hj : j = i.toNat
    · rw [if_pos hj, show (j : Int) = i by omega, zwr_s]
      exact (if_neg (by omega)).symm
    · rw [if_neg hj, zwr_n (by omega)]
  rw [ef, zw_set (h := h) (h' := zwr h cn i vn) (by omega) rfl (fun a b z => zwr_n (fun e => z e.1)) (zc_ra hs)] at hP3 hD3
  have K := kk _ rfl D g p e s m args below meth c A H1 locs1 ls X ⟨hP3, hD3, hS3, by rw [hz]; exact hg⟩ Z
  rw [← hd.2] at K
  exact K
theorem zj_copy {c0 c1 sp dp k : Int} {idx N0 N1 : Nat} (hd : zd cc pc (.invokestatic idx) 3 n) (hm : zMC y.cls idx) (hs0 : sh c0 = .inr (0, N0) ∧ 0 ≤ c0 ∧ c0 < h.1) (hs1 : sh c1 = .inr (0, N1) ∧ 0 ≤ c1 ∧ c1 < h.1) (hN : N0 < 2147483648 ∧ N1 < 2147483648) (h1 : 0 ≤ sp ∧ 0 ≤ dp ∧ 0 ≤ k) (h2 : sp + k ≤ N0) (h3 : dp + k ≤ N1) (hst : st.length ≤ 8) (hR : 1 ≤ R.frames ∧ 60 ≤ R.locals) (kk : ∀ h', h' = zcp h c0 sp c1 dp k → zJ sh l y cc nL ret R mc ms Q u1 u2 n L st h') : zJ sh l y cc nL ret R mc ms Q u1 u2 pc L (.inl k :: .inl dp :: .inr c1 :: .inl sp :: .inr c0 :: st) h := by
  intro D g p e s m args below meth c A H locs ls X I Z
  have X0 := X
  obtain ⟨hx, hb, hml, hr, hown, hts, hlk, hK, hnm, hA, hZs⟩ := X0
  obtain ⟨hP, hD, hS, hg⟩ := id I
  obtain ⟨n0, rfl⟩ : ∃ cn : Nat, c0 = cn := ⟨c0.toNat, by omega⟩
  obtain ⟨n1, rfl⟩ : ∃ cn : Nat, c1 = cn := ⟨c1.toNat, by omega⟩
  have hP0 := zw_at sh g h (c := n0) (by omega)
  have hP1 := zw_at sh g h (c := n1) (by omega)
  rw [zc_ia hs0.1] at hP0
  rw [zc_ia hs1.1] at hP1
  have cl : ∀ z : Int, 0 ≤ z → z ≤ 2147483647 → ¬ Int32.ofInt z < 0 ∧ (Int32.ofInt z).toNatClampNeg = z.toNat := fun z q1 q2 => ⟨fun q => by have := (zin_lt (by omega) zin_0).mp q; omega, by show (Int32.ofInt z).toInt.toNat = _; rw [zin_i (by omega)]⟩
  obtain ⟨p1, p2⟩ := cl sp h1.1 (by omega)
  obtain ⟨p3, p4⟩ := cl dp h1.2.1 (by omega)
  obtain ⟨p5, p6⟩ := cl k h1.2.2 (by omega)
  have h8 := z_cat g.1 st hst
  rw [List.map_cons, List.map_cons, List.map_cons, List.map_cons, List.map_cons, zv_ref _ (show ¬ (n0 : Int) = -1 by omega), zv_ref _ (show ¬ (n1 : Int) = -1 by omega)]
  have hnw : nativeFrameWords "java/lang/System" "arraycopy" 5 ≤ 40 := by decide
  refine z_copy hx hb (by rw [hml]; exact Z.2.1.symm) hown (hts _ hm.1) (hts _ hm.2.1) (hts _ hm.2.2.1) (hts _ hm.2.2.2) hK hP hD hS n0 n1 0 hP0 hP1 rfl p1 p3 p5 (by rw [p2, p6]; omega) (by rw [p4, p6]; omega) hR.1 (by omega) hd.1 (fun H1 locs1 hP2 hD2 hS2 hz => ?_)
  have ef : va_cpy (fun (j : Nat) => Int32.ofInt (h.2 n0 j)) (fun (j : Nat) => Int32.ofInt (h.2 n1 j)) (Int32.ofInt sp).toNatClampNeg (Int32.ofInt dp).toNatClampNeg (Int32.ofInt k).toNatClampNeg = fun (j : Nat) => Int32.ofInt ((zcp h n0 sp n1 dp k).2 n1 j) := by
    funext j
    rw [p2, p4, p6]
    unfold va_cpy zcp
    dsimp only
    by_cases q : dp.toNat ≤ j ∧ j < dp.toNat + k.toNat
    · rw [if_pos q, if_pos (by omega), show ((sp.toNat + (j - dp.toNat) : Nat) : Int) = sp + ((j : Int) - dp) by omega]
    · rw [if_neg q, if_neg (by omega)]
  rw [ef, zw_set (h := h) (h' := zcp h n0 sp n1 dp k) (by omega) rfl (fun a b z => if_neg (fun e => z e.1)) (zc_ia hs1.1)] at hP2 hD2
  have K := kk _ rfl D g p e s m args below meth c A H1 locs1 ls X ⟨hP2, hD2, hS2, by rw [hz]; exact hg⟩ Z
  rw [← hd.2] at K
  exact K
end ZR2
theorem mc_RX1_55 : zMC RX1 55 := ⟨zt_a2 226 rfl rfl, zt_a2 228 rfl rfl, zt_a2 227 rfl rfl, zt_a1 13 rfl rfl⟩
theorem mx_RX9_166 : zM_min RX9 166 := ⟨zt_a3 11 rfl rfl, zt_a3 12 rfl rfl, zt_a1 15 rfl rfl, zt_a3 13 rfl rfl⟩
theorem mx_RX9_171 : zM_max RX9 171 := ⟨zt_a3 14 rfl rfl, zt_a3 15 rfl rfl, zt_a1 15 rfl rfl, zt_a3 16 rfl rfl⟩
theorem mx_RJ1_92 : zM_max RJ1 92 := ⟨zt_a3 201 rfl rfl, zt_a3 15 rfl rfl, zt_a1 15 rfl rfl, zt_a3 16 rfl rfl⟩
theorem mx_RJ1_38 : zM_min RJ1 38 := ⟨zt_a3 202 rfl rfl, zt_a3 12 rfl rfl, zt_a1 15 rfl rfl, zt_a3 13 rfl rfl⟩
theorem mc_RX3_39 : zMC RX3 39 := ⟨zt_a4 56 rfl rfl, zt_a2 228 rfl rfl, zt_a2 227 rfl rfl, zt_a1 13 rfl rfl⟩
theorem mc_RX4_25 : zMC RX4 25 := ⟨zt_a4 80 rfl rfl, zt_a2 228 rfl rfl, zt_a2 227 rfl rfl, zt_a1 13 rfl rfl⟩
theorem mc_RX2_19 : zMC RX2 19 := ⟨zt_a4 119 rfl rfl, zt_a2 228 rfl rfl, zt_a2 227 rfl rfl, zt_a1 13 rfl rfl⟩
theorem mc_RX0_26 : zMC RX0 26 := ⟨zt_a4 150 rfl rfl, zt_a2 228 rfl rfl, zt_a2 227 rfl rfl, zt_a1 13 rfl rfl⟩
theorem mc_RX5_44 : zMC RX5 44 := ⟨zt_a4 155 rfl rfl, zt_a2 228 rfl rfl, zt_a2 227 rfl rfl, zt_a1 13 rfl rfl⟩
theorem mx_RX10_348 : zM_min RX10 348 := ⟨zt_a4 176 rfl rfl, zt_a3 12 rfl rfl, zt_a1 15 rfl rfl, zt_a3 13 rfl rfl⟩
theorem mx_RX8_27 : zM_min RX8 27 := ⟨zt_a4 195 rfl rfl, zt_a3 12 rfl rfl, zt_a1 15 rfl rfl, zt_a3 13 rfl rfl⟩
theorem mx_RX5_54 : zM_abs RX5 54 := ⟨zt_a4 217 rfl rfl, zt_a4 218 rfl rfl, zt_a1 15 rfl rfl, zt_a4 219 rfl rfl⟩
theorem mx_RX8_37 : zM_max RX8 37 := ⟨zt_a4 223 rfl rfl, zt_a3 15 rfl rfl, zt_a1 15 rfl rfl, zt_a3 16 rfl rfl⟩
theorem mx_RX8_76 : zM_abs RX8 76 := ⟨zt_a5 112 rfl rfl, zt_a4 218 rfl rfl, zt_a1 15 rfl rfl, zt_a4 219 rfl rfl⟩

