theorem lt_a1 {w : Cond} (i : Nat) (h : tables_1_1[i]? = some w) : w ∈ lw_tbl := List.mem_append_right _ (List.mem_append_left _ (List.mem_of_getElem? h))
theorem lt_a2 {w : Cond} (i : Nat) (h : tables_1_2[i]? = some w) : w ∈ lw_tbl := List.mem_append_right _ (List.mem_append_right _ (List.mem_append_left _ (List.mem_of_getElem? h)))
theorem lt_a3 {w : Cond} (i : Nat) (h : tables_1_3[i]? = some w) : w ∈ lw_tbl := List.mem_append_right _ (List.mem_append_right _ (List.mem_append_right _ (List.mem_append_left _ (List.mem_of_getElem? h))))
theorem lt_a4 {w : Cond} (i : Nat) (h : tables_1_4[i]? = some w) : w ∈ lw_tbl := List.mem_append_right _ (List.mem_append_right _ (List.mem_append_right _ (List.mem_append_right _ (List.mem_append_left _ (List.mem_of_getElem? h)))))
theorem lt_a5 {w : Cond} (i : Nat) (h : tables_1_5[i]? = some w) : w ∈ lw_tbl := List.mem_append_right _ (List.mem_append_right _ (List.mem_append_right _ (List.mem_append_right _ (List.mem_append_right _ (List.mem_append_left _ (List.mem_of_getElem? h))))))
theorem lw_ls1 : Cond.laysStatic "java/lang/String" "COMPACT_STRINGS" "Z" ∈ lw_tbl := lt_a3 131 rfl
theorem lw_ls2 : Cond.laysStatic "jdk/internal/util/Preconditions" "SIOOBE_FORMATTER" "Ljava/util/function/BiFunction;" ∈ lw_tbl := lt_a3 147 rfl
theorem lw_in1 : Cond.initialized "java/lang/String" ∈ lw_tbl := lt_a1 16 rfl
theorem lw_in2 : Cond.initialized "jdk/internal/util/Preconditions" ∈ lw_tbl := lt_a1 18 rfl
theorem lw_ao : Cond.arrayOver (.object RX1) ∈ lw_tbl := lt_a2 135 rfl
theorem lw_sr0 : Cond.stringRef "RopeClock$TextReade\x72" 17 "leaves winds returns when or and not weight long left here people wound time school kin day " ∈ lw_tbl := lt_a3 110 rfl
theorem lw_sr1 : Cond.stringRef "RopeClock$Tape" 62 ";+-*/()<=>" ∈ lw_tbl := lt_a3 185 rfl
theorem lw_sr2 : Cond.stringRef "RopeClock$TextReade\x72" 94 "on boat out back " ∈ lw_tbl := lt_a4 61 rfl
theorem lw_sr3 : Cond.stringRef "RopeClock$TextReade\x72" 119 "on beg free school holiday interest push " ∈ lw_tbl := lt_a4 85 rfl
theorem lw_sr4 : Cond.stringRef "RopeClock$TextReade\x72" 130 "islander kin " ∈ lw_tbl := lt_a4 98 rfl
theorem lw_nl0 : Cond.methodLinkNest "RopeClock" 9 yX9_init "RopeClock" ∈ lw_tbl := lt_a1 32 rfl
theorem lw_nl1 : Cond.methodLinkNest "RopeClock" 24 yX6_init "RopeClock" ∈ lw_tbl := lt_a2 61 rfl
theorem lw_nl2 : Cond.methodLinkNest "RopeClock" 40 yX8_init "RopeClock" ∈ lw_tbl := lt_a2 113 rfl
theorem lw_nl3 : Cond.methodLinkNest "RopeClock" 66 yX1_init "RopeClock" ∈ lw_tbl := lt_a2 136 rfl
theorem lw_nl4 : Cond.methodLinkNest "RopeClock" 291 yX8_waysToSit "RopeClock" ∈ lw_tbl := lt_a5 32 rfl
theorem lw_nl5 : Cond.methodLinkNest "RopeClock" 318 yX8_leastLean "RopeClock" ∈ lw_tbl := lt_a5 109 rfl
theorem lw_nl6 : Cond.methodLinkNest "RopeClock$Kinship" 31 yX10_within "RopeClock" ∈ lw_tbl := lt_a4 114 rfl
theorem lw_nl7 : Cond.methodLinkNest "RopeClock$Puzzles" 50 yX10_within "RopeClock" ∈ lw_tbl := lt_a4 208 rfl
theorem lw_nl8 : Cond.methodLinkNest "RopeClock$Tape" 91 yX10_within "RopeClock" ∈ lw_tbl := lt_a4 75 rfl
theorem lw_nl9 : Cond.methodLinkNest "RopeClock$World" 11 yX1_init "RopeClock" ∈ lw_tbl := lt_a1 38 rfl
theorem lw_nl10 : Cond.methodLinkNest "RopeClock$World" 20 yX3_init "RopeClock" ∈ lw_tbl := lt_a1 114 rfl
theorem lw_nl11 : Cond.methodLinkNest "RopeClock$World" 27 yX4_init "RopeClock" ∈ lw_tbl := lt_a1 157 rfl
theorem lw_nl12 : Cond.methodLinkNest "RopeClock$World" 37 yX2_init "RopeClock" ∈ lw_tbl := lt_a1 185 rfl
theorem lw_nl13 : Cond.methodLinkNest "RopeClock$World" 44 yX0_init "RopeClock" ∈ lw_tbl := lt_a1 202 rfl
theorem lw_nl14 : Cond.methodLinkNest "RopeClock$World" 51 yX5_init "RopeClock" ∈ lw_tbl := lt_a1 229 rfl
def nlC : List Cond := flatC (Jvm.Cond.and given_1 narrow_1)
def tmS (i : Nat) : Term := match i with
  | 0 => .string "RopeClock$TextReade\x72" 17
  | 1 => .string "RopeClock$Tape" 62
  | 2 => .string "RopeClock$TextReade\x72" 94
  | 3 => .string "RopeClock$TextReade\x72" 119
  | _ => .string "RopeClock$TextReade\x72" 130
def elC (i j : Nat) : Cond := Cond.eq (.elem (.field (tmS i) "java/lang/String" "value" "[B") (.int (Int32.ofNat j))) (.int ((zbyt.getD i []).getD j 0))
set_option maxRecDepth 100000 in
theorem nel_0 : (nlC.drop 13).take 92 = (List.range 92).map (elC 0) := rfl
set_option maxRecDepth 100000 in
theorem nel_1 : (nlC.drop 109).take 10 = (List.range 10).map (elC 1) := rfl
set_option maxRecDepth 100000 in
theorem nel_2 : (nlC.drop 124).take 17 = (List.range 17).map (elC 2) := rfl
set_option maxRecDepth 100000 in
theorem nel_3 : (nlC.drop 147).take 41 = (List.range 41).map (elC 3) := rfl
set_option maxRecDepth 100000 in
theorem nel_4 : (nlC.drop 195).take 13 = (List.range 13).map (elC 4) := rfl
theorem n_ex : ∀ i : Nat, i < 5 → Cond.exactly (tmS i) "java/lang/String" ∈ nlC := by
  intro i hi
  match i, hi with
  | 0, _ => exact List.mem_of_getElem? (l := nlC) (i := 9) rfl
  | 1, _ => exact List.mem_of_getElem? (l := nlC) (i := 105) rfl
  | 2, _ => exact List.mem_of_getElem? (l := nlC) (i := 120) rfl
  | 3, _ => exact List.mem_of_getElem? (l := nlC) (i := 143) rfl
  | 4, _ => exact List.mem_of_getElem? (l := nlC) (i := 191) rfl
  | i + 5, h => exact absurd h (by omega)
theorem n_co : ∀ i : Nat, i < 5 → Cond.eq (.field (tmS i) "java/lang/String" "code\x72" "B") (.int 0) ∈ nlC := by
  intro i hi
  match i, hi with
  | 0, _ => exact List.mem_of_getElem? (l := nlC) (i := 10) rfl
  | 1, _ => exact List.mem_of_getElem? (l := nlC) (i := 106) rfl
  | 2, _ => exact List.mem_of_getElem? (l := nlC) (i := 121) rfl
  | 3, _ => exact List.mem_of_getElem? (l := nlC) (i := 144) rfl
  | 4, _ => exact List.mem_of_getElem? (l := nlC) (i := 192) rfl
  | i + 5, h => exact absurd h (by omega)
theorem n_ar : ∀ i : Nat, i < 5 → Cond.arrayOf (.field (tmS i) "java/lang/String" "value" "[B") .byte ∈ nlC := by
  intro i hi
  match i, hi with
  | 0, _ => exact List.mem_of_getElem? (l := nlC) (i := 11) rfl
  | 1, _ => exact List.mem_of_getElem? (l := nlC) (i := 107) rfl
  | 2, _ => exact List.mem_of_getElem? (l := nlC) (i := 122) rfl
  | 3, _ => exact List.mem_of_getElem? (l := nlC) (i := 145) rfl
  | 4, _ => exact List.mem_of_getElem? (l := nlC) (i := 193) rfl
  | i + 5, h => exact absurd h (by omega)
theorem n_le : ∀ i : Nat, i < 5 → Cond.eq (.length (.field (tmS i) "java/lang/String" "value" "[B")) (.int (Int32.ofNat (zlen.getD i 0))) ∈ nlC := by
  intro i hi
  match i, hi with
  | 0, _ => exact List.mem_of_getElem? (l := nlC) (i := 12) rfl
  | 1, _ => exact List.mem_of_getElem? (l := nlC) (i := 108) rfl
  | 2, _ => exact List.mem_of_getElem? (l := nlC) (i := 123) rfl
  | 3, _ => exact List.mem_of_getElem? (l := nlC) (i := 146) rfl
  | 4, _ => exact List.mem_of_getElem? (l := nlC) (i := 194) rfl
  | i + 5, h => exact absurd h (by omega)
theorem n_el : ∀ i : Nat, i < 5 → ∀ j : Nat, j < zlen.getD i 0 → elC i j ∈ nlC := by
  intro i hi j hj
  match i, hi with
  | 0, _ => exact List.mem_of_mem_drop (List.mem_of_mem_take (by rw [nel_0]; exact List.mem_map.mpr ⟨j, List.mem_range.mpr hj, rfl⟩ : elC 0 j ∈ (nlC.drop _).take _))
  | 1, _ => exact List.mem_of_mem_drop (List.mem_of_mem_take (by rw [nel_1]; exact List.mem_map.mpr ⟨j, List.mem_range.mpr hj, rfl⟩ : elC 1 j ∈ (nlC.drop _).take _))
  | 2, _ => exact List.mem_of_mem_drop (List.mem_of_mem_take (by rw [nel_2]; exact List.mem_map.mpr ⟨j, List.mem_range.mpr hj, rfl⟩ : elC 2 j ∈ (nlC.drop _).take _))
  | 3, _ => exact List.mem_of_mem_drop (List.mem_of_mem_take (by rw [nel_3]; exact List.mem_map.mpr ⟨j, List.mem_range.mpr hj, rfl⟩ : elC 3 j ∈ (nlC.drop _).take _))
  | 4, _ => exact List.mem_of_mem_drop (List.mem_of_mem_take (by rw [nel_4]; exact List.mem_map.mpr ⟨j, List.mem_range.mpr hj, rfl⟩ : elC 4 j ∈ (nlC.drop _).take _))
  | i + 5, h => exact absurd h (by omega)
theorem n_ne : ∀ i j : Nat, i < 5 → j < 5 → i ≠ j → Cond.not (Cond.eq (tmS i) (tmS j)) ∈ nlC ∨ Cond.not (Cond.eq (tmS j) (tmS i)) ∈ nlC := by
  intro i j hi hj hij
  match i, j, hi, hj with
  | 0, 1, _, _ => exact Or.inl (List.mem_of_getElem? (l := nlC) (i := 119) rfl)
  | 0, 2, _, _ => exact Or.inl (List.mem_of_getElem? (l := nlC) (i := 141) rfl)
  | 0, 3, _, _ => exact Or.inl (List.mem_of_getElem? (l := nlC) (i := 188) rfl)
  | 0, 4, _, _ => exact Or.inl (List.mem_of_getElem? (l := nlC) (i := 208) rfl)
  | 1, 0, _, _ => exact Or.inr (List.mem_of_getElem? (l := nlC) (i := 119) rfl)
  | 1, 2, _, _ => exact Or.inl (List.mem_of_getElem? (l := nlC) (i := 142) rfl)
  | 1, 3, _, _ => exact Or.inl (List.mem_of_getElem? (l := nlC) (i := 189) rfl)
  | 1, 4, _, _ => exact Or.inl (List.mem_of_getElem? (l := nlC) (i := 209) rfl)
  | 2, 0, _, _ => exact Or.inr (List.mem_of_getElem? (l := nlC) (i := 141) rfl)
  | 2, 1, _, _ => exact Or.inr (List.mem_of_getElem? (l := nlC) (i := 142) rfl)
  | 2, 3, _, _ => exact Or.inl (List.mem_of_getElem? (l := nlC) (i := 190) rfl)
  | 2, 4, _, _ => exact Or.inl (List.mem_of_getElem? (l := nlC) (i := 210) rfl)
  | 3, 0, _, _ => exact Or.inr (List.mem_of_getElem? (l := nlC) (i := 188) rfl)
  | 3, 1, _, _ => exact Or.inr (List.mem_of_getElem? (l := nlC) (i := 189) rfl)
  | 3, 2, _, _ => exact Or.inr (List.mem_of_getElem? (l := nlC) (i := 190) rfl)
  | 3, 4, _, _ => exact Or.inl (List.mem_of_getElem? (l := nlC) (i := 211) rfl)
  | 4, 0, _, _ => exact Or.inr (List.mem_of_getElem? (l := nlC) (i := 208) rfl)
  | 4, 1, _, _ => exact Or.inr (List.mem_of_getElem? (l := nlC) (i := 209) rfl)
  | 4, 2, _, _ => exact Or.inr (List.mem_of_getElem? (l := nlC) (i := 210) rfl)
  | 4, 3, _, _ => exact Or.inr (List.mem_of_getElem? (l := nlC) (i := 211) rfl)
  | 0, 0, _, _ => exact absurd rfl hij
  | 1, 1, _, _ => exact absurd rfl hij
  | 2, 2, _, _ => exact absurd rfl hij
  | 3, 3, _, _ => exact absurd rfl hij
  | 4, 4, _, _ => exact absurd rfl hij
  | i + 5, _, h, _ => exact absurd h (by omega)
  | _, j + 5, _, h => exact absurd h (by omega)
theorem n_cs : Cond.eq (.static "java/lang/String" "COMPACT_STRINGS" "Z") (.int 1) ∈ nlC := List.mem_of_getElem? (l := nlC) (i := 4) rfl
theorem n_fm : Cond.isRef (.static "jdk/internal/util/Preconditions" "SIOOBE_FORMATTER" "Ljava/util/function/BiFunction;") ∈ nlC := List.mem_of_getElem? (l := nlC) (i := 5) rfl
/-- class numbers, slots, array classes -/
theorem z_cls {s : State} {b : Nat} (hts : ∀ w ∈ zt, w.before #[Value.ref b] s = true) : ∃ D : va_G, ∀ (k : Nat) (q : vw_C), vwCl[k]? = some q → u_Kn s q.1 q.2.1 q.2.2 (D.1 k) (D.2 k) := by
  have h0 : ∀ k : Nat, ∃ r : ClassId × (Nat → Nat), ∀ q : vw_C, vwCl[k]? = some q → u_Kn s q.1 q.2.1 q.2.2 r.1 r.2 := by
    intro k
    match k with
    | 0 =>
      obtain ⟨cC, iS, h⟩ := u_known (C := RX0) (T := TX0) (N := znf 0) (n := znf 0) hts zlw_0 (hts _ wi_0)
      exact ⟨(cC, iS), fun q hq => by rw [zcl0.1] at hq; cases hq; exact h⟩
    | 1 =>
      obtain ⟨cC, iS, h⟩ := u_known (C := RX1) (T := TX1) (N := znf 1) (n := znf 1) hts zlw_1 (hts _ wi_1)
      exact ⟨(cC, iS), fun q hq => by rw [zcl1.1] at hq; cases hq; exact h⟩
    | 2 =>
      obtain ⟨cC, iS, h⟩ := u_known (C := RX2) (T := TX2) (N := znf 2) (n := znf 2) hts zlw_2 (hts _ wi_2)
      exact ⟨(cC, iS), fun q hq => by rw [zcl2.1] at hq; cases hq; exact h⟩
    | 3 =>
      obtain ⟨cC, iS, h⟩ := u_known (C := RX3) (T := TX3) (N := znf 3) (n := znf 3) hts zlw_3 (hts _ wi_3)
      exact ⟨(cC, iS), fun q hq => by rw [zcl3.1] at hq; cases hq; exact h⟩
    | 4 =>
      obtain ⟨cC, iS, h⟩ := u_known (C := RX4) (T := TX4) (N := znf 4) (n := znf 4) hts zlw_4 (hts _ wi_4)
      exact ⟨(cC, iS), fun q hq => by rw [zcl4.1] at hq; cases hq; exact h⟩
    | 5 =>
      obtain ⟨cC, iS, h⟩ := u_known (C := RX5) (T := TX5) (N := znf 5) (n := znf 5) hts zlw_5 (hts _ wi_5)
      exact ⟨(cC, iS), fun q hq => by rw [zcl5.1] at hq; cases hq; exact h⟩
    | 6 =>
      obtain ⟨cC, iS, h⟩ := u_known (C := RX6) (T := TX6) (N := znf 6) (n := znf 6) hts zlw_6 (hts _ wi_6)
      exact ⟨(cC, iS), fun q hq => by rw [zcl6.1] at hq; cases hq; exact h⟩
    | 7 =>
      obtain ⟨cC, iS, h⟩ := u_known (C := RX7) (T := TX7) (N := znf 7) (n := znf 7) hts zlw_7 (hts _ wi_7)
      exact ⟨(cC, iS), fun q hq => by rw [zcl7.1] at hq; cases hq; exact h⟩
    | 8 =>
      obtain ⟨cC, iS, h⟩ := u_known (C := RX8) (T := TX8) (N := znf 8) (n := znf 8) hts zlw_8 (hts _ wi_8)
      exact ⟨(cC, iS), fun q hq => by rw [zcl8.1] at hq; cases hq; exact h⟩
    | 9 =>
      obtain ⟨cC, iS, h⟩ := u_known (C := RX9) (T := TX9) (N := znf 9) (n := znf 9) hts zlw_9 (hts _ wi_9)
      exact ⟨(cC, iS), fun q hq => by rw [zcl9.1] at hq; cases hq; exact h⟩
    | 10 =>
      obtain ⟨cC, iS, h⟩ := u_known (C := RX10) (T := TX10) (N := znf 10) (n := znf 10) hts zlw_10 (hts _ wi_10)
      exact ⟨(cC, iS), fun q hq => by rw [zcl10.1] at hq; cases hq; exact h⟩
    | 11 =>
      obtain ⟨cC, iS, h⟩ := u_known (C := RX11) (T := TX11) (N := znf 11) (n := znf 11) hts zlw_11 (hts _ wi_11)
      exact ⟨(cC, iS), fun q hq => by rw [zcl11.1] at hq; cases hq; exact h⟩
    | k + 12 => exact ⟨(0, fun _ => 0), fun q hq => by simp [vwCl] at hq⟩
  obtain ⟨f, hf⟩ := Classical.axiomOfChoice h0
  exact ⟨(fun k => (f k).1, fun k => (f k).2), hf⟩
theorem z_arr {s : State} {b : Nat} (hts : ∀ w ∈ lw_tbl, w.before #[Value.ref b] s = true) : ∃ a : ClassId × ClassId × ClassId, ∀ (k : Nat) (q : ClassId × FieldType), ([(a.1, .int), (a.2.1, .boolean), (a.2.2, .object RX1)] : List (ClassId × FieldType))[k]? = some q → ArrOfT s q.1 q.2 ∧ va_RA s q.1 q.2 := by
  obtain ⟨c1, k1, m1, f1, g1, e1⟩ := Cond.arrayClass_spec (zt_of hts _ wa_int)
  obtain ⟨c2, k2, m2, f2, g2, e2⟩ := Cond.arrayClass_spec (zt_of hts _ wa_bool)
  obtain ⟨m3, c3, k3, f3, -, g3, e3, j3⟩ := Cond.arrayOver_spec (hts _ lw_ao)
  refine ⟨(c1, c2, c3), fun k q hq => ?_⟩
  match k, hq with
  | 0, hq => cases hq; exact ⟨fun N z => ⟨fun k h => (by cases h), k1, g1, m1, e1⟩, f1⟩
  | 1, hq => cases hq; exact ⟨fun N z => ⟨fun k h => (by cases h), k2, g2, m2, e2⟩, f2⟩
  | 2, hq => cases hq; exact ⟨fun N z => ⟨fun k h => (by cases h), k3, g3, m3, e3⟩, k3, m3, g3, e3, f3, j3⟩
  | k + 3, hq => simp at hq
/-- addresses: strings and their bytes below 0, cells from base on -/
def zgb (adK adV : Nat → Nat) (t : Nat) (a : ClassId × ClassId × ClassId) (base : Nat) : zG := (fun r => if r = -20 then t else if r ≤ -10 then adV (-10 - r).toNat else if r < 0 then adK (-2 - r).toNat else base + r.toNat, a)
theorem zgb_K (adK adV : Nat → Nat) (t : Nat) (a : ClassId × ClassId × ClassId) (base i : Nat) (h : i < 8) : (zgb adK adV t a base).1 (-2 - (i : Int)) = adK i := by
  show (if _ then _ else _) = _
  rw [if_neg (by omega), if_neg (by omega), if_pos (by omega), show (-2 - (-2 - (i : Int))).toNat = i by omega]
theorem zgb_V (adK adV : Nat → Nat) (t : Nat) (a : ClassId × ClassId × ClassId) (base i : Nat) (h : i < 8) : (zgb adK adV t a base).1 (-10 - (i : Int)) = adV i := by
  show (if _ then _ else _) = _
  rw [if_neg (by omega), if_pos (by omega), show (-10 - (-10 - (i : Int))).toNat = i by omega]
theorem zgb_n (adK adV : Nat → Nat) (t : Nat) (a : ClassId × ClassId × ClassId) (base c : Nat) : (zgb adK adV t a base).1 (c : Int) = base + c := by
  unfold zgb
  dsimp only
  split
  · omega
  · split
    · omega
    · split
      · omega
      · rfl
theorem z_fx {p : Program} {s : State} {m : MethodId} {meth : Method} {c : Code} {b L : Nat} {xs : Nat → Int32} (C0 : lw_At p s m meth c b L xs) : ∃ (D : va_G) (gb : Nat → zG), (∀ base, zFx D s (gb base)) ∧ ∀ base k : Nat, (gb base).1 (k : Int) = base + k := by
  obtain ⟨hx, hb, hr, hml, hown, hts, hX, hbl, hlocks, hgv⟩ := id C0
  have hs : ∀ c ∈ nlC, c.before #[Value.ref b] s = true := flat_of_before _ hgv
  have hA : ∀ a : Nat, a < s.heap.size → ¬ zA s a := fun a h => Nat.not_le.mpr h
  obtain ⟨D, hD⟩ := z_cls (zt_of hts)
  obtain ⟨ca, hca⟩ := z_arr hts
  obtain ⟨adK, adV, hS, hE⟩ := vk_Sof (args := #[Value.ref b]) (s := s) (N := 5) (tm := tmS) (len := zlen) (byt := zbyt) (A := zA s) (fun i hi => Nat.lt_of_lt_of_le (zln_b i hi) (by decide)) (fun i hi => hs _ (n_ex i hi)) (fun i hi => hs _ (n_co i hi)) (fun i hi => hs _ (n_ar i hi)) (fun i hi => hs _ (n_le i hi)) (fun i hi j hj => hs _ (n_el i hi j hj)) (fun i j hi hj hij => (n_ne i j hi hj hij).imp (hs _) (hs _)) hA
  have hZ1 := va_Zof (A := zA s) (hts _ lw_ls1) (hts _ lw_in1) (va_eqt (hs _ n_cs)) hA
  have hZ2 := va_Zqof (A := zA s) (hts _ lw_ls2) (hts _ lw_in2) (hs _ n_fm) hA
  obtain ⟨t, hZ3⟩ : ∃ t : Nat, va_Z "jdk/internal/util/Preconditions" "SIOOBE_FORMATTER" "Ljava/util/function/BiFunction;" .null (zA s) s s.heap ∨ va_Z "jdk/internal/util/Preconditions" "SIOOBE_FORMATTER" "Ljava/util/function/BiFunction;" (.ref t) (zA s) s s.heap := by
    rcases hZ2 with h | ⟨t, h⟩
    · exact ⟨0, Or.inl h⟩
    · exact ⟨t, Or.inr h⟩
  refine ⟨D, zgb adK adV t ca, fun base => ⟨⟨hD, hca⟩, ?_⟩, fun base k => zgb_n adK adV t ca base k⟩
  refine ⟨⟨fun i hi => ?_, fun i j hi hj he => ?_⟩, hZ1, fun q hq => ?_, fun q hq => ?_, va_AO.of (hts _ lw_ao), ?_⟩
  · dsimp only
    rw [zgb_K adK adV t ca base i (by omega), zgb_V adK adV t ca base i (by omega)]; exact hS.1 i hi
  · dsimp only at he
    rw [zgb_K adK adV t ca base i (by omega), zgb_K adK adV t ca base j (by omega)] at he; exact hS.2 i j hi hj he
  · unfold zsc at hq
    simp only [List.mem_cons, List.mem_nil_iff, or_false] at hq
    rcases hq with rfl | rfl | rfl | rfl | rfl
    · exact vk_R.of (hts _ lw_sr0) (by rw [show (zgb adK adV t ca base).1 (-2 - ((0 : Nat) : Int)) = adK 0 from zgb_K adK adV t ca base 0 (by decide)]; exact hE 0 (by decide))
    · exact vk_R.of (hts _ lw_sr1) (by rw [show (zgb adK adV t ca base).1 (-2 - ((1 : Nat) : Int)) = adK 1 from zgb_K adK adV t ca base 1 (by decide)]; exact hE 1 (by decide))
    · exact vk_R.of (hts _ lw_sr2) (by rw [show (zgb adK adV t ca base).1 (-2 - ((2 : Nat) : Int)) = adK 2 from zgb_K adK adV t ca base 2 (by decide)]; exact hE 2 (by decide))
    · exact vk_R.of (hts _ lw_sr3) (by rw [show (zgb adK adV t ca base).1 (-2 - ((3 : Nat) : Int)) = adK 3 from zgb_K adK adV t ca base 3 (by decide)]; exact hE 3 (by decide))
    · exact vk_R.of (hts _ lw_sr4) (by rw [show (zgb adK adV t ca base).1 (-2 - ((4 : Nat) : Int)) = adK 4 from zgb_K adK adV t ca base 4 (by decide)]; exact hE 4 (by decide))
  · unfold znl at hq
    simp only [List.mem_cons, List.mem_nil_iff, or_false] at hq
    rcases hq with rfl | rfl | rfl | rfl | rfl | rfl | rfl | rfl | rfl | rfl | rfl | rfl | rfl | rfl | rfl
    · exact va_Nw.of rfl (hts _ lw_nl0)
    · exact va_Nw.of rfl (hts _ lw_nl1)
    · exact va_Nw.of rfl (hts _ lw_nl2)
    · exact va_Nw.of rfl (hts _ lw_nl3)
    · exact va_Nw.of rfl (hts _ lw_nl4)
    · exact va_Nw.of rfl (hts _ lw_nl5)
    · exact va_Nw.of rfl (hts _ lw_nl6)
    · exact va_Nw.of rfl (hts _ lw_nl7)
    · exact va_Nw.of rfl (hts _ lw_nl8)
    · exact va_Nw.of rfl (hts _ lw_nl9)
    · exact va_Nw.of rfl (hts _ lw_nl10)
    · exact va_Nw.of rfl (hts _ lw_nl11)
    · exact va_Nw.of rfl (hts _ lw_nl12)
    · exact va_Nw.of rfl (hts _ lw_nl13)
    · exact va_Nw.of rfl (hts _ lw_nl14)
  · rw [show (zgb adK adV t ca base).1 (-20) = t from rfl]; exact hZ3
/-! memories are made good: slots that nobody sees -/
theorem zw_nat {sh : zSh} {g : zG} {h h' : zM} (e1 : h'.1 = h.1) (ag : ∀ c k : Nat, h'.2 c k = h.2 c k) : zw sh g h' = zw sh g h := by
  unfold zw
  rw [e1]
  apply List.map_congr_left
  intro c _
  congr 1
  unfold zc
  have ef : (fun (k : Nat) => h'.2 c k) = fun (k : Nat) => h.2 c k := funext fun k => ag c k
  cases hs : sh c with
  | inl ci =>
    dsimp only
    congr 2
    apply List.map_congr_left
    intro k _
    rw [ag c k]
  | inr q =>
    obtain ⟨a, n⟩ := q
    match a with
    | 0 => dsimp only; congr 4; funext k; rw [ag c k]
    | 1 => dsimp only; congr 4; funext k; rw [ag c k]
    | a + 2 =>
      have e3 : (fun (j : Nat) => zo g.1 (h'.2 c j)) = fun (j : Nat) => zo g.1 (h.2 c j) := funext fun j => by rw [ag c j]
      dsimp only
      rw [e3]
theorem zD_ad {sh : zSh} {g : zG} {A : Nat → Prop} {h h' : zM} (e1 : h'.1 = h.1) (hD : va_D A (zw sh g h)) : va_D A (zw sh g h') := by
  have at_ : ∀ (i : Nat) (q : Nat × va_E), (zw sh g h')[i]? = some q → (zw sh g h)[i]? = some (q.1, zc sh g h i) := by
    intro i q hq
    have hi : i < h'.1 := by
      rcases Nat.lt_or_ge i h'.1 with z | z
      · exact z
      · rw [zw_out sh g h' z] at hq; cases hq
    rw [zw_at sh g h' hi] at hq
    cases hq
    exact zw_at sh g h (by omega)
  exact ⟨fun i j p q hp hq he => hD.1 i j _ _ (at_ i p hp) (at_ j q hq) he, fun k q hq => hD.2 k (q.1, zc sh g h k) (at_ k q hq)⟩
theorem zP_114 {g : zG} {D : va_G} {h h' : zM} {H : Heap} (e1 : h'.1 = h.1) (ag : ∀ c k : Nat, ¬ (c = 114 ∧ 6 ≤ k) → h'.2 c k = h.2 c k) (hP : va_P D vwCl (zw shC g h) H) : va_P D vwCl (zw shC g h') H := by
  intro i q hq
  have hi : i < h'.1 := by
    rcases Nat.lt_or_ge i h'.1 with z | z
    · exact z
    · rw [zw_out shC g h' z] at hq; cases hq
  rw [zw_at shC g h' hi] at hq
  cases hq
  have h0 := hP i _ (zw_at shC g h (by omega))
  by_cases z : i = 114
  · subst z
    have hs : shC ((114 : Nat) : Int) = .inr (2, 6) := by decide +kernel
    rw [zc_ra hs] at h0 ⊢
    have h0 : H[g.1 ((114 : Nat) : Int)]? = some (vp_cell _ _) := h0
    show H[g.1 ((114 : Nat) : Int)]? = some (vp_cell _ _)
    rw [h0, vp_cell_q, vp_cell_q]
    unfold arrV
    have ef : (fun (j : Fin 6) => (fun (j : Nat) => va_rf (zo g.1 (h.2 ((114 : Nat) : Int) j))) j.val) = fun (j : Fin 6) => (fun (j : Nat) => va_rf (zo g.1 (h'.2 ((114 : Nat) : Int) j))) j.val := by
      funext j
      have hj := j.2
      show va_rf (zo g.1 (h.2 ((114 : Nat) : Int) j.val)) = va_rf (zo g.1 (h'.2 ((114 : Nat) : Int) j.val))
      rw [ag 114 j.1 (by omega)]
    rw [ef]
  · have ez : zc shC g h' (i : Int) = zc shC g h (i : Int) := by
      have e2 := zw_nat (sh := shC) (g := g) (h := (h.1, fun a b => if a = i then h.2 a b else 0)) (h' := (h.1, fun a b => if a = i then h'.2 a b else 0)) rfl (fun c k => by
        show (if (c : Int) = i then h'.2 c k else 0) = (if (c : Int) = i then h.2 c k else 0)
        by_cases y : (c : Int) = i
        · rw [if_pos y, if_pos y, ag c k (by omega)]
        · rw [if_neg y, if_neg y])
      have e3 := congrArg (fun l => l[i]?) e2
      rw [zw_at shC g (h.1, fun a b => if a = (i : Int) then h'.2 a b else 0) (show i < h.1 by omega), zw_at shC g (h.1, fun a b => if a = (i : Int) then h.2 a b else 0) (show i < h.1 by omega)] at e3
      have e4 := congrArg (fun q => q.map Prod.snd) e3
      have e4 : zc shC g (h.1, fun a b => if a = i then h'.2 a b else 0) (i : Int) = zc shC g (h.1, fun a b => if a = i then h.2 a b else 0) (i : Int) := Option.some.inj e4
      rw [← zc_cong (sh := shC) (g := g) (h := h') (h' := (h.1, fun a b => if a = i then h'.2 a b else 0)) (c := (i : Int)) (fun k => if_pos rfl), ← zc_cong (sh := shC) (g := g) (h := h) (h' := (h.1, fun a b => if a = i then h.2 a b else 0)) (c := (i : Int)) (fun k => if_pos rfl)]
      exact e4
    rw [ez]; exact h0
def zNC (h : zM) : zM := (h.1, fun a b => if a = 114 ∧ 6 ≤ b then 116 else if 140 ≤ a then 0 else h.2 a.toNat b.toNat)
theorem PC_nat {a b v : Int} (h : PC a (b.toNat : Int) v) : PC a b v := by
  unfold PC PK tK at h ⊢
  unfold zbo at h ⊢
  cases hq : tKl.getD (kC a) (.inr (-2147483648, 2147483647)) with
  | inl q => rw [hq] at h; dsimp only at h ⊢; rw [Int.toNat_natCast] at h; exact h
  | inr q => rw [hq] at h; exact h
theorem k10_f : ∀ n : Nat, n < 11 → ∀ q, tKl.getD 10 (.inr (-2147483648, 2147483647)) = .inl q → (q.getD n (false, -2147483648, 2147483647)).1 = false := by
  intro n hn q hq
  cases hq
  match n, hn with
  | 0, _ => rfl
  | 1, _ => rfl
  | 2, _ => rfl
  | 3, _ => rfl
  | 4, _ => rfl
  | 5, _ => rfl
  | 6, _ => rfl
  | 7, _ => rfl
  | 8, _ => rfl
  | 9, _ => rfl
  | 10, _ => rfl
theorem PC_neg {a b v : Int} (ha : a < 0) (h : PC 0 b v) : PC a b v := by
  have ek : kC a = 10 := by unfold kC; rw [show a.toNat = 0 by omega]; rfl
  have e0 : kC 0 = 10 := rfl
  unfold PC PK tK at h ⊢
  rw [ek]; rw [e0] at h
  have hq : ∃ q, tKl.getD 10 (.inr (-2147483648, 2147483647)) = .inl q ∧ q.length = 11 := ⟨_, rfl, rfl⟩
  obtain ⟨q, hq, hl⟩ := hq
  rw [hq] at h ⊢
  have hf : (q.getD b.toNat (false, -2147483648, 2147483647)).1 = false := by
    by_cases z : b.toNat < 11
    · exact k10_f b.toNat z q hq
    · rw [List.getD_eq_getElem?_getD, List.getElem?_eq_none (by omega)]; rfl
  unfold zbo at h ⊢
  dsimp only at h ⊢
  generalize q.getD b.toNat (false, -2147483648, 2147483647) = r at h hf ⊢
  obtain ⟨f, lo, hi⟩ := r
  have hf : f = false := hf
  subst hf
  exact h
theorem PC_far {a b : Int} (ha : 140 ≤ a) : PC a b 0 := by
  by_cases z : a = 140
  · rw [z]; exact pa_140 (by decide) b
  · have ek : kC a = 99 := by
      unfold kC
      rw [List.getD_eq_getElem?_getD, List.getElem?_eq_none (show kCl.length ≤ a.toNat from Nat.le_trans (by decide +kernel : kCl.length ≤ 141) (by omega))]; rfl
    exact PC_k ek (show (-2147483648 : Int) ≤ 0 ∧ (0 : Int) ≤ 2147483647 by decide)
theorem okC_start {h : zM} (r : zRc 6 h) : okC (zNC h) := by
  obtain ⟨r1, r2, r3, r4⟩ := r
  have r2 := fun a b z1 z2 z3 z4 => (r2 a b z1 z2 z3 z4).1
  have hn : h.1 = 140 := by omega
  have e2 : ∀ a b, (zNC h).2 a b = if a = 114 ∧ 6 ≤ b then 116 else if 140 ≤ a then 0 else h.2 a.toNat b.toNat := fun _ _ => rfl
  refine ⟨by show 140 ≤ h.1; omega, fun a b => ?_, fun b q1 q2 => ?_, Or.inl ⟨?_, hn⟩⟩
  · rw [e2]
    by_cases z : a = 114
    · subst z
      show 116 ≤ _ ∧ _ ≤ (136 : Int)
      by_cases y : 6 ≤ b
      · rw [if_pos ⟨rfl, y⟩]; decide
      · rw [if_neg (by omega), if_neg (by omega)]
        have := r3 (b.toNat : Int) (by omega) (by omega)
        show 116 ≤ h.2 114 (b.toNat : Int) ∧ h.2 114 (b.toNat : Int) ≤ 136
        omega
    · rw [if_neg (by omega)]
      by_cases y : 140 ≤ a
      · rw [if_pos y]; exact PC_far y
      · rw [if_neg y]
        apply PC_nat
        by_cases w : a < 0
        · apply PC_neg w
          rw [show a.toNat = 0 by omega]
          exact r2 0 (b.toNat : Int) (by decide) (by decide) (by omega) (by decide)
        · rw [show ((a.toNat : Nat) : Int) = a by omega]
          exact r2 a (b.toNat : Int) (by omega) (by omega) (by omega) z
  · rw [e2, if_neg (by omega), if_neg (by decide)]
    have := r3 b q1 q2
    rw [show ((114 : Int).toNat : Int) = 114 from rfl, show ((b.toNat : Nat) : Int) = b by omega]
    rw [this]; unfold zPast; omega
  · rw [e2, if_neg (by decide), if_neg (by decide)]; exact r4
theorem zNC_ag {h : zM} (hn : h.1 = 140) (c k : Nat) (hc : c < 140) (z : ¬ (c = 114 ∧ 6 ≤ k)) : (zNC h).2 c k = h.2 c k := by
  show (if (c : Int) = 114 ∧ 6 ≤ (k : Int) then 116 else if 140 ≤ (c : Int) then 0 else h.2 (c : Int).toNat (k : Int).toNat) = _
  rw [if_neg (by omega), if_neg (by omega), Int.toNat_natCast, Int.toNat_natCast]
def zNM (h : zM) : zM := (h.1, fun a b => if a = 0 then h.2 0 b.toNat else h.2 a b)
def mB0 (n : Nat) : Bool := decide ((tM0.getD n (-2147483648, 2147483647)).1 ≤ zMl.getD n 0) && decide (zMl.getD n 0 ≤ (tM0.getD n (-2147483648, 2147483647)).2)
theorem mB0_all : ∀ n : Nat, n < 62 → mB0 n = true := by decide +kernel
def mB1 (n : Nat) : Bool := decide ((tMl.getD n (-2147483648, 2147483647)).1 ≤ 0) && decide (0 ≤ (tMl.getD n (-2147483648, 2147483647)).2)
theorem mB1_all : ∀ n : Nat, n < 36 → mB1 n = true := by decide +kernel
theorem okM_start {h : zM} (q : zMc 36 zMl h) (w : h.2 8 149 = 32) : okM (zNM h) := by
  obtain ⟨q1, q2, q3, q4⟩ := q
  have e0 : ∀ b, (zNM h).2 0 b = zMl.getD b.toNat 0 := fun b => by show (if (0 : Int) = 0 then h.2 0 b.toNat else h.2 0 b) = _; rw [if_pos rfl]; exact q4 b.toNat
  have e1 : ∀ a b, ¬ a = 0 → (zNM h).2 a b = h.2 a b := fun a b z => if_neg z
  have ez : ∀ a b, ¬ a = 0 → ¬ a = 8 → (zNM h).2 a b = 0 := fun a b z1 z2 => (e1 a b z1).trans (q2 a b z1 z2)
  refine ⟨by show h.1 = 36; omega, fun a b => ?_, fun a j z => ?_, ⟨fun k z1 z2 => ?_, fun j z1 z2 => ?_, fun l z1 z2 => ?_⟩, fun z => ?_, ?_⟩
  · by_cases z : a = 0
    · subst z
      rw [e0]
      show (tM0.getD b.toNat (-2147483648, 2147483647)).1 ≤ zMl.getD b.toNat 0 ∧ zMl.getD b.toNat 0 ≤ (tM0.getD b.toNat (-2147483648, 2147483647)).2
      by_cases y : b.toNat < 62
      · have := mB0_all b.toNat y
        unfold mB0 at this
        rw [Bool.and_eq_true] at this
        exact ⟨of_decide_eq_true this.1, of_decide_eq_true this.2⟩
      · rw [List.getD_eq_getElem?_getD, List.getD_eq_getElem?_getD, List.getElem?_eq_none (show tM0.length ≤ b.toNat from Nat.le_trans (by decide +kernel : tM0.length ≤ 62) (by omega)), List.getElem?_eq_none (show zMl.length ≤ b.toNat from Nat.le_trans (by decide +kernel : zMl.length ≤ 62) (by omega))]
        decide
    · unfold PM tM
      rw [if_neg z]
      by_cases y : a = 8
      · subst y
        rw [e1 8 b (by decide)]
        have := q3 b
        show -2147483648 ≤ _ ∧ _ ≤ (2147483647 : Int)
        omega
      · rw [ez a b z y]
        by_cases x : a.toNat < 36
        · have := mB1_all a.toNat x
          unfold mB1 at this
          rw [Bool.and_eq_true] at this
          exact ⟨of_decide_eq_true this.1, of_decide_eq_true this.2⟩
        · rw [List.getD_eq_getElem?_getD, List.getElem?_eq_none (show tMl.length ≤ a.toNat from Nat.le_trans (by decide +kernel : tMl.length ≤ 36) (by omega))]
          decide
  · rw [ez a j (by omega) (by omega)]; decide
  · rw [e0] at z2
    have : zMl.getD (42 : Int).toNat 0 = 0 := rfl
    omega
  · rw [ez 18 _ (by decide) (by decide), ez 18 _ (by decide) (by decide)]; intro _; decide
  · rw [ez 9 0 (by decide) (by decide)] at z2; omega
  · rw [e0] at z
    exact absurd z (by decide)
  · show (zNM h).2 8 149 = 32
    rw [e1 8 149 (by decide)]; exact w
theorem zM_new {h : zM} (e : h = znew (0, fun _ _ => 0) (zdf 11)) : zMc 1 [0, (-1), (-1), 0, (-1), 0, 0, (-1), (-1), (-1), (-1), 0, 0, 0, 0, 0, (-1), (-1), (-1), (-1), (-1), (-1), (-1), (-1), 0, 0, 0, (-1), 0, 0, 0, 0, 0, 0, (-1), 0, (-1), 0, (-1), (-1), (-1), (-1), 0, (-1), (-1), 0, (-1), (-1), (-1), 0, (-1), (-1), (-1), 0, (-1), (-1), (-1), (-1), 0, 0, 0, (-1)] h := by
  subst e
  refine ⟨rfl, fun a b z1 z2 => znew_n (by simpa using z1), fun b => ?_, fun i => ?_⟩
  · rw [znew_n (by decide)]; show (0 : Int) ≤ 0 ∧ (0 : Int) ≤ 255; decide
  · have e1 : (znew (0, fun _ _ => 0) (zdf 11)).2 0 (i : Int) = zdf 11 i := znew_s (h := (0, fun _ _ => 0))
    rw [e1]
    unfold zdf
    rw [Int.toNat_natCast]
    by_cases z : i < 62
    · have hb : ∀ n : Nat, n < 62 → (if zfk 11 n = 2 then (-1 : Int) else 0) = ([0, (-1), (-1), 0, (-1), 0, 0, (-1), (-1), (-1), (-1), 0, 0, 0, 0, 0, (-1), (-1), (-1), (-1), (-1), (-1), (-1), (-1), 0, 0, 0, (-1), 0, 0, 0, 0, 0, 0, (-1), 0, (-1), 0, (-1), (-1), (-1), (-1), 0, (-1), (-1), 0, (-1), (-1), (-1), 0, (-1), (-1), (-1), 0, (-1), (-1), (-1), (-1), 0, 0, 0, (-1)] : List Int).getD n 0 := by decide +kernel
      exact hb i z
    · have h1 : zfk 11 i = 0 := by
        unfold zfk
        rw [List.getD_eq_getElem?_getD, List.getElem?_eq_none (show (zfkL.getD 11 []).length ≤ i from Nat.le_trans (by decide +kernel : (zfkL.getD 11 []).length ≤ 62) (by omega))]; rfl
      rw [h1, if_neg (by decide), List.getD_eq_getElem?_getD, List.getElem?_eq_none (show ([0, (-1), (-1), 0, (-1), 0, 0, (-1), (-1), (-1), (-1), 0, 0, 0, 0, 0, (-1), (-1), (-1), (-1), (-1), (-1), (-1), (-1), 0, 0, 0, (-1), 0, 0, 0, 0, 0, 0, (-1), 0, (-1), 0, (-1), (-1), (-1), (-1), 0, (-1), (-1), 0, (-1), (-1), (-1), 0, (-1), (-1), (-1), 0, (-1), (-1), (-1), (-1), 0, 0, 0, (-1)] : List Int).length ≤ i from Nat.le_trans (Nat.le_of_ble_eq_true rfl : ([0, (-1), (-1), 0, (-1), 0, 0, (-1), (-1), (-1), (-1), 0, 0, 0, 0, 0, (-1), (-1), (-1), (-1), (-1), (-1), (-1), (-1), 0, 0, 0, (-1), 0, 0, 0, 0, 0, 0, (-1), 0, (-1), 0, (-1), (-1), (-1), (-1), 0, (-1), (-1), 0, (-1), (-1), (-1), 0, (-1), (-1), (-1), 0, (-1), (-1), (-1), (-1), 0, 0, 0, (-1)] : List Int).length ≤ 62) (by omega))]; rfl
section ZL2
variable {p : Program} {l : Launch} {e : Env} {s : State} {m : MethodId} {below : List Frame} {meth : Method} {c : Code} {b L : Nat} {xs : Nat → Int32} {u1 u2 pc : Nat}
theorem z2_new {sh : zSh} (C0 : lw_At p s m meth c b L xs) {D : va_G} {g : zG} {h : zM} {H : Heap} {locs : List Loc} {ls : Array Slot} {Qf : State → Prop} (F1 : zFx D s g) (I : zI sh D g (zA s) s.heap h H locs) {ci idx : Nat} {C : String} {T : u_T} {ty : Nat → FieldType} (hd : decode code pc = .ok (.new idx, 3)) (hcl : zCl ci C T ty) (w1 : Cond.classLink RL idx C ∈ zt) (w2 : Cond.instantiable C (znf ci) ∈ zt) (w3 : Cond.initialized C ∈ zt) (hs : sh (h.1 : Int) = .inl ci) (hu : u1 + 1 ≤ room_1.cells ∧ u2 + znf ci ≤ room_1.slots) {rest : List Value} (kk : ∀ H1 : Heap, zI sh D g (zA s) s.heap (znew h (zdf ci)) H1 locs → H1.size = H.size + 1 → (∀ q, q < H.size → H1[q]? = H[q]?) → W p l e room_1 s m #[Value.ref b] below meth c H1 locs (u1 + 1) (u2 + znf ci) Qf (F0 m (pc + 3) ls (.ref H.size :: rest))) : W p l e room_1 s m #[Value.ref b] below meth c H locs u1 u2 Qf (F0 m pc ls rest) := by
  obtain ⟨hx, hb, hr, hml, hown, hts0, hX, hbl, hlocks, hgv⟩ := id C0
  have hts := zt_of hts0
  have hK := F1.1
  obtain ⟨hP, hD, hS, hg⟩ := id I
  obtain ⟨q1, q2, q3, q4, q5⟩ := hcl
  have hKn := hK.1 ci _ q1
  refine W.newcK hx hb hown (hts _ w1) (hts _ w2) (hts _ w3) rfl hd hu.1 hu.2 hKn.2.1 rfl fun H1 kC hkC e1 z1 o1 => ?_
  have I1 : zI sh D g (zA s) s.heap (znew h (zdf ci)) H1 locs := by
    refine z_push (fun _ h => h) I z1 o1 ?_
    rw [zc_obj hs]
    refine ⟨_, q1, (u_born ty hts q2 hKn hkC e1 q3).to (fun j hj => ?_)⟩
    have hj : j < znf ci := hj
    show defaultValue (ty j) = vp_V _ j
    unfold vp_V
    rw [List.getD_eq_getElem?_getD, zfs_at hj, znew_s]
    have h5 := q5 j hj
    show _ = zfv g.1 ci j (if zfk ci (j : Int).toNat = 2 then -1 else 0)
    rw [Int.toNat_natCast]
    unfold zfv
    by_cases hk2 : zfk ci j = 2
    · rw [if_pos hk2, if_pos hk2]
      rw [hk2] at h5
      exact h5.1
    · rw [if_neg hk2, if_neg hk2]
      have h6 : zfk ci j = 0 ∨ zfk ci j = 1 := z_fk ci j hk2
      rcases h6 with h6 | h6
      · rw [h6] at h5
        have h5 : ty j = .int := h5
        rw [h5]
        rfl
      · rw [h6] at h5
        have h5 : ty j = .boolean := h5
        rw [h5]
        rfl
  exact kk H1 I1 z1 o1
end ZL2
/-! ===== both worlds at their start ===== -/
def fE0 : fE := fun _ _ => 0
def fX0 : fS := (fun _ => 0, fun _ => 0)
def fZs : fZ := (fE0, fX0, 0, fun _ _ => 0, 0, fE0, fX0)
theorem fWE_0 : fWE fE0 := by
  refine ⟨?_, fun i p q => ?_, fun i p q => ⟨?_, fun k _ => fgb_0 k⟩, ⟨?_, ?_, fun l p q => ?_⟩, ⟨?_, fun l p q => ?_⟩, ⟨?_, fun l p q => ?_⟩⟩
  · show (0 : Int) ≤ 0 ∧ (0 : Int) ≤ 18; decide
  · show ((0 : Int) ≤ 0 ∧ (0 : Int) ≤ 200) ∧ ((0 : Int) ≤ 0 ∧ (0 : Int) ≤ 9); decide
  · show (0 : Int) ≤ 0 ∧ (0 : Int) < 262144; decide
  · show (0 : Int) ≤ 0 ∧ (0 : Int) ≤ 16; decide
  · show (0 : Int) ≤ 0 ∧ (0 : Int) ≤ 400; decide
  · have q' : l < (0 : Int) := q; exact absurd p (by omega)
  · show (0 : Int) ≤ 0 ∧ (0 : Int) ≤ 16; decide
  · have q' : l < (0 : Int) := q; exact absurd p (by omega)
  · show (0 : Int) ≤ 0 ∧ (0 : Int) ≤ 16; decide
  · have q' : l < (0 : Int) := q; exact absurd p (by omega)
theorem fWx_0 : fWx (fun _ => 0) := ⟨by decide, by decide, fun i _ _ => Or.inl rfl, Or.inl rfl⟩
theorem zRF_start {h hm : zM} (rc : zRc 6 h) (q : zMc 36 zMl hm) (wk : zWk 150 hm) : zRF 0 (zNC h) (zNM hm) := by
  have hn : h.1 = 140 := by have := rc.1; omega
  have c : ∀ (a b : Int), 0 ≤ a → a < 114 → 0 ≤ b → (zNC h).2 a b = h.2 a b := fun a b z1 z2 z3 => by
    have w := zNC_ag hn a.toNat b.toNat (by omega) (by omega)
    rw [show ((a.toNat : Nat) : Int) = a by omega, show ((b.toNat : Nat) : Int) = b by omega] at w
    exact w
  have i : ∀ (a b : Int), 0 ≤ a → a < 114 → 0 ≤ b → PI a b (h.2 a b) := fun a b z1 z2 z3 => (rc.2.1 a b z1 (by omega) z3 (by omega)).2
  have e0 : ∀ b, (zNM hm).2 0 b = zMl.getD b.toNat 0 := fun b => by show (if (0 : Int) = 0 then hm.2 0 b.toNat else hm.2 0 b) = _; rw [if_pos rfl]; exact q.2.2.2 b.toNat
  have e1 : ∀ a b, ¬ a = 0 → ¬ a = 8 → (zNM hm).2 a b = 0 := fun a b z z8 => (if_neg z : (zNM hm).2 a b = hm.2 a b).trans (q.2.1 a b z z8)
  have f : ∀ (b v : Int), 0 ≤ b → PI 2 b (h.2 2 b) → True := fun _ _ _ _ => trivial
  have d2 : ∀ b v : Int, 0 ≤ b → h.2 2 b = v → (zNC h).2 2 b = v := fun b v z w => (c 2 b (by decide) (by decide) z).trans w
  have x3 : (zNC h).2 2 3 = 0 := d2 3 0 (by decide) (zeq (i 2 3 (by decide) (by decide) (by decide)))
  have x4 : (zNC h).2 2 4 = 0 := d2 4 0 (by decide) (zeq (i 2 4 (by decide) (by decide) (by decide)))
  have x5 : (zNC h).2 2 5 = 0 := d2 5 0 (by decide) (zeq (i 2 5 (by decide) (by decide) (by decide)))
  have x6 : (zNC h).2 2 6 = 0 := d2 6 0 (by decide) (zeq (i 2 6 (by decide) (by decide) (by decide)))
  have x7 : (zNC h).2 2 7 = 0 := d2 7 0 (by decide) (zeq (i 2 7 (by decide) (by decide) (by decide)))
  have x8 : (zNC h).2 2 8 = 0 := d2 8 0 (by decide) (zeq (i 2 8 (by decide) (by decide) (by decide)))
  have x9 : (zNC h).2 2 9 = 0 := d2 9 0 (by decide) (zeq (i 2 9 (by decide) (by decide) (by decide)))
  have x10 : (zNC h).2 2 10 = 1 := d2 10 1 (by decide) (zeq (i 2 10 (by decide) (by decide) (by decide)))
  have x11 : (zNC h).2 2 11 = 0 := d2 11 0 (by decide) (zeq (i 2 11 (by decide) (by decide) (by decide)))
  have x12 : (zNC h).2 2 12 = 0 := d2 12 0 (by decide) (zeq (i 2 12 (by decide) (by decide) (by decide)))
  have x13 : (zNC h).2 2 13 = 0 := d2 13 0 (by decide) (zeq (i 2 13 (by decide) (by decide) (by decide)))
  have y3 : ∀ j, 0 ≤ j → (zNC h).2 3 j = 0 := fun j z => (c 3 j (by decide) (by decide) z).trans (zeq (a := 0) (i 3 j (by decide) (by decide) z))
  have y4 : ∀ j, 0 ≤ j → (zNC h).2 4 j = 0 := fun j z => (c 4 j (by decide) (by decide) z).trans (zeq (a := 0) (i 4 j (by decide) (by decide) z))
  have y5 : ∀ j, 0 ≤ j → (zNC h).2 5 j = 0 := fun j z => (c 5 j (by decide) (by decide) z).trans (zeq (a := 0) (i 5 j (by decide) (by decide) z))
  have y22 : ∀ j, 0 ≤ j → (zNC h).2 22 j = 0 := fun j z => (c 22 j (by decide) (by decide) z).trans (zeq (a := 0) (i 22 j (by decide) (by decide) z))
  have y24 : ∀ j, 0 ≤ j → (zNC h).2 24 j = 0 := fun j z => (c 24 j (by decide) (by decide) z).trans (zeq (a := 0) (i 24 j (by decide) (by decide) z))
  have y25 : ∀ j, 0 ≤ j → (zNC h).2 25 j = 0 := fun j z => (c 25 j (by decide) (by decide) z).trans (zeq (a := 0) (i 25 j (by decide) (by decide) z))
  have y26 : ∀ j, 0 ≤ j → (zNC h).2 26 j = 0 := fun j z => (c 26 j (by decide) (by decide) z).trans (zeq (a := 0) (i 26 j (by decide) (by decide) z))
  have y27 : ∀ j, 0 ≤ j → (zNC h).2 27 j = 0 := fun j z => (c 27 j (by decide) (by decide) z).trans (zeq (a := 0) (i 27 j (by decide) (by decide) z))
  have m6 : (zNC h).2 6 6 = 0 := (c 6 6 (by decide) (by decide) (by decide)).trans (zeq (i 6 6 (by decide) (by decide) (by decide)))
  have m13 : (zNC h).2 13 3 = 0 := (c 13 3 (by decide) (by decide) (by decide)).trans (zeq (i 13 3 (by decide) (by decide) (by decide)))
  have m17 : (zNC h).2 17 3 = 0 := (c 17 3 (by decide) (by decide) (by decide)).trans (zeq (i 17 3 (by decide) (by decide) (by decide)))
  have m21 : (zNC h).2 21 1 = 0 := (c 21 1 (by decide) (by decide) (by decide)).trans (zeq (i 21 1 (by decide) (by decide) (by decide)))
  have m23 : (zNC h).2 23 4 = 0 := (c 23 4 (by decide) (by decide) (by decide)).trans (zeq (i 23 4 (by decide) (by decide) (by decide)))
  have u8 : (zNC h).2 0 8 = 0 := (c 0 8 (by decide) (by decide) (by decide)).trans (zeq (i 0 8 (by decide) (by decide) (by decide)))
  have u9 : (zNC h).2 0 9 = 0 := (c 0 9 (by decide) (by decide) (by decide)).trans (zeq (i 0 9 (by decide) (by decide) (by decide)))
  have c3 : (zNC h).2 103 3 = 0 := (c 103 3 (by decide) (by decide) (by decide)).trans (zeq (i 103 3 (by decide) (by decide) (by decide)))
  have c7 : (zNC h).2 103 7 = 0 := (c 103 7 (by decide) (by decide) (by decide)).trans (zeq (i 103 7 (by decide) (by decide) (by decide)))
  have c8 : (zNC h).2 103 8 = -1 := (c 103 8 (by decide) (by decide) (by decide)).trans (zeq (i 103 8 (by decide) (by decide) (by decide)))
  have p114 : ∀ j, 0 ≤ j → j < 6 → (zNC h).2 114 j = 116 + 4 * j := fun j a b => by
    have w := zNC_ag hn 114 j.toNat (by decide) (by omega)
    rw [show ((j.toNat : Nat) : Int) = j by omega] at w
    exact w.trans (rc.2.2.1 j a b)
  have k0 : fct (fun _ => true) 0 = 0 := rfl
  refine ⟨fZs, ⟨⟨fWE_0, fWx_0, ⟨x3, fun j _ => ?_, fun j _ => ?_, ?_, fun j a b => ⟨y3 j a, y4 j a, y5 j a⟩⟩, ⟨⟨m6, fun l a b => ?_, fun j a b => ?_⟩, ⟨m13, fun l a b => ?_⟩, ⟨m17, fun l a b => ?_⟩, ⟨m21, fun j a b => y22 j a⟩⟩, fun _ => ⟨m23, fun j a b => ⟨y24 j a, y25 j a, y26 j a, y27 j a⟩⟩⟩, ⟨⟨u8, by decide, by decide⟩, fun j k a b d => ?_, fun j a b => ?_⟩, u9, fun w => ?_⟩, ⟨⟨fWE_0, fWx_0, ⟨(e0 6).trans rfl, fun j a b => ⟨e1 4 j (by decide) (by decide), e1 5 j (by decide) (by decide), e1 19 j (by decide) (by decide)⟩, ⟨e1 9 0 (by decide) (by decide), fun l a b => ?_, fun j a b => ?_⟩, ⟨(e0 33).trans rfl, fun l a b => ?_⟩, ⟨(e0 35).trans rfl, fun l a b => ?_⟩, (e0 37).trans rfl⟩, fun k _ _ => e1 1 k (by decide) (by decide), fun k _ _ => e1 6 k (by decide) (by decide), ?_⟩, ⟨⟨(e0 3).trans rfl, by decide, by decide⟩, fun j k a b => ?_, fun j a b => ?_⟩, (e0 59).trans rfl, fun w => ?_⟩, ⟨⟨by decide, ?_⟩, fun j a b => ?_, fun w => ?_⟩, ?_⟩
  · show fgb ((zNC h).2 2 4) j = (decide ((j : Int) < 0) && decide ((0 : Int) = 0))
    rw [x4, fgb_0, decide_eq_false (by omega)]; rfl
  · show fgb ((zNC h).2 2 5) j = (decide ((j : Int) < 0) && decide ((0 : Int) = 1))
    rw [x5, fgb_0, decide_eq_false (by omega)]; rfl
  · exact ⟨x6, x7, x8, x9, x10, x11, x12, x13⟩
  · have b' : l < (0 : Int) := b; exact absurd a (by omega)
  · have b' : j < (0 : Int) := b; exact absurd a (by omega)
  · have b' : l < (0 : Int) := b; exact absurd a (by omega)
  · have b' : l < (0 : Int) := b; exact absurd a (by omega)
  · rw [p114 j a (by omega), p114 k (by omega) d]; omega
  · have b' : j < (0 : Int) := b; exact absurd a (by omega)
  · have w' : (0 : Int) = 1 := w; exact absurd w' (by decide)
  · have b' : l < (0 : Int) := b; exact absurd a (by omega)
  · have b' : j < (0 : Int) := b; exact absurd a (by omega)
  · have b' : l < (0 : Int) := b; exact absurd a (by omega)
  · have b' : l < (0 : Int) := b; exact absurd a (by omega)
  · have e5 : (zNM hm).2 0 5 = 0 := (e0 5).trans rfl
    rw [e5]
    exact ⟨fun z => absurd z (by decide), fun z => absurd z (by decide)⟩
  · have b' : j < (0 : Int) := b; exact absurd a (by omega)
  · have b' : j < (0 : Int) := b; exact absurd a (by omega)
  · have w' : (0 : Int) = 1 := w; exact absurd w' (by decide)
  · show -(10000 + 999 * 0 + 287712 * fMd 0) ≤ (0 : Int) ∧ (0 : Int) ≤ 10000 + 999 * 0 + 287712 * fMd 0
    have := fMd_f 0; omega
  · have b' : j < (0 : Int) := b; exact absurd a (by omega)
  · have w' : (0 : Int) = 1 := w; exact absurd w' (by decide)
  · refine ⟨c3.trans ((e0 11).trans rfl).symm, fun j a b => ?_, ⟨c7.trans ((e0 31).trans rfl).symm, c8.trans ((e0 32).trans rfl).symm⟩, fun k a b => ?_⟩
    · rw [c3] at b; exact absurd a (by omega)
    · have e : (zNM hm).2 8 k = hm.2 8 k := by
        show (if (8 : Int) = 0 then hm.2 8 k.toNat else hm.2 8 k) = _
        rw [if_neg (by decide)]
      rw [e]
      exact wk k a b

