def rmA (d mc ms : Nat) : Room := { frames := d, cells := mc, slots := ms, locals := 80 * d }
theorem PC_out {c b v : Int} {ci : Nat} {q : List (Bool × Int × Int)} (hk : kC c = ci) (ht : tKl.getD ci (.inr (-2147483648, 2147483647)) = .inl q) (hb : (q.length : Int) ≤ b) (hv : -1 ≤ v ∧ v ≤ 0) : PC c b v := by
  unfold PC PK tK
  rw [hk, ht]
  show (zb1 c (q.getD b.toNat (false, -2147483648, 2147483647))).1 ≤ v ∧ v ≤ (zb1 c (q.getD b.toNat (false, -2147483648, 2147483647))).2
  rw [List.getD_eq_getElem?_getD, List.getElem?_eq_none (by omega)]
  show -2147483648 ≤ v ∧ v ≤ 2147483647
  omega
def tIl : List (List (Bool × Int × Int) ⊕ (Int × Int)) := [.inl [(true, 1, 1), (true, 2, 2), (true, 3, 3), (true, 4, 4), (false, 0, 0)], .inl [(true, 1, 1), (true, 2, 2), (true, 3, 3), (false, 0, 0), (false, 0, 0), (false, 0, 0), (false, 0, 0), (false, 0, 0), (false, 0, 0), (false, 0, 0), (false, 1, 1), (false, 0, 0), (false, 0, 0), (false, 0, 0)], .inl [(true, 1, 1), (false, 0, 0)], .inl [(true, 1, 1), (true, 2, 2), (true, 3, 3), (true, 4, 4), (true, 5, 5), (true, 6, 6), (false, 0, 0), (false, 0, 0)], .inl [(true, 1, 1), (true, 2, 2), (true, 3, 3), (false, 0, 0)], .inl [(true, 1, 1), (true, 2, 2), (false, 0, 0), (true, 3, 3), (false, 0, 0), (true, 4, 4), (false, 0, 0), (true, 5, 5), (true, 6, 6), (false, 0, 0)], .inl [(true, 1, 1), (true, 2, 2), (true, 3, 3), (false, 0, 0), (false, 0, 0), (false, 0, 0), (false, 0, 0), (false, 0, 0), (false, (-1), (-1)), (false, 0, 0)], .inl [(false, 103, 103)], .inl [(true, 1, 1), (true, 2, 2), (true, 3, 3), (true, 4, 4), (true, 5, 5)], .inl [(true, 1, 1), (true, 5, 5), (true, 12, 12), (true, 16, 16), (true, 20, 20), (true, 22, 22), (true, 27, 27)], .inl [(false, 1, 1), (false, 35, 35), (false, 69, 69), (false, 103, 103), (false, 107, 107), (false, 108, 108), (false, 114, 114), (false, 115, 115), (false, 0, 0), (false, 0, 0), (false, -1, -1)], .inr (-2147483648, 2147483647), .inr (-2147483648, 2147483647), .inr (-2147483648, 2147483647), .inr (-2147483648, 2147483647), .inr (-2147483648, 2147483647), .inr (-2147483648, 2147483647), .inr (-2147483648, 2147483647), .inr (-2147483648, 2147483647), .inr (-2147483648, 2147483647), .inr (0, 0), .inr (0, 0), .inr (0, 0), .inr (0, 0), .inr (0, 0), .inr (0, 0), .inr (0, 0), .inr (0, 0), .inr (0, 0), .inr (0, 0), .inr (0, 0), .inr (0, 0), .inr (0, 0), .inr (0, 0), .inr (0, 0), .inr (0, 0), .inr (0, 0), .inr (0, 0), .inr (0, 0), .inr (0, 0), .inr (0, 0), .inr (0, 0), .inr (0, 0), .inr (0, 0), .inr (0, 0), .inr (0, 0), .inr (0, 0), .inr (0, 0), .inr (0, 0), .inr (0, 0), .inr (0, 0), .inr (0, 0), .inr (0, 0), .inr (0, 0)]
def tI (k : Nat) (c j : Int) : Int × Int := zbo (tIl.getD k (.inr (-2147483648, 2147483647))) c j
def PJ (k : Nat) (c j v : Int) : Prop := (tI k c j).1 ≤ v ∧ v ≤ (tI k c j).2
def PI (c j v : Int) : Prop := PJ (kC c) c j v
theorem PI_k {c j v : Int} {k : Nat} (hk : kC c = k) (h : PJ k c j v) : PI c j v := by unfold PI; rw [hk]; exact h
def PB (c j v : Int) : Prop := PC c j v ∧ PI c j v
theorem PB_k {c j v : Int} {k : Nat} (hk : kC c = k) (h : PK k c j v) (h2 : PJ k c j v) : PB c j v := ⟨PC_k hk h, PI_k hk h2⟩
theorem PI_out {c b v : Int} {ci : Nat} {q : List (Bool × Int × Int)} (hk : kC c = ci) (ht : tIl.getD ci (.inr (-2147483648, 2147483647)) = .inl q) (hb : (q.length : Int) ≤ b) (hv : -1 ≤ v ∧ v ≤ 0) : PI c b v := by
  unfold PI PJ tI
  rw [hk, ht]
  show (zb1 c (q.getD b.toNat (false, -2147483648, 2147483647))).1 ≤ v ∧ v ≤ (zb1 c (q.getD b.toNat (false, -2147483648, 2147483647))).2
  rw [List.getD_eq_getElem?_getD, List.getElem?_eq_none (by omega)]
  show -2147483648 ≤ v ∧ v ≤ 2147483647
  omega
def zCn (c k m : Int) (h H : zM) : Prop := (H.1 : Int) = c + k ∧ (∀ a b, a < c ∨ c + k ≤ a → H.2 a b = h.2 a b) ∧ (∀ a b, c < a → a < c + k → 0 ≤ b → ¬ a = 114 → PB a b (H.2 a b)) ∧ (∀ b, 0 ≤ b → b < m → PB c b (H.2 c b)) ∧ (∀ b, m ≤ b → H.2 c b = h.2 c b)
def zPo (c s : Int) (h H : zM) : Prop := (H.1 : Int) = c + s ∧ (∀ a b, a < c ∨ c + s ≤ a → H.2 a b = h.2 a b) ∧ (∀ a b, c ≤ a → a < c + s → 0 ≤ b → ¬ a = 114 → PB a b (H.2 a b))
theorem zCn_0 {c : Int} {h : zM} (hn : (h.1 : Int) = c + 1) : zCn c 1 0 h h := ⟨hn, fun _ _ _ => rfl, fun a b q1 q2 => absurd q1 (by omega), fun b q1 q2 => absurd q1 (by omega), fun _ _ => rfl⟩
theorem zCn_i {c k m m' v : Int} {h H H' : zM} (q : zCn c k m h H) (e : H' = zwr H c m v) (hp : PB c m v) (em : m' = m + 1) (hk : 1 ≤ k) : zCn c k m' h H' := by
  obtain ⟨q1, q2, q3, q4, q5⟩ := q
  subst e
  refine ⟨q1, fun a b z => ?_, fun a b z1 z2 z3 z4 => ?_, fun b z1 z2 => ?_, fun b z => ?_⟩
  · rw [zwr_n (by omega)]; exact q2 a b z
  · rw [zwr_n (by omega)]; exact q3 a b z1 z2 z3 z4
  · by_cases w : b = m
    · rw [w, zwr_s]; exact hp
    · rw [zwr_n (by omega)]; exact q4 b z1 (by omega)
  · rw [zwr_n (by omega)]; exact q5 b (by omega)
theorem zCn_a {c k m k' m' : Int} {h H H1 H2 : zM} {d : Int → Int} (q : zCn c k m h H) (e1 : H1 = znew H d) (e2 : H2 = zwr H1 c m H.1) (ha : c + k = 114 ∨ ∀ j, PB (c + k) j (d j)) (hp : PB c m (c + k)) (ek : k' = k + 1) (em : m' = m + 1) (hk : 1 ≤ k) : zCn c k' m' h H2 := by
  obtain ⟨q1, q2, q3, q4, q5⟩ := q
  subst e2; subst e1
  have en : ∀ a b, ¬ a = c + k → (znew H d).2 a b = H.2 a b := fun a b z => znew_n (by omega)
  have es : ∀ b, (znew H d).2 (c + k) b = d b := fun b => by rw [← q1]; exact znew_s
  refine ⟨by show ((H.1 + 1 : Nat) : Int) = _; omega, fun a b z => ?_, fun a b z1 z2 z3 z4 => ?_, fun b z1 z2 => ?_, fun b z => ?_⟩
  · rw [zwr_n (by omega), en a b (by omega)]; exact q2 a b (by omega)
  · rw [zwr_n (by omega)]
    by_cases w : a = c + k
    · rw [w, es]; exact (ha.resolve_left (by omega)) b
    · rw [en a b w]; exact q3 a b z1 (by omega) z3 z4
  · by_cases w : b = m
    · rw [w, zwr_s, q1]; exact hp
    · rw [zwr_n (by omega), en c b (by omega)]; exact q4 b z1 (by omega)
  · rw [zwr_n (by omega), en c b (by omega)]; exact q5 b (by omega)
theorem zCn_o {c k m k' m' s : Int} {h H H1 H2 H3 : zM} {d : Int → Int} (q : zCn c k m h H) (e1 : H1 = znew H d) (w : zPo (H.1 : Int) s H1 H2) (e3 : H3 = zwr H2 c m H.1) (hp : PB c m (c + k)) (ek : k' = k + s) (em : m' = m + 1) (hk : 1 ≤ k ∧ 1 ≤ s) : zCn c k' m' h H3 := by
  obtain ⟨q1, q2, q3, q4, q5⟩ := q
  obtain ⟨w1, w2, w3⟩ := w
  rw [q1] at w1 w2 w3 e3
  subst e3
  have en : ∀ a b, ¬ a = c + k → H1.2 a b = H.2 a b := fun a b z => by rw [e1]; exact znew_n (by omega)
  refine ⟨by show (H2.1 : Int) = _; omega, fun a b z => ?_, fun a b z1 z2 z3 z4 => ?_, fun b z1 z2 => ?_, fun b z => ?_⟩
  · rw [zwr_n (by omega), w2 a b (by omega), en a b (by omega)]; exact q2 a b (by omega)
  · rw [zwr_n (by omega)]
    by_cases x : a < c + k
    · rw [w2 a b (by omega), en a b (by omega)]; exact q3 a b z1 x z3 z4
    · exact w3 a b (by omega) (by omega) z3 z4
  · by_cases x : b = m
    · rw [x, zwr_s]; exact hp
    · rw [zwr_n (by omega), w2 c b (by omega), en c b (by omega)]; exact q4 b z1 (by omega)
  · rw [zwr_n (by omega), w2 c b (by omega), en c b (by omega)]; exact q5 b (by omega)
theorem zCn_e {c k m : Int} {h H : zM} (q : zCn c k m h H) (ho : ∀ b, m ≤ b → PB c b (h.2 c b)) (hm : 0 ≤ m) (hk : 1 ≤ k) : zPo c k h H := by
  obtain ⟨q1, q2, q3, q4, q5⟩ := q
  refine ⟨q1, q2, fun a b z1 z2 z3 z4 => ?_⟩
  by_cases w : a = c
  · subst w
    by_cases x : b < m
    · exact q4 b z3 x
    · rw [q5 b (by omega)]; exact ho b (by omega)
  · exact q3 a b (by omega) z2 z3 z4
theorem zdf_b (ci : Nat) (k : Int) : -1 ≤ zdf ci k ∧ zdf ci k ≤ 0 := by unfold zdf; split <;> omega

theorem wo_i : Cond.instanceMethod objectInit ∈ zt := zt_a1 28 rfl rfl
theorem wo_c : Cond.code objectInit ⟨#[0xb1]⟩ 1 none ∈ zt := zt_a1 29 rfl rfl
theorem wo_RX10 : Cond.methodLink RX10 1 objectInit ∈ zt := zt_a1 27 rfl rfl
theorem wo_RX9 : Cond.methodLink RX9 3 objectInit ∈ zt := zt_a1 35 rfl rfl
theorem wo_RX1 : Cond.methodLink RX1 3 objectInit ∈ zt := zt_a1 41 rfl rfl
theorem wo_RX3 : Cond.methodLink RX3 3 objectInit ∈ zt := zt_a1 117 rfl rfl
theorem wo_RX4 : Cond.methodLink RX4 3 objectInit ∈ zt := zt_a1 160 rfl rfl
theorem wo_RX2 : Cond.methodLink RX2 3 objectInit ∈ zt := zt_a1 188 rfl rfl
theorem wo_RX0 : Cond.methodLink RX0 1 objectInit ∈ zt := zt_a1 205 rfl rfl
theorem wo_RX5 : Cond.methodLink RX5 3 objectInit ∈ zt := zt_a1 232 rfl rfl
theorem wo_RX6 : Cond.methodLink RX6 3 objectInit ∈ zt := zt_a2 64 rfl rfl
theorem wo_RX7 : Cond.methodLink RX7 3 objectInit ∈ zt := zt_a2 106 rfl rfl
theorem wo_RX8 : Cond.methodLink RX8 5 objectInit ∈ zt := zt_a2 116 rfl rfl
theorem wo_RX11 : Cond.methodLink RX11 1 objectInit ∈ zt := zt_a5 153 rfl rfl
theorem wk_RL_7 : Cond.classLink RL 7 RX10 ∈ zt := zt_a1 22 rfl rfl
theorem wk_RX10_7 : Cond.classLink RX10 7 RX9 ∈ zt := zt_a1 30 rfl rfl
theorem wk_RX9_9 : Cond.classLink RX9 9 RX1 ∈ zt := zt_a1 36 rfl rfl
theorem wk_RX9_18 : Cond.classLink RX9 18 RX3 ∈ zt := zt_a1 112 rfl rfl
theorem wk_RX9_25 : Cond.classLink RX9 25 RX4 ∈ zt := zt_a1 155 rfl rfl
theorem wk_RX9_35 : Cond.classLink RX9 35 RX2 ∈ zt := zt_a1 183 rfl rfl
theorem wk_RX9_42 : Cond.classLink RX9 42 RX0 ∈ zt := zt_a1 200 rfl rfl
theorem wk_RX9_49 : Cond.classLink RX9 49 RX5 ∈ zt := zt_a1 227 rfl rfl
theorem wk_RX10_22 : Cond.classLink RX10 22 RX6 ∈ zt := zt_a2 59 rfl rfl
theorem wk_RX10_29 : Cond.classLink RX10 29 RX7 ∈ zt := zt_a2 101 rfl rfl
theorem wk_RX10_38 : Cond.classLink RX10 38 RX8 ∈ zt := zt_a2 111 rfl rfl
theorem wk_RX10_45 : Cond.classLink RX10 45 RX1 ∈ zt := zt_a2 134 rfl rfl
theorem wk_RL_10 : Cond.classLink RL 10 RX11 ∈ zt := zt_a5 148 rfl rfl
theorem wi_10 : Cond.instantiable RX10 (znf 10) ∈ zt := zt_a1 23 rfl rfl
theorem wz_10 : Cond.initialized RX10 ∈ zt := zt_a1 1 rfl rfl
theorem wi_9 : Cond.instantiable RX9 (znf 9) ∈ zt := zt_a1 31 rfl rfl
theorem wz_9 : Cond.initialized RX9 ∈ zt := zt_a1 2 rfl rfl
theorem wi_1 : Cond.instantiable RX1 (znf 1) ∈ zt := zt_a1 37 rfl rfl
theorem wz_1 : Cond.initialized RX1 ∈ zt := zt_a1 3 rfl rfl
theorem wi_3 : Cond.instantiable RX3 (znf 3) ∈ zt := zt_a1 113 rfl rfl
theorem wz_3 : Cond.initialized RX3 ∈ zt := zt_a1 4 rfl rfl
theorem wi_4 : Cond.instantiable RX4 (znf 4) ∈ zt := zt_a1 156 rfl rfl
theorem wz_4 : Cond.initialized RX4 ∈ zt := zt_a1 5 rfl rfl
theorem wi_2 : Cond.instantiable RX2 (znf 2) ∈ zt := zt_a1 184 rfl rfl
theorem wz_2 : Cond.initialized RX2 ∈ zt := zt_a1 6 rfl rfl
theorem wi_0 : Cond.instantiable RX0 (znf 0) ∈ zt := zt_a1 201 rfl rfl
theorem wz_0 : Cond.initialized RX0 ∈ zt := zt_a1 7 rfl rfl
theorem wi_5 : Cond.instantiable RX5 (znf 5) ∈ zt := zt_a1 228 rfl rfl
theorem wz_5 : Cond.initialized RX5 ∈ zt := zt_a1 8 rfl rfl
theorem wi_6 : Cond.instantiable RX6 (znf 6) ∈ zt := zt_a2 60 rfl rfl
theorem wz_6 : Cond.initialized RX6 ∈ zt := zt_a1 9 rfl rfl
theorem wi_7 : Cond.instantiable RX7 (znf 7) ∈ zt := zt_a2 102 rfl rfl
theorem wz_7 : Cond.initialized RX7 ∈ zt := zt_a1 10 rfl rfl
theorem wi_8 : Cond.instantiable RX8 (znf 8) ∈ zt := zt_a2 112 rfl rfl
theorem wz_8 : Cond.initialized RX8 ∈ zt := zt_a1 11 rfl rfl
theorem wi_11 : Cond.instantiable RX11 (znf 11) ∈ zt := zt_a5 149 rfl rfl
theorem wz_11 : Cond.initialized RX11 ∈ zt := zt_a1 12 rfl rfl
abbrev tX0_init : List (Nat × Instr × Nat) := [(0, .aload_n 0, 1), (1, .invokespecial 1, 3), (4, .aload_n 0, 1), (5, .sipush 150, 3), (8, .newarray .int, 2), (10, .putfield 9, 3), (13, .aload_n 0, 1), (14, .sipush 150, 3), (17, .newarray .int, 2), (19, .putfield 13, 3), (22, .aload_n 0, 1), (23, .sipush 150, 3), (26, .newarray .int, 2), (28, .putfield 16, 3), (31, .aload_n 0, 1), (32, .sipush 150, 3), (35, .newarray .int, 2), (37, .putfield 19, 3), (40, .aload_n 0, 1), (41, .iconst 0, 1), (42, .putfield 22, 3), (45, .return_, 1)]
theorem ttX0_init : zdt cX0_init tX0_init = true := by decide +kernel
set_option maxRecDepth 100000 in
set_option maxHeartbeats 4000000 in
theorem s_X0_init (l : Launch) (h : zM) (c : Int) (hc : zBo c) (hn : (h.1 : Int) = c + 1) (hd : ∀ b, -1 ≤ h.2 c b ∧ h.2 c b ≤ 0) : zT shC l yX0_init cX0_init 1 none (rmA 1 4 600) 4 600 [.inr c] h (zqv fun h' => zPo c 5 h h') := by
  refine zT_of (by decide +kernel) (L0 := [some (.inr c)]) rfl (Nat.le_of_ble_eq_true rfl) ?_
  have hb := zBo_b hc
  have ks : shC c = .inl 0 := by unfold shC; rw [kk_0_0 hc]; rfl
  have q0 : zCn c 1 0 h h := zCn_0 hn
  refine zj_aload_n (zdk ttX0_init 0 rfl rfl) rfl (by omega) ?_
  refine zj_oinit (zdk ttX0_init 1 rfl rfl) wo_RX0 wo_i wo_c (by omega) (Nat.zero_le _) ⟨Nat.le_of_ble_eq_true rfl, Nat.le_of_ble_eq_true rfl⟩ ?_
  refine zj_aload_n (zdk ttX0_init 2 rfl rfl) rfl (by omega) ?_
  refine zj_sipush (zdk ttX0_init 3 rfl rfl) (by decide) ?_
  refine zj_newi (N := 150) (zdk ttX0_init 4 rfl rfl) wa_int rfl (by decide) (by rw [show ((h.1 : Nat) : Int) = c + 1 by have := q0.1; omega]; unfold shC; rw [kka_0_0_0 hc]; rfl) ⟨Nat.le_of_ble_eq_true rfl, Nat.le_of_ble_eq_true rfl⟩ (fun h1 e2 => ?_)
  have nh1 : ((h1.1 : Nat) : Int) = c + 2 := by have := q0.1; rw [e2]; show ((h.1 + 1 : Nat) : Int) = _; omega
  refine zj_putr (zdk ttX0_init 5 rfl rfl) zf_RX0_9 rfl ⟨ks, by omega, by omega⟩ (Or.inr ⟨rfl, zw_RX0_9⟩) (k2 := 0) rfl (fun h3 e4 => ?_)
  have q5 : zCn c 2 1 h h3 := zCn_a (k := 1) (m := 0) q0 e2 e4 (Or.inr (fun j => ⟨pa_0_0_0 (v := 0) hc (by decide) j, PI_k (kka_0_0_0 hc) ⟨Int.le_refl _, Int.le_refl _⟩⟩)) (PB_k (kk_0_0 hc) ⟨Int.le_refl _, Int.le_refl _⟩ ⟨Int.le_refl _, Int.le_refl _⟩) (by decide) (by decide) (by decide)
  refine zj_aload_n (zdk ttX0_init 6 rfl rfl) rfl (by omega) ?_
  refine zj_sipush (zdk ttX0_init 7 rfl rfl) (by decide) ?_
  refine zj_newi (N := 150) (zdk ttX0_init 8 rfl rfl) wa_int rfl (by decide) (by rw [show ((h3.1 : Nat) : Int) = c + 2 by have := q5.1; omega]; unfold shC; rw [kka_0_0_1 hc]; rfl) ⟨Nat.le_of_ble_eq_true rfl, Nat.le_of_ble_eq_true rfl⟩ (fun h6 e7 => ?_)
  have nh6 : ((h6.1 : Nat) : Int) = c + 3 := by have := q5.1; rw [e7]; show ((h3.1 + 1 : Nat) : Int) = _; omega
  refine zj_putr (zdk ttX0_init 9 rfl rfl) zf_RX0_13 rfl ⟨ks, by omega, by omega⟩ (Or.inr ⟨rfl, zw_RX0_13⟩) (k2 := 1) rfl (fun h8 e9 => ?_)
  have q10 : zCn c 3 2 h h8 := zCn_a (k := 2) (m := 1) q5 e7 e9 (Or.inr (fun j => ⟨pa_0_0_1 (v := 0) hc (by decide) j, PI_k (kka_0_0_1 hc) ⟨Int.le_refl _, Int.le_refl _⟩⟩)) (PB_k (kk_0_0 hc) ⟨Int.le_refl _, Int.le_refl _⟩ ⟨Int.le_refl _, Int.le_refl _⟩) (by decide) (by decide) (by decide)
  refine zj_aload_n (zdk ttX0_init 10 rfl rfl) rfl (by omega) ?_
  refine zj_sipush (zdk ttX0_init 11 rfl rfl) (by decide) ?_
  refine zj_newi (N := 150) (zdk ttX0_init 12 rfl rfl) wa_int rfl (by decide) (by rw [show ((h8.1 : Nat) : Int) = c + 3 by have := q10.1; omega]; unfold shC; rw [kka_0_0_2 hc]; rfl) ⟨Nat.le_of_ble_eq_true rfl, Nat.le_of_ble_eq_true rfl⟩ (fun h11 e12 => ?_)
  have nh11 : ((h11.1 : Nat) : Int) = c + 4 := by have := q10.1; rw [e12]; show ((h8.1 + 1 : Nat) : Int) = _; omega
  refine zj_putr (zdk ttX0_init 13 rfl rfl) zf_RX0_16 rfl ⟨ks, by omega, by omega⟩ (Or.inr ⟨rfl, zw_RX0_16⟩) (k2 := 2) rfl (fun h13 e14 => ?_)
  have q15 : zCn c 4 3 h h13 := zCn_a (k := 3) (m := 2) q10 e12 e14 (Or.inr (fun j => ⟨pa_0_0_2 (v := 0) hc (by decide) j, PI_k (kka_0_0_2 hc) ⟨Int.le_refl _, Int.le_refl _⟩⟩)) (PB_k (kk_0_0 hc) ⟨Int.le_refl _, Int.le_refl _⟩ ⟨Int.le_refl _, Int.le_refl _⟩) (by decide) (by decide) (by decide)
  refine zj_aload_n (zdk ttX0_init 14 rfl rfl) rfl (by omega) ?_
  refine zj_sipush (zdk ttX0_init 15 rfl rfl) (by decide) ?_
  refine zj_newi (N := 150) (zdk ttX0_init 16 rfl rfl) wa_int rfl (by decide) (by rw [show ((h13.1 : Nat) : Int) = c + 4 by have := q15.1; omega]; unfold shC; rw [kka_0_0_3 hc]; rfl) ⟨Nat.le_of_ble_eq_true rfl, Nat.le_of_ble_eq_true rfl⟩ (fun h16 e17 => ?_)
  have nh16 : ((h16.1 : Nat) : Int) = c + 5 := by have := q15.1; rw [e17]; show ((h13.1 + 1 : Nat) : Int) = _; omega
  refine zj_putr (zdk ttX0_init 17 rfl rfl) zf_RX0_19 rfl ⟨ks, by omega, by omega⟩ (Or.inr ⟨rfl, zw_RX0_19⟩) (k2 := 3) rfl (fun h18 e19 => ?_)
  have q20 : zCn c 5 4 h h18 := zCn_a (k := 4) (m := 3) q15 e17 e19 (Or.inr (fun j => ⟨pa_0_0_3 (v := 0) hc (by decide) j, PI_k (kka_0_0_3 hc) ⟨Int.le_refl _, Int.le_refl _⟩⟩)) (PB_k (kk_0_0 hc) ⟨Int.le_refl _, Int.le_refl _⟩ ⟨Int.le_refl _, Int.le_refl _⟩) (by decide) (by decide) (by decide)
  refine zj_aload_n (zdk ttX0_init 18 rfl rfl) rfl (by omega) ?_
  refine zj_iconst (zdk ttX0_init 19 rfl rfl) ?_
  refine zj_puti (zdk ttX0_init 20 rfl rfl) zf_RX0_22 rfl ⟨ks, by omega, by have := q20.1; omega⟩ (Or.inl zw_RX0_22) (k2 := 4) rfl (fun h21 e22 => ?_)
  have q23 : zCn c 5 5 h h21 := zCn_i (m := 4) q20 e22 (PB_k (kk_0_0 hc) (show (0 : Int) ≤ 0 ∧ (0 : Int) ≤ 150 by decide) ⟨Int.le_refl _, Int.le_refl _⟩) (by decide) (by decide)
  exact zj_vret rfl (zdk ttX0_init 21 rfl rfl) (Nat.le_of_ble_eq_true rfl) (Nat.le_of_ble_eq_true rfl) ⟨rfl, zCn_e q23 (fun b z => ⟨PC_out (kk_0_0 hc) rfl (show (5 : Int) ≤ b by omega) (hd b), PI_out (kk_0_0 hc) rfl (show (5 : Int) ≤ b by omega) (hd b)⟩) (by decide) (by decide)⟩
abbrev tX1_init : List (Nat × Instr × Nat) := [(0, .aload_n 0, 1), (1, .invokespecial 3, 3), (4, .aload_n 0, 1), (5, .bipush 18, 2), (7, .newarray .int, 2), (9, .putfield 9, 3), (12, .aload_n 0, 1), (13, .bipush 18, 2), (15, .newarray .int, 2), (17, .putfield 15, 3), (20, .aload_n 0, 1), (21, .bipush 18, 2), (23, .newarray .int, 2), (25, .putfield 18, 3), (28, .aload_n 0, 1), (29, .iconst 0, 1), (30, .putfield 21, 3), (33, .aload_n 0, 1), (34, .iconst 0, 1), (35, .putfield 25, 3), (38, .aload_n 0, 1), (39, .iconst 0, 1), (40, .putfield 28, 3), (43, .aload_n 0, 1), (44, .iconst 0, 1), (45, .putfield 31, 3), (48, .aload_n 0, 1), (49, .iconst 0, 1), (50, .putfield 34, 3), (53, .aload_n 0, 1), (54, .iconst 0, 1), (55, .putfield 37, 3), (58, .aload_n 0, 1), (59, .iconst 0, 1), (60, .putfield 40, 3), (63, .aload_n 0, 1), (64, .iconst 1, 1), (65, .putfield 43, 3), (68, .aload_n 0, 1), (69, .iconst 0, 1), (70, .putfield 46, 3), (73, .aload_n 0, 1), (74, .iconst 0, 1), (75, .putfield 49, 3), (78, .aload_n 0, 1), (79, .iconst 0, 1), (80, .putfield 52, 3), (83, .return_, 1)]
theorem ttX1_init : zdt cX1_init tX1_init = true := by decide +kernel
set_option maxRecDepth 100000 in
set_option maxHeartbeats 4000000 in
theorem s_X1_init (l : Launch) (h : zM) (c : Int) (hc : zIs c) (hn : (h.1 : Int) = c + 1) (hd : ∀ b, -1 ≤ h.2 c b ∧ h.2 c b ≤ 0) : zT shC l yX1_init cX1_init 1 none (rmA 1 3 54) 3 54 [.inr c] h (zqv fun h' => zPo c 4 h h') := by
  refine zT_of (by decide +kernel) (L0 := [some (.inr c)]) rfl (Nat.le_of_ble_eq_true rfl) ?_
  have hb := zIs_b hc
  have ks : shC c = .inl 1 := by unfold shC; rw [kk_1_0 hc]; rfl
  have q0 : zCn c 1 0 h h := zCn_0 hn
  refine zj_aload_n (zdk ttX1_init 0 rfl rfl) rfl (by omega) ?_
  refine zj_oinit (zdk ttX1_init 1 rfl rfl) wo_RX1 wo_i wo_c (by omega) (Nat.zero_le _) ⟨Nat.le_of_ble_eq_true rfl, Nat.le_of_ble_eq_true rfl⟩ ?_
  refine zj_aload_n (zdk ttX1_init 2 rfl rfl) rfl (by omega) ?_
  refine zj_bipush (zdk ttX1_init 3 rfl rfl) (by decide) ?_
  refine zj_newi (N := 18) (zdk ttX1_init 4 rfl rfl) wa_int rfl (by decide) (by rw [show ((h.1 : Nat) : Int) = c + 1 by have := q0.1; omega]; unfold shC; rw [kka_1_0_0 hc]; rfl) ⟨Nat.le_of_ble_eq_true rfl, Nat.le_of_ble_eq_true rfl⟩ (fun h1 e2 => ?_)
  have nh1 : ((h1.1 : Nat) : Int) = c + 2 := by have := q0.1; rw [e2]; show ((h.1 + 1 : Nat) : Int) = _; omega
  refine zj_putr (zdk ttX1_init 5 rfl rfl) zf_RX1_9 rfl ⟨ks, by omega, by omega⟩ (Or.inr ⟨rfl, zw_RX1_9⟩) (k2 := 0) rfl (fun h3 e4 => ?_)
  have q5 : zCn c 2 1 h h3 := zCn_a (k := 1) (m := 0) q0 e2 e4 (Or.inr (fun j => ⟨pa_1_0_0 (v := 0) hc (by decide) j, PI_k (kka_1_0_0 hc) ⟨Int.le_refl _, Int.le_refl _⟩⟩)) (PB_k (kk_1_0 hc) ⟨Int.le_refl _, Int.le_refl _⟩ ⟨Int.le_refl _, Int.le_refl _⟩) (by decide) (by decide) (by decide)
  refine zj_aload_n (zdk ttX1_init 6 rfl rfl) rfl (by omega) ?_
  refine zj_bipush (zdk ttX1_init 7 rfl rfl) (by decide) ?_
  refine zj_newi (N := 18) (zdk ttX1_init 8 rfl rfl) wa_int rfl (by decide) (by rw [show ((h3.1 : Nat) : Int) = c + 2 by have := q5.1; omega]; unfold shC; rw [kka_1_0_1 hc]; rfl) ⟨Nat.le_of_ble_eq_true rfl, Nat.le_of_ble_eq_true rfl⟩ (fun h6 e7 => ?_)
  have nh6 : ((h6.1 : Nat) : Int) = c + 3 := by have := q5.1; rw [e7]; show ((h3.1 + 1 : Nat) : Int) = _; omega
  refine zj_putr (zdk ttX1_init 9 rfl rfl) zf_RX1_15 rfl ⟨ks, by omega, by omega⟩ (Or.inr ⟨rfl, zw_RX1_15⟩) (k2 := 1) rfl (fun h8 e9 => ?_)
  have q10 : zCn c 3 2 h h8 := zCn_a (k := 2) (m := 1) q5 e7 e9 (Or.inr (fun j => ⟨pa_1_0_1 (v := 0) hc (by decide) j, PI_k (kka_1_0_1 hc) ⟨Int.le_refl _, Int.le_refl _⟩⟩)) (PB_k (kk_1_0 hc) ⟨Int.le_refl _, Int.le_refl _⟩ ⟨Int.le_refl _, Int.le_refl _⟩) (by decide) (by decide) (by decide)
  refine zj_aload_n (zdk ttX1_init 10 rfl rfl) rfl (by omega) ?_
  refine zj_bipush (zdk ttX1_init 11 rfl rfl) (by decide) ?_
  refine zj_newi (N := 18) (zdk ttX1_init 12 rfl rfl) wa_int rfl (by decide) (by rw [show ((h8.1 : Nat) : Int) = c + 3 by have := q10.1; omega]; unfold shC; rw [kka_1_0_2 hc]; rfl) ⟨Nat.le_of_ble_eq_true rfl, Nat.le_of_ble_eq_true rfl⟩ (fun h11 e12 => ?_)
  have nh11 : ((h11.1 : Nat) : Int) = c + 4 := by have := q10.1; rw [e12]; show ((h8.1 + 1 : Nat) : Int) = _; omega
  refine zj_putr (zdk ttX1_init 13 rfl rfl) zf_RX1_18 rfl ⟨ks, by omega, by omega⟩ (Or.inr ⟨rfl, zw_RX1_18⟩) (k2 := 2) rfl (fun h13 e14 => ?_)
  have q15 : zCn c 4 3 h h13 := zCn_a (k := 3) (m := 2) q10 e12 e14 (Or.inr (fun j => ⟨pa_1_0_2 (v := 0) hc (by decide) j, PI_k (kka_1_0_2 hc) ⟨Int.le_refl _, Int.le_refl _⟩⟩)) (PB_k (kk_1_0 hc) ⟨Int.le_refl _, Int.le_refl _⟩ ⟨Int.le_refl _, Int.le_refl _⟩) (by decide) (by decide) (by decide)
  refine zj_aload_n (zdk ttX1_init 14 rfl rfl) rfl (by omega) ?_
  refine zj_iconst (zdk ttX1_init 15 rfl rfl) ?_
  refine zj_puti (zdk ttX1_init 16 rfl rfl) zf_RX1_21 rfl ⟨ks, by omega, by have := q15.1; omega⟩ (Or.inl zw_RX1_21) (k2 := 3) rfl (fun h16 e17 => ?_)
  have q18 : zCn c 4 4 h h16 := zCn_i (m := 3) q15 e17 (PB_k (kk_1_0 hc) (show (0 : Int) ≤ 0 ∧ (0 : Int) ≤ 18 by decide) ⟨Int.le_refl _, Int.le_refl _⟩) (by decide) (by decide)
  refine zj_aload_n (zdk ttX1_init 17 rfl rfl) rfl (by omega) ?_
  refine zj_iconst (zdk ttX1_init 18 rfl rfl) ?_
  refine zj_puti (zdk ttX1_init 19 rfl rfl) zf_RX1_25 rfl ⟨ks, by omega, by have := q18.1; omega⟩ (Or.inl zw_RX1_25) (k2 := 4) rfl (fun h19 e20 => ?_)
  have q21 : zCn c 4 5 h h19 := zCn_i (m := 4) q18 e20 (PB_k (kk_1_0 hc) (show ((-2147483648) : Int) ≤ 0 ∧ (0 : Int) ≤ 2147483647 by decide) ⟨Int.le_refl _, Int.le_refl _⟩) (by decide) (by decide)
  refine zj_aload_n (zdk ttX1_init 20 rfl rfl) rfl (by omega) ?_
  refine zj_iconst (zdk ttX1_init 21 rfl rfl) ?_
  refine zj_puti (zdk ttX1_init 22 rfl rfl) zf_RX1_28 rfl ⟨ks, by omega, by have := q21.1; omega⟩ (Or.inl zw_RX1_28) (k2 := 5) rfl (fun h22 e23 => ?_)
  have q24 : zCn c 4 6 h h22 := zCn_i (m := 5) q21 e23 (PB_k (kk_1_0 hc) (show ((-2147483648) : Int) ≤ 0 ∧ (0 : Int) ≤ 2147483647 by decide) ⟨Int.le_refl _, Int.le_refl _⟩) (by decide) (by decide)
  refine zj_aload_n (zdk ttX1_init 23 rfl rfl) rfl (by omega) ?_
  refine zj_iconst (zdk ttX1_init 24 rfl rfl) ?_
  refine zj_puti (zdk ttX1_init 25 rfl rfl) zf_RX1_31 rfl ⟨ks, by omega, by have := q24.1; omega⟩ (Or.inl zw_RX1_31) (k2 := 6) rfl (fun h25 e26 => ?_)
  have q27 : zCn c 4 7 h h25 := zCn_i (m := 6) q24 e26 (PB_k (kk_1_0 hc) (show (0 : Int) ≤ 0 ∧ (0 : Int) ≤ 719 by decide) ⟨Int.le_refl _, Int.le_refl _⟩) (by decide) (by decide)
  refine zj_aload_n (zdk ttX1_init 26 rfl rfl) rfl (by omega) ?_
  refine zj_iconst (zdk ttX1_init 27 rfl rfl) ?_
  refine zj_puti (zdk ttX1_init 28 rfl rfl) zf_RX1_34 rfl ⟨ks, by omega, by have := q27.1; omega⟩ (Or.inl zw_RX1_34) (k2 := 7) rfl (fun h28 e29 => ?_)
  have q30 : zCn c 4 8 h h28 := zCn_i (m := 7) q27 e29 (PB_k (kk_1_0 hc) (show ((-2147483648) : Int) ≤ 0 ∧ (0 : Int) ≤ 2147483647 by decide) ⟨Int.le_refl _, Int.le_refl _⟩) (by decide) (by decide)
  refine zj_aload_n (zdk ttX1_init 29 rfl rfl) rfl (by omega) ?_
  refine zj_iconst (zdk ttX1_init 30 rfl rfl) ?_
  refine zj_puti (zdk ttX1_init 31 rfl rfl) zf_RX1_37 rfl ⟨ks, by omega, by have := q30.1; omega⟩ (Or.inl zw_RX1_37) (k2 := 8) rfl (fun h31 e32 => ?_)
  have q33 : zCn c 4 9 h h31 := zCn_i (m := 8) q30 e32 (PB_k (kk_1_0 hc) (show ((-2147483648) : Int) ≤ 0 ∧ (0 : Int) ≤ 2147483647 by decide) ⟨Int.le_refl _, Int.le_refl _⟩) (by decide) (by decide)
  refine zj_aload_n (zdk ttX1_init 32 rfl rfl) rfl (by omega) ?_
  refine zj_iconst (zdk ttX1_init 33 rfl rfl) ?_
  refine zj_puti (zdk ttX1_init 34 rfl rfl) zf_RX1_40 rfl ⟨ks, by omega, by have := q33.1; omega⟩ (Or.inl zw_RX1_40) (k2 := 9) rfl (fun h34 e35 => ?_)
  have q36 : zCn c 4 10 h h34 := zCn_i (m := 9) q33 e35 (PB_k (kk_1_0 hc) (show ((-2147483648) : Int) ≤ 0 ∧ (0 : Int) ≤ 2147483647 by decide) ⟨Int.le_refl _, Int.le_refl _⟩) (by decide) (by decide)
  refine zj_aload_n (zdk ttX1_init 35 rfl rfl) rfl (by omega) ?_
  refine zj_iconst (zdk ttX1_init 36 rfl rfl) ?_
  refine zj_puti (zdk ttX1_init 37 rfl rfl) zf_RX1_43 rfl ⟨ks, by omega, by have := q36.1; omega⟩ (Or.inl zw_RX1_43) (k2 := 10) rfl (fun h37 e38 => ?_)
  have q39 : zCn c 4 11 h h37 := zCn_i (m := 10) q36 e38 (PB_k (kk_1_0 hc) (show ((-2147483648) : Int) ≤ 1 ∧ (1 : Int) ≤ 2147483647 by decide) ⟨Int.le_refl _, Int.le_refl _⟩) (by decide) (by decide)
  refine zj_aload_n (zdk ttX1_init 38 rfl rfl) rfl (by omega) ?_
  refine zj_iconst (zdk ttX1_init 39 rfl rfl) ?_
  refine zj_puti (zdk ttX1_init 40 rfl rfl) zf_RX1_46 rfl ⟨ks, by omega, by have := q39.1; omega⟩ (Or.inl zw_RX1_46) (k2 := 11) rfl (fun h40 e41 => ?_)
  have q42 : zCn c 4 12 h h40 := zCn_i (m := 11) q39 e41 (PB_k (kk_1_0 hc) (show ((-2147483648) : Int) ≤ 0 ∧ (0 : Int) ≤ 2147483647 by decide) ⟨Int.le_refl _, Int.le_refl _⟩) (by decide) (by decide)
  refine zj_aload_n (zdk ttX1_init 41 rfl rfl) rfl (by omega) ?_
  refine zj_iconst (zdk ttX1_init 42 rfl rfl) ?_
  refine zj_puti (zdk ttX1_init 43 rfl rfl) zf_RX1_49 rfl ⟨ks, by omega, by have := q42.1; omega⟩ (Or.inl zw_RX1_49) (k2 := 12) rfl (fun h43 e44 => ?_)
  have q45 : zCn c 4 13 h h43 := zCn_i (m := 12) q42 e44 (PB_k (kk_1_0 hc) (show ((-2147483648) : Int) ≤ 0 ∧ (0 : Int) ≤ 2147483647 by decide) ⟨Int.le_refl _, Int.le_refl _⟩) (by decide) (by decide)
  refine zj_aload_n (zdk ttX1_init 44 rfl rfl) rfl (by omega) ?_
  refine zj_iconst (zdk ttX1_init 45 rfl rfl) ?_
  refine zj_puti (zdk ttX1_init 46 rfl rfl) zf_RX1_52 rfl ⟨ks, by omega, by have := q45.1; omega⟩ (Or.inl zw_RX1_52) (k2 := 13) rfl (fun h46 e47 => ?_)
  have q48 : zCn c 4 14 h h46 := zCn_i (m := 13) q45 e47 (PB_k (kk_1_0 hc) (show ((-2147483648) : Int) ≤ 0 ∧ (0 : Int) ≤ 2147483647 by decide) ⟨Int.le_refl _, Int.le_refl _⟩) (by decide) (by decide)
  exact zj_vret rfl (zdk ttX1_init 47 rfl rfl) (Nat.le_of_ble_eq_true rfl) (Nat.le_of_ble_eq_true rfl) ⟨rfl, zCn_e q48 (fun b z => ⟨PC_out (kk_1_0 hc) rfl (show (14 : Int) ≤ b by omega) (hd b), PI_out (kk_1_0 hc) rfl (show (14 : Int) ≤ b by omega) (hd b)⟩) (by decide) (by decide)⟩
abbrev tX2_init : List (Nat × Instr × Nat) := [(0, .aload_n 0, 1), (1, .invokespecial 3, 3), (4, .aload_n 0, 1), (5, .bipush 18, 2), (7, .newarray .int, 2), (9, .putfield 9, 3), (12, .aload_n 0, 1), (13, .iconst 0, 1), (14, .putfield 15, 3), (17, .return_, 1)]
theorem ttX2_init : zdt cX2_init tX2_init = true := by decide +kernel
set_option maxRecDepth 100000 in
set_option maxHeartbeats 4000000 in
theorem s_X2_init (l : Launch) (h : zM) (c : Int) (hc : zKi c) (hn : (h.1 : Int) = c + 1) (hd : ∀ b, -1 ≤ h.2 c b ∧ h.2 c b ≤ 0) : zT shC l yX2_init cX2_init 1 none (rmA 1 1 18) 1 18 [.inr c] h (zqv fun h' => zPo c 2 h h') := by
  refine zT_of (by decide +kernel) (L0 := [some (.inr c)]) rfl (Nat.le_of_ble_eq_true rfl) ?_
  have hb := zKi_b hc
  have ks : shC c = .inl 2 := by unfold shC; rw [kk_2_0 hc]; rfl
  have q0 : zCn c 1 0 h h := zCn_0 hn
  refine zj_aload_n (zdk ttX2_init 0 rfl rfl) rfl (by omega) ?_
  refine zj_oinit (zdk ttX2_init 1 rfl rfl) wo_RX2 wo_i wo_c (by omega) (Nat.zero_le _) ⟨Nat.le_of_ble_eq_true rfl, Nat.le_of_ble_eq_true rfl⟩ ?_
  refine zj_aload_n (zdk ttX2_init 2 rfl rfl) rfl (by omega) ?_
  refine zj_bipush (zdk ttX2_init 3 rfl rfl) (by decide) ?_
  refine zj_newi (N := 18) (zdk ttX2_init 4 rfl rfl) wa_int rfl (by decide) (by rw [show ((h.1 : Nat) : Int) = c + 1 by have := q0.1; omega]; unfold shC; rw [kka_2_0_0 hc]; rfl) ⟨Nat.le_of_ble_eq_true rfl, Nat.le_of_ble_eq_true rfl⟩ (fun h1 e2 => ?_)
  have nh1 : ((h1.1 : Nat) : Int) = c + 2 := by have := q0.1; rw [e2]; show ((h.1 + 1 : Nat) : Int) = _; omega
  refine zj_putr (zdk ttX2_init 5 rfl rfl) zf_RX2_9 rfl ⟨ks, by omega, by omega⟩ (Or.inr ⟨rfl, zw_RX2_9⟩) (k2 := 0) rfl (fun h3 e4 => ?_)
  have q5 : zCn c 2 1 h h3 := zCn_a (k := 1) (m := 0) q0 e2 e4 (Or.inr (fun j => ⟨pa_2_0_0 (v := 0) hc (by decide) j, PI_k (kka_2_0_0 hc) ⟨Int.le_refl _, Int.le_refl _⟩⟩)) (PB_k (kk_2_0 hc) ⟨Int.le_refl _, Int.le_refl _⟩ ⟨Int.le_refl _, Int.le_refl _⟩) (by decide) (by decide) (by decide)
  refine zj_aload_n (zdk ttX2_init 6 rfl rfl) rfl (by omega) ?_
  refine zj_iconst (zdk ttX2_init 7 rfl rfl) ?_
  refine zj_puti (zdk ttX2_init 8 rfl rfl) zf_RX2_15 rfl ⟨ks, by omega, by have := q5.1; omega⟩ (Or.inl zw_RX2_15) (k2 := 1) rfl (fun h6 e7 => ?_)
  have q8 : zCn c 2 2 h h6 := zCn_i (m := 1) q5 e7 (PB_k (kk_2_0 hc) (show ((-2147483648) : Int) ≤ 0 ∧ (0 : Int) ≤ 2147483647 by decide) ⟨Int.le_refl _, Int.le_refl _⟩) (by decide) (by decide)
  exact zj_vret rfl (zdk ttX2_init 9 rfl rfl) (Nat.le_of_ble_eq_true rfl) (Nat.le_of_ble_eq_true rfl) ⟨rfl, zCn_e q8 (fun b z => ⟨PC_out (kk_2_0 hc) rfl (show (2 : Int) ≤ b by omega) (hd b), PI_out (kk_2_0 hc) rfl (show (2 : Int) ≤ b by omega) (hd b)⟩) (by decide) (by decide)⟩
abbrev tX3_init : List (Nat × Instr × Nat) := [(0, .aload_n 0, 1), (1, .invokespecial 3, 3), (4, .aload_n 0, 1), (5, .bipush 16, 2), (7, .newarray .int, 2), (9, .putfield 9, 3), (12, .aload_n 0, 1), (13, .bipush 16, 2), (15, .newarray .int, 2), (17, .putfield 15, 3), (20, .aload_n 0, 1), (21, .bipush 16, 2), (23, .newarray .int, 2), (25, .putfield 18, 3), (28, .aload_n 0, 1), (29, .bipush 16, 2), (31, .newarray .int, 2), (33, .putfield 21, 3), (36, .aload_n 0, 1), (37, .sipush 400, 3), (40, .newarray .int, 2), (42, .putfield 26, 3), (45, .aload_n 0, 1), (46, .bipush 64, 2), (48, .newarray .int, 2), (50, .putfield 29, 3), (53, .aload_n 0, 1), (54, .iconst 0, 1), (55, .putfield 32, 3), (58, .aload_n 0, 1), (59, .iconst 0, 1), (60, .putfield 36, 3), (63, .return_, 1)]
theorem ttX3_init : zdt cX3_init tX3_init = true := by decide +kernel
set_option maxRecDepth 100000 in
set_option maxHeartbeats 4000000 in
theorem s_X3_init (l : Launch) (h : zM) (c : Int) (hc : zLw c) (hn : (h.1 : Int) = c + 1) (hd : ∀ b, -1 ≤ h.2 c b ∧ h.2 c b ≤ 0) : zT shC l yX3_init cX3_init 1 none (rmA 1 6 528) 6 528 [.inr c] h (zqv fun h' => zPo c 7 h h') := by
  refine zT_of (by decide +kernel) (L0 := [some (.inr c)]) rfl (Nat.le_of_ble_eq_true rfl) ?_
  have hb := zLw_b hc
  have ks : shC c = .inl 3 := by unfold shC; rw [kk_3_0 hc]; rfl
  have q0 : zCn c 1 0 h h := zCn_0 hn
  refine zj_aload_n (zdk ttX3_init 0 rfl rfl) rfl (by omega) ?_
  refine zj_oinit (zdk ttX3_init 1 rfl rfl) wo_RX3 wo_i wo_c (by omega) (Nat.zero_le _) ⟨Nat.le_of_ble_eq_true rfl, Nat.le_of_ble_eq_true rfl⟩ ?_
  refine zj_aload_n (zdk ttX3_init 2 rfl rfl) rfl (by omega) ?_
  refine zj_bipush (zdk ttX3_init 3 rfl rfl) (by decide) ?_
  refine zj_newi (N := 16) (zdk ttX3_init 4 rfl rfl) wa_int rfl (by decide) (by rw [show ((h.1 : Nat) : Int) = c + 1 by have := q0.1; omega]; unfold shC; rw [kka_3_0_0 hc]; rfl) ⟨Nat.le_of_ble_eq_true rfl, Nat.le_of_ble_eq_true rfl⟩ (fun h1 e2 => ?_)
  have nh1 : ((h1.1 : Nat) : Int) = c + 2 := by have := q0.1; rw [e2]; show ((h.1 + 1 : Nat) : Int) = _; omega
  refine zj_putr (zdk ttX3_init 5 rfl rfl) zf_RX3_9 rfl ⟨ks, by omega, by omega⟩ (Or.inr ⟨rfl, zw_RX3_9⟩) (k2 := 0) rfl (fun h3 e4 => ?_)
  have q5 : zCn c 2 1 h h3 := zCn_a (k := 1) (m := 0) q0 e2 e4 (Or.inr (fun j => ⟨pa_3_0_0 (v := 0) hc (by decide) j, PI_k (kka_3_0_0 hc) ⟨Int.le_refl _, Int.le_refl _⟩⟩)) (PB_k (kk_3_0 hc) ⟨Int.le_refl _, Int.le_refl _⟩ ⟨Int.le_refl _, Int.le_refl _⟩) (by decide) (by decide) (by decide)
  refine zj_aload_n (zdk ttX3_init 6 rfl rfl) rfl (by omega) ?_
  refine zj_bipush (zdk ttX3_init 7 rfl rfl) (by decide) ?_
  refine zj_newi (N := 16) (zdk ttX3_init 8 rfl rfl) wa_int rfl (by decide) (by rw [show ((h3.1 : Nat) : Int) = c + 2 by have := q5.1; omega]; unfold shC; rw [kka_3_0_1 hc]; rfl) ⟨Nat.le_of_ble_eq_true rfl, Nat.le_of_ble_eq_true rfl⟩ (fun h6 e7 => ?_)
  have nh6 : ((h6.1 : Nat) : Int) = c + 3 := by have := q5.1; rw [e7]; show ((h3.1 + 1 : Nat) : Int) = _; omega
  refine zj_putr (zdk ttX3_init 9 rfl rfl) zf_RX3_15 rfl ⟨ks, by omega, by omega⟩ (Or.inr ⟨rfl, zw_RX3_15⟩) (k2 := 1) rfl (fun h8 e9 => ?_)
  have q10 : zCn c 3 2 h h8 := zCn_a (k := 2) (m := 1) q5 e7 e9 (Or.inr (fun j => ⟨pa_3_0_1 (v := 0) hc (by decide) j, PI_k (kka_3_0_1 hc) ⟨Int.le_refl _, Int.le_refl _⟩⟩)) (PB_k (kk_3_0 hc) ⟨Int.le_refl _, Int.le_refl _⟩ ⟨Int.le_refl _, Int.le_refl _⟩) (by decide) (by decide) (by decide)
  refine zj_aload_n (zdk ttX3_init 10 rfl rfl) rfl (by omega) ?_
  refine zj_bipush (zdk ttX3_init 11 rfl rfl) (by decide) ?_
  refine zj_newi (N := 16) (zdk ttX3_init 12 rfl rfl) wa_int rfl (by decide) (by rw [show ((h8.1 : Nat) : Int) = c + 3 by have := q10.1; omega]; unfold shC; rw [kka_3_0_2 hc]; rfl) ⟨Nat.le_of_ble_eq_true rfl, Nat.le_of_ble_eq_true rfl⟩ (fun h11 e12 => ?_)
  have nh11 : ((h11.1 : Nat) : Int) = c + 4 := by have := q10.1; rw [e12]; show ((h8.1 + 1 : Nat) : Int) = _; omega
  refine zj_putr (zdk ttX3_init 13 rfl rfl) zf_RX3_18 rfl ⟨ks, by omega, by omega⟩ (Or.inr ⟨rfl, zw_RX3_18⟩) (k2 := 2) rfl (fun h13 e14 => ?_)
  have q15 : zCn c 4 3 h h13 := zCn_a (k := 3) (m := 2) q10 e12 e14 (Or.inr (fun j => ⟨pa_3_0_2 (v := 0) hc (by decide) j, PI_k (kka_3_0_2 hc) ⟨Int.le_refl _, Int.le_refl _⟩⟩)) (PB_k (kk_3_0 hc) ⟨Int.le_refl _, Int.le_refl _⟩ ⟨Int.le_refl _, Int.le_refl _⟩) (by decide) (by decide) (by decide)
  refine zj_aload_n (zdk ttX3_init 14 rfl rfl) rfl (by omega) ?_
  refine zj_bipush (zdk ttX3_init 15 rfl rfl) (by decide) ?_
  refine zj_newi (N := 16) (zdk ttX3_init 16 rfl rfl) wa_int rfl (by decide) (by rw [show ((h13.1 : Nat) : Int) = c + 4 by have := q15.1; omega]; unfold shC; rw [kka_3_0_3 hc]; rfl) ⟨Nat.le_of_ble_eq_true rfl, Nat.le_of_ble_eq_true rfl⟩ (fun h16 e17 => ?_)
  have nh16 : ((h16.1 : Nat) : Int) = c + 5 := by have := q15.1; rw [e17]; show ((h13.1 + 1 : Nat) : Int) = _; omega
  refine zj_putr (zdk ttX3_init 17 rfl rfl) zf_RX3_21 rfl ⟨ks, by omega, by omega⟩ (Or.inr ⟨rfl, zw_RX3_21⟩) (k2 := 3) rfl (fun h18 e19 => ?_)
  have q20 : zCn c 5 4 h h18 := zCn_a (k := 4) (m := 3) q15 e17 e19 (Or.inr (fun j => ⟨pa_3_0_3 (v := 0) hc (by decide) j, PI_k (kka_3_0_3 hc) ⟨Int.le_refl _, Int.le_refl _⟩⟩)) (PB_k (kk_3_0 hc) ⟨Int.le_refl _, Int.le_refl _⟩ ⟨Int.le_refl _, Int.le_refl _⟩) (by decide) (by decide) (by decide)
  refine zj_aload_n (zdk ttX3_init 18 rfl rfl) rfl (by omega) ?_
  refine zj_sipush (zdk ttX3_init 19 rfl rfl) (by decide) ?_
  refine zj_newi (N := 400) (zdk ttX3_init 20 rfl rfl) wa_int rfl (by decide) (by rw [show ((h18.1 : Nat) : Int) = c + 5 by have := q20.1; omega]; unfold shC; rw [kka_3_0_4 hc]; rfl) ⟨Nat.le_of_ble_eq_true rfl, Nat.le_of_ble_eq_true rfl⟩ (fun h21 e22 => ?_)
  have nh21 : ((h21.1 : Nat) : Int) = c + 6 := by have := q20.1; rw [e22]; show ((h18.1 + 1 : Nat) : Int) = _; omega
  refine zj_putr (zdk ttX3_init 21 rfl rfl) zf_RX3_26 rfl ⟨ks, by omega, by omega⟩ (Or.inr ⟨rfl, zw_RX3_26⟩) (k2 := 4) rfl (fun h23 e24 => ?_)
  have q25 : zCn c 6 5 h h23 := zCn_a (k := 5) (m := 4) q20 e22 e24 (Or.inr (fun j => ⟨pa_3_0_4 (v := 0) hc (by decide) j, PI_k (kka_3_0_4 hc) ⟨Int.le_refl _, Int.le_refl _⟩⟩)) (PB_k (kk_3_0 hc) ⟨Int.le_refl _, Int.le_refl _⟩ ⟨Int.le_refl _, Int.le_refl _⟩) (by decide) (by decide) (by decide)
  refine zj_aload_n (zdk ttX3_init 22 rfl rfl) rfl (by omega) ?_
  refine zj_bipush (zdk ttX3_init 23 rfl rfl) (by decide) ?_
  refine zj_newi (N := 64) (zdk ttX3_init 24 rfl rfl) wa_int rfl (by decide) (by rw [show ((h23.1 : Nat) : Int) = c + 6 by have := q25.1; omega]; unfold shC; rw [kka_3_0_5 hc]; rfl) ⟨Nat.le_of_ble_eq_true rfl, Nat.le_of_ble_eq_true rfl⟩ (fun h26 e27 => ?_)
  have nh26 : ((h26.1 : Nat) : Int) = c + 7 := by have := q25.1; rw [e27]; show ((h23.1 + 1 : Nat) : Int) = _; omega
  refine zj_putr (zdk ttX3_init 25 rfl rfl) zf_RX3_29 rfl ⟨ks, by omega, by omega⟩ (Or.inr ⟨rfl, zw_RX3_29⟩) (k2 := 5) rfl (fun h28 e29 => ?_)
  have q30 : zCn c 7 6 h h28 := zCn_a (k := 6) (m := 5) q25 e27 e29 (Or.inr (fun j => ⟨pa_3_0_5 (v := 0) hc (by decide) j, PI_k (kka_3_0_5 hc) ⟨Int.le_refl _, Int.le_refl _⟩⟩)) (PB_k (kk_3_0 hc) ⟨Int.le_refl _, Int.le_refl _⟩ ⟨Int.le_refl _, Int.le_refl _⟩) (by decide) (by decide) (by decide)
  refine zj_aload_n (zdk ttX3_init 26 rfl rfl) rfl (by omega) ?_
  refine zj_iconst (zdk ttX3_init 27 rfl rfl) ?_
  refine zj_puti (zdk ttX3_init 28 rfl rfl) zf_RX3_32 rfl ⟨ks, by omega, by have := q30.1; omega⟩ (Or.inl zw_RX3_32) (k2 := 6) rfl (fun h31 e32 => ?_)
  have q33 : zCn c 7 7 h h31 := zCn_i (m := 6) q30 e32 (PB_k (kk_3_0 hc) (show (0 : Int) ≤ 0 ∧ (0 : Int) ≤ 16 by decide) ⟨Int.le_refl _, Int.le_refl _⟩) (by decide) (by decide)
  refine zj_aload_n (zdk ttX3_init 29 rfl rfl) rfl (by omega) ?_
  refine zj_iconst (zdk ttX3_init 30 rfl rfl) ?_
  refine zj_puti (zdk ttX3_init 31 rfl rfl) zf_RX3_36 rfl ⟨ks, by omega, by have := q33.1; omega⟩ (Or.inl zw_RX3_36) (k2 := 7) rfl (fun h34 e35 => ?_)
  have q36 : zCn c 7 8 h h34 := zCn_i (m := 7) q33 e35 (PB_k (kk_3_0 hc) (show (0 : Int) ≤ 0 ∧ (0 : Int) ≤ 400 by decide) ⟨Int.le_refl _, Int.le_refl _⟩) (by decide) (by decide)
  exact zj_vret rfl (zdk ttX3_init 32 rfl rfl) (Nat.le_of_ble_eq_true rfl) (Nat.le_of_ble_eq_true rfl) ⟨rfl, zCn_e q36 (fun b z => ⟨PC_out (kk_3_0 hc) rfl (show (8 : Int) ≤ b by omega) (hd b), PI_out (kk_3_0 hc) rfl (show (8 : Int) ≤ b by omega) (hd b)⟩) (by decide) (by decide)⟩
abbrev tX4_init : List (Nat × Instr × Nat) := [(0, .aload_n 0, 1), (1, .invokespecial 3, 3), (4, .aload_n 0, 1), (5, .bipush 16, 2), (7, .newarray .int, 2), (9, .putfield 9, 3), (12, .aload_n 0, 1), (13, .bipush 16, 2), (15, .newarray .int, 2), (17, .putfield 15, 3), (20, .aload_n 0, 1), (21, .bipush 16, 2), (23, .newarray .int, 2), (25, .putfield 18, 3), (28, .aload_n 0, 1), (29, .iconst 0, 1), (30, .putfield 21, 3), (33, .return_, 1)]
theorem ttX4_init : zdt cX4_init tX4_init = true := by decide +kernel
set_option maxRecDepth 100000 in
set_option maxHeartbeats 4000000 in
theorem s_X4_init (l : Launch) (h : zM) (c : Int) (hc : zPl c) (hn : (h.1 : Int) = c + 1) (hd : ∀ b, -1 ≤ h.2 c b ∧ h.2 c b ≤ 0) : zT shC l yX4_init cX4_init 1 none (rmA 1 3 48) 3 48 [.inr c] h (zqv fun h' => zPo c 4 h h') := by
  refine zT_of (by decide +kernel) (L0 := [some (.inr c)]) rfl (Nat.le_of_ble_eq_true rfl) ?_
  have hb := zPl_b hc
  have ks : shC c = .inl 4 := by unfold shC; rw [kk_4_0 hc]; rfl
  have q0 : zCn c 1 0 h h := zCn_0 hn
  refine zj_aload_n (zdk ttX4_init 0 rfl rfl) rfl (by omega) ?_
  refine zj_oinit (zdk ttX4_init 1 rfl rfl) wo_RX4 wo_i wo_c (by omega) (Nat.zero_le _) ⟨Nat.le_of_ble_eq_true rfl, Nat.le_of_ble_eq_true rfl⟩ ?_
  refine zj_aload_n (zdk ttX4_init 2 rfl rfl) rfl (by omega) ?_
  refine zj_bipush (zdk ttX4_init 3 rfl rfl) (by decide) ?_
  refine zj_newi (N := 16) (zdk ttX4_init 4 rfl rfl) wa_int rfl (by decide) (by rw [show ((h.1 : Nat) : Int) = c + 1 by have := q0.1; omega]; unfold shC; rw [kka_4_0_0 hc]; rfl) ⟨Nat.le_of_ble_eq_true rfl, Nat.le_of_ble_eq_true rfl⟩ (fun h1 e2 => ?_)
  have nh1 : ((h1.1 : Nat) : Int) = c + 2 := by have := q0.1; rw [e2]; show ((h.1 + 1 : Nat) : Int) = _; omega
  refine zj_putr (zdk ttX4_init 5 rfl rfl) zf_RX4_9 rfl ⟨ks, by omega, by omega⟩ (Or.inr ⟨rfl, zw_RX4_9⟩) (k2 := 0) rfl (fun h3 e4 => ?_)
  have q5 : zCn c 2 1 h h3 := zCn_a (k := 1) (m := 0) q0 e2 e4 (Or.inr (fun j => ⟨pa_4_0_0 (v := 0) hc (by decide) j, PI_k (kka_4_0_0 hc) ⟨Int.le_refl _, Int.le_refl _⟩⟩)) (PB_k (kk_4_0 hc) ⟨Int.le_refl _, Int.le_refl _⟩ ⟨Int.le_refl _, Int.le_refl _⟩) (by decide) (by decide) (by decide)
  refine zj_aload_n (zdk ttX4_init 6 rfl rfl) rfl (by omega) ?_
  refine zj_bipush (zdk ttX4_init 7 rfl rfl) (by decide) ?_
  refine zj_newi (N := 16) (zdk ttX4_init 8 rfl rfl) wa_int rfl (by decide) (by rw [show ((h3.1 : Nat) : Int) = c + 2 by have := q5.1; omega]; unfold shC; rw [kka_4_0_1 hc]; rfl) ⟨Nat.le_of_ble_eq_true rfl, Nat.le_of_ble_eq_true rfl⟩ (fun h6 e7 => ?_)
  have nh6 : ((h6.1 : Nat) : Int) = c + 3 := by have := q5.1; rw [e7]; show ((h3.1 + 1 : Nat) : Int) = _; omega
  refine zj_putr (zdk ttX4_init 9 rfl rfl) zf_RX4_15 rfl ⟨ks, by omega, by omega⟩ (Or.inr ⟨rfl, zw_RX4_15⟩) (k2 := 1) rfl (fun h8 e9 => ?_)
  have q10 : zCn c 3 2 h h8 := zCn_a (k := 2) (m := 1) q5 e7 e9 (Or.inr (fun j => ⟨pa_4_0_1 (v := 0) hc (by decide) j, PI_k (kka_4_0_1 hc) ⟨Int.le_refl _, Int.le_refl _⟩⟩)) (PB_k (kk_4_0 hc) ⟨Int.le_refl _, Int.le_refl _⟩ ⟨Int.le_refl _, Int.le_refl _⟩) (by decide) (by decide) (by decide)
  refine zj_aload_n (zdk ttX4_init 10 rfl rfl) rfl (by omega) ?_
  refine zj_bipush (zdk ttX4_init 11 rfl rfl) (by decide) ?_
  refine zj_newi (N := 16) (zdk ttX4_init 12 rfl rfl) wa_int rfl (by decide) (by rw [show ((h8.1 : Nat) : Int) = c + 3 by have := q10.1; omega]; unfold shC; rw [kka_4_0_2 hc]; rfl) ⟨Nat.le_of_ble_eq_true rfl, Nat.le_of_ble_eq_true rfl⟩ (fun h11 e12 => ?_)
  have nh11 : ((h11.1 : Nat) : Int) = c + 4 := by have := q10.1; rw [e12]; show ((h8.1 + 1 : Nat) : Int) = _; omega
  refine zj_putr (zdk ttX4_init 13 rfl rfl) zf_RX4_18 rfl ⟨ks, by omega, by omega⟩ (Or.inr ⟨rfl, zw_RX4_18⟩) (k2 := 2) rfl (fun h13 e14 => ?_)
  have q15 : zCn c 4 3 h h13 := zCn_a (k := 3) (m := 2) q10 e12 e14 (Or.inr (fun j => ⟨pa_4_0_2 (v := 0) hc (by decide) j, PI_k (kka_4_0_2 hc) ⟨Int.le_refl _, Int.le_refl _⟩⟩)) (PB_k (kk_4_0 hc) ⟨Int.le_refl _, Int.le_refl _⟩ ⟨Int.le_refl _, Int.le_refl _⟩) (by decide) (by decide) (by decide)
  refine zj_aload_n (zdk ttX4_init 14 rfl rfl) rfl (by omega) ?_
  refine zj_iconst (zdk ttX4_init 15 rfl rfl) ?_
  refine zj_puti (zdk ttX4_init 16 rfl rfl) zf_RX4_21 rfl ⟨ks, by omega, by have := q15.1; omega⟩ (Or.inl zw_RX4_21) (k2 := 3) rfl (fun h16 e17 => ?_)
  have q18 : zCn c 4 4 h h16 := zCn_i (m := 3) q15 e17 (PB_k (kk_4_0 hc) (show (0 : Int) ≤ 0 ∧ (0 : Int) ≤ 16 by decide) ⟨Int.le_refl _, Int.le_refl _⟩) (by decide) (by decide)
  exact zj_vret rfl (zdk ttX4_init 17 rfl rfl) (Nat.le_of_ble_eq_true rfl) (Nat.le_of_ble_eq_true rfl) ⟨rfl, zCn_e q18 (fun b z => ⟨PC_out (kk_4_0 hc) rfl (show (4 : Int) ≤ b by omega) (hd b), PI_out (kk_4_0 hc) rfl (show (4 : Int) ≤ b by omega) (hd b)⟩) (by decide) (by decide)⟩
abbrev tX5_init : List (Nat × Instr × Nat) := [(0, .aload_n 0, 1), (1, .invokespecial 3, 3), (4, .aload_n 0, 1), (5, .iconst 5, 1), (6, .newarray .int, 2), (8, .putfield 11, 3), (11, .aload_n 0, 1), (12, .iconst 5, 1), (13, .newarray .boolean, 2), (15, .putfield 15, 3), (18, .aload_n 0, 1), (19, .iconst 0, 1), (20, .putfield 19, 3), (23, .aload_n 0, 1), (24, .bipush 8, 2), (26, .newarray .int, 2), (28, .putfield 23, 3), (31, .aload_n 0, 1), (32, .iconst 0, 1), (33, .putfield 26, 3), (36, .aload_n 0, 1), (37, .bipush 7, 2), (39, .newarray .int, 2), (41, .putfield 29, 3), (44, .aload_n 0, 1), (45, .iconst 0, 1), (46, .putfield 32, 3), (49, .aload_n 0, 1), (50, .bipush 6, 2), (52, .newarray .int, 2), (54, .putfield 35, 3), (57, .aload_n 0, 1), (58, .bipush 6, 2), (60, .newarray .int, 2), (62, .putfield 38, 3), (65, .aload_n 0, 1), (66, .iconst 0, 1), (67, .putfield 41, 3), (70, .return_, 1)]
theorem ttX5_init : zdt cX5_init tX5_init = true := by decide +kernel
set_option maxRecDepth 100000 in
set_option maxHeartbeats 4000000 in
theorem s_X5_init (l : Launch) (h : zM) (c : Int) (hc : zPu c) (hn : (h.1 : Int) = c + 1) (hd : ∀ b, -1 ≤ h.2 c b ∧ h.2 c b ≤ 0) : zT shC l yX5_init cX5_init 1 none (rmA 1 6 37) 6 37 [.inr c] h (zqv fun h' => zPo c 7 h h') := by
  refine zT_of (by decide +kernel) (L0 := [some (.inr c)]) rfl (Nat.le_of_ble_eq_true rfl) ?_
  have hb := zPu_b hc
  have ks : shC c = .inl 5 := by unfold shC; rw [kk_5_0 hc]; rfl
  have q0 : zCn c 1 0 h h := zCn_0 hn
  refine zj_aload_n (zdk ttX5_init 0 rfl rfl) rfl (by omega) ?_
  refine zj_oinit (zdk ttX5_init 1 rfl rfl) wo_RX5 wo_i wo_c (by omega) (Nat.zero_le _) ⟨Nat.le_of_ble_eq_true rfl, Nat.le_of_ble_eq_true rfl⟩ ?_
  refine zj_aload_n (zdk ttX5_init 2 rfl rfl) rfl (by omega) ?_
  refine zj_iconst (zdk ttX5_init 3 rfl rfl) ?_
  refine zj_newi (N := 5) (zdk ttX5_init 4 rfl rfl) wa_int rfl (by decide) (by rw [show ((h.1 : Nat) : Int) = c + 1 by have := q0.1; omega]; unfold shC; rw [kka_5_0_0 hc]; rfl) ⟨Nat.le_of_ble_eq_true rfl, Nat.le_of_ble_eq_true rfl⟩ (fun h1 e2 => ?_)
  have nh1 : ((h1.1 : Nat) : Int) = c + 2 := by have := q0.1; rw [e2]; show ((h.1 + 1 : Nat) : Int) = _; omega
  refine zj_putr (zdk ttX5_init 5 rfl rfl) zf_RX5_11 rfl ⟨ks, by omega, by omega⟩ (Or.inr ⟨rfl, zw_RX5_11⟩) (k2 := 0) rfl (fun h3 e4 => ?_)
  have q5 : zCn c 2 1 h h3 := zCn_a (k := 1) (m := 0) q0 e2 e4 (Or.inr (fun j => ⟨pa_5_0_0 (v := 0) hc (by decide) j, PI_k (kka_5_0_0 hc) ⟨Int.le_refl _, Int.le_refl _⟩⟩)) (PB_k (kk_5_0 hc) ⟨Int.le_refl _, Int.le_refl _⟩ ⟨Int.le_refl _, Int.le_refl _⟩) (by decide) (by decide) (by decide)
  refine zj_aload_n (zdk ttX5_init 6 rfl rfl) rfl (by omega) ?_
  refine zj_iconst (zdk ttX5_init 7 rfl rfl) ?_
  refine zj_newz (N := 5) (zdk ttX5_init 8 rfl rfl) wa_bool rfl (by decide) (by rw [show ((h3.1 : Nat) : Int) = c + 2 by have := q5.1; omega]; unfold shC; rw [kka_5_0_1 hc]; rfl) ⟨Nat.le_of_ble_eq_true rfl, Nat.le_of_ble_eq_true rfl⟩ (fun h6 e7 => ?_)
  have nh6 : ((h6.1 : Nat) : Int) = c + 3 := by have := q5.1; rw [e7]; show ((h3.1 + 1 : Nat) : Int) = _; omega
  refine zj_putr (zdk ttX5_init 9 rfl rfl) zf_RX5_15 rfl ⟨ks, by omega, by omega⟩ (Or.inr ⟨rfl, zw_RX5_15⟩) (k2 := 1) rfl (fun h8 e9 => ?_)
  have q10 : zCn c 3 2 h h8 := zCn_a (k := 2) (m := 1) q5 e7 e9 (Or.inr (fun j => ⟨pa_5_0_1 (v := 0) hc (by decide) j, PI_k (kka_5_0_1 hc) ⟨Int.le_refl _, Int.le_refl _⟩⟩)) (PB_k (kk_5_0 hc) ⟨Int.le_refl _, Int.le_refl _⟩ ⟨Int.le_refl _, Int.le_refl _⟩) (by decide) (by decide) (by decide)
  refine zj_aload_n (zdk ttX5_init 10 rfl rfl) rfl (by omega) ?_
  refine zj_iconst (zdk ttX5_init 11 rfl rfl) ?_
  refine zj_puti (zdk ttX5_init 12 rfl rfl) zf_RX5_19 rfl ⟨ks, by omega, by have := q10.1; omega⟩ (Or.inl zw_RX5_19) (k2 := 2) rfl (fun h11 e12 => ?_)
  have q13 : zCn c 3 3 h h11 := zCn_i (m := 2) q10 e12 (PB_k (kk_5_0 hc) (show (0 : Int) ≤ 0 ∧ (0 : Int) ≤ 5 by decide) ⟨Int.le_refl _, Int.le_refl _⟩) (by decide) (by decide)
  refine zj_aload_n (zdk ttX5_init 13 rfl rfl) rfl (by omega) ?_
  refine zj_bipush (zdk ttX5_init 14 rfl rfl) (by decide) ?_
  refine zj_newi (N := 8) (zdk ttX5_init 15 rfl rfl) wa_int rfl (by decide) (by rw [show ((h11.1 : Nat) : Int) = c + 3 by have := q13.1; omega]; unfold shC; rw [kka_5_0_3 hc]; rfl) ⟨Nat.le_of_ble_eq_true rfl, Nat.le_of_ble_eq_true rfl⟩ (fun h14 e15 => ?_)
  have nh14 : ((h14.1 : Nat) : Int) = c + 4 := by have := q13.1; rw [e15]; show ((h11.1 + 1 : Nat) : Int) = _; omega
  refine zj_putr (zdk ttX5_init 16 rfl rfl) zf_RX5_23 rfl ⟨ks, by omega, by omega⟩ (Or.inr ⟨rfl, zw_RX5_23⟩) (k2 := 3) rfl (fun h16 e17 => ?_)
  have q18 : zCn c 4 4 h h16 := zCn_a (k := 3) (m := 3) q13 e15 e17 (Or.inr (fun j => ⟨pa_5_0_3 (v := 0) hc (by decide) j, PI_k (kka_5_0_3 hc) ⟨Int.le_refl _, Int.le_refl _⟩⟩)) (PB_k (kk_5_0 hc) ⟨Int.le_refl _, Int.le_refl _⟩ ⟨Int.le_refl _, Int.le_refl _⟩) (by decide) (by decide) (by decide)
  refine zj_aload_n (zdk ttX5_init 17 rfl rfl) rfl (by omega) ?_
  refine zj_iconst (zdk ttX5_init 18 rfl rfl) ?_
  refine zj_puti (zdk ttX5_init 19 rfl rfl) zf_RX5_26 rfl ⟨ks, by omega, by have := q18.1; omega⟩ (Or.inl zw_RX5_26) (k2 := 4) rfl (fun h19 e20 => ?_)
  have q21 : zCn c 4 5 h h19 := zCn_i (m := 4) q18 e20 (PB_k (kk_5_0 hc) (show (0 : Int) ≤ 0 ∧ (0 : Int) ≤ 8 by decide) ⟨Int.le_refl _, Int.le_refl _⟩) (by decide) (by decide)
  refine zj_aload_n (zdk ttX5_init 20 rfl rfl) rfl (by omega) ?_
  refine zj_bipush (zdk ttX5_init 21 rfl rfl) (by decide) ?_
  refine zj_newi (N := 7) (zdk ttX5_init 22 rfl rfl) wa_int rfl (by decide) (by rw [show ((h19.1 : Nat) : Int) = c + 4 by have := q21.1; omega]; unfold shC; rw [kka_5_0_5 hc]; rfl) ⟨Nat.le_of_ble_eq_true rfl, Nat.le_of_ble_eq_true rfl⟩ (fun h22 e23 => ?_)
  have nh22 : ((h22.1 : Nat) : Int) = c + 5 := by have := q21.1; rw [e23]; show ((h19.1 + 1 : Nat) : Int) = _; omega
  refine zj_putr (zdk ttX5_init 23 rfl rfl) zf_RX5_29 rfl ⟨ks, by omega, by omega⟩ (Or.inr ⟨rfl, zw_RX5_29⟩) (k2 := 5) rfl (fun h24 e25 => ?_)
  have q26 : zCn c 5 6 h h24 := zCn_a (k := 4) (m := 5) q21 e23 e25 (Or.inr (fun j => ⟨pa_5_0_5 (v := 0) hc (by decide) j, PI_k (kka_5_0_5 hc) ⟨Int.le_refl _, Int.le_refl _⟩⟩)) (PB_k (kk_5_0 hc) ⟨Int.le_refl _, Int.le_refl _⟩ ⟨Int.le_refl _, Int.le_refl _⟩) (by decide) (by decide) (by decide)
  refine zj_aload_n (zdk ttX5_init 24 rfl rfl) rfl (by omega) ?_
  refine zj_iconst (zdk ttX5_init 25 rfl rfl) ?_
  refine zj_puti (zdk ttX5_init 26 rfl rfl) zf_RX5_32 rfl ⟨ks, by omega, by have := q26.1; omega⟩ (Or.inl zw_RX5_32) (k2 := 6) rfl (fun h27 e28 => ?_)
  have q29 : zCn c 5 7 h h27 := zCn_i (m := 6) q26 e28 (PB_k (kk_5_0 hc) (show (0 : Int) ≤ 0 ∧ (0 : Int) ≤ 7 by decide) ⟨Int.le_refl _, Int.le_refl _⟩) (by decide) (by decide)
  refine zj_aload_n (zdk ttX5_init 27 rfl rfl) rfl (by omega) ?_
  refine zj_bipush (zdk ttX5_init 28 rfl rfl) (by decide) ?_
  refine zj_newi (N := 6) (zdk ttX5_init 29 rfl rfl) wa_int rfl (by decide) (by rw [show ((h27.1 : Nat) : Int) = c + 5 by have := q29.1; omega]; unfold shC; rw [kka_5_0_7 hc]; rfl) ⟨Nat.le_of_ble_eq_true rfl, Nat.le_of_ble_eq_true rfl⟩ (fun h30 e31 => ?_)
  have nh30 : ((h30.1 : Nat) : Int) = c + 6 := by have := q29.1; rw [e31]; show ((h27.1 + 1 : Nat) : Int) = _; omega
  refine zj_putr (zdk ttX5_init 30 rfl rfl) zf_RX5_35 rfl ⟨ks, by omega, by omega⟩ (Or.inr ⟨rfl, zw_RX5_35⟩) (k2 := 7) rfl (fun h32 e33 => ?_)
  have q34 : zCn c 6 8 h h32 := zCn_a (k := 5) (m := 7) q29 e31 e33 (Or.inr (fun j => ⟨pa_5_0_7 (v := 0) hc (by decide) j, PI_k (kka_5_0_7 hc) ⟨Int.le_refl _, Int.le_refl _⟩⟩)) (PB_k (kk_5_0 hc) ⟨Int.le_refl _, Int.le_refl _⟩ ⟨Int.le_refl _, Int.le_refl _⟩) (by decide) (by decide) (by decide)
  refine zj_aload_n (zdk ttX5_init 31 rfl rfl) rfl (by omega) ?_
  refine zj_bipush (zdk ttX5_init 32 rfl rfl) (by decide) ?_
  refine zj_newi (N := 6) (zdk ttX5_init 33 rfl rfl) wa_int rfl (by decide) (by rw [show ((h32.1 : Nat) : Int) = c + 6 by have := q34.1; omega]; unfold shC; rw [kka_5_0_8 hc]; rfl) ⟨Nat.le_of_ble_eq_true rfl, Nat.le_of_ble_eq_true rfl⟩ (fun h35 e36 => ?_)
  have nh35 : ((h35.1 : Nat) : Int) = c + 7 := by have := q34.1; rw [e36]; show ((h32.1 + 1 : Nat) : Int) = _; omega
  refine zj_putr (zdk ttX5_init 34 rfl rfl) zf_RX5_38 rfl ⟨ks, by omega, by omega⟩ (Or.inr ⟨rfl, zw_RX5_38⟩) (k2 := 8) rfl (fun h37 e38 => ?_)
  have q39 : zCn c 7 9 h h37 := zCn_a (k := 6) (m := 8) q34 e36 e38 (Or.inr (fun j => ⟨pa_5_0_8 (v := 0) hc (by decide) j, PI_k (kka_5_0_8 hc) ⟨Int.le_refl _, Int.le_refl _⟩⟩)) (PB_k (kk_5_0 hc) ⟨Int.le_refl _, Int.le_refl _⟩ ⟨Int.le_refl _, Int.le_refl _⟩) (by decide) (by decide) (by decide)
  refine zj_aload_n (zdk ttX5_init 35 rfl rfl) rfl (by omega) ?_
  refine zj_iconst (zdk ttX5_init 36 rfl rfl) ?_
  refine zj_puti (zdk ttX5_init 37 rfl rfl) zf_RX5_41 rfl ⟨ks, by omega, by have := q39.1; omega⟩ (Or.inl zw_RX5_41) (k2 := 9) rfl (fun h40 e41 => ?_)
  have q42 : zCn c 7 10 h h40 := zCn_i (m := 9) q39 e41 (PB_k (kk_5_0 hc) (show (0 : Int) ≤ 0 ∧ (0 : Int) ≤ 6 by decide) ⟨Int.le_refl _, Int.le_refl _⟩) (by decide) (by decide)
  exact zj_vret rfl (zdk ttX5_init 38 rfl rfl) (Nat.le_of_ble_eq_true rfl) (Nat.le_of_ble_eq_true rfl) ⟨rfl, zCn_e q42 (fun b z => ⟨PC_out (kk_5_0 hc) rfl (show (10 : Int) ≤ b by omega) (hd b), PI_out (kk_5_0 hc) rfl (show (10 : Int) ≤ b by omega) (hd b)⟩) (by decide) (by decide)⟩
abbrev tX6_init : List (Nat × Instr × Nat) := [(0, .aload_n 0, 1), (1, .invokespecial 3, 3), (4, .aload_n 0, 1), (5, .sipush 400, 3), (8, .newarray .int, 2), (10, .putfield 11, 3), (13, .aload_n 0, 1), (14, .sipush 401, 3), (17, .newarray .int, 2), (19, .putfield 15, 3), (22, .aload_n 0, 1), (23, .sipush 401, 3), (26, .newarray .int, 2), (28, .putfield 18, 3), (31, .aload_n 0, 1), (32, .iconst 0, 1), (33, .putfield 21, 3), (36, .aload_n 0, 1), (37, .iconst 0, 1), (38, .putfield 25, 3), (41, .aload_n 0, 1), (42, .iconst 0, 1), (43, .putfield 28, 3), (46, .aload_n 0, 1), (47, .iconst 0, 1), (48, .putfield 31, 3), (51, .aload_n 0, 1), (52, .iconst 0, 1), (53, .putfield 34, 3), (56, .aload_n 0, 1), (57, .iconst (-1), 1), (58, .putfield 37, 3), (61, .aload_n 0, 1), (62, .iconst 0, 1), (63, .putfield 40, 3), (66, .return_, 1)]
theorem ttX6_init : zdt cX6_init tX6_init = true := by decide +kernel
set_option maxRecDepth 100000 in
set_option maxHeartbeats 4000000 in
theorem s_X6_init (l : Launch) (h : zM) (hn : (h.1 : Int) = 103 + 1) (hd : ∀ b, -1 ≤ h.2 103 b ∧ h.2 103 b ≤ 0) : zT shC l yX6_init cX6_init 1 none (rmA 1 3 1202) 3 1202 [.inr 103] h (zqv fun h' => zPo 103 4 h h') := by
  refine zT_of (by decide +kernel) (L0 := [some (.inr 103)]) rfl (Nat.le_of_ble_eq_true rfl) ?_
  have ks : shC 103 = .inl 6 := by unfold shC; rw [kk_L103]; rfl
  have q0 : zCn 103 1 0 h h := zCn_0 hn
  refine zj_aload_n (zdk ttX6_init 0 rfl rfl) rfl (by decide) ?_
  refine zj_oinit (zdk ttX6_init 1 rfl rfl) wo_RX6 wo_i wo_c (by decide) (Nat.zero_le _) ⟨Nat.le_of_ble_eq_true rfl, Nat.le_of_ble_eq_true rfl⟩ ?_
  refine zj_aload_n (zdk ttX6_init 2 rfl rfl) rfl (by decide) ?_
  refine zj_sipush (zdk ttX6_init 3 rfl rfl) (by decide) ?_
  refine zj_newi (N := 400) (zdk ttX6_init 4 rfl rfl) wa_int rfl (by decide) (by rw [show ((h.1 : Nat) : Int) = 104 by have := q0.1; omega]; decide +kernel) ⟨Nat.le_of_ble_eq_true rfl, Nat.le_of_ble_eq_true rfl⟩ (fun h1 e2 => ?_)
  have nh1 : ((h1.1 : Nat) : Int) = 103 + 2 := by have := q0.1; rw [e2]; show ((h.1 + 1 : Nat) : Int) = _; omega
  refine zj_putr (zdk ttX6_init 5 rfl rfl) zf_RX6_11 rfl ⟨ks, by omega, by omega⟩ (Or.inr ⟨rfl, zw_RX6_11⟩) (k2 := 0) rfl (fun h3 e4 => ?_)
  have q5 : zCn 103 2 1 h h3 := zCn_a (k := 1) (m := 0) q0 e2 e4 (Or.inr (fun j => ⟨pa_L103_0 (v := 0) (by decide) j, PI_k (kka_L103_0) ⟨Int.le_refl _, Int.le_refl _⟩⟩)) (PB_k (kk_L103) ⟨Int.le_refl _, Int.le_refl _⟩ ⟨Int.le_refl _, Int.le_refl _⟩) (by decide) (by decide) (by decide)
  refine zj_aload_n (zdk ttX6_init 6 rfl rfl) rfl (by decide) ?_
  refine zj_sipush (zdk ttX6_init 7 rfl rfl) (by decide) ?_
  refine zj_newi (N := 401) (zdk ttX6_init 8 rfl rfl) wa_int rfl (by decide) (by rw [show ((h3.1 : Nat) : Int) = 105 by have := q5.1; omega]; decide +kernel) ⟨Nat.le_of_ble_eq_true rfl, Nat.le_of_ble_eq_true rfl⟩ (fun h6 e7 => ?_)
  have nh6 : ((h6.1 : Nat) : Int) = 103 + 3 := by have := q5.1; rw [e7]; show ((h3.1 + 1 : Nat) : Int) = _; omega
  refine zj_putr (zdk ttX6_init 9 rfl rfl) zf_RX6_15 rfl ⟨ks, by omega, by omega⟩ (Or.inr ⟨rfl, zw_RX6_15⟩) (k2 := 1) rfl (fun h8 e9 => ?_)
  have q10 : zCn 103 3 2 h h8 := zCn_a (k := 2) (m := 1) q5 e7 e9 (Or.inr (fun j => ⟨pa_L103_1 (v := 0) (by decide) j, PI_k (kka_L103_1) ⟨Int.le_refl _, Int.le_refl _⟩⟩)) (PB_k (kk_L103) ⟨Int.le_refl _, Int.le_refl _⟩ ⟨Int.le_refl _, Int.le_refl _⟩) (by decide) (by decide) (by decide)
  refine zj_aload_n (zdk ttX6_init 10 rfl rfl) rfl (by decide) ?_
  refine zj_sipush (zdk ttX6_init 11 rfl rfl) (by decide) ?_
  refine zj_newi (N := 401) (zdk ttX6_init 12 rfl rfl) wa_int rfl (by decide) (by rw [show ((h8.1 : Nat) : Int) = 106 by have := q10.1; omega]; decide +kernel) ⟨Nat.le_of_ble_eq_true rfl, Nat.le_of_ble_eq_true rfl⟩ (fun h11 e12 => ?_)
  have nh11 : ((h11.1 : Nat) : Int) = 103 + 4 := by have := q10.1; rw [e12]; show ((h8.1 + 1 : Nat) : Int) = _; omega
  refine zj_putr (zdk ttX6_init 13 rfl rfl) zf_RX6_18 rfl ⟨ks, by omega, by omega⟩ (Or.inr ⟨rfl, zw_RX6_18⟩) (k2 := 2) rfl (fun h13 e14 => ?_)
  have q15 : zCn 103 4 3 h h13 := zCn_a (k := 3) (m := 2) q10 e12 e14 (Or.inr (fun j => ⟨pa_L103_2 (v := 0) (by decide) j, PI_k (kka_L103_2) ⟨Int.le_refl _, Int.le_refl _⟩⟩)) (PB_k (kk_L103) ⟨Int.le_refl _, Int.le_refl _⟩ ⟨Int.le_refl _, Int.le_refl _⟩) (by decide) (by decide) (by decide)
  refine zj_aload_n (zdk ttX6_init 14 rfl rfl) rfl (by decide) ?_
  refine zj_iconst (zdk ttX6_init 15 rfl rfl) ?_
  refine zj_puti (zdk ttX6_init 16 rfl rfl) zf_RX6_21 rfl ⟨ks, by omega, by have := q15.1; omega⟩ (Or.inl zw_RX6_21) (k2 := 3) rfl (fun h16 e17 => ?_)
  have q18 : zCn 103 4 4 h h16 := zCn_i (m := 3) q15 e17 (PB_k (kk_L103) (show (0 : Int) ≤ 0 ∧ (0 : Int) ≤ 400 by decide) ⟨Int.le_refl _, Int.le_refl _⟩) (by decide) (by decide)
  refine zj_aload_n (zdk ttX6_init 17 rfl rfl) rfl (by decide) ?_
  refine zj_iconst (zdk ttX6_init 18 rfl rfl) ?_
  refine zj_puti (zdk ttX6_init 19 rfl rfl) zf_RX6_25 rfl ⟨ks, by omega, by have := q18.1; omega⟩ (Or.inl zw_RX6_25) (k2 := 4) rfl (fun h19 e20 => ?_)
  have q21 : zCn 103 4 5 h h19 := zCn_i (m := 4) q18 e20 (PB_k (kk_L103) (show (0 : Int) ≤ 0 ∧ (0 : Int) ≤ 401 by decide) ⟨Int.le_refl _, Int.le_refl _⟩) (by decide) (by decide)
  refine zj_aload_n (zdk ttX6_init 20 rfl rfl) rfl (by decide) ?_
  refine zj_iconst (zdk ttX6_init 21 rfl rfl) ?_
  refine zj_puti (zdk ttX6_init 22 rfl rfl) zf_RX6_28 rfl ⟨ks, by omega, by have := q21.1; omega⟩ (Or.inl zw_RX6_28) (k2 := 5) rfl (fun h22 e23 => ?_)
  have q24 : zCn 103 4 6 h h22 := zCn_i (m := 5) q21 e23 (PB_k (kk_L103) (show (0 : Int) ≤ 0 ∧ (0 : Int) ≤ 400 by decide) ⟨Int.le_refl _, Int.le_refl _⟩) (by decide) (by decide)
  refine zj_aload_n (zdk ttX6_init 23 rfl rfl) rfl (by decide) ?_
  refine zj_iconst (zdk ttX6_init 24 rfl rfl) ?_
  refine zj_puti (zdk ttX6_init 25 rfl rfl) zf_RX6_31 rfl ⟨ks, by omega, by have := q24.1; omega⟩ (Or.inl zw_RX6_31) (k2 := 6) rfl (fun h25 e26 => ?_)
  have q27 : zCn 103 4 7 h h25 := zCn_i (m := 6) q24 e26 (PB_k (kk_L103) (show ((-2147483648) : Int) ≤ 0 ∧ (0 : Int) ≤ 2147483647 by decide) ⟨Int.le_refl _, Int.le_refl _⟩) (by decide) (by decide)
  refine zj_aload_n (zdk ttX6_init 26 rfl rfl) rfl (by decide) ?_
  refine zj_iconst (zdk ttX6_init 27 rfl rfl) ?_
  refine zj_puti (zdk ttX6_init 28 rfl rfl) zf_RX6_34 rfl ⟨ks, by omega, by have := q27.1; omega⟩ (Or.inl zw_RX6_34) (k2 := 7) rfl (fun h28 e29 => ?_)
  have q30 : zCn 103 4 8 h h28 := zCn_i (m := 7) q27 e29 (PB_k (kk_L103) (show ((-2147483648) : Int) ≤ 0 ∧ (0 : Int) ≤ 2147483647 by decide) ⟨Int.le_refl _, Int.le_refl _⟩) (by decide) (by decide)
  refine zj_aload_n (zdk ttX6_init 29 rfl rfl) rfl (by decide) ?_
  refine zj_iconst (zdk ttX6_init 30 rfl rfl) ?_
  refine zj_puti (zdk ttX6_init 31 rfl rfl) zf_RX6_37 rfl ⟨ks, by omega, by have := q30.1; omega⟩ (Or.inl zw_RX6_37) (k2 := 8) rfl (fun h31 e32 => ?_)
  have q33 : zCn 103 4 9 h h31 := zCn_i (m := 8) q30 e32 (PB_k (kk_L103) (show ((-2147483648) : Int) ≤ (-1) ∧ ((-1) : Int) ≤ 2147483647 by decide) ⟨Int.le_refl _, Int.le_refl _⟩) (by decide) (by decide)
  refine zj_aload_n (zdk ttX6_init 32 rfl rfl) rfl (by decide) ?_
  refine zj_iconst (zdk ttX6_init 33 rfl rfl) ?_
  refine zj_puti (zdk ttX6_init 34 rfl rfl) zf_RX6_40 rfl ⟨ks, by omega, by have := q33.1; omega⟩ (Or.inl zw_RX6_40) (k2 := 9) rfl (fun h34 e35 => ?_)
  have q36 : zCn 103 4 10 h h34 := zCn_i (m := 9) q33 e35 (PB_k (kk_L103) (show ((-2147483648) : Int) ≤ 0 ∧ (0 : Int) ≤ 2147483647 by decide) ⟨Int.le_refl _, Int.le_refl _⟩) (by decide) (by decide)
  exact zj_vret rfl (zdk ttX6_init 35 rfl rfl) (Nat.le_of_ble_eq_true rfl) (Nat.le_of_ble_eq_true rfl) ⟨rfl, zCn_e q36 (fun b z => ⟨PC_out (kk_L103) rfl (show (10 : Int) ≤ b by omega) (hd b), PI_out (kk_L103) rfl (show (10 : Int) ≤ b by omega) (hd b)⟩) (by decide) (by decide)⟩
abbrev tX7_init : List (Nat × Instr × Nat) := [(0, .aload_n 0, 1), (1, .invokespecial 3, 3), (4, .aload_n 0, 1), (5, .aload_n 1, 1), (6, .putfield 9, 3), (9, .return_, 1)]
theorem ttX7_init : zdt cX7_init tX7_init = true := by decide +kernel
set_option maxRecDepth 100000 in
set_option maxHeartbeats 4000000 in
theorem s_X7_init (l : Launch) (h : zM) (hn : (h.1 : Int) = 107 + 1) (hd : ∀ b, -1 ≤ h.2 107 b ∧ h.2 107 b ≤ 0) : zT shC l yX7_init cX7_init 2 none (rmA 1 0 0) 0 0 [.inr 107, .inr 103] h (zqv fun h' => zPo 107 1 h h') := by
  refine zT_of (by decide +kernel) (L0 := [some (.inr 107), some (.inr 103)]) rfl (Nat.le_of_ble_eq_true rfl) ?_
  have ks : shC 107 = .inl 7 := by unfold shC; rw [kk_L107]; rfl
  have q0 : zCn 107 1 0 h h := zCn_0 hn
  refine zj_aload_n (zdk ttX7_init 0 rfl rfl) rfl (by decide) ?_
  refine zj_oinit (zdk ttX7_init 1 rfl rfl) wo_RX7 wo_i wo_c (by decide) (Nat.zero_le _) ⟨Nat.le_of_ble_eq_true rfl, Nat.le_of_ble_eq_true rfl⟩ ?_
  refine zj_aload_n (zdk ttX7_init 2 rfl rfl) rfl (by decide) ?_
  refine zj_aload_n (zdk ttX7_init 3 rfl rfl) rfl (by decide) ?_
  refine zj_putr (zdk ttX7_init 4 rfl rfl) zf_RX7_9 rfl ⟨ks, by omega, by have := q0.1; omega⟩ (Or.inr ⟨rfl, zw_RX7_9⟩) (k2 := 0) rfl (fun h1 e2 => ?_)
  have q3 : zCn 107 1 1 h h1 := zCn_i (m := 0) q0 e2 (PB_k (kk_L107) ⟨Int.le_refl _, Int.le_refl _⟩ ⟨Int.le_refl _, Int.le_refl _⟩) (by decide) (by decide)
  exact zj_vret rfl (zdk ttX7_init 5 rfl rfl) (Nat.le_of_ble_eq_true rfl) (Nat.le_of_ble_eq_true rfl) ⟨rfl, zCn_e q3 (fun b z => ⟨PC_out (kk_L107) rfl (show (1 : Int) ≤ b by omega) (hd b), PI_out (kk_L107) rfl (show (1 : Int) ≤ b by omega) (hd b)⟩) (by decide) (by decide)⟩
abbrev tX8_init : List (Nat × Instr × Nat) := [(0, .aload_n 0, 1), (1, .invokespecial 5, 3), (4, .aload_n 0, 1), (5, .bipush 60, 2), (7, .newarray .int, 2), (9, .putfield 11, 3), (12, .aload_n 0, 1), (13, .bipush 8, 2), (15, .newarray .int, 2), (17, .putfield 15, 3), (20, .aload_n 0, 1), (21, .sipush 128, 3), (24, .newarray .int, 2), (26, .putfield 18, 3), (29, .aload_n 0, 1), (30, .sipush 128, 3), (33, .newarray .int, 2), (35, .putfield 21, 3), (38, .aload_n 0, 1), (39, .sipush 1984, 3), (42, .newarray .int, 2), (44, .putfield 24, 3), (47, .return_, 1)]
theorem ttX8_init : zdt cX8_init tX8_init = true := by decide +kernel
set_option maxRecDepth 100000 in
set_option maxHeartbeats 4000000 in
theorem s_X8_init (l : Launch) (h : zM) (hn : (h.1 : Int) = 108 + 1) (hd : ∀ b, -1 ≤ h.2 108 b ∧ h.2 108 b ≤ 0) : zT shC l yX8_init cX8_init 1 none (rmA 1 5 2308) 5 2308 [.inr 108] h (zqv fun h' => zPo 108 6 h h') := by
  refine zT_of (by decide +kernel) (L0 := [some (.inr 108)]) rfl (Nat.le_of_ble_eq_true rfl) ?_
  have ks : shC 108 = .inl 8 := by unfold shC; rw [kk_L108]; rfl
  have q0 : zCn 108 1 0 h h := zCn_0 hn
  refine zj_aload_n (zdk ttX8_init 0 rfl rfl) rfl (by decide) ?_
  refine zj_oinit (zdk ttX8_init 1 rfl rfl) wo_RX8 wo_i wo_c (by decide) (Nat.zero_le _) ⟨Nat.le_of_ble_eq_true rfl, Nat.le_of_ble_eq_true rfl⟩ ?_
  refine zj_aload_n (zdk ttX8_init 2 rfl rfl) rfl (by decide) ?_
  refine zj_bipush (zdk ttX8_init 3 rfl rfl) (by decide) ?_
  refine zj_newi (N := 60) (zdk ttX8_init 4 rfl rfl) wa_int rfl (by decide) (by rw [show ((h.1 : Nat) : Int) = 109 by have := q0.1; omega]; decide +kernel) ⟨Nat.le_of_ble_eq_true rfl, Nat.le_of_ble_eq_true rfl⟩ (fun h1 e2 => ?_)
  have nh1 : ((h1.1 : Nat) : Int) = 108 + 2 := by have := q0.1; rw [e2]; show ((h.1 + 1 : Nat) : Int) = _; omega
  refine zj_putr (zdk ttX8_init 5 rfl rfl) zf_RX8_11 rfl ⟨ks, by omega, by omega⟩ (Or.inr ⟨rfl, zw_RX8_11⟩) (k2 := 0) rfl (fun h3 e4 => ?_)
  have q5 : zCn 108 2 1 h h3 := zCn_a (k := 1) (m := 0) q0 e2 e4 (Or.inr (fun j => ⟨pa_L108_0 (v := 0) (by decide) j, PI_k (kka_L108_0) ⟨Int.le_refl _, Int.le_refl _⟩⟩)) (PB_k (kk_L108) ⟨Int.le_refl _, Int.le_refl _⟩ ⟨Int.le_refl _, Int.le_refl _⟩) (by decide) (by decide) (by decide)
  refine zj_aload_n (zdk ttX8_init 6 rfl rfl) rfl (by decide) ?_
  refine zj_bipush (zdk ttX8_init 7 rfl rfl) (by decide) ?_
  refine zj_newi (N := 8) (zdk ttX8_init 8 rfl rfl) wa_int rfl (by decide) (by rw [show ((h3.1 : Nat) : Int) = 110 by have := q5.1; omega]; decide +kernel) ⟨Nat.le_of_ble_eq_true rfl, Nat.le_of_ble_eq_true rfl⟩ (fun h6 e7 => ?_)
  have nh6 : ((h6.1 : Nat) : Int) = 108 + 3 := by have := q5.1; rw [e7]; show ((h3.1 + 1 : Nat) : Int) = _; omega
  refine zj_putr (zdk ttX8_init 9 rfl rfl) zf_RX8_15 rfl ⟨ks, by omega, by omega⟩ (Or.inr ⟨rfl, zw_RX8_15⟩) (k2 := 1) rfl (fun h8 e9 => ?_)
  have q10 : zCn 108 3 2 h h8 := zCn_a (k := 2) (m := 1) q5 e7 e9 (Or.inr (fun j => ⟨pa_L108_1 (v := 0) (by decide) j, PI_k (kka_L108_1) ⟨Int.le_refl _, Int.le_refl _⟩⟩)) (PB_k (kk_L108) ⟨Int.le_refl _, Int.le_refl _⟩ ⟨Int.le_refl _, Int.le_refl _⟩) (by decide) (by decide) (by decide)
  refine zj_aload_n (zdk ttX8_init 10 rfl rfl) rfl (by decide) ?_
  refine zj_sipush (zdk ttX8_init 11 rfl rfl) (by decide) ?_
  refine zj_newi (N := 128) (zdk ttX8_init 12 rfl rfl) wa_int rfl (by decide) (by rw [show ((h8.1 : Nat) : Int) = 111 by have := q10.1; omega]; decide +kernel) ⟨Nat.le_of_ble_eq_true rfl, Nat.le_of_ble_eq_true rfl⟩ (fun h11 e12 => ?_)
  have nh11 : ((h11.1 : Nat) : Int) = 108 + 4 := by have := q10.1; rw [e12]; show ((h8.1 + 1 : Nat) : Int) = _; omega
  refine zj_putr (zdk ttX8_init 13 rfl rfl) zf_RX8_18 rfl ⟨ks, by omega, by omega⟩ (Or.inr ⟨rfl, zw_RX8_18⟩) (k2 := 2) rfl (fun h13 e14 => ?_)
  have q15 : zCn 108 4 3 h h13 := zCn_a (k := 3) (m := 2) q10 e12 e14 (Or.inr (fun j => ⟨pa_L108_2 (v := 0) (by decide) j, PI_k (kka_L108_2) ⟨Int.le_refl _, Int.le_refl _⟩⟩)) (PB_k (kk_L108) ⟨Int.le_refl _, Int.le_refl _⟩ ⟨Int.le_refl _, Int.le_refl _⟩) (by decide) (by decide) (by decide)
  refine zj_aload_n (zdk ttX8_init 14 rfl rfl) rfl (by decide) ?_
  refine zj_sipush (zdk ttX8_init 15 rfl rfl) (by decide) ?_
  refine zj_newi (N := 128) (zdk ttX8_init 16 rfl rfl) wa_int rfl (by decide) (by rw [show ((h13.1 : Nat) : Int) = 112 by have := q15.1; omega]; decide +kernel) ⟨Nat.le_of_ble_eq_true rfl, Nat.le_of_ble_eq_true rfl⟩ (fun h16 e17 => ?_)
  have nh16 : ((h16.1 : Nat) : Int) = 108 + 5 := by have := q15.1; rw [e17]; show ((h13.1 + 1 : Nat) : Int) = _; omega
  refine zj_putr (zdk ttX8_init 17 rfl rfl) zf_RX8_21 rfl ⟨ks, by omega, by omega⟩ (Or.inr ⟨rfl, zw_RX8_21⟩) (k2 := 3) rfl (fun h18 e19 => ?_)
  have q20 : zCn 108 5 4 h h18 := zCn_a (k := 4) (m := 3) q15 e17 e19 (Or.inr (fun j => ⟨pa_L108_3 (v := 0) (by decide) j, PI_k (kka_L108_3) ⟨Int.le_refl _, Int.le_refl _⟩⟩)) (PB_k (kk_L108) ⟨Int.le_refl _, Int.le_refl _⟩ ⟨Int.le_refl _, Int.le_refl _⟩) (by decide) (by decide) (by decide)
  refine zj_aload_n (zdk ttX8_init 18 rfl rfl) rfl (by decide) ?_
  refine zj_sipush (zdk ttX8_init 19 rfl rfl) (by decide) ?_
  refine zj_newi (N := 1984) (zdk ttX8_init 20 rfl rfl) wa_int rfl (by decide) (by rw [show ((h18.1 : Nat) : Int) = 113 by have := q20.1; omega]; decide +kernel) ⟨Nat.le_of_ble_eq_true rfl, Nat.le_of_ble_eq_true rfl⟩ (fun h21 e22 => ?_)
  have nh21 : ((h21.1 : Nat) : Int) = 108 + 6 := by have := q20.1; rw [e22]; show ((h18.1 + 1 : Nat) : Int) = _; omega
  refine zj_putr (zdk ttX8_init 21 rfl rfl) zf_RX8_24 rfl ⟨ks, by omega, by omega⟩ (Or.inr ⟨rfl, zw_RX8_24⟩) (k2 := 4) rfl (fun h23 e24 => ?_)
  have q25 : zCn 108 6 5 h h23 := zCn_a (k := 5) (m := 4) q20 e22 e24 (Or.inr (fun j => ⟨pa_L108_4 (v := 0) (by decide) j, PI_k (kka_L108_4) ⟨Int.le_refl _, Int.le_refl _⟩⟩)) (PB_k (kk_L108) ⟨Int.le_refl _, Int.le_refl _⟩ ⟨Int.le_refl _, Int.le_refl _⟩) (by decide) (by decide) (by decide)
  exact zj_vret rfl (zdk ttX8_init 22 rfl rfl) (Nat.le_of_ble_eq_true rfl) (Nat.le_of_ble_eq_true rfl) ⟨rfl, zCn_e q25 (fun b z => ⟨PC_out (kk_L108) rfl (show (5 : Int) ≤ b by omega) (hd b), PI_out (kk_L108) rfl (show (5 : Int) ≤ b by omega) (hd b)⟩) (by decide) (by decide)⟩
abbrev tX9_init : List (Nat × Instr × Nat) := [(0, .aload_n 0, 1), (1, .invokespecial 3, 3), (4, .aload_n 0, 1), (5, .new 9, 3), (8, .dup, 1), (9, .invokespecial 11, 3), (12, .putfield 12, 3), (15, .aload_n 0, 1), (16, .new 18, 3), (19, .dup, 1), (20, .invokespecial 20, 3), (23, .putfield 21, 3), (26, .aload_n 0, 1), (27, .new 25, 3), (30, .dup, 1), (31, .invokespecial 27, 3), (34, .putfield 28, 3), (37, .aload_n 0, 1), (38, .new 25, 3), (41, .dup, 1), (42, .invokespecial 27, 3), (45, .putfield 32, 3), (48, .aload_n 0, 1), (49, .new 35, 3), (52, .dup, 1), (53, .invokespecial 37, 3), (56, .putfield 38, 3), (59, .aload_n 0, 1), (60, .new 42, 3), (63, .dup, 1), (64, .invokespecial 44, 3), (67, .putfield 45, 3), (70, .aload_n 0, 1), (71, .new 49, 3), (74, .dup, 1), (75, .invokespecial 51, 3), (78, .putfield 52, 3), (81, .return_, 1)]
theorem ttX9_init : zdt cX9_init tX9_init = true := by decide +kernel
set_option maxRecDepth 100000 in
set_option maxHeartbeats 4000000 in
theorem s_X9_init (l : Launch) (h : zM) (c : Int) (hc : zWd c) (hn : (h.1 : Int) = c + 1) (hd : ∀ b, -1 ≤ h.2 c b ∧ h.2 c b ≤ 0) : zT shC l yX9_init cX9_init 1 none (rmA 2 33 1380) 33 1380 [.inr c] h (zqv fun h' => zPo c 34 h h') := by
  refine zT_of (by decide +kernel) (L0 := [some (.inr c)]) rfl (Nat.le_of_ble_eq_true rfl) ?_
  have hb := zWd_b hc
  have ks : shC c = .inl 9 := by unfold shC; rw [kk_9_0 hc]; rfl
  have q0 : zCn c 1 0 h h := zCn_0 hn
  refine zj_aload_n (zdk ttX9_init 0 rfl rfl) rfl (by omega) ?_
  refine zj_oinit (zdk ttX9_init 1 rfl rfl) wo_RX9 wo_i wo_c (by omega) (Nat.zero_le _) ⟨Nat.le_of_ble_eq_true rfl, Nat.le_of_ble_eq_true rfl⟩ ?_
  refine zj_aload_n (zdk ttX9_init 2 rfl rfl) rfl (by omega) ?_
  refine zj_new (zdk ttX9_init 3 rfl rfl) zcl1 wk_RX9_9 wi_1 wz_1 (by rw [show ((h.1 : Nat) : Int) = c + 1 by have := q0.1; omega]; unfold shC; rw [kk_9_1 hc]; rfl) ⟨Nat.le_of_ble_eq_true rfl, Nat.le_of_ble_eq_true rfl⟩ (fun h1 e2 => ?_)
  have nh1 : ((h1.1 : Nat) : Int) = ((h.1 : Nat) : Int) + 1 := by rw [e2]; rfl
  have dh1 : ∀ b, -1 ≤ h1.2 ((h.1 : Nat) : Int) b ∧ h1.2 ((h.1 : Nat) : Int) b ≤ 0 := fun b => by rw [e2, znew_s]; exact zdf_b 1 b
  refine zj_dup (zdk ttX9_init 4 rfl rfl) ?_
  have ch1 : ((h.1 : Nat) : Int) = (c + 1) := by have := q0.1; omega
  rw [ch1] at nh1 dh1
  rw [ch1]
  refine zj_callI (ret' := none) (c0 := (c + 1)) (av := []) (st := [.inr (c + 1), .inr c]) (zdk ttX9_init 5 rfl rfl) mb_X1_init mi_RX9_11 (by omega) rfl rfl (Nat.le_of_ble_eq_true rfl) (s_X1_init l h1 (c + 1) (zs_9_1 hc) nh1 dh1) ⟨rfl, rfl, ⟨Nat.le_of_ble_eq_true rfl, Nat.le_of_ble_eq_true rfl⟩, Nat.le_of_ble_eq_true rfl, Nat.le_of_ble_eq_true rfl⟩ (zq_v fun h3 p4 => ?_)
  refine zj_putr (zdk ttX9_init 6 rfl rfl) zf_RX9_12 rfl ⟨ks, by omega, by have := p4.1; omega⟩ (Or.inr ⟨rfl, zw_RX9_12⟩) (k2 := 0) rfl (fun h5 e6 => ?_)
  rw [← ch1] at p4 e6
  have q7 : zCn c 5 1 h h5 := zCn_o (k := 1) (m := 0) (s := 4) q0 e2 p4 e6 (PB_k (kk_9_0 hc) ⟨Int.le_refl _, Int.le_refl _⟩ ⟨Int.le_refl _, Int.le_refl _⟩) (by decide) (by decide) (by decide)
  refine zj_aload_n (zdk ttX9_init 7 rfl rfl) rfl (by omega) ?_
  refine zj_new (zdk ttX9_init 8 rfl rfl) zcl3 wk_RX9_18 wi_3 wz_3 (by rw [show ((h5.1 : Nat) : Int) = c + 5 by have := q7.1; omega]; unfold shC; rw [kk_9_5 hc]; rfl) ⟨Nat.le_of_ble_eq_true rfl, Nat.le_of_ble_eq_true rfl⟩ (fun h8 e9 => ?_)
  have nh8 : ((h8.1 : Nat) : Int) = ((h5.1 : Nat) : Int) + 1 := by rw [e9]; rfl
  have dh8 : ∀ b, -1 ≤ h8.2 ((h5.1 : Nat) : Int) b ∧ h8.2 ((h5.1 : Nat) : Int) b ≤ 0 := fun b => by rw [e9, znew_s]; exact zdf_b 3 b
  refine zj_dup (zdk ttX9_init 9 rfl rfl) ?_
  have ch8 : ((h5.1 : Nat) : Int) = (c + 5) := by have := q7.1; omega
  rw [ch8] at nh8 dh8
  rw [ch8]
  refine zj_callI (ret' := none) (c0 := (c + 5)) (av := []) (st := [.inr (c + 5), .inr c]) (zdk ttX9_init 10 rfl rfl) mb_X3_init mi_RX9_20 (by omega) rfl rfl (Nat.le_of_ble_eq_true rfl) (s_X3_init l h8 (c + 5) (zs_9_5 hc) nh8 dh8) ⟨rfl, rfl, ⟨Nat.le_of_ble_eq_true rfl, Nat.le_of_ble_eq_true rfl⟩, Nat.le_of_ble_eq_true rfl, Nat.le_of_ble_eq_true rfl⟩ (zq_v fun h10 p11 => ?_)
  refine zj_putr (zdk ttX9_init 11 rfl rfl) zf_RX9_21 rfl ⟨ks, by omega, by have := p11.1; omega⟩ (Or.inr ⟨rfl, zw_RX9_21⟩) (k2 := 1) rfl (fun h12 e13 => ?_)
  rw [← ch8] at p11 e13
  have q14 : zCn c 12 2 h h12 := zCn_o (k := 5) (m := 1) (s := 7) q7 e9 p11 e13 (PB_k (kk_9_0 hc) ⟨Int.le_refl _, Int.le_refl _⟩ ⟨Int.le_refl _, Int.le_refl _⟩) (by decide) (by decide) (by decide)
  refine zj_aload_n (zdk ttX9_init 12 rfl rfl) rfl (by omega) ?_
  refine zj_new (zdk ttX9_init 13 rfl rfl) zcl4 wk_RX9_25 wi_4 wz_4 (by rw [show ((h12.1 : Nat) : Int) = c + 12 by have := q14.1; omega]; unfold shC; rw [kk_9_12 hc]; rfl) ⟨Nat.le_of_ble_eq_true rfl, Nat.le_of_ble_eq_true rfl⟩ (fun h15 e16 => ?_)
  have nh15 : ((h15.1 : Nat) : Int) = ((h12.1 : Nat) : Int) + 1 := by rw [e16]; rfl
  have dh15 : ∀ b, -1 ≤ h15.2 ((h12.1 : Nat) : Int) b ∧ h15.2 ((h12.1 : Nat) : Int) b ≤ 0 := fun b => by rw [e16, znew_s]; exact zdf_b 4 b
  refine zj_dup (zdk ttX9_init 14 rfl rfl) ?_
  have ch15 : ((h12.1 : Nat) : Int) = (c + 12) := by have := q14.1; omega
  rw [ch15] at nh15 dh15
  rw [ch15]
  refine zj_callI (ret' := none) (c0 := (c + 12)) (av := []) (st := [.inr (c + 12), .inr c]) (zdk ttX9_init 15 rfl rfl) mb_X4_init mi_RX9_27 (by omega) rfl rfl (Nat.le_of_ble_eq_true rfl) (s_X4_init l h15 (c + 12) (zs_9_12 hc) nh15 dh15) ⟨rfl, rfl, ⟨Nat.le_of_ble_eq_true rfl, Nat.le_of_ble_eq_true rfl⟩, Nat.le_of_ble_eq_true rfl, Nat.le_of_ble_eq_true rfl⟩ (zq_v fun h17 p18 => ?_)
  refine zj_putr (zdk ttX9_init 16 rfl rfl) zf_RX9_28 rfl ⟨ks, by omega, by have := p18.1; omega⟩ (Or.inr ⟨rfl, zw_RX9_28⟩) (k2 := 2) rfl (fun h19 e20 => ?_)
  rw [← ch15] at p18 e20
  have q21 : zCn c 16 3 h h19 := zCn_o (k := 12) (m := 2) (s := 4) q14 e16 p18 e20 (PB_k (kk_9_0 hc) ⟨Int.le_refl _, Int.le_refl _⟩ ⟨Int.le_refl _, Int.le_refl _⟩) (by decide) (by decide) (by decide)
  refine zj_aload_n (zdk ttX9_init 17 rfl rfl) rfl (by omega) ?_
  refine zj_new (zdk ttX9_init 18 rfl rfl) zcl4 wk_RX9_25 wi_4 wz_4 (by rw [show ((h19.1 : Nat) : Int) = c + 16 by have := q21.1; omega]; unfold shC; rw [kk_9_16 hc]; rfl) ⟨Nat.le_of_ble_eq_true rfl, Nat.le_of_ble_eq_true rfl⟩ (fun h22 e23 => ?_)
  have nh22 : ((h22.1 : Nat) : Int) = ((h19.1 : Nat) : Int) + 1 := by rw [e23]; rfl
  have dh22 : ∀ b, -1 ≤ h22.2 ((h19.1 : Nat) : Int) b ∧ h22.2 ((h19.1 : Nat) : Int) b ≤ 0 := fun b => by rw [e23, znew_s]; exact zdf_b 4 b
  refine zj_dup (zdk ttX9_init 19 rfl rfl) ?_
  have ch22 : ((h19.1 : Nat) : Int) = (c + 16) := by have := q21.1; omega
  rw [ch22] at nh22 dh22
  rw [ch22]
  refine zj_callI (ret' := none) (c0 := (c + 16)) (av := []) (st := [.inr (c + 16), .inr c]) (zdk ttX9_init 20 rfl rfl) mb_X4_init mi_RX9_27 (by omega) rfl rfl (Nat.le_of_ble_eq_true rfl) (s_X4_init l h22 (c + 16) (zs_9_16 hc) nh22 dh22) ⟨rfl, rfl, ⟨Nat.le_of_ble_eq_true rfl, Nat.le_of_ble_eq_true rfl⟩, Nat.le_of_ble_eq_true rfl, Nat.le_of_ble_eq_true rfl⟩ (zq_v fun h24 p25 => ?_)
  refine zj_putr (zdk ttX9_init 21 rfl rfl) zf_RX9_32 rfl ⟨ks, by omega, by have := p25.1; omega⟩ (Or.inr ⟨rfl, zw_RX9_32⟩) (k2 := 3) rfl (fun h26 e27 => ?_)
  rw [← ch22] at p25 e27
  have q28 : zCn c 20 4 h h26 := zCn_o (k := 16) (m := 3) (s := 4) q21 e23 p25 e27 (PB_k (kk_9_0 hc) ⟨Int.le_refl _, Int.le_refl _⟩ ⟨Int.le_refl _, Int.le_refl _⟩) (by decide) (by decide) (by decide)
  refine zj_aload_n (zdk ttX9_init 22 rfl rfl) rfl (by omega) ?_
  refine zj_new (zdk ttX9_init 23 rfl rfl) zcl2 wk_RX9_35 wi_2 wz_2 (by rw [show ((h26.1 : Nat) : Int) = c + 20 by have := q28.1; omega]; unfold shC; rw [kk_9_20 hc]; rfl) ⟨Nat.le_of_ble_eq_true rfl, Nat.le_of_ble_eq_true rfl⟩ (fun h29 e30 => ?_)
  have nh29 : ((h29.1 : Nat) : Int) = ((h26.1 : Nat) : Int) + 1 := by rw [e30]; rfl
  have dh29 : ∀ b, -1 ≤ h29.2 ((h26.1 : Nat) : Int) b ∧ h29.2 ((h26.1 : Nat) : Int) b ≤ 0 := fun b => by rw [e30, znew_s]; exact zdf_b 2 b
  refine zj_dup (zdk ttX9_init 24 rfl rfl) ?_
  have ch29 : ((h26.1 : Nat) : Int) = (c + 20) := by have := q28.1; omega
  rw [ch29] at nh29 dh29
  rw [ch29]
  refine zj_callI (ret' := none) (c0 := (c + 20)) (av := []) (st := [.inr (c + 20), .inr c]) (zdk ttX9_init 25 rfl rfl) mb_X2_init mi_RX9_37 (by omega) rfl rfl (Nat.le_of_ble_eq_true rfl) (s_X2_init l h29 (c + 20) (zs_9_20 hc) nh29 dh29) ⟨rfl, rfl, ⟨Nat.le_of_ble_eq_true rfl, Nat.le_of_ble_eq_true rfl⟩, Nat.le_of_ble_eq_true rfl, Nat.le_of_ble_eq_true rfl⟩ (zq_v fun h31 p32 => ?_)
  refine zj_putr (zdk ttX9_init 26 rfl rfl) zf_RX9_38 rfl ⟨ks, by omega, by have := p32.1; omega⟩ (Or.inr ⟨rfl, zw_RX9_38⟩) (k2 := 4) rfl (fun h33 e34 => ?_)
  rw [← ch29] at p32 e34
  have q35 : zCn c 22 5 h h33 := zCn_o (k := 20) (m := 4) (s := 2) q28 e30 p32 e34 (PB_k (kk_9_0 hc) ⟨Int.le_refl _, Int.le_refl _⟩ ⟨Int.le_refl _, Int.le_refl _⟩) (by decide) (by decide) (by decide)
  refine zj_aload_n (zdk ttX9_init 27 rfl rfl) rfl (by omega) ?_
  refine zj_new (zdk ttX9_init 28 rfl rfl) zcl0 wk_RX9_42 wi_0 wz_0 (by rw [show ((h33.1 : Nat) : Int) = c + 22 by have := q35.1; omega]; unfold shC; rw [kk_9_22 hc]; rfl) ⟨Nat.le_of_ble_eq_true rfl, Nat.le_of_ble_eq_true rfl⟩ (fun h36 e37 => ?_)
  have nh36 : ((h36.1 : Nat) : Int) = ((h33.1 : Nat) : Int) + 1 := by rw [e37]; rfl
  have dh36 : ∀ b, -1 ≤ h36.2 ((h33.1 : Nat) : Int) b ∧ h36.2 ((h33.1 : Nat) : Int) b ≤ 0 := fun b => by rw [e37, znew_s]; exact zdf_b 0 b
  refine zj_dup (zdk ttX9_init 29 rfl rfl) ?_
  have ch36 : ((h33.1 : Nat) : Int) = (c + 22) := by have := q35.1; omega
  rw [ch36] at nh36 dh36
  rw [ch36]
  refine zj_callI (ret' := none) (c0 := (c + 22)) (av := []) (st := [.inr (c + 22), .inr c]) (zdk ttX9_init 30 rfl rfl) mb_X0_init mi_RX9_44 (by omega) rfl rfl (Nat.le_of_ble_eq_true rfl) (s_X0_init l h36 (c + 22) (zs_9_22 hc) nh36 dh36) ⟨rfl, rfl, ⟨Nat.le_of_ble_eq_true rfl, Nat.le_of_ble_eq_true rfl⟩, Nat.le_of_ble_eq_true rfl, Nat.le_of_ble_eq_true rfl⟩ (zq_v fun h38 p39 => ?_)
  refine zj_putr (zdk ttX9_init 31 rfl rfl) zf_RX9_45 rfl ⟨ks, by omega, by have := p39.1; omega⟩ (Or.inr ⟨rfl, zw_RX9_45⟩) (k2 := 5) rfl (fun h40 e41 => ?_)
  rw [← ch36] at p39 e41
  have q42 : zCn c 27 6 h h40 := zCn_o (k := 22) (m := 5) (s := 5) q35 e37 p39 e41 (PB_k (kk_9_0 hc) ⟨Int.le_refl _, Int.le_refl _⟩ ⟨Int.le_refl _, Int.le_refl _⟩) (by decide) (by decide) (by decide)
  refine zj_aload_n (zdk ttX9_init 32 rfl rfl) rfl (by omega) ?_
  refine zj_new (zdk ttX9_init 33 rfl rfl) zcl5 wk_RX9_49 wi_5 wz_5 (by rw [show ((h40.1 : Nat) : Int) = c + 27 by have := q42.1; omega]; unfold shC; rw [kk_9_27 hc]; rfl) ⟨Nat.le_of_ble_eq_true rfl, Nat.le_of_ble_eq_true rfl⟩ (fun h43 e44 => ?_)
  have nh43 : ((h43.1 : Nat) : Int) = ((h40.1 : Nat) : Int) + 1 := by rw [e44]; rfl
  have dh43 : ∀ b, -1 ≤ h43.2 ((h40.1 : Nat) : Int) b ∧ h43.2 ((h40.1 : Nat) : Int) b ≤ 0 := fun b => by rw [e44, znew_s]; exact zdf_b 5 b
  refine zj_dup (zdk ttX9_init 34 rfl rfl) ?_
  have ch43 : ((h40.1 : Nat) : Int) = (c + 27) := by have := q42.1; omega
  rw [ch43] at nh43 dh43
  rw [ch43]
  refine zj_callI (ret' := none) (c0 := (c + 27)) (av := []) (st := [.inr (c + 27), .inr c]) (zdk ttX9_init 35 rfl rfl) mb_X5_init mi_RX9_51 (by omega) rfl rfl (Nat.le_of_ble_eq_true rfl) (s_X5_init l h43 (c + 27) (zs_9_27 hc) nh43 dh43) ⟨rfl, rfl, ⟨Nat.le_of_ble_eq_true rfl, Nat.le_of_ble_eq_true rfl⟩, Nat.le_of_ble_eq_true rfl, Nat.le_of_ble_eq_true rfl⟩ (zq_v fun h45 p46 => ?_)
  refine zj_putr (zdk ttX9_init 36 rfl rfl) zf_RX9_52 rfl ⟨ks, by omega, by have := p46.1; omega⟩ (Or.inr ⟨rfl, zw_RX9_52⟩) (k2 := 6) rfl (fun h47 e48 => ?_)
  rw [← ch43] at p46 e48
  have q49 : zCn c 34 7 h h47 := zCn_o (k := 27) (m := 6) (s := 7) q42 e44 p46 e48 (PB_k (kk_9_0 hc) ⟨Int.le_refl _, Int.le_refl _⟩ ⟨Int.le_refl _, Int.le_refl _⟩) (by decide) (by decide) (by decide)
  exact zj_vret rfl (zdk ttX9_init 37 rfl rfl) (Nat.le_of_ble_eq_true rfl) (Nat.le_of_ble_eq_true rfl) ⟨rfl, zCn_e q49 (fun b z => ⟨PC_out (kk_9_0 hc) rfl (show (7 : Int) ≤ b by omega) (hd b), PI_out (kk_9_0 hc) rfl (show (7 : Int) ≤ b by omega) (hd b)⟩) (by decide) (by decide)⟩
abbrev tX10_init : List (Nat × Instr × Nat) := [(0, .aload_n 0, 1), (1, .invokespecial 1, 3), (4, .aload_n 0, 1), (5, .new 7, 3), (8, .dup, 1), (9, .invokespecial 9, 3), (12, .putfield 10, 3), (15, .aload_n 0, 1), (16, .new 7, 3), (19, .dup, 1), (20, .invokespecial 9, 3), (23, .putfield 16, 3), (26, .aload_n 0, 1), (27, .new 7, 3), (30, .dup, 1), (31, .invokespecial 9, 3), (34, .putfield 19, 3), (37, .aload_n 0, 1), (38, .new 22, 3), (41, .dup, 1), (42, .invokespecial 24, 3), (45, .putfield 25, 3), (48, .aload_n 0, 1), (49, .new 29, 3), (52, .dup, 1), (53, .aload_n 0, 1), (54, .getfield 25, 3), (57, .invokespecial 31, 3), (60, .putfield 34, 3), (63, .aload_n 0, 1), (64, .new 38, 3), (67, .dup, 1), (68, .invokespecial 40, 3), (71, .putfield 41, 3), (74, .aload_n 0, 1), (75, .bipush 6, 2), (77, .anewarray 45, 3), (80, .putfield 47, 3), (83, .aload_n 0, 1), (84, .bipush 6, 2), (86, .newarray .int, 2), (88, .putfield 51, 3), (91, .aload_n 0, 1), (92, .iconst 0, 1), (93, .putfield 55, 3), (96, .aload_n 0, 1), (97, .iconst 0, 1), (98, .putfield 59, 3), (101, .aload_n 0, 1), (102, .aconst_null, 1), (103, .putfield 63, 3), (106, .iconst 0, 1), (107, .istore_n 1, 1), (108, .iload_n 1, 1), (109, .bipush 6, 2), (111, .if_icmp .ge 22, 3), (114, .aload_n 0, 1), (115, .getfield 47, 3), (118, .iload_n 1, 1), (119, .new 45, 3), (122, .dup, 1), (123, .invokespecial 66, 3), (126, .aastore, 1), (127, .iinc 1 1, 3), (130, .goto (-22), 3), (133, .return_, 1)]
theorem ttX10_init : zdt cX10_init tX10_init = true := by decide +kernel
def zRc (i : Int) (H : zM) : Prop := (H.1 : Int) = 116 + 4 * i ∧ (∀ a b, 0 ≤ a → a < 116 + 4 * i → 0 ≤ b → ¬ a = 114 → PB a b (H.2 a b)) ∧ (∀ b, 0 ≤ b → b < i → H.2 114 b = 116 + 4 * b) ∧ H.2 0 10 = -1
set_option maxRecDepth 100000 in
set_option maxHeartbeats 4000000 in
theorem s_X10_init (l : Launch) (h : zM) (hn : (h.1 : Int) = 0 + 1) (hd : ∀ b, -1 ≤ h.2 0 b ∧ h.2 0 b ≤ 0) : zT shC l yX10_init cX10_init 2 none (rmA 3 139 8107) 139 8107 [.inr 0] h (zqv fun h' => zRc 6 h') := by
  refine zT_of (by decide +kernel) (L0 := [some (.inr 0), none]) rfl (Nat.le_of_ble_eq_true rfl) ?_
  have ks : shC 0 = .inl 10 := by unfold shC; rw [kk_L0]; rfl
  have q0 : zCn 0 1 0 h h := zCn_0 hn
  refine zj_aload_n (zdk ttX10_init 0 rfl rfl) rfl (by decide) ?_
  refine zj_oinit (zdk ttX10_init 1 rfl rfl) wo_RX10 wo_i wo_c (by decide) (Nat.zero_le _) ⟨Nat.le_of_ble_eq_true rfl, Nat.le_of_ble_eq_true rfl⟩ ?_
  refine zj_aload_n (zdk ttX10_init 2 rfl rfl) rfl (by decide) ?_
  refine zj_new (zdk ttX10_init 3 rfl rfl) zcl9 wk_RX10_7 wi_9 wz_9 (by rw [show ((h.1 : Nat) : Int) = 1 by have := q0.1; omega]; decide +kernel) ⟨Nat.le_of_ble_eq_true rfl, Nat.le_of_ble_eq_true rfl⟩ (fun h1 e2 => ?_)
  have nh1 : ((h1.1 : Nat) : Int) = ((h.1 : Nat) : Int) + 1 := by rw [e2]; rfl
  have dh1 : ∀ b, -1 ≤ h1.2 ((h.1 : Nat) : Int) b ∧ h1.2 ((h.1 : Nat) : Int) b ≤ 0 := fun b => by rw [e2, znew_s]; exact zdf_b 9 b
  refine zj_dup (zdk ttX10_init 4 rfl rfl) ?_
  have ch1 : ((h.1 : Nat) : Int) = 1 := by have := q0.1; omega
  rw [ch1] at nh1 dh1
  rw [ch1]
  refine zj_callI (ret' := none) (c0 := 1) (av := []) (st := [.inr 1, .inr 0]) (zdk ttX10_init 5 rfl rfl) mb_X9_init mi_RX10_9 (by omega) rfl rfl (Nat.le_of_ble_eq_true rfl) (s_X9_init l h1 1 zWd_1 nh1 dh1) ⟨rfl, rfl, ⟨Nat.le_of_ble_eq_true rfl, Nat.le_of_ble_eq_true rfl⟩, Nat.le_of_ble_eq_true rfl, Nat.le_of_ble_eq_true rfl⟩ (zq_v fun h3 p4 => ?_)
  refine zj_putr (zdk ttX10_init 6 rfl rfl) zf_RX10_10 rfl ⟨ks, by omega, by have := p4.1; omega⟩ (Or.inr ⟨rfl, zw_RX10_10⟩) (k2 := 0) rfl (fun h5 e6 => ?_)
  rw [← ch1] at p4 e6
  have q7 : zCn 0 35 1 h h5 := zCn_o (k := 1) (m := 0) (s := 34) q0 e2 p4 e6 (PB_k (kk_L0) ⟨Int.le_refl _, Int.le_refl _⟩ ⟨Int.le_refl _, Int.le_refl _⟩) (by decide) (by decide) (by decide)
  refine zj_aload_n (zdk ttX10_init 7 rfl rfl) rfl (by decide) ?_
  refine zj_new (zdk ttX10_init 8 rfl rfl) zcl9 wk_RX10_7 wi_9 wz_9 (by rw [show ((h5.1 : Nat) : Int) = 35 by have := q7.1; omega]; decide +kernel) ⟨Nat.le_of_ble_eq_true rfl, Nat.le_of_ble_eq_true rfl⟩ (fun h8 e9 => ?_)
  have nh8 : ((h8.1 : Nat) : Int) = ((h5.1 : Nat) : Int) + 1 := by rw [e9]; rfl
  have dh8 : ∀ b, -1 ≤ h8.2 ((h5.1 : Nat) : Int) b ∧ h8.2 ((h5.1 : Nat) : Int) b ≤ 0 := fun b => by rw [e9, znew_s]; exact zdf_b 9 b
  refine zj_dup (zdk ttX10_init 9 rfl rfl) ?_
  have ch8 : ((h5.1 : Nat) : Int) = 35 := by have := q7.1; omega
  rw [ch8] at nh8 dh8
  rw [ch8]
  refine zj_callI (ret' := none) (c0 := 35) (av := []) (st := [.inr 35, .inr 0]) (zdk ttX10_init 10 rfl rfl) mb_X9_init mi_RX10_9 (by omega) rfl rfl (Nat.le_of_ble_eq_true rfl) (s_X9_init l h8 35 zWd_35 nh8 dh8) ⟨rfl, rfl, ⟨Nat.le_of_ble_eq_true rfl, Nat.le_of_ble_eq_true rfl⟩, Nat.le_of_ble_eq_true rfl, Nat.le_of_ble_eq_true rfl⟩ (zq_v fun h10 p11 => ?_)
  refine zj_putr (zdk ttX10_init 11 rfl rfl) zf_RX10_16 rfl ⟨ks, by omega, by have := p11.1; omega⟩ (Or.inr ⟨rfl, zw_RX10_16⟩) (k2 := 1) rfl (fun h12 e13 => ?_)
  rw [← ch8] at p11 e13
  have q14 : zCn 0 69 2 h h12 := zCn_o (k := 35) (m := 1) (s := 34) q7 e9 p11 e13 (PB_k (kk_L0) ⟨Int.le_refl _, Int.le_refl _⟩ ⟨Int.le_refl _, Int.le_refl _⟩) (by decide) (by decide) (by decide)
  refine zj_aload_n (zdk ttX10_init 12 rfl rfl) rfl (by decide) ?_
  refine zj_new (zdk ttX10_init 13 rfl rfl) zcl9 wk_RX10_7 wi_9 wz_9 (by rw [show ((h12.1 : Nat) : Int) = 69 by have := q14.1; omega]; decide +kernel) ⟨Nat.le_of_ble_eq_true rfl, Nat.le_of_ble_eq_true rfl⟩ (fun h15 e16 => ?_)
  have nh15 : ((h15.1 : Nat) : Int) = ((h12.1 : Nat) : Int) + 1 := by rw [e16]; rfl
  have dh15 : ∀ b, -1 ≤ h15.2 ((h12.1 : Nat) : Int) b ∧ h15.2 ((h12.1 : Nat) : Int) b ≤ 0 := fun b => by rw [e16, znew_s]; exact zdf_b 9 b
  refine zj_dup (zdk ttX10_init 14 rfl rfl) ?_
  have ch15 : ((h12.1 : Nat) : Int) = 69 := by have := q14.1; omega
  rw [ch15] at nh15 dh15
  rw [ch15]
  refine zj_callI (ret' := none) (c0 := 69) (av := []) (st := [.inr 69, .inr 0]) (zdk ttX10_init 15 rfl rfl) mb_X9_init mi_RX10_9 (by omega) rfl rfl (Nat.le_of_ble_eq_true rfl) (s_X9_init l h15 69 zWd_69 nh15 dh15) ⟨rfl, rfl, ⟨Nat.le_of_ble_eq_true rfl, Nat.le_of_ble_eq_true rfl⟩, Nat.le_of_ble_eq_true rfl, Nat.le_of_ble_eq_true rfl⟩ (zq_v fun h17 p18 => ?_)
  refine zj_putr (zdk ttX10_init 16 rfl rfl) zf_RX10_19 rfl ⟨ks, by omega, by have := p18.1; omega⟩ (Or.inr ⟨rfl, zw_RX10_19⟩) (k2 := 2) rfl (fun h19 e20 => ?_)
  rw [← ch15] at p18 e20
  have q21 : zCn 0 103 3 h h19 := zCn_o (k := 69) (m := 2) (s := 34) q14 e16 p18 e20 (PB_k (kk_L0) ⟨Int.le_refl _, Int.le_refl _⟩ ⟨Int.le_refl _, Int.le_refl _⟩) (by decide) (by decide) (by decide)
  refine zj_aload_n (zdk ttX10_init 17 rfl rfl) rfl (by decide) ?_
  refine zj_new (zdk ttX10_init 18 rfl rfl) zcl6 wk_RX10_22 wi_6 wz_6 (by rw [show ((h19.1 : Nat) : Int) = 103 by have := q21.1; omega]; decide +kernel) ⟨Nat.le_of_ble_eq_true rfl, Nat.le_of_ble_eq_true rfl⟩ (fun h22 e23 => ?_)
  have nh22 : ((h22.1 : Nat) : Int) = ((h19.1 : Nat) : Int) + 1 := by rw [e23]; rfl
  have dh22 : ∀ b, -1 ≤ h22.2 ((h19.1 : Nat) : Int) b ∧ h22.2 ((h19.1 : Nat) : Int) b ≤ 0 := fun b => by rw [e23, znew_s]; exact zdf_b 6 b
  refine zj_dup (zdk ttX10_init 19 rfl rfl) ?_
  have ch22 : ((h19.1 : Nat) : Int) = 103 := by have := q21.1; omega
  rw [ch22] at nh22 dh22
  rw [ch22]
  refine zj_callI (ret' := none) (c0 := 103) (av := []) (st := [.inr 103, .inr 0]) (zdk ttX10_init 20 rfl rfl) mb_X6_init mi_RX10_24 (by omega) rfl rfl (Nat.le_of_ble_eq_true rfl) (s_X6_init l h22 nh22 dh22) ⟨rfl, rfl, ⟨Nat.le_of_ble_eq_true rfl, Nat.le_of_ble_eq_true rfl⟩, Nat.le_of_ble_eq_true rfl, Nat.le_of_ble_eq_true rfl⟩ (zq_v fun h24 p25 => ?_)
  refine zj_putr (zdk ttX10_init 21 rfl rfl) zf_RX10_25 rfl ⟨ks, by omega, by have := p25.1; omega⟩ (Or.inr ⟨rfl, zw_RX10_25⟩) (k2 := 3) rfl (fun h26 e27 => ?_)
  rw [← ch22] at p25 e27
  have q28 : zCn 0 107 4 h h26 := zCn_o (k := 103) (m := 3) (s := 4) q21 e23 p25 e27 (PB_k (kk_L0) ⟨Int.le_refl _, Int.le_refl _⟩ ⟨Int.le_refl _, Int.le_refl _⟩) (by decide) (by decide) (by decide)
  refine zj_aload_n (zdk ttX10_init 22 rfl rfl) rfl (by decide) ?_
  refine zj_new (zdk ttX10_init 23 rfl rfl) zcl7 wk_RX10_29 wi_7 wz_7 (by rw [show ((h26.1 : Nat) : Int) = 107 by have := q28.1; omega]; decide +kernel) ⟨Nat.le_of_ble_eq_true rfl, Nat.le_of_ble_eq_true rfl⟩ (fun h29 e30 => ?_)
  have nh29 : ((h29.1 : Nat) : Int) = ((h26.1 : Nat) : Int) + 1 := by rw [e30]; rfl
  have dh29 : ∀ b, -1 ≤ h29.2 ((h26.1 : Nat) : Int) b ∧ h29.2 ((h26.1 : Nat) : Int) b ≤ 0 := fun b => by rw [e30, znew_s]; exact zdf_b 7 b
  refine zj_dup (zdk ttX10_init 24 rfl rfl) ?_
  refine zj_aload_n (zdk ttX10_init 25 rfl rfl) rfl (by decide) ?_
  have th29 : h29.2 0 3 = 103 := by rw [e30, znew_n (by have := q28.1; omega)]; exact zeq (q28.2.2.2.1 3 (by decide) (by decide)).1
  refine zj_getr (r := 103) (zdk ttX10_init 26 rfl rfl) zf_RX10_25 rfl ⟨ks, by decide, by have := q28.1; omega⟩ th29 ?_
  have ch29 : ((h26.1 : Nat) : Int) = 107 := by have := q28.1; omega
  rw [ch29] at nh29 dh29
  rw [ch29]
  refine zj_callI (ret' := none) (c0 := 107) (av := [.inr 103]) (st := [.inr 107, .inr 0]) (zdk ttX10_init 27 rfl rfl) mb_X7_init mi_RX10_31 (by omega) rfl rfl (Nat.le_of_ble_eq_true rfl) (s_X7_init l h29 nh29 dh29) ⟨rfl, rfl, ⟨Nat.le_of_ble_eq_true rfl, Nat.le_of_ble_eq_true rfl⟩, Nat.le_of_ble_eq_true rfl, Nat.le_of_ble_eq_true rfl⟩ (zq_v fun h31 p32 => ?_)
  refine zj_putr (zdk ttX10_init 28 rfl rfl) zf_RX10_34 rfl ⟨ks, by omega, by have := p32.1; omega⟩ (Or.inr ⟨rfl, zw_RX10_34⟩) (k2 := 4) rfl (fun h33 e34 => ?_)
  rw [← ch29] at p32 e34
  have q35 : zCn 0 108 5 h h33 := zCn_o (k := 107) (m := 4) (s := 1) q28 e30 p32 e34 (PB_k (kk_L0) ⟨Int.le_refl _, Int.le_refl _⟩ ⟨Int.le_refl _, Int.le_refl _⟩) (by decide) (by decide) (by decide)
  refine zj_aload_n (zdk ttX10_init 29 rfl rfl) rfl (by decide) ?_
  refine zj_new (zdk ttX10_init 30 rfl rfl) zcl8 wk_RX10_38 wi_8 wz_8 (by rw [show ((h33.1 : Nat) : Int) = 108 by have := q35.1; omega]; decide +kernel) ⟨Nat.le_of_ble_eq_true rfl, Nat.le_of_ble_eq_true rfl⟩ (fun h36 e37 => ?_)
  have nh36 : ((h36.1 : Nat) : Int) = ((h33.1 : Nat) : Int) + 1 := by rw [e37]; rfl
  have dh36 : ∀ b, -1 ≤ h36.2 ((h33.1 : Nat) : Int) b ∧ h36.2 ((h33.1 : Nat) : Int) b ≤ 0 := fun b => by rw [e37, znew_s]; exact zdf_b 8 b
  refine zj_dup (zdk ttX10_init 31 rfl rfl) ?_
  have ch36 : ((h33.1 : Nat) : Int) = 108 := by have := q35.1; omega
  rw [ch36] at nh36 dh36
  rw [ch36]
  refine zj_callI (ret' := none) (c0 := 108) (av := []) (st := [.inr 108, .inr 0]) (zdk ttX10_init 32 rfl rfl) mb_X8_init mi_RX10_40 (by omega) rfl rfl (Nat.le_of_ble_eq_true rfl) (s_X8_init l h36 nh36 dh36) ⟨rfl, rfl, ⟨Nat.le_of_ble_eq_true rfl, Nat.le_of_ble_eq_true rfl⟩, Nat.le_of_ble_eq_true rfl, Nat.le_of_ble_eq_true rfl⟩ (zq_v fun h38 p39 => ?_)
  refine zj_putr (zdk ttX10_init 33 rfl rfl) zf_RX10_41 rfl ⟨ks, by omega, by have := p39.1; omega⟩ (Or.inr ⟨rfl, zw_RX10_41⟩) (k2 := 5) rfl (fun h40 e41 => ?_)
  rw [← ch36] at p39 e41
  have q42 : zCn 0 114 6 h h40 := zCn_o (k := 108) (m := 5) (s := 6) q35 e37 p39 e41 (PB_k (kk_L0) ⟨Int.le_refl _, Int.le_refl _⟩ ⟨Int.le_refl _, Int.le_refl _⟩) (by decide) (by decide) (by decide)
  refine zj_aload_n (zdk ttX10_init 34 rfl rfl) rfl (by decide) ?_
  refine zj_bipush (zdk ttX10_init 35 rfl rfl) (by decide) ?_
  refine zj_anew (N := 6) (zdk ttX10_init 36 rfl rfl) wk_RX10_45 rfl (by decide) (by rw [show ((h40.1 : Nat) : Int) = 114 by have := q42.1; omega]; decide +kernel) ⟨Nat.le_of_ble_eq_true rfl, Nat.le_of_ble_eq_true rfl⟩ (fun h43 e44 => ?_)
  have nh43 : ((h43.1 : Nat) : Int) = 0 + 115 := by have := q42.1; rw [e44]; show ((h40.1 + 1 : Nat) : Int) = _; omega
  refine zj_putr (zdk ttX10_init 37 rfl rfl) zf_RX10_47 rfl ⟨ks, by omega, by omega⟩ (Or.inr ⟨rfl, zw_RX10_47⟩) (k2 := 6) rfl (fun h45 e46 => ?_)
  have q47 : zCn 0 115 7 h h45 := zCn_a (k := 114) (m := 6) q42 e44 e46 (Or.inl (by decide)) (PB_k (kk_L0) ⟨Int.le_refl _, Int.le_refl _⟩ ⟨Int.le_refl _, Int.le_refl _⟩) (by decide) (by decide) (by decide)
  refine zj_aload_n (zdk ttX10_init 38 rfl rfl) rfl (by decide) ?_
  refine zj_bipush (zdk ttX10_init 39 rfl rfl) (by decide) ?_
  refine zj_newi (N := 6) (zdk ttX10_init 40 rfl rfl) wa_int rfl (by decide) (by rw [show ((h45.1 : Nat) : Int) = 115 by have := q47.1; omega]; decide +kernel) ⟨Nat.le_of_ble_eq_true rfl, Nat.le_of_ble_eq_true rfl⟩ (fun h48 e49 => ?_)
  have nh48 : ((h48.1 : Nat) : Int) = 0 + 116 := by have := q47.1; rw [e49]; show ((h45.1 + 1 : Nat) : Int) = _; omega
  refine zj_putr (zdk ttX10_init 41 rfl rfl) zf_RX10_51 rfl ⟨ks, by omega, by omega⟩ (Or.inr ⟨rfl, zw_RX10_51⟩) (k2 := 7) rfl (fun h50 e51 => ?_)
  have q52 : zCn 0 116 8 h h50 := zCn_a (k := 115) (m := 7) q47 e49 e51 (Or.inr (fun j => ⟨pa_L0_7 (v := 0) (by decide) j, PI_k (kka_L0_7) ⟨Int.le_refl _, Int.le_refl _⟩⟩)) (PB_k (kk_L0) ⟨Int.le_refl _, Int.le_refl _⟩ ⟨Int.le_refl _, Int.le_refl _⟩) (by decide) (by decide) (by decide)
  refine zj_aload_n (zdk ttX10_init 42 rfl rfl) rfl (by decide) ?_
  refine zj_iconst (zdk ttX10_init 43 rfl rfl) ?_
  refine zj_puti (zdk ttX10_init 44 rfl rfl) zf_RX10_55 rfl ⟨ks, by omega, by have := q52.1; omega⟩ (Or.inl zw_RX10_55) (k2 := 8) rfl (fun h53 e54 => ?_)
  have q55 : zCn 0 116 9 h h53 := zCn_i (m := 8) q52 e54 (PB_k (kk_L0) (show (0 : Int) ≤ 0 ∧ (0 : Int) ≤ 6 by decide) ⟨Int.le_refl _, Int.le_refl _⟩) (by decide) (by decide)
  refine zj_aload_n (zdk ttX10_init 45 rfl rfl) rfl (by decide) ?_
  refine zj_iconst (zdk ttX10_init 46 rfl rfl) ?_
  refine zj_putz (zdk ttX10_init 47 rfl rfl) zf_RX10_59 rfl (by decide) ⟨ks, by omega, by have := q55.1; omega⟩ (Or.inl zw_RX10_59) (k2 := 9) rfl (fun h56 e57 => ?_)
  have q58 : zCn 0 116 10 h h56 := zCn_i (m := 9) q55 e57 (PB_k (kk_L0) (show (0 : Int) ≤ 0 ∧ (0 : Int) ≤ 1 by decide) ⟨Int.le_refl _, Int.le_refl _⟩) (by decide) (by decide)
  refine zj_aload_n (zdk ttX10_init 48 rfl rfl) rfl (by decide) ?_
  refine zj_null (zdk ttX10_init 49 rfl rfl) ?_
  refine zj_putr (zdk ttX10_init 50 rfl rfl) zf_RX10_63 rfl ⟨ks, by omega, by have := q58.1; omega⟩ (Or.inl zw_RX10_63) (k2 := 10) rfl (fun h59 e60 => ?_)
  have q61 : zCn 0 116 11 h h59 := zCn_i (m := 10) q58 e60 (PB_k (kk_L0) (show ((-1) : Int) ≤ (-1) ∧ ((-1) : Int) ≤ 140 by decide) ⟨Int.le_refl _, Int.le_refl _⟩) (by decide) (by decide)
  refine zj_iconst (zdk ttX10_init 51 rfl rfl) ?_
  refine zj_istore_n (L' := [some (.inr 0), some (.inl 0)]) (zdk ttX10_init 52 rfl rfl) (by decide) rfl ?_
  have m10 : h59.2 0 10 = -1 := zwr_v e60
  have r0 : zRc 0 h59 := ⟨by have := q61.1; omega, fun a b z1 z2 z3 z4 => by
    by_cases w : a = 0
    · rw [w]
      by_cases x : b < 11
      · exact q61.2.2.2.1 b z3 x
      · rw [q61.2.2.2.2 b (by omega)]; exact ⟨PC_out kk_L0 rfl (show (11 : Int) ≤ b by omega) (hd b), PI_out kk_L0 rfl (show (11 : Int) ≤ b by omega) (hd b)⟩
    · exact q61.2.2.1 a b (by omega) (by omega) z3 z4, fun b z1 z2 => absurd z1 (by omega), m10⟩
  have lp : ∀ (n : Nat) (u1 u2 : Nat) (x : Int) (H : zM), (0 ≤ x ∧ x ≤ 6) → zRc x H → u1 = 115 + 4 * x.toNat → u2 = 7699 + 68 * x.toNat → (7 - x).toNat < n → zJ shC l yX10_init cX10_init 2 none (rmA 3 139 8107) 139 8107 (zqv fun h' => zRc 6 h') u1 u2 108 [some (.inr 0), some (.inl x)] [] H := by
    intro n
    induction n with
    | zero => intro u1 u2 x H _ _ _ _ hm; exact absurd hm (Nat.not_lt_zero _)
    | succ n ih =>
      intro u1 u2 x H hx r hu1 hu2 hm
      obtain ⟨r1, r2, r3, r4⟩ := r
      refine zj_iload_n (zdk ttX10_init 53 rfl rfl) rfl ?_
      refine zj_bipush (zdk ttX10_init 54 rfl rfl) (by decide) ?_
      refine zj_icmp_ge (t := 133) (zdk ttX10_init 55 rfl rfl) (by decide) (by omega) (by decide) (fun q => ?_) (fun q => ?_)
      · have x6 : x = 6 := by omega
        subst x6
        exact zj_vret rfl (zdk ttX10_init 65 rfl rfl) (by rw [hu1]; exact Nat.le_of_ble_eq_true rfl) (by rw [hu2]; exact Nat.le_of_ble_eq_true rfl) ⟨rfl, r1, r2, r3, r4⟩
      · refine zj_aload_n (zdk ttX10_init 56 rfl rfl) rfl (by decide) ?_
        refine zj_getr (r := 114) (zdk ttX10_init 57 rfl rfl) zf_RX10_47 rfl ⟨ks, by decide, by omega⟩ (zeq (r2 0 6 (by decide) (by omega) (by decide) (by decide)).1) ?_
        refine zj_iload_n (zdk ttX10_init 58 rfl rfl) rfl ?_
        have hi : zIs (116 + 4 * x) := by unfold zIs; omega
        refine zj_new (zdk ttX10_init 59 rfl rfl) zcl1 wk_RX10_45 wi_1 wz_1 (by rw [r1]; unfold shC; rw [kk_1_0 hi]; rfl) ⟨by show u1 + 1 ≤ 139; omega, by show u2 + 14 ≤ 8107; omega⟩ (fun h1 e1 => ?_)
        have n1 : ((h1.1 : Nat) : Int) = ((H.1 : Nat) : Int) + 1 := by rw [e1]; rfl
        have d1 : ∀ b, -1 ≤ h1.2 ((H.1 : Nat) : Int) b ∧ h1.2 ((H.1 : Nat) : Int) b ≤ 0 := fun b => by rw [e1, znew_s]; exact zdf_b 1 b
        have g1 : ∀ a b, ¬ a = 116 + 4 * x → h1.2 a b = H.2 a b := fun a b z => by rw [e1]; exact znew_n (by omega)
        rw [r1] at n1 d1
        rw [r1]
        refine zj_dup (zdk ttX10_init 60 rfl rfl) ?_
        refine zj_callI (ret' := none) (c0 := 116 + 4 * x) (av := []) (st := [.inr (116 + 4 * x), .inl x, .inr 114]) (zdk ttX10_init 61 rfl rfl) mb_X1_init mi_RX10_66 (by omega) rfl rfl (Nat.le_of_ble_eq_true rfl) (s_X1_init l h1 (116 + 4 * x) hi n1 d1) ⟨rfl, rfl, ⟨Nat.le_of_ble_eq_true rfl, Nat.le_of_ble_eq_true rfl⟩, by show u1 + 1 + 3 ≤ 139; omega, by show u2 + 14 + 54 ≤ 8107; omega⟩ (zq_v fun h2 p2 => ?_)
        obtain ⟨w1, w2, w3⟩ := p2
        have s114 : shC 114 = .inr (2, 6) ∧ (0 : Int) ≤ 114 ∧ (114 : Int) < h2.1 := ⟨by decide +kernel, by decide, by omega⟩
        have sis : shC (116 + 4 * x) = .inl 1 ∧ 0 ≤ 116 + 4 * x ∧ 116 + 4 * x < h2.1 := ⟨by unfold shC; rw [kk_1_0 hi]; rfl, by omega, by omega⟩
        refine zj_aast (zdk ttX10_init 62 rfl rfl) s114 (by decide) (by omega) sis (fun h3 e3 => ?_)
        refine zj_iinc (L' := [some (.inr 0), some (.inl (x + 1))]) (zdk ttX10_init 63 rfl rfl) rfl (by decide) rfl ?_
        refine zj_goto (t := 108) (zdk ttX10_init 64 rfl rfl) (by decide) ?_
        refine ih _ _ (x + 1) h3 (by omega) ⟨?_, fun a b z1 z2 z3 z4 => ?_, fun b z1 z2 => ?_, ?_⟩ (by omega) (by show u2 + 14 + 54 = _; omega) (by omega)
        · rw [e3]; show (h2.1 : Int) = _; omega
        · rw [zwr_r e3 (by first | decide | exact (absurd ·.1 (by decide)) | exact (absurd ·.2 (by decide)) | omega)]
          by_cases z : a < 116 + 4 * x
          · rw [w2 a b (by omega), g1 a b (by omega)]; exact r2 a b z1 z z3 z4
          · exact w3 a b (by omega) (by omega) z3 z4
        · by_cases z : b = x
          · rw [z, zwr_v e3]
          · rw [zwr_r e3 (by first | decide | exact (absurd ·.1 (by decide)) | exact (absurd ·.2 (by decide)) | omega), w2 114 b (by omega), g1 114 b (by omega)]; exact r3 b z1 (by omega)
        · rw [zwr_r e3 (by first | decide | exact (absurd ·.1 (by decide)) | exact (absurd ·.2 (by decide)) | omega), w2 0 10 (by omega), g1 0 10 (by omega)]; exact r4
  exact lp _ _ _ 0 h59 (by omega) r0 rfl rfl (Nat.lt_succ_self _)
