/-! THE CLAIM OUT OF ONE WALK OF THE LAW'S BODY. Your part is whole_start (and what it stands on); all else here is the same for every law, but numbers. -/
def R_law : String := "RopeClockLaw"
def lw_P (b : Addr) (xs : List Int32) (args : Array Value) (s : State) : Prop := args = #[.ref b] ∧ s.IntsAt b xs ∧ xs.length ≤ 3072 ∧ (Jvm.Cond.and given_1 narrow_1).before args s = true
def lw_Q (_ : Array Value) (s : State) (o : Outcome) (t : State) : Prop := o = .returned (some (.int 1)) ∧ Framed s o t [] 165162 8606764
def lw_Z (below : List Frame) (a : Array Value) (s : State) : State → Prop := fun t => ∃ o, t.status = .running ∧ Ended t below o ∧ lw_Q a s o t
/-- the law's own end, with 1 on the stack, nothing written that was there before, its room as the claim has it -/
theorem lw_ret {p : Program} {l : Launch} {e : Env} {s : State} {m : MethodId} {below : List Frame} {meth : Method} {c : Code} {b : Nat} (hx : p.tables.exec = Jvm.exec) (hb : c.code = code) (hr : meth.sig.returnType = ret) (hlocks : meth.locks = false) {pc : Nat} {H : Heap} {ls : Array Slot} (hdg : decode code pc = .ok (.ireturn, 1)) : W p l e room_1 s m #[Value.ref b] below meth c H [] 165162 8606764 (lw_Z below #[Value.ref b] s) (F0 m pc ls [.int 1]) := by
  intro T hT X
  obtain ⟨fs, hret, hrun, hended, hW, hframe⟩ := X.leave (v := some (.int 1)) (hlocks := hlocks) (fun h => by rw [hr] at h; cases h)
  have hmeth' : T.vm.method? m = some meth := X.method'
  refine ⟨T.setFrames fs, ?_, .returned (some (.int 1)), hrun, hended, rfl, ⟨_, rfl⟩, hW, hframe⟩
  jvm_step X.here [X.here.top, hx, hb, hdg, hmeth', hr, ret, narrow_b1]
  (try refine ⟨rfl, ?_⟩); (try refine ⟨rfl, ?_⟩)
  first | (intro acts; rw [hret _ acts rfl rfl rfl]) | rw [hret _ _ rfl rfl rfl]
  exact Steps.refl _
/-- what holds at the law's entry: the machine, the code, the tables' words (any of lw_tbl by 'hts w (by decide +kernel)'), the script of L ints xs at the cell b, what the Statement gives of the start (any of its parts by flat_of_before) -/
def lw_At (p : Program) (s : State) (m : MethodId) (meth : Method) (c : Code) (b L : Nat) (xs : Nat → Int32) : Prop :=
  p.tables.exec = Jvm.exec ∧ c.code = code ∧ meth.sig.returnType = ret ∧ c.maxLocals = 4 ∧ s.vm.findClass R_law = some m.cls ∧ (∀ w ∈ lw_tbl, w.before #[Value.ref b] s = true) ∧ va_X b L xs s s.heap ∧ b < s.heap.size ∧ meth.locks = false ∧ (Jvm.Cond.and given_1 narrow_1).before #[Value.ref b] s = true
/-! cells that are still to be made get new addresses -/
def zgn (g : zG) (n sz : Nat) : zG := (fun r => if (n : Int) ≤ r then sz + (r.toNat - n) else g.1 r, g.2)
theorem zgn_f (g : zG) (n sz : Nat) (c : Nat) (h : n ≤ c) : (zgn g n sz).1 (c : Int) = sz + (c - n) := by
  show (if (n : Int) ≤ (c : Int) then sz + ((c : Int).toNat - n) else g.1 c) = _
  rw [if_pos (by omega)]; rfl
theorem zgn_b (g : zG) (n sz : Nat) {r : Int} (h : r < n) : (zgn g n sz).1 r = g.1 r := if_neg (by omega)
def zRf (sh : zSh) (h : zM) : Prop := ∀ c : Nat, c < h.1 → (∀ ci, sh c = .inl ci → ∀ k : Nat, k < znf ci → zfk ci k = 2 → h.2 c k < h.1) ∧ (∀ a n, sh c = .inr (a + 2, n) → ∀ j : Nat, h.2 c j < h.1)
theorem zw_g {sh : zSh} {g g' : zG} {h : zM} (r : zRf sh h) (e1 : ∀ x : Int, x < h.1 → g'.1 x = g.1 x) (e2 : g'.2 = g.2) : zw sh g' h = zw sh g h := by
  unfold zw
  apply List.map_congr_left
  intro c hc
  have hc := List.mem_range.mp hc
  obtain ⟨r1, r2⟩ := r c hc
  rw [e1 c (by omega)]
  congr 1
  unfold zc
  rw [e2]
  cases hs : sh c with
  | inl ci =>
    dsimp only
    congr 2
    apply List.map_congr_left
    intro k hk
    have hk := List.mem_range.mp hk
    unfold zfv
    by_cases z : zfk ci k = 2
    · rw [if_pos z, if_pos z]
      unfold zv
      dsimp only
      rw [e1 _ (r1 ci hs k hk z)]
    · rw [if_neg z, if_neg z]
  | inr q =>
    obtain ⟨a, n⟩ := q
    match a with
    | 0 => rfl
    | 1 => rfl
    | a + 2 =>
      have ef : (fun (j : Nat) => zo g'.1 (h.2 c j)) = fun (j : Nat) => zo g.1 (h.2 c j) := by
        funext j
        unfold zo
        rw [e1 _ (r2 a n hs j)]
      dsimp only
      rw [ef]
def cRf (c k : Nat) : Bool := match shC c with
  | .inl ci => !(decide (k < znf ci) && zfk ci k == 2) || decide ((tK (kC c) c k).2 ≤ 139) || (c == 0 && k == 10)
  | .inr (a, _) => decide (a < 2) || c == 114
theorem cRf_all : ∀ c : Nat, c < 141 → ∀ k : Nat, k < 16 → cRf c k = true := by decide +kernel
theorem znf_16 : ∀ c : Nat, c < 141 → (match shC c with | .inl ci => decide (znf ci ≤ 16) | .inr _ => true) = true := by decide +kernel
theorem okC_rf {h : zM} (s : okC h) : zRf shC h := by
  have hn : (h.1 = 140 ∧ h.2 0 10 = -1) ∨ (h.1 = 141 ∧ h.2 0 10 = 140) := by rcases s.2.2.2 with q | q; exact Or.inl ⟨q.2, q.1⟩; exact Or.inr ⟨q.2, q.1⟩
  intro c hc
  have hc1 : c < 141 := by omega
  constructor
  · intro ci hs k hk hz
    have h16 := znf_16 c hc1
    rw [hs] at h16
    have h16 : znf ci ≤ 16 := of_decide_eq_true h16
    have hb := cRf_all c hc1 k (by omega)
    unfold cRf at hb
    rw [hs] at hb
    dsimp only at hb
    rw [decide_eq_true hk, hz] at hb
    have hp := s.2.1 c k
    by_cases z : (tK (kC c) c k).2 ≤ 139
    · have hp2 := hp.2
      omega
    · rw [decide_eq_false z] at hb
      have hb : (c == 0 && k == 10) = true := by simpa using hb
      have hc0 : c = 0 ∧ k = 10 := by simpa using hb
      rw [hc0.1, hc0.2]
      show h.2 0 10 < h.1
      omega
  · intro a n hs j
    have hb := cRf_all c hc1 0 (by decide)
    unfold cRf at hb
    rw [hs] at hb
    dsimp only at hb
    rw [decide_eq_false (by omega : ¬ a + 2 < 2)] at hb
    have hc0 : c = 114 := by simpa using hb
    have hp : 116 ≤ h.2 114 j ∧ h.2 114 j ≤ 136 := s.2.1 114 j
    rw [hc0]
    show h.2 114 j < h.1
    omega
def mRf (k : Nat) : Bool := !(decide (k < znf 11) && zfk 11 k == 2) || decide ((tM 0 k).2 ≤ 35)
theorem mRf_all : ∀ k : Nat, k < 62 → mRf k = true := by decide +kernel
def mRa (c : Nat) : Bool := match shM c with | .inl ci => c == 0 && ci == 11 | .inr (a, _) => decide (a < 2)
theorem mRa_all : ∀ c : Nat, c < 36 → mRa c = true := by decide +kernel
theorem okM_rf {h : zM} (s : okM h) : zRf shM h := by
  intro c hc
  rw [s.1] at hc
  have hb := mRa_all c hc
  unfold mRa at hb
  constructor
  · intro ci hs k hk hz
    rw [hs] at hb
    have hb : c = 0 ∧ ci = 11 := by simpa using hb
    obtain ⟨rfl, rfl⟩ := hb
    have hk : k < 62 := hk
    have h2 := mRf_all k hk
    unfold mRf at h2
    rw [decide_eq_true (show k < znf 11 from hk), hz] at h2
    have h2 : (tM 0 k).2 ≤ 35 := by simpa using h2
    have hp := (s.2.1 0 k).2
    rw [s.1]
    show h.2 0 k < ((36 : Nat) : Int)
    omega
  · intro a n hs j
    rw [hs] at hb
    dsimp only at hb
    rw [decide_eq_false (by omega : ¬ a + 2 < 2)] at hb
    cases hb
/-! the law's own judgement: two worlds, apart; the script -/
abbrev zA (s : State) : Nat → Prop := fun q => s.heap.size ≤ q
def zS2 (gC gM : zG) (b : Nat) : Int ⊕ Nat → Value
  | .inl n => .int (Int32.ofInt n)
  | .inr 0 => .ref b
  | .inr 1 => .ref (gC.1 0)
  | .inr (_ + 2) => .ref (gM.1 0)
def zFx (D : va_G) (s : State) (g : zG) : Prop := va_K D vwCl (ztys g) s ∧ zStr g (zA s) s
def zW1 (sh : zSh) (D : va_G) (s : State) (g : zG) (h : zM) (H : Heap) : Prop := va_P D vwCl (zw sh g h) H ∧ va_D (zA s) (zw sh g h)
def zAp (w1 w2 : va_W) : Prop := ∀ (i j : Nat) (x y : Nat × va_E), w1[i]? = some x → w2[j]? = some y → x.1 ≠ y.1
def zK (p : Program) (l : Launch) (e : Env) (s : State) (m : MethodId) (below : List Frame) (meth : Method) (c : Code) (b : Nat) (u1 u2 pc : Nat) (x : Int) (st : List (Int ⊕ Nat)) (hC hM : zM) : Prop :=
  ∀ (D : va_G) (gC gM : zG) (H : Heap) (locs : List Loc) (ls : Array Slot), zFx D s gC → zFx D s gM → zW1 shC D s gC hC H → zW1 shM D s gM hM H → zAp (zw shC gC hC) (zw shM gM hM) → va_S (zA s) s.heap H locs → lv_has ls 4 [(0, .ref b), (1, .ref (gC.1 0)), (2, .ref (gM.1 0)), (3, .int (Int32.ofInt x))] →
    W p l e room_1 s m #[Value.ref b] below meth c H locs u1 u2 (lw_Z below #[Value.ref b] s) (F0 m pc ls (st.map (zS2 gC gM b)))
theorem zStr_g {g g' : zG} {A : Nat → Prop} {U : State} (h : zStr g A U) (e : ∀ r : Int, r < 0 → g'.1 r = g.1 r) : zStr g' A U := by
  unfold zStr at h ⊢
  have e1 : (fun i : Nat => g'.1 (-2 - (i : Int))) = fun i : Nat => g.1 (-2 - (i : Int)) := funext fun i => e _ (by omega)
  have e2 : (fun i : Nat => g'.1 (-10 - (i : Int))) = fun i : Nat => g.1 (-10 - (i : Int)) := funext fun i => e _ (by omega)
  rw [e1, e2, e (-20) (by decide)]
  exact ⟨h.1, h.2.1, fun q hq => by rw [e _ (by omega)]; exact h.2.2.1 q hq, h.2.2.2⟩
section ZL
variable {p : Program} {l : Launch} {e : Env} {s : State} {m : MethodId} {below : List Frame} {meth : Method} {c : Code} {b L : Nat} {xs : Nat → Int32} {u1 u2 pc n : Nat} {x : Int} {st : List (Int ⊕ Nat)} {hC hM : zM}

theorem zk_iconst (C0 : lw_At p s m meth c b L xs) {z : Int} (hd : zd code pc (.iconst z) 1 n) (kk : zK p l e s m below meth c b u1 u2 n x (.inl z :: st) hC hM) : zK p l e s m below meth c b u1 u2 pc x st hC hM := by
  intro D gC gM H locs ls F1 F2 W1 W2 AP hS hl
  obtain ⟨hx, hb, hr, hml, hown, hts, hX, hbl, hlocks, hgv⟩ := id C0
  refine lv_iconst hx hb hd.1 rfl ?_
  have K := kk D gC gM H locs ls F1 F2 W1 W2 AP hS hl
  rw [← hd.2] at K
  exact K

theorem zk_bipush (C0 : lw_At p s m meth c b L xs) {z : Int} (hd : zd code pc (.bipush z) 2 n) (hz : -128 ≤ z ∧ z ≤ 127) (kk : zK p l e s m below meth c b u1 u2 n x (.inl z :: st) hC hM) : zK p l e s m below meth c b u1 u2 pc x st hC hM := by
  intro D gC gM H locs ls F1 F2 W1 W2 AP hS hl
  obtain ⟨hx, hb, hr, hml, hown, hts, hX, hbl, hlocks, hgv⟩ := id C0
  refine lv_bipush hx hb hd.1 (v := Int32.ofInt z) ?_ ?_
  · apply Int32.toInt_inj.mp
    rw [Int8.toInt_toInt32, Int8.toInt_ofInt_of_le (by omega) (by omega), Int32.toInt_ofInt_of_le (by omega) (by omega)]
  have K := kk D gC gM H locs ls F1 F2 W1 W2 AP hS hl
  rw [← hd.2] at K
  exact K

theorem zk_iload3 (C0 : lw_At p s m meth c b L xs) (hd : zd code pc (.iload_n 3) 1 n) (kk : zK p l e s m below meth c b u1 u2 n x (.inl x :: st) hC hM) : zK p l e s m below meth c b u1 u2 pc x st hC hM := by
  intro D gC gM H locs ls F1 F2 W1 W2 AP hS hl
  obtain ⟨hx, hb, hr, hml, hown, hts, hX, hbl, hlocks, hgv⟩ := id C0
  refine lv_iload_n hx hb hd.1 rfl (lv_at hl 3 rfl) ?_
  have K := kk D gC gM H locs ls F1 F2 W1 W2 AP hS hl
  rw [← hd.2] at K
  exact K

theorem zk_aload0 (C0 : lw_At p s m meth c b L xs) (hd : zd code pc (.aload_n 0) 1 n) (kk : zK p l e s m below meth c b u1 u2 n x (.inr 0 :: st) hC hM) : zK p l e s m below meth c b u1 u2 pc x st hC hM := by
  intro D gC gM H locs ls F1 F2 W1 W2 AP hS hl
  obtain ⟨hx, hb, hr, hml, hown, hts, hX, hbl, hlocks, hgv⟩ := id C0
  refine lv_aload_n hx hb hd.1 rfl (lv_at hl 0 rfl) ?_
  have K := kk D gC gM H locs ls F1 F2 W1 W2 AP hS hl
  rw [← hd.2] at K
  exact K

theorem zk_aload1 (C0 : lw_At p s m meth c b L xs) (hd : zd code pc (.aload_n 1) 1 n) (kk : zK p l e s m below meth c b u1 u2 n x (.inr 1 :: st) hC hM) : zK p l e s m below meth c b u1 u2 pc x st hC hM := by
  intro D gC gM H locs ls F1 F2 W1 W2 AP hS hl
  obtain ⟨hx, hb, hr, hml, hown, hts, hX, hbl, hlocks, hgv⟩ := id C0
  refine lv_aload_n hx hb hd.1 rfl (lv_at hl 1 rfl) ?_
  have K := kk D gC gM H locs ls F1 F2 W1 W2 AP hS hl
  rw [← hd.2] at K
  exact K

theorem zk_aload2 (C0 : lw_At p s m meth c b L xs) (hd : zd code pc (.aload_n 2) 1 n) (kk : zK p l e s m below meth c b u1 u2 n x (.inr 2 :: st) hC hM) : zK p l e s m below meth c b u1 u2 pc x st hC hM := by
  intro D gC gM H locs ls F1 F2 W1 W2 AP hS hl
  obtain ⟨hx, hb, hr, hml, hown, hts, hX, hbl, hlocks, hgv⟩ := id C0
  refine lv_aload_n hx hb hd.1 rfl (lv_at hl 2 rfl) ?_
  have K := kk D gC gM H locs ls F1 F2 W1 W2 AP hS hl
  rw [← hd.2] at K
  exact K

theorem zk_len (C0 : lw_At p s m meth c b L xs) (hd : zd code pc .arraylength 1 n) (kk : zK p l e s m below meth c b u1 u2 n x (.inl (L : Int) :: st) hC hM) : zK p l e s m below meth c b u1 u2 pc x (.inr 0 :: st) hC hM := by
  intro D gC gM H locs ls F1 F2 W1 W2 AP hS hl
  obtain ⟨hx, hb, hr, hml, hown, hts, hX, hbl, hlocks, hgv⟩ := id C0
  refine va_slen hx hb hX hbl (Nat.not_le.mpr hbl) hS hd.1 ?_
  rw [← Int32.ofInt_eq_ofNat]
  have K := kk D gC gM H locs ls F1 F2 W1 W2 AP hS hl
  rw [← hd.2] at K
  exact K

theorem zk_sld (C0 : lw_At p s m meth c b L xs) (hL : L ≤ 3072) {i : Int} (hi : 0 ≤ i ∧ i < L) (hd : zd code pc .iaload 1 n) (kk : zK p l e s m below meth c b u1 u2 n x (.inl (xs i.toNat).toInt :: st) hC hM) : zK p l e s m below meth c b u1 u2 pc x (.inl i :: .inr 0 :: st) hC hM := by
  intro D gC gM H locs ls F1 F2 W1 W2 AP hS hl
  obtain ⟨hx, hb, hr, hml, hown, hts, hX, hbl, hlocks, hgv⟩ := id C0
  obtain ⟨z1, z2⟩ := zix (i := i) (N := L) hi (by omega)
  refine va_sld hx hb hX hbl (Nat.not_le.mpr hbl) hS z1 hd.1 ?_
  have K := kk D gC gM H locs ls F1 F2 W1 W2 AP hS hl
  rw [← hd.2, List.map_cons] at K
  have e3 : zS2 gC gM b (.inl (xs i.toNat).toInt) = .int (xs i.toNat) := by show Value.int (Int32.ofInt _) = _; rw [Int32.ofInt_toInt]
  rw [e3] at K
  rw [z2]
  exact K

theorem zk_iadd (C0 : lw_At p s m meth c b L xs) {a d : Int} (hd : zd code pc .iadd 1 n) (kk : zK p l e s m below meth c b u1 u2 n x (.inl (a + d) :: st) hC hM) : zK p l e s m below meth c b u1 u2 pc x (.inl d :: .inl a :: st) hC hM := by
  intro D gC gM H locs ls F1 F2 W1 W2 AP hS hl
  obtain ⟨hx, hb, hr, hml, hown, hts, hX, hbl, hlocks, hgv⟩ := id C0
  refine lv_iadd hx hb hd.1 ?_
  rw [← Int32.ofInt_add a d]
  have K := kk D gC gM H locs ls F1 F2 W1 W2 AP hS hl
  rw [← hd.2] at K
  exact K

theorem zk_isub (C0 : lw_At p s m meth c b L xs) {a d : Int} (hd : zd code pc .isub 1 n) (kk : zK p l e s m below meth c b u1 u2 n x (.inl (a - d) :: st) hC hM) : zK p l e s m below meth c b u1 u2 pc x (.inl d :: .inl a :: st) hC hM := by
  intro D gC gM H locs ls F1 F2 W1 W2 AP hS hl
  obtain ⟨hx, hb, hr, hml, hown, hts, hX, hbl, hlocks, hgv⟩ := id C0
  refine lv_isub hx hb hd.1 ?_
  rw [← Int32.ofInt_sub a d]
  have K := kk D gC gM H locs ls F1 F2 W1 W2 AP hS hl
  rw [← hd.2] at K
  exact K

theorem zk_iand (C0 : lw_At p s m meth c b L xs) {a d : Int} (hd : zd code pc .iand 1 n) (kk : zK p l e s m below meth c b u1 u2 n x (.inl (zand a d) :: st) hC hM) : zK p l e s m below meth c b u1 u2 pc x (.inl d :: .inl a :: st) hC hM := by
  intro D gC gM H locs ls F1 F2 W1 W2 AP hS hl
  obtain ⟨hx, hb, hr, hml, hown, hts, hX, hbl, hlocks, hgv⟩ := id C0
  refine lv_iand hx hb hd.1 ?_
  have K := kk D gC gM H locs ls F1 F2 W1 W2 AP hS hl
  rw [← hd.2, List.map_cons] at K
  simp only [zS2, zand, zand_, Int32.ofInt_toInt] at K
  exact K

theorem zk_pop (C0 : lw_At p s m meth c b L xs) {v : Int} (hd : zd code pc .pop 1 n) (kk : zK p l e s m below meth c b u1 u2 n x st hC hM) : zK p l e s m below meth c b u1 u2 pc x (.inl v :: st) hC hM := by
  intro D gC gM H locs ls F1 F2 W1 W2 AP hS hl
  obtain ⟨hx, hb, hr, hml, hown, hts, hX, hbl, hlocks, hgv⟩ := id C0
  refine lv_pop hx hb hd.1 rfl ?_
  have K := kk D gC gM H locs ls F1 F2 W1 W2 AP hS hl
  rw [← hd.2] at K
  exact K

theorem zk_goto (C0 : lw_At p s m meth c b L xs) {off : Int} {t : Nat} (hd : zd code pc (.goto off) 3 n) (ht : (pc : Int) + off = (t : Int)) (kk : zK p l e s m below meth c b u1 u2 t x st hC hM) : zK p l e s m below meth c b u1 u2 pc x st hC hM := by
  intro D gC gM H locs ls F1 F2 W1 W2 AP hS hl
  obtain ⟨hx, hb, hr, hml, hown, hts, hX, hbl, hlocks, hgv⟩ := id C0
  exact lv_goto hx hb hd.1 ht (kk D gC gM H locs ls F1 F2 W1 W2 AP hS hl)
theorem zk_iinc (C0 : lw_At p s m meth c b L xs) {d : Int} (hd : zd code pc (.iinc 3 d) 3 n) (kk : zK p l e s m below meth c b u1 u2 n (x + d) st hC hM) : zK p l e s m below meth c b u1 u2 pc x st hC hM := by
  intro D gC gM H locs ls F1 F2 W1 W2 AP hS hl
  obtain ⟨hx, hb, hr, hml, hown, hts, hX, hbl, hlocks, hgv⟩ := id C0
  refine lv_iinc (v := Int32.ofInt (x + d)) (lv' := [(3, .int (Int32.ofInt (x + d))), (0, .ref b), (1, .ref (gC.1 0)), (2, .ref (gM.1 0))]) hx hb hd.1 hl (k := 3) rfl (Int32.ofInt_add x d).symm (by decide) rfl (fun ls hl => ?_)
  have K := kk D gC gM H locs ls F1 F2 W1 W2 AP hS (lv_sub hl [1, 2, 3, 0] rfl)
  rw [← hd.2] at K
  exact K
theorem zk_icmp_gt (C0 : lw_At p s m meth c b L xs) {a d off : Int} {t : Nat} (hd : zd code pc (.if_icmp .gt off) 3 n) (ht : (pc : Int) + off = (t : Int)) (ha : zin a) (hb2 : zin d) (kt : d < a → zK p l e s m below meth c b u1 u2 t x st hC hM) (kf : ¬ d < a → zK p l e s m below meth c b u1 u2 n x st hC hM) : zK p l e s m below meth c b u1 u2 pc x (.inl d :: .inl a :: st) hC hM := by
  intro D gC gM H locs ls F1 F2 W1 W2 AP hS hl
  obtain ⟨hx, hb, hr, hml, hown, hts, hX, hbl, hlocks, hgv⟩ := id C0
  refine lv_icmp_gt hx hb hd.1 ht (fun q => kt ((zin_lt hb2 ha).mp q) D gC gM H locs ls F1 F2 W1 W2 AP hS hl) (fun q => ?_)
  have K := kf (fun z => q ((zin_lt hb2 ha).mpr z)) D gC gM H locs ls F1 F2 W1 W2 AP hS hl
  rw [← hd.2] at K
  exact K
theorem zk_icmp_eq (C0 : lw_At p s m meth c b L xs) {a d off : Int} {t : Nat} (hd : zd code pc (.if_icmp .eq off) 3 n) (ht : (pc : Int) + off = (t : Int)) (ha : zin a) (hb2 : zin d) (kt : a = d → zK p l e s m below meth c b u1 u2 t x st hC hM) (kf : ¬ a = d → zK p l e s m below meth c b u1 u2 n x st hC hM) : zK p l e s m below meth c b u1 u2 pc x (.inl d :: .inl a :: st) hC hM := by
  intro D gC gM H locs ls F1 F2 W1 W2 AP hS hl
  obtain ⟨hx, hb, hr, hml, hown, hts, hX, hbl, hlocks, hgv⟩ := id C0
  refine lv_icmp_eq hx hb hd.1 ht (fun q => kt ((zin_inj ha hb2).mp q) D gC gM H locs ls F1 F2 W1 W2 AP hS hl) (fun q => ?_)
  have K := kf (fun z => q ((zin_inj ha hb2).mpr z)) D gC gM H locs ls F1 F2 W1 W2 AP hS hl
  rw [← hd.2] at K
  exact K
theorem zk_if_eq (C0 : lw_At p s m meth c b L xs) {a off : Int} {t : Nat} (hd : zd code pc (.ifCond .eq off) 3 n) (ht : (pc : Int) + off = (t : Int)) (ha : zin a) (kt : a = 0 → zK p l e s m below meth c b u1 u2 t x st hC hM) (kf : ¬ a = 0 → zK p l e s m below meth c b u1 u2 n x st hC hM) : zK p l e s m below meth c b u1 u2 pc x (.inl a :: st) hC hM := by
  intro D gC gM H locs ls F1 F2 W1 W2 AP hS hl
  obtain ⟨hx, hb, hr, hml, hown, hts, hX, hbl, hlocks, hgv⟩ := id C0
  refine lv_if_eq hx hb hd.1 ht (fun q => kt ((zin_inj ha zin_0).mp q) D gC gM H locs ls F1 F2 W1 W2 AP hS hl) (fun q => ?_)
  have K := kf (fun z => q ((zin_inj ha zin_0).mpr z)) D gC gM H locs ls F1 F2 W1 W2 AP hS hl
  rw [← hd.2] at K
  exact K
theorem zk_table (C0 : lw_At p s m meth c b L xs) {a dflt lo hi : Int} {offs : Array Int} {len : Nat} (hd : zd code pc (.tableswitch dflt lo hi offs) len n) (ha : zin a) {t : Nat} (ht : (pc : Int) + dflt = (t : Int)) (ko : a < lo ∨ hi < a → zK p l e s m below meth c b u1 u2 t x st hC hM) (ki : lo ≤ a → a ≤ hi → ∃ (off : Int) (t2 : Nat), offs[(a - lo).toNat]? = some off ∧ (pc : Int) + off = (t2 : Int) ∧ zK p l e s m below meth c b u1 u2 t2 x st hC hM) : zK p l e s m below meth c b u1 u2 pc x (.inl a :: st) hC hM := by
  intro D gC gM H locs ls F1 F2 W1 W2 AP hS hl
  obtain ⟨hx, hb, hr, hml, hown, hts, hX, hbl, hlocks, hgv⟩ := id C0
  by_cases h1 : a < lo
  · exact lv_tableOut hx hb hd.1 (Or.inl (by rw [zin_i ha]; exact h1)) ht (ko (Or.inl h1) D gC gM H locs ls F1 F2 W1 W2 AP hS hl)
  · by_cases h2 : hi < a
    · exact lv_tableOut hx hb hd.1 (Or.inr (by rw [zin_i ha]; exact h2)) ht (ko (Or.inr h2) D gC gM H locs ls F1 F2 W1 W2 AP hS hl)
    · obtain ⟨off, t2, q1, q2, q3⟩ := ki (by omega) (by omega)
      exact lv_tableIn hx hb hd.1 (by rw [zin_i ha]; exact h1) (by rw [zin_i ha]; exact h2) (by rw [zin_i ha]; exact q1) q2 (q3 D gC gM H locs ls F1 F2 W1 W2 AP hS hl)
theorem zk_end (C0 : lw_At p s m meth c b L xs) (hd : decode code pc = .ok (.ireturn, 1)) (h1 : u1 ≤ 165162) (h2 : u2 ≤ 8606764) : zK p l e s m below meth c b u1 u2 pc x [.inl 1] hC hM := by
  intro D gC gM H locs ls F1 F2 W1 W2 AP hS hl
  obtain ⟨hx, hb, hr, hml, hown, hts, hX, hbl, hlocks, hgv⟩ := id C0
  refine va_forget (fun q hq => hS.2.2 q hq) ?_
  refine W.widen h1 h2 ?_
  exact lw_ret hx hb hr hlocks hd
theorem zk_widen {k1 k2 : Nat} (h1 : u1 ≤ k1) (h2 : u2 ≤ k2) (kk : zK p l e s m below meth c b k1 k2 pc x st hC hM) : zK p l e s m below meth c b u1 u2 pc x st hC hM := by
  intro D gC gM H locs ls F1 F2 W1 W2 AP hS hl
  exact W.widen h1 h2 (kk D gC gM H locs ls F1 F2 W1 W2 AP hS hl)
theorem z2_call {sh1 sh2 : zSh} (C0 : lw_At p s m meth c b L xs) {D : va_G} {g g2 : zG} {h h2 : zM} {H : Heap} {locs : List Loc} {ls : Array Slot} {Qf : State → Prop} (F1 : zFx D s g) (W1 : zW1 sh1 D s g h H) (W2 : zW1 sh2 D s g2 h2 H) (AP : zAp (zw sh1 g h) (zw sh2 g2 h2)) (hS : va_S (zA s) s.heap H locs) (hg : ∀ c : Nat, h.1 ≤ c → g.1 (c : Int) = H.size + (c - h.1)) (hls : ls.size = 4) {idx ci : Nat} {q : vw_C} {y' : MethodName} {cc' : ByteArray} {nL' : Nat} {ret' : Option FieldType} {rm' : Room} {mc' ms' np : Nat} {Q' : Option zV → zM → Prop} (hd : decode code pc = .ok (.invokevirtual idx, 3)) (hb1 : zMb y' cc' nL' ret' np) (hm : zMV RL idx y'.cls y') (hcl : vwCl[ci]? = some q) (hcn : q.1 = y'.cls) (hsc : sh1 0 = .inl ci ∧ 0 < h.1) {av : List zV} (hlen : av.length = np) {rest : List Value} (hrest : (rest.map fun v => v.category).sum ≤ 8) (hT : zT sh1 l y' cc' nL' ret' rm' mc' ms' (.inr 0 :: av) h Q') (hrm : zRm room_1 rm' nL' u1 u2 mc' ms') (kk : ∀ r h', Q' r h' → ∀ (H1 : Heap) (locs1 : List Loc), zW1 sh1 D s g h' H1 → zW1 sh2 D s g2 h2 H1 → zAp (zw sh1 g h') (zw sh2 g2 h2) → va_S (zA s) s.heap H1 locs1 → H.size ≤ H1.size → (∀ c : Nat, h'.1 ≤ c → g.1 (c : Int) = H1.size + (c - h'.1)) → W p l e room_1 s m #[Value.ref b] below meth c H1 locs1 (u1 + mc') (u2 + ms') Qf (F0 m (pc + 3) ls ((r.map (zv g.1)).toList ++ rest))) : W p l e room_1 s m #[Value.ref b] below meth c H locs u1 u2 Qf (F0 m pc ls ((av.map (zv g.1)).reverse ++ .ref (g.1 0) :: rest)) := by
  obtain ⟨hx, hb, hr, hml, hown, hts0, hX, hbl, hlocks, hgv⟩ := id C0
  have hts := zt_of hts0
  have hsub : ∀ q, va_A (zw sh1 g h) H.size q → zA s q := by
    intro q hq
    rcases hq with ⟨k, e, hk⟩ | hq
    · exact W1.2.2 k (q, e) hk
    · exact Nat.le_trans hS.1 hq
  have hP1 := zw_at sh1 g h (c := 0) hsc.2
  rw [show ((0 : Nat) : Int) = 0 from rfl, zc_obj hsc.1] at hP1
  have hpre : ∀ U : State, U.heap = H → s.WarmedH U.vm → zPc sh1 D g H.size (.inr 0 :: av) h (Value.ref (g.1 0) :: av.map (zv g.1)).toArray U := by
    intro U hU hW
    have : zPc sh1 D g H.size (.inr 0 :: av) h ((.inr 0 :: av : List zV).map (zv g.1)).toArray U := ⟨rfl, by rw [hU], by rw [hU]; exact W1.1, zD_weak W1.2 (fun _ _ => trivial), hg, va_K.moved hW.alike F1.1, F1.2.moved hU hW hS hsub⟩
    rw [List.map_cons, zv_ref _ (show ¬ (0 : Int) = -1 by decide)] at this
    exact this
  have hrun : va_Run p l e room_1 s m #[Value.ref b] below meth c H locs u1 u2 mc' ms' (F0 m pc ls ((av.map (zv g.1)).reverse ++ .ref (g.1 0) :: rest)) rest (zQ sh1 D g (va_A (zw sh1 g h) H.size) Q' (Value.ref (g.1 0) :: av.map (zv g.1)).toArray) (va_A (zw sh1 g h) H.size) := by
    refine va_runV (C := y'.cls) ⟨hx, hb, hml, hown, hts⟩ (hT D g H.size) ⟨callB_of np hts (zws_good hb1.1) rfl hrm.1 hrm.2.1 (hts _ hb1.2.1) (hts _ hm.1) hb1.2.2 hrm.2.2.1, hts _ hm.2.1, hts _ hm.2.2⟩ ⟨zPc_blind sh1 D g H.size _ h, ?_, hpre⟩ rfl (by rw [List.length_map]; exact hlen) hls rfl (lv_room hrest) hd hrm.2.2.2
    have := va_recv F1.1 W1.1 hcl hP1
    rw [hcn] at this
    exact this
  intro T hT0 XX
  obtain ⟨v, st₀, t, T', Lc, h0, X', hL, e1, e2, ⟨⟨r, h', hv, hQ, hPn, hDn, hgn⟩, hz, hk⟩, go⟩ := hrun T hT0 XX
  cases hv
  rw [h0] at hz hk
  have hlt : ∀ (k : Nat) (y : Nat × va_E), (zw sh2 g2 h2)[k]? = some y → y.1 < H.size := fun k y hy => (W2.1 k y hy).lt
  have hno : ∀ (k : Nat) (y : Nat × va_E), (zw sh2 g2 h2)[k]? = some y → ¬ va_A (zw sh1 g h) H.size y.1 := by
    intro k y hy hq
    rcases hq with ⟨k', e', hk'⟩ | hq
    · exact AP k' k (y.1, e') y hk' hy rfl
    · exact absurd (hlt k y hy) (Nat.not_lt.mpr hq)
  obtain ⟨t2, a1, b1⟩ := kk r h' hQ T'.heap (locs ++ Lc) ⟨by rw [e1]; exact hPn, zD_weak hDn hsub⟩ ⟨W2.1.kept (fun k y hy => by rw [e1]; exact hk y.1 (hlt k y hy) (hno k y hy)), W2.2⟩ (by
      intro i j a y ha hy he
      rcases hDn.2 i a ha with ⟨k', e', hk'⟩ | hq
      · exact AP k' j (a.1, e') y hk' hy he
      · exact absurd (hlt j y hy) (Nat.not_lt.mpr (by rw [← he]; exact hq))) ⟨Nat.le_trans hS.1 (by rw [e1]; exact hz), fun q h1 h2 => by rw [e1, hk q (Nat.lt_of_lt_of_le h1 hS.1) (fun z => h2 (hsub q z))]; exact hS.2.1 q h1 h2, fun q hq => by
        rcases List.mem_append.mp hq with h | h
        · exact hS.2.2 q h
        · exact hsub _ (hL q h)⟩ (by rw [e1]; exact hz) (by rw [e1]; exact hgn) T' rfl X'
  exact ⟨t2, go t2 a1, b1⟩
theorem z2_init {sh1 sh2 : zSh} (C0 : lw_At p s m meth c b L xs) {D : va_G} {g g2 : zG} {h h2 : zM} {H : Heap} {locs : List Loc} {ls : Array Slot} {Qf : State → Prop} (F1 : zFx D s g) (W1 : zW1 sh1 D s g h H) (W2 : zW1 sh2 D s g2 h2 H) (AP : zAp (zw sh1 g h) (zw sh2 g2 h2)) (hS : va_S (zA s) s.heap H locs) (hg : ∀ c : Nat, h.1 ≤ c → g.1 (c : Int) = H.size + (c - h.1)) (hls : ls.size = 4) {idx ci : Nat} {q : vw_C} {y' : MethodName} {cc' : ByteArray} {nL' : Nat} {rm' : Room} {mc' ms' np : Nat} {Q' : Option zV → zM → Prop} (hd : decode code pc = .ok (.invokespecial idx, 3)) (hb1 : zMb y' cc' nL' none np) (hm : Cond.instanceMethod y' ∈ zt ∧ y'.name = "<init>" ∧ Cond.methodLink RL idx y' ∈ zt) (hcl : vwCl[ci]? = some q) (hcn : q.1 = y'.cls) (hsc : sh1 0 = .inl ci ∧ 0 < h.1) {av : List zV} (hlen : av.length = np) {rest : List Value} (hrest : (rest.map fun v => v.category).sum ≤ 8) (hT : zT sh1 l y' cc' nL' none rm' mc' ms' (.inr 0 :: av) h Q') (hrm : zRm room_1 rm' nL' u1 u2 mc' ms') (kk : ∀ r h', Q' r h' → ∀ (H1 : Heap) (locs1 : List Loc), zW1 sh1 D s g h' H1 → zW1 sh2 D s g2 h2 H1 → zAp (zw sh1 g h') (zw sh2 g2 h2) → va_S (zA s) s.heap H1 locs1 → H.size ≤ H1.size → (∀ c : Nat, h'.1 ≤ c → g.1 (c : Int) = H1.size + (c - h'.1)) → W p l e room_1 s m #[Value.ref b] below meth c H1 locs1 (u1 + mc') (u2 + ms') Qf (F0 m (pc + 3) ls ((r.map (zv g.1)).toList ++ rest))) : W p l e room_1 s m #[Value.ref b] below meth c H locs u1 u2 Qf (F0 m pc ls ((av.map (zv g.1)).reverse ++ .ref (g.1 0) :: rest)) := by
  obtain ⟨hx, hb, hr, hml, hown, hts0, hX, hbl, hlocks, hgv⟩ := id C0
  have hts := zt_of hts0
  have hsub : ∀ q, va_A (zw sh1 g h) H.size q → zA s q := by
    intro q hq
    rcases hq with ⟨k, e, hk⟩ | hq
    · exact W1.2.2 k (q, e) hk
    · exact Nat.le_trans hS.1 hq
  have hP1 := zw_at sh1 g h (c := 0) hsc.2
  rw [show ((0 : Nat) : Int) = 0 from rfl, zc_obj hsc.1] at hP1
  have hpre : ∀ U : State, U.heap = H → s.WarmedH U.vm → zPc sh1 D g H.size (.inr 0 :: av) h (Value.ref (g.1 0) :: av.map (zv g.1)).toArray U := by
    intro U hU hW
    have : zPc sh1 D g H.size (.inr 0 :: av) h ((.inr 0 :: av : List zV).map (zv g.1)).toArray U := ⟨rfl, by rw [hU], by rw [hU]; exact W1.1, zD_weak W1.2 (fun _ _ => trivial), hg, va_K.moved hW.alike F1.1, F1.2.moved hU hW hS hsub⟩
    rw [List.map_cons, zv_ref _ (show ¬ (0 : Int) = -1 by decide)] at this
    exact this
  have hrun : va_Run p l e room_1 s m #[Value.ref b] below meth c H locs u1 u2 mc' ms' (F0 m pc ls ((av.map (zv g.1)).reverse ++ .ref (g.1 0) :: rest)) rest (zQ sh1 D g (va_A (zw sh1 g h) H.size) Q' (Value.ref (g.1 0) :: av.map (zv g.1)).toArray) (va_A (zw sh1 g h) H.size) := by
    exact va_runI ⟨hx, hb, hml, hown, hts⟩ (hT D g H.size) ⟨callB_of np hts (zws_good hb1.1) rfl hrm.1 hrm.2.1 (hts _ hb1.2.1) (hts _ hm.2.2) hb1.2.2 hrm.2.2.1, hm.2.1, hts _ hm.1⟩ ⟨zPc_blind sh1 D g H.size _ h, hpre⟩ rfl (by rw [List.length_map]; exact hlen) hls rfl (lv_room hrest) hd hrm.2.2.2
  intro T hT0 XX
  obtain ⟨v, st₀, t, T', Lc, h0, X', hL, e1, e2, ⟨⟨r, h', hv, hQ, hPn, hDn, hgn⟩, hz, hk⟩, go⟩ := hrun T hT0 XX
  cases hv
  rw [h0] at hz hk
  have hlt : ∀ (k : Nat) (y : Nat × va_E), (zw sh2 g2 h2)[k]? = some y → y.1 < H.size := fun k y hy => (W2.1 k y hy).lt
  have hno : ∀ (k : Nat) (y : Nat × va_E), (zw sh2 g2 h2)[k]? = some y → ¬ va_A (zw sh1 g h) H.size y.1 := by
    intro k y hy hq
    rcases hq with ⟨k', e', hk'⟩ | hq
    · exact AP k' k (y.1, e') y hk' hy rfl
    · exact absurd (hlt k y hy) (Nat.not_lt.mpr hq)
  obtain ⟨t2, a1, b1⟩ := kk r h' hQ T'.heap (locs ++ Lc) ⟨by rw [e1]; exact hPn, zD_weak hDn hsub⟩ ⟨W2.1.kept (fun k y hy => by rw [e1]; exact hk y.1 (hlt k y hy) (hno k y hy)), W2.2⟩ (by
      intro i j a y ha hy he
      rcases hDn.2 i a ha with ⟨k', e', hk'⟩ | hq
      · exact AP k' j (a.1, e') y hk' hy he
      · exact absurd (hlt j y hy) (Nat.not_lt.mpr (by rw [← he]; exact hq))) ⟨Nat.le_trans hS.1 (by rw [e1]; exact hz), fun q h1 h2 => by rw [e1, hk q (Nat.lt_of_lt_of_le h1 hS.1) (fun z => h2 (hsub q z))]; exact hS.2.1 q h1 h2, fun q hq => by
        rcases List.mem_append.mp hq with h | h
        · exact hS.2.2 q h
        · exact hsub _ (hL q h)⟩ (by rw [e1]; exact hz) (by rw [e1]; exact hgn) T' rfl X'
  exact ⟨t2, go t2 a1, b1⟩
theorem zk_callC (C0 : lw_At p s m meth c b L xs) (hok : okC hC) {idx : Nat} {y' : MethodName} {cc' : ByteArray} {nL' : Nat} {ret' : Option FieldType} {rm' : Room} {mc' ms' np : Nat} {P' : Int → zM → Prop} (avi : List Int) {st0 : List (Int ⊕ Nat)} (hd : zd code pc (.invokevirtual idx) 3 n) (hb1 : zMb y' cc' nL' ret' np) (hm : zMV RL idx y'.cls y') (hcn : RX10 = y'.cls) (hlen : avi.length = np) (hst : st0 = (avi.map Sum.inl).reverse ++ .inr 1 :: st) (hrest : st.length ≤ 8) (hT : zT shC l y' cc' nL' ret' rm' mc' ms' (.inr 0 :: avi.map Sum.inl) hC (zqi P')) (hrm : zRm room_1 rm' nL' u1 u2 mc' ms') (kk : ∀ v h', P' v h' → zK p l e s m below meth c b (u1 + mc') (u2 + ms') n x (.inl v :: st) h' hM) : zK p l e s m below meth c b u1 u2 pc x st0 hC hM := by
  intro D gC gM H locs ls F1 F2 W1 W2 AP hS hl
  obtain ⟨hx, hb, hr, hml, hown, hts, hX, hbl, hlocks, hgv⟩ := id C0
  subst hst
  obtain ⟨g, hgd⟩ : ∃ g, g = zgn gC hC.1 H.size := ⟨_, rfl⟩
  have eg : ∀ r : Int, r < hC.1 → g.1 r = gC.1 r := fun r hr => by rw [hgd]; exact zgn_b gC hC.1 H.size hr
  have e2 : g.2 = gC.2 := by rw [hgd]; rfl
  have hn0 : 0 < hC.1 := by have := hok.1; omega
  have ew : zw shC g hC = zw shC gC hC := zw_g (okC_rf hok) eg e2
  have e0 : g.1 0 = gC.1 0 := eg 0 (by omega)
  have F1n : zFx D s g := ⟨by have h9 := F1.1; unfold ztys at h9 ⊢; rw [e2]; exact h9, zStr_g F1.2 (fun r hr => eg r (by omega))⟩
  have W1n : zW1 shC D s g hC H := ⟨by rw [ew]; exact W1.1, by rw [ew]; exact W1.2⟩
  have APn : zAp (zw shC g hC) (zw shM gM hM) := by rw [ew]; exact AP
  have ezs : zS2 g gM b = zS2 gC gM b := by
    funext v
    match v with
    | .inl _ => rfl
    | .inr 0 => rfl
    | .inr 1 => show Value.ref (g.1 0) = _; rw [e0]; rfl
    | .inr (k + 2) => rfl
  have em : (avi.map (Sum.inl : Int → Int ⊕ Nat)).map (zS2 gC gM b) = (avi.map (Sum.inl : Int → zV)).map (zv g.1) := by rw [List.map_map, List.map_map]; rfl
  rw [List.map_append, List.map_reverse, List.map_cons, em, show zS2 gC gM b (.inr 1) = .ref (g.1 0) by rw [e0]; rfl]
  refine z2_call C0 F1n W1n W2 APn hS (fun k hk => by rw [hgd]; exact zgn_f gC hC.1 H.size k hk) hl.1 hd.1 hb1 hm (ci := 10) rfl hcn ⟨by decide +kernel, hn0⟩ (by rw [List.length_map]; exact hlen) ?_ hT hrm ?_
  · have hh : ∀ w : List (Int ⊕ Nat), ((w.map (zS2 gC gM b)).map fun v => v.category).sum = w.length := by
      intro w
      induction w with
      | nil => rfl
      | cons a w ih =>
        rw [List.map_cons, List.map_cons, List.sum_cons, ih, List.length_cons]
        have : (zS2 gC gM b a).category = 1 := by
          match a with
          | .inl _ => rfl
          | .inr 0 => rfl
          | .inr 1 => rfl
          | .inr (k + 2) => rfl
        omega
    rw [hh]; exact hrest
  · rintro _ h' ⟨v, rfl, hp⟩ H1 locs1 V1 V2 AP1 S1 _ _
    have K := kk v h' hp D g gM H1 locs1 ls F1n F2 V1 V2 AP1 S1 (by rw [e0]; exact hl)
    rw [← hd.2, List.map_cons, ezs] at K
    exact K
theorem zk_callM (C0 : lw_At p s m meth c b L xs) (hok : okM hM) {idx : Nat} {y' : MethodName} {cc' : ByteArray} {nL' : Nat} {ret' : Option FieldType} {rm' : Room} {mc' ms' np : Nat} {P' : Int → zM → Prop} (avi : List Int) {st0 : List (Int ⊕ Nat)} (hd : zd code pc (.invokevirtual idx) 3 n) (hb1 : zMb y' cc' nL' ret' np) (hm : zMV RL idx y'.cls y') (hcn : RX11 = y'.cls) (hlen : avi.length = np) (hst : st0 = (avi.map Sum.inl).reverse ++ .inr 2 :: st) (hrest : st.length ≤ 8) (hT : zT shM l y' cc' nL' ret' rm' mc' ms' (.inr 0 :: avi.map Sum.inl) hM (zqi P')) (hrm : zRm room_1 rm' nL' u1 u2 mc' ms') (kk : ∀ v h', P' v h' → zK p l e s m below meth c b (u1 + mc') (u2 + ms') n x (.inl v :: st) hC h') : zK p l e s m below meth c b u1 u2 pc x st0 hC hM := by
  intro D gC gM H locs ls F1 F2 W1 W2 AP hS hl
  obtain ⟨hx, hb, hr, hml, hown, hts, hX, hbl, hlocks, hgv⟩ := id C0
  subst hst
  obtain ⟨g, hgd⟩ : ∃ g, g = zgn gM hM.1 H.size := ⟨_, rfl⟩
  have eg : ∀ r : Int, r < hM.1 → g.1 r = gM.1 r := fun r hr => by rw [hgd]; exact zgn_b gM hM.1 H.size hr
  have e2 : g.2 = gM.2 := by rw [hgd]; rfl
  have hn0 : 0 < hM.1 := by rw [hok.1]; decide
  have ew : zw shM g hM = zw shM gM hM := zw_g (okM_rf hok) eg e2
  have e0 : g.1 0 = gM.1 0 := eg 0 (by omega)
  have F1n : zFx D s g := ⟨by have h9 := F2.1; unfold ztys at h9 ⊢; rw [e2]; exact h9, zStr_g F2.2 (fun r hr => eg r (by omega))⟩
  have W1n : zW1 shM D s g hM H := ⟨by rw [ew]; exact W2.1, by rw [ew]; exact W2.2⟩
  have APn : zAp (zw shM g hM) (zw shC gC hC) := by rw [ew]; exact fun i j x y h1 h2 h3 => AP j i y x h2 h1 h3.symm
  have ezs : zS2 gC g b = zS2 gC gM b := by
    funext v
    match v with
    | .inl _ => rfl
    | .inr 0 => rfl
    | .inr 1 => rfl
    | .inr (k + 2) => show Value.ref (g.1 0) = _; rw [e0]; rfl
  have em : (avi.map (Sum.inl : Int → Int ⊕ Nat)).map (zS2 gC gM b) = (avi.map (Sum.inl : Int → zV)).map (zv g.1) := by rw [List.map_map, List.map_map]; rfl
  rw [List.map_append, List.map_reverse, List.map_cons, em, show zS2 gC gM b (.inr 2) = .ref (g.1 0) by rw [e0]; rfl]
  refine z2_call C0 F1n W1n W1 APn hS (fun k hk => by rw [hgd]; exact zgn_f gM hM.1 H.size k hk) hl.1 hd.1 hb1 hm (ci := 11) rfl hcn ⟨rfl, hn0⟩ (by rw [List.length_map]; exact hlen) ?_ hT hrm ?_
  · have hh : ∀ w : List (Int ⊕ Nat), ((w.map (zS2 gC gM b)).map fun v => v.category).sum = w.length := by
      intro w
      induction w with
      | nil => rfl
      | cons a w ih =>
        rw [List.map_cons, List.map_cons, List.sum_cons, ih, List.length_cons]
        have : (zS2 gC gM b a).category = 1 := by
          match a with
          | .inl _ => rfl
          | .inr 0 => rfl
          | .inr 1 => rfl
          | .inr (k + 2) => rfl
        omega
    rw [hh]; exact hrest
  · rintro _ h' ⟨v, rfl, hp⟩ H1 locs1 V1 V2 AP1 S1 _ _
    have K := kk v h' hp D gC g H1 locs1 ls F1 F1n V2 V1 (fun i j x y h1 h2 h3 => AP1 j i y x h2 h1 h3.symm) S1 (by rw [e0]; exact hl)
    rw [← hd.2, List.map_cons, ezs] at K
    exact K
end ZL
