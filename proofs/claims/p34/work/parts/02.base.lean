/-! ===== the simple machine: ints as Int, cells by number, one memory ===== -/
abbrev zV : Type := Int ⊕ Int
abbrev zM : Type := Nat × (Int → Int → Int)
abbrev zSh : Type := Int → Nat ⊕ (Nat × Nat)
abbrev zG : Type := (Int → Nat) × ClassId × ClassId × ClassId
abbrev zin (x : Int) : Prop := -2147483648 ≤ x ∧ x ≤ 2147483647
def zwr (h : zM) (c k v : Int) : zM := (h.1, fun a b => if a = c ∧ b = k then v else h.2 a b)
theorem zwr_s (h : zM) (c k v : Int) : (zwr h c k v).2 c k = v := by simp [zwr]
theorem zwr_n {h : zM} {c k v a b : Int} (e : ¬ (a = c ∧ b = k)) : (zwr h c k v).2 a b = h.2 a b := by simp [zwr, e]
def zv (ad : Int → Nat) : zV → Value
  | .inl n => .int (Int32.ofInt n)
  | .inr r => if r = -1 then .null else .ref (ad r)
def zo (ad : Int → Nat) (r : Int) : Option Nat := if r = -1 then none else some (ad r)
theorem zo_rf (ad : Int → Nat) (r : Int) : va_rf (zo ad r) = zv ad (.inr r) := by
  show va_rf (if r = -1 then none else some (ad r)) = (if r = -1 then .null else .ref (ad r))
  split <;> rfl
theorem zv_ref (ad : Int → Nat) {r : Int} (h : ¬ r = -1) : zv ad (.inr r) = .ref (ad r) := if_neg h
theorem zv_cat (ad : Int → Nat) (v : zV) : (zv ad v).category = 1 := by
  unfold zv
  split
  · rfl
  · split <;> rfl
def zfk (ci k : Nat) : Nat := (zfkL.getD ci []).getD k 0
def znf (ci : Nat) : Nat := (zfkL.getD ci []).length
def zfv (ad : Int → Nat) (ci k : Nat) (v : Int) : Value := if zfk ci k = 2 then zv ad (.inr v) else .int (Int32.ofInt v)
def zc (sh : zSh) (g : zG) (h : zM) (c : Int) : va_E := match sh c with
  | .inl ci => .inr (ci, (List.range (znf ci)).map fun (k : Nat) => zfv g.1 ci k (h.2 c k))
  | .inr (0, n) => .inl (g.2.1, n, .inl fun (j : Nat) => Int32.ofInt (h.2 c j))
  | .inr (1, n) => .inl (g.2.2.1, n, .inl fun (j : Nat) => Int32.ofInt (h.2 c j))
  | .inr (_ + 2, n) => .inl (g.2.2.2, n, .inr (.inr (.inr (.inr fun (j : Nat) => zo g.1 (h.2 c j)))))
def zw (sh : zSh) (g : zG) (h : zM) : va_W := (List.range h.1).map fun (c : Nat) => (g.1 (c : Int), zc sh g h (c : Int))
theorem zc_cong {sh : zSh} {g : zG} {h h' : zM} {c : Int} (e : ∀ k : Int, h'.2 c k = h.2 c k) : zc sh g h' c = zc sh g h c := by
  have e2 : h'.2 c = h.2 c := funext e
  unfold zc
  rw [e2]
theorem zw_at (sh : zSh) (g : zG) (h : zM) {c : Nat} (hc : c < h.1) : (zw sh g h)[c]? = some (g.1 (c : Int), zc sh g h (c : Int)) := by
  unfold zw
  rw [List.getElem?_map, List.getElem?_range hc]
  rfl
theorem zw_out (sh : zSh) (g : zG) (h : zM) {c : Nat} (hc : h.1 ≤ c) : (zw sh g h)[c]? = none := by
  unfold zw
  rw [List.getElem?_map, List.getElem?_eq_none (by simpa using hc)]
  rfl
theorem zw_len (sh : zSh) (g : zG) (h : zM) : (zw sh g h).length = h.1 := by simp [zw]
theorem zw_set {sh : zSh} {g : zG} {h h' : zM} {c : Nat} {x : va_E} (hc : c < h.1) (h1 : h'.1 = h.1) (ho : ∀ a k : Int, a ≠ c → h'.2 a k = h.2 a k) (hx : zc sh g h' (c : Int) = x) : (zw sh g h).set c (g.1 (c : Int), x) = zw sh g h' := by
  apply List.ext_getElem?
  intro i
  by_cases hi : i = c
  · subst hi
    rw [List.getElem?_set_self (by rw [zw_len]; exact hc), zw_at sh g h' (by rw [h1]; exact hc), hx]
  · rw [List.getElem?_set_ne (Ne.symm hi)]
    by_cases hl : i < h.1
    · rw [zw_at sh g h hl, zw_at sh g h' (by rw [h1]; exact hl), zc_cong (h := h) (h' := h') (fun k => ho _ k (by omega))]
    · rw [zw_out sh g h (by omega), zw_out sh g h' (by rw [h1]; omega)]
theorem zw_push {sh : zSh} {g : zG} {h h' : zM} {a : Nat} {x : va_E} (h1 : h'.1 = h.1 + 1) (ho : ∀ a k : Int, a ≠ h.1 → h'.2 a k = h.2 a k) (ha : g.1 (h.1 : Int) = a) (hx : zc sh g h' (h.1 : Int) = x) : zw sh g h ++ [(a, x)] = zw sh g h' := by
  apply List.ext_getElem?
  intro i
  by_cases hi : i < h.1
  · rw [List.getElem?_append_left (by rw [zw_len]; exact hi), zw_at sh g h hi, zw_at sh g h' (by omega), zc_cong (h := h) (h' := h') (fun k => ho _ k (by omega))]
  · rw [List.getElem?_append_right (by rw [zw_len]; omega), zw_len]
    by_cases hl : i = h.1
    · subst hl
      rw [Nat.sub_self, zw_at sh g h' (by omega), hx, ha]
      rfl
    · rw [zw_out sh g h' (by omega)]
      simp
      omega
/-- objects, arrays: what a cell is, by its shape -/
theorem zc_obj {sh : zSh} {g : zG} {h : zM} {c : Int} {ci : Nat} (e : sh c = .inl ci) : zc sh g h c = .inr (ci, (List.range (znf ci)).map fun (k : Nat) => zfv g.1 ci k (h.2 c k)) := by unfold zc; rw [e]
theorem zc_ia {sh : zSh} {g : zG} {h : zM} {c : Int} {n : Nat} (e : sh c = .inr (0, n)) : zc sh g h c = .inl (g.2.1, n, .inl fun (j : Nat) => Int32.ofInt (h.2 c j)) := by unfold zc; rw [e]
theorem zc_za {sh : zSh} {g : zG} {h : zM} {c : Int} {n : Nat} (e : sh c = .inr (1, n)) : zc sh g h c = .inl (g.2.2.1, n, .inl fun (j : Nat) => Int32.ofInt (h.2 c j)) := by unfold zc; rw [e]
theorem zc_ra {sh : zSh} {g : zG} {h : zM} {c : Int} {n : Nat} (e : sh c = .inr (2, n)) : zc sh g h c = .inl (g.2.2.2, n, .inr (.inr (.inr (.inr fun (j : Nat) => zo g.1 (h.2 c j))))) := by unfold zc; rw [e]
/-- the words that every method may use -/
def zt : List Cond := lw_tbl.filter goodWord
theorem zt_in {w : Cond} (h : w ∈ lw_tbl) (hg : goodWord w = true) : w ∈ zt := List.mem_filter.mpr ⟨h, hg⟩
theorem zt_of {args : Array Value} {s : State} (h : ∀ w ∈ lw_tbl, w.before args s = true) : ∀ w ∈ zt, w.before args s = true := fun w hw => h w (List.mem_filter.mp hw).1
theorem zt_good : GoodIn zt zt := fun w hw => ⟨hw, good_of_word (List.mem_filter.mp hw).2⟩
def zws (y : MethodName) (cc : ByteArray) (nL : Nat) (ret : Option FieldType) : List Cond := Cond.code y cc nL ret :: zt
theorem zws_good {y : MethodName} {cc : ByteArray} {nL : Nat} {ret : Option FieldType} (h : Cond.code y cc nL ret ∈ zt) : GoodIn zt (zws y cc nL ret) := fun w hw => (List.mem_cons.mp hw).elim (fun e => by rw [e]; exact zt_good _ h) (zt_good w)
def ztys (g : zG) : List (ClassId × FieldType) := [(g.2.1, .int), (g.2.2.1, .boolean), (g.2.2.2, .object RX1)]
/-- the strings of the claim, as cells -2 - i, their bytes as cells -10 - i -/
def zStr (g : zG) (A : Nat → Prop) (U : State) : Prop :=
  vk_S 5 zlen zbyt (fun i => g.1 (-2 - (i : Int))) (fun i => g.1 (-10 - (i : Int))) A U U.heap ∧ va_Z "java/lang/String" "COMPACT_STRINGS" "Z" (.int 1) A U U.heap ∧ (∀ q ∈ zsc, vk_R q.1 q.2.1 q.2.2.1 (g.1 (-2 - (q.2.2.2 : Int))) U) ∧ (∀ q ∈ znl, va_Nw (.methodLinkNest q.1 q.2.1 q.2.2.1 q.2.2.2) U) ∧ va_AO RX1 U ∧ (va_Z "jdk/internal/util/Preconditions" "SIOOBE_FORMATTER" "Ljava/util/function/BiFunction;" .null A U U.heap ∨ va_Z "jdk/internal/util/Preconditions" "SIOOBE_FORMATTER" "Ljava/util/function/BiFunction;" (.ref (g.1 (-20))) A U U.heap)
def zX (y : MethodName) (cc : ByteArray) (nL : Nat) (ret : Option FieldType) (D : va_G) (g : zG) (p : Program) (s : State) (m : MethodId) (args : Array Value) (meth : Method) (c : Code) (A : Nat → Prop) : Prop :=
  p.tables.exec = Jvm.exec ∧ c.code = cc ∧ c.maxLocals = nL ∧ meth.sig.returnType = ret ∧ s.vm.findClass y.cls = some m.cls ∧ (∀ w ∈ zt, w.before args s = true) ∧ meth.locks = false ∧ va_K D vwCl (ztys g) s ∧ meth.name = y.name ∧ (∀ q, s.heap.size ≤ q → A q) ∧ zStr g A s
def zI (sh : zSh) (D : va_G) (g : zG) (A : Nat → Prop) (H0 : Heap) (h : zM) (H : Heap) (locs : List Loc) : Prop :=
  va_P D vwCl (zw sh g h) H ∧ va_D A (zw sh g h) ∧ va_S A H0 H locs ∧ ∀ c : Nat, h.1 ≤ c → g.1 (c : Int) = H.size + (c - h.1)
def zl (ad : Int → Nat) (L : List (Option zV)) : List (Nat × Value) := (List.range L.length).filterMap fun k => (L.getD k none).map fun v => (k, zv ad v)
def zL (ad : Int → Nat) (nL : Nat) (L : List (Option zV)) (ls : Array Slot) : Prop := L.length = nL ∧ lv_has ls nL (zl ad L)
theorem zl_mem {ad : Int → Nat} {L : List (Option zV)} {q : Nat × Value} : q ∈ zl ad L ↔ ∃ v, L[q.1]? = some (some v) ∧ q.2 = zv ad v := by
  unfold zl
  rw [List.mem_filterMap]
  constructor
  · rintro ⟨k, hk, he⟩
    have hk' := List.mem_range.mp hk
    cases hg : L.getD k none with
    | none => rw [hg] at he; cases he
    | some v =>
      rw [hg] at he
      have he : some (k, zv ad v) = some q := he
      cases he
      refine ⟨v, ?_, rfl⟩
      rw [List.getD_eq_getElem?_getD] at hg
      show L[k]? = _
      rw [List.getElem?_eq_getElem hk'] at hg ⊢
      exact congrArg some hg
  · rintro ⟨v, h1, h2⟩
    refine ⟨q.1, List.mem_range.mpr (List.getElem?_eq_some_iff.mp h1).1, ?_⟩
    rw [List.getD_eq_getElem?_getD, h1]
    show some (q.1, zv ad v) = some q
    rw [← h2]
theorem zL_at {ad : Int → Nat} {nL : Nat} {L : List (Option zV)} {ls : Array Slot} (Z : zL ad nL L ls) {k : Nat} {v : zV} (h : L[k]? = some (some v)) : ls[k]? = some (.val (zv ad v)) := Z.2.2.2 (k, zv ad v) (zl_mem.mpr ⟨v, h, rfl⟩)
theorem zL_set {ad : Int → Nat} {nL : Nat} {L L' : List (Option zV)} {ls ls' : Array Slot} {i : Nat} {v : zV} (Z : zL ad nL L ls) (hi : i < nL) (hL : L.set i (some v) = L') (h : lv_has ls' nL ((i, zv ad v) :: (zl ad L).filter (fun q => !(q.1 == i) && !(q.1 + 1 == i && q.2.category == 2)))) : zL ad nL L' ls' := by
  subst hL
  refine ⟨by rw [List.length_set]; exact Z.1, h.1, h.2.1, fun q hq => ?_⟩
  obtain ⟨w, h1, h2⟩ := zl_mem.mp hq
  by_cases hqi : q.1 = i
  · rw [hqi, List.getElem?_set_self (by rw [Z.1]; exact hi)] at h1
    have hw : v = w := Option.some.inj (Option.some.inj h1)
    have h3 := h.2.2 (i, zv ad v) List.mem_cons_self
    rw [hqi, h2, ← hw]
    exact h3
  · rw [List.getElem?_set_ne (Ne.symm hqi)] at h1
    refine h.2.2 q (List.mem_cons_of_mem _ (List.mem_filter.mpr ⟨zl_mem.mpr ⟨w, h1, h2⟩, ?_⟩))
    rw [h2, zv_cat]
    simp [hqi]
def zQ (sh : zSh) (D : va_G) (g : zG) (A : Nat → Prop) (Q : Option zV → zM → Prop) : Array Value → State → Outcome → State → Prop := fun _ st oc t =>
  (∃ (r : Option zV) (h' : zM), oc = .returned (r.map (zv g.1)) ∧ Q r h' ∧ va_P D vwCl (zw sh g h') t.heap ∧ va_D A (zw sh g h') ∧ ∀ c : Nat, h'.1 ≤ c → g.1 (c : Int) = t.heap.size + (c - h'.1)) ∧ va_F A st t
def zJ (sh : zSh) (l : Launch) (y : MethodName) (cc : ByteArray) (nL : Nat) (ret : Option FieldType) (R : Room) (mc ms : Nat) (Q : Option zV → zM → Prop) (u1 u2 pc : Nat) (L : List (Option zV)) (st : List zV) (h : zM) : Prop :=
  ∀ (D : va_G) (g : zG) (p : Program) (e : Env) (s : State) (m : MethodId) (args : Array Value) (below : List Frame) (meth : Method) (c : Code) (A : Nat → Prop) (H : Heap) (locs : List Loc) (ls : Array Slot),
    zX y cc nL ret D g p s m args meth c A → zI sh D g A s.heap h H locs → zL g.1 nL L ls →
    W p l e R s m args below meth c H locs u1 u2 (MQ below (zQ sh D g A Q) args s mc ms A) (F0 m pc ls (st.map (zv g.1)))
def zT (sh : zSh) (l : Launch) (y : MethodName) (cc : ByteArray) (nL : Nat) (ret : Option FieldType) (rm : Room) (mc ms : Nat) (av : List zV) (h : zM) (Q : Option zV → zM → Prop) : Prop :=
  ∀ (D : va_G) (g : zG) (sz : Nat), Met l y (zws y cc nL ret) rm
    (fun v U => v = (av.map (zv g.1)).toArray ∧ U.heap.size = sz ∧ va_P D vwCl (zw sh g h) U.heap ∧ va_D (fun _ => True) (zw sh g h) ∧ (∀ c : Nat, h.1 ≤ c → g.1 (c : Int) = sz + (c - h.1)) ∧ va_K D vwCl (ztys g) U ∧ zStr g (va_A (zw sh g h) sz) U)
    (zQ sh D g (va_A (zw sh g h) sz) Q) mc ms (va_A (zw sh g h) sz)
def zd (cc : ByteArray) (pc : Nat) (i : Instr) (len n : Nat) : Prop := decode cc pc = .ok (i, len) ∧ pc + len = n
theorem zD_weak {A B : Nat → Prop} {ws : va_W} (h : va_D A ws) (hAB : ∀ q, A q → B q) : va_D B ws := h.weaken fun _ q _ => hAB q.1

section Z0
variable {p : Program} {l : Launch} {e : Env} {R : Room} {s : State} {m : MethodId} {args : Array Value} {below : List Frame} {meth : Method} {c : Code} {H : Heap} {locs : List Loc} {cells slots : Nat} {Q : State → Prop}
variable {cc : ByteArray} {pc : Nat} {ls : Array Slot} {rest : List Value} {D : va_G} {cl : List vw_C} {A : Nat → Prop} {a : Nat} {tys : List (ClassId × FieldType)} {ws : va_W} {H0 : Heap}
/-- a field is written; the heap stays as long as it is -/
theorem z_put (hexec : p.tables.exec = Jvm.exec) (hb : c.code = cc) {own C : String} {T : u_T} {N ci index : Nat} {Ts : List Cond} (hts : ∀ w ∈ Ts, w.before args s = true) (hin : ∀ w ∈ u_ws C T N, w ∈ Ts) (ty0 : Nat → FieldType) (hty : ∀ k, k < N → parseFieldDescriptor (T k).2.2.1 = some (ty0 k)) (hnm : ∀ a, a < N → ∀ b, b < N → a ≠ b → (T a).2.1 ≠ (T b).2.1) (hown : s.vm.findClass own = some m.cls) (hK : va_K D cl tys s) (hP : va_P D cl ws H) (hD : va_D A ws) (hS0 : va_S A H0 H locs) (q0 : Nat) {fs : List Value} (he : ws[q0]? = some (a, .inr (ci, fs))) (hc : cl[ci]? = some (C, T, N)) (k : Nat) (hk : k < N) (hlink : (Cond.fieldLink own index (T k).1 (T k).2.1 (T k).2.2.1).before args s = true) (hsame : ∀ x, s.fieldFound? (T k).1 (T k).2.1 (T k).2.2.1 = some x → s.fieldFound? (T k).1 (T k).2.1 (T k).2.2.1 = some x) (hfin : (T k).2.2.2 = false ∨ ((T k).2.2.2 = true ∧ meth.name = "<init>" ∧ (T k).1 = own)) {ty : FieldType} {v : Value} (hd : parseFieldDescriptor (T k).2.2.1 = some ty) (hn : narrow ty v = v) (hfit : fits ty v = true) (hl : k < fs.length)
    (hdg : decode cc pc = .ok (.putfield index, 3)) (kk : ∀ (H1 : Heap) (locs1 : List Loc), va_P D cl (ws.set q0 (a, .inr (ci, fs.set k v))) H1 → va_D A (ws.set q0 (a, .inr (ci, fs.set k v))) → va_S A H0 H1 locs1 → H1.size = H.size → W p l e R s m args below meth c H1 locs1 cells slots Q (F0 m (pc + 3) ls rest)) : W p l e R s m args below meth c H locs cells slots Q (F0 m pc ls (v :: .ref a :: rest)) := by
  have hap := va_apart (own := own) hts hin ty0 hty hnm hK hc
  obtain ⟨r, h1, cell, q1, q2, q3, q4⟩ := hP q0 _ he
  have hr : r = (C, T, N) := Option.some.inj (h1.symm.trans hc)
  subst hr
  obtain ⟨hS, hfc, kC, hkC, hkind⟩ := hK.1 ci _ hc
  obtain ⟨cf, kf, fi, f, hi, hsl⟩ := hS k hk
  have hlay := hts _ (hin _ (u_in_lay hk))
  have hst := (u_facts hfc hkC (u_lays hts hin hk) hi).1
  have go : ∀ (H' : Heap) (i : Nat), i = D.2 ci k → H'[a]? = some (cell.setSlot i v) → H'.size = H.size → (∀ q, q ≠ a → H'[q]? = H[q]?) → W p l e R s m args below meth c H' (locs ++ [⟨a, i⟩]) cells slots Q (F0 m (pc + 3) ls rest) := by
    intro H' i hi e1 e2 e3
    subst hi
    exact kk H' _ (hP.set hD he ⟨_, hc, t_OB.to (V := updV (vp_V fs) k v) ⟨_, e1, q2, q3, t_set q4 hap hk v⟩ (fun j _ => vp_updV_set hl v j)⟩ e3) (hD.set he) (hS0.put e2 e3 (hD.2 q0 _ he)) e2
  rcases hfin with hf | ⟨hf, hin2, hdecl⟩
  · unfold u_lay at hlay
    rw [if_neg (by rw [hf]; decide)] at hlay
    have h6 := u_store hfc hkC hkind hlay hi hd hn hfit
    exact W.putK hexec hb (f := f) ⟨hown, hlink, ⟨_, _, _, hsame _ hi⟩, hst⟩ (by rw [q2]; exact h6) q1 q3 (by rw [hsl]; exact k2_hasslot (q4 k hk)) rfl rfl hdg fun H' e1 e2 e3 => go H' f.slot hsl e1 e2 e3
  · unfold u_lay at hlay
    rw [if_pos hf] at hlay
    have hcf : m.cls = cf := by
      obtain ⟨_, _, c', _, _, _, -, -, hf', -, -, -, hown2, -⟩ := Cond.laysFinal_spec hlay
      have e1 : c' = cf := by have := hi.symm.trans hf'; simp at this; exact this.1.symm
      rw [hdecl] at hown2
      rw [← e1]; exact Option.some.inj (hown.symm.trans hown2)
    have h6 := u_fits hfc hkC hkind (Or.inr hlay) hi hd hn hfit
    exact W.putFinK hexec hb hown hlink (hsame _ hi) hst hcf hin2 (by rw [q2]; exact h6) q1 q3 (by rw [hsl]; exact k2_hasslot (q4 k hk)) rfl rfl hdg fun H' e1 e2 e3 => go H' f.slot hsl e1 e2 e3
theorem z_iast (hexec : p.tables.exec = Jvm.exec) (hb : c.code = cc) (hK : va_K D cl tys s) (hP : va_P D cl ws H) (hD : va_D A ws) (hS : va_S A H0 H locs) (q0 t0 : Nat) {cA : ClassId} {n : Nat} {f : Nat → Int32} (ha : ws[q0]? = some (a, .inl (cA, n, .inl f))) (ht : tys[t0]? = some (cA, .int)) {i : Int32} {x : Int32} (hin : vp_in i n) (hdg : decode cc pc = .ok (.iastore, 1))
    (kk : ∀ (H1 : Heap) (locs1 : List Loc), va_P D cl (ws.set q0 (a, .inl (cA, n, .inl (upd f i.toNatClampNeg x)))) H1 → va_D A (ws.set q0 (a, .inl (cA, n, .inl (upd f i.toNatClampNeg x)))) → va_S A H0 H1 locs1 → H1.size = H.size → W p l e R s m args below meth c H1 locs1 cells slots Q (F0 m (pc + 1) ls rest)) : W p l e R s m args below meth c H locs cells slots Q (F0 m pc ls (.int x :: .int i :: .ref a :: rest)) := by
  refine W.iast hexec hb (hP q0 _ ha) ((hK.2 t0 _ ht).1 n (fun j => .int (f j))) (fun q => by cases q) (by show ¬ (i < 0 ∨ (arrV _ _ _).slots.size ≤ _); rw [arrV_size]; exact hin) rfl rfl hdg fun H1 e z oq => ?_
  refine kk H1 _ (hP.set hD ha ?_ oq) (hD.set ha) (hS.put z oq (hD.2 q0 _ ha)) z
  show H1[a]? = some (vp_cell _ _)
  rw [e]
  rw [vp_cell_i, vp_cell_i, arrV_store]
  congr 2
  funext q
  by_cases hq : q = i.toNatClampNeg
  · subst hq
    simp [updV, upd]
  · simp [updV, upd, hq]
theorem z_zast (hexec : p.tables.exec = Jvm.exec) (hb : c.code = cc) (hK : va_K D cl tys s) (hP : va_P D cl ws H) (hD : va_D A ws) (hS : va_S A H0 H locs) (q0 t0 : Nat) {cA : ClassId} {n : Nat} {f : Nat → Int32} (ha : ws[q0]? = some (a, .inl (cA, n, .inl f))) (ht : tys[t0]? = some (cA, .boolean)) {i : Int32} {x : Int32} (hin : vp_in i n) (hdg : decode cc pc = .ok (.bastore, 1))
    (kk : ∀ (H1 : Heap) (locs1 : List Loc), va_P D cl (ws.set q0 (a, .inl (cA, n, .inl (upd f i.toNatClampNeg (vp_nar .boolean x))))) H1 → va_D A (ws.set q0 (a, .inl (cA, n, .inl (upd f i.toNatClampNeg (vp_nar .boolean x))))) → va_S A H0 H1 locs1 → H1.size = H.size → W p l e R s m args below meth c H1 locs1 cells slots Q (F0 m (pc + 1) ls rest)) : W p l e R s m args below meth c H locs cells slots Q (F0 m pc ls (.int x :: .int i :: .ref a :: rest)) := by
  refine W.zast hexec hb (hP q0 _ ha) ((hK.2 t0 _ ht).1 n (fun j => .int (f j))) (fun q => by cases q) (by show ¬ (i < 0 ∨ (arrV _ _ _).slots.size ≤ _); rw [arrV_size]; exact hin) rfl rfl hdg fun H1 e z oq => ?_
  refine kk H1 _ (hP.set hD ha ?_ oq) (hD.set ha) (hS.put z oq (hD.2 q0 _ ha)) z
  show H1[a]? = some (vp_cell _ _)
  rw [e]
  rw [vp_cell_i, vp_cell_i, arrV_store]
  congr 2
  funext q
  by_cases hq : q = i.toNatClampNeg
  · subst hq
    simp [updV, upd, vp_nar]
    try rfl
  · simp [updV, upd, hq]
end Z0

theorem zl_sl (ad : Int → Nat) (av : List zV) : lg_sl (av.map (zv ad)) = av.map fun v => Slot.val (zv ad v) := by
  induction av with
  | nil => rfl
  | cons v t ih =>
    have hc := zv_cat ad v
    unfold lg_sl at ih ⊢
    rw [List.map_cons, List.flatMap_cons, ih, hc]
    rfl
theorem z_metOf {l : Launch} {y : MethodName} {ws ws' : List Cond} {rm : Room} {Pc : Array Value → State → Prop} {Qc : Array Value → State → Outcome → State → Prop} {mc ms : Nat} {free : Addr → Prop} {cc : ByteArray} {maxL : Nat} {ret : Option FieldType}
    (hy : plainFor y = true) (hw : ws = Cond.code y cc maxL ret :: ws')
    (body : ∀ p e s m args below meth c s₁, BodyLoose p l y (headSpec ws rm) cc maxL ret e s m args below meth c s₁ → c.maxLocals = maxL → Pc args s →
      W p l e (headSpec ws rm).room s m args below meth c s.heap [] 0 0 (MQ below Qc args s mc ms free) (entryFrame m args maxL)) : Met l y ws rm Pc Qc mc ms free := by
  refine MetFree.of_bodySF (code := cc) (maxLocals := maxL) (ret := ret) hy ?_ ?_
  · intro args s m h hn
    obtain ⟨meth, c, h1, h2, h3, h4, h5, h6, -, -⟩ := Cond.code_spec hn (atoms_spec (ws := ws) h _ (by rw [hw]; exact List.mem_cons_self))
    exact ⟨meth, c, h1, h2, h3, h4, h5, h6⟩
  · intro p e s m args below meth c s₁ B hml hP _
    have hh0 : s₁.heap = s.heap := by rw [B.state]; rfl
    obtain ⟨t, a1, o, b1, b2, b3⟩ := body p e s m args below meth c s₁ B hml hP s₁ hh0 (Stand.of_body B)
    exact ⟨t, o, a1, b1, b2, ⟨b3.1, b3.2⟩⟩
theorem zT_of {sh : zSh} {l : Launch} {y : MethodName} {cc : ByteArray} {nL : Nat} {ret : Option FieldType} {rm : Room} {mc ms : Nat} {av : List zV} {h : zM} {Q : Option zV → zM → Prop} (hy : plainFor y = true) {L0 : List (Option zV)} (hL : av.map some ++ List.replicate (nL - av.length) none = L0) (hn : av.length ≤ nL)
    (k : zJ sh l y cc nL ret rm mc ms Q 0 0 0 L0 [] h) : zT sh l y cc nL ret rm mc ms av h Q := by
  intro D g sz
  refine z_metOf (cc := cc) (maxL := nL) (ret := ret) hy rfl ?_
  intro p e s m args below meth c s₁ B hml hv
  obtain ⟨rfl, hsz, hP, hD0, hg, hK, hZ⟩ := hv
  have hts := atoms_spec (ws := zws y cc nL ret) B.pre
  have hown : s.vm.findClass y.cls = some m.cls := findClass_of_methodNamed B.named
  have hnm : meth.name = y.name := (name_of_methodNamed B.named B.method).1
  subst hsz
  have hD := hD0.self (sz := s.heap.size)
  have hl := lv_entry (av.map (zv g.1)) (n := nL) (by rw [zl_sl]; simpa using hn)
  rw [lg_entry_eq]
  generalize hls : (lg_sl (av.map (zv g.1)) ++ List.replicate (nL - (lg_sl (av.map (zv g.1))).length) Slot.unset).toArray = ls at hl ⊢
  have hZL : zL g.1 nL L0 ls := by
    subst hL
    refine ⟨by simp; omega, hl.1, hl.2.1, fun q hq => ?_⟩
    obtain ⟨w, h1, h2⟩ := zl_mem.mp hq
    rw [← hls, h2]
    by_cases hq1 : q.1 < av.length
    · rw [List.getElem?_append_left (by simpa using hq1), List.getElem?_map, List.getElem?_eq_getElem hq1] at h1
      have h1 : some (some av[q.1]) = some (some w) := h1
      have hw : av[q.1] = w := Option.some.inj (Option.some.inj h1)
      rw [zl_sl, List.getElem?_toArray, List.getElem?_append_left (by simpa using hq1), List.getElem?_map, List.getElem?_eq_getElem hq1, hw]
      rfl
    · rw [List.getElem?_append_right (by simpa using hq1)] at h1
      have := List.mem_of_getElem? h1
      simp at this
  exact k D g p e s m _ below meth c _ s.heap [] ls ⟨B.exec, B.bytes, hml, B.returns, hown, fun w hw => hts w (List.mem_cons_of_mem _ hw), B.notSynchronized, hK, hnm, fun q hq => Or.inr hq, hZ⟩ ⟨hP, hD, va_S.rf, hg⟩ hZL

section ZJR
variable {sh : zSh} {l : Launch} {y : MethodName} {cc : ByteArray} {nL : Nat} {ret : Option FieldType} {R : Room} {mc ms : Nat} {Q : Option zV → zM → Prop} {u1 u2 pc n : Nat} {L : List (Option zV)} {st : List zV} {h : zM}
theorem zj_iconst {z : Int} (hd : zd cc pc (.iconst z) 1 n) (kk : zJ sh l y cc nL ret R mc ms Q u1 u2 n L (.inl z :: st) h) : zJ sh l y cc nL ret R mc ms Q u1 u2 pc L st h := by
  intro D g p e s m args below meth c A H locs ls X I Z
  have X0 := X
  obtain ⟨hx, hb, hml, hr, hown, hts, hlk, hK, hnm, hA, hZs⟩ := X0
  obtain ⟨hP, hD, hS, hg⟩ := id I
  refine lv_iconst hx hb hd.1 rfl ?_
  have K := kk D g p e s m args below meth c A H locs ls X I Z
  rw [← hd.2] at K
  exact K
theorem zj_bipush {z : Int} (hd : zd cc pc (.bipush z) 2 n) (hz : -128 ≤ z ∧ z ≤ 127) (kk : zJ sh l y cc nL ret R mc ms Q u1 u2 n L (.inl z :: st) h) : zJ sh l y cc nL ret R mc ms Q u1 u2 pc L st h := by
  intro D g p e s m args below meth c A H locs ls X I Z
  have X0 := X
  obtain ⟨hx, hb, hml, hr, hown, hts, hlk, hK, hnm, hA, hZs⟩ := X0
  obtain ⟨hP, hD, hS, hg⟩ := id I
  refine lv_bipush hx hb hd.1 (v := Int32.ofInt z) ?_ ?_
  · apply Int32.toInt_inj.mp
    rw [Int8.toInt_toInt32, Int8.toInt_ofInt_of_le (by omega) (by omega), Int32.toInt_ofInt_of_le (by omega) (by omega)]
  have K := kk D g p e s m args below meth c A H locs ls X I Z
  rw [← hd.2] at K
  exact K
theorem zj_sipush {z : Int} (hd : zd cc pc (.sipush z) 3 n) (hz : -32768 ≤ z ∧ z ≤ 32767) (kk : zJ sh l y cc nL ret R mc ms Q u1 u2 n L (.inl z :: st) h) : zJ sh l y cc nL ret R mc ms Q u1 u2 pc L st h := by
  intro D g p e s m args below meth c A H locs ls X I Z
  have X0 := X
  obtain ⟨hx, hb, hml, hr, hown, hts, hlk, hK, hnm, hA, hZs⟩ := X0
  obtain ⟨hP, hD, hS, hg⟩ := id I
  refine lv_sipush hx hb hd.1 (v := Int32.ofInt z) ?_ ?_
  · apply Int32.toInt_inj.mp
    rw [Int16.toInt_toInt32, Int16.toInt_ofInt_of_le (by omega) (by omega), Int32.toInt_ofInt_of_le (by omega) (by omega)]
  have K := kk D g p e s m args below meth c A H locs ls X I Z
  rw [← hd.2] at K
  exact K
theorem zj_ldc {z : Int} {i : Nat} (hd : zd cc pc (.ldc i) 2 n) (hw : Cond.constant y.cls i (Int32.ofInt z) ∈ zt) (kk : zJ sh l y cc nL ret R mc ms Q u1 u2 n L (.inl z :: st) h) : zJ sh l y cc nL ret R mc ms Q u1 u2 pc L st h := by
  intro D g p e s m args below meth c A H locs ls X I Z
  have X0 := X
  obtain ⟨hx, hb, hml, hr, hown, hts, hlk, hK, hnm, hA, hZs⟩ := X0
  obtain ⟨hP, hD, hS, hg⟩ := id I
  refine lv_ldc hx hb hown (hts _ hw) hd.1 ?_
  have K := kk D g p e s m args below meth c A H locs ls X I Z
  rw [← hd.2] at K
  exact K
theorem zj_ldc_w {z : Int} {i : Nat} (hd : zd cc pc (.ldc_w i) 3 n) (hw : Cond.constant y.cls i (Int32.ofInt z) ∈ zt) (kk : zJ sh l y cc nL ret R mc ms Q u1 u2 n L (.inl z :: st) h) : zJ sh l y cc nL ret R mc ms Q u1 u2 pc L st h := by
  intro D g p e s m args below meth c A H locs ls X I Z
  have X0 := X
  obtain ⟨hx, hb, hml, hr, hown, hts, hlk, hK, hnm, hA, hZs⟩ := X0
  obtain ⟨hP, hD, hS, hg⟩ := id I
  refine lv_ldcw hx hb hown (hts _ hw) hd.1 ?_
  have K := kk D g p e s m args below meth c A H locs ls X I Z
  rw [← hd.2] at K
  exact K
theorem zj_null  (hd : zd cc pc .aconst_null 1 n) (kk : zJ sh l y cc nL ret R mc ms Q u1 u2 n L (.inr (-1) :: st) h) : zJ sh l y cc nL ret R mc ms Q u1 u2 pc L st h := by
  intro D g p e s m args below meth c A H locs ls X I Z
  have X0 := X
  obtain ⟨hx, hb, hml, hr, hown, hts, hlk, hK, hnm, hA, hZs⟩ := X0
  obtain ⟨hP, hD, hS, hg⟩ := id I
  refine lv_null hx hb hd.1 ?_
  have K := kk D g p e s m args below meth c A H locs ls X I Z
  rw [← hd.2] at K
  exact K
theorem zj_iload_n {k : Fin 4} {x : Int} (hd : zd cc pc (.iload_n k) 1 n) (hl : L[k.val]? = some (some (.inl x))) (kk : zJ sh l y cc nL ret R mc ms Q u1 u2 n L (.inl x :: st) h) : zJ sh l y cc nL ret R mc ms Q u1 u2 pc L st h := by
  intro D g p e s m args below meth c A H locs ls X I Z
  have X0 := X
  obtain ⟨hx, hb, hml, hr, hown, hts, hlk, hK, hnm, hA, hZs⟩ := X0
  obtain ⟨hP, hD, hS, hg⟩ := id I
  refine lv_iload_n hx hb hd.1 rfl (zL_at Z hl) ?_
  have K := kk D g p e s m args below meth c A H locs ls X I Z
  rw [← hd.2] at K
  exact K
theorem zj_iload {k : Nat} {x : Int} (hd : zd cc pc (.iload k) 2 n) (hl : L[k]? = some (some (.inl x))) (kk : zJ sh l y cc nL ret R mc ms Q u1 u2 n L (.inl x :: st) h) : zJ sh l y cc nL ret R mc ms Q u1 u2 pc L st h := by
  intro D g p e s m args below meth c A H locs ls X I Z
  have X0 := X
  obtain ⟨hx, hb, hml, hr, hown, hts, hlk, hK, hnm, hA, hZs⟩ := X0
  obtain ⟨hP, hD, hS, hg⟩ := id I
  refine lv_iload hx hb hd.1 (zL_at Z hl) ?_
  have K := kk D g p e s m args below meth c A H locs ls X I Z
  rw [← hd.2] at K
  exact K
theorem zj_aload_n {k : Fin 4} {x : Int} (hd : zd cc pc (.aload_n k) 1 n) (hl : L[k.val]? = some (some (.inr x))) (hx1 : ¬ x = -1) (kk : zJ sh l y cc nL ret R mc ms Q u1 u2 n L (.inr x :: st) h) : zJ sh l y cc nL ret R mc ms Q u1 u2 pc L st h := by
  intro D g p e s m args below meth c A H locs ls X I Z
  have X0 := X
  obtain ⟨hx, hb, hml, hr, hown, hts, hlk, hK, hnm, hA, hZs⟩ := X0
  obtain ⟨hP, hD, hS, hg⟩ := id I
  have hq := zL_at Z hl
  rw [zv_ref _ hx1] at hq
  refine lv_aload_n hx hb hd.1 rfl hq ?_
  have K := kk D g p e s m args below meth c A H locs ls X I Z
  rw [← hd.2, List.map_cons, zv_ref _ hx1] at K
  exact K
theorem zj_aload {k : Nat} {x : Int} (hd : zd cc pc (.aload k) 2 n) (hl : L[k]? = some (some (.inr x))) (hx1 : ¬ x = -1) (kk : zJ sh l y cc nL ret R mc ms Q u1 u2 n L (.inr x :: st) h) : zJ sh l y cc nL ret R mc ms Q u1 u2 pc L st h := by
  intro D g p e s m args below meth c A H locs ls X I Z
  have X0 := X
  obtain ⟨hx, hb, hml, hr, hown, hts, hlk, hK, hnm, hA, hZs⟩ := X0
  obtain ⟨hP, hD, hS, hg⟩ := id I
  have hq := zL_at Z hl
  rw [zv_ref _ hx1] at hq
  refine lv_aload hx hb hd.1 hq ?_
  have K := kk D g p e s m args below meth c A H locs ls X I Z
  rw [← hd.2, List.map_cons, zv_ref _ hx1] at K
  exact K
theorem zj_istore_n {k : Fin 4} {x : Int} {L' : List (Option zV)} (hd : zd cc pc (.istore_n k) 1 n) (hi : k.val < nL) (hL : L.set k.val (some (.inl x)) = L') (kk : zJ sh l y cc nL ret R mc ms Q u1 u2 n L' st h) : zJ sh l y cc nL ret R mc ms Q u1 u2 pc L (.inl x :: st) h := by
  intro D g p e s m args below meth c A H locs ls X I Z
  have X0 := X
  obtain ⟨hx, hb, hml, hr, hown, hts, hlk, hK, hnm, hA, hZs⟩ := X0
  obtain ⟨hP, hD, hS, hg⟩ := id I
  refine lv_istore_n hx hb hd.1 rfl Z.2 hi rfl fun ls' hl' => ?_
  have K := kk D g p e s m args below meth c A H locs ls' X I (zL_set Z hi hL hl')
  rw [← hd.2] at K
  exact K
theorem zj_istore {k : Nat} {x : Int} {L' : List (Option zV)} (hd : zd cc pc (.istore k) 2 n) (hi : k < nL) (hL : L.set k (some (.inl x)) = L') (kk : zJ sh l y cc nL ret R mc ms Q u1 u2 n L' st h) : zJ sh l y cc nL ret R mc ms Q u1 u2 pc L (.inl x :: st) h := by
  intro D g p e s m args below meth c A H locs ls X I Z
  have X0 := X
  obtain ⟨hx, hb, hml, hr, hown, hts, hlk, hK, hnm, hA, hZs⟩ := X0
  obtain ⟨hP, hD, hS, hg⟩ := id I
  refine lv_istore hx hb hd.1 Z.2 hi rfl fun ls' hl' => ?_
  have K := kk D g p e s m args below meth c A H locs ls' X I (zL_set Z hi hL hl')
  rw [← hd.2] at K
  exact K
theorem zj_astore_n {k : Fin 4} {x : Int} {L' : List (Option zV)} (hd : zd cc pc (.astore_n k) 1 n) (hx1 : ¬ x = -1) (hi : k.val < nL) (hL : L.set k.val (some (.inr x)) = L') (kk : zJ sh l y cc nL ret R mc ms Q u1 u2 n L' st h) : zJ sh l y cc nL ret R mc ms Q u1 u2 pc L (.inr x :: st) h := by
  intro D g p e s m args below meth c A H locs ls X I Z
  have X0 := X
  obtain ⟨hx, hb, hml, hr, hown, hts, hlk, hK, hnm, hA, hZs⟩ := X0
  obtain ⟨hP, hD, hS, hg⟩ := id I
  rw [List.map_cons, zv_ref _ hx1]
  refine lv_astore_n hx hb hd.1 rfl Z.2 hi rfl fun ls' hl' => ?_
  have K := kk D g p e s m args below meth c A H locs ls' X I (zL_set Z hi hL (by rw [zv_ref _ hx1]; exact hl'))
  rw [← hd.2] at K
  exact K
theorem zj_astore {k : Nat} {x : Int} {L' : List (Option zV)} (hd : zd cc pc (.astore k) 2 n) (hx1 : ¬ x = -1) (hi : k < nL) (hL : L.set k (some (.inr x)) = L') (kk : zJ sh l y cc nL ret R mc ms Q u1 u2 n L' st h) : zJ sh l y cc nL ret R mc ms Q u1 u2 pc L (.inr x :: st) h := by
  intro D g p e s m args below meth c A H locs ls X I Z
  have X0 := X
  obtain ⟨hx, hb, hml, hr, hown, hts, hlk, hK, hnm, hA, hZs⟩ := X0
  obtain ⟨hP, hD, hS, hg⟩ := id I
  rw [List.map_cons, zv_ref _ hx1]
  refine lv_astore hx hb hd.1 Z.2 hi rfl fun ls' hl' => ?_
  have K := kk D g p e s m args below meth c A H locs ls' X I (zL_set Z hi hL (by rw [zv_ref _ hx1]; exact hl'))
  rw [← hd.2] at K
  exact K
theorem zj_iinc {k : Nat} {x d : Int} {L' : List (Option zV)} (hd : zd cc pc (.iinc k d) 3 n) (hl : L[k]? = some (some (.inl x))) (hi : k < nL) (hL : L.set k (some (.inl (x + d))) = L') (kk : zJ sh l y cc nL ret R mc ms Q u1 u2 n L' st h) : zJ sh l y cc nL ret R mc ms Q u1 u2 pc L st h := by
  intro D g p e s m args below meth c A H locs ls X I Z
  have X0 := X
  obtain ⟨hx, hb, hml, hr, hown, hts, hlk, hK, hnm, hA, hZs⟩ := X0
  obtain ⟨hP, hD, hS, hg⟩ := id I
  obtain ⟨j, hj⟩ := List.getElem?_of_mem (zl_mem (q := (k, zv g.1 (.inl x))).mpr ⟨_, hl, rfl⟩)
  refine lv_iinc (v := Int32.ofInt (x + d)) hx hb hd.1 Z.2 hj (Int32.ofInt_add x d).symm hi rfl fun ls' hl' => ?_
  have K := kk D g p e s m args below meth c A H locs ls' X I (zL_set Z hi hL hl')
  rw [← hd.2] at K
  exact K
theorem zj_dup {v : zV} (hd : zd cc pc .dup 1 n) (kk : zJ sh l y cc nL ret R mc ms Q u1 u2 n L (v :: v :: st) h) : zJ sh l y cc nL ret R mc ms Q u1 u2 pc L (v :: st) h := by
  intro D g p e s m args below meth c A H locs ls X I Z
  have X0 := X
  obtain ⟨hx, hb, hml, hr, hown, hts, hlk, hK, hnm, hA, hZs⟩ := X0
  obtain ⟨hP, hD, hS, hg⟩ := id I
  refine lv_dup hx hb hd.1 (zv_cat _ _) ?_
  have K := kk D g p e s m args below meth c A H locs ls X I Z
  rw [← hd.2] at K
  exact K
theorem zj_pop {v : zV} (hd : zd cc pc .pop 1 n) (kk : zJ sh l y cc nL ret R mc ms Q u1 u2 n L st h) : zJ sh l y cc nL ret R mc ms Q u1 u2 pc L (v :: st) h := by
  intro D g p e s m args below meth c A H locs ls X I Z
  have X0 := X
  obtain ⟨hx, hb, hml, hr, hown, hts, hlk, hK, hnm, hA, hZs⟩ := X0
  obtain ⟨hP, hD, hS, hg⟩ := id I
  refine lv_pop hx hb hd.1 (zv_cat _ _) ?_
  have K := kk D g p e s m args below meth c A H locs ls X I Z
  rw [← hd.2] at K
  exact K
theorem zj_dup_x1 {v w : zV} (hd : zd cc pc .dup_x1 1 n) (kk : zJ sh l y cc nL ret R mc ms Q u1 u2 n L (v :: w :: v :: st) h) : zJ sh l y cc nL ret R mc ms Q u1 u2 pc L (v :: w :: st) h := by
  intro D g p e s m args below meth c A H locs ls X I Z
  have X0 := X
  obtain ⟨hx, hb, hml, hr, hown, hts, hlk, hK, hnm, hA, hZs⟩ := X0
  obtain ⟨hP, hD, hS, hg⟩ := id I
  refine lv_dup_x1 hx hb hd.1 (zv_cat _ _) (zv_cat _ _) ?_
  have K := kk D g p e s m args below meth c A H locs ls X I Z
  rw [← hd.2] at K
  exact K
theorem zj_dup2 {v w : zV} (hd : zd cc pc .dup2 1 n) (kk : zJ sh l y cc nL ret R mc ms Q u1 u2 n L (v :: w :: v :: w :: st) h) : zJ sh l y cc nL ret R mc ms Q u1 u2 pc L (v :: w :: st) h := by
  intro D g p e s m args below meth c A H locs ls X I Z
  have X0 := X
  obtain ⟨hx, hb, hml, hr, hown, hts, hlk, hK, hnm, hA, hZs⟩ := X0
  obtain ⟨hP, hD, hS, hg⟩ := id I
  refine lv_dup2_11 hx hb hd.1 (zv_cat _ _) (zv_cat _ _) ?_
  have K := kk D g p e s m args below meth c A H locs ls X I Z
  rw [← hd.2] at K
  exact K
theorem zj_iadd {a b : Int} (hd : zd cc pc .iadd 1 n) (kk : zJ sh l y cc nL ret R mc ms Q u1 u2 n L (.inl (a + b) :: st) h) : zJ sh l y cc nL ret R mc ms Q u1 u2 pc L (.inl b :: .inl a :: st) h := by
  intro D g p e s m args below meth c A H locs ls X I Z
  have X0 := X
  obtain ⟨hx, hb, hml, hr, hown, hts, hlk, hK, hnm, hA, hZs⟩ := X0
  obtain ⟨hP, hD, hS, hg⟩ := id I
  refine lv_iadd hx hb hd.1 ?_
  rw [← Int32.ofInt_add a b]
  have K := kk D g p e s m args below meth c A H locs ls X I Z
  rw [← hd.2] at K
  exact K
theorem zj_isub {a b : Int} (hd : zd cc pc .isub 1 n) (kk : zJ sh l y cc nL ret R mc ms Q u1 u2 n L (.inl (a - b) :: st) h) : zJ sh l y cc nL ret R mc ms Q u1 u2 pc L (.inl b :: .inl a :: st) h := by
  intro D g p e s m args below meth c A H locs ls X I Z
  have X0 := X
  obtain ⟨hx, hb, hml, hr, hown, hts, hlk, hK, hnm, hA, hZs⟩ := X0
  obtain ⟨hP, hD, hS, hg⟩ := id I
  refine lv_isub hx hb hd.1 ?_
  rw [← Int32.ofInt_sub a b]
  have K := kk D g p e s m args below meth c A H locs ls X I Z
  rw [← hd.2] at K
  exact K
theorem zj_imul {a b : Int} (hd : zd cc pc .imul 1 n) (kk : zJ sh l y cc nL ret R mc ms Q u1 u2 n L (.inl (a * b) :: st) h) : zJ sh l y cc nL ret R mc ms Q u1 u2 pc L (.inl b :: .inl a :: st) h := by
  intro D g p e s m args below meth c A H locs ls X I Z
  have X0 := X
  obtain ⟨hx, hb, hml, hr, hown, hts, hlk, hK, hnm, hA, hZs⟩ := X0
  obtain ⟨hP, hD, hS, hg⟩ := id I
  refine lv_imul hx hb hd.1 ?_
  rw [← Int32.ofInt_mul a b]
  have K := kk D g p e s m args below meth c A H locs ls X I Z
  rw [← hd.2] at K
  exact K
theorem zj_ineg {a : Int} (hd : zd cc pc .ineg 1 n) (kk : zJ sh l y cc nL ret R mc ms Q u1 u2 n L (.inl (-a) :: st) h) : zJ sh l y cc nL ret R mc ms Q u1 u2 pc L (.inl a :: st) h := by
  intro D g p e s m args below meth c A H locs ls X I Z
  have X0 := X
  obtain ⟨hx, hb, hml, hr, hown, hts, hlk, hK, hnm, hA, hZs⟩ := X0
  obtain ⟨hP, hD, hS, hg⟩ := id I
  refine lv_ineg hx hb hd.1 ?_
  rw [← Int32.ofInt_neg a]
  have K := kk D g p e s m args below meth c A H locs ls X I Z
  rw [← hd.2] at K
  exact K
theorem zin_i {a : Int} (h : zin a) : (Int32.ofInt a).toInt = a := Int32.toInt_ofInt_of_le (by omega) (by omega)
theorem zin_inj {a b : Int} (ha : zin a) (hb : zin b) : Int32.ofInt a = Int32.ofInt b ↔ a = b := ⟨fun e => by rw [← zin_i ha, ← zin_i hb, e], fun e => by rw [e]⟩
theorem zin_lt {a b : Int} (ha : zin a) (hb : zin b) : Int32.ofInt a < Int32.ofInt b ↔ a < b := by rw [Int32.lt_iff_toInt_lt, zin_i ha, zin_i hb]
theorem zin_le {a b : Int} (ha : zin a) (hb : zin b) : Int32.ofInt a ≤ Int32.ofInt b ↔ a ≤ b := by rw [Int32.le_iff_toInt_le, zin_i ha, zin_i hb]
theorem zin_0 : zin 0 := by decide
theorem zi_div {a b : Int} (ha : zin a) (hb : zin b) : Int32.ofInt a / Int32.ofInt b = Int32.ofInt (a.tdiv b) := (Int32.ofInt_tdiv ha.1 ha.2 hb.1 hb.2).symm
theorem zi_rem {a b : Int} (ha : zin a) (hb : zin b) : Int32.ofInt a - Int32.ofInt a / Int32.ofInt b * Int32.ofInt b = Int32.ofInt (a.tmod b) := by
  rw [zi_div ha hb, ← Int32.ofInt_mul, ← Int32.ofInt_sub]
  congr 1
  have := Int.mul_tdiv_add_tmod a b
  rw [Int.mul_comm] at this
  omega
theorem zj_idiv {a b : Int} (hd : zd cc pc .idiv 1 n) (ha : zin a) (hb2 : zin b) (h0 : ¬ b = 0) (kk : zJ sh l y cc nL ret R mc ms Q u1 u2 n L (.inl (a.tdiv b) :: st) h) : zJ sh l y cc nL ret R mc ms Q u1 u2 pc L (.inl b :: .inl a :: st) h := by
  intro D g p e s m args below meth c A H locs ls X I Z
  have X0 := X
  obtain ⟨hx, hb, hml, hr, hown, hts, hlk, hK, hnm, hA, hZs⟩ := X0
  obtain ⟨hP, hD, hS, hg⟩ := id I
  refine lv_idiv hx hb hd.1 (fun e => h0 ((zin_inj hb2 zin_0).mp e)) ?_
  rw [zi_div ha hb2]
  have K := kk D g p e s m args below meth c A H locs ls X I Z
  rw [← hd.2] at K
  exact K
theorem zj_irem {a b : Int} (hd : zd cc pc .irem 1 n) (ha : zin a) (hb2 : zin b) (h0 : ¬ b = 0) (kk : zJ sh l y cc nL ret R mc ms Q u1 u2 n L (.inl (a.tmod b) :: st) h) : zJ sh l y cc nL ret R mc ms Q u1 u2 pc L (.inl b :: .inl a :: st) h := by
  intro D g p e s m args below meth c A H locs ls X I Z
  have X0 := X
  obtain ⟨hx, hb, hml, hr, hown, hts, hlk, hK, hnm, hA, hZs⟩ := X0
  obtain ⟨hP, hD, hS, hg⟩ := id I
  refine lv_irem hx hb hd.1 (fun e => h0 ((zin_inj hb2 zin_0).mp e)) ?_
  rw [zi_rem ha hb2]
  have K := kk D g p e s m args below meth c A H locs ls X I Z
  rw [← hd.2] at K
  exact K
theorem zj_idivP {a b : Int} (hd : zd cc pc .idiv 1 n) (ha : 0 ≤ a ∧ a ≤ 2147483647) (hb2 : 0 < b ∧ b ≤ 2147483647) (kk : zJ sh l y cc nL ret R mc ms Q u1 u2 n L (.inl (a / b) :: st) h) : zJ sh l y cc nL ret R mc ms Q u1 u2 pc L (.inl b :: .inl a :: st) h := by
  intro D g p e s m args below meth c A H locs ls X I Z
  have X0 := X
  obtain ⟨hx, hb, hml, hr, hown, hts, hlk, hK, hnm, hA, hZs⟩ := X0
  obtain ⟨hP, hD, hS, hg⟩ := id I
  refine lv_idiv hx hb hd.1 (fun e => absurd ((zin_inj (show zin b by omega) zin_0).mp e) (by omega)) ?_
  rw [zi_div (show zin a by omega) (show zin b by omega), Int.tdiv_eq_ediv_of_nonneg ha.1]
  have K := kk D g p e s m args below meth c A H locs ls X I Z
  rw [← hd.2] at K
  exact K
theorem zj_iremP {a b : Int} (hd : zd cc pc .irem 1 n) (ha : 0 ≤ a ∧ a ≤ 2147483647) (hb2 : 0 < b ∧ b ≤ 2147483647) (kk : zJ sh l y cc nL ret R mc ms Q u1 u2 n L (.inl (a % b) :: st) h) : zJ sh l y cc nL ret R mc ms Q u1 u2 pc L (.inl b :: .inl a :: st) h := by
  intro D g p e s m args below meth c A H locs ls X I Z
  have X0 := X
  obtain ⟨hx, hb, hml, hr, hown, hts, hlk, hK, hnm, hA, hZs⟩ := X0
  obtain ⟨hP, hD, hS, hg⟩ := id I
  refine lv_irem hx hb hd.1 (fun e => absurd ((zin_inj (show zin b by omega) zin_0).mp e) (by omega)) ?_
  rw [zi_rem (show zin a by omega) (show zin b by omega), Int.tmod_eq_emod_of_nonneg ha.1]
  have K := kk D g p e s m args below meth c A H locs ls X I Z
  rw [← hd.2] at K
  exact K
def zand_ (x y : Int32) : Int32 := x &&& y
def zand (a b : Int) : Int := (zand_ (Int32.ofInt a) (Int32.ofInt b)).toInt
theorem zand_in (a b : Int) : zin (zand a b) := by
  have h1 := Int32.toInt_lt (zand_ (Int32.ofInt a) (Int32.ofInt b))
  have h2 := Int32.le_toInt (zand_ (Int32.ofInt a) (Int32.ofInt b))
  unfold zand
  omega
def zor_ (x y : Int32) : Int32 := x ||| y
def zor (a b : Int) : Int := (zor_ (Int32.ofInt a) (Int32.ofInt b)).toInt
theorem zor_in (a b : Int) : zin (zor a b) := by
  have h1 := Int32.toInt_lt (zor_ (Int32.ofInt a) (Int32.ofInt b))
  have h2 := Int32.le_toInt (zor_ (Int32.ofInt a) (Int32.ofInt b))
  unfold zor
  omega
def zxor_ (x y : Int32) : Int32 := x ^^^ y
def zxor (a b : Int) : Int := (zxor_ (Int32.ofInt a) (Int32.ofInt b)).toInt
theorem zxor_in (a b : Int) : zin (zxor a b) := by
  have h1 := Int32.toInt_lt (zxor_ (Int32.ofInt a) (Int32.ofInt b))
  have h2 := Int32.le_toInt (zxor_ (Int32.ofInt a) (Int32.ofInt b))
  unfold zxor
  omega
def zshl_ (x y : Int32) : Int32 := x <<< (y &&& 31)
def zshl (a b : Int) : Int := (zshl_ (Int32.ofInt a) (Int32.ofInt b)).toInt
theorem zshl_in (a b : Int) : zin (zshl a b) := by
  have h1 := Int32.toInt_lt (zshl_ (Int32.ofInt a) (Int32.ofInt b))
  have h2 := Int32.le_toInt (zshl_ (Int32.ofInt a) (Int32.ofInt b))
  unfold zshl
  omega
def zshr_ (x y : Int32) : Int32 := x >>> (y &&& 31)
def zshr (a b : Int) : Int := (zshr_ (Int32.ofInt a) (Int32.ofInt b)).toInt
theorem zshr_in (a b : Int) : zin (zshr a b) := by
  have h1 := Int32.toInt_lt (zshr_ (Int32.ofInt a) (Int32.ofInt b))
  have h2 := Int32.le_toInt (zshr_ (Int32.ofInt a) (Int32.ofInt b))
  unfold zshr
  omega
def zushr_ (x y : Int32) : Int32 := (x.toUInt32 >>> (y.toUInt32 &&& Int32.toUInt32 31)).toInt32
def zushr (a b : Int) : Int := (zushr_ (Int32.ofInt a) (Int32.ofInt b)).toInt
theorem zushr_in (a b : Int) : zin (zushr a b) := by
  have h1 := Int32.toInt_lt (zushr_ (Int32.ofInt a) (Int32.ofInt b))
  have h2 := Int32.le_toInt (zushr_ (Int32.ofInt a) (Int32.ofInt b))
  unfold zushr
  omega
theorem zj_iand {a b : Int} (hd : zd cc pc .iand 1 n) (kk : zJ sh l y cc nL ret R mc ms Q u1 u2 n L (.inl (zand a b) :: st) h) : zJ sh l y cc nL ret R mc ms Q u1 u2 pc L (.inl b :: .inl a :: st) h := by
  intro D g p e s m args below meth c A H locs ls X I Z
  have X0 := X
  obtain ⟨hx, hb, hml, hr, hown, hts, hlk, hK, hnm, hA, hZs⟩ := X0
  obtain ⟨hP, hD, hS, hg⟩ := id I
  refine lv_iand hx hb hd.1 ?_
  have K := kk D g p e s m args below meth c A H locs ls X I Z
  rw [← hd.2, List.map_cons] at K
  simp only [zv, zand, zand_, Int32.ofInt_toInt] at K
  exact K
theorem zj_ior {a b : Int} (hd : zd cc pc .ior 1 n) (kk : zJ sh l y cc nL ret R mc ms Q u1 u2 n L (.inl (zor a b) :: st) h) : zJ sh l y cc nL ret R mc ms Q u1 u2 pc L (.inl b :: .inl a :: st) h := by
  intro D g p e s m args below meth c A H locs ls X I Z
  have X0 := X
  obtain ⟨hx, hb, hml, hr, hown, hts, hlk, hK, hnm, hA, hZs⟩ := X0
  obtain ⟨hP, hD, hS, hg⟩ := id I
  refine lv_ior hx hb hd.1 ?_
  have K := kk D g p e s m args below meth c A H locs ls X I Z
  rw [← hd.2, List.map_cons] at K
  simp only [zv, zor, zor_, Int32.ofInt_toInt] at K
  exact K
theorem zj_ixor {a b : Int} (hd : zd cc pc .ixor 1 n) (kk : zJ sh l y cc nL ret R mc ms Q u1 u2 n L (.inl (zxor a b) :: st) h) : zJ sh l y cc nL ret R mc ms Q u1 u2 pc L (.inl b :: .inl a :: st) h := by
  intro D g p e s m args below meth c A H locs ls X I Z
  have X0 := X
  obtain ⟨hx, hb, hml, hr, hown, hts, hlk, hK, hnm, hA, hZs⟩ := X0
  obtain ⟨hP, hD, hS, hg⟩ := id I
  refine lv_ixor hx hb hd.1 ?_
  have K := kk D g p e s m args below meth c A H locs ls X I Z
  rw [← hd.2, List.map_cons] at K
  simp only [zv, zxor, zxor_, Int32.ofInt_toInt] at K
  exact K
theorem zj_ishl {a b : Int} (hd : zd cc pc .ishl 1 n) (kk : zJ sh l y cc nL ret R mc ms Q u1 u2 n L (.inl (zshl a b) :: st) h) : zJ sh l y cc nL ret R mc ms Q u1 u2 pc L (.inl b :: .inl a :: st) h := by
  intro D g p e s m args below meth c A H locs ls X I Z
  have X0 := X
  obtain ⟨hx, hb, hml, hr, hown, hts, hlk, hK, hnm, hA, hZs⟩ := X0
  obtain ⟨hP, hD, hS, hg⟩ := id I
  refine lv_ishl hx hb hd.1 ?_
  have K := kk D g p e s m args below meth c A H locs ls X I Z
  rw [← hd.2, List.map_cons] at K
  simp only [zv, zshl, zshl_, Int32.ofInt_toInt] at K
  exact K
theorem zj_ishr {a b : Int} (hd : zd cc pc .ishr 1 n) (kk : zJ sh l y cc nL ret R mc ms Q u1 u2 n L (.inl (zshr a b) :: st) h) : zJ sh l y cc nL ret R mc ms Q u1 u2 pc L (.inl b :: .inl a :: st) h := by
  intro D g p e s m args below meth c A H locs ls X I Z
  have X0 := X
  obtain ⟨hx, hb, hml, hr, hown, hts, hlk, hK, hnm, hA, hZs⟩ := X0
  obtain ⟨hP, hD, hS, hg⟩ := id I
  refine lv_ishr hx hb hd.1 ?_
  have K := kk D g p e s m args below meth c A H locs ls X I Z
  rw [← hd.2, List.map_cons] at K
  simp only [zv, zshr, zshr_, Int32.ofInt_toInt] at K
  exact K
theorem zj_iushr {a b : Int} (hd : zd cc pc .iushr 1 n) (kk : zJ sh l y cc nL ret R mc ms Q u1 u2 n L (.inl (zushr a b) :: st) h) : zJ sh l y cc nL ret R mc ms Q u1 u2 pc L (.inl b :: .inl a :: st) h := by
  intro D g p e s m args below meth c A H locs ls X I Z
  have X0 := X
  obtain ⟨hx, hb, hml, hr, hown, hts, hlk, hK, hnm, hA, hZs⟩ := X0
  obtain ⟨hP, hD, hS, hg⟩ := id I
  refine lv_iushr hx hb hd.1 (v := Int32.ofInt (zushr a b)) ?_ ?_
  · simp only [zushr, zushr_, Int32.ofInt_toInt]
  have K := kk D g p e s m args below meth c A H locs ls X I Z
  rw [← hd.2] at K
  exact K
theorem zj_i2c {a : Int} (hd : zd cc pc .i2c 1 n) (ha : 0 ≤ a ∧ a ≤ 65535) (kk : zJ sh l y cc nL ret R mc ms Q u1 u2 n L (.inl a :: st) h) : zJ sh l y cc nL ret R mc ms Q u1 u2 pc L (.inl a :: st) h := by
  intro D g p e s m args below meth c A H locs ls X I Z
  have X0 := X
  obtain ⟨hx, hb, hml, hr, hown, hts, hlk, hK, hnm, hA, hZs⟩ := X0
  obtain ⟨hP, hD, hS, hg⟩ := id I
  refine lv_i2c hx hb hd.1 (v := Int32.ofInt a) ?_ ?_
  · obtain ⟨k, rfl⟩ : ∃ k : Nat, a = k := ⟨a.toNat, by omega⟩
    have h2 := (pk_charN (q := k) (by omega)).1
    rw [Int32.ofInt_eq_ofNat]
    have h3 := pk_char (nI k)
    rw [pk_tn (by omega), Nat.mod_eq_of_lt (by omega)] at h3
    exact h3
  have K := kk D g p e s m args below meth c A H locs ls X I Z
  rw [← hd.2] at K
  exact K
theorem zj_top {a b : Int} (e : Int32.ofInt a = Int32.ofInt b) (kk : zJ sh l y cc nL ret R mc ms Q u1 u2 pc L (.inl b :: st) h) : zJ sh l y cc nL ret R mc ms Q u1 u2 pc L (.inl a :: st) h := by
  intro D g p e1 s m args below meth c A H locs ls X I Z
  have K := kk D g p e1 s m args below meth c A H locs ls X I Z
  have e2 : zv g.1 (.inl a) = zv g.1 (.inl b) := congrArg Value.int e
  rw [List.map_cons, e2, ← List.map_cons]
  exact K
def zwp (a : Int) : Int := (Int32.ofInt a).toInt
theorem zwp_in (a : Int) : zin (zwp a) := by
  have h1 := Int32.toInt_lt (Int32.ofInt a)
  have h2 := Int32.le_toInt (Int32.ofInt a)
  unfold zwp
  omega
theorem zj_wrapl {k : Nat} {a : Int} {L' : List (Option zV)} (hl : L[k]? = some (some (.inl a))) (hL : L.set k (some (.inl (zwp a))) = L') (kk : zJ sh l y cc nL ret R mc ms Q u1 u2 pc L' st h) : zJ sh l y cc nL ret R mc ms Q u1 u2 pc L st h := by
  intro D g p e s m args below meth c A H locs ls X I Z
  refine kk D g p e s m args below meth c A H locs ls X I ?_
  subst hL
  refine ⟨by rw [List.length_set]; exact Z.1, Z.2.1, Z.2.2.1, fun q hq => ?_⟩
  obtain ⟨w, h1, h2⟩ := zl_mem.mp hq
  by_cases hqk : q.1 = k
  · have hk : k < L.length := (List.getElem?_eq_some_iff.mp hl).1
    rw [hqk, List.getElem?_set_self hk] at h1
    have hw : (Sum.inl (zwp a) : zV) = w := Option.some.inj (Option.some.inj h1)
    have h3 := zL_at Z hl
    rw [hqk, h2, ← hw]
    show ls[k]? = some (.val (.int (Int32.ofInt (zwp a))))
    unfold zwp
    rw [Int32.ofInt_toInt]
    exact h3
  · rw [List.getElem?_set_ne (Ne.symm hqk)] at h1
    exact Z.2.2.2 q (zl_mem.mpr ⟨w, h1, h2⟩)
theorem zj_kill {k : Nat} {L' : List (Option zV)} (hL : L.set k none = L') (kk : zJ sh l y cc nL ret R mc ms Q u1 u2 pc L' st h) : zJ sh l y cc nL ret R mc ms Q u1 u2 pc L st h := by
  intro D g p e s m args below meth c A H locs ls X I Z
  refine kk D g p e s m args below meth c A H locs ls X I ?_
  subst hL
  refine ⟨by rw [List.length_set]; exact Z.1, Z.2.1, Z.2.2.1, fun q hq => ?_⟩
  obtain ⟨w, h1, h2⟩ := zl_mem.mp hq
  by_cases hqk : q.1 = k
  · rw [hqk] at h1
    by_cases hk : k < L.length
    · rw [List.getElem?_set_self hk] at h1; cases h1
    · rw [List.getElem?_eq_none (by rw [List.length_set]; omega)] at h1; cases h1
  · rw [List.getElem?_set_ne (Ne.symm hqk)] at h1
    exact Z.2.2.2 q (zl_mem.mpr ⟨w, h1, h2⟩)
theorem zwp_id {a : Int} (h : zin a) : zwp a = a := zin_i h
theorem zj_wrap {a : Int} (kk : zJ sh l y cc nL ret R mc ms Q u1 u2 pc L (.inl (zwp a) :: st) h) : zJ sh l y cc nL ret R mc ms Q u1 u2 pc L (.inl a :: st) h := zj_top (by unfold zwp; rw [Int32.ofInt_toInt]) kk
theorem zj_goto {off : Int} {t : Nat} (hd : zd cc pc (.goto off) 3 n) (ht : (pc : Int) + off = (t : Int)) (kk : zJ sh l y cc nL ret R mc ms Q u1 u2 t L st h) : zJ sh l y cc nL ret R mc ms Q u1 u2 pc L st h := by
  intro D g p e s m args below meth c A H locs ls X I Z
  have X0 := X
  obtain ⟨hx, hb, hml, hr, hown, hts, hlk, hK, hnm, hA, hZs⟩ := X0
  obtain ⟨hP, hD, hS, hg⟩ := id I
  exact lv_goto hx hb hd.1 ht (kk D g p e s m args below meth c A H locs ls X I Z)
theorem zj_icmp_eq {a b off : Int} {t : Nat} (hd : zd cc pc (.if_icmp .eq off) 3 n) (ht : (pc : Int) + off = (t : Int)) (ha : zin a) (hb2 : zin b) (kt : a = b → zJ sh l y cc nL ret R mc ms Q u1 u2 t L st h) (kf : ¬ a = b → zJ sh l y cc nL ret R mc ms Q u1 u2 n L st h) : zJ sh l y cc nL ret R mc ms Q u1 u2 pc L (.inl b :: .inl a :: st) h := by
  intro D g p e s m args below meth c A H locs ls X I Z
  have X0 := X
  obtain ⟨hx, hb, hml, hr, hown, hts, hlk, hK, hnm, hA, hZs⟩ := X0
  obtain ⟨hP, hD, hS, hg⟩ := id I
  refine lv_icmp_eq hx hb hd.1 ht (fun q => kt ((zin_inj ha hb2).mp q) D g p e s m args below meth c A H locs ls X I Z) (fun q => ?_)
  have K := kf (fun z => q ((zin_inj ha hb2).mpr z)) D g p e s m args below meth c A H locs ls X I Z
  rw [← hd.2] at K
  exact K
theorem zj_if_eq {a off : Int} {t : Nat} (hd : zd cc pc (.ifCond .eq off) 3 n) (ht : (pc : Int) + off = (t : Int)) (ha : zin a) (kt : a = 0 → zJ sh l y cc nL ret R mc ms Q u1 u2 t L st h) (kf : ¬ a = 0 → zJ sh l y cc nL ret R mc ms Q u1 u2 n L st h) : zJ sh l y cc nL ret R mc ms Q u1 u2 pc L (.inl a :: st) h := by
  intro D g p e s m args below meth c A H locs ls X I Z
  have X0 := X
  obtain ⟨hx, hb, hml, hr, hown, hts, hlk, hK, hnm, hA, hZs⟩ := X0
  obtain ⟨hP, hD, hS, hg⟩ := id I
  refine lv_if_eq hx hb hd.1 ht (fun q => kt ((zin_inj ha zin_0).mp q) D g p e s m args below meth c A H locs ls X I Z) (fun q => ?_)
  have K := kf (fun z => q ((zin_inj ha zin_0).mpr z)) D g p e s m args below meth c A H locs ls X I Z
  rw [← hd.2] at K
  exact K
theorem zj_icmp_ne {a b off : Int} {t : Nat} (hd : zd cc pc (.if_icmp .ne off) 3 n) (ht : (pc : Int) + off = (t : Int)) (ha : zin a) (hb2 : zin b) (kt : ¬ a = b → zJ sh l y cc nL ret R mc ms Q u1 u2 t L st h) (kf : a = b → zJ sh l y cc nL ret R mc ms Q u1 u2 n L st h) : zJ sh l y cc nL ret R mc ms Q u1 u2 pc L (.inl b :: .inl a :: st) h := by
  intro D g p e s m args below meth c A H locs ls X I Z
  have X0 := X
  obtain ⟨hx, hb, hml, hr, hown, hts, hlk, hK, hnm, hA, hZs⟩ := X0
  obtain ⟨hP, hD, hS, hg⟩ := id I
  refine lv_icmp_ne hx hb hd.1 ht (fun q => kt (fun z => q ((zin_inj ha hb2).mpr z)) D g p e s m args below meth c A H locs ls X I Z) (fun q => ?_)
  have K := kf ((zin_inj ha hb2).mp q) D g p e s m args below meth c A H locs ls X I Z
  rw [← hd.2] at K
  exact K
theorem zj_if_ne {a off : Int} {t : Nat} (hd : zd cc pc (.ifCond .ne off) 3 n) (ht : (pc : Int) + off = (t : Int)) (ha : zin a) (kt : ¬ a = 0 → zJ sh l y cc nL ret R mc ms Q u1 u2 t L st h) (kf : a = 0 → zJ sh l y cc nL ret R mc ms Q u1 u2 n L st h) : zJ sh l y cc nL ret R mc ms Q u1 u2 pc L (.inl a :: st) h := by
  intro D g p e s m args below meth c A H locs ls X I Z
  have X0 := X
  obtain ⟨hx, hb, hml, hr, hown, hts, hlk, hK, hnm, hA, hZs⟩ := X0
  obtain ⟨hP, hD, hS, hg⟩ := id I
  refine lv_if_ne hx hb hd.1 ht (fun q => kt (fun z => q ((zin_inj ha zin_0).mpr z)) D g p e s m args below meth c A H locs ls X I Z) (fun q => ?_)
  have K := kf ((zin_inj ha zin_0).mp q) D g p e s m args below meth c A H locs ls X I Z
  rw [← hd.2] at K
  exact K
theorem zj_icmp_lt {a b off : Int} {t : Nat} (hd : zd cc pc (.if_icmp .lt off) 3 n) (ht : (pc : Int) + off = (t : Int)) (ha : zin a) (hb2 : zin b) (kt : a < b → zJ sh l y cc nL ret R mc ms Q u1 u2 t L st h) (kf : ¬ a < b → zJ sh l y cc nL ret R mc ms Q u1 u2 n L st h) : zJ sh l y cc nL ret R mc ms Q u1 u2 pc L (.inl b :: .inl a :: st) h := by
  intro D g p e s m args below meth c A H locs ls X I Z
  have X0 := X
  obtain ⟨hx, hb, hml, hr, hown, hts, hlk, hK, hnm, hA, hZs⟩ := X0
  obtain ⟨hP, hD, hS, hg⟩ := id I
  refine lv_icmp_lt hx hb hd.1 ht (fun q => kt ((zin_lt ha hb2).mp q) D g p e s m args below meth c A H locs ls X I Z) (fun q => ?_)
  have K := kf (fun z => q ((zin_lt ha hb2).mpr z)) D g p e s m args below meth c A H locs ls X I Z
  rw [← hd.2] at K
  exact K
theorem zj_if_lt {a off : Int} {t : Nat} (hd : zd cc pc (.ifCond .lt off) 3 n) (ht : (pc : Int) + off = (t : Int)) (ha : zin a) (kt : a < 0 → zJ sh l y cc nL ret R mc ms Q u1 u2 t L st h) (kf : ¬ a < 0 → zJ sh l y cc nL ret R mc ms Q u1 u2 n L st h) : zJ sh l y cc nL ret R mc ms Q u1 u2 pc L (.inl a :: st) h := by
  intro D g p e s m args below meth c A H locs ls X I Z
  have X0 := X
  obtain ⟨hx, hb, hml, hr, hown, hts, hlk, hK, hnm, hA, hZs⟩ := X0
  obtain ⟨hP, hD, hS, hg⟩ := id I
  refine lv_if_lt hx hb hd.1 ht (fun q => kt ((zin_lt ha zin_0).mp q) D g p e s m args below meth c A H locs ls X I Z) (fun q => ?_)
  have K := kf (fun z => q ((zin_lt ha zin_0).mpr z)) D g p e s m args below meth c A H locs ls X I Z
  rw [← hd.2] at K
  exact K
theorem zj_icmp_ge {a b off : Int} {t : Nat} (hd : zd cc pc (.if_icmp .ge off) 3 n) (ht : (pc : Int) + off = (t : Int)) (ha : zin a) (hb2 : zin b) (kt : b ≤ a → zJ sh l y cc nL ret R mc ms Q u1 u2 t L st h) (kf : ¬ b ≤ a → zJ sh l y cc nL ret R mc ms Q u1 u2 n L st h) : zJ sh l y cc nL ret R mc ms Q u1 u2 pc L (.inl b :: .inl a :: st) h := by
  intro D g p e s m args below meth c A H locs ls X I Z
  have X0 := X
  obtain ⟨hx, hb, hml, hr, hown, hts, hlk, hK, hnm, hA, hZs⟩ := X0
  obtain ⟨hP, hD, hS, hg⟩ := id I
  refine lv_icmp_ge hx hb hd.1 ht (fun q => kt ((zin_le hb2 ha).mp q) D g p e s m args below meth c A H locs ls X I Z) (fun q => ?_)
  have K := kf (fun z => q ((zin_le hb2 ha).mpr z)) D g p e s m args below meth c A H locs ls X I Z
  rw [← hd.2] at K
  exact K
theorem zj_if_ge {a off : Int} {t : Nat} (hd : zd cc pc (.ifCond .ge off) 3 n) (ht : (pc : Int) + off = (t : Int)) (ha : zin a) (kt : 0 ≤ a → zJ sh l y cc nL ret R mc ms Q u1 u2 t L st h) (kf : ¬ 0 ≤ a → zJ sh l y cc nL ret R mc ms Q u1 u2 n L st h) : zJ sh l y cc nL ret R mc ms Q u1 u2 pc L (.inl a :: st) h := by
  intro D g p e s m args below meth c A H locs ls X I Z
  have X0 := X
  obtain ⟨hx, hb, hml, hr, hown, hts, hlk, hK, hnm, hA, hZs⟩ := X0
  obtain ⟨hP, hD, hS, hg⟩ := id I
  refine lv_if_ge hx hb hd.1 ht (fun q => kt ((zin_le zin_0 ha).mp q) D g p e s m args below meth c A H locs ls X I Z) (fun q => ?_)
  have K := kf (fun z => q ((zin_le zin_0 ha).mpr z)) D g p e s m args below meth c A H locs ls X I Z
  rw [← hd.2] at K
  exact K
theorem zj_icmp_gt {a b off : Int} {t : Nat} (hd : zd cc pc (.if_icmp .gt off) 3 n) (ht : (pc : Int) + off = (t : Int)) (ha : zin a) (hb2 : zin b) (kt : b < a → zJ sh l y cc nL ret R mc ms Q u1 u2 t L st h) (kf : ¬ b < a → zJ sh l y cc nL ret R mc ms Q u1 u2 n L st h) : zJ sh l y cc nL ret R mc ms Q u1 u2 pc L (.inl b :: .inl a :: st) h := by
  intro D g p e s m args below meth c A H locs ls X I Z
  have X0 := X
  obtain ⟨hx, hb, hml, hr, hown, hts, hlk, hK, hnm, hA, hZs⟩ := X0
  obtain ⟨hP, hD, hS, hg⟩ := id I
  refine lv_icmp_gt hx hb hd.1 ht (fun q => kt ((zin_lt hb2 ha).mp q) D g p e s m args below meth c A H locs ls X I Z) (fun q => ?_)
  have K := kf (fun z => q ((zin_lt hb2 ha).mpr z)) D g p e s m args below meth c A H locs ls X I Z
  rw [← hd.2] at K
  exact K
theorem zj_if_gt {a off : Int} {t : Nat} (hd : zd cc pc (.ifCond .gt off) 3 n) (ht : (pc : Int) + off = (t : Int)) (ha : zin a) (kt : 0 < a → zJ sh l y cc nL ret R mc ms Q u1 u2 t L st h) (kf : ¬ 0 < a → zJ sh l y cc nL ret R mc ms Q u1 u2 n L st h) : zJ sh l y cc nL ret R mc ms Q u1 u2 pc L (.inl a :: st) h := by
  intro D g p e s m args below meth c A H locs ls X I Z
  have X0 := X
  obtain ⟨hx, hb, hml, hr, hown, hts, hlk, hK, hnm, hA, hZs⟩ := X0
  obtain ⟨hP, hD, hS, hg⟩ := id I
  refine lv_if_gt hx hb hd.1 ht (fun q => kt ((zin_lt zin_0 ha).mp q) D g p e s m args below meth c A H locs ls X I Z) (fun q => ?_)
  have K := kf (fun z => q ((zin_lt zin_0 ha).mpr z)) D g p e s m args below meth c A H locs ls X I Z
  rw [← hd.2] at K
  exact K
theorem zj_icmp_le {a b off : Int} {t : Nat} (hd : zd cc pc (.if_icmp .le off) 3 n) (ht : (pc : Int) + off = (t : Int)) (ha : zin a) (hb2 : zin b) (kt : a ≤ b → zJ sh l y cc nL ret R mc ms Q u1 u2 t L st h) (kf : ¬ a ≤ b → zJ sh l y cc nL ret R mc ms Q u1 u2 n L st h) : zJ sh l y cc nL ret R mc ms Q u1 u2 pc L (.inl b :: .inl a :: st) h := by
  intro D g p e s m args below meth c A H locs ls X I Z
  have X0 := X
  obtain ⟨hx, hb, hml, hr, hown, hts, hlk, hK, hnm, hA, hZs⟩ := X0
  obtain ⟨hP, hD, hS, hg⟩ := id I
  refine lv_icmp_le hx hb hd.1 ht (fun q => kt ((zin_le ha hb2).mp q) D g p e s m args below meth c A H locs ls X I Z) (fun q => ?_)
  have K := kf (fun z => q ((zin_le ha hb2).mpr z)) D g p e s m args below meth c A H locs ls X I Z
  rw [← hd.2] at K
  exact K
theorem zj_if_le {a off : Int} {t : Nat} (hd : zd cc pc (.ifCond .le off) 3 n) (ht : (pc : Int) + off = (t : Int)) (ha : zin a) (kt : a ≤ 0 → zJ sh l y cc nL ret R mc ms Q u1 u2 t L st h) (kf : ¬ a ≤ 0 → zJ sh l y cc nL ret R mc ms Q u1 u2 n L st h) : zJ sh l y cc nL ret R mc ms Q u1 u2 pc L (.inl a :: st) h := by
  intro D g p e s m args below meth c A H locs ls X I Z
  have X0 := X
  obtain ⟨hx, hb, hml, hr, hown, hts, hlk, hK, hnm, hA, hZs⟩ := X0
  obtain ⟨hP, hD, hS, hg⟩ := id I
  refine lv_if_le hx hb hd.1 ht (fun q => kt ((zin_le ha zin_0).mp q) D g p e s m args below meth c A H locs ls X I Z) (fun q => ?_)
  have K := kf (fun z => q ((zin_le ha zin_0).mpr z)) D g p e s m args below meth c A H locs ls X I Z
  rw [← hd.2] at K
  exact K
theorem zj_ifnonnull {x off : Int} {t : Nat} (hd : zd cc pc (.ifnonnull off) 3 n) (ht : (pc : Int) + off = (t : Int)) (kt : ¬ x = -1 → zJ sh l y cc nL ret R mc ms Q u1 u2 t L st h) (kf : x = -1 → zJ sh l y cc nL ret R mc ms Q u1 u2 n L st h) : zJ sh l y cc nL ret R mc ms Q u1 u2 pc L (.inr x :: st) h := by
  intro D g p e s m args below meth c A H locs ls X I Z
  have X0 := X
  obtain ⟨hx, hb, hml, hr, hown, hts, hlk, hK, hnm, hA, hZs⟩ := X0
  obtain ⟨hP, hD, hS, hg⟩ := id I
  by_cases hx1 : x = -1
  · subst hx1
    refine lv_ifnonnullN hx hb hd.1 ?_
    have K := kf rfl D g p e s m args below meth c A H locs ls X I Z
    rw [← hd.2] at K
    exact K
  · rw [List.map_cons, zv_ref _ hx1]
    exact lv_ifnonnull hx hb hd.1 ht (kt hx1 D g p e s m args below meth c A H locs ls X I Z)
theorem zj_table {a dflt lo hi : Int} {offs : Array Int} {len : Nat} (hd : zd cc pc (.tableswitch dflt lo hi offs) len n) (ha : zin a) {t : Nat} (ht : (pc : Int) + dflt = (t : Int)) (ko : a < lo ∨ hi < a → zJ sh l y cc nL ret R mc ms Q u1 u2 t L st h) (ki : lo ≤ a → a ≤ hi → ∃ (off : Int) (t2 : Nat), offs[(a - lo).toNat]? = some off ∧ (pc : Int) + off = (t2 : Int) ∧ zJ sh l y cc nL ret R mc ms Q u1 u2 t2 L st h) : zJ sh l y cc nL ret R mc ms Q u1 u2 pc L (.inl a :: st) h := by
  intro D g p e s m args below meth c A H locs ls X I Z
  have X0 := X
  obtain ⟨hx, hb, hml, hr, hown, hts, hlk, hK, hnm, hA, hZs⟩ := X0
  obtain ⟨hP, hD, hS, hg⟩ := id I
  by_cases h1 : a < lo
  · exact lv_tableOut hx hb hd.1 (Or.inl (by rw [zin_i ha]; exact h1)) ht (ko (Or.inl h1) D g p e s m args below meth c A H locs ls X I Z)
  · by_cases h2 : hi < a
    · exact lv_tableOut hx hb hd.1 (Or.inr (by rw [zin_i ha]; exact h2)) ht (ko (Or.inr h2) D g p e s m args below meth c A H locs ls X I Z)
    · obtain ⟨off, t2, q1, q2, q3⟩ := ki (by omega) (by omega)
      exact lv_tableIn hx hb hd.1 (by rw [zin_i ha]; exact h1) (by rw [zin_i ha]; exact h2) (by rw [zin_i ha]; exact q1) q2 (q3 D g p e s m args below meth c A H locs ls X I Z)
theorem zj_lookup {a dflt : Int} {ps : Array (Int × Int)} {len : Nat} (hd : zd cc pc (.lookupswitch dflt ps) len n) (ha : zin a) (hp : (ps.toList.zip (ps.toList.drop 1)).all (fun (a, next) => a.1 < next.1) = true) {off : Int} {t : Nat} (ho : Op.lookupswitch.offset ps.toList dflt a = off) (ht : (pc : Int) + off = (t : Int)) (kk : zJ sh l y cc nL ret R mc ms Q u1 u2 t L st h) : zJ sh l y cc nL ret R mc ms Q u1 u2 pc L (.inl a :: st) h := by
  intro D g p e s m args below meth c A H locs ls X I Z
  have X0 := X
  obtain ⟨hx, hb, hml, hr, hown, hts, hlk, hK, hnm, hA, hZs⟩ := X0
  obtain ⟨hP, hD, hS, hg⟩ := id I
  exact lv_lookup hx hb hd.1 hp (by rw [zin_i ha]; exact ho) ht (kk D g p e s m args below meth c A H locs ls X I Z)
theorem zj_vret (hret : ret = none) (hd : zd cc pc .return_ 1 n) (h1 : u1 ≤ mc) (h2 : u2 ≤ ms) (hq : Q none h) : zJ sh l y cc nL ret R mc ms Q u1 u2 pc L [] h := by
  intro D g p e s m args below meth c A H locs ls X I Z
  have X0 := X
  obtain ⟨hx, hb, hml, hr, hown, hts, hlk, hK, hnm, hA, hZs⟩ := X0
  obtain ⟨hP, hD, hS, hg⟩ := id I
  subst hret
  refine W.widen h1 h2 ?_
  exact W.vret hx hb hr (fun t ht hW => ⟨⟨none, h, rfl, hq, by rw [ht]; exact hP, hD, by rw [ht]; exact hg⟩, hS.F ht⟩) hS.2.2 hd.1 hlk
theorem zj_iret {x : Int} (hret : ret = some .int) (hd : zd cc pc .ireturn 1 n) (h1 : u1 ≤ mc) (h2 : u2 ≤ ms) (hq : Q (some (.inl x)) h) : zJ sh l y cc nL ret R mc ms Q u1 u2 pc L [.inl x] h := by
  intro D g p e s m args below meth c A H locs ls X I Z
  have X0 := X
  obtain ⟨hx, hb, hml, hr, hown, hts, hlk, hK, hnm, hA, hZs⟩ := X0
  obtain ⟨hP, hD, hS, hg⟩ := id I
  subst hret
  refine W.widen h1 h2 ?_
  exact W.iret hx hb hr (fun t ht hW => ⟨⟨some (.inl x), h, rfl, hq, by rw [ht]; exact hP, hD, by rw [ht]; exact hg⟩, hS.F ht⟩) hS.2.2 hd.1 hlk
theorem zj_zret {x : Int} (hret : ret = some .boolean) (hd : zd cc pc .ireturn 1 n) (h1 : u1 ≤ mc) (h2 : u2 ≤ ms) (hz : x = 0 ∨ x = 1) (hq : Q (some (.inl x)) h) : zJ sh l y cc nL ret R mc ms Q u1 u2 pc L [.inl x] h := by
  intro D g p e s m args below meth c A H locs ls X I Z
  have X0 := X
  obtain ⟨hx, hb, hml, hr, hown, hts, hlk, hK, hnm, hA, hZs⟩ := X0
  obtain ⟨hP, hD, hS, hg⟩ := id I
  subst hret
  refine W.widen h1 h2 ?_
  exact W.zret hx hb hr (by rcases hz with rfl | rfl <;> rfl) (fun t ht hW => ⟨⟨some (.inl x), h, rfl, hq, by rw [ht]; exact hP, hD, by rw [ht]; exact hg⟩, hS.F ht⟩) hS.2.2 hd.1 hlk
theorem zj_widen {k1 k2 : Nat} (h1 : u1 ≤ k1) (h2 : u2 ≤ k2) (kk : zJ sh l y cc nL ret R mc ms Q k1 k2 pc L st h) : zJ sh l y cc nL ret R mc ms Q u1 u2 pc L st h := by
  intro D g p e s m args below meth c A H locs ls X I Z
  have X0 := X
  obtain ⟨hx, hb, hml, hr, hown, hts, hlk, hK, hnm, hA, hZs⟩ := X0
  obtain ⟨hP, hD, hS, hg⟩ := id I
  exact W.widen h1 h2 (kk D g p e s m args below meth c A H locs ls X I Z)
def zty (k : Nat) (ty : FieldType) : Prop := match k with
  | 0 => ty = .int
  | 1 => ty = .boolean
  | _ => defaultValue ty = .null ∧ ∀ (v : Value), (v = .null ∨ ∃ a, v = .ref a) → narrow ty v = v ∧ fits ty v = true
def zCl (ci : Nat) (C : String) (T : u_T) (ty : Nat → FieldType) : Prop := vwCl[ci]? = some (C, T, znf ci) ∧ (∀ w ∈ u_ws C T (znf ci), w ∈ zt) ∧ (∀ k, k < znf ci → parseFieldDescriptor (T k).2.2.1 = some (ty k)) ∧ (∀ a, a < znf ci → ∀ b, b < znf ci → a ≠ b → (T a).2.1 ≠ (T b).2.1) ∧ ∀ k, k < znf ci → zty (zfk ci k) (ty k)
def zNF (ci k : Nat) : Prop := ∀ (C : String) (T : u_T), vwCl[ci]? = some (C, T, znf ci) → (T k).2.2.2 = false
def zFO (own : String) (ci k : Nat) : Prop := ∀ (C : String) (T : u_T), vwCl[ci]? = some (C, T, znf ci) → (T k).2.2.2 = true ∧ (T k).1 = own
/-- entry idx of the class own names field k of class ci -/
def zF (own : String) (idx ci k : Nat) : Prop := ∃ (C : String) (T : u_T) (ty : Nat → FieldType), zCl ci C T ty ∧ k < znf ci ∧ Cond.fieldLink own idx (T k).1 (T k).2.1 (T k).2.2.1 ∈ zt
theorem zfs_at {g : zG} {ci k : Nat} {h : zM} {c : Int} (hk : k < znf ci) : ((List.range (znf ci)).map fun (j : Nat) => zfv g.1 ci j (h.2 c j))[k]? = some (zfv g.1 ci k (h.2 c k)) := by
  rw [List.getElem?_map, List.getElem?_range hk]
  rfl
theorem zfs_set {g : zG} {ci k : Nat} {h : zM} {c v : Int} {x : Value} (hx : zfv g.1 ci k v = x) (_hk : k < znf ci) : ((List.range (znf ci)).map fun (j : Nat) => zfv g.1 ci j (h.2 c j)).set k x = (List.range (znf ci)).map fun (j : Nat) => zfv g.1 ci j ((zwr h c k v).2 c j) := by
  apply List.ext_getElem?
  intro i
  by_cases hi : i = k
  · subst hi
    rw [List.getElem?_set_self (by simpa using _hk), zfs_at _hk, zwr_s, hx]
  · rw [List.getElem?_set_ne (Ne.symm hi)]
    by_cases hl : i < znf ci
    · rw [zfs_at hl, zfs_at hl, zwr_n (by omega)]
    · rw [List.getElem?_eq_none (by simpa using hl), List.getElem?_eq_none (by simpa using hl)]
theorem zj_getf {c0 : Int} {ci k idx : Nat} {v : zV} (hd : zd cc pc (.getfield idx) 3 n) (hf : zF y.cls idx ci k) (hs : sh c0 = .inl ci) (hc : 0 ≤ c0 ∧ c0 < h.1) (hv : ∀ ad, zfv ad ci k (h.2 c0 k) = zv ad v) (kk : zJ sh l y cc nL ret R mc ms Q u1 u2 n L (v :: st) h) : zJ sh l y cc nL ret R mc ms Q u1 u2 pc L (.inr c0 :: st) h := by
  intro D g p e s m args below meth c A H locs ls X I Z
  have X0 := X
  obtain ⟨hx, hb, hml, hr, hown, hts, hlk, hK, hnm, hA, hZs⟩ := X0
  obtain ⟨hP, hD, hS, hg⟩ := id I
  obtain ⟨C, T, ty, ⟨q1, q2, q3, q4, q5⟩, q6, q7⟩ := hf
  obtain ⟨cn, rfl⟩ : ∃ cn : Nat, c0 = cn := ⟨c0.toNat, by omega⟩
  have hP1 := zw_at sh g h (c := cn) (by omega)
  rw [zc_obj hs] at hP1
  rw [List.map_cons, zv_ref _ (by omega)]
  refine va_get hx hb hts q2 hown hK hP cn hP1 q1 k q6 (hts _ q7) (fun _ z => z) (zfs_at q6) hd.1 ?_
  have K := kk D g p e s m args below meth c A H locs ls X I Z
  rw [← hd.2, List.map_cons, ← hv] at K
  exact K
theorem zj_geti {c0 v : Int} {ci k idx : Nat} (hd : zd cc pc (.getfield idx) 3 n) (hf : zF y.cls idx ci k) (hk : (zfk ci k).beq 2 = false) (hsc : sh c0 = .inl ci ∧ 0 ≤ c0 ∧ c0 < h.1) (hv : h.2 c0 (k : Int) = v) (kk : zJ sh l y cc nL ret R mc ms Q u1 u2 n L (.inl v :: st) h) : zJ sh l y cc nL ret R mc ms Q u1 u2 pc L (.inr c0 :: st) h :=
  zj_getf hd hf hsc.1 hsc.2 (fun ad => (if_neg (fun e => by rw [e] at hk; cases hk) : zfv ad ci k (h.2 c0 k) = .int (Int32.ofInt (h.2 c0 k))).trans (by rw [hv]; rfl)) kk
theorem zj_getr {c0 r : Int} {ci k idx : Nat} (hd : zd cc pc (.getfield idx) 3 n) (hf : zF y.cls idx ci k) (hk : zfk ci k = 2) (hsc : sh c0 = .inl ci ∧ 0 ≤ c0 ∧ c0 < h.1) (hv : h.2 c0 (k : Int) = r) (kk : zJ sh l y cc nL ret R mc ms Q u1 u2 n L (.inr r :: st) h) : zJ sh l y cc nL ret R mc ms Q u1 u2 pc L (.inr c0 :: st) h :=
  zj_getf hd hf hsc.1 hsc.2 (fun ad => by rw [hv]; exact if_pos hk) kk
theorem zj_putf {c0 x : Int} {ci k idx : Nat} {v : zV} (hd : zd cc pc (.putfield idx) 3 n) (hf : zF y.cls idx ci k) (hs : sh c0 = .inl ci) (hc : 0 ≤ c0 ∧ c0 < h.1) (hv : ∀ ad, zfv ad ci k x = zv ad v) (hn2 : ∀ ty, zty (zfk ci k) ty → ∀ ad, narrow ty (zv ad v) = zv ad v ∧ fits ty (zv ad v) = true) (hfin : zNF ci k ∨ (y.name = "<init>" ∧ zFO y.cls ci k)) (kk : zJ sh l y cc nL ret R mc ms Q u1 u2 n L st (zwr h c0 k x)) : zJ sh l y cc nL ret R mc ms Q u1 u2 pc L (v :: .inr c0 :: st) h := by
  intro D g p e s m args below meth c A H locs ls X I Z
  have X0 := X
  obtain ⟨hx, hb, hml, hr, hown, hts, hlk, hK, hnm, hA, hZs⟩ := X0
  obtain ⟨hP, hD, hS, hg⟩ := id I
  obtain ⟨C, T, ty, ⟨q1, q2, q3, q4, q5⟩, q6, q7⟩ := hf
  obtain ⟨cn, rfl⟩ : ∃ cn : Nat, c0 = cn := ⟨c0.toNat, by omega⟩
  have hP1 := zw_at sh g h (c := cn) (by omega)
  rw [zc_obj hs] at hP1
  have hset : (zw sh g h).set cn (g.1 (cn : Int), .inr (ci, ((List.range (znf ci)).map fun (j : Nat) => zfv g.1 ci j (h.2 cn j)).set k (zv g.1 v))) = zw sh g (zwr h cn k x) := zw_set (by omega) rfl (fun a b z => zwr_n (fun e => z e.1)) (by rw [zc_obj hs, zfs_set (hv g.1) q6])
  rw [List.map_cons, List.map_cons, zv_ref _ (show ¬ (cn : Int) = -1 by omega)]
  have go : ∀ (H1 : Heap) (locs1 : List Loc), va_P D vwCl ((zw sh g h).set cn (g.1 (cn : Int), .inr (ci, ((List.range (znf ci)).map fun (j : Nat) => zfv g.1 ci j (h.2 cn j)).set k (zv g.1 v)))) H1 → va_D A ((zw sh g h).set cn (g.1 (cn : Int), .inr (ci, ((List.range (znf ci)).map fun (j : Nat) => zfv g.1 ci j (h.2 cn j)).set k (zv g.1 v)))) → va_S A s.heap H1 locs1 → H1.size = H.size → W p l e R s m args below meth c H1 locs1 u1 u2 (MQ below (zQ sh D g A Q) args s mc ms A) (F0 m (pc + 3) ls (st.map (zv g.1))) := by
    intro H1 locs1 hP1 hD1 hS1 hz
    rw [hset] at hP1 hD1
    have K := kk D g p e s m args below meth c A H1 locs1 ls X ⟨hP1, hD1, hS1, by rw [hz]; exact hg⟩ Z
    rw [← hd.2] at K
    exact K
  have hz : ∀ (H1 : Heap) (locs1 : List Loc), va_P D vwCl ((zw sh g h).set cn (g.1 (cn : Int), .inr (ci, ((List.range (znf ci)).map fun (j : Nat) => zfv g.1 ci j (h.2 cn j)).set k (zv g.1 v)))) H1 → True := fun _ _ _ => trivial
  have hn3 := hn2 (ty k) (q5 k q6) g.1
  rcases hfin with hff | hfi
  · exact z_put hx hb hts q2 ty q3 q4 hown hK hP hD hS cn hP1 q1 k q6 (hts _ q7) (fun _ z => z) (Or.inl (hff C T q1)) (q3 k q6) hn3.1 hn3.2 (by simpa using q6) hd.1 go
  · exact z_put hx hb hts q2 ty q3 q4 hown hK hP hD hS cn hP1 q1 k q6 (hts _ q7) (fun _ z => z) (Or.inr ⟨(hfi.2 C T q1).1, hnm.trans hfi.1, (hfi.2 C T q1).2⟩) (q3 k q6) hn3.1 hn3.2 (by simpa using q6) hd.1 go
theorem zj_puti {c0 x k2 : Int} {ci k idx : Nat} (hd : zd cc pc (.putfield idx) 3 n) (hf : zF y.cls idx ci k) (hk : zfk ci k = 0) (hsc : sh c0 = .inl ci ∧ 0 ≤ c0 ∧ c0 < h.1) (hfin : zNF ci k ∨ (y.name = "<init>" ∧ zFO y.cls ci k)) (hk2 : (k : Int) = k2) (kk : ∀ h', h' = zwr h c0 k2 x → zJ sh l y cc nL ret R mc ms Q u1 u2 n L st h') : zJ sh l y cc nL ret R mc ms Q u1 u2 pc L (.inl x :: .inr c0 :: st) h :=
  zj_putf hd hf hsc.1 hsc.2 (fun ad => if_neg (by rw [hk]; decide)) (fun ty e ad => by rw [hk] at e; cases e; exact ⟨rfl, rfl⟩) hfin (kk _ (by rw [hk2]))
theorem zj_putz {c0 x k2 : Int} {ci k idx : Nat} (hd : zd cc pc (.putfield idx) 3 n) (hf : zF y.cls idx ci k) (hk : zfk ci k = 1) (hx1 : x = 0 ∨ x = 1) (hsc : sh c0 = .inl ci ∧ 0 ≤ c0 ∧ c0 < h.1) (hfin : zNF ci k ∨ (y.name = "<init>" ∧ zFO y.cls ci k)) (hk2 : (k : Int) = k2) (kk : ∀ h', h' = zwr h c0 k2 x → zJ sh l y cc nL ret R mc ms Q u1 u2 n L st h') : zJ sh l y cc nL ret R mc ms Q u1 u2 pc L (.inl x :: .inr c0 :: st) h :=
  zj_putf hd hf hsc.1 hsc.2 (fun ad => if_neg (by rw [hk]; decide)) (fun ty e ad => by rw [hk] at e; cases e; rcases hx1 with rfl | rfl <;> exact ⟨rfl, rfl⟩) hfin (kk _ (by rw [hk2]))
theorem zj_putr {c0 x k2 : Int} {ci k idx : Nat} (hd : zd cc pc (.putfield idx) 3 n) (hf : zF y.cls idx ci k) (hk : zfk ci k = 2) (hsc : sh c0 = .inl ci ∧ 0 ≤ c0 ∧ c0 < h.1) (hfin : zNF ci k ∨ (y.name = "<init>" ∧ zFO y.cls ci k)) (hk2 : (k : Int) = k2) (kk : ∀ h', h' = zwr h c0 k2 x → zJ sh l y cc nL ret R mc ms Q u1 u2 n L st h') : zJ sh l y cc nL ret R mc ms Q u1 u2 pc L (.inr x :: .inr c0 :: st) h :=
  zj_putf hd hf hsc.1 hsc.2 (fun ad => if_pos hk) (fun ty e ad => by
    rw [hk] at e
    refine e.2 _ ?_
    unfold zv
    dsimp only
    split
    · exact Or.inl rfl
    · exact Or.inr ⟨_, rfl⟩) hfin (kk _ (by rw [hk2]))
theorem zix {i : Int} {N : Nat} (h : 0 ≤ i ∧ i < N) (hN : N < 2147483648) : vp_in (Int32.ofInt i) N ∧ (Int32.ofInt i).toNatClampNeg = i.toNat := by
  have e : (Int32.ofInt i).toInt = i := zin_i (by omega)
  refine ⟨vp_in_iff.mpr (by rw [e]; omega), ?_⟩
  show (Int32.ofInt i).toInt.toNat = _
  rw [e]
theorem zup_eq {h : zM} {c i x : Int} (hi : 0 ≤ i) : upd (fun (j : Nat) => Int32.ofInt (h.2 c j)) i.toNat (Int32.ofInt x) = fun (j : Nat) => Int32.ofInt ((zwr h c i x).2 c j) := by
  funext j
  unfold upd
  by_cases hj : j = i.toNat
  · rw [if_pos hj, show (j : Int) = i by omega, zwr_s]
  · rw [if_neg hj, zwr_n (by omega)]
theorem zj_iald {c0 i : Int} {N : Nat} (hd : zd cc pc .iaload 1 n) (hsc : sh c0 = .inr (0, N) ∧ 0 ≤ c0 ∧ c0 < h.1) (hN : N < 2147483648) (hi : 0 ≤ i ∧ i < N) {v : Int} (hv : h.2 c0 i = v) (kk : zJ sh l y cc nL ret R mc ms Q u1 u2 n L (.inl v :: st) h) : zJ sh l y cc nL ret R mc ms Q u1 u2 pc L (.inl i :: .inr c0 :: st) h := by
  intro D g p e s m args below meth c A H locs ls X I Z
  have X0 := X
  obtain ⟨hx, hb, hml, hr, hown, hts, hlk, hK, hnm, hA, hZs⟩ := X0
  obtain ⟨hP, hD, hS, hg⟩ := id I
  obtain ⟨hs, hc⟩ := hsc
  obtain ⟨cn, rfl⟩ : ∃ cn : Nat, c0 = cn := ⟨c0.toNat, by omega⟩
  have hP1 := zw_at sh g h (c := cn) (by omega)
  rw [zc_ia hs] at hP1
  obtain ⟨z1, z2⟩ := zix hi hN
  rw [List.map_cons, List.map_cons, zv_ref _ (show ¬ (cn : Int) = -1 by omega)]
  refine va_iald hx hb hK hP cn 0 hP1 rfl z1 hd.1 ?_
  rw [z2]
  subst hv
  have K := kk D g p e s m args below meth c A H locs ls X I Z
  rw [← hd.2] at K
  have e9 : ((i.toNat : Nat) : Int) = i := by omega
  rw [e9]
  exact K
theorem zj_zald {c0 i : Int} {N : Nat} (hd : zd cc pc .baload 1 n) (hsc : sh c0 = .inr (1, N) ∧ 0 ≤ c0 ∧ c0 < h.1) (hN : N < 2147483648) (hi : 0 ≤ i ∧ i < N) {v : Int} (hv : h.2 c0 i = v) (kk : zJ sh l y cc nL ret R mc ms Q u1 u2 n L (.inl v :: st) h) : zJ sh l y cc nL ret R mc ms Q u1 u2 pc L (.inl i :: .inr c0 :: st) h := by
  intro D g p e s m args below meth c A H locs ls X I Z
  have X0 := X
  obtain ⟨hx, hb, hml, hr, hown, hts, hlk, hK, hnm, hA, hZs⟩ := X0
  obtain ⟨hP, hD, hS, hg⟩ := id I
  obtain ⟨hs, hc⟩ := hsc
  obtain ⟨cn, rfl⟩ : ∃ cn : Nat, c0 = cn := ⟨c0.toNat, by omega⟩
  have hP1 := zw_at sh g h (c := cn) (by omega)
  rw [zc_za hs] at hP1
  obtain ⟨z1, z2⟩ := zix hi hN
  rw [List.map_cons, List.map_cons, zv_ref _ (show ¬ (cn : Int) = -1 by omega)]
  refine va_zald hx hb hK hP cn 1 hP1 rfl z1 hd.1 ?_
  rw [z2]
  subst hv
  have K := kk D g p e s m args below meth c A H locs ls X I Z
  rw [← hd.2] at K
  have e9 : ((i.toNat : Nat) : Int) = i := by omega
  rw [e9]
  exact K
theorem zj_aald {c0 i r : Int} {N : Nat} (hd : zd cc pc .aaload 1 n) (hsc : sh c0 = .inr (2, N) ∧ 0 ≤ c0 ∧ c0 < h.1) (hN : N < 2147483648) (hi : 0 ≤ i ∧ i < N) (hv : h.2 c0 i = r) (kk : zJ sh l y cc nL ret R mc ms Q u1 u2 n L (.inr r :: st) h) : zJ sh l y cc nL ret R mc ms Q u1 u2 pc L (.inl i :: .inr c0 :: st) h := by
  intro D g p e s m args below meth c A H locs ls X I Z
  have X0 := X
  obtain ⟨hx, hb, hml, hr, hown, hts, hlk, hK, hnm, hA, hZs⟩ := X0
  obtain ⟨hP, hD, hS, hg⟩ := id I
  obtain ⟨hs, hc⟩ := hsc
  obtain ⟨cn, rfl⟩ : ∃ cn : Nat, c0 = cn := ⟨c0.toNat, by omega⟩
  have hP1 := zw_at sh g h (c := cn) (by omega)
  rw [zc_ra hs] at hP1
  obtain ⟨z1, z2⟩ := zix hi hN
  rw [List.map_cons, List.map_cons, zv_ref _ (show ¬ (cn : Int) = -1 by omega)]
  refine va_aldq hx hb hK hP cn 2 hP1 rfl z1 hd.1 ?_
  rw [z2]
  have K := kk D g p e s m args below meth c A H locs ls X I Z
  rw [← hd.2, List.map_cons, ← zo_rf, ← hv] at K
  have e9 : ((i.toNat : Nat) : Int) = i := by omega
  rw [e9]
  exact K
theorem zj_iast {c0 i x : Int} {N : Nat} (hd : zd cc pc .iastore 1 n) (hsc : sh c0 = .inr (0, N) ∧ 0 ≤ c0 ∧ c0 < h.1) (hN : N < 2147483648) (hi : 0 ≤ i ∧ i < N) (kk : ∀ h', h' = zwr h c0 i x → zJ sh l y cc nL ret R mc ms Q u1 u2 n L st h') : zJ sh l y cc nL ret R mc ms Q u1 u2 pc L (.inl x :: .inl i :: .inr c0 :: st) h := by
  intro D g p e s m args below meth c A H locs ls X I Z
  have X0 := X
  obtain ⟨hx, hb, hml, hr, hown, hts, hlk, hK, hnm, hA, hZs⟩ := X0
  obtain ⟨hP, hD, hS, hg⟩ := id I
  obtain ⟨hs, hc⟩ := hsc
  obtain ⟨cn, rfl⟩ : ∃ cn : Nat, c0 = cn := ⟨c0.toNat, by omega⟩
  have hP1 := zw_at sh g h (c := cn) (by omega)
  rw [zc_ia hs] at hP1
  obtain ⟨z1, z2⟩ := zix hi hN
  rw [List.map_cons, List.map_cons, List.map_cons, zv_ref _ (show ¬ (cn : Int) = -1 by omega)]
  refine z_iast hx hb hK hP hD hS cn 0 hP1 rfl z1 hd.1 (fun H1 locs1 hP2 hD2 hS2 hz => ?_)
  rw [z2, zup_eq hi.1] at hP2 hD2
  rw [zw_set (h := h) (h' := zwr h cn i x) (by omega) rfl (fun a b z => zwr_n (fun e => z e.1)) (zc_ia hs)] at hP2 hD2
  have K := kk _ rfl D g p e s m args below meth c A H1 locs1 ls X ⟨hP2, hD2, hS2, by rw [hz]; exact hg⟩ Z
  rw [← hd.2] at K
  exact K
theorem zj_zast {c0 i x : Int} {N : Nat} (hd : zd cc pc .bastore 1 n) (hsc : sh c0 = .inr (1, N) ∧ 0 ≤ c0 ∧ c0 < h.1) (hN : N < 2147483648) (hi : 0 ≤ i ∧ i < N) (hx1 : x = 0 ∨ x = 1) (kk : ∀ h', h' = zwr h c0 i x → zJ sh l y cc nL ret R mc ms Q u1 u2 n L st h') : zJ sh l y cc nL ret R mc ms Q u1 u2 pc L (.inl x :: .inl i :: .inr c0 :: st) h := by
  intro D g p e s m args below meth c A H locs ls X I Z
  have X0 := X
  obtain ⟨hx, hb, hml, hr, hown, hts, hlk, hK, hnm, hA, hZs⟩ := X0
  obtain ⟨hP, hD, hS, hg⟩ := id I
  obtain ⟨hs, hc⟩ := hsc
  obtain ⟨cn, rfl⟩ : ∃ cn : Nat, c0 = cn := ⟨c0.toNat, by omega⟩
  have hP1 := zw_at sh g h (c := cn) (by omega)
  rw [zc_za hs] at hP1
  obtain ⟨z1, z2⟩ := zix hi hN
  rw [List.map_cons, List.map_cons, List.map_cons, zv_ref _ (show ¬ (cn : Int) = -1 by omega)]
  have hnr : vp_nar .boolean (Int32.ofInt x) = Int32.ofInt x := by rcases hx1 with rfl | rfl <;> rfl
  refine z_zast hx hb hK hP hD hS cn 1 hP1 rfl z1 hd.1 (fun H1 locs1 hP2 hD2 hS2 hz => ?_)
  rw [z2, hnr, zup_eq hi.1] at hP2 hD2
  rw [zw_set (h := h) (h' := zwr h cn i x) (by omega) rfl (fun a b z => zwr_n (fun e => z e.1)) (zc_za hs)] at hP2 hD2
  have K := kk _ rfl D g p e s m args below meth c A H1 locs1 ls X ⟨hP2, hD2, hS2, by rw [hz]; exact hg⟩ Z
  rw [← hd.2] at K
  exact K
theorem zj_alen {c0 : Int} {k N : Nat} (hd : zd cc pc .arraylength 1 n) (hsc : sh c0 = .inr (k, N) ∧ 0 ≤ c0 ∧ c0 < h.1) (kk : zJ sh l y cc nL ret R mc ms Q u1 u2 n L (.inl N :: st) h) : zJ sh l y cc nL ret R mc ms Q u1 u2 pc L (.inr c0 :: st) h := by
  intro D g p e s m args below meth c A H locs ls X I Z
  have X0 := X
  obtain ⟨hx, hb, hml, hr, hown, hts, hlk, hK, hnm, hA, hZs⟩ := X0
  obtain ⟨hP, hD, hS, hg⟩ := id I
  obtain ⟨hs, hc⟩ := hsc
  obtain ⟨cn, rfl⟩ : ∃ cn : Nat, c0 = cn := ⟨c0.toNat, by omega⟩
  have hP1 := zw_at sh g h (c := cn) (by omega)
  rw [List.map_cons, zv_ref _ (show ¬ (cn : Int) = -1 by omega)]
  have K := kk D g p e s m args below meth c A H locs ls X I Z
  rw [← hd.2] at K
  match k, hs with
  | 0, hs =>
    rw [zc_ia hs] at hP1
    exact va_alen hx hb hK hP cn 0 hP1 rfl (v := Int32.ofInt N) Int32.ofInt_eq_ofNat.symm hd.1 K
  | 1, hs =>
    rw [zc_za hs] at hP1
    exact va_alen hx hb hK hP cn 1 hP1 rfl (v := Int32.ofInt N) Int32.ofInt_eq_ofNat.symm hd.1 K
  | j + 2, hs =>
    have e8 : zc sh g h (cn : Int) = .inl (g.2.2.2, N, .inr (.inr (.inr (.inr fun (j : Nat) => zo g.1 (h.2 cn j))))) := by unfold zc; rw [hs]
    rw [e8] at hP1
    exact va_alen hx hb hK hP cn 2 hP1 rfl (v := Int32.ofInt N) Int32.ofInt_eq_ofNat.symm hd.1 K
end ZJR
theorem z_fkA : ∀ l ∈ zfkL, ∀ x ∈ l, x = 0 ∨ x = 1 ∨ x = 2 := by decide +kernel
theorem z_fk (ci k : Nat) (h : ¬ zfk ci k = 2) : zfk ci k = 0 ∨ zfk ci k = 1 := by
  have key : ∀ (l : List Nat) (k : Nat), (∀ x ∈ l, x = 0 ∨ x = 1 ∨ x = 2) → ¬ l.getD k 0 = 2 → l.getD k 0 = 0 ∨ l.getD k 0 = 1 := by
    intro l k hl h
    rw [List.getD_eq_getElem?_getD] at h ⊢
    cases hk : l[k]? with
    | none => exact Or.inl rfl
    | some x =>
      rw [hk] at h
      rcases hl x (List.mem_of_getElem? hk) with e | e | e
      · exact Or.inl e
      · exact Or.inr e
      · exact absurd e h
  refine key _ k (fun x hx => ?_) h
  rw [List.getD_eq_getElem?_getD] at hx
  cases hl : zfkL[ci]? with
  | none => rw [hl] at hx; cases hx
  | some m => rw [hl] at hx; exact z_fkA m (List.mem_of_getElem? hl) x hx
theorem z_cat (ad : Int → Nat) (st : List zV) (hst : st.length ≤ 8) : ((st.map (zv ad)).map fun v => v.category).sum ≤ 8 := by
  have : ∀ st : List zV, ((st.map (zv ad)).map fun v => v.category).sum = st.length := by
    intro st
    induction st with
    | nil => rfl
    | cons v t ih => simp [zv_cat] at ih ⊢; omega
  rw [this]; exact hst
def znew (h : zM) (d : Int → Int) : zM := (h.1 + 1, fun a b => if a = h.1 then d b else h.2 a b)
theorem znew_n {h : zM} {d : Int → Int} {a b : Int} (e : ¬ a = h.1) : (znew h d).2 a b = h.2 a b := if_neg e
theorem znew_s {h : zM} {d : Int → Int} {b : Int} : (znew h d).2 h.1 b = d b := if_pos rfl
def zdf (ci : Nat) : Int → Int := fun k => if zfk ci k.toNat = 2 then -1 else 0
section ZNEW
variable {sh : zSh} {l : Launch} {y : MethodName} {cc : ByteArray} {nL : Nat} {ret : Option FieldType} {R : Room} {mc ms : Nat} {Q : Option zV → zM → Prop} {u1 u2 pc n : Nat} {L : List (Option zV)} {st : List zV} {h : zM}
theorem z_push {D : va_G} {g : zG} {A : Nat → Prop} {s : State} {H H1 : Heap} {locs : List Loc} {d : Int → Int} (hA : ∀ q, s.heap.size ≤ q → A q) (I : zI sh D g A s.heap h H locs) (z1 : H1.size = H.size + 1) (o1 : ∀ q, q < H.size → H1[q]? = H[q]?) (hx : va_at D vwCl (H.size, zc sh g (znew h d) (h.1 : Int)) H1) : zI sh D g A s.heap (znew h d) H1 locs := by
  obtain ⟨hP, hD, hS, hg⟩ := I
  have e0 : g.1 (h.1 : Int) = H.size := by have := hg h.1 (Nat.le_refl _); omega
  have ew : zw sh g h ++ [(H.size, zc sh g (znew h d) (h.1 : Int))] = zw sh g (znew h d) := zw_push rfl (fun a k z => znew_n z) e0 rfl
  have hk : ∀ (k : Nat) (x : Nat × va_E), (zw sh g h)[k]? = some x → H1[x.1]? = H[x.1]? := fun k x hx => o1 x.1 ((hP k x hx).lt)
  refine ⟨?_, ?_, ⟨Nat.le_trans hS.1 (by omega), fun x h1 h2 => (o1 x (Nat.lt_of_lt_of_le h1 hS.1)).trans (hS.2.1 x h1 h2), hS.2.2⟩, fun c hc => ?_⟩
  · rw [← ew]
    refine (hP.kept hk).app (fun k x hx1 => ?_)
    have hz : k < 1 := (List.getElem?_eq_some_iff.mp hx1).1
    rw [show k = 0 by omega] at hx1
    cases hx1
    exact hx
  · rw [← ew]
    exact hD.push hP rfl (hA _ hS.1)
  · have hc : h.1 + 1 ≤ c := hc
    have := hg c (by omega)
    show _ = H1.size + (c - (h.1 + 1))
    omega

theorem zj_new {ci idx : Nat} {C : String} {T : u_T} {ty : Nat → FieldType} (hd : zd cc pc (.new idx) 3 n) (hcl : zCl ci C T ty) (w1 : Cond.classLink y.cls idx C ∈ zt) (w2 : Cond.instantiable C (znf ci) ∈ zt) (w3 : Cond.initialized C ∈ zt) (hs : sh (h.1 : Int) = .inl ci) (hu : u1 + 1 ≤ R.cells ∧ u2 + znf ci ≤ R.slots) (kk : ∀ h', h' = znew h (zdf ci) → zJ sh l y cc nL ret R mc ms Q (u1 + 1) (u2 + znf ci) n L (.inr h.1 :: st) h') : zJ sh l y cc nL ret R mc ms Q u1 u2 pc L st h := by
  intro D g p e s m args below meth c A H locs ls X I Z
  have X0 := X
  obtain ⟨hx, hb, hml, hr, hown, hts, hlk, hK, hnm, hA, hZs⟩ := X0
  obtain ⟨hP, hD, hS, hg⟩ := id I
  obtain ⟨q1, q2, q3, q4, q5⟩ := hcl
  have hKn := hK.1 ci _ q1
  refine W.newcK hx hb hown (hts _ w1) (hts _ w2) (hts _ w3) rfl hd.1 hu.1 hu.2 hKn.2.1 rfl fun H1 kC hkC e1 z1 o1 => ?_
  have I1 : zI sh D g A s.heap (znew h (zdf ci)) H1 locs := by
    refine z_push hA I z1 o1 ?_
    rw [zc_obj hs]
    refine ⟨_, q1, (u_born ty hts q2 hKn hkC e1 q3).to (fun j hj => ?_)⟩
    have hj : j < znf ci := hj
    show defaultValue (ty j) = vp_V _ j
    unfold vp_V
    rw [List.getD_eq_getElem?_getD, zfs_at hj, znew_s]
    have h5 := q5 j hj
    show _ = zfv g.1 ci j (if zfk ci (j : Int).toNat = 2 then -1 else 0)
    rw [Int.toNat_natCast]
    unfold zfv
    by_cases hk2 : zfk ci j = 2
    · rw [if_pos hk2, if_pos hk2]
      rw [hk2] at h5
      exact h5.1
    · rw [if_neg hk2, if_neg hk2]
      have h6 : zfk ci j = 0 ∨ zfk ci j = 1 := z_fk ci j hk2
      rcases h6 with h6 | h6
      · rw [h6] at h5
        have h5 : ty j = .int := h5
        rw [h5]
        rfl
      · rw [h6] at h5
        have h5 : ty j = .boolean := h5
        rw [h5]
        rfl
  have e0 : g.1 (h.1 : Int) = H.size := by have := hg h.1 (Nat.le_refl _); omega
  have K := kk _ rfl D g p e s m args below meth c A H1 locs ls X I1 Z
  rw [← hd.2, List.map_cons, zv_ref _ (by omega), e0] at K
  exact K
theorem zj_newi {N : Nat} {a : Int} (hd : zd cc pc (.newarray .int) 2 n) (w1 : Cond.arrayClass .int ∈ zt) (ha : a = N) (hN : N ≤ 1000000) (hs : sh (h.1 : Int) = .inr (0, N)) (hu : u1 + 1 ≤ R.cells ∧ u2 + N ≤ R.slots) (kk : ∀ h', h' = znew h (fun _ => 0) → zJ sh l y cc nL ret R mc ms Q (u1 + 1) (u2 + N) n L (.inr h.1 :: st) h') : zJ sh l y cc nL ret R mc ms Q u1 u2 pc L (.inl a :: st) h := by
  intro D g p e s m args below meth c A H locs ls X I Z
  have X0 := X
  obtain ⟨hx, hb, hml, hr, hown, hts, hlk, hK, hnm, hA, hZs⟩ := X0
  obtain ⟨hP, hD, hS, hg⟩ := id I
  subst ha
  have hnn : (Int32.ofInt (N : Int)).toInt = N := zin_i (by omega)
  refine va_newaK (N := N) hx hb (atype := .int) (hts _ w1) rfl hd.1 rfl (fun q => by rw [Int32.lt_iff_toInt_lt, hnn] at q; simp at q; omega) (by show (Int32.ofInt (N : Int)).toInt.toNat = N; rw [hnn]; rfl) (by show N * 4 ≤ _; omega) hu.1 hu.2 rfl fun H1 cA e1 z1 o1 hof hfc => ?_
  have hcA : cA = g.2.1 := by
    have h1 := (hK.2 0 _ rfl).2
    have h1 : s.vm.findClass ("[" ++ FieldType.int.toString) = some g.2.1 := h1
    exact Option.some.inj (hfc.symm.trans h1)
  subst hcA
  have I1 : zI sh D g A s.heap (znew h (fun _ => 0)) H1 locs := by
    refine z_push hA I z1 o1 ?_
    rw [zc_ia hs]
    show H1[H.size]? = some (vp_cell _ _)
    rw [e1, vp_cell_i]
    congr 2
    funext j
    rw [znew_s]
    rfl
  have e0 : g.1 (h.1 : Int) = H.size := by have := hg h.1 (Nat.le_refl _); omega
  have K := kk _ rfl D g p e s m args below meth c A H1 locs ls X I1 Z
  rw [← hd.2, List.map_cons, zv_ref _ (by omega), e0] at K
  exact K
theorem zj_newz {N : Nat} {a : Int} (hd : zd cc pc (.newarray .boolean) 2 n) (w1 : Cond.arrayClass .boolean ∈ zt) (ha : a = N) (hN : N ≤ 1000000) (hs : sh (h.1 : Int) = .inr (1, N)) (hu : u1 + 1 ≤ R.cells ∧ u2 + N ≤ R.slots) (kk : ∀ h', h' = znew h (fun _ => 0) → zJ sh l y cc nL ret R mc ms Q (u1 + 1) (u2 + N) n L (.inr h.1 :: st) h') : zJ sh l y cc nL ret R mc ms Q u1 u2 pc L (.inl a :: st) h := by
  intro D g p e s m args below meth c A H locs ls X I Z
  have X0 := X
  obtain ⟨hx, hb, hml, hr, hown, hts, hlk, hK, hnm, hA, hZs⟩ := X0
  obtain ⟨hP, hD, hS, hg⟩ := id I
  subst ha
  have hnn : (Int32.ofInt (N : Int)).toInt = N := zin_i (by omega)
  refine va_newaK (N := N) hx hb (atype := .boolean) (hts _ w1) rfl hd.1 rfl (fun q => by rw [Int32.lt_iff_toInt_lt, hnn] at q; simp at q; omega) (by show (Int32.ofInt (N : Int)).toInt.toNat = N; rw [hnn]; rfl) (by show N * 1 ≤ _; omega) hu.1 hu.2 rfl fun H1 cA e1 z1 o1 hof hfc => ?_
  have hcA : cA = g.2.2.1 := by
    have h1 := (hK.2 1 _ rfl).2
    have h1 : s.vm.findClass ("[" ++ FieldType.boolean.toString) = some g.2.2.1 := h1
    exact Option.some.inj (hfc.symm.trans h1)
  subst hcA
  have I1 : zI sh D g A s.heap (znew h (fun _ => 0)) H1 locs := by
    refine z_push hA I z1 o1 ?_
    rw [zc_za hs]
    show H1[H.size]? = some (vp_cell _ _)
    rw [e1, vp_cell_i]
    congr 2
    funext j
    rw [znew_s]
    rfl
  have e0 : g.1 (h.1 : Int) = H.size := by have := hg h.1 (Nat.le_refl _); omega
  have K := kk _ rfl D g p e s m args below meth c A H1 locs ls X I1 Z
  rw [← hd.2, List.map_cons, zv_ref _ (by omega), e0] at K
  exact K
theorem zj_anew {N idx : Nat} {a : Int} (hd : zd cc pc (.anewarray idx) 3 n) (w1 : Cond.classLink y.cls idx RX1 ∈ zt) (ha : a = N) (hN : N ≤ 1000000) (hs : sh (h.1 : Int) = .inr (2, N)) (hu : u1 + 1 ≤ R.cells ∧ u2 + N ≤ R.slots) (kk : ∀ h', h' = znew h (fun _ => -1) → zJ sh l y cc nL ret R mc ms Q (u1 + 1) (u2 + N) n L (.inr h.1 :: st) h') : zJ sh l y cc nL ret R mc ms Q u1 u2 pc L (.inl a :: st) h := by
  intro D g p e s m args below meth c A H locs ls X I Z
  have X0 := X
  obtain ⟨hx, hb, hml, hr, hown, hts, hlk, hK, hnm, hA, hZs⟩ := X0
  obtain ⟨hP, hD, hS, hg⟩ := id I
  subst ha
  have hnn : (Int32.ofInt (N : Int)).toInt = N := zin_i (by omega)
  have hcl : (Int32.ofInt (N : Int)).toNatClampNeg = N := by show (Int32.ofInt (N : Int)).toInt.toNat = N; rw [hnn]; rfl
  refine W.anew hx hb hown (hts _ w1) (va_AO.use hZs.2.2.2.2.1) rfl hd.1 rfl (fun q => by rw [Int32.lt_iff_toInt_lt, hnn] at q; simp at q; omega) (by rw [hcl]; omega) hu.1 (by rw [hcl]; exact hu.2) fun cA kA comp f1 f2 f3 f4 => ?_
  rw [hcl]
  have hcA : cA = g.2.2.2 := by
    obtain ⟨kA', comp', -, -, -, h1⟩ := (hK.2 2 _ rfl).2
    exact Option.some.inj (f1.symm.trans h1)
  subst hcA
  have I1 : zI sh D g A s.heap (znew h (fun _ => -1)) (H.push { cls := g.2.2.2, slots := Array.replicate N .null, vm := .none }) locs := by
    refine z_push hA I (by simp) (fun q hq => by simp [Array.getElem?_push, Nat.ne_of_lt hq]) ?_
    rw [zc_ra hs]
    show (Array.push H _)[H.size]? = some (vp_cell _ _)
    have e2 : (fun (j : Nat) => zo g.1 ((znew h (fun _ => -1)).2 (h.1 : Int) j)) = fun _ => none := by funext j; rw [znew_s]; rfl
    rw [e2]
    simp [vp_cell, arrV]
    first | done | (apply Array.ext <;> simp [va_rf]) | (congr 1; apply Array.ext <;> simp [va_rf])
  have e0 : g.1 (h.1 : Int) = H.size := by have := hg h.1 (Nat.le_refl _); omega
  have K := kk _ rfl D g p e s m args below meth c A _ locs ls X I1 Z
  rw [← hd.2, List.map_cons, zv_ref _ (by omega), e0] at K
  exact K
theorem zj_oinit {idx : Nat} {c0 : Int} (hd : zd cc pc (.invokespecial idx) 3 n) (w1 : Cond.methodLink y.cls idx objectInit ∈ zt) (w2 : Cond.instanceMethod objectInit ∈ zt) (w3 : Cond.code objectInit ⟨#[0xb1]⟩ 1 none ∈ zt) (hc : ¬ c0 = -1) (hst : st.length ≤ 8) (hR : 1 ≤ R.frames ∧ 20 ≤ R.locals) (kk : zJ sh l y cc nL ret R mc ms Q u1 u2 n L st h) : zJ sh l y cc nL ret R mc ms Q u1 u2 pc L (.inr c0 :: st) h := by
  intro D g p e s m args below meth c A H locs ls X I Z
  have X0 := X
  obtain ⟨hx, hb, hml, hr, hown, hts, hlk, hK, hnm, hA, hZs⟩ := X0
  obtain ⟨hP, hD, hS, hg⟩ := id I
  rw [List.map_cons, zv_ref _ hc]
  refine W.objInit hx hb hown (hts _ w1) (hts _ w2) (hts _ w3) rfl (by rw [hml]; exact Z.2.1) rfl hd.1 hR.1 (by have := z_cat g.1 st hst; have h9 := lv_room (m := m) (pc := pc) (ls := ls) (rest := .ref (g.1 c0) :: st.map (zv g.1)) this; omega) ?_
  have K := kk D g p e s m args below meth c A H locs ls X I Z
  rw [← hd.2] at K
  exact K
end ZNEW
theorem zStr.moved {g : zG} {A B : Nat → Prop} {s U : State} {H : Heap} {locs : List Loc} (h : zStr g A s) (hU : U.heap = H) (hW : s.WarmedH U.vm) (hS : va_S A s.heap H locs) (hAB : ∀ q, B q → A q) : zStr g B U := by
  subst hU
  exact ⟨((h.1.kept hS.2.1).narrow hAB).moved hW.alike, ((h.2.1.kept hS.2.1).narrow hAB).moved hW.alike, fun q hq => (h.2.2.1 q hq).warm hW, fun q hq => (h.2.2.2.1 q hq).warmM hW, h.2.2.2.2.1.moved hW.alike, h.2.2.2.2.2.imp (fun z => ((z.kept hS.2.1).narrow hAB).moved hW.alike) (fun z => ((z.kept hS.2.1).narrow hAB).moved hW.alike)⟩
theorem zStr.calling {g : zG} {A : Nat → Prop} {U : State} (h : zStr g A U) (f : JFrame) (mk : MethodId) (a : Array Value) : zStr g A (U.calling f mk a) :=
  ⟨vk_S.moved (u := U) (U := U.calling f mk a) (Vm.Alike.refl U.vm) h.1, va_Z.moved (u := U) (U := U.calling f mk a) (Vm.Alike.refl U.vm) h.2.1, fun q hq => vk_R.same (u := U) (U := U.calling f mk a) rfl (h.2.2.1 q hq), fun q hq => va_Nw.same (u := U) (U := U.calling f mk a) rfl rfl (h.2.2.2.1 q hq), va_AO.moved (u := U) (U := U.calling f mk a) (Vm.Alike.refl U.vm) h.2.2.2.2.1, h.2.2.2.2.2.imp (fun z => va_Z.moved (u := U) (U := U.calling f mk a) (Vm.Alike.refl U.vm) z) (fun z => va_Z.moved (u := U) (U := U.calling f mk a) (Vm.Alike.refl U.vm) z)⟩
section ZCALL
variable {sh : zSh} {l : Launch} {y : MethodName} {cc : ByteArray} {nL : Nat} {ret : Option FieldType} {R : Room} {mc ms : Nat} {Q : Option zV → zM → Prop} {u1 u2 pc n : Nat} {L : List (Option zV)} {st : List zV} {h : zM}
def zPc (sh : zSh) (D : va_G) (g : zG) (sz : Nat) (av : List zV) (h : zM) : Array Value → State → Prop := fun v U => v = (av.map (zv g.1)).toArray ∧ U.heap.size = sz ∧ va_P D vwCl (zw sh g h) U.heap ∧ va_D (fun _ => True) (zw sh g h) ∧ (∀ c : Nat, h.1 ≤ c → g.1 (c : Int) = sz + (c - h.1)) ∧ va_K D vwCl (ztys g) U ∧ zStr g (va_A (zw sh g h) sz) U
theorem zPc_blind (sh : zSh) (D : va_G) (g : zG) (sz : Nat) (av : List zV) (h : zM) : FrameBlind (zPc sh D g sz av h) := by
  intro a U f mk q
  obtain ⟨q0, q1, qP, qD, qg, qK, qZ⟩ := q
  exact ⟨q0, q1, qP, qD, qg, va_K.moved (u := U) (U := U.calling f mk a) (Vm.Alike.refl U.vm) qK, qZ.calling f mk a⟩
theorem zA_sub {D : va_G} {g : zG} {A : Nat → Prop} {s : State} {H : Heap} {locs : List Loc} (hA : ∀ q, s.heap.size ≤ q → A q) (I : zI sh D g A s.heap h H locs) : ∀ q, va_A (zw sh g h) H.size q → A q := by
  intro q hq
  rcases hq with ⟨k, e, hk⟩ | hq
  · exact I.2.1.2 k (q, e) hk
  · exact hA q (Nat.le_trans I.2.2.1.1 hq)
theorem zPc_at {D : va_G} {g : zG} {p : Program} {s : State} {m : MethodId} {args : Array Value} {meth : Method} {c : Code} {A : Nat → Prop} {H : Heap} {locs : List Loc} (X : zX y cc nL ret D g p s m args meth c A) (I : zI sh D g A s.heap h H locs) (av : List zV) (U : State) (hU : U.heap = H) (hW : s.WarmedH U.vm) : zPc sh D g H.size av h (av.map (zv g.1)).toArray U := by
  obtain ⟨hx, hb, hml, hr, hown, hts, hlk, hK, hnm, hA, hZs⟩ := X
  have hsub := zA_sub hA I
  obtain ⟨hP, hD, hS, hg⟩ := I
  exact ⟨rfl, by rw [hU], by rw [hU]; exact hP, zD_weak hD (fun _ _ => trivial), hg, va_K.moved hW.alike hK, hZs.moved hU hW hS hsub⟩
theorem z_back {D : va_G} {g : zG} {p : Program} {e : Env} {s : State} {m : MethodId} {args : Array Value} {below : List Frame} {meth : Method} {c : Code} {A : Nat → Prop} {H : Heap} {locs : List Loc} {ls : Array Slot} {st0 rest : List Value} {mc' ms' : Nat} {Q' : Option zV → zM → Prop} {a : Array Value} {Qf : State → Prop} (X : zX y cc nL ret D g p s m args meth c A) (I : zI sh D g A s.heap h H locs)
    (hr : va_Run p l e R s m args below meth c H locs u1 u2 mc' ms' (F0 m pc ls st0) rest (zQ sh D g (va_A (zw sh g h) H.size) Q' a) (va_A (zw sh g h) H.size))
    (kk : ∀ (r : Option zV) (h' : zM), Q' r h' → ∀ (H1 : Heap) (locs1 : List Loc), zI sh D g A s.heap h' H1 locs1 → W p l e R s m args below meth c H1 locs1 (u1 + mc') (u2 + ms') Qf (F0 m (pc + 3) ls ((r.map (zv g.1)).toList ++ rest))) : W p l e R s m args below meth c H locs u1 u2 Qf (F0 m pc ls st0) := by
  obtain ⟨hx, hb, hml, hr2, hown, hts, hlk, hK, hnm, hA, hZs⟩ := X
  have hsub := zA_sub hA I
  obtain ⟨hP, hD, hS, hg⟩ := I
  intro T hT XX
  obtain ⟨v, st₀, t, T', L, h0, X', hL, e1, e2, ⟨⟨r, h', hv, hQ, hP1, hD1, hg1⟩, hz, hk⟩, go⟩ := hr T hT XX
  cases hv
  rw [h0] at hz hk
  obtain ⟨t2, a1, b1⟩ := kk r h' hQ T'.heap (locs ++ L) ⟨by rw [e1]; exact hP1, zD_weak hD1 hsub, ⟨Nat.le_trans hS.1 (by rw [e1]; exact hz), fun q h1 h2 => by rw [e1, hk q (Nat.lt_of_lt_of_le h1 hS.1) (fun z => h2 (hsub q z))]; exact hS.2.1 q h1 h2, fun q hq => by
      rcases List.mem_append.mp hq with h | h
      · exact hS.2.2 q h
      · exact hsub _ (hL q h)⟩, by rw [e1]; exact hg1⟩ T' rfl X'
  exact ⟨t2, go t2 a1, b1⟩
/-- what a method's own words say, for every road to it -/
def zMb (y' : MethodName) (cc' : ByteArray) (nL' : Nat) (ret' : Option FieldType) (np : Nat) : Prop := Cond.code y' cc' nL' ret' ∈ zt ∧ Cond.initialized y'.cls ∈ zt ∧ (y'.cls ≠ "java/lang/invoke/MethodHandle" ∧ y'.cls ≠ "java/lang/invoke/VarHandle" ∧ (parseMethodDescriptor y'.desc).map (fun d => d.parameters.length) = some np)
def zMV (own : String) (idx : Nat) (C : String) (y' : MethodName) : Prop := Cond.methodLink own idx y' ∈ zt ∧ Cond.instanceMethod y' ∈ zt ∧ Cond.selects C y' y' ∈ zt
def zMS (own : String) (idx : Nat) (y' : MethodName) : Prop := Cond.static y' ∈ zt ∧ (Cond.methodLink own idx y' ∈ zt ∨ ∃ host, (own, idx, y', host) ∈ znl)
def zMI (own : String) (idx : Nat) (y' : MethodName) : Prop := Cond.instanceMethod y' ∈ zt ∧ y'.name = "<init>" ∧ (Cond.methodLink own idx y' ∈ zt ∨ ∃ host, (own, idx, y', host) ∈ znl)
def zRm (R rm' : Room) (nL' u1 u2 mc' ms' : Nat) : Prop := rm'.cells = mc' ∧ rm'.slots = ms' ∧ (rm'.frames + 1 ≤ R.frames ∧ 8 + (nL' + 11) + rm'.locals ≤ R.locals) ∧ (u1 + mc' ≤ R.cells ∧ u2 + ms' ≤ R.slots)
theorem z_toList (ad : Int → Nat) (r : Option zV) (st : List zV) : (r.map (zv ad)).toList ++ st.map (zv ad) = (r.toList ++ st).map (zv ad) := by cases r <;> rfl

theorem zj_callV {c0 : Int} {ci idx : Nat} {q : vw_C} {y' : MethodName} {cc' : ByteArray} {nL' : Nat} {ret' : Option FieldType} {rm' : Room} {mc' ms' np : Nat} {Q' : Option zV → zM → Prop} {av st0 : List zV} (hd : zd cc pc (.invokevirtual idx) 3 n) (hb1 : zMb y' cc' nL' ret' np) (hm : zMV y.cls idx y'.cls y') (hcl : vwCl[ci]? = some q) (hcn : q.1 = y'.cls) (hsc : sh c0 = .inl ci ∧ 0 ≤ c0 ∧ c0 < h.1) (hst : st0 = av.reverse ++ .inr c0 :: st) (hlen : av.length = np) (hrest : st.length ≤ 8) (hT : zT sh l y' cc' nL' ret' rm' mc' ms' (.inr c0 :: av) h Q') (hrm : zRm R rm' nL' u1 u2 mc' ms') (kk : ∀ r h', Q' r h' → zJ sh l y cc nL ret R mc ms Q (u1 + mc') (u2 + ms') n L (r.toList ++ st) h') : zJ sh l y cc nL ret R mc ms Q u1 u2 pc L st0 h := by
  intro D g p e s m args below meth c A H locs ls X I Z
  have X0 := X
  obtain ⟨hx, hb, hml, hr, hown, hts, hlk, hK, hnm, hA, hZs⟩ := X0
  obtain ⟨hP, hD, hS, hg⟩ := id I
  subst hst
  obtain ⟨cn, rfl⟩ : ∃ cn : Nat, c0 = cn := ⟨c0.toNat, by omega⟩
  have hP1 := zw_at sh g h (c := cn) (by omega)
  rw [zc_obj hsc.1] at hP1
  have hrun : va_Run p l e R s m args below meth c H locs u1 u2 mc' ms' (F0 m pc ls ((av.map (zv g.1)).reverse ++ .ref (g.1 cn) :: st.map (zv g.1))) (st.map (zv g.1)) (zQ sh D g (va_A (zw sh g h) H.size) Q' (Value.ref (g.1 cn) :: av.map (zv g.1)).toArray) (va_A (zw sh g h) H.size) := by
    refine va_runV (C := y'.cls) ⟨hx, hb, hml, hown, hts⟩ (hT D g H.size) ⟨callB_of np hts (zws_good hb1.1) rfl hrm.1 hrm.2.1 (hts _ hb1.2.1) (hts _ hm.1) hb1.2.2 hrm.2.2.1, hts _ hm.2.1, hts _ hm.2.2⟩ ⟨zPc_blind sh D g H.size _ h, ?_, fun U hU hW => ?_⟩ rfl (by rw [List.length_map]; exact hlen) (by rw [← hml]; exact (Z.2.1).trans hml.symm) rfl (lv_room (z_cat g.1 st hrest)) hd.1 hrm.2.2.2
    · have := va_recv hK hP hcl hP1
      rw [hcn] at this
      exact this
    · have := zPc_at X I (.inr (cn : Int) :: av) U hU hW
      rw [List.map_cons, zv_ref _ (show ¬ (cn : Int) = -1 by omega)] at this
      exact this
  rw [List.map_append, List.map_reverse, List.map_cons, zv_ref _ (show ¬ (cn : Int) = -1 by omega)]
  refine z_back X I hrun (fun r h' hq H1 locs1 I1 => ?_)
  have K := kk r h' hq D g p e s m args below meth c A H1 locs1 ls X I1 Z
  rw [← hd.2] at K
  rw [z_toList]
  exact K
theorem zj_callS {idx : Nat} {y' : MethodName} {cc' : ByteArray} {nL' : Nat} {ret' : Option FieldType} {rm' : Room} {mc' ms' np : Nat} {Q' : Option zV → zM → Prop} {av st0 : List zV} (hd : zd cc pc (.invokestatic idx) 3 n) (hb1 : zMb y' cc' nL' ret' np) (hm : zMS y.cls idx y') (hst : st0 = av.reverse ++ st) (hlen : av.length = np) (hrest : st.length ≤ 8) (hT : zT sh l y' cc' nL' ret' rm' mc' ms' av h Q') (hrm : zRm R rm' nL' u1 u2 mc' ms') (kk : ∀ r h', Q' r h' → zJ sh l y cc nL ret R mc ms Q (u1 + mc') (u2 + ms') n L (r.toList ++ st) h') : zJ sh l y cc nL ret R mc ms Q u1 u2 pc L st0 h := by
  intro D g p e s m args below meth c A H locs ls X I Z
  have X0 := X
  obtain ⟨hx, hb, hml, hr, hown, hts, hlk, hK, hnm, hA, hZs⟩ := X0
  obtain ⟨hP, hD, hS, hg⟩ := id I
  subst hst
  have hrun : va_Run p l e R s m args below meth c H locs u1 u2 mc' ms' (F0 m pc ls ((av.map (zv g.1)).reverse ++ st.map (zv g.1))) (st.map (zv g.1)) (zQ sh D g (va_A (zw sh g h) H.size) Q' (av.map (zv g.1)).toArray) (va_A (zw sh g h) H.size) := by
    rcases hm.2 with hm2 | ⟨host, hm2⟩
    · exact va_runS ⟨hx, hb, hml, hown, hts⟩ (hT D g H.size) ⟨callB_of np hts (zws_good hb1.1) rfl hrm.1 hrm.2.1 (hts _ hb1.2.1) (hts _ hm2) hb1.2.2 hrm.2.2.1, hts _ hm.1⟩ ⟨zPc_blind sh D g H.size _ h, fun U hU hW => zPc_at X I av U hU hW⟩ rfl (by rw [List.length_map]; exact hlen) (by rw [← hml]; exact (Z.2.1).trans hml.symm) rfl (lv_room (z_cat g.1 st hrest)) hd.1 hrm.2.2.2
    · exact va_runSN ⟨hx, hb, hml, hown, hts⟩ (hT D g H.size) ⟨va_cnB np hts (zws_good hb1.1) rfl hrm.1 hrm.2.1 (hZs.2.2.2.1 _ hm2) (hts _ hb1.2.1) hb1.2.2 hrm.2.2.1, hts _ hm.1, trivial⟩ ⟨zPc_blind sh D g H.size _ h, fun U hU hW => zPc_at X I av U hU hW⟩ rfl (by rw [List.length_map]; exact hlen) (by rw [← hml]; exact (Z.2.1).trans hml.symm) rfl (lv_room (z_cat g.1 st hrest)) hd.1 hrm.2.2.2
  rw [List.map_append, List.map_reverse]
  refine z_back X I hrun (fun r h' hq H1 locs1 I1 => ?_)
  have K := kk r h' hq D g p e s m args below meth c A H1 locs1 ls X I1 Z
  rw [← hd.2] at K
  rw [z_toList]
  exact K
theorem zj_callI {c0 : Int} {idx : Nat} {y' : MethodName} {cc' : ByteArray} {nL' : Nat} {ret' : Option FieldType} {rm' : Room} {mc' ms' np : Nat} {Q' : Option zV → zM → Prop} {av st0 : List zV} (hd : zd cc pc (.invokespecial idx) 3 n) (hb1 : zMb y' cc' nL' none np) (hm : zMI y.cls idx y') (hc : ¬ c0 = -1) (hst : st0 = av.reverse ++ .inr c0 :: st) (hlen : av.length = np) (hrest : st.length ≤ 8) (hT : zT sh l y' cc' nL' none rm' mc' ms' (.inr c0 :: av) h Q') (hrm : zRm R rm' nL' u1 u2 mc' ms') (kk : ∀ r h', Q' r h' → zJ sh l y cc nL ret R mc ms Q (u1 + mc') (u2 + ms') n L (r.toList ++ st) h') : zJ sh l y cc nL ret R mc ms Q u1 u2 pc L st0 h := by
  intro D g p e s m args below meth c A H locs ls X I Z
  have X0 := X
  obtain ⟨hx, hb, hml, hr, hown, hts, hlk, hK, hnm, hA, hZs⟩ := X0
  obtain ⟨hP, hD, hS, hg⟩ := id I
  subst hst
  have hpre : PreS s H (zPc sh D g H.size (.inr c0 :: av) h) (.ref (g.1 c0) :: av.map (zv g.1)) := ⟨zPc_blind sh D g H.size _ h, fun U hU hW => by
    have := zPc_at X I (.inr c0 :: av) U hU hW
    rw [List.map_cons, zv_ref _ hc] at this
    exact this⟩
  have hrun : va_Run p l e R s m args below meth c H locs u1 u2 mc' ms' (F0 m pc ls ((av.map (zv g.1)).reverse ++ .ref (g.1 c0) :: st.map (zv g.1))) (st.map (zv g.1)) (zQ sh D g (va_A (zw sh g h) H.size) Q' (Value.ref (g.1 c0) :: av.map (zv g.1)).toArray) (va_A (zw sh g h) H.size) := by
    rcases hm.2.2 with hm2 | ⟨host, hm2⟩
    · exact va_runI ⟨hx, hb, hml, hown, hts⟩ (hT D g H.size) ⟨callB_of np hts (zws_good hb1.1) rfl hrm.1 hrm.2.1 (hts _ hb1.2.1) (hts _ hm2) hb1.2.2 hrm.2.2.1, hm.2.1, hts _ hm.1⟩ hpre rfl (by rw [List.length_map]; exact hlen) (by rw [← hml]; exact (Z.2.1).trans hml.symm) rfl (lv_room (z_cat g.1 st hrest)) hd.1 hrm.2.2.2
    · exact va_runIN ⟨hx, hb, hml, hown, hts⟩ (hT D g H.size) ⟨va_cnB np hts (zws_good hb1.1) rfl hrm.1 hrm.2.1 (hZs.2.2.2.1 _ hm2) (hts _ hb1.2.1) hb1.2.2 hrm.2.2.1, hm.2.1, hts _ hm.1⟩ hpre rfl (by rw [List.length_map]; exact hlen) (by rw [← hml]; exact (Z.2.1).trans hml.symm) rfl (lv_room (z_cat g.1 st hrest)) hd.1 hrm.2.2.2
  rw [List.map_append, List.map_reverse, List.map_cons, zv_ref _ hc]
  refine z_back X I hrun (fun r h' hq H1 locs1 I1 => ?_)
  have K := kk r h' hq D g p e s m args below meth c A H1 locs1 ls X I1 Z
  rw [← hd.2] at K
  rw [z_toList]
  exact K
def zqi (P : Int → zM → Prop) : Option zV → zM → Prop := fun r h' => ∃ v, r = some (.inl v) ∧ P v h'
def zqv (P : zM → Prop) : Option zV → zM → Prop := fun r h' => r = none ∧ P h'
theorem zq_i {P : Int → zM → Prop} (kk : ∀ v h', P v h' → zJ sh l y cc nL ret R mc ms Q u1 u2 n L (.inl v :: st) h') : ∀ r h', zqi P r h' → zJ sh l y cc nL ret R mc ms Q u1 u2 n L (r.toList ++ st) h' := by
  rintro _ h' ⟨v, rfl, hp⟩
  exact kk v h' hp
theorem zq_v {P : zM → Prop} (kk : ∀ h', P h' → zJ sh l y cc nL ret R mc ms Q u1 u2 n L st h') : ∀ r h', zqv P r h' → zJ sh l y cc nL ret R mc ms Q u1 u2 n L (r.toList ++ st) h' := by
  rintro _ h' ⟨rfl, hp⟩
  exact kk h' hp
end ZCALL

