
set_option maxHeartbeats 4000000 in
set_option maxRecDepth 100000 in
/-- from the entry, for every script of at most 3072 ints, the law comes to its end with true ('hflags': the launch's flags, for a law that throws: no stack traces) -/
theorem whole_start {p : Program} {e : Env} {s : State} {m : MethodId} {below : List Frame} {meth : Method} {c : Code} (l : Launch) (hflags : l.flags = flags0) {b L : Nat} {xs : Nat → Int32} (hL : L ≤ 3072) (C0 : lw_At p s m meth c b L xs) : W p l e room_1 s m #[Value.ref b] below meth c s.heap [] 0 0 (lw_Z below #[Value.ref b] s) (entryFrame m ([Value.ref b] : List Value).toArray 4) := by
  obtain ⟨hx, hb, hr, hml, hown, hts, hX, hbl, hlocks, hgv⟩ := id C0
  obtain ⟨D, gb, hF, hgb⟩ := z_fx C0
  have hl := lv_entry ([.ref b]) (n := 4) (Nat.le_of_ble_eq_true rfl)
  rw [lg_entry_eq]
  generalize (lg_sl ([.ref b]) ++ List.replicate (4 - (lg_sl ([.ref b])).length) Slot.unset).toArray = ls at hl ⊢
  have hl : lv_has ls 4 [(0, .ref b)] := hl
  have hS0 : va_S (zA s) s.heap s.heap [] := va_S.rf
  -- the class
  have I0 : zI shC D (gb s.heap.size) (zA s) s.heap (0, fun _ _ => 0) s.heap [] := ⟨fun k q h => by simp [zw] at h, ⟨fun i j p q h => by simp [zw] at h, fun k q h => by simp [zw] at h⟩, hS0, fun k _ => hgb s.heap.size k⟩
  refine z2_new C0 (hF _) I0 (zdk ttL_0 0 rfl rfl).1 zcl10 wk_RL_7 wi_10 wz_10 (by decide +kernel) ⟨Nat.le_of_ble_eq_true rfl, Nat.le_of_ble_eq_true rfl⟩ (fun H1 I1 z1 o1 => ?_)
  refine lv_dup hx hb (zdk ttL_0 1 rfl rfl).1 rfl ?_
  obtain ⟨P1, D1, S1, G1⟩ := id I1
  have g0 : (gb s.heap.size).1 0 = s.heap.size := hgb s.heap.size 0
  rw [← g0]
  refine z2_init (sh1 := shC) (sh2 := shM) (g2 := gb 0) (h2 := (0, fun _ _ => 0)) (av := []) (rest := [.ref ((gb s.heap.size).1 0)]) C0 (hF _) ⟨P1, D1⟩ ⟨fun k q h => by simp [zw] at h, ⟨fun i j p q h => by simp [zw] at h, fun k q h => by simp [zw] at h⟩⟩ (fun i j x y _ h => by simp [zw] at h) S1 G1 hl.1 (zdk ttL_0 2 rfl rfl).1 mb_X10_init ⟨mi_RL_9.1, rfl, (zt_a1 24 rfl rfl)⟩ (ci := 10) rfl rfl ⟨by decide +kernel, Nat.zero_lt_succ _⟩ rfl (Nat.le_of_ble_eq_true rfl) (s_X10_init l _ rfl (fun k => zdf_b 10 k)) ⟨rfl, rfl, ⟨Nat.le_of_ble_eq_true rfl, Nat.le_of_ble_eq_true rfl⟩, Nat.le_of_ble_eq_true rfl, Nat.le_of_ble_eq_true rfl⟩ ?_
  rintro _ hc1 ⟨rfl, rc⟩ H2 locs2 V1 _ _ S2 _ G2
  have sC := okC_start rc
  have hn1 : hc1.1 = 140 := by have := rc.1; omega
  -- the class's memory, made good
  have WC : zW1 shC D s (gb s.heap.size) (zNC hc1) H2 := by
    have eA : zw shC (gb s.heap.size) (hc1.1, fun a b => hc1.2 a.toNat b.toNat) = zw shC (gb s.heap.size) hc1 := zw_nat rfl (fun k j => by show hc1.2 (k : Int).toNat (j : Int).toNat = _; rw [Int.toNat_natCast, Int.toNat_natCast])
    have hlt : ∀ (k j : Nat), ¬ (k = 114 ∧ 6 ≤ j) → (zNC hc1).2 k j = (if 140 ≤ (k : Int) then 0 else hc1.2 k j) := fun k j z => by
      show (if (k : Int) = 114 ∧ 6 ≤ (j : Int) then 116 else if 140 ≤ (k : Int) then 0 else hc1.2 (k : Int).toNat (j : Int).toNat) = _
      rw [if_neg (by omega), Int.toNat_natCast, Int.toNat_natCast]
    have eB : zw shC (gb s.heap.size) (hc1.1, fun a b => if 140 ≤ a then 0 else hc1.2 a b) = zw shC (gb s.heap.size) hc1 := by
      apply List.ext_getElem?
      intro k
      by_cases hk : k < hc1.1
      · rw [zw_at _ _ _ (show k < (hc1.1, fun a b => if 140 ≤ a then 0 else hc1.2 a b).1 from hk), zw_at _ _ _ hk]
        rw [zc_cong (h := hc1) (h' := (hc1.1, fun a b => if 140 ≤ a then 0 else hc1.2 a b)) (fun j => if_neg (by omega))]
      · rw [zw_out _ _ _ (show hc1.1 ≤ k by omega), zw_out _ _ _ (show (hc1.1, fun a b => if 140 ≤ a then 0 else hc1.2 a b).1 ≤ k from (by show hc1.1 ≤ k; omega))]
    refine ⟨zP_114 (h := (hc1.1, fun a b => if 140 ≤ a then 0 else hc1.2 a b)) rfl (fun k j z => hlt k j z) (by rw [eB]; exact V1.1), zD_ad (h := hc1) rfl V1.2⟩
  refine lv_astore_n (lv' := [(1, .ref ((gb s.heap.size).1 0)), (0, .ref b)]) hx hb (zdk ttL_0 3 rfl rfl).1 rfl hl (by decide) rfl (fun ls hl => ?_)
  -- the reference
  have J0 : zI shM D (gb H2.size) (zA s) s.heap (0, fun _ _ => 0) H2 locs2 := ⟨fun k q h => by simp [zw] at h, ⟨fun i j p q h => by simp [zw] at h, fun k q h => by simp [zw] at h⟩, S2, fun k _ => hgb H2.size k⟩
  refine z2_new C0 (hF _) J0 (zdk ttL_0 4 rfl rfl).1 zcl11 wk_RL_10 wi_11 wz_11 rfl ⟨Nat.le_of_ble_eq_true rfl, Nat.le_of_ble_eq_true rfl⟩ (fun H3 I3 z3 o3 => ?_)
  refine lv_dup hx hb (zdk ttL_0 5 rfl rfl).1 rfl ?_
  obtain ⟨P3, D3, S3, G3⟩ := id I3
  have WC3 : zW1 shC D s (gb s.heap.size) (zNC hc1) H3 := ⟨WC.1.kept (fun k y hy => o3 y.1 ((WC.1 k y hy).lt)), WC.2⟩
  have gm0 : (gb H2.size).1 0 = H2.size := hgb H2.size 0
  rw [← gm0]
  have AP3 : zAp (zw shM (gb H2.size) (znew (0, fun _ _ => 0) (zdf 11))) (zw shC (gb s.heap.size) (zNC hc1)) := by
    intro i j x y h1 h2 he
    have hi : i < 1 := by
      rcases Nat.lt_or_ge i 1 with q | q
      · exact q
      · rw [zw_out _ _ _ (show (znew (0, fun _ _ => 0) (zdf 11)).1 ≤ i from q)] at h1; cases h1
    rw [zw_at _ _ _ (show i < (znew (0, fun _ _ => 0) (zdf 11)).1 from hi), show i = 0 by omega] at h1
    cases h1
    have h3 := (WC.1 j y h2).lt
    have h4 : (gb H2.size).1 ((0 : Nat) : Int) = H2.size := gm0
    rw [← he] at h3
    dsimp only at h3
    omega
  refine z2_init (sh1 := shM) (sh2 := shC) (av := []) (rest := [.ref ((gb H2.size).1 0)]) C0 (hF _) ⟨P3, D3⟩ WC3 AP3 S3 G3 hl.1 (zdk ttL_0 6 rfl rfl).1 mb_X11_init ⟨mi_RL_12.1, rfl, (zt_a5 150 rfl rfl)⟩ (ci := 11) rfl rfl ⟨rfl, Nat.zero_lt_succ _⟩ rfl (Nat.le_of_ble_eq_true rfl) (s_X11_init l _ (zM_new rfl)) ⟨rfl, rfl, ⟨Nat.le_of_ble_eq_true rfl, Nat.le_of_ble_eq_true rfl⟩, Nat.le_of_ble_eq_true rfl, Nat.le_of_ble_eq_true rfl⟩ ?_
  rintro _ hm1 ⟨rfl, rm1, rm2⟩ H4 locs4 V4 W4 AP4 S4 _ _
  have sM := okM_start rm1 rm2
  have eM : zw shM (gb H2.size) (zNM hm1) = zw shM (gb H2.size) hm1 := zw_nat rfl (fun k j => by
    show (if (k : Int) = 0 then hm1.2 0 (j : Int).toNat else hm1.2 k j) = _
    by_cases z : (k : Int) = 0
    · rw [if_pos z, z, Int.toNat_natCast]
    · rw [if_neg z])
  refine lv_astore_n (lv' := [(2, .ref ((gb H2.size).1 0)), (1, .ref ((gb s.heap.size).1 0)), (0, .ref b)]) hx hb (zdk ttL_0 7 rfl rfl).1 rfl hl (by decide) rfl (fun ls hl => ?_)
  refine lv_iconst (v := 0) hx hb (zdk ttL_0 8 rfl rfl).1 (by decide) ?_
  refine lv_istore_n (lv' := [(3, .int 0), (2, .ref ((gb H2.size).1 0)), (1, .ref ((gb s.heap.size).1 0)), (0, .ref b)]) hx hb (zdk ttL_0 9 rfl rfl).1 rfl hl (by decide) rfl (fun ls hl => ?_)
  have K := law_loop C0 hL (l := l) (e := e) (below := below) _ 0 (zNC hc1) (zNM hm1) (by decide) (by decide) sC sM (Nat.lt_succ_self _)
  have K2 := K D (gb s.heap.size) (gb H2.size) H4 locs4 ls (hF _) (hF _) W4 ⟨by rw [eM]; exact V4.1, by rw [eM]; exact V4.2⟩ (fun i j x y h1 h2 h3 => AP4 j i y x (by rw [eM] at h2; exact h2) h1 h3.symm) S4 (lv_sub hl [3, 2, 1, 0] rfl)
  exact W.widen (Nat.le_of_ble_eq_true rfl) (Nat.le_of_ble_eq_true rfl) K2

set_option maxHeartbeats 4000000 in
theorem lw_walk (l : Launch) (hflags : l.flags = flags0) (b : Addr) (xs : List Int32) : MetFree l x (headSpec (Jvm.Cond.code x code maxLocals ret :: tables_1) room_1) (lw_P b xs) (fun _ _ _ _ _ => True) lw_Q := by
  refine MetFree.of_bodyS (code := code) (maxLocals := maxLocals) (ret := ret) (by decide) ?_ ?_
  · intro args s m h hn
    obtain ⟨meth, c, h1, h2, h3, h4, h5, h6, -, -⟩ := Cond.code_spec hn (atoms_spec (ws := Jvm.Cond.code x code maxLocals ret :: tables_1) h _ List.mem_cons_self)
    exact ⟨meth, c, h1, h2, h3, h4, h5, h6⟩
  · intro p e s m args below meth c s₁ B hml0 hP _
    obtain ⟨rfl, hx, hbd, hgv⟩ := hP
    obtain ⟨scr, harrAt, hlist, hof, hsmall⟩ := hx
    obtain ⟨hcb, hkn, -, -⟩ := State.arrayAt?_spec harrAt
    have hown : s.vm.findClass R_law = some m.cls := findClass_of_methodNamed B.named
    have hts0 : ∀ c ∈ (Jvm.Cond.code x code maxLocals ret :: tables_1), c.before #[Value.ref b] s = true := atoms_spec (ws := Jvm.Cond.code x code maxLocals ret :: tables_1) B.pre
    have hts : ∀ w ∈ lw_tbl, w.before #[Value.ref b] s = true := k2_hts_sels lw_privs (fun w hw => hts0 w (List.mem_cons_of_mem _ hw)) lw_privs_ok
    have hml : c.maxLocals = 4 := B.maxLocals_eq (hts0 _ List.mem_cons_self)
    have X₀ : Stand p l e room_1 s m #[Value.ref b] below meth c s₁ [] 0 0 := Stand.of_body B
    have hh0 : s₁.heap = s.heap := by rw [B.state]; rfl
    have hsz : scr.slots.size = xs.length := by rw [← Array.length_toList, hlist, List.length_map]
    have hval : ∀ j : Nat, j < xs.length → scr.slots[j]? = some (.int (xs.getD j 0)) := fun j hj => by
      rw [← Array.getElem?_toList, hlist]
      simp [hj]
    have hbl : b < s.heap.size := (Array.getElem?_eq_some_iff.mp hcb).1
    have hX : va_X b xs.length (fun j => xs.getD j 0) s s.heap := ⟨scr, hcb, hof, hkn, hsz, hval⟩
    have K : W p l e room_1 s m #[Value.ref b] below meth c s₁.heap [] 0 0 (lw_Z below #[Value.ref b] s) (entryFrame m ([Value.ref b] : List Value).toArray 4) := by
      rw [hh0]
      exact whole_start l hflags hbd ⟨B.exec, B.bytes, B.returns, hml, hown, hts, hX, hbl, B.notSynchronized, hgv⟩
    obtain ⟨t, a1, o, b1, b2, b3⟩ := K s₁ rfl X₀
    exact ⟨t, o, a1, b1, b2, b3⟩
theorem lw_pre_spec {args : Array Value} {s : State} (h : (Jvm.Cond.and given_1 narrow_1).before args s = true) (hr : rest_1_c.before args s = true) : ∃ (b : Addr) (xs : List Int32), lw_P b xs args s := by
  have hs := flat_of_before _ h
  have hq := flat_of_before _ hr
  have hc : (Cond.count 1).before args s = true := hs _ (by decide +kernel)
  have harr : (Cond.arrayOf (.arg 0) .int).before args s = true := hs _ (by decide +kernel)
  have hle : (Cond.le (.length (.arg 0)) (.int 3072)).before args s = true := hs _ (by decide +kernel)
  have hlen : (Cond.isInt (.length (.arg 0))).before args s = true := hq _ (by decide +kernel)
  have hall : (Cond.all (.arg 0) (.isInt (.elem (.arg 0) (.index 0)))).before args s = true := hq _ (by decide +kernel)
  obtain ⟨b, xs, hb, hx⟩ := State.ints_of_pre rfl harr hlen hall
  have hsm : xs.length < 2 ^ 31 := hx.choose_spec.2.2.2
  have hev : (Term.length (.arg 0)).eval args s none [] s = some (.int xs.length.toInt32) := hx.length_eval hb
  have hv := Cond.le_ints hev (show (Term.int 3072).eval args s none [] s = some (.int 3072) from rfl)
  have hd : xs.length.toInt32 ≤ 3072 := by
    simpa [Cond.before, Cond.holds, hv] using hle
  have hN : xs.length ≤ 3072 := (Int32.ofNat_le_ofNat hsm (by decide)).mp (show Int32.ofNat xs.length ≤ Int32.ofNat 3072 from hd)
  exact ⟨b, xs, Cond.one_arg hc (show args[0]? = some (.ref b) from hb), hx, hN, h⟩
theorem lw_comes (l : Launch) (hflags : l.flags = flags0) : Comes l x (Jvm.Cond.code x code maxLocals ret :: tables_1) room_1 (fun tb e args s => Calls_1 tb e args s ∧ rest_1 tb e args s ∧ Pre_1 tb e args s)
    (fun _ _ args s o t => lw_Q args s o t) := by
  intro p e ha hc hk s m args below hf hfit hheap happ hpre
  obtain ⟨b, xs, hP⟩ := lw_pre_spec hpre.2.2 hpre.2.1
  obtain ⟨k, o, h1, h2, h3, hQ⟩ := lw_walk l hflags b xs p e ha hc hk s m args below hf ((Spec.applies_iff_loose hf).mp happ).1 hP trivial
  exact ⟨k, o, h1, h2, h3, hQ⟩
theorem lw_frame {s t : State} {o : Outcome} {args : Array Value} (h : Framed s o t [] 165162 8606764) :
    Framed s o t (fieldLocs frame_1_writes args s ++ arrayLocs frame_1_arrays args s ++ staticLocs frame_1_statics s) 165162 8606764 := h
theorem lw_limb (L : Cond) (hL : ∀ (args : Array Value) (s t : State), L.after args s (.returned (some (.int 1))) t = true) :
    ArmFor flags0 classFile x code maxLocals ret World_1 tables_1 room_1 Calls_1 rest_1 Pre_1
      (fun tb e a s o t => postC L tb e a s o t ∧ Framed s o t (fieldLocs frame_1_writes a s ++ arrayLocs frame_1_arrays a s ++ staticLocs frame_1_statics s) 165162 8606764) := by
  intro l hflags _ _ p e ha hc hk s m args below hf hfit hheap happ hpre
  obtain ⟨k, o, h1, h2, h3, rfl, hF⟩ := lw_comes l hflags p e ha hc hk s m args below hf hfit hheap happ hpre
  exact ⟨k, _, h1, h2, h3, hL args s _, lw_frame hF⟩
theorem i_vc : Claimed_1_1 ∧ Claimed_1_2 := ⟨lw_limb limb_1_1 (fun args s t => by simp [limb_1_1, Cond.after, Cond.holds, Cond.value]), lw_limb limb_1_2 (fun args s t => Cond.after_iff.mpr (by
  first | (rw [show limb_1_2 = Cond.eq .result (.int 1) from rfl, Cond.eq_ints (x := 1) (y := 1) rfl rfl]; simp; done) | (simp [limb_1_2, Cond.value, Term.eval]; done)))⟩
