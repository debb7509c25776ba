def zsk (t : Int) : Int := if t % 60 = 0 then (if (t / 60) % 12 = 0 then 12 else (t / 60) % 12) else 0
theorem zsk_f (t : Int) : (¬ t % 60 = 0 ∧ zsk t = 0) ∨ (t % 60 = 0 ∧ (t / 60) % 12 = 0 ∧ zsk t = 12) ∨ (t % 60 = 0 ∧ ¬ (t / 60) % 12 = 0 ∧ zsk t = (t / 60) % 12) := by
  unfold zsk
  by_cases h1 : t % 60 = 0
  · rw [if_pos h1]
    by_cases h2 : (t / 60) % 12 = 0
    · rw [if_pos h2]; omega
    · rw [if_neg h2]; omega
  · rw [if_neg h1]; omega
theorem zsk_p {t u : Int} (e : t % 720 = u % 720) : zsk t = zsk u := by
  have e1 : t % 60 = u % 60 := by omega
  have e2 : (t / 60) % 12 = (u / 60) % 12 := by omega
  unfold zsk; rw [e1, e2]
def zss (a : Int) : Nat → Int
  | 0 => 0
  | n + 1 => zss a n + zsk (a + n + 1)
theorem zss_s (a : Int) {k : Int} (hk : 0 ≤ k) : zss a (k + 1).toNat = zss a k.toNat + zsk (a + k + 1) := by
  have e : (k + 1).toNat = k.toNat + 1 := by omega
  have e2 : ((k.toNat : Nat) : Int) = k := by omega
  rw [e]
  show zss a k.toNat + zsk (a + (k.toNat : Int) + 1) = _
  rw [e2]
theorem zss_g (a t : Int) (ht : t % 60 = 0) (n m : Nat) (h : n ≤ m) (h1 : t - 60 ≤ a + n) (h2 : a + m < t) : zss a m = zss a n := by
  induction m with
  | zero => have e : n = 0 := by omega
            rw [e]
  | succ m ih =>
    by_cases q : n = m + 1
    · rw [q]
    · have e := ih (by omega) (by omega)
      show zss a m + zsk (a + m + 1) = _
      have f := zsk_f (a + m + 1)
      have f2 : ¬ (a + (m : Int) + 1) % 60 = 0 := by omega
      omega
theorem zss_t {a t : Int} (ht : t % 60 = 0) (h1 : a + 1 ≤ t) : zss a (t - a).toNat = zss a (t - 60 - a).toNat + zsk t := by
  have e : t - a = (t - a - 1) + 1 := by omega
  rw [e, zss_s a (show (0 : Int) ≤ t - a - 1 by omega)]
  have e2 : a + (t - a - 1) + 1 = t := by omega
  rw [e2, zss_g a t ht (t - 60 - a).toNat (t - a - 1).toNat (by omega) (by omega) (by omega)]
/-! ===== what a day does: told things, the row of now, the book ===== -/
def fE : Type := Int → Int → Int
def fE.n (E : fE) : Int := E 0 0
def fE.wt (E : fE) (i : Int) : Int := E 1 i
def fE.lg (E : fE) (i : Int) : Int := E 2 i
def fE.kn (E : fE) (i : Int) : Int := E 3 i
def fE.lm (E : fE) : Int := E 4 0
def fE.lw (E : fE) (i : Int) : Int := E 5 i
def fE.lf (E : fE) (i : Int) : Int := E 6 i
def fE.lh (E : fE) (i : Int) : Int := E 7 i
def fE.lt (E : fE) (i : Int) : Int := E 8 i
def fE.cd (E : fE) (i : Int) : Int := E 9 i
def fE.ln (E : fE) : Int := E 10 0
def fE.bm (E : fE) : Int := E 11 0
def fE.bd (E : fE) (i : Int) : Int := E 12 i
def fE.bs (E : fE) (i : Int) : Int := E 13 i
def fE.bo (E : fE) (i : Int) : Int := E 14 i
def fE.dm (E : fE) : Int := E 15 0
def fE.dd (E : fE) (i : Int) : Int := E 16 i
def fE.dw (E : fE) (i : Int) : Int := E 17 i
def fE.dn (E : fE) (i : Int) : Int := E 18 i
def fE.km (E : fE) : Int := E 19 0
/-- one of the told things anew -/
def fEs (E : fE) (k : Int) (f : Int → Int) : fE := fun a b => if a = k then f b else E a b
abbrev fR : Type := Int → Int
abbrev fS : Type := fR × fR
def fup (r : fR) (k v : Int) : fR := fun i => if i = k then v else r i
theorem fup_s (r : fR) (k v : Int) : fup r k v k = v := if_pos rfl
theorem fup_n {r : fR} {k v i : Int} (h : ¬ i = k) : fup r k v i = r i := if_neg h
def fHeld (v lo hi : Int) : Int := if v < lo then lo else if hi < v then hi else v
theorem fHeld_f (v lo hi : Int) : (v < lo ∧ fHeld v lo hi = lo) ∨ (lo ≤ v ∧ hi < v ∧ fHeld v lo hi = hi) ∨ (lo ≤ v ∧ v ≤ hi ∧ fHeld v lo hi = v) := by
  unfold fHeld
  by_cases a : v < lo
  · rw [if_pos a]; omega
  · rw [if_neg a]
    by_cases b : hi < v
    · rw [if_pos b]; omega
    · rw [if_neg b]; omega
def fHr (r : fR) (o : Nat) : Bool := decide (r (9 + (o : Int)) = 0)
def fAp (E : fE) (r : fR) (i : Int) (o : Nat) : Bool := fgb (E.kn i) o && (fHr r o != decide (r (9 + i) = 0))
def fAsk (E : fE) (r : fR) (i k : Int) : Int :=
  if k = 0 then E.wt i else if k = 1 then E.lg i else if k = 2 then r (45 + i) else if k = 3 then fct (fHr r) E.n.toNat
  else if k = 4 then E.n else if k = 5 then fHeld (r 4) (-9999) 9999 else if k = 6 then r 3 else if k = 7 then 1 - r 7
  else if k = 8 then fct (fAp E r i) E.n.toNat else r 0
def fRun (E : fE) (r : fR) (i a b : Int) : Int := (fEv (fAsk E r i) (tSk E.cd b.toNat) (b - a).toNat).headD 0
abbrev fFit (E : fE) (r : fR) (i w l : Int) : Prop := E.lw l = w ∧ (E.lh l = E.lt l ∨ ¬ fRun E r i (E.lh l) (E.lt l) = 0)
def fLn (E : fE) (r : fR) (i w : Int) : Nat → Int → Int
  | 0, _ => -1
  | k + 1, l => if fFit E r i w l then l else fLn E r i w k (l + 1)
def fDf (E : fE) (w i : Int) : Int := if w = 0 then 80 * E.lg i else if w = 1 then E.wt i else 500 - 50 * E.lg i
def fMo (w : Int) : Int := if w = 1 then 999 else 1000
def fTo (E : fE) (r : fR) (w i l : Int) : Int := fHeld (if l = -1 then fDf E w i else fRun E r i (E.lf l) (E.lh l)) 0 (fMo w)
def fTl (E : fE) (r : fR) (w i : Int) : Int := fTo E r w i (fLn E r i w E.lm.toNat 0)
theorem fLn_e {E : fE} {r : fR} {i w l : Int} (h : E.lm ≤ l) : fLn E r i w (E.lm - l).toNat l = -1 := by
  rw [show (E.lm - l).toNat = 0 by omega]; rfl
theorem fLn_y {E : fE} {r : fR} {i w l : Int} (h : l < E.lm) (f : fFit E r i w l) : fLn E r i w (E.lm - l).toNat l = l := by
  rw [show (E.lm - l).toNat = (E.lm - l - 1).toNat + 1 by omega]
  show (if fFit E r i w l then l else _) = l
  rw [if_pos f]
theorem fLn_n {E : fE} {r : fR} {i w l : Int} (h : l < E.lm) (f : ¬ fFit E r i w l) : fLn E r i w (E.lm - l).toNat l = fLn E r i w (E.lm - (l + 1)).toNat (l + 1) := by
  rw [show (E.lm - l).toNat = (E.lm - (l + 1)).toNat + 1 by omega]
  show (if fFit E r i w l then l else _) = _
  rw [if_neg f]
theorem fTl_b (E : fE) (r : fR) (w i : Int) : 0 ≤ fTl E r w i ∧ fTl E r w i ≤ fMo w := by
  unfold fTl fTo
  have h : (0 : Int) ≤ fMo w := by unfold fMo; split <;> decide
  have := fHeld_f (if fLn E r i w E.lm.toNat 0 = -1 then fDf E w i else fRun E r i (E.lf (fLn E r i w E.lm.toNat 0)) (E.lh (fLn E r i w E.lm.toNat 0))) 0 (fMo w)
  omega
/-- a line of the book -/
def fBl (b : fR) (k a what who much : Int) : fR := fun i => if i = 4 * k then a else if i = 4 * k + 1 then what else if i = 4 * k + 2 then who else if i = 4 * k + 3 then much else b i
def fNt (th : Bool) (x : fS) (what who much : Int) : fS := if th = true ∨ x.1 2 = 150 then x else (fup x.1 2 (x.1 2 + 1), fBl x.2 (x.1 2) (x.1 0) what who much)
def fG1 (r : fR) (i : Int) : fR := fup (fup r (9 + i) 1) (45 + i) (zwp (r (45 + i) + 1))
def fGo (E : fE) (th : Bool) (i : Int) (x : fS) : fS := fNt th (fup (fG1 x.1 i) 4 (zwp (x.1 4 + fTl E (fG1 x.1 i) 1 i)), x.2) 0 i (fTl E (fG1 x.1 i) 1 i)
def fBk (E : fE) (th : Bool) (i : Int) (x : fS) : fS := fNt th (fup (fup x.1 (9 + i) 0) 4 (zwp (x.1 4 - fTl E (fup x.1 (9 + i) 0) 1 i)), x.2) 1 i (fTl E (fup x.1 (9 + i) 0) 1 i)
def fDr (v : Int) : Int := zwp (zwp (1664525 * v) + 1013904223)
/-- does it happen -/
def fHp (th : Bool) (odds : Int) (x : fS) : Bool := if th = true then decide (500 ≤ odds) else decide (0 < odds ∧ zushr (fDr (x.1 1)) 8 % 1000 < odds)
def fHx (th : Bool) (odds : Int) (x : fS) : fS := if th = true ∨ ¬ 0 < odds then x else (fup x.1 1 (fDr (x.1 1)), x.2)
/-- kin go with him -/
def fO2 (E : fE) (th : Bool) (i : Int) : Nat → Int → Int → fS → Int × fS
  | 0, _, s, x => (s, x)
  | k + 1, o, s, x => if 0 < s then (if fgb (E.kn i) o.toNat = true ∧ x.1 (9 + o) = 0 then fO2 E th i k (o + 1) (s - 1) (fGo E th o x) else fO2 E th i k (o + 1) s x) else (s, x)
def fOb (E : fE) (th : Bool) (i s : Int) (x : fS) : Int × fS :=
  if x.1 (9 + i) = 0 ∧ ¬ x.1 (27 + i) = 1 then (if fHp th (fTl E x.1 0 i) x = true then fO2 E th i E.n.toNat 0 (s - 1) (fGo E th i (fHx th (fTl E x.1 0 i) x)) else (s, fHx th (fTl E x.1 0 i) x)) else (s, x)
def fOu (E : fE) (th : Bool) : Nat → Int → Int → fS → fS
  | 0, _, _, x => x
  | k + 1, i, s, x => if 0 < s then fOu E th k (i + 1) (fOb E th i s x).1 (fOb E th i s x).2 else x
def fBb (E : fE) (th : Bool) (i s : Int) (x : fS) : Int × fS :=
  if x.1 (9 + i) = 0 then (s, x) else (if fHp th (fTl E x.1 2 i) x = true then (s - 1, fBk E th i (fHx th (fTl E x.1 2 i) x)) else (s, fHx th (fTl E x.1 2 i) x))
def fBa (E : fE) (th : Bool) : Nat → Int → Int → fS → fS
  | 0, _, _, x => x
  | k + 1, i, s, x => if 0 < s then fBa E th k (i + 1) (fBb E th i s x).1 (fBb E th i s x).2 else x
theorem fO2_e {E : fE} {th : Bool} {i o s : Int} {x : fS} (h : ¬ (o < E.n ∧ 0 < s)) : fO2 E th i (E.n - o).toNat o s x = (s, x) := by
  by_cases a : o < E.n
  · rw [show (E.n - o).toNat = (E.n - (o + 1)).toNat + 1 by omega]
    show (if 0 < s then _ else (s, x)) = _
    rw [if_neg (by omega)]
  · rw [show (E.n - o).toNat = 0 by omega]; rfl
theorem fO2_y {E : fE} {th : Bool} {i o s : Int} {x : fS} (a : o < E.n) (b : 0 < s) (c : fgb (E.kn i) o.toNat = true ∧ x.1 (9 + o) = 0) : fO2 E th i (E.n - o).toNat o s x = fO2 E th i (E.n - (o + 1)).toNat (o + 1) (s - 1) (fGo E th o x) := by
  rw [show (E.n - o).toNat = (E.n - (o + 1)).toNat + 1 by omega]
  show (if 0 < s then _ else (s, x)) = _
  rw [if_pos b, if_pos c]
theorem fO2_n {E : fE} {th : Bool} {i o s : Int} {x : fS} (a : o < E.n) (b : 0 < s) (c : ¬ (fgb (E.kn i) o.toNat = true ∧ x.1 (9 + o) = 0)) : fO2 E th i (E.n - o).toNat o s x = fO2 E th i (E.n - (o + 1)).toNat (o + 1) s x := by
  rw [show (E.n - o).toNat = (E.n - (o + 1)).toNat + 1 by omega]
  show (if 0 < s then _ else (s, x)) = _
  rw [if_pos b, if_neg c]
theorem fOu_e {E : fE} {th : Bool} {i s : Int} {x : fS} (h : ¬ (i < E.n ∧ 0 < s)) : fOu E th (E.n - i).toNat i s x = x := by
  by_cases a : i < E.n
  · rw [show (E.n - i).toNat = (E.n - (i + 1)).toNat + 1 by omega]
    show (if 0 < s then _ else x) = _
    rw [if_neg (by omega)]
  · rw [show (E.n - i).toNat = 0 by omega]; rfl
theorem fOu_s {E : fE} {th : Bool} {i s s' : Int} {x x' : fS} (a : i < E.n) (b : 0 < s) (c : fOb E th i s x = (s', x')) : fOu E th (E.n - i).toNat i s x = fOu E th (E.n - (i + 1)).toNat (i + 1) s' x' := by
  rw [show (E.n - i).toNat = (E.n - (i + 1)).toNat + 1 by omega]
  show (if 0 < s then _ else x) = _
  rw [if_pos b, c]
theorem fBa_e {E : fE} {th : Bool} {i s : Int} {x : fS} (h : ¬ (i < E.n ∧ 0 < s)) : fBa E th (E.n - i).toNat i s x = x := by
  by_cases a : i < E.n
  · rw [show (E.n - i).toNat = (E.n - (i + 1)).toNat + 1 by omega]
    show (if 0 < s then _ else x) = _
    rw [if_neg (by omega)]
  · rw [show (E.n - i).toNat = 0 by omega]; rfl
theorem fBa_s {E : fE} {th : Bool} {i s s' : Int} {x x' : fS} (a : i < E.n) (b : 0 < s) (c : fBb E th i s x = (s', x')) : fBa E th (E.n - i).toNat i s x = fBa E th (E.n - (i + 1)).toNat (i + 1) s' x' := by
  rw [show (E.n - i).toNat = (E.n - (i + 1)).toNat + 1 by omega]
  show (if 0 < s then _ else x) = _
  rw [if_pos b, c]
/-- the town -/
def fPu (r : fR) (n : Int) : fR := fup (fup r 6 (zwp (r 6 + (r 3 + n) / 720))) 3 ((r 3 + n) % 720)
def fDd (E : fE) (l : Int) (r : fR) : fR :=
  if E.dw l = 0 then fup r (27 + E.dn l) 1 else if E.dw l = 1 then fup r (27 + E.dn l) 0
  else if E.dw l = 2 then fup r 7 0 else if E.dw l = 3 then fup r 7 1
  else if E.dw l = 4 then fup r 8 (zwp (r 8 + E.dn l * (r 3 / 60))) else fPu r (E.dn l)
def fTw (E : fE) : Nat → Int → fR → fR
  | 0, _, r => r
  | k + 1, l, r => fTw E k (l + 1) (if E.dd l = r 0 then fDd E l r else r)
def fSa (E : fE) (th : Bool) (l : Int) (x : fS) : fS := if E.bo l = 1 then fOu E th E.n.toNat 0 (E.bs l) x else fBa E th E.n.toNat 0 (E.bs l) x
def fBs (E : fE) (th : Bool) : Nat → Int → fS → fS
  | 0, _, x => x
  | k + 1, l, x => fBs E th k (l + 1) (if E.bd l = x.1 0 then fSa E th l x else x)
/-- the clock -/
def fMi (r : fR) : Int := fHeld (r 4) (-1440) 1440
def fC1 (r : fR) : fR := fup (fup (fup (fup r 6 (zwp (r 6 + (r 3 + fMi r) / 720))) 3 ((r 3 + fMi r) % 720)) 4 (zwp (r 4 - fMi r))) 5 (zwp (r 5 + zss (r 3) (fMi r).toNat))
def fCl (th : Bool) (x : fS) : fS :=
  let m := fMi x.1
  let k := zss (x.1 3) m.toNat
  let y := (fC1 x.1, x.2)
  let y := if 0 < k then fNt th y 2 (-1) k else y
  let y := if m = 0 then fNt th y 3 (-1) (y.1 3) else y
  if m < 0 then fNt th y 4 (-1) (-m) else y
def fDy (E : fE) (th : Bool) (x : fS) : fS :=
  let y := fCl th (fBs E th E.bm.toNat 0 (fTw E E.dm.toNat 0 x.1, x.2))
  (fup y.1 0 (zwp (y.1 0 + 1)), y.2)
theorem fTw_e {E : fE} {l : Int} {r : fR} (h : E.dm ≤ l) : fTw E (E.dm - l).toNat l r = r := by rw [show (E.dm - l).toNat = 0 by omega]; rfl
theorem fTw_y {E : fE} {l : Int} {r : fR} (h : l < E.dm) (c : E.dd l = r 0) : fTw E (E.dm - l).toNat l r = fTw E (E.dm - (l + 1)).toNat (l + 1) (fDd E l r) := by
  rw [show (E.dm - l).toNat = (E.dm - (l + 1)).toNat + 1 by omega]
  show fTw E _ (l + 1) (if E.dd l = r 0 then fDd E l r else r) = _
  rw [if_pos c]
theorem fTw_n {E : fE} {l : Int} {r : fR} (h : l < E.dm) (c : ¬ E.dd l = r 0) : fTw E (E.dm - l).toNat l r = fTw E (E.dm - (l + 1)).toNat (l + 1) r := by
  rw [show (E.dm - l).toNat = (E.dm - (l + 1)).toNat + 1 by omega]
  show fTw E _ (l + 1) (if E.dd l = r 0 then fDd E l r else r) = _
  rw [if_neg c]
theorem fBs_e {E : fE} {th : Bool} {l : Int} {x : fS} (h : E.bm ≤ l) : fBs E th (E.bm - l).toNat l x = x := by rw [show (E.bm - l).toNat = 0 by omega]; rfl
theorem fBs_y {E : fE} {th : Bool} {l : Int} {x : fS} (h : l < E.bm) (c : E.bd l = x.1 0) : fBs E th (E.bm - l).toNat l x = fBs E th (E.bm - (l + 1)).toNat (l + 1) (fSa E th l x) := by
  rw [show (E.bm - l).toNat = (E.bm - (l + 1)).toNat + 1 by omega]
  show fBs E th _ (l + 1) (if E.bd l = x.1 0 then fSa E th l x else x) = _
  rw [if_pos c]
theorem fBs_n {E : fE} {th : Bool} {l : Int} {x : fS} (h : l < E.bm) (c : ¬ E.bd l = x.1 0) : fBs E th (E.bm - l).toNat l x = fBs E th (E.bm - (l + 1)).toNat (l + 1) x := by
  rw [show (E.bm - l).toNat = (E.bm - (l + 1)).toNat + 1 by omega]
  show fBs E th _ (l + 1) (if E.bd l = x.1 0 then fSa E th l x else x) = _
  rw [if_neg c]
theorem zwp_a (a b : Int) : zwp (zwp a + b) = zwp (a + b) := by
  unfold zwp
  rw [Int32.ofInt_add, Int32.ofInt_toInt, ← Int32.ofInt_add]

