def kCl : List Nat := [10, 9, 1, 20, 21, 22, 3, 23, 24, 25, 26, 27, 28, 4, 29, 30, 31, 4, 29, 30, 31, 2, 32, 0, 33, 34, 35, 36, 5, 37, 38, 39, 40, 41, 42, 9, 1, 20, 21, 22, 3, 23, 24, 25, 26, 27, 28, 4, 29, 30, 31, 4, 29, 30, 31, 2, 32, 0, 33, 34, 35, 36, 5, 37, 38, 39, 40, 41, 42, 9, 1, 20, 21, 22, 3, 23, 24, 25, 26, 27, 28, 4, 29, 30, 31, 4, 29, 30, 31, 2, 32, 0, 33, 34, 35, 36, 5, 37, 38, 39, 40, 41, 42, 6, 43, 44, 45, 7, 8, 46, 47, 48, 49, 50, 51, 52, 1, 20, 21, 22, 1, 20, 21, 22, 1, 20, 21, 22, 1, 20, 21, 22, 1, 20, 21, 22, 1, 20, 21, 22, 53]
def kC (c : Int) : Nat := kCl.getD c.toNat 99
def shKl : List (Nat ⊕ (Nat × Nat)) := [.inl 0, .inl 1, .inl 2, .inl 3, .inl 4, .inl 5, .inl 6, .inl 7, .inl 8, .inl 9, .inl 10, .inl 99, .inl 99, .inl 99, .inl 99, .inl 99, .inl 99, .inl 99, .inl 99, .inl 99, .inr (0, 18), .inr (0, 18), .inr (0, 18), .inr (0, 16), .inr (0, 16), .inr (0, 16), .inr (0, 16), .inr (0, 400), .inr (0, 64), .inr (0, 16), .inr (0, 16), .inr (0, 16), .inr (0, 18), .inr (0, 150), .inr (0, 150), .inr (0, 150), .inr (0, 150), .inr (0, 5), .inr (1, 5), .inr (0, 8), .inr (0, 7), .inr (0, 6), .inr (0, 6), .inr (0, 400), .inr (0, 401), .inr (0, 401), .inr (0, 60), .inr (0, 8), .inr (0, 128), .inr (0, 128), .inr (0, 1984), .inr (2, 6), .inr (0, 6), .inr (0, 10000)]
def shC : zSh := fun c => shKl.getD (kC c) (.inl 99)
def tKl : List (List (Bool × Int × Int) ⊕ (Int × Int)) := [.inl [(true, 1, 1), (true, 2, 2), (true, 3, 3), (true, 4, 4), (false, 0, 150)], .inl [(true, 1, 1), (true, 2, 2), (true, 3, 3), (false, 0, 18), (false, (-2147483648), 2147483647), (false, (-2147483648), 2147483647), (false, 0, 719), (false, (-2147483648), 2147483647), (false, (-2147483648), 2147483647), (false, (-2147483648), 2147483647), (false, (-2147483648), 2147483647), (false, (-2147483648), 2147483647), (false, (-2147483648), 2147483647), (false, (-2147483648), 2147483647)], .inl [(true, 1, 1), (false, (-2147483648), 2147483647)], .inl [(true, 1, 1), (true, 2, 2), (true, 3, 3), (true, 4, 4), (true, 5, 5), (true, 6, 6), (false, 0, 16), (false, 0, 400)], .inl [(true, 1, 1), (true, 2, 2), (true, 3, 3), (false, 0, 16)], .inl [(true, 1, 1), (true, 2, 2), (false, 0, 5), (true, 3, 3), (false, 0, 8), (true, 4, 4), (false, 0, 7), (true, 5, 5), (true, 6, 6), (false, 0, 6)], .inl [(true, 1, 1), (true, 2, 2), (true, 3, 3), (false, 0, 400), (false, 0, 401), (false, 0, 400), (false, (-2147483648), 2147483647), (false, (-2147483648), 2147483647), (false, (-2147483648), 2147483647), (false, (-2147483648), 2147483647)], .inl [(false, 103, 103)], .inl [(true, 1, 1), (true, 2, 2), (true, 3, 3), (true, 4, 4), (true, 5, 5)], .inl [(true, 1, 1), (true, 5, 5), (true, 12, 12), (true, 16, 16), (true, 20, 20), (true, 22, 22), (true, 27, 27)], .inl [(false, 1, 1), (false, 35, 35), (false, 69, 69), (false, 103, 103), (false, 107, 107), (false, 108, 108), (false, 114, 114), (false, 115, 115), (false, 0, 6), (false, 0, 1), (false, -1, 140)], .inr (-2147483648, 2147483647), .inr (-2147483648, 2147483647), .inr (-2147483648, 2147483647), .inr (-2147483648, 2147483647), .inr (-2147483648, 2147483647), .inr (-2147483648, 2147483647), .inr (-2147483648, 2147483647), .inr (-2147483648, 2147483647), .inr (-2147483648, 2147483647), .inr ((-2147483648), 2147483647), .inr ((-2147483648), 2147483647), .inr ((-2147483648), 2147483647), .inr ((-2147483648), 2147483647), .inr (0, 400), .inr (0, 400), .inr (0, 400), .inr ((-2147483648), 2147483647), .inr ((-2147483648), 2147483647), .inr ((-2147483648), 2147483647), .inr ((-2147483648), 2147483647), .inr ((-2147483648), 2147483647), .inr ((-2147483648), 2147483647), .inr ((-2147483648), 2147483647), .inr ((-2147483648), 2147483647), .inr ((-2147483648), 2147483647), .inr ((-2147483648), 2147483647), .inr ((-2147483648), 2147483647), .inr (0, 1), .inr ((-2147483648), 2147483647), .inr ((-2147483648), 2147483647), .inr ((-2147483648), 2147483647), .inr ((-2147483648), 2147483647), .inr (0, 255), .inr ((-2147483648), 2147483647), .inr ((-2147483648), 2147483647), .inr ((-2147483648), 2147483647), .inr ((-2147483648), 2147483647), .inr ((-2147483648), 2147483647), .inr (0, 127), .inr ((-2147483648), 2147483647), .inr (116, 136), .inr (0, 150), .inr ((-2147483648), 2147483647)]
def zb1 (c : Int) (q : Bool × Int × Int) : Int × Int := match q with
  | (true, a, b) => (c + a, c + b)
  | (false, a, b) => (a, b)
def zbo (q : List (Bool × Int × Int) ⊕ (Int × Int)) (c j : Int) : Int × Int := match q with
  | .inl l => zb1 c (l.getD j.toNat (false, -2147483648, 2147483647))
  | .inr b => b
def tK (k : Nat) (c j : Int) : Int × Int := zbo (tKl.getD k (.inr (-2147483648, 2147483647))) c j
def PK (k : Nat) (c j v : Int) : Prop := (tK k c j).1 ≤ v ∧ v ≤ (tK k c j).2
def PC (c j v : Int) : Prop := PK (kC c) c j v
theorem PC_k {c j v : Int} {k : Nat} (hk : kC c = k) (h : PK k c j v) : PC c j v := by unfold PC; rw [hk]; exact h
def zPast (v : Int) : Prop := v = 116 ∨ v = 120 ∨ v = 124 ∨ v = 128 ∨ v = 132 ∨ v = 136
def okC (h : zM) : Prop := 140 ≤ h.1 ∧ (∀ a b : Int, PC a b (h.2 a b)) ∧ (∀ b : Int, 0 ≤ b → b < 6 → zPast (h.2 114 b)) ∧ ((h.2 0 10 = -1 ∧ h.1 = 140) ∨ (h.2 0 10 = 140 ∧ h.1 = 141))
theorem okC_k {h : zM} {c : Int} {k : Nat} (s : okC h) (hk : kC c = k) (j : Int) : PK k c j (h.2 c j) := by rw [← hk]; exact s.2.1 c j
theorem okC_w {h h' : zM} {c k v : Int} (s : okC h) (e : h' = zwr h c k v) (hp : PC c k v) (h1 : ¬ c = 114) (h2 : ¬ (c = 0 ∧ k = 10)) : okC h' := by
  subst e
  refine ⟨s.1, fun a b => ?_, fun b q1 q2 => ?_, ?_⟩
  · by_cases q : a = c ∧ b = k
    · rw [q.1, q.2, zwr_s]; exact hp
    · rw [zwr_n q]; exact s.2.1 a b
  · rw [zwr_n (by omega)]; exact s.2.2.1 b q1 q2
  · rw [zwr_n (by omega)]; exact s.2.2.2
theorem okC_past {h h' : zM} {k v : Int} (s : okC h) (e : h' = zwr h 114 k v) (hv : zPast v) : okC h' := by
  subst e
  refine ⟨s.1, fun a b => ?_, fun b q1 q2 => ?_, ?_⟩
  · by_cases q : a = 114 ∧ b = k
    · rw [q.1, q.2, zwr_s]
      show 116 ≤ v ∧ v ≤ 136
      unfold zPast at hv; omega
    · rw [zwr_n q]; exact s.2.1 a b
  · by_cases q : b = k
    · rw [q, zwr_s]; exact hv
    · rw [zwr_n (by omega)]; exact s.2.2.1 b q1 q2
  · rw [zwr_n (by omega)]; exact s.2.2.2
theorem okC_fill {h h' : zM} {c a b v : Int} (s : okC h) (e : h' = zfill h c a b v) (hp : ∀ j, PC c j v) (h1 : ¬ c = 114) (h2 : ¬ c = 0) : okC h' := by
  subst e
  refine ⟨s.1, fun x y => ?_, fun y q1 q2 => ?_, ?_⟩
  · show PC x y (if x = c ∧ a ≤ y ∧ y < b then v else h.2 x y)
    split
    · rename_i q; rw [q.1]; exact hp y
    · exact s.2.1 x y
  · show zPast (if 114 = c ∧ a ≤ y ∧ y < b then v else h.2 114 y)
    rw [if_neg (by omega)]; exact s.2.2.1 y q1 q2
  · have e9 : (zfill h c a b v).2 0 10 = h.2 0 10 := if_neg (by omega)
    rw [e9]; exact s.2.2.2
theorem okC_cp {h h' : zM} {c0 sp c1 dp k : Int} (s : okC h) (e : h' = zcp h c0 sp c1 dp k) (hp : ∀ j i, PC c1 j (h.2 c0 i)) (h1 : ¬ c1 = 114) (h2 : ¬ c1 = 0) : okC h' := by
  subst e
  refine ⟨s.1, fun x y => ?_, fun y q1 q2 => ?_, ?_⟩
  · show PC x y (if x = c1 ∧ dp ≤ y ∧ y < dp + k then h.2 c0 (sp + (y - dp)) else h.2 x y)
    split
    · rename_i q; rw [q.1]; exact hp y _
    · exact s.2.1 x y
  · show zPast (if 114 = c1 ∧ dp ≤ y ∧ y < dp + k then h.2 c0 (sp + (y - dp)) else h.2 114 y)
    rw [if_neg (by omega)]; exact s.2.2.1 y q1 q2
  · have e9 : (zcp h c0 sp c1 dp k).2 0 10 = h.2 0 10 := if_neg (by omega)
    rw [e9]; exact s.2.2.2
theorem rm_m {d : Nat} (h : 1 ≤ d) : (1 ≤ (rmL d).frames ∧ 40 ≤ (rmL d).locals) ∧ 0 ≤ (rmL d).cells ∧ 0 ≤ (rmL d).slots := ⟨⟨h, by show 40 ≤ 80 * d; omega⟩, Nat.zero_le _, Nat.zero_le _⟩
theorem rm_c {d : Nat} (h : 1 ≤ d) : 1 ≤ (rmL d).frames ∧ 60 ≤ (rmL d).locals := ⟨h, by show 60 ≤ 80 * d; omega⟩
theorem kLc {h : zM} {c : Int} {k : Nat} {x : Nat ⊕ (Nat × Nat)} (s : okC h) (hk : kC c = k) (hs : shKl.getD k (.inl 99) = x) (h0 : 0 ≤ c ∧ c < 140) : shC c = x ∧ 0 ≤ c ∧ c < h.1 := ⟨by unfold shC; rw [hk]; exact hs, h0.1, by have := s.1; omega⟩
def zWd (c : Int) : Prop := c = 1 ∨ c = 35 ∨ c = 69
theorem zWd_1 : zWd 1 := by unfold zWd; omega
theorem zWd_35 : zWd 35 := by unfold zWd; omega
theorem zWd_69 : zWd 69 := by unfold zWd; omega
theorem zWd_b {c : Int} (hc : zWd c) : 1 ≤ c ∧ c ≤ 69 := by unfold zWd at hc; omega
def zIs (c : Int) : Prop := c = 2 ∨ c = 36 ∨ c = 70 ∨ c = 116 ∨ c = 120 ∨ c = 124 ∨ c = 128 ∨ c = 132 ∨ c = 136
theorem zIs_2 : zIs 2 := by unfold zIs; omega
theorem zIs_70 : zIs 70 := by unfold zIs; omega
theorem zIs_b {c : Int} (hc : zIs c) : 2 ≤ c ∧ c ≤ 136 := by unfold zIs at hc; omega
def zLw (c : Int) : Prop := c = 6 ∨ c = 40 ∨ c = 74
theorem zLw_6 : zLw 6 := by unfold zLw; omega
theorem zLw_74 : zLw 74 := by unfold zLw; omega
theorem zLw_b {c : Int} (hc : zLw c) : 6 ≤ c ∧ c ≤ 74 := by unfold zLw at hc; omega
def zPl (c : Int) : Prop := c = 13 ∨ c = 17 ∨ c = 47 ∨ c = 51 ∨ c = 81 ∨ c = 85
theorem zPl_13 : zPl 13 := by unfold zPl; omega
theorem zPl_17 : zPl 17 := by unfold zPl; omega
theorem zPl_81 : zPl 81 := by unfold zPl; omega
theorem zPl_85 : zPl 85 := by unfold zPl; omega
theorem zPl_b {c : Int} (hc : zPl c) : 13 ≤ c ∧ c ≤ 85 := by unfold zPl at hc; omega
def zKi (c : Int) : Prop := c = 21 ∨ c = 55 ∨ c = 89
theorem zKi_21 : zKi 21 := by unfold zKi; omega
theorem zKi_89 : zKi 89 := by unfold zKi; omega
theorem zKi_b {c : Int} (hc : zKi c) : 21 ≤ c ∧ c ≤ 89 := by unfold zKi at hc; omega
def zBo (c : Int) : Prop := c = 23 ∨ c = 57 ∨ c = 91
theorem zBo_23 : zBo 23 := by unfold zBo; omega
theorem zBo_b {c : Int} (hc : zBo c) : 23 ≤ c ∧ c ≤ 91 := by unfold zBo at hc; omega
def zPu (c : Int) : Prop := c = 28 ∨ c = 62 ∨ c = 96
theorem zPu_28 : zPu 28 := by unfold zPu; omega
theorem zPu_b {c : Int} (hc : zPu c) : 28 ≤ c ∧ c ≤ 96 := by unfold zPu at hc; omega
theorem zPast_Is {c : Int} (hc : zPast c) : zIs c := by unfold zPast at hc; unfold zIs; omega
theorem kk_9_0 {c : Int} (hc : zWd c) : kC c = 9 := by unfold zWd at hc; rcases hc with rfl | rfl | rfl <;> decide +kernel
theorem k_9_0 {h : zM} {c : Int} (s : okC h) (hc : zWd c) : shC c = .inl 9 ∧ 0 ≤ c ∧ c < h.1 := kLc s (kk_9_0 hc) rfl (by have := zWd_b hc; omega)
theorem rf_9_0_0 {h : zM} {c : Int} (s : okC h) (hc : zWd c) : h.2 c 0 = (c + 1) := zeqe (a := c + 1) (okC_k s (kk_9_0 hc) 0) (by omega)
theorem rf_9_0_1 {h : zM} {c : Int} (s : okC h) (hc : zWd c) : h.2 c 1 = (c + 5) := zeqe (a := c + 5) (okC_k s (kk_9_0 hc) 1) (by omega)
theorem rf_9_0_2 {h : zM} {c : Int} (s : okC h) (hc : zWd c) : h.2 c 2 = (c + 12) := zeqe (a := c + 12) (okC_k s (kk_9_0 hc) 2) (by omega)
theorem rf_9_0_3 {h : zM} {c : Int} (s : okC h) (hc : zWd c) : h.2 c 3 = (c + 16) := zeqe (a := c + 16) (okC_k s (kk_9_0 hc) 3) (by omega)
theorem rf_9_0_4 {h : zM} {c : Int} (s : okC h) (hc : zWd c) : h.2 c 4 = (c + 20) := zeqe (a := c + 20) (okC_k s (kk_9_0 hc) 4) (by omega)
theorem rf_9_0_5 {h : zM} {c : Int} (s : okC h) (hc : zWd c) : h.2 c 5 = (c + 22) := zeqe (a := c + 22) (okC_k s (kk_9_0 hc) 5) (by omega)
theorem rf_9_0_6 {h : zM} {c : Int} (s : okC h) (hc : zWd c) : h.2 c 6 = (c + 27) := zeqe (a := c + 27) (okC_k s (kk_9_0 hc) 6) (by omega)
theorem zs_9_1 {c : Int} (hc : zWd c) : zIs (c + 1) := by unfold zWd at hc; unfold zIs; omega
theorem kk_9_1 {c : Int} (hc : zWd c) : kC (c + 1) = 1 := by unfold zWd at hc; rcases hc with rfl | rfl | rfl <;> decide +kernel
theorem nk_9_1 {c : Int} (hc : zWd c) : ¬ (c + 1) = 114 := by unfold zWd at hc; omega
theorem k_9_1 {h : zM} {c : Int} (s : okC h) (hc : zWd c) : shC (c + 1) = .inl 1 ∧ 0 ≤ (c + 1) ∧ (c + 1) < h.1 := kLc s (kk_9_1 hc) rfl (by have := zWd_b hc; omega)
theorem rf_9_1_0 {h : zM} {c : Int} (s : okC h) (hc : zWd c) : h.2 (c + 1) 0 = (c + 2) := zeqe (a := (c + 1) + 1) (okC_k s (kk_9_1 hc) 0) (by omega)
theorem kka_9_1_0 {c : Int} (hc : zWd c) : kC (c + 2) = 20 := by unfold zWd at hc; rcases hc with rfl | rfl | rfl <;> decide +kernel
theorem ka_9_1_0 {h : zM} {c : Int} (s : okC h) (hc : zWd c) : shC (c + 2) = .inr (0, 18) ∧ 0 ≤ (c + 2) ∧ (c + 2) < h.1 := kLc s (kka_9_1_0 hc) rfl (by have := zWd_b hc; omega)
theorem ab_9_1_0 {h : zM} {c : Int} (s : okC h) (hc : zWd c) (j : Int) : (-2147483648) ≤ h.2 (c + 2) j ∧ h.2 (c + 2) j ≤ 2147483647 := okC_k s (kka_9_1_0 hc) j
theorem rf_9_1_1 {h : zM} {c : Int} (s : okC h) (hc : zWd c) : h.2 (c + 1) 1 = (c + 3) := zeqe (a := (c + 1) + 2) (okC_k s (kk_9_1 hc) 1) (by omega)
theorem kka_9_1_1 {c : Int} (hc : zWd c) : kC (c + 3) = 21 := by unfold zWd at hc; rcases hc with rfl | rfl | rfl <;> decide +kernel
theorem ka_9_1_1 {h : zM} {c : Int} (s : okC h) (hc : zWd c) : shC (c + 3) = .inr (0, 18) ∧ 0 ≤ (c + 3) ∧ (c + 3) < h.1 := kLc s (kka_9_1_1 hc) rfl (by have := zWd_b hc; omega)
theorem ab_9_1_1 {h : zM} {c : Int} (s : okC h) (hc : zWd c) (j : Int) : (-2147483648) ≤ h.2 (c + 3) j ∧ h.2 (c + 3) j ≤ 2147483647 := okC_k s (kka_9_1_1 hc) j
theorem rf_9_1_2 {h : zM} {c : Int} (s : okC h) (hc : zWd c) : h.2 (c + 1) 2 = (c + 4) := zeqe (a := (c + 1) + 3) (okC_k s (kk_9_1 hc) 2) (by omega)
theorem kka_9_1_2 {c : Int} (hc : zWd c) : kC (c + 4) = 22 := by unfold zWd at hc; rcases hc with rfl | rfl | rfl <;> decide +kernel
theorem na_9_1_2 {c : Int} (hc : zWd c) : ¬ (c + 4) = 114 ∧ ¬ (c + 4) = 0 := by unfold zWd at hc; omega
theorem ka_9_1_2 {h : zM} {c : Int} (s : okC h) (hc : zWd c) : shC (c + 4) = .inr (0, 18) ∧ 0 ≤ (c + 4) ∧ (c + 4) < h.1 := kLc s (kka_9_1_2 hc) rfl (by have := zWd_b hc; omega)
theorem pa_9_1_2 {c : Int} {v : Int} (hc : zWd c) (hv : (-2147483648) ≤ v ∧ v ≤ 2147483647) (j : Int) : PC (c + 4) j v := PC_k (kka_9_1_2 hc) hv
theorem ab_9_1_2 {h : zM} {c : Int} (s : okC h) (hc : zWd c) (j : Int) : (-2147483648) ≤ h.2 (c + 4) j ∧ h.2 (c + 4) j ≤ 2147483647 := okC_k s (kka_9_1_2 hc) j
theorem aw_9_1_2 {h h' : zM} {c : Int} {v j : Int} (s : okC h) (hc : zWd c) (e : h' = zwr h (c + 4) j v) (hv : (-2147483648) ≤ v ∧ v ≤ 2147483647) : okC h' := okC_w s e (pa_9_1_2 hc hv j) (na_9_1_2 hc).1 (fun q => (na_9_1_2 hc).2 q.1)
theorem fb_9_1_3 {h : zM} {c : Int} (s : okC h) (hc : zWd c) : 0 ≤ h.2 (c + 1) 3 ∧ h.2 (c + 1) 3 ≤ 18 := okC_k s (kk_9_1 hc) 3
theorem fb_9_1_4 {h : zM} {c : Int} (s : okC h) (hc : zWd c) : (-2147483648) ≤ h.2 (c + 1) 4 ∧ h.2 (c + 1) 4 ≤ 2147483647 := okC_k s (kk_9_1 hc) 4
theorem fw_9_1_4 {h h' : zM} {c : Int} {v : Int} (s : okC h) (hc : zWd c) (e : h' = zwr h (c + 1) 4 v) (hv : (-2147483648) ≤ v ∧ v ≤ 2147483647) : okC h' := okC_w s e (PC_k (kk_9_1 hc) hv) (nk_9_1 hc) (fun q => absurd q.1 (by have := zWd_b hc; omega))
theorem fb_9_1_5 {h : zM} {c : Int} (s : okC h) (hc : zWd c) : (-2147483648) ≤ h.2 (c + 1) 5 ∧ h.2 (c + 1) 5 ≤ 2147483647 := okC_k s (kk_9_1 hc) 5
theorem fw_9_1_5 {h h' : zM} {c : Int} {v : Int} (s : okC h) (hc : zWd c) (e : h' = zwr h (c + 1) 5 v) (hv : (-2147483648) ≤ v ∧ v ≤ 2147483647) : okC h' := okC_w s e (PC_k (kk_9_1 hc) hv) (nk_9_1 hc) (fun q => absurd q.1 (by have := zWd_b hc; omega))
theorem fb_9_1_6 {h : zM} {c : Int} (s : okC h) (hc : zWd c) : 0 ≤ h.2 (c + 1) 6 ∧ h.2 (c + 1) 6 ≤ 719 := okC_k s (kk_9_1 hc) 6
theorem fb_9_1_7 {h : zM} {c : Int} (s : okC h) (hc : zWd c) : (-2147483648) ≤ h.2 (c + 1) 7 ∧ h.2 (c + 1) 7 ≤ 2147483647 := okC_k s (kk_9_1 hc) 7
theorem fw_9_1_7 {h h' : zM} {c : Int} {v : Int} (s : okC h) (hc : zWd c) (e : h' = zwr h (c + 1) 7 v) (hv : (-2147483648) ≤ v ∧ v ≤ 2147483647) : okC h' := okC_w s e (PC_k (kk_9_1 hc) hv) (nk_9_1 hc) (fun q => absurd q.1 (by have := zWd_b hc; omega))
theorem fb_9_1_8 {h : zM} {c : Int} (s : okC h) (hc : zWd c) : (-2147483648) ≤ h.2 (c + 1) 8 ∧ h.2 (c + 1) 8 ≤ 2147483647 := okC_k s (kk_9_1 hc) 8
theorem fw_9_1_8 {h h' : zM} {c : Int} {v : Int} (s : okC h) (hc : zWd c) (e : h' = zwr h (c + 1) 8 v) (hv : (-2147483648) ≤ v ∧ v ≤ 2147483647) : okC h' := okC_w s e (PC_k (kk_9_1 hc) hv) (nk_9_1 hc) (fun q => absurd q.1 (by have := zWd_b hc; omega))
theorem fb_9_1_10 {h : zM} {c : Int} (s : okC h) (hc : zWd c) : (-2147483648) ≤ h.2 (c + 1) 10 ∧ h.2 (c + 1) 10 ≤ 2147483647 := okC_k s (kk_9_1 hc) 10
theorem fw_9_1_10 {h h' : zM} {c : Int} {v : Int} (s : okC h) (hc : zWd c) (e : h' = zwr h (c + 1) 10 v) (hv : (-2147483648) ≤ v ∧ v ≤ 2147483647) : okC h' := okC_w s e (PC_k (kk_9_1 hc) hv) (nk_9_1 hc) (fun q => absurd q.1 (by have := zWd_b hc; omega))
theorem fb_9_1_11 {h : zM} {c : Int} (s : okC h) (hc : zWd c) : (-2147483648) ≤ h.2 (c + 1) 11 ∧ h.2 (c + 1) 11 ≤ 2147483647 := okC_k s (kk_9_1 hc) 11
theorem fw_9_1_11 {h h' : zM} {c : Int} {v : Int} (s : okC h) (hc : zWd c) (e : h' = zwr h (c + 1) 11 v) (hv : (-2147483648) ≤ v ∧ v ≤ 2147483647) : okC h' := okC_w s e (PC_k (kk_9_1 hc) hv) (nk_9_1 hc) (fun q => absurd q.1 (by have := zWd_b hc; omega))
theorem fb_9_1_12 {h : zM} {c : Int} (s : okC h) (hc : zWd c) : (-2147483648) ≤ h.2 (c + 1) 12 ∧ h.2 (c + 1) 12 ≤ 2147483647 := okC_k s (kk_9_1 hc) 12
theorem fw_9_1_12 {h h' : zM} {c : Int} {v : Int} (s : okC h) (hc : zWd c) (e : h' = zwr h (c + 1) 12 v) (hv : (-2147483648) ≤ v ∧ v ≤ 2147483647) : okC h' := okC_w s e (PC_k (kk_9_1 hc) hv) (nk_9_1 hc) (fun q => absurd q.1 (by have := zWd_b hc; omega))
theorem zs_9_5 {c : Int} (hc : zWd c) : zLw (c + 5) := by unfold zWd at hc; unfold zLw; omega
theorem kk_9_5 {c : Int} (hc : zWd c) : kC (c + 5) = 3 := by unfold zWd at hc; rcases hc with rfl | rfl | rfl <;> decide +kernel
theorem k_9_5 {h : zM} {c : Int} (s : okC h) (hc : zWd c) : shC (c + 5) = .inl 3 ∧ 0 ≤ (c + 5) ∧ (c + 5) < h.1 := kLc s (kk_9_5 hc) rfl (by have := zWd_b hc; omega)
theorem rf_9_5_0 {h : zM} {c : Int} (s : okC h) (hc : zWd c) : h.2 (c + 5) 0 = (c + 6) := zeqe (a := (c + 5) + 1) (okC_k s (kk_9_5 hc) 0) (by omega)
theorem kka_9_5_0 {c : Int} (hc : zWd c) : kC (c + 6) = 23 := by unfold zWd at hc; rcases hc with rfl | rfl | rfl <;> decide +kernel
theorem ka_9_5_0 {h : zM} {c : Int} (s : okC h) (hc : zWd c) : shC (c + 6) = .inr (0, 16) ∧ 0 ≤ (c + 6) ∧ (c + 6) < h.1 := kLc s (kka_9_5_0 hc) rfl (by have := zWd_b hc; omega)
theorem ab_9_5_0 {h : zM} {c : Int} (s : okC h) (hc : zWd c) (j : Int) : (-2147483648) ≤ h.2 (c + 6) j ∧ h.2 (c + 6) j ≤ 2147483647 := okC_k s (kka_9_5_0 hc) j
theorem rf_9_5_1 {h : zM} {c : Int} (s : okC h) (hc : zWd c) : h.2 (c + 5) 1 = (c + 7) := zeqe (a := (c + 5) + 2) (okC_k s (kk_9_5 hc) 1) (by omega)
theorem kka_9_5_1 {c : Int} (hc : zWd c) : kC (c + 7) = 24 := by unfold zWd at hc; rcases hc with rfl | rfl | rfl <;> decide +kernel
theorem ka_9_5_1 {h : zM} {c : Int} (s : okC h) (hc : zWd c) : shC (c + 7) = .inr (0, 16) ∧ 0 ≤ (c + 7) ∧ (c + 7) < h.1 := kLc s (kka_9_5_1 hc) rfl (by have := zWd_b hc; omega)
theorem ab_9_5_1 {h : zM} {c : Int} (s : okC h) (hc : zWd c) (j : Int) : 0 ≤ h.2 (c + 7) j ∧ h.2 (c + 7) j ≤ 400 := okC_k s (kka_9_5_1 hc) j
theorem rf_9_5_2 {h : zM} {c : Int} (s : okC h) (hc : zWd c) : h.2 (c + 5) 2 = (c + 8) := zeqe (a := (c + 5) + 3) (okC_k s (kk_9_5 hc) 2) (by omega)
theorem kka_9_5_2 {c : Int} (hc : zWd c) : kC (c + 8) = 25 := by unfold zWd at hc; rcases hc with rfl | rfl | rfl <;> decide +kernel
theorem ka_9_5_2 {h : zM} {c : Int} (s : okC h) (hc : zWd c) : shC (c + 8) = .inr (0, 16) ∧ 0 ≤ (c + 8) ∧ (c + 8) < h.1 := kLc s (kka_9_5_2 hc) rfl (by have := zWd_b hc; omega)
theorem ab_9_5_2 {h : zM} {c : Int} (s : okC h) (hc : zWd c) (j : Int) : 0 ≤ h.2 (c + 8) j ∧ h.2 (c + 8) j ≤ 400 := okC_k s (kka_9_5_2 hc) j
theorem rf_9_5_3 {h : zM} {c : Int} (s : okC h) (hc : zWd c) : h.2 (c + 5) 3 = (c + 9) := zeqe (a := (c + 5) + 4) (okC_k s (kk_9_5 hc) 3) (by omega)
theorem kka_9_5_3 {c : Int} (hc : zWd c) : kC (c + 9) = 26 := by unfold zWd at hc; rcases hc with rfl | rfl | rfl <;> decide +kernel
theorem ka_9_5_3 {h : zM} {c : Int} (s : okC h) (hc : zWd c) : shC (c + 9) = .inr (0, 16) ∧ 0 ≤ (c + 9) ∧ (c + 9) < h.1 := kLc s (kka_9_5_3 hc) rfl (by have := zWd_b hc; omega)
theorem ab_9_5_3 {h : zM} {c : Int} (s : okC h) (hc : zWd c) (j : Int) : 0 ≤ h.2 (c + 9) j ∧ h.2 (c + 9) j ≤ 400 := okC_k s (kka_9_5_3 hc) j
theorem fb_9_5_6 {h : zM} {c : Int} (s : okC h) (hc : zWd c) : 0 ≤ h.2 (c + 5) 6 ∧ h.2 (c + 5) 6 ≤ 16 := okC_k s (kk_9_5 hc) 6
theorem zs_9_12 {c : Int} (hc : zWd c) : zPl (c + 12) := by unfold zWd at hc; unfold zPl; omega
theorem kk_9_12 {c : Int} (hc : zWd c) : kC (c + 12) = 4 := by unfold zWd at hc; rcases hc with rfl | rfl | rfl <;> decide +kernel
theorem k_9_12 {h : zM} {c : Int} (s : okC h) (hc : zWd c) : shC (c + 12) = .inl 4 ∧ 0 ≤ (c + 12) ∧ (c + 12) < h.1 := kLc s (kk_9_12 hc) rfl (by have := zWd_b hc; omega)
theorem rf_9_12_0 {h : zM} {c : Int} (s : okC h) (hc : zWd c) : h.2 (c + 12) 0 = (c + 13) := zeqe (a := (c + 12) + 1) (okC_k s (kk_9_12 hc) 0) (by omega)
theorem kka_9_12_0 {c : Int} (hc : zWd c) : kC (c + 13) = 29 := by unfold zWd at hc; rcases hc with rfl | rfl | rfl <;> decide +kernel
theorem ka_9_12_0 {h : zM} {c : Int} (s : okC h) (hc : zWd c) : shC (c + 13) = .inr (0, 16) ∧ 0 ≤ (c + 13) ∧ (c + 13) < h.1 := kLc s (kka_9_12_0 hc) rfl (by have := zWd_b hc; omega)
theorem ab_9_12_0 {h : zM} {c : Int} (s : okC h) (hc : zWd c) (j : Int) : (-2147483648) ≤ h.2 (c + 13) j ∧ h.2 (c + 13) j ≤ 2147483647 := okC_k s (kka_9_12_0 hc) j
theorem rf_9_12_1 {h : zM} {c : Int} (s : okC h) (hc : zWd c) : h.2 (c + 12) 1 = (c + 14) := zeqe (a := (c + 12) + 2) (okC_k s (kk_9_12 hc) 1) (by omega)
theorem kka_9_12_1 {c : Int} (hc : zWd c) : kC (c + 14) = 30 := by unfold zWd at hc; rcases hc with rfl | rfl | rfl <;> decide +kernel
theorem ka_9_12_1 {h : zM} {c : Int} (s : okC h) (hc : zWd c) : shC (c + 14) = .inr (0, 16) ∧ 0 ≤ (c + 14) ∧ (c + 14) < h.1 := kLc s (kka_9_12_1 hc) rfl (by have := zWd_b hc; omega)
theorem ab_9_12_1 {h : zM} {c : Int} (s : okC h) (hc : zWd c) (j : Int) : (-2147483648) ≤ h.2 (c + 14) j ∧ h.2 (c + 14) j ≤ 2147483647 := okC_k s (kka_9_12_1 hc) j
theorem rf_9_12_2 {h : zM} {c : Int} (s : okC h) (hc : zWd c) : h.2 (c + 12) 2 = (c + 15) := zeqe (a := (c + 12) + 3) (okC_k s (kk_9_12 hc) 2) (by omega)
theorem kka_9_12_2 {c : Int} (hc : zWd c) : kC (c + 15) = 31 := by unfold zWd at hc; rcases hc with rfl | rfl | rfl <;> decide +kernel
theorem ka_9_12_2 {h : zM} {c : Int} (s : okC h) (hc : zWd c) : shC (c + 15) = .inr (0, 16) ∧ 0 ≤ (c + 15) ∧ (c + 15) < h.1 := kLc s (kka_9_12_2 hc) rfl (by have := zWd_b hc; omega)
theorem ab_9_12_2 {h : zM} {c : Int} (s : okC h) (hc : zWd c) (j : Int) : (-2147483648) ≤ h.2 (c + 15) j ∧ h.2 (c + 15) j ≤ 2147483647 := okC_k s (kka_9_12_2 hc) j
theorem fb_9_12_3 {h : zM} {c : Int} (s : okC h) (hc : zWd c) : 0 ≤ h.2 (c + 12) 3 ∧ h.2 (c + 12) 3 ≤ 16 := okC_k s (kk_9_12 hc) 3
theorem zs_9_16 {c : Int} (hc : zWd c) : zPl (c + 16) := by unfold zWd at hc; unfold zPl; omega
theorem kk_9_16 {c : Int} (hc : zWd c) : kC (c + 16) = 4 := by unfold zWd at hc; rcases hc with rfl | rfl | rfl <;> decide +kernel
theorem k_9_16 {h : zM} {c : Int} (s : okC h) (hc : zWd c) : shC (c + 16) = .inl 4 ∧ 0 ≤ (c + 16) ∧ (c + 16) < h.1 := kLc s (kk_9_16 hc) rfl (by have := zWd_b hc; omega)
theorem rf_9_16_0 {h : zM} {c : Int} (s : okC h) (hc : zWd c) : h.2 (c + 16) 0 = (c + 17) := zeqe (a := (c + 16) + 1) (okC_k s (kk_9_16 hc) 0) (by omega)
theorem kka_9_16_0 {c : Int} (hc : zWd c) : kC (c + 17) = 29 := by unfold zWd at hc; rcases hc with rfl | rfl | rfl <;> decide +kernel
theorem ka_9_16_0 {h : zM} {c : Int} (s : okC h) (hc : zWd c) : shC (c + 17) = .inr (0, 16) ∧ 0 ≤ (c + 17) ∧ (c + 17) < h.1 := kLc s (kka_9_16_0 hc) rfl (by have := zWd_b hc; omega)
theorem ab_9_16_0 {h : zM} {c : Int} (s : okC h) (hc : zWd c) (j : Int) : (-2147483648) ≤ h.2 (c + 17) j ∧ h.2 (c + 17) j ≤ 2147483647 := okC_k s (kka_9_16_0 hc) j
theorem rf_9_16_1 {h : zM} {c : Int} (s : okC h) (hc : zWd c) : h.2 (c + 16) 1 = (c + 18) := zeqe (a := (c + 16) + 2) (okC_k s (kk_9_16 hc) 1) (by omega)
theorem kka_9_16_1 {c : Int} (hc : zWd c) : kC (c + 18) = 30 := by unfold zWd at hc; rcases hc with rfl | rfl | rfl <;> decide +kernel
theorem ka_9_16_1 {h : zM} {c : Int} (s : okC h) (hc : zWd c) : shC (c + 18) = .inr (0, 16) ∧ 0 ≤ (c + 18) ∧ (c + 18) < h.1 := kLc s (kka_9_16_1 hc) rfl (by have := zWd_b hc; omega)
theorem ab_9_16_1 {h : zM} {c : Int} (s : okC h) (hc : zWd c) (j : Int) : (-2147483648) ≤ h.2 (c + 18) j ∧ h.2 (c + 18) j ≤ 2147483647 := okC_k s (kka_9_16_1 hc) j
theorem rf_9_16_2 {h : zM} {c : Int} (s : okC h) (hc : zWd c) : h.2 (c + 16) 2 = (c + 19) := zeqe (a := (c + 16) + 3) (okC_k s (kk_9_16 hc) 2) (by omega)
theorem kka_9_16_2 {c : Int} (hc : zWd c) : kC (c + 19) = 31 := by unfold zWd at hc; rcases hc with rfl | rfl | rfl <;> decide +kernel
theorem ka_9_16_2 {h : zM} {c : Int} (s : okC h) (hc : zWd c) : shC (c + 19) = .inr (0, 16) ∧ 0 ≤ (c + 19) ∧ (c + 19) < h.1 := kLc s (kka_9_16_2 hc) rfl (by have := zWd_b hc; omega)
theorem ab_9_16_2 {h : zM} {c : Int} (s : okC h) (hc : zWd c) (j : Int) : (-2147483648) ≤ h.2 (c + 19) j ∧ h.2 (c + 19) j ≤ 2147483647 := okC_k s (kka_9_16_2 hc) j
theorem fb_9_16_3 {h : zM} {c : Int} (s : okC h) (hc : zWd c) : 0 ≤ h.2 (c + 16) 3 ∧ h.2 (c + 16) 3 ≤ 16 := okC_k s (kk_9_16 hc) 3
theorem zs_9_20 {c : Int} (hc : zWd c) : zKi (c + 20) := by unfold zWd at hc; unfold zKi; omega
theorem kk_9_20 {c : Int} (hc : zWd c) : kC (c + 20) = 2 := by unfold zWd at hc; rcases hc with rfl | rfl | rfl <;> decide +kernel
theorem k_9_20 {h : zM} {c : Int} (s : okC h) (hc : zWd c) : shC (c + 20) = .inl 2 ∧ 0 ≤ (c + 20) ∧ (c + 20) < h.1 := kLc s (kk_9_20 hc) rfl (by have := zWd_b hc; omega)
theorem rf_9_20_0 {h : zM} {c : Int} (s : okC h) (hc : zWd c) : h.2 (c + 20) 0 = (c + 21) := zeqe (a := (c + 20) + 1) (okC_k s (kk_9_20 hc) 0) (by omega)
theorem kka_9_20_0 {c : Int} (hc : zWd c) : kC (c + 21) = 32 := by unfold zWd at hc; rcases hc with rfl | rfl | rfl <;> decide +kernel
theorem ka_9_20_0 {h : zM} {c : Int} (s : okC h) (hc : zWd c) : shC (c + 21) = .inr (0, 18) ∧ 0 ≤ (c + 21) ∧ (c + 21) < h.1 := kLc s (kka_9_20_0 hc) rfl (by have := zWd_b hc; omega)
theorem ab_9_20_0 {h : zM} {c : Int} (s : okC h) (hc : zWd c) (j : Int) : (-2147483648) ≤ h.2 (c + 21) j ∧ h.2 (c + 21) j ≤ 2147483647 := okC_k s (kka_9_20_0 hc) j
theorem zs_9_22 {c : Int} (hc : zWd c) : zBo (c + 22) := by unfold zWd at hc; unfold zBo; omega
theorem kk_9_22 {c : Int} (hc : zWd c) : kC (c + 22) = 0 := by unfold zWd at hc; rcases hc with rfl | rfl | rfl <;> decide +kernel
theorem k_9_22 {h : zM} {c : Int} (s : okC h) (hc : zWd c) : shC (c + 22) = .inl 0 ∧ 0 ≤ (c + 22) ∧ (c + 22) < h.1 := kLc s (kk_9_22 hc) rfl (by have := zWd_b hc; omega)
theorem zs_9_27 {c : Int} (hc : zWd c) : zPu (c + 27) := by unfold zWd at hc; unfold zPu; omega
theorem kk_9_27 {c : Int} (hc : zWd c) : kC (c + 27) = 5 := by unfold zWd at hc; rcases hc with rfl | rfl | rfl <;> decide +kernel
theorem k_9_27 {h : zM} {c : Int} (s : okC h) (hc : zWd c) : shC (c + 27) = .inl 5 ∧ 0 ≤ (c + 27) ∧ (c + 27) < h.1 := kLc s (kk_9_27 hc) rfl (by have := zWd_b hc; omega)
theorem kk_1_0 {c : Int} (hc : zIs c) : kC c = 1 := by unfold zIs at hc; rcases hc with rfl | rfl | rfl | rfl | rfl | rfl | rfl | rfl | rfl <;> decide +kernel
theorem nk_1_0 {c : Int} (hc : zIs c) : ¬ c = 114 := by unfold zIs at hc; omega
theorem k_1_0 {h : zM} {c : Int} (s : okC h) (hc : zIs c) : shC c = .inl 1 ∧ 0 ≤ c ∧ c < h.1 := kLc s (kk_1_0 hc) rfl (by have := zIs_b hc; omega)
theorem rf_1_0_0 {h : zM} {c : Int} (s : okC h) (hc : zIs c) : h.2 c 0 = (c + 1) := zeqe (a := c + 1) (okC_k s (kk_1_0 hc) 0) (by omega)
theorem kka_1_0_0 {c : Int} (hc : zIs c) : kC (c + 1) = 20 := by unfold zIs at hc; rcases hc with rfl | rfl | rfl | rfl | rfl | rfl | rfl | rfl | rfl <;> decide +kernel
theorem na_1_0_0 {c : Int} (hc : zIs c) : ¬ (c + 1) = 114 ∧ ¬ (c + 1) = 0 := by unfold zIs at hc; omega
theorem ka_1_0_0 {h : zM} {c : Int} (s : okC h) (hc : zIs c) : shC (c + 1) = .inr (0, 18) ∧ 0 ≤ (c + 1) ∧ (c + 1) < h.1 := kLc s (kka_1_0_0 hc) rfl (by have := zIs_b hc; omega)
theorem pa_1_0_0 {c : Int} {v : Int} (hc : zIs c) (hv : (-2147483648) ≤ v ∧ v ≤ 2147483647) (j : Int) : PC (c + 1) j v := PC_k (kka_1_0_0 hc) hv
theorem ab_1_0_0 {h : zM} {c : Int} (s : okC h) (hc : zIs c) (j : Int) : (-2147483648) ≤ h.2 (c + 1) j ∧ h.2 (c + 1) j ≤ 2147483647 := okC_k s (kka_1_0_0 hc) j
theorem aw_1_0_0 {h h' : zM} {c : Int} {v j : Int} (s : okC h) (hc : zIs c) (e : h' = zwr h (c + 1) j v) (hv : (-2147483648) ≤ v ∧ v ≤ 2147483647) : okC h' := okC_w s e (pa_1_0_0 hc hv j) (na_1_0_0 hc).1 (fun q => (na_1_0_0 hc).2 q.1)
theorem rf_1_0_1 {h : zM} {c : Int} (s : okC h) (hc : zIs c) : h.2 c 1 = (c + 2) := zeqe (a := c + 2) (okC_k s (kk_1_0 hc) 1) (by omega)
theorem kka_1_0_1 {c : Int} (hc : zIs c) : kC (c + 2) = 21 := by unfold zIs at hc; rcases hc with rfl | rfl | rfl | rfl | rfl | rfl | rfl | rfl | rfl <;> decide +kernel
theorem na_1_0_1 {c : Int} (hc : zIs c) : ¬ (c + 2) = 114 ∧ ¬ (c + 2) = 0 := by unfold zIs at hc; omega
theorem ka_1_0_1 {h : zM} {c : Int} (s : okC h) (hc : zIs c) : shC (c + 2) = .inr (0, 18) ∧ 0 ≤ (c + 2) ∧ (c + 2) < h.1 := kLc s (kka_1_0_1 hc) rfl (by have := zIs_b hc; omega)
theorem pa_1_0_1 {c : Int} {v : Int} (hc : zIs c) (hv : (-2147483648) ≤ v ∧ v ≤ 2147483647) (j : Int) : PC (c + 2) j v := PC_k (kka_1_0_1 hc) hv
theorem ab_1_0_1 {h : zM} {c : Int} (s : okC h) (hc : zIs c) (j : Int) : (-2147483648) ≤ h.2 (c + 2) j ∧ h.2 (c + 2) j ≤ 2147483647 := okC_k s (kka_1_0_1 hc) j
theorem aw_1_0_1 {h h' : zM} {c : Int} {v j : Int} (s : okC h) (hc : zIs c) (e : h' = zwr h (c + 2) j v) (hv : (-2147483648) ≤ v ∧ v ≤ 2147483647) : okC h' := okC_w s e (pa_1_0_1 hc hv j) (na_1_0_1 hc).1 (fun q => (na_1_0_1 hc).2 q.1)
theorem rf_1_0_2 {h : zM} {c : Int} (s : okC h) (hc : zIs c) : h.2 c 2 = (c + 3) := zeqe (a := c + 3) (okC_k s (kk_1_0 hc) 2) (by omega)
theorem kka_1_0_2 {c : Int} (hc : zIs c) : kC (c + 3) = 22 := by unfold zIs at hc; rcases hc with rfl | rfl | rfl | rfl | rfl | rfl | rfl | rfl | rfl <;> decide +kernel
theorem na_1_0_2 {c : Int} (hc : zIs c) : ¬ (c + 3) = 114 ∧ ¬ (c + 3) = 0 := by unfold zIs at hc; omega
theorem ka_1_0_2 {h : zM} {c : Int} (s : okC h) (hc : zIs c) : shC (c + 3) = .inr (0, 18) ∧ 0 ≤ (c + 3) ∧ (c + 3) < h.1 := kLc s (kka_1_0_2 hc) rfl (by have := zIs_b hc; omega)
theorem pa_1_0_2 {c : Int} {v : Int} (hc : zIs c) (hv : (-2147483648) ≤ v ∧ v ≤ 2147483647) (j : Int) : PC (c + 3) j v := PC_k (kka_1_0_2 hc) hv
theorem ab_1_0_2 {h : zM} {c : Int} (s : okC h) (hc : zIs c) (j : Int) : (-2147483648) ≤ h.2 (c + 3) j ∧ h.2 (c + 3) j ≤ 2147483647 := okC_k s (kka_1_0_2 hc) j
theorem aw_1_0_2 {h h' : zM} {c : Int} {v j : Int} (s : okC h) (hc : zIs c) (e : h' = zwr h (c + 3) j v) (hv : (-2147483648) ≤ v ∧ v ≤ 2147483647) : okC h' := okC_w s e (pa_1_0_2 hc hv j) (na_1_0_2 hc).1 (fun q => (na_1_0_2 hc).2 q.1)
theorem fb_1_0_3 {h : zM} {c : Int} (s : okC h) (hc : zIs c) : 0 ≤ h.2 c 3 ∧ h.2 c 3 ≤ 18 := okC_k s (kk_1_0 hc) 3
theorem fw_1_0_3 {h h' : zM} {c : Int} {v : Int} (s : okC h) (hc : zIs c) (e : h' = zwr h c 3 v) (hv : 0 ≤ v ∧ v ≤ 18) : okC h' := okC_w s e (PC_k (kk_1_0 hc) hv) (nk_1_0 hc) (fun q => absurd q.1 (by have := zIs_b hc; omega))
theorem fb_1_0_4 {h : zM} {c : Int} (s : okC h) (hc : zIs c) : (-2147483648) ≤ h.2 c 4 ∧ h.2 c 4 ≤ 2147483647 := okC_k s (kk_1_0 hc) 4
theorem fw_1_0_4 {h h' : zM} {c : Int} {v : Int} (s : okC h) (hc : zIs c) (e : h' = zwr h c 4 v) (hv : (-2147483648) ≤ v ∧ v ≤ 2147483647) : okC h' := okC_w s e (PC_k (kk_1_0 hc) hv) (nk_1_0 hc) (fun q => absurd q.1 (by have := zIs_b hc; omega))
theorem fb_1_0_5 {h : zM} {c : Int} (s : okC h) (hc : zIs c) : (-2147483648) ≤ h.2 c 5 ∧ h.2 c 5 ≤ 2147483647 := okC_k s (kk_1_0 hc) 5
theorem fw_1_0_5 {h h' : zM} {c : Int} {v : Int} (s : okC h) (hc : zIs c) (e : h' = zwr h c 5 v) (hv : (-2147483648) ≤ v ∧ v ≤ 2147483647) : okC h' := okC_w s e (PC_k (kk_1_0 hc) hv) (nk_1_0 hc) (fun q => absurd q.1 (by have := zIs_b hc; omega))
theorem fb_1_0_6 {h : zM} {c : Int} (s : okC h) (hc : zIs c) : 0 ≤ h.2 c 6 ∧ h.2 c 6 ≤ 719 := okC_k s (kk_1_0 hc) 6
theorem fw_1_0_6 {h h' : zM} {c : Int} {v : Int} (s : okC h) (hc : zIs c) (e : h' = zwr h c 6 v) (hv : 0 ≤ v ∧ v ≤ 719) : okC h' := okC_w s e (PC_k (kk_1_0 hc) hv) (nk_1_0 hc) (fun q => absurd q.1 (by have := zIs_b hc; omega))
theorem fb_1_0_7 {h : zM} {c : Int} (s : okC h) (hc : zIs c) : (-2147483648) ≤ h.2 c 7 ∧ h.2 c 7 ≤ 2147483647 := okC_k s (kk_1_0 hc) 7
theorem fw_1_0_7 {h h' : zM} {c : Int} {v : Int} (s : okC h) (hc : zIs c) (e : h' = zwr h c 7 v) (hv : (-2147483648) ≤ v ∧ v ≤ 2147483647) : okC h' := okC_w s e (PC_k (kk_1_0 hc) hv) (nk_1_0 hc) (fun q => absurd q.1 (by have := zIs_b hc; omega))
theorem fb_1_0_8 {h : zM} {c : Int} (s : okC h) (hc : zIs c) : (-2147483648) ≤ h.2 c 8 ∧ h.2 c 8 ≤ 2147483647 := okC_k s (kk_1_0 hc) 8
theorem fw_1_0_8 {h h' : zM} {c : Int} {v : Int} (s : okC h) (hc : zIs c) (e : h' = zwr h c 8 v) (hv : (-2147483648) ≤ v ∧ v ≤ 2147483647) : okC h' := okC_w s e (PC_k (kk_1_0 hc) hv) (nk_1_0 hc) (fun q => absurd q.1 (by have := zIs_b hc; omega))
theorem fb_1_0_9 {h : zM} {c : Int} (s : okC h) (hc : zIs c) : (-2147483648) ≤ h.2 c 9 ∧ h.2 c 9 ≤ 2147483647 := okC_k s (kk_1_0 hc) 9
theorem fw_1_0_9 {h h' : zM} {c : Int} {v : Int} (s : okC h) (hc : zIs c) (e : h' = zwr h c 9 v) (hv : (-2147483648) ≤ v ∧ v ≤ 2147483647) : okC h' := okC_w s e (PC_k (kk_1_0 hc) hv) (nk_1_0 hc) (fun q => absurd q.1 (by have := zIs_b hc; omega))
theorem fb_1_0_10 {h : zM} {c : Int} (s : okC h) (hc : zIs c) : (-2147483648) ≤ h.2 c 10 ∧ h.2 c 10 ≤ 2147483647 := okC_k s (kk_1_0 hc) 10
theorem fw_1_0_10 {h h' : zM} {c : Int} {v : Int} (s : okC h) (hc : zIs c) (e : h' = zwr h c 10 v) (hv : (-2147483648) ≤ v ∧ v ≤ 2147483647) : okC h' := okC_w s e (PC_k (kk_1_0 hc) hv) (nk_1_0 hc) (fun q => absurd q.1 (by have := zIs_b hc; omega))
theorem fb_1_0_11 {h : zM} {c : Int} (s : okC h) (hc : zIs c) : (-2147483648) ≤ h.2 c 11 ∧ h.2 c 11 ≤ 2147483647 := okC_k s (kk_1_0 hc) 11
theorem fw_1_0_11 {h h' : zM} {c : Int} {v : Int} (s : okC h) (hc : zIs c) (e : h' = zwr h c 11 v) (hv : (-2147483648) ≤ v ∧ v ≤ 2147483647) : okC h' := okC_w s e (PC_k (kk_1_0 hc) hv) (nk_1_0 hc) (fun q => absurd q.1 (by have := zIs_b hc; omega))
theorem fb_1_0_12 {h : zM} {c : Int} (s : okC h) (hc : zIs c) : (-2147483648) ≤ h.2 c 12 ∧ h.2 c 12 ≤ 2147483647 := okC_k s (kk_1_0 hc) 12
theorem fw_1_0_12 {h h' : zM} {c : Int} {v : Int} (s : okC h) (hc : zIs c) (e : h' = zwr h c 12 v) (hv : (-2147483648) ≤ v ∧ v ≤ 2147483647) : okC h' := okC_w s e (PC_k (kk_1_0 hc) hv) (nk_1_0 hc) (fun q => absurd q.1 (by have := zIs_b hc; omega))
theorem fb_1_0_13 {h : zM} {c : Int} (s : okC h) (hc : zIs c) : (-2147483648) ≤ h.2 c 13 ∧ h.2 c 13 ≤ 2147483647 := okC_k s (kk_1_0 hc) 13
theorem fw_1_0_13 {h h' : zM} {c : Int} {v : Int} (s : okC h) (hc : zIs c) (e : h' = zwr h c 13 v) (hv : (-2147483648) ≤ v ∧ v ≤ 2147483647) : okC h' := okC_w s e (PC_k (kk_1_0 hc) hv) (nk_1_0 hc) (fun q => absurd q.1 (by have := zIs_b hc; omega))
theorem kk_3_0 {c : Int} (hc : zLw c) : kC c = 3 := by unfold zLw at hc; rcases hc with rfl | rfl | rfl <;> decide +kernel
theorem nk_3_0 {c : Int} (hc : zLw c) : ¬ c = 114 := by unfold zLw at hc; omega
theorem k_3_0 {h : zM} {c : Int} (s : okC h) (hc : zLw c) : shC c = .inl 3 ∧ 0 ≤ c ∧ c < h.1 := kLc s (kk_3_0 hc) rfl (by have := zLw_b hc; omega)
theorem rf_3_0_0 {h : zM} {c : Int} (s : okC h) (hc : zLw c) : h.2 c 0 = (c + 1) := zeqe (a := c + 1) (okC_k s (kk_3_0 hc) 0) (by omega)
theorem kka_3_0_0 {c : Int} (hc : zLw c) : kC (c + 1) = 23 := by unfold zLw at hc; rcases hc with rfl | rfl | rfl <;> decide +kernel
theorem na_3_0_0 {c : Int} (hc : zLw c) : ¬ (c + 1) = 114 ∧ ¬ (c + 1) = 0 := by unfold zLw at hc; omega
theorem ka_3_0_0 {h : zM} {c : Int} (s : okC h) (hc : zLw c) : shC (c + 1) = .inr (0, 16) ∧ 0 ≤ (c + 1) ∧ (c + 1) < h.1 := kLc s (kka_3_0_0 hc) rfl (by have := zLw_b hc; omega)
theorem pa_3_0_0 {c : Int} {v : Int} (hc : zLw c) (hv : (-2147483648) ≤ v ∧ v ≤ 2147483647) (j : Int) : PC (c + 1) j v := PC_k (kka_3_0_0 hc) hv
theorem ab_3_0_0 {h : zM} {c : Int} (s : okC h) (hc : zLw c) (j : Int) : (-2147483648) ≤ h.2 (c + 1) j ∧ h.2 (c + 1) j ≤ 2147483647 := okC_k s (kka_3_0_0 hc) j
theorem aw_3_0_0 {h h' : zM} {c : Int} {v j : Int} (s : okC h) (hc : zLw c) (e : h' = zwr h (c + 1) j v) (hv : (-2147483648) ≤ v ∧ v ≤ 2147483647) : okC h' := okC_w s e (pa_3_0_0 hc hv j) (na_3_0_0 hc).1 (fun q => (na_3_0_0 hc).2 q.1)
theorem rf_3_0_1 {h : zM} {c : Int} (s : okC h) (hc : zLw c) : h.2 c 1 = (c + 2) := zeqe (a := c + 2) (okC_k s (kk_3_0 hc) 1) (by omega)
theorem kka_3_0_1 {c : Int} (hc : zLw c) : kC (c + 2) = 24 := by unfold zLw at hc; rcases hc with rfl | rfl | rfl <;> decide +kernel
theorem na_3_0_1 {c : Int} (hc : zLw c) : ¬ (c + 2) = 114 ∧ ¬ (c + 2) = 0 := by unfold zLw at hc; omega
theorem ka_3_0_1 {h : zM} {c : Int} (s : okC h) (hc : zLw c) : shC (c + 2) = .inr (0, 16) ∧ 0 ≤ (c + 2) ∧ (c + 2) < h.1 := kLc s (kka_3_0_1 hc) rfl (by have := zLw_b hc; omega)
theorem pa_3_0_1 {c : Int} {v : Int} (hc : zLw c) (hv : 0 ≤ v ∧ v ≤ 400) (j : Int) : PC (c + 2) j v := PC_k (kka_3_0_1 hc) hv
theorem ab_3_0_1 {h : zM} {c : Int} (s : okC h) (hc : zLw c) (j : Int) : 0 ≤ h.2 (c + 2) j ∧ h.2 (c + 2) j ≤ 400 := okC_k s (kka_3_0_1 hc) j
theorem aw_3_0_1 {h h' : zM} {c : Int} {v j : Int} (s : okC h) (hc : zLw c) (e : h' = zwr h (c + 2) j v) (hv : 0 ≤ v ∧ v ≤ 400) : okC h' := okC_w s e (pa_3_0_1 hc hv j) (na_3_0_1 hc).1 (fun q => (na_3_0_1 hc).2 q.1)
theorem rf_3_0_2 {h : zM} {c : Int} (s : okC h) (hc : zLw c) : h.2 c 2 = (c + 3) := zeqe (a := c + 3) (okC_k s (kk_3_0 hc) 2) (by omega)
theorem kka_3_0_2 {c : Int} (hc : zLw c) : kC (c + 3) = 25 := by unfold zLw at hc; rcases hc with rfl | rfl | rfl <;> decide +kernel
theorem na_3_0_2 {c : Int} (hc : zLw c) : ¬ (c + 3) = 114 ∧ ¬ (c + 3) = 0 := by unfold zLw at hc; omega
theorem ka_3_0_2 {h : zM} {c : Int} (s : okC h) (hc : zLw c) : shC (c + 3) = .inr (0, 16) ∧ 0 ≤ (c + 3) ∧ (c + 3) < h.1 := kLc s (kka_3_0_2 hc) rfl (by have := zLw_b hc; omega)
theorem pa_3_0_2 {c : Int} {v : Int} (hc : zLw c) (hv : 0 ≤ v ∧ v ≤ 400) (j : Int) : PC (c + 3) j v := PC_k (kka_3_0_2 hc) hv
theorem ab_3_0_2 {h : zM} {c : Int} (s : okC h) (hc : zLw c) (j : Int) : 0 ≤ h.2 (c + 3) j ∧ h.2 (c + 3) j ≤ 400 := okC_k s (kka_3_0_2 hc) j
theorem aw_3_0_2 {h h' : zM} {c : Int} {v j : Int} (s : okC h) (hc : zLw c) (e : h' = zwr h (c + 3) j v) (hv : 0 ≤ v ∧ v ≤ 400) : okC h' := okC_w s e (pa_3_0_2 hc hv j) (na_3_0_2 hc).1 (fun q => (na_3_0_2 hc).2 q.1)
theorem rf_3_0_3 {h : zM} {c : Int} (s : okC h) (hc : zLw c) : h.2 c 3 = (c + 4) := zeqe (a := c + 4) (okC_k s (kk_3_0 hc) 3) (by omega)
theorem kka_3_0_3 {c : Int} (hc : zLw c) : kC (c + 4) = 26 := by unfold zLw at hc; rcases hc with rfl | rfl | rfl <;> decide +kernel
theorem na_3_0_3 {c : Int} (hc : zLw c) : ¬ (c + 4) = 114 ∧ ¬ (c + 4) = 0 := by unfold zLw at hc; omega
theorem ka_3_0_3 {h : zM} {c : Int} (s : okC h) (hc : zLw c) : shC (c + 4) = .inr (0, 16) ∧ 0 ≤ (c + 4) ∧ (c + 4) < h.1 := kLc s (kka_3_0_3 hc) rfl (by have := zLw_b hc; omega)
theorem pa_3_0_3 {c : Int} {v : Int} (hc : zLw c) (hv : 0 ≤ v ∧ v ≤ 400) (j : Int) : PC (c + 4) j v := PC_k (kka_3_0_3 hc) hv
theorem ab_3_0_3 {h : zM} {c : Int} (s : okC h) (hc : zLw c) (j : Int) : 0 ≤ h.2 (c + 4) j ∧ h.2 (c + 4) j ≤ 400 := okC_k s (kka_3_0_3 hc) j
theorem aw_3_0_3 {h h' : zM} {c : Int} {v j : Int} (s : okC h) (hc : zLw c) (e : h' = zwr h (c + 4) j v) (hv : 0 ≤ v ∧ v ≤ 400) : okC h' := okC_w s e (pa_3_0_3 hc hv j) (na_3_0_3 hc).1 (fun q => (na_3_0_3 hc).2 q.1)
theorem rf_3_0_4 {h : zM} {c : Int} (s : okC h) (hc : zLw c) : h.2 c 4 = (c + 5) := zeqe (a := c + 5) (okC_k s (kk_3_0 hc) 4) (by omega)
theorem kka_3_0_4 {c : Int} (hc : zLw c) : kC (c + 5) = 27 := by unfold zLw at hc; rcases hc with rfl | rfl | rfl <;> decide +kernel
theorem na_3_0_4 {c : Int} (hc : zLw c) : ¬ (c + 5) = 114 ∧ ¬ (c + 5) = 0 := by unfold zLw at hc; omega
theorem ka_3_0_4 {h : zM} {c : Int} (s : okC h) (hc : zLw c) : shC (c + 5) = .inr (0, 400) ∧ 0 ≤ (c + 5) ∧ (c + 5) < h.1 := kLc s (kka_3_0_4 hc) rfl (by have := zLw_b hc; omega)
theorem pa_3_0_4 {c : Int} {v : Int} (hc : zLw c) (hv : (-2147483648) ≤ v ∧ v ≤ 2147483647) (j : Int) : PC (c + 5) j v := PC_k (kka_3_0_4 hc) hv
theorem ab_3_0_4 {h : zM} {c : Int} (s : okC h) (hc : zLw c) (j : Int) : (-2147483648) ≤ h.2 (c + 5) j ∧ h.2 (c + 5) j ≤ 2147483647 := okC_k s (kka_3_0_4 hc) j
theorem aw_3_0_4 {h h' : zM} {c : Int} {v j : Int} (s : okC h) (hc : zLw c) (e : h' = zwr h (c + 5) j v) (hv : (-2147483648) ≤ v ∧ v ≤ 2147483647) : okC h' := okC_w s e (pa_3_0_4 hc hv j) (na_3_0_4 hc).1 (fun q => (na_3_0_4 hc).2 q.1)
theorem rf_3_0_5 {h : zM} {c : Int} (s : okC h) (hc : zLw c) : h.2 c 5 = (c + 6) := zeqe (a := c + 6) (okC_k s (kk_3_0 hc) 5) (by omega)
theorem kka_3_0_5 {c : Int} (hc : zLw c) : kC (c + 6) = 28 := by unfold zLw at hc; rcases hc with rfl | rfl | rfl <;> decide +kernel
theorem na_3_0_5 {c : Int} (hc : zLw c) : ¬ (c + 6) = 114 ∧ ¬ (c + 6) = 0 := by unfold zLw at hc; omega
theorem ka_3_0_5 {h : zM} {c : Int} (s : okC h) (hc : zLw c) : shC (c + 6) = .inr (0, 64) ∧ 0 ≤ (c + 6) ∧ (c + 6) < h.1 := kLc s (kka_3_0_5 hc) rfl (by have := zLw_b hc; omega)
theorem pa_3_0_5 {c : Int} {v : Int} (hc : zLw c) (hv : (-2147483648) ≤ v ∧ v ≤ 2147483647) (j : Int) : PC (c + 6) j v := PC_k (kka_3_0_5 hc) hv
theorem ab_3_0_5 {h : zM} {c : Int} (s : okC h) (hc : zLw c) (j : Int) : (-2147483648) ≤ h.2 (c + 6) j ∧ h.2 (c + 6) j ≤ 2147483647 := okC_k s (kka_3_0_5 hc) j
theorem aw_3_0_5 {h h' : zM} {c : Int} {v j : Int} (s : okC h) (hc : zLw c) (e : h' = zwr h (c + 6) j v) (hv : (-2147483648) ≤ v ∧ v ≤ 2147483647) : okC h' := okC_w s e (pa_3_0_5 hc hv j) (na_3_0_5 hc).1 (fun q => (na_3_0_5 hc).2 q.1)
theorem fb_3_0_6 {h : zM} {c : Int} (s : okC h) (hc : zLw c) : 0 ≤ h.2 c 6 ∧ h.2 c 6 ≤ 16 := okC_k s (kk_3_0 hc) 6
theorem fw_3_0_6 {h h' : zM} {c : Int} {v : Int} (s : okC h) (hc : zLw c) (e : h' = zwr h c 6 v) (hv : 0 ≤ v ∧ v ≤ 16) : okC h' := okC_w s e (PC_k (kk_3_0 hc) hv) (nk_3_0 hc) (fun q => absurd q.1 (by have := zLw_b hc; omega))
theorem fb_3_0_7 {h : zM} {c : Int} (s : okC h) (hc : zLw c) : 0 ≤ h.2 c 7 ∧ h.2 c 7 ≤ 400 := okC_k s (kk_3_0 hc) 7
theorem fw_3_0_7 {h h' : zM} {c : Int} {v : Int} (s : okC h) (hc : zLw c) (e : h' = zwr h c 7 v) (hv : 0 ≤ v ∧ v ≤ 400) : okC h' := okC_w s e (PC_k (kk_3_0 hc) hv) (nk_3_0 hc) (fun q => absurd q.1 (by have := zLw_b hc; omega))
theorem kk_4_0 {c : Int} (hc : zPl c) : kC c = 4 := by unfold zPl at hc; rcases hc with rfl | rfl | rfl | rfl | rfl | rfl <;> decide +kernel
theorem nk_4_0 {c : Int} (hc : zPl c) : ¬ c = 114 := by unfold zPl at hc; omega
theorem k_4_0 {h : zM} {c : Int} (s : okC h) (hc : zPl c) : shC c = .inl 4 ∧ 0 ≤ c ∧ c < h.1 := kLc s (kk_4_0 hc) rfl (by have := zPl_b hc; omega)
theorem rf_4_0_0 {h : zM} {c : Int} (s : okC h) (hc : zPl c) : h.2 c 0 = (c + 1) := zeqe (a := c + 1) (okC_k s (kk_4_0 hc) 0) (by omega)
theorem kka_4_0_0 {c : Int} (hc : zPl c) : kC (c + 1) = 29 := by unfold zPl at hc; rcases hc with rfl | rfl | rfl | rfl | rfl | rfl <;> decide +kernel
theorem na_4_0_0 {c : Int} (hc : zPl c) : ¬ (c + 1) = 114 ∧ ¬ (c + 1) = 0 := by unfold zPl at hc; omega
theorem ka_4_0_0 {h : zM} {c : Int} (s : okC h) (hc : zPl c) : shC (c + 1) = .inr (0, 16) ∧ 0 ≤ (c + 1) ∧ (c + 1) < h.1 := kLc s (kka_4_0_0 hc) rfl (by have := zPl_b hc; omega)
theorem pa_4_0_0 {c : Int} {v : Int} (hc : zPl c) (hv : (-2147483648) ≤ v ∧ v ≤ 2147483647) (j : Int) : PC (c + 1) j v := PC_k (kka_4_0_0 hc) hv
theorem ab_4_0_0 {h : zM} {c : Int} (s : okC h) (hc : zPl c) (j : Int) : (-2147483648) ≤ h.2 (c + 1) j ∧ h.2 (c + 1) j ≤ 2147483647 := okC_k s (kka_4_0_0 hc) j
theorem aw_4_0_0 {h h' : zM} {c : Int} {v j : Int} (s : okC h) (hc : zPl c) (e : h' = zwr h (c + 1) j v) (hv : (-2147483648) ≤ v ∧ v ≤ 2147483647) : okC h' := okC_w s e (pa_4_0_0 hc hv j) (na_4_0_0 hc).1 (fun q => (na_4_0_0 hc).2 q.1)
theorem rf_4_0_1 {h : zM} {c : Int} (s : okC h) (hc : zPl c) : h.2 c 1 = (c + 2) := zeqe (a := c + 2) (okC_k s (kk_4_0 hc) 1) (by omega)
theorem kka_4_0_1 {c : Int} (hc : zPl c) : kC (c + 2) = 30 := by unfold zPl at hc; rcases hc with rfl | rfl | rfl | rfl | rfl | rfl <;> decide +kernel
theorem na_4_0_1 {c : Int} (hc : zPl c) : ¬ (c + 2) = 114 ∧ ¬ (c + 2) = 0 := by unfold zPl at hc; omega
theorem ka_4_0_1 {h : zM} {c : Int} (s : okC h) (hc : zPl c) : shC (c + 2) = .inr (0, 16) ∧ 0 ≤ (c + 2) ∧ (c + 2) < h.1 := kLc s (kka_4_0_1 hc) rfl (by have := zPl_b hc; omega)
theorem pa_4_0_1 {c : Int} {v : Int} (hc : zPl c) (hv : (-2147483648) ≤ v ∧ v ≤ 2147483647) (j : Int) : PC (c + 2) j v := PC_k (kka_4_0_1 hc) hv
theorem ab_4_0_1 {h : zM} {c : Int} (s : okC h) (hc : zPl c) (j : Int) : (-2147483648) ≤ h.2 (c + 2) j ∧ h.2 (c + 2) j ≤ 2147483647 := okC_k s (kka_4_0_1 hc) j
theorem aw_4_0_1 {h h' : zM} {c : Int} {v j : Int} (s : okC h) (hc : zPl c) (e : h' = zwr h (c + 2) j v) (hv : (-2147483648) ≤ v ∧ v ≤ 2147483647) : okC h' := okC_w s e (pa_4_0_1 hc hv j) (na_4_0_1 hc).1 (fun q => (na_4_0_1 hc).2 q.1)
theorem rf_4_0_2 {h : zM} {c : Int} (s : okC h) (hc : zPl c) : h.2 c 2 = (c + 3) := zeqe (a := c + 3) (okC_k s (kk_4_0 hc) 2) (by omega)
theorem kka_4_0_2 {c : Int} (hc : zPl c) : kC (c + 3) = 31 := by unfold zPl at hc; rcases hc with rfl | rfl | rfl | rfl | rfl | rfl <;> decide +kernel
theorem na_4_0_2 {c : Int} (hc : zPl c) : ¬ (c + 3) = 114 ∧ ¬ (c + 3) = 0 := by unfold zPl at hc; omega
theorem ka_4_0_2 {h : zM} {c : Int} (s : okC h) (hc : zPl c) : shC (c + 3) = .inr (0, 16) ∧ 0 ≤ (c + 3) ∧ (c + 3) < h.1 := kLc s (kka_4_0_2 hc) rfl (by have := zPl_b hc; omega)
theorem pa_4_0_2 {c : Int} {v : Int} (hc : zPl c) (hv : (-2147483648) ≤ v ∧ v ≤ 2147483647) (j : Int) : PC (c + 3) j v := PC_k (kka_4_0_2 hc) hv
theorem ab_4_0_2 {h : zM} {c : Int} (s : okC h) (hc : zPl c) (j : Int) : (-2147483648) ≤ h.2 (c + 3) j ∧ h.2 (c + 3) j ≤ 2147483647 := okC_k s (kka_4_0_2 hc) j
theorem aw_4_0_2 {h h' : zM} {c : Int} {v j : Int} (s : okC h) (hc : zPl c) (e : h' = zwr h (c + 3) j v) (hv : (-2147483648) ≤ v ∧ v ≤ 2147483647) : okC h' := okC_w s e (pa_4_0_2 hc hv j) (na_4_0_2 hc).1 (fun q => (na_4_0_2 hc).2 q.1)
theorem fb_4_0_3 {h : zM} {c : Int} (s : okC h) (hc : zPl c) : 0 ≤ h.2 c 3 ∧ h.2 c 3 ≤ 16 := okC_k s (kk_4_0 hc) 3
theorem fw_4_0_3 {h h' : zM} {c : Int} {v : Int} (s : okC h) (hc : zPl c) (e : h' = zwr h c 3 v) (hv : 0 ≤ v ∧ v ≤ 16) : okC h' := okC_w s e (PC_k (kk_4_0 hc) hv) (nk_4_0 hc) (fun q => absurd q.1 (by have := zPl_b hc; omega))
theorem kk_2_0 {c : Int} (hc : zKi c) : kC c = 2 := by unfold zKi at hc; rcases hc with rfl | rfl | rfl <;> decide +kernel
theorem nk_2_0 {c : Int} (hc : zKi c) : ¬ c = 114 := by unfold zKi at hc; omega
theorem k_2_0 {h : zM} {c : Int} (s : okC h) (hc : zKi c) : shC c = .inl 2 ∧ 0 ≤ c ∧ c < h.1 := kLc s (kk_2_0 hc) rfl (by have := zKi_b hc; omega)
theorem rf_2_0_0 {h : zM} {c : Int} (s : okC h) (hc : zKi c) : h.2 c 0 = (c + 1) := zeqe (a := c + 1) (okC_k s (kk_2_0 hc) 0) (by omega)
theorem kka_2_0_0 {c : Int} (hc : zKi c) : kC (c + 1) = 32 := by unfold zKi at hc; rcases hc with rfl | rfl | rfl <;> decide +kernel
theorem na_2_0_0 {c : Int} (hc : zKi c) : ¬ (c + 1) = 114 ∧ ¬ (c + 1) = 0 := by unfold zKi at hc; omega
theorem ka_2_0_0 {h : zM} {c : Int} (s : okC h) (hc : zKi c) : shC (c + 1) = .inr (0, 18) ∧ 0 ≤ (c + 1) ∧ (c + 1) < h.1 := kLc s (kka_2_0_0 hc) rfl (by have := zKi_b hc; omega)
theorem pa_2_0_0 {c : Int} {v : Int} (hc : zKi c) (hv : (-2147483648) ≤ v ∧ v ≤ 2147483647) (j : Int) : PC (c + 1) j v := PC_k (kka_2_0_0 hc) hv
theorem ab_2_0_0 {h : zM} {c : Int} (s : okC h) (hc : zKi c) (j : Int) : (-2147483648) ≤ h.2 (c + 1) j ∧ h.2 (c + 1) j ≤ 2147483647 := okC_k s (kka_2_0_0 hc) j
theorem aw_2_0_0 {h h' : zM} {c : Int} {v j : Int} (s : okC h) (hc : zKi c) (e : h' = zwr h (c + 1) j v) (hv : (-2147483648) ≤ v ∧ v ≤ 2147483647) : okC h' := okC_w s e (pa_2_0_0 hc hv j) (na_2_0_0 hc).1 (fun q => (na_2_0_0 hc).2 q.1)
theorem fb_2_0_1 {h : zM} {c : Int} (s : okC h) (hc : zKi c) : (-2147483648) ≤ h.2 c 1 ∧ h.2 c 1 ≤ 2147483647 := okC_k s (kk_2_0 hc) 1
theorem fw_2_0_1 {h h' : zM} {c : Int} {v : Int} (s : okC h) (hc : zKi c) (e : h' = zwr h c 1 v) (hv : (-2147483648) ≤ v ∧ v ≤ 2147483647) : okC h' := okC_w s e (PC_k (kk_2_0 hc) hv) (nk_2_0 hc) (fun q => absurd q.1 (by have := zKi_b hc; omega))
theorem kk_0_0 {c : Int} (hc : zBo c) : kC c = 0 := by unfold zBo at hc; rcases hc with rfl | rfl | rfl <;> decide +kernel
theorem nk_0_0 {c : Int} (hc : zBo c) : ¬ c = 114 := by unfold zBo at hc; omega
theorem k_0_0 {h : zM} {c : Int} (s : okC h) (hc : zBo c) : shC c = .inl 0 ∧ 0 ≤ c ∧ c < h.1 := kLc s (kk_0_0 hc) rfl (by have := zBo_b hc; omega)
theorem rf_0_0_0 {h : zM} {c : Int} (s : okC h) (hc : zBo c) : h.2 c 0 = (c + 1) := zeqe (a := c + 1) (okC_k s (kk_0_0 hc) 0) (by omega)
theorem kka_0_0_0 {c : Int} (hc : zBo c) : kC (c + 1) = 33 := by unfold zBo at hc; rcases hc with rfl | rfl | rfl <;> decide +kernel
theorem na_0_0_0 {c : Int} (hc : zBo c) : ¬ (c + 1) = 114 ∧ ¬ (c + 1) = 0 := by unfold zBo at hc; omega
theorem ka_0_0_0 {h : zM} {c : Int} (s : okC h) (hc : zBo c) : shC (c + 1) = .inr (0, 150) ∧ 0 ≤ (c + 1) ∧ (c + 1) < h.1 := kLc s (kka_0_0_0 hc) rfl (by have := zBo_b hc; omega)
theorem pa_0_0_0 {c : Int} {v : Int} (hc : zBo c) (hv : (-2147483648) ≤ v ∧ v ≤ 2147483647) (j : Int) : PC (c + 1) j v := PC_k (kka_0_0_0 hc) hv
theorem ab_0_0_0 {h : zM} {c : Int} (s : okC h) (hc : zBo c) (j : Int) : (-2147483648) ≤ h.2 (c + 1) j ∧ h.2 (c + 1) j ≤ 2147483647 := okC_k s (kka_0_0_0 hc) j
theorem aw_0_0_0 {h h' : zM} {c : Int} {v j : Int} (s : okC h) (hc : zBo c) (e : h' = zwr h (c + 1) j v) (hv : (-2147483648) ≤ v ∧ v ≤ 2147483647) : okC h' := okC_w s e (pa_0_0_0 hc hv j) (na_0_0_0 hc).1 (fun q => (na_0_0_0 hc).2 q.1)
theorem rf_0_0_1 {h : zM} {c : Int} (s : okC h) (hc : zBo c) : h.2 c 1 = (c + 2) := zeqe (a := c + 2) (okC_k s (kk_0_0 hc) 1) (by omega)
theorem kka_0_0_1 {c : Int} (hc : zBo c) : kC (c + 2) = 34 := by unfold zBo at hc; rcases hc with rfl | rfl | rfl <;> decide +kernel
theorem na_0_0_1 {c : Int} (hc : zBo c) : ¬ (c + 2) = 114 ∧ ¬ (c + 2) = 0 := by unfold zBo at hc; omega
theorem ka_0_0_1 {h : zM} {c : Int} (s : okC h) (hc : zBo c) : shC (c + 2) = .inr (0, 150) ∧ 0 ≤ (c + 2) ∧ (c + 2) < h.1 := kLc s (kka_0_0_1 hc) rfl (by have := zBo_b hc; omega)
theorem pa_0_0_1 {c : Int} {v : Int} (hc : zBo c) (hv : (-2147483648) ≤ v ∧ v ≤ 2147483647) (j : Int) : PC (c + 2) j v := PC_k (kka_0_0_1 hc) hv
theorem ab_0_0_1 {h : zM} {c : Int} (s : okC h) (hc : zBo c) (j : Int) : (-2147483648) ≤ h.2 (c + 2) j ∧ h.2 (c + 2) j ≤ 2147483647 := okC_k s (kka_0_0_1 hc) j
theorem aw_0_0_1 {h h' : zM} {c : Int} {v j : Int} (s : okC h) (hc : zBo c) (e : h' = zwr h (c + 2) j v) (hv : (-2147483648) ≤ v ∧ v ≤ 2147483647) : okC h' := okC_w s e (pa_0_0_1 hc hv j) (na_0_0_1 hc).1 (fun q => (na_0_0_1 hc).2 q.1)
theorem rf_0_0_2 {h : zM} {c : Int} (s : okC h) (hc : zBo c) : h.2 c 2 = (c + 3) := zeqe (a := c + 3) (okC_k s (kk_0_0 hc) 2) (by omega)
theorem kka_0_0_2 {c : Int} (hc : zBo c) : kC (c + 3) = 35 := by unfold zBo at hc; rcases hc with rfl | rfl | rfl <;> decide +kernel
theorem na_0_0_2 {c : Int} (hc : zBo c) : ¬ (c + 3) = 114 ∧ ¬ (c + 3) = 0 := by unfold zBo at hc; omega
theorem ka_0_0_2 {h : zM} {c : Int} (s : okC h) (hc : zBo c) : shC (c + 3) = .inr (0, 150) ∧ 0 ≤ (c + 3) ∧ (c + 3) < h.1 := kLc s (kka_0_0_2 hc) rfl (by have := zBo_b hc; omega)
theorem pa_0_0_2 {c : Int} {v : Int} (hc : zBo c) (hv : (-2147483648) ≤ v ∧ v ≤ 2147483647) (j : Int) : PC (c + 3) j v := PC_k (kka_0_0_2 hc) hv
theorem ab_0_0_2 {h : zM} {c : Int} (s : okC h) (hc : zBo c) (j : Int) : (-2147483648) ≤ h.2 (c + 3) j ∧ h.2 (c + 3) j ≤ 2147483647 := okC_k s (kka_0_0_2 hc) j
theorem aw_0_0_2 {h h' : zM} {c : Int} {v j : Int} (s : okC h) (hc : zBo c) (e : h' = zwr h (c + 3) j v) (hv : (-2147483648) ≤ v ∧ v ≤ 2147483647) : okC h' := okC_w s e (pa_0_0_2 hc hv j) (na_0_0_2 hc).1 (fun q => (na_0_0_2 hc).2 q.1)
theorem rf_0_0_3 {h : zM} {c : Int} (s : okC h) (hc : zBo c) : h.2 c 3 = (c + 4) := zeqe (a := c + 4) (okC_k s (kk_0_0 hc) 3) (by omega)
theorem kka_0_0_3 {c : Int} (hc : zBo c) : kC (c + 4) = 36 := by unfold zBo at hc; rcases hc with rfl | rfl | rfl <;> decide +kernel
theorem na_0_0_3 {c : Int} (hc : zBo c) : ¬ (c + 4) = 114 ∧ ¬ (c + 4) = 0 := by unfold zBo at hc; omega
theorem ka_0_0_3 {h : zM} {c : Int} (s : okC h) (hc : zBo c) : shC (c + 4) = .inr (0, 150) ∧ 0 ≤ (c + 4) ∧ (c + 4) < h.1 := kLc s (kka_0_0_3 hc) rfl (by have := zBo_b hc; omega)
theorem pa_0_0_3 {c : Int} {v : Int} (hc : zBo c) (hv : (-2147483648) ≤ v ∧ v ≤ 2147483647) (j : Int) : PC (c + 4) j v := PC_k (kka_0_0_3 hc) hv
theorem ab_0_0_3 {h : zM} {c : Int} (s : okC h) (hc : zBo c) (j : Int) : (-2147483648) ≤ h.2 (c + 4) j ∧ h.2 (c + 4) j ≤ 2147483647 := okC_k s (kka_0_0_3 hc) j
theorem aw_0_0_3 {h h' : zM} {c : Int} {v j : Int} (s : okC h) (hc : zBo c) (e : h' = zwr h (c + 4) j v) (hv : (-2147483648) ≤ v ∧ v ≤ 2147483647) : okC h' := okC_w s e (pa_0_0_3 hc hv j) (na_0_0_3 hc).1 (fun q => (na_0_0_3 hc).2 q.1)
theorem fb_0_0_4 {h : zM} {c : Int} (s : okC h) (hc : zBo c) : 0 ≤ h.2 c 4 ∧ h.2 c 4 ≤ 150 := okC_k s (kk_0_0 hc) 4
theorem fw_0_0_4 {h h' : zM} {c : Int} {v : Int} (s : okC h) (hc : zBo c) (e : h' = zwr h c 4 v) (hv : 0 ≤ v ∧ v ≤ 150) : okC h' := okC_w s e (PC_k (kk_0_0 hc) hv) (nk_0_0 hc) (fun q => absurd q.1 (by have := zBo_b hc; omega))
theorem kk_5_0 {c : Int} (hc : zPu c) : kC c = 5 := by unfold zPu at hc; rcases hc with rfl | rfl | rfl <;> decide +kernel
theorem nk_5_0 {c : Int} (hc : zPu c) : ¬ c = 114 := by unfold zPu at hc; omega
theorem k_5_0 {h : zM} {c : Int} (s : okC h) (hc : zPu c) : shC c = .inl 5 ∧ 0 ≤ c ∧ c < h.1 := kLc s (kk_5_0 hc) rfl (by have := zPu_b hc; omega)
theorem rf_5_0_0 {h : zM} {c : Int} (s : okC h) (hc : zPu c) : h.2 c 0 = (c + 1) := zeqe (a := c + 1) (okC_k s (kk_5_0 hc) 0) (by omega)
theorem kka_5_0_0 {c : Int} (hc : zPu c) : kC (c + 1) = 37 := by unfold zPu at hc; rcases hc with rfl | rfl | rfl <;> decide +kernel
theorem na_5_0_0 {c : Int} (hc : zPu c) : ¬ (c + 1) = 114 ∧ ¬ (c + 1) = 0 := by unfold zPu at hc; omega
theorem ka_5_0_0 {h : zM} {c : Int} (s : okC h) (hc : zPu c) : shC (c + 1) = .inr (0, 5) ∧ 0 ≤ (c + 1) ∧ (c + 1) < h.1 := kLc s (kka_5_0_0 hc) rfl (by have := zPu_b hc; omega)
theorem pa_5_0_0 {c : Int} {v : Int} (hc : zPu c) (hv : (-2147483648) ≤ v ∧ v ≤ 2147483647) (j : Int) : PC (c + 1) j v := PC_k (kka_5_0_0 hc) hv
theorem ab_5_0_0 {h : zM} {c : Int} (s : okC h) (hc : zPu c) (j : Int) : (-2147483648) ≤ h.2 (c + 1) j ∧ h.2 (c + 1) j ≤ 2147483647 := okC_k s (kka_5_0_0 hc) j
theorem aw_5_0_0 {h h' : zM} {c : Int} {v j : Int} (s : okC h) (hc : zPu c) (e : h' = zwr h (c + 1) j v) (hv : (-2147483648) ≤ v ∧ v ≤ 2147483647) : okC h' := okC_w s e (pa_5_0_0 hc hv j) (na_5_0_0 hc).1 (fun q => (na_5_0_0 hc).2 q.1)
theorem rf_5_0_1 {h : zM} {c : Int} (s : okC h) (hc : zPu c) : h.2 c 1 = (c + 2) := zeqe (a := c + 2) (okC_k s (kk_5_0 hc) 1) (by omega)
theorem kka_5_0_1 {c : Int} (hc : zPu c) : kC (c + 2) = 38 := by unfold zPu at hc; rcases hc with rfl | rfl | rfl <;> decide +kernel
theorem na_5_0_1 {c : Int} (hc : zPu c) : ¬ (c + 2) = 114 ∧ ¬ (c + 2) = 0 := by unfold zPu at hc; omega
theorem ka_5_0_1 {h : zM} {c : Int} (s : okC h) (hc : zPu c) : shC (c + 2) = .inr (1, 5) ∧ 0 ≤ (c + 2) ∧ (c + 2) < h.1 := kLc s (kka_5_0_1 hc) rfl (by have := zPu_b hc; omega)
theorem pa_5_0_1 {c : Int} {v : Int} (hc : zPu c) (hv : 0 ≤ v ∧ v ≤ 1) (j : Int) : PC (c + 2) j v := PC_k (kka_5_0_1 hc) hv
theorem ab_5_0_1 {h : zM} {c : Int} (s : okC h) (hc : zPu c) (j : Int) : 0 ≤ h.2 (c + 2) j ∧ h.2 (c + 2) j ≤ 1 := okC_k s (kka_5_0_1 hc) j
theorem aw_5_0_1 {h h' : zM} {c : Int} {v j : Int} (s : okC h) (hc : zPu c) (e : h' = zwr h (c + 2) j v) (hv : 0 ≤ v ∧ v ≤ 1) : okC h' := okC_w s e (pa_5_0_1 hc hv j) (na_5_0_1 hc).1 (fun q => (na_5_0_1 hc).2 q.1)
theorem fb_5_0_2 {h : zM} {c : Int} (s : okC h) (hc : zPu c) : 0 ≤ h.2 c 2 ∧ h.2 c 2 ≤ 5 := okC_k s (kk_5_0 hc) 2
theorem fw_5_0_2 {h h' : zM} {c : Int} {v : Int} (s : okC h) (hc : zPu c) (e : h' = zwr h c 2 v) (hv : 0 ≤ v ∧ v ≤ 5) : okC h' := okC_w s e (PC_k (kk_5_0 hc) hv) (nk_5_0 hc) (fun q => absurd q.1 (by have := zPu_b hc; omega))
theorem rf_5_0_3 {h : zM} {c : Int} (s : okC h) (hc : zPu c) : h.2 c 3 = (c + 3) := zeqe (a := c + 3) (okC_k s (kk_5_0 hc) 3) (by omega)
theorem kka_5_0_3 {c : Int} (hc : zPu c) : kC (c + 3) = 39 := by unfold zPu at hc; rcases hc with rfl | rfl | rfl <;> decide +kernel
theorem na_5_0_3 {c : Int} (hc : zPu c) : ¬ (c + 3) = 114 ∧ ¬ (c + 3) = 0 := by unfold zPu at hc; omega
theorem ka_5_0_3 {h : zM} {c : Int} (s : okC h) (hc : zPu c) : shC (c + 3) = .inr (0, 8) ∧ 0 ≤ (c + 3) ∧ (c + 3) < h.1 := kLc s (kka_5_0_3 hc) rfl (by have := zPu_b hc; omega)
theorem pa_5_0_3 {c : Int} {v : Int} (hc : zPu c) (hv : (-2147483648) ≤ v ∧ v ≤ 2147483647) (j : Int) : PC (c + 3) j v := PC_k (kka_5_0_3 hc) hv
theorem ab_5_0_3 {h : zM} {c : Int} (s : okC h) (hc : zPu c) (j : Int) : (-2147483648) ≤ h.2 (c + 3) j ∧ h.2 (c + 3) j ≤ 2147483647 := okC_k s (kka_5_0_3 hc) j
theorem aw_5_0_3 {h h' : zM} {c : Int} {v j : Int} (s : okC h) (hc : zPu c) (e : h' = zwr h (c + 3) j v) (hv : (-2147483648) ≤ v ∧ v ≤ 2147483647) : okC h' := okC_w s e (pa_5_0_3 hc hv j) (na_5_0_3 hc).1 (fun q => (na_5_0_3 hc).2 q.1)
theorem fb_5_0_4 {h : zM} {c : Int} (s : okC h) (hc : zPu c) : 0 ≤ h.2 c 4 ∧ h.2 c 4 ≤ 8 := okC_k s (kk_5_0 hc) 4
theorem fw_5_0_4 {h h' : zM} {c : Int} {v : Int} (s : okC h) (hc : zPu c) (e : h' = zwr h c 4 v) (hv : 0 ≤ v ∧ v ≤ 8) : okC h' := okC_w s e (PC_k (kk_5_0 hc) hv) (nk_5_0 hc) (fun q => absurd q.1 (by have := zPu_b hc; omega))
theorem rf_5_0_5 {h : zM} {c : Int} (s : okC h) (hc : zPu c) : h.2 c 5 = (c + 4) := zeqe (a := c + 4) (okC_k s (kk_5_0 hc) 5) (by omega)
theorem kka_5_0_5 {c : Int} (hc : zPu c) : kC (c + 4) = 40 := by unfold zPu at hc; rcases hc with rfl | rfl | rfl <;> decide +kernel
theorem na_5_0_5 {c : Int} (hc : zPu c) : ¬ (c + 4) = 114 ∧ ¬ (c + 4) = 0 := by unfold zPu at hc; omega
theorem ka_5_0_5 {h : zM} {c : Int} (s : okC h) (hc : zPu c) : shC (c + 4) = .inr (0, 7) ∧ 0 ≤ (c + 4) ∧ (c + 4) < h.1 := kLc s (kka_5_0_5 hc) rfl (by have := zPu_b hc; omega)
theorem pa_5_0_5 {c : Int} {v : Int} (hc : zPu c) (hv : (-2147483648) ≤ v ∧ v ≤ 2147483647) (j : Int) : PC (c + 4) j v := PC_k (kka_5_0_5 hc) hv
theorem ab_5_0_5 {h : zM} {c : Int} (s : okC h) (hc : zPu c) (j : Int) : (-2147483648) ≤ h.2 (c + 4) j ∧ h.2 (c + 4) j ≤ 2147483647 := okC_k s (kka_5_0_5 hc) j
theorem aw_5_0_5 {h h' : zM} {c : Int} {v j : Int} (s : okC h) (hc : zPu c) (e : h' = zwr h (c + 4) j v) (hv : (-2147483648) ≤ v ∧ v ≤ 2147483647) : okC h' := okC_w s e (pa_5_0_5 hc hv j) (na_5_0_5 hc).1 (fun q => (na_5_0_5 hc).2 q.1)
theorem fb_5_0_6 {h : zM} {c : Int} (s : okC h) (hc : zPu c) : 0 ≤ h.2 c 6 ∧ h.2 c 6 ≤ 7 := okC_k s (kk_5_0 hc) 6
theorem fw_5_0_6 {h h' : zM} {c : Int} {v : Int} (s : okC h) (hc : zPu c) (e : h' = zwr h c 6 v) (hv : 0 ≤ v ∧ v ≤ 7) : okC h' := okC_w s e (PC_k (kk_5_0 hc) hv) (nk_5_0 hc) (fun q => absurd q.1 (by have := zPu_b hc; omega))
theorem rf_5_0_7 {h : zM} {c : Int} (s : okC h) (hc : zPu c) : h.2 c 7 = (c + 5) := zeqe (a := c + 5) (okC_k s (kk_5_0 hc) 7) (by omega)
theorem kka_5_0_7 {c : Int} (hc : zPu c) : kC (c + 5) = 41 := by unfold zPu at hc; rcases hc with rfl | rfl | rfl <;> decide +kernel
theorem na_5_0_7 {c : Int} (hc : zPu c) : ¬ (c + 5) = 114 ∧ ¬ (c + 5) = 0 := by unfold zPu at hc; omega
theorem ka_5_0_7 {h : zM} {c : Int} (s : okC h) (hc : zPu c) : shC (c + 5) = .inr (0, 6) ∧ 0 ≤ (c + 5) ∧ (c + 5) < h.1 := kLc s (kka_5_0_7 hc) rfl (by have := zPu_b hc; omega)
theorem pa_5_0_7 {c : Int} {v : Int} (hc : zPu c) (hv : (-2147483648) ≤ v ∧ v ≤ 2147483647) (j : Int) : PC (c + 5) j v := PC_k (kka_5_0_7 hc) hv
theorem ab_5_0_7 {h : zM} {c : Int} (s : okC h) (hc : zPu c) (j : Int) : (-2147483648) ≤ h.2 (c + 5) j ∧ h.2 (c + 5) j ≤ 2147483647 := okC_k s (kka_5_0_7 hc) j
theorem aw_5_0_7 {h h' : zM} {c : Int} {v j : Int} (s : okC h) (hc : zPu c) (e : h' = zwr h (c + 5) j v) (hv : (-2147483648) ≤ v ∧ v ≤ 2147483647) : okC h' := okC_w s e (pa_5_0_7 hc hv j) (na_5_0_7 hc).1 (fun q => (na_5_0_7 hc).2 q.1)
theorem rf_5_0_8 {h : zM} {c : Int} (s : okC h) (hc : zPu c) : h.2 c 8 = (c + 6) := zeqe (a := c + 6) (okC_k s (kk_5_0 hc) 8) (by omega)
theorem kka_5_0_8 {c : Int} (hc : zPu c) : kC (c + 6) = 42 := by unfold zPu at hc; rcases hc with rfl | rfl | rfl <;> decide +kernel
theorem na_5_0_8 {c : Int} (hc : zPu c) : ¬ (c + 6) = 114 ∧ ¬ (c + 6) = 0 := by unfold zPu at hc; omega
theorem ka_5_0_8 {h : zM} {c : Int} (s : okC h) (hc : zPu c) : shC (c + 6) = .inr (0, 6) ∧ 0 ≤ (c + 6) ∧ (c + 6) < h.1 := kLc s (kka_5_0_8 hc) rfl (by have := zPu_b hc; omega)
theorem pa_5_0_8 {c : Int} {v : Int} (hc : zPu c) (hv : (-2147483648) ≤ v ∧ v ≤ 2147483647) (j : Int) : PC (c + 6) j v := PC_k (kka_5_0_8 hc) hv
theorem ab_5_0_8 {h : zM} {c : Int} (s : okC h) (hc : zPu c) (j : Int) : (-2147483648) ≤ h.2 (c + 6) j ∧ h.2 (c + 6) j ≤ 2147483647 := okC_k s (kka_5_0_8 hc) j
theorem aw_5_0_8 {h h' : zM} {c : Int} {v j : Int} (s : okC h) (hc : zPu c) (e : h' = zwr h (c + 6) j v) (hv : (-2147483648) ≤ v ∧ v ≤ 2147483647) : okC h' := okC_w s e (pa_5_0_8 hc hv j) (na_5_0_8 hc).1 (fun q => (na_5_0_8 hc).2 q.1)
theorem fb_5_0_9 {h : zM} {c : Int} (s : okC h) (hc : zPu c) : 0 ≤ h.2 c 9 ∧ h.2 c 9 ≤ 6 := okC_k s (kk_5_0 hc) 9
theorem fw_5_0_9 {h h' : zM} {c : Int} {v : Int} (s : okC h) (hc : zPu c) (e : h' = zwr h c 9 v) (hv : 0 ≤ v ∧ v ≤ 6) : okC h' := okC_w s e (PC_k (kk_5_0 hc) hv) (nk_5_0 hc) (fun q => absurd q.1 (by have := zPu_b hc; omega))
theorem kk_L0 : kC 0 = 10 := by decide +kernel
theorem k_L0 {h : zM} (s : okC h) : shC 0 = .inl 10 ∧ (0 : Int) ≤ 0 ∧ (0 : Int) < h.1 := kLc s kk_L0 rfl (by decide)
theorem rf_L0_0 {h : zM} (s : okC h) : h.2 0 0 = 1 := zeqe (a := 1) (okC_k s (kk_L0) 0) rfl
theorem rf_L0_1 {h : zM} (s : okC h) : h.2 0 1 = 35 := zeqe (a := 35) (okC_k s (kk_L0) 1) rfl
theorem rf_L0_2 {h : zM} (s : okC h) : h.2 0 2 = 69 := zeqe (a := 69) (okC_k s (kk_L0) 2) rfl
theorem rf_L0_3 {h : zM} (s : okC h) : h.2 0 3 = 103 := zeqe (a := 103) (okC_k s (kk_L0) 3) rfl
theorem rf_L0_4 {h : zM} (s : okC h) : h.2 0 4 = 107 := zeqe (a := 107) (okC_k s (kk_L0) 4) rfl
theorem rf_L0_5 {h : zM} (s : okC h) : h.2 0 5 = 108 := zeqe (a := 108) (okC_k s (kk_L0) 5) rfl
theorem rf_L0_6 {h : zM} (s : okC h) : h.2 0 6 = (114 : Int) := zeqe (a := 114) (okC_k s (kk_L0) 6) (by decide)
theorem kka_L0_6 : kC (114 : Int) = 51 := by decide +kernel
theorem ka_L0_6 {h : zM} (s : okC h) : shC (114 : Int) = .inr (2, 6) ∧ 0 ≤ (114 : Int) ∧ (114 : Int) < h.1 := kLc s (kka_L0_6) rfl (by decide)
theorem rf_L0_7 {h : zM} (s : okC h) : h.2 0 7 = (115 : Int) := zeqe (a := 115) (okC_k s (kk_L0) 7) (by decide)
theorem kka_L0_7 : kC (115 : Int) = 52 := by decide +kernel
theorem na_L0_7 : ¬ (115 : Int) = 114 ∧ ¬ (115 : Int) = 0 := by decide
theorem ka_L0_7 {h : zM} (s : okC h) : shC (115 : Int) = .inr (0, 6) ∧ 0 ≤ (115 : Int) ∧ (115 : Int) < h.1 := kLc s (kka_L0_7) rfl (by decide)
theorem pa_L0_7 {v : Int} (hv : 0 ≤ v ∧ v ≤ 150) (j : Int) : PC (115 : Int) j v := PC_k (kka_L0_7) hv
theorem ab_L0_7 {h : zM} (s : okC h) (j : Int) : 0 ≤ h.2 (115 : Int) j ∧ h.2 (115 : Int) j ≤ 150 := okC_k s (kka_L0_7) j
theorem aw_L0_7 {h h' : zM} {v j : Int} (s : okC h) (e : h' = zwr h (115 : Int) j v) (hv : 0 ≤ v ∧ v ≤ 150) : okC h' := okC_w s e (pa_L0_7 hv j) (na_L0_7).1 (fun q => (na_L0_7).2 q.1)
theorem fb_L0_8 {h : zM} (s : okC h) : 0 ≤ h.2 0 8 ∧ h.2 0 8 ≤ 6 := okC_k s (kk_L0) 8
theorem fw_L0_8 {h h' : zM} {v : Int} (s : okC h) (e : h' = zwr h 0 8 v) (hv : 0 ≤ v ∧ v ≤ 6) : okC h' := okC_w s e (PC_k (kk_L0) hv) (by decide) (by decide)
theorem fb_L0_9 {h : zM} (s : okC h) : 0 ≤ h.2 0 9 ∧ h.2 0 9 ≤ 1 := okC_k s (kk_L0) 9
theorem fw_L0_9 {h h' : zM} {v : Int} (s : okC h) (e : h' = zwr h 0 9 v) (hv : 0 ≤ v ∧ v ≤ 1) : okC h' := okC_w s e (PC_k (kk_L0) hv) (by decide) (by decide)
theorem kk_L103 : kC 103 = 6 := by decide +kernel
theorem k_L103 {h : zM} (s : okC h) : shC 103 = .inl 6 ∧ (0 : Int) ≤ 103 ∧ (103 : Int) < h.1 := kLc s kk_L103 rfl (by decide)
theorem rf_L103_0 {h : zM} (s : okC h) : h.2 103 0 = (104 : Int) := zeqe (a := 103 + 1) (okC_k s (kk_L103) 0) (by decide)
theorem kka_L103_0 : kC (104 : Int) = 43 := by decide +kernel
theorem na_L103_0 : ¬ (104 : Int) = 114 ∧ ¬ (104 : Int) = 0 := by decide
theorem ka_L103_0 {h : zM} (s : okC h) : shC (104 : Int) = .inr (0, 400) ∧ 0 ≤ (104 : Int) ∧ (104 : Int) < h.1 := kLc s (kka_L103_0) rfl (by decide)
theorem pa_L103_0 {v : Int} (hv : 0 ≤ v ∧ v ≤ 255) (j : Int) : PC (104 : Int) j v := PC_k (kka_L103_0) hv
theorem ab_L103_0 {h : zM} (s : okC h) (j : Int) : 0 ≤ h.2 (104 : Int) j ∧ h.2 (104 : Int) j ≤ 255 := okC_k s (kka_L103_0) j
theorem aw_L103_0 {h h' : zM} {v j : Int} (s : okC h) (e : h' = zwr h (104 : Int) j v) (hv : 0 ≤ v ∧ v ≤ 255) : okC h' := okC_w s e (pa_L103_0 hv j) (na_L103_0).1 (fun q => (na_L103_0).2 q.1)
theorem rf_L103_1 {h : zM} (s : okC h) : h.2 103 1 = (105 : Int) := zeqe (a := 103 + 2) (okC_k s (kk_L103) 1) (by decide)
theorem kka_L103_1 : kC (105 : Int) = 44 := by decide +kernel
theorem na_L103_1 : ¬ (105 : Int) = 114 ∧ ¬ (105 : Int) = 0 := by decide
theorem ka_L103_1 {h : zM} (s : okC h) : shC (105 : Int) = .inr (0, 401) ∧ 0 ≤ (105 : Int) ∧ (105 : Int) < h.1 := kLc s (kka_L103_1) rfl (by decide)
theorem pa_L103_1 {v : Int} (hv : (-2147483648) ≤ v ∧ v ≤ 2147483647) (j : Int) : PC (105 : Int) j v := PC_k (kka_L103_1) hv
theorem ab_L103_1 {h : zM} (s : okC h) (j : Int) : (-2147483648) ≤ h.2 (105 : Int) j ∧ h.2 (105 : Int) j ≤ 2147483647 := okC_k s (kka_L103_1) j
theorem aw_L103_1 {h h' : zM} {v j : Int} (s : okC h) (e : h' = zwr h (105 : Int) j v) (hv : (-2147483648) ≤ v ∧ v ≤ 2147483647) : okC h' := okC_w s e (pa_L103_1 hv j) (na_L103_1).1 (fun q => (na_L103_1).2 q.1)
theorem rf_L103_2 {h : zM} (s : okC h) : h.2 103 2 = (106 : Int) := zeqe (a := 103 + 3) (okC_k s (kk_L103) 2) (by decide)
theorem kka_L103_2 : kC (106 : Int) = 45 := by decide +kernel
theorem na_L103_2 : ¬ (106 : Int) = 114 ∧ ¬ (106 : Int) = 0 := by decide
theorem ka_L103_2 {h : zM} (s : okC h) : shC (106 : Int) = .inr (0, 401) ∧ 0 ≤ (106 : Int) ∧ (106 : Int) < h.1 := kLc s (kka_L103_2) rfl (by decide)
theorem pa_L103_2 {v : Int} (hv : (-2147483648) ≤ v ∧ v ≤ 2147483647) (j : Int) : PC (106 : Int) j v := PC_k (kka_L103_2) hv
theorem ab_L103_2 {h : zM} (s : okC h) (j : Int) : (-2147483648) ≤ h.2 (106 : Int) j ∧ h.2 (106 : Int) j ≤ 2147483647 := okC_k s (kka_L103_2) j
theorem aw_L103_2 {h h' : zM} {v j : Int} (s : okC h) (e : h' = zwr h (106 : Int) j v) (hv : (-2147483648) ≤ v ∧ v ≤ 2147483647) : okC h' := okC_w s e (pa_L103_2 hv j) (na_L103_2).1 (fun q => (na_L103_2).2 q.1)
theorem fb_L103_3 {h : zM} (s : okC h) : 0 ≤ h.2 103 3 ∧ h.2 103 3 ≤ 400 := okC_k s (kk_L103) 3
theorem fw_L103_3 {h h' : zM} {v : Int} (s : okC h) (e : h' = zwr h 103 3 v) (hv : 0 ≤ v ∧ v ≤ 400) : okC h' := okC_w s e (PC_k (kk_L103) hv) (by decide) (by decide)
theorem fb_L103_4 {h : zM} (s : okC h) : 0 ≤ h.2 103 4 ∧ h.2 103 4 ≤ 401 := okC_k s (kk_L103) 4
theorem fw_L103_4 {h h' : zM} {v : Int} (s : okC h) (e : h' = zwr h 103 4 v) (hv : 0 ≤ v ∧ v ≤ 401) : okC h' := okC_w s e (PC_k (kk_L103) hv) (by decide) (by decide)
theorem fb_L103_5 {h : zM} (s : okC h) : 0 ≤ h.2 103 5 ∧ h.2 103 5 ≤ 400 := okC_k s (kk_L103) 5
theorem fw_L103_5 {h h' : zM} {v : Int} (s : okC h) (e : h' = zwr h 103 5 v) (hv : 0 ≤ v ∧ v ≤ 400) : okC h' := okC_w s e (PC_k (kk_L103) hv) (by decide) (by decide)
theorem fb_L103_6 {h : zM} (s : okC h) : (-2147483648) ≤ h.2 103 6 ∧ h.2 103 6 ≤ 2147483647 := okC_k s (kk_L103) 6
theorem fw_L103_6 {h h' : zM} {v : Int} (s : okC h) (e : h' = zwr h 103 6 v) (hv : (-2147483648) ≤ v ∧ v ≤ 2147483647) : okC h' := okC_w s e (PC_k (kk_L103) hv) (by decide) (by decide)
theorem fb_L103_7 {h : zM} (s : okC h) : (-2147483648) ≤ h.2 103 7 ∧ h.2 103 7 ≤ 2147483647 := okC_k s (kk_L103) 7
theorem fw_L103_7 {h h' : zM} {v : Int} (s : okC h) (e : h' = zwr h 103 7 v) (hv : (-2147483648) ≤ v ∧ v ≤ 2147483647) : okC h' := okC_w s e (PC_k (kk_L103) hv) (by decide) (by decide)
theorem fb_L103_8 {h : zM} (s : okC h) : (-2147483648) ≤ h.2 103 8 ∧ h.2 103 8 ≤ 2147483647 := okC_k s (kk_L103) 8
theorem fw_L103_8 {h h' : zM} {v : Int} (s : okC h) (e : h' = zwr h 103 8 v) (hv : (-2147483648) ≤ v ∧ v ≤ 2147483647) : okC h' := okC_w s e (PC_k (kk_L103) hv) (by decide) (by decide)
theorem fb_L103_9 {h : zM} (s : okC h) : (-2147483648) ≤ h.2 103 9 ∧ h.2 103 9 ≤ 2147483647 := okC_k s (kk_L103) 9
theorem fw_L103_9 {h h' : zM} {v : Int} (s : okC h) (e : h' = zwr h 103 9 v) (hv : (-2147483648) ≤ v ∧ v ≤ 2147483647) : okC h' := okC_w s e (PC_k (kk_L103) hv) (by decide) (by decide)
theorem kk_L107 : kC 107 = 7 := by decide +kernel
theorem k_L107 {h : zM} (s : okC h) : shC 107 = .inl 7 ∧ (0 : Int) ≤ 107 ∧ (107 : Int) < h.1 := kLc s kk_L107 rfl (by decide)
theorem rf_L107_0 {h : zM} (s : okC h) : h.2 107 0 = 103 := zeqe (a := 103) (okC_k s (kk_L107) 0) rfl
theorem kk_L108 : kC 108 = 8 := by decide +kernel
theorem k_L108 {h : zM} (s : okC h) : shC 108 = .inl 8 ∧ (0 : Int) ≤ 108 ∧ (108 : Int) < h.1 := kLc s kk_L108 rfl (by decide)
theorem rf_L108_0 {h : zM} (s : okC h) : h.2 108 0 = (109 : Int) := zeqe (a := 108 + 1) (okC_k s (kk_L108) 0) (by decide)
theorem kka_L108_0 : kC (109 : Int) = 46 := by decide +kernel
theorem na_L108_0 : ¬ (109 : Int) = 114 ∧ ¬ (109 : Int) = 0 := by decide
theorem ka_L108_0 {h : zM} (s : okC h) : shC (109 : Int) = .inr (0, 60) ∧ 0 ≤ (109 : Int) ∧ (109 : Int) < h.1 := kLc s (kka_L108_0) rfl (by decide)
theorem pa_L108_0 {v : Int} (hv : (-2147483648) ≤ v ∧ v ≤ 2147483647) (j : Int) : PC (109 : Int) j v := PC_k (kka_L108_0) hv
theorem ab_L108_0 {h : zM} (s : okC h) (j : Int) : (-2147483648) ≤ h.2 (109 : Int) j ∧ h.2 (109 : Int) j ≤ 2147483647 := okC_k s (kka_L108_0) j
theorem aw_L108_0 {h h' : zM} {v j : Int} (s : okC h) (e : h' = zwr h (109 : Int) j v) (hv : (-2147483648) ≤ v ∧ v ≤ 2147483647) : okC h' := okC_w s e (pa_L108_0 hv j) (na_L108_0).1 (fun q => (na_L108_0).2 q.1)
theorem rf_L108_1 {h : zM} (s : okC h) : h.2 108 1 = (110 : Int) := zeqe (a := 108 + 2) (okC_k s (kk_L108) 1) (by decide)
theorem kka_L108_1 : kC (110 : Int) = 47 := by decide +kernel
theorem na_L108_1 : ¬ (110 : Int) = 114 ∧ ¬ (110 : Int) = 0 := by decide
theorem ka_L108_1 {h : zM} (s : okC h) : shC (110 : Int) = .inr (0, 8) ∧ 0 ≤ (110 : Int) ∧ (110 : Int) < h.1 := kLc s (kka_L108_1) rfl (by decide)
theorem pa_L108_1 {v : Int} (hv : (-2147483648) ≤ v ∧ v ≤ 2147483647) (j : Int) : PC (110 : Int) j v := PC_k (kka_L108_1) hv
theorem ab_L108_1 {h : zM} (s : okC h) (j : Int) : (-2147483648) ≤ h.2 (110 : Int) j ∧ h.2 (110 : Int) j ≤ 2147483647 := okC_k s (kka_L108_1) j
theorem aw_L108_1 {h h' : zM} {v j : Int} (s : okC h) (e : h' = zwr h (110 : Int) j v) (hv : (-2147483648) ≤ v ∧ v ≤ 2147483647) : okC h' := okC_w s e (pa_L108_1 hv j) (na_L108_1).1 (fun q => (na_L108_1).2 q.1)
theorem rf_L108_2 {h : zM} (s : okC h) : h.2 108 2 = (111 : Int) := zeqe (a := 108 + 3) (okC_k s (kk_L108) 2) (by decide)
theorem kka_L108_2 : kC (111 : Int) = 48 := by decide +kernel
theorem na_L108_2 : ¬ (111 : Int) = 114 ∧ ¬ (111 : Int) = 0 := by decide
theorem ka_L108_2 {h : zM} (s : okC h) : shC (111 : Int) = .inr (0, 128) ∧ 0 ≤ (111 : Int) ∧ (111 : Int) < h.1 := kLc s (kka_L108_2) rfl (by decide)
theorem pa_L108_2 {v : Int} (hv : (-2147483648) ≤ v ∧ v ≤ 2147483647) (j : Int) : PC (111 : Int) j v := PC_k (kka_L108_2) hv
theorem ab_L108_2 {h : zM} (s : okC h) (j : Int) : (-2147483648) ≤ h.2 (111 : Int) j ∧ h.2 (111 : Int) j ≤ 2147483647 := okC_k s (kka_L108_2) j
theorem aw_L108_2 {h h' : zM} {v j : Int} (s : okC h) (e : h' = zwr h (111 : Int) j v) (hv : (-2147483648) ≤ v ∧ v ≤ 2147483647) : okC h' := okC_w s e (pa_L108_2 hv j) (na_L108_2).1 (fun q => (na_L108_2).2 q.1)
theorem rf_L108_3 {h : zM} (s : okC h) : h.2 108 3 = (112 : Int) := zeqe (a := 108 + 4) (okC_k s (kk_L108) 3) (by decide)
theorem kka_L108_3 : kC (112 : Int) = 49 := by decide +kernel
theorem na_L108_3 : ¬ (112 : Int) = 114 ∧ ¬ (112 : Int) = 0 := by decide
theorem ka_L108_3 {h : zM} (s : okC h) : shC (112 : Int) = .inr (0, 128) ∧ 0 ≤ (112 : Int) ∧ (112 : Int) < h.1 := kLc s (kka_L108_3) rfl (by decide)
theorem pa_L108_3 {v : Int} (hv : 0 ≤ v ∧ v ≤ 127) (j : Int) : PC (112 : Int) j v := PC_k (kka_L108_3) hv
theorem ab_L108_3 {h : zM} (s : okC h) (j : Int) : 0 ≤ h.2 (112 : Int) j ∧ h.2 (112 : Int) j ≤ 127 := okC_k s (kka_L108_3) j
theorem aw_L108_3 {h h' : zM} {v j : Int} (s : okC h) (e : h' = zwr h (112 : Int) j v) (hv : 0 ≤ v ∧ v ≤ 127) : okC h' := okC_w s e (pa_L108_3 hv j) (na_L108_3).1 (fun q => (na_L108_3).2 q.1)
theorem rf_L108_4 {h : zM} (s : okC h) : h.2 108 4 = (113 : Int) := zeqe (a := 108 + 5) (okC_k s (kk_L108) 4) (by decide)
theorem kka_L108_4 : kC (113 : Int) = 50 := by decide +kernel
theorem na_L108_4 : ¬ (113 : Int) = 114 ∧ ¬ (113 : Int) = 0 := by decide
theorem ka_L108_4 {h : zM} (s : okC h) : shC (113 : Int) = .inr (0, 1984) ∧ 0 ≤ (113 : Int) ∧ (113 : Int) < h.1 := kLc s (kka_L108_4) rfl (by decide)
theorem pa_L108_4 {v : Int} (hv : (-2147483648) ≤ v ∧ v ≤ 2147483647) (j : Int) : PC (113 : Int) j v := PC_k (kka_L108_4) hv
theorem ab_L108_4 {h : zM} (s : okC h) (j : Int) : (-2147483648) ≤ h.2 (113 : Int) j ∧ h.2 (113 : Int) j ≤ 2147483647 := okC_k s (kka_L108_4) j
theorem aw_L108_4 {h h' : zM} {v j : Int} (s : okC h) (e : h' = zwr h (113 : Int) j v) (hv : (-2147483648) ≤ v ∧ v ≤ 2147483647) : okC h' := okC_w s e (pa_L108_4 hv j) (na_L108_4).1 (fun q => (na_L108_4).2 q.1)
theorem kka_140 : kC 140 = 53 := by decide +kernel
theorem na_140 : ¬ (140 : Int) = 114 ∧ ¬ (140 : Int) = 0 := by decide
theorem pa_140 {v : Int} (hv : -2147483648 ≤ v ∧ v ≤ 2147483647) (j : Int) : PC 140 j v := PC_k kka_140 hv
theorem ab_140 {h : zM} (s : okC h) (j : Int) : -2147483648 ≤ h.2 140 j ∧ h.2 140 j ≤ 2147483647 := okC_k s kka_140 j
theorem aw_140 {h h' : zM} {v j : Int} (s : okC h) (e : h' = zwr h 140 j v) (hv : -2147483648 ≤ v ∧ v ≤ 2147483647) : okC h' := okC_w s e (PC_k kka_140 hv) (by decide) (fun q => absurd q.1 (by decide))

