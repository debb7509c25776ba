def shCl : List (Nat ⊕ (Nat × Nat)) := [.inl 10, .inl 9, .inl 1, .inr (0, 18), .inr (0, 18), .inr (0, 18), .inl 3, .inr (0, 16), .inr (0, 16), .inr (0, 16), .inr (0, 16), .inr (0, 400), .inr (0, 64), .inl 4, .inr (0, 16), .inr (0, 16), .inr (0, 16), .inl 4, .inr (0, 16), .inr (0, 16), .inr (0, 16), .inl 2, .inr (0, 18), .inl 0, .inr (0, 150), .inr (0, 150), .inr (0, 150), .inr (0, 150), .inl 5, .inr (0, 5), .inr (1, 5), .inr (0, 8), .inr (0, 7), .inr (0, 6), .inr (0, 6), .inl 9, .inl 1, .inr (0, 18), .inr (0, 18), .inr (0, 18), .inl 3, .inr (0, 16), .inr (0, 16), .inr (0, 16), .inr (0, 16), .inr (0, 400), .inr (0, 64), .inl 4, .inr (0, 16), .inr (0, 16), .inr (0, 16), .inl 4, .inr (0, 16), .inr (0, 16), .inr (0, 16), .inl 2, .inr (0, 18), .inl 0, .inr (0, 150), .inr (0, 150), .inr (0, 150), .inr (0, 150), .inl 5, .inr (0, 5), .inr (1, 5), .inr (0, 8), .inr (0, 7), .inr (0, 6), .inr (0, 6), .inl 9, .inl 1, .inr (0, 18), .inr (0, 18), .inr (0, 18), .inl 3, .inr (0, 16), .inr (0, 16), .inr (0, 16), .inr (0, 16), .inr (0, 400), .inr (0, 64), .inl 4, .inr (0, 16), .inr (0, 16), .inr (0, 16), .inl 4, .inr (0, 16), .inr (0, 16), .inr (0, 16), .inl 2, .inr (0, 18), .inl 0, .inr (0, 150), .inr (0, 150), .inr (0, 150), .inr (0, 150), .inl 5, .inr (0, 5), .inr (1, 5), .inr (0, 8), .inr (0, 7), .inr (0, 6), .inr (0, 6), .inl 6, .inr (0, 400), .inr (0, 401), .inr (0, 401), .inl 7, .inl 8, .inr (0, 60), .inr (0, 8), .inr (0, 128), .inr (0, 128), .inr (0, 1984), .inr (2, 6), .inr (0, 6), .inl 1, .inr (0, 18), .inr (0, 18), .inr (0, 18), .inl 1, .inr (0, 18), .inr (0, 18), .inr (0, 18), .inl 1, .inr (0, 18), .inr (0, 18), .inr (0, 18), .inl 1, .inr (0, 18), .inr (0, 18), .inr (0, 18), .inl 1, .inr (0, 18), .inr (0, 18), .inr (0, 18), .inl 1, .inr (0, 18), .inr (0, 18), .inr (0, 18), .inr (0, 10000)]
def shC : zSh := fun c => shCl.getD c.toNat (.inl 99)
def tCl : List (List (Int × Int) ⊕ (Int × Int)) := [.inl [(1, 1), (35, 35), (69, 69), (103, 103), (107, 107), (108, 108), (114, 114), (115, 115), (0, 6), (0, 1), ((-1), 140)], .inl [(2, 2), (6, 6), (13, 13), (17, 17), (21, 21), (23, 23), (28, 28)], .inl [(3, 3), (4, 4), (5, 5), (0, 18), ((-2147483648), 2147483647), ((-2147483648), 2147483647), (0, 719), ((-2147483648), 2147483647), ((-2147483648), 2147483647), ((-2147483648), 2147483647), ((-2147483648), 2147483647), ((-2147483648), 2147483647), ((-2147483648), 2147483647), ((-2147483648), 2147483647)], .inr ((-2147483648), 2147483647), .inr ((-2147483648), 2147483647), .inr ((-2147483648), 2147483647), .inl [(7, 7), (8, 8), (9, 9), (10, 10), (11, 11), (12, 12), (0, 16), (0, 400)], .inr ((-2147483648), 2147483647), .inr (0, 400), .inr (0, 400), .inr (0, 400), .inr ((-2147483648), 2147483647), .inr ((-2147483648), 2147483647), .inl [(14, 14), (15, 15), (16, 16), (0, 16)], .inr ((-2147483648), 2147483647), .inr ((-2147483648), 2147483647), .inr ((-2147483648), 2147483647), .inl [(18, 18), (19, 19), (20, 20), (0, 16)], .inr ((-2147483648), 2147483647), .inr ((-2147483648), 2147483647), .inr ((-2147483648), 2147483647), .inl [(22, 22), ((-2147483648), 2147483647)], .inr ((-2147483648), 2147483647), .inl [(24, 24), (25, 25), (26, 26), (27, 27), (0, 150)], .inr ((-2147483648), 2147483647), .inr ((-2147483648), 2147483647), .inr ((-2147483648), 2147483647), .inr ((-2147483648), 2147483647), .inl [(29, 29), (30, 30), (0, 5), (31, 31), (0, 8), (32, 32), (0, 7), (33, 33), (34, 34), (0, 6)], .inr ((-2147483648), 2147483647), .inr (0, 1), .inr ((-2147483648), 2147483647), .inr ((-2147483648), 2147483647), .inr ((-2147483648), 2147483647), .inr ((-2147483648), 2147483647), .inl [(36, 36), (40, 40), (47, 47), (51, 51), (55, 55), (57, 57), (62, 62)], .inl [(37, 37), (38, 38), (39, 39), (0, 18), ((-2147483648), 2147483647), ((-2147483648), 2147483647), (0, 719), ((-2147483648), 2147483647), ((-2147483648), 2147483647), ((-2147483648), 2147483647), ((-2147483648), 2147483647), ((-2147483648), 2147483647), ((-2147483648), 2147483647), ((-2147483648), 2147483647)], .inr ((-2147483648), 2147483647), .inr ((-2147483648), 2147483647), .inr ((-2147483648), 2147483647), .inl [(41, 41), (42, 42), (43, 43), (44, 44), (45, 45), (46, 46), (0, 16), (0, 400)], .inr ((-2147483648), 2147483647), .inr (0, 400), .inr (0, 400), .inr (0, 400), .inr ((-2147483648), 2147483647), .inr ((-2147483648), 2147483647), .inl [(48, 48), (49, 49), (50, 50), (0, 16)], .inr ((-2147483648), 2147483647), .inr ((-2147483648), 2147483647), .inr ((-2147483648), 2147483647), .inl [(52, 52), (53, 53), (54, 54), (0, 16)], .inr ((-2147483648), 2147483647), .inr ((-2147483648), 2147483647), .inr ((-2147483648), 2147483647), .inl [(56, 56), ((-2147483648), 2147483647)], .inr ((-2147483648), 2147483647), .inl [(58, 58), (59, 59), (60, 60), (61, 61), (0, 150)], .inr ((-2147483648), 2147483647), .inr ((-2147483648), 2147483647), .inr ((-2147483648), 2147483647), .inr ((-2147483648), 2147483647), .inl [(63, 63), (64, 64), (0, 5), (65, 65), (0, 8), (66, 66), (0, 7), (67, 67), (68, 68), (0, 6)], .inr ((-2147483648), 2147483647), .inr (0, 1), .inr ((-2147483648), 2147483647), .inr ((-2147483648), 2147483647), .inr ((-2147483648), 2147483647), .inr ((-2147483648), 2147483647), .inl [(70, 70), (74, 74), (81, 81), (85, 85), (89, 89), (91, 91), (96, 96)], .inl [(71, 71), (72, 72), (73, 73), (0, 18), ((-2147483648), 2147483647), ((-2147483648), 2147483647), (0, 719), ((-2147483648), 2147483647), ((-2147483648), 2147483647), ((-2147483648), 2147483647), ((-2147483648), 2147483647), ((-2147483648), 2147483647), ((-2147483648), 2147483647), ((-2147483648), 2147483647)], .inr ((-2147483648), 2147483647), .inr ((-2147483648), 2147483647), .inr ((-2147483648), 2147483647), .inl [(75, 75), (76, 76), (77, 77), (78, 78), (79, 79), (80, 80), (0, 16), (0, 400)], .inr ((-2147483648), 2147483647), .inr (0, 400), .inr (0, 400), .inr (0, 400), .inr ((-2147483648), 2147483647), .inr ((-2147483648), 2147483647), .inl [(82, 82), (83, 83), (84, 84), (0, 16)], .inr ((-2147483648), 2147483647), .inr ((-2147483648), 2147483647), .inr ((-2147483648), 2147483647), .inl [(86, 86), (87, 87), (88, 88), (0, 16)], .inr ((-2147483648), 2147483647), .inr ((-2147483648), 2147483647), .inr ((-2147483648), 2147483647), .inl [(90, 90), ((-2147483648), 2147483647)], .inr ((-2147483648), 2147483647), .inl [(92, 92), (93, 93), (94, 94), (95, 95), (0, 150)], .inr ((-2147483648), 2147483647), .inr ((-2147483648), 2147483647), .inr ((-2147483648), 2147483647), .inr ((-2147483648), 2147483647), .inl [(97, 97), (98, 98), (0, 5), (99, 99), (0, 8), (100, 100), (0, 7), (101, 101), (102, 102), (0, 6)], .inr ((-2147483648), 2147483647), .inr (0, 1), .inr ((-2147483648), 2147483647), .inr ((-2147483648), 2147483647), .inr ((-2147483648), 2147483647), .inr ((-2147483648), 2147483647), .inl [(104, 104), (105, 105), (106, 106), (0, 400), (0, 401), (0, 400), ((-2147483648), 2147483647), ((-2147483648), 2147483647), ((-2147483648), 2147483647), ((-2147483648), 2147483647)], .inr (0, 255), .inr ((-2147483648), 2147483647), .inr ((-2147483648), 2147483647), .inl [(103, 103)], .inl [(109, 109), (110, 110), (111, 111), (112, 112), (113, 113)], .inr ((-2147483648), 2147483647), .inr ((-2147483648), 2147483647), .inr ((-2147483648), 2147483647), .inr (0, 127), .inr ((-2147483648), 2147483647), .inr (116, 136), .inr (0, 150), .inl [(117, 117), (118, 118), (119, 119), (0, 18), ((-2147483648), 2147483647), ((-2147483648), 2147483647), (0, 719), ((-2147483648), 2147483647), ((-2147483648), 2147483647), ((-2147483648), 2147483647), ((-2147483648), 2147483647), ((-2147483648), 2147483647), ((-2147483648), 2147483647), ((-2147483648), 2147483647)], .inr ((-2147483648), 2147483647), .inr ((-2147483648), 2147483647), .inr ((-2147483648), 2147483647), .inl [(121, 121), (122, 122), (123, 123), (0, 18), ((-2147483648), 2147483647), ((-2147483648), 2147483647), (0, 719), ((-2147483648), 2147483647), ((-2147483648), 2147483647), ((-2147483648), 2147483647), ((-2147483648), 2147483647), ((-2147483648), 2147483647), ((-2147483648), 2147483647), ((-2147483648), 2147483647)], .inr ((-2147483648), 2147483647), .inr ((-2147483648), 2147483647), .inr ((-2147483648), 2147483647), .inl [(125, 125), (126, 126), (127, 127), (0, 18), ((-2147483648), 2147483647), ((-2147483648), 2147483647), (0, 719), ((-2147483648), 2147483647), ((-2147483648), 2147483647), ((-2147483648), 2147483647), ((-2147483648), 2147483647), ((-2147483648), 2147483647), ((-2147483648), 2147483647), ((-2147483648), 2147483647)], .inr ((-2147483648), 2147483647), .inr ((-2147483648), 2147483647), .inr ((-2147483648), 2147483647), .inl [(129, 129), (130, 130), (131, 131), (0, 18), ((-2147483648), 2147483647), ((-2147483648), 2147483647), (0, 719), ((-2147483648), 2147483647), ((-2147483648), 2147483647), ((-2147483648), 2147483647), ((-2147483648), 2147483647), ((-2147483648), 2147483647), ((-2147483648), 2147483647), ((-2147483648), 2147483647)], .inr ((-2147483648), 2147483647), .inr ((-2147483648), 2147483647), .inr ((-2147483648), 2147483647), .inl [(133, 133), (134, 134), (135, 135), (0, 18), ((-2147483648), 2147483647), ((-2147483648), 2147483647), (0, 719), ((-2147483648), 2147483647), ((-2147483648), 2147483647), ((-2147483648), 2147483647), ((-2147483648), 2147483647), ((-2147483648), 2147483647), ((-2147483648), 2147483647), ((-2147483648), 2147483647)], .inr ((-2147483648), 2147483647), .inr ((-2147483648), 2147483647), .inr ((-2147483648), 2147483647), .inl [(137, 137), (138, 138), (139, 139), (0, 18), ((-2147483648), 2147483647), ((-2147483648), 2147483647), (0, 719), ((-2147483648), 2147483647), ((-2147483648), 2147483647), ((-2147483648), 2147483647), ((-2147483648), 2147483647), ((-2147483648), 2147483647), ((-2147483648), 2147483647), ((-2147483648), 2147483647)], .inr ((-2147483648), 2147483647), .inr ((-2147483648), 2147483647), .inr ((-2147483648), 2147483647), .inr ((-2147483648), 2147483647)]
def zbo (q : List (Int × Int) ⊕ (Int × Int)) (j : Int) : Int × Int := match q with
  | .inl l => l.getD j.toNat (-2147483648, 2147483647)
  | .inr b => b
def tC (c j : Int) : Int × Int := zbo (tCl.getD c.toNat (.inr (-2147483648, 2147483647))) j
def PC (c j v : Int) : Prop := (tC c j).1 ≤ v ∧ v ≤ (tC c j).2
def zPast (v : Int) : Prop := v = 116 ∨ v = 120 ∨ v = 124 ∨ v = 128 ∨ v = 132 ∨ v = 136
def okC (h : zM) : Prop := 140 ≤ h.1 ∧ (∀ a b : Int, PC a b (h.2 a b)) ∧ (∀ b : Int, 0 ≤ b → b < 6 → zPast (h.2 114 b)) ∧ (h.2 0 10 = -1 ∨ (h.2 0 10 = 140 ∧ 141 ≤ h.1))
theorem okC_w {h h' : zM} {c k v : Int} (s : okC h) (e : h' = zwr h c k v) (hp : PC c k v) (h1 : ¬ c = 114) (h2 : ¬ (c = 0 ∧ k = 10)) : okC h' := by
  subst e
  refine ⟨s.1, fun a b => ?_, fun b q1 q2 => ?_, ?_⟩
  · by_cases q : a = c ∧ b = k
    · rw [q.1, q.2, zwr_s]; exact hp
    · rw [zwr_n q]; exact s.2.1 a b
  · rw [zwr_n (by omega)]; exact s.2.2.1 b q1 q2
  · rw [zwr_n (by omega)]; exact s.2.2.2
theorem kLc {h : zM} {c : Int} {x : Nat ⊕ (Nat × Nat)} (s : okC h) (hs : shC c = x) (h0 : 0 ≤ c) (h1 : c < 140) : shC c = x ∧ 0 ≤ c ∧ c < h.1 := ⟨hs, h0, by have := s.1; omega⟩
def zWd (c : Int) : Prop := c = 1 ∨ c = 35 ∨ c = 69
theorem zWd_1 : zWd 1 := by unfold zWd; omega
theorem zWd_35 : zWd 35 := by unfold zWd; omega
theorem zWd_69 : zWd 69 := by unfold zWd; omega
theorem zWd_b {c : Int} (hc : zWd c) : 1 ≤ c ∧ c ≤ 69 := by unfold zWd at hc; omega
def zIs (c : Int) : Prop := c = 2 ∨ c = 36 ∨ c = 70 ∨ c = 116 ∨ c = 120 ∨ c = 124 ∨ c = 128 ∨ c = 132 ∨ c = 136
theorem zIs_2 : zIs 2 := by unfold zIs; omega
theorem zIs_36 : zIs 36 := by unfold zIs; omega
theorem zIs_70 : zIs 70 := by unfold zIs; omega
theorem zIs_116 : zIs 116 := by unfold zIs; omega
theorem zIs_120 : zIs 120 := by unfold zIs; omega
theorem zIs_124 : zIs 124 := by unfold zIs; omega
theorem zIs_128 : zIs 128 := by unfold zIs; omega
theorem zIs_132 : zIs 132 := by unfold zIs; omega
theorem zIs_136 : zIs 136 := by unfold zIs; omega
theorem zIs_b {c : Int} (hc : zIs c) : 2 ≤ c ∧ c ≤ 136 := by unfold zIs at hc; omega
def zLw (c : Int) : Prop := c = 6 ∨ c = 40 ∨ c = 74
theorem zLw_6 : zLw 6 := by unfold zLw; omega
theorem zLw_40 : zLw 40 := by unfold zLw; omega
theorem zLw_74 : zLw 74 := by unfold zLw; omega
theorem zLw_b {c : Int} (hc : zLw c) : 6 ≤ c ∧ c ≤ 74 := by unfold zLw at hc; omega
def zPl (c : Int) : Prop := c = 13 ∨ c = 17 ∨ c = 47 ∨ c = 51 ∨ c = 81 ∨ c = 85
theorem zPl_13 : zPl 13 := by unfold zPl; omega
theorem zPl_17 : zPl 17 := by unfold zPl; omega
theorem zPl_47 : zPl 47 := by unfold zPl; omega
theorem zPl_51 : zPl 51 := by unfold zPl; omega
theorem zPl_81 : zPl 81 := by unfold zPl; omega
theorem zPl_85 : zPl 85 := by unfold zPl; omega
theorem zPl_b {c : Int} (hc : zPl c) : 13 ≤ c ∧ c ≤ 85 := by unfold zPl at hc; omega
def zKi (c : Int) : Prop := c = 21 ∨ c = 55 ∨ c = 89
theorem zKi_21 : zKi 21 := by unfold zKi; omega
theorem zKi_55 : zKi 55 := by unfold zKi; omega
theorem zKi_89 : zKi 89 := by unfold zKi; omega
theorem zKi_b {c : Int} (hc : zKi c) : 21 ≤ c ∧ c ≤ 89 := by unfold zKi at hc; omega
def zBo (c : Int) : Prop := c = 23 ∨ c = 57 ∨ c = 91
theorem zBo_23 : zBo 23 := by unfold zBo; omega
theorem zBo_57 : zBo 57 := by unfold zBo; omega
theorem zBo_91 : zBo 91 := by unfold zBo; omega
theorem zBo_b {c : Int} (hc : zBo c) : 23 ≤ c ∧ c ≤ 91 := by unfold zBo at hc; omega
def zPu (c : Int) : Prop := c = 28 ∨ c = 62 ∨ c = 96
theorem zPu_28 : zPu 28 := by unfold zPu; omega
theorem zPu_62 : zPu 62 := by unfold zPu; omega
theorem zPu_96 : zPu 96 := by unfold zPu; omega
theorem zPu_b {c : Int} (hc : zPu c) : 28 ≤ c ∧ c ≤ 96 := by unfold zPu at hc; omega
theorem zPast_Is {c : Int} (hc : zPast c) : zIs c := by unfold zPast at hc; unfold zIs; omega
theorem k_9_0 {h : zM} {c : Int} (s : okC h) (hc : zWd c) : shC c = .inl 9 ∧ 0 ≤ c ∧ c < h.1 := by rcases hc with rfl | rfl | rfl <;> exact kLc s rfl (by decide) (by decide)
theorem rf_9_0_0 {h : zM} {c : Int} (s : okC h) (hc : zWd c) : h.2 c 0 = (c + 1) := by rcases hc with rfl | rfl | rfl <;> exact zeq (s.2.1 _ _)
theorem rf_9_0_1 {h : zM} {c : Int} (s : okC h) (hc : zWd c) : h.2 c 1 = (c + 5) := by rcases hc with rfl | rfl | rfl <;> exact zeq (s.2.1 _ _)
theorem rf_9_0_2 {h : zM} {c : Int} (s : okC h) (hc : zWd c) : h.2 c 2 = (c + 12) := by rcases hc with rfl | rfl | rfl <;> exact zeq (s.2.1 _ _)
theorem rf_9_0_3 {h : zM} {c : Int} (s : okC h) (hc : zWd c) : h.2 c 3 = (c + 16) := by rcases hc with rfl | rfl | rfl <;> exact zeq (s.2.1 _ _)
theorem rf_9_0_4 {h : zM} {c : Int} (s : okC h) (hc : zWd c) : h.2 c 4 = (c + 20) := by rcases hc with rfl | rfl | rfl <;> exact zeq (s.2.1 _ _)
theorem rf_9_0_5 {h : zM} {c : Int} (s : okC h) (hc : zWd c) : h.2 c 5 = (c + 22) := by rcases hc with rfl | rfl | rfl <;> exact zeq (s.2.1 _ _)
theorem rf_9_0_6 {h : zM} {c : Int} (s : okC h) (hc : zWd c) : h.2 c 6 = (c + 27) := by rcases hc with rfl | rfl | rfl <;> exact zeq (s.2.1 _ _)
theorem zs_9_1 {c : Int} (hc : zWd c) : zIs (c + 1) := by unfold zWd at hc; unfold zIs; omega
theorem k_9_1 {h : zM} {c : Int} (s : okC h) (hc : zWd c) : shC (c + 1) = .inl 1 ∧ 0 ≤ (c + 1) ∧ (c + 1) < h.1 := by rcases hc with rfl | rfl | rfl <;> exact kLc s rfl (by decide) (by decide)
theorem rf_9_1_0 {h : zM} {c : Int} (s : okC h) (hc : zWd c) : h.2 (c + 1) 0 = (c + 2) := by rcases hc with rfl | rfl | rfl <;> exact zeq (s.2.1 _ _)
theorem ka_9_1_0 {h : zM} {c : Int} (s : okC h) (hc : zWd c) : shC (c + 2) = .inr (0, 18) ∧ 0 ≤ (c + 2) ∧ (c + 2) < h.1 := by rcases hc with rfl | rfl | rfl <;> exact kLc s rfl (by decide) (by decide)
theorem ab_9_1_0 {h : zM} {c : Int} (s : okC h) (hc : zWd c) (j : Int) : (-2147483648) ≤ h.2 (c + 2) j ∧ h.2 (c + 2) j ≤ 2147483647 := by rcases hc with rfl | rfl | rfl <;> exact s.2.1 _ _
theorem aw_9_1_0 {h h' : zM} {c v j : Int} (s : okC h) (hc : zWd c) (e : h' = zwr h (c + 2) j v) (hv : (-2147483648) ≤ v ∧ v ≤ 2147483647) : okC h' := by rcases hc with rfl | rfl | rfl <;> exact okC_w s e hv (by decide) (by decide)
theorem rf_9_1_1 {h : zM} {c : Int} (s : okC h) (hc : zWd c) : h.2 (c + 1) 1 = (c + 3) := by rcases hc with rfl | rfl | rfl <;> exact zeq (s.2.1 _ _)
theorem ka_9_1_1 {h : zM} {c : Int} (s : okC h) (hc : zWd c) : shC (c + 3) = .inr (0, 18) ∧ 0 ≤ (c + 3) ∧ (c + 3) < h.1 := by rcases hc with rfl | rfl | rfl <;> exact kLc s rfl (by decide) (by decide)
theorem ab_9_1_1 {h : zM} {c : Int} (s : okC h) (hc : zWd c) (j : Int) : (-2147483648) ≤ h.2 (c + 3) j ∧ h.2 (c + 3) j ≤ 2147483647 := by rcases hc with rfl | rfl | rfl <;> exact s.2.1 _ _
theorem aw_9_1_1 {h h' : zM} {c v j : Int} (s : okC h) (hc : zWd c) (e : h' = zwr h (c + 3) j v) (hv : (-2147483648) ≤ v ∧ v ≤ 2147483647) : okC h' := by rcases hc with rfl | rfl | rfl <;> exact okC_w s e hv (by decide) (by decide)
theorem rf_9_1_2 {h : zM} {c : Int} (s : okC h) (hc : zWd c) : h.2 (c + 1) 2 = (c + 4) := by rcases hc with rfl | rfl | rfl <;> exact zeq (s.2.1 _ _)
theorem ka_9_1_2 {h : zM} {c : Int} (s : okC h) (hc : zWd c) : shC (c + 4) = .inr (0, 18) ∧ 0 ≤ (c + 4) ∧ (c + 4) < h.1 := by rcases hc with rfl | rfl | rfl <;> exact kLc s rfl (by decide) (by decide)
theorem ab_9_1_2 {h : zM} {c : Int} (s : okC h) (hc : zWd c) (j : Int) : (-2147483648) ≤ h.2 (c + 4) j ∧ h.2 (c + 4) j ≤ 2147483647 := by rcases hc with rfl | rfl | rfl <;> exact s.2.1 _ _
theorem aw_9_1_2 {h h' : zM} {c v j : Int} (s : okC h) (hc : zWd c) (e : h' = zwr h (c + 4) j v) (hv : (-2147483648) ≤ v ∧ v ≤ 2147483647) : okC h' := by rcases hc with rfl | rfl | rfl <;> exact okC_w s e hv (by decide) (by decide)
theorem fb_9_1_3 {h : zM} {c : Int} (s : okC h) (hc : zWd c) : 0 ≤ h.2 (c + 1) 3 ∧ h.2 (c + 1) 3 ≤ 18 := by rcases hc with rfl | rfl | rfl <;> exact s.2.1 _ _
theorem fw_9_1_3 {h h' : zM} {c v : Int} (s : okC h) (hc : zWd c) (e : h' = zwr h (c + 1) 3 v) (hv : 0 ≤ v ∧ v ≤ 18) : okC h' := by rcases hc with rfl | rfl | rfl <;> exact okC_w s e hv (by decide) (by decide)
theorem fb_9_1_4 {h : zM} {c : Int} (s : okC h) (hc : zWd c) : (-2147483648) ≤ h.2 (c + 1) 4 ∧ h.2 (c + 1) 4 ≤ 2147483647 := by rcases hc with rfl | rfl | rfl <;> exact s.2.1 _ _
theorem fw_9_1_4 {h h' : zM} {c v : Int} (s : okC h) (hc : zWd c) (e : h' = zwr h (c + 1) 4 v) (hv : (-2147483648) ≤ v ∧ v ≤ 2147483647) : okC h' := by rcases hc with rfl | rfl | rfl <;> exact okC_w s e hv (by decide) (by decide)
theorem fb_9_1_5 {h : zM} {c : Int} (s : okC h) (hc : zWd c) : (-2147483648) ≤ h.2 (c + 1) 5 ∧ h.2 (c + 1) 5 ≤ 2147483647 := by rcases hc with rfl | rfl | rfl <;> exact s.2.1 _ _
theorem fw_9_1_5 {h h' : zM} {c v : Int} (s : okC h) (hc : zWd c) (e : h' = zwr h (c + 1) 5 v) (hv : (-2147483648) ≤ v ∧ v ≤ 2147483647) : okC h' := by rcases hc with rfl | rfl | rfl <;> exact okC_w s e hv (by decide) (by decide)
theorem fb_9_1_6 {h : zM} {c : Int} (s : okC h) (hc : zWd c) : 0 ≤ h.2 (c + 1) 6 ∧ h.2 (c + 1) 6 ≤ 719 := by rcases hc with rfl | rfl | rfl <;> exact s.2.1 _ _
theorem fw_9_1_6 {h h' : zM} {c v : Int} (s : okC h) (hc : zWd c) (e : h' = zwr h (c + 1) 6 v) (hv : 0 ≤ v ∧ v ≤ 719) : okC h' := by rcases hc with rfl | rfl | rfl <;> exact okC_w s e hv (by decide) (by decide)
theorem fb_9_1_7 {h : zM} {c : Int} (s : okC h) (hc : zWd c) : (-2147483648) ≤ h.2 (c + 1) 7 ∧ h.2 (c + 1) 7 ≤ 2147483647 := by rcases hc with rfl | rfl | rfl <;> exact s.2.1 _ _
theorem fw_9_1_7 {h h' : zM} {c v : Int} (s : okC h) (hc : zWd c) (e : h' = zwr h (c + 1) 7 v) (hv : (-2147483648) ≤ v ∧ v ≤ 2147483647) : okC h' := by rcases hc with rfl | rfl | rfl <;> exact okC_w s e hv (by decide) (by decide)
theorem fb_9_1_8 {h : zM} {c : Int} (s : okC h) (hc : zWd c) : (-2147483648) ≤ h.2 (c + 1) 8 ∧ h.2 (c + 1) 8 ≤ 2147483647 := by rcases hc with rfl | rfl | rfl <;> exact s.2.1 _ _
theorem fw_9_1_8 {h h' : zM} {c v : Int} (s : okC h) (hc : zWd c) (e : h' = zwr h (c + 1) 8 v) (hv : (-2147483648) ≤ v ∧ v ≤ 2147483647) : okC h' := by rcases hc with rfl | rfl | rfl <;> exact okC_w s e hv (by decide) (by decide)
theorem fb_9_1_9 {h : zM} {c : Int} (s : okC h) (hc : zWd c) : (-2147483648) ≤ h.2 (c + 1) 9 ∧ h.2 (c + 1) 9 ≤ 2147483647 := by rcases hc with rfl | rfl | rfl <;> exact s.2.1 _ _
theorem fw_9_1_9 {h h' : zM} {c v : Int} (s : okC h) (hc : zWd c) (e : h' = zwr h (c + 1) 9 v) (hv : (-2147483648) ≤ v ∧ v ≤ 2147483647) : okC h' := by rcases hc with rfl | rfl | rfl <;> exact okC_w s e hv (by decide) (by decide)
theorem fb_9_1_10 {h : zM} {c : Int} (s : okC h) (hc : zWd c) : (-2147483648) ≤ h.2 (c + 1) 10 ∧ h.2 (c + 1) 10 ≤ 2147483647 := by rcases hc with rfl | rfl | rfl <;> exact s.2.1 _ _
theorem fw_9_1_10 {h h' : zM} {c v : Int} (s : okC h) (hc : zWd c) (e : h' = zwr h (c + 1) 10 v) (hv : (-2147483648) ≤ v ∧ v ≤ 2147483647) : okC h' := by rcases hc with rfl | rfl | rfl <;> exact okC_w s e hv (by decide) (by decide)
theorem fb_9_1_11 {h : zM} {c : Int} (s : okC h) (hc : zWd c) : (-2147483648) ≤ h.2 (c + 1) 11 ∧ h.2 (c + 1) 11 ≤ 2147483647 := by rcases hc with rfl | rfl | rfl <;> exact s.2.1 _ _
theorem fw_9_1_11 {h h' : zM} {c v : Int} (s : okC h) (hc : zWd c) (e : h' = zwr h (c + 1) 11 v) (hv : (-2147483648) ≤ v ∧ v ≤ 2147483647) : okC h' := by rcases hc with rfl | rfl | rfl <;> exact okC_w s e hv (by decide) (by decide)
theorem fb_9_1_12 {h : zM} {c : Int} (s : okC h) (hc : zWd c) : (-2147483648) ≤ h.2 (c + 1) 12 ∧ h.2 (c + 1) 12 ≤ 2147483647 := by rcases hc with rfl | rfl | rfl <;> exact s.2.1 _ _
theorem fw_9_1_12 {h h' : zM} {c v : Int} (s : okC h) (hc : zWd c) (e : h' = zwr h (c + 1) 12 v) (hv : (-2147483648) ≤ v ∧ v ≤ 2147483647) : okC h' := by rcases hc with rfl | rfl | rfl <;> exact okC_w s e hv (by decide) (by decide)
theorem fb_9_1_13 {h : zM} {c : Int} (s : okC h) (hc : zWd c) : (-2147483648) ≤ h.2 (c + 1) 13 ∧ h.2 (c + 1) 13 ≤ 2147483647 := by rcases hc with rfl | rfl | rfl <;> exact s.2.1 _ _
theorem fw_9_1_13 {h h' : zM} {c v : Int} (s : okC h) (hc : zWd c) (e : h' = zwr h (c + 1) 13 v) (hv : (-2147483648) ≤ v ∧ v ≤ 2147483647) : okC h' := by rcases hc with rfl | rfl | rfl <;> exact okC_w s e hv (by decide) (by decide)
theorem zs_9_5 {c : Int} (hc : zWd c) : zLw (c + 5) := by unfold zWd at hc; unfold zLw; omega
theorem k_9_5 {h : zM} {c : Int} (s : okC h) (hc : zWd c) : shC (c + 5) = .inl 3 ∧ 0 ≤ (c + 5) ∧ (c + 5) < h.1 := by rcases hc with rfl | rfl | rfl <;> exact kLc s rfl (by decide) (by decide)
theorem rf_9_5_0 {h : zM} {c : Int} (s : okC h) (hc : zWd c) : h.2 (c + 5) 0 = (c + 6) := by rcases hc with rfl | rfl | rfl <;> exact zeq (s.2.1 _ _)
theorem ka_9_5_0 {h : zM} {c : Int} (s : okC h) (hc : zWd c) : shC (c + 6) = .inr (0, 16) ∧ 0 ≤ (c + 6) ∧ (c + 6) < h.1 := by rcases hc with rfl | rfl | rfl <;> exact kLc s rfl (by decide) (by decide)
theorem ab_9_5_0 {h : zM} {c : Int} (s : okC h) (hc : zWd c) (j : Int) : (-2147483648) ≤ h.2 (c + 6) j ∧ h.2 (c + 6) j ≤ 2147483647 := by rcases hc with rfl | rfl | rfl <;> exact s.2.1 _ _
theorem aw_9_5_0 {h h' : zM} {c v j : Int} (s : okC h) (hc : zWd c) (e : h' = zwr h (c + 6) j v) (hv : (-2147483648) ≤ v ∧ v ≤ 2147483647) : okC h' := by rcases hc with rfl | rfl | rfl <;> exact okC_w s e hv (by decide) (by decide)
theorem rf_9_5_1 {h : zM} {c : Int} (s : okC h) (hc : zWd c) : h.2 (c + 5) 1 = (c + 7) := by rcases hc with rfl | rfl | rfl <;> exact zeq (s.2.1 _ _)
theorem ka_9_5_1 {h : zM} {c : Int} (s : okC h) (hc : zWd c) : shC (c + 7) = .inr (0, 16) ∧ 0 ≤ (c + 7) ∧ (c + 7) < h.1 := by rcases hc with rfl | rfl | rfl <;> exact kLc s rfl (by decide) (by decide)
theorem ab_9_5_1 {h : zM} {c : Int} (s : okC h) (hc : zWd c) (j : Int) : 0 ≤ h.2 (c + 7) j ∧ h.2 (c + 7) j ≤ 400 := by rcases hc with rfl | rfl | rfl <;> exact s.2.1 _ _
theorem aw_9_5_1 {h h' : zM} {c v j : Int} (s : okC h) (hc : zWd c) (e : h' = zwr h (c + 7) j v) (hv : 0 ≤ v ∧ v ≤ 400) : okC h' := by rcases hc with rfl | rfl | rfl <;> exact okC_w s e hv (by decide) (by decide)
theorem rf_9_5_2 {h : zM} {c : Int} (s : okC h) (hc : zWd c) : h.2 (c + 5) 2 = (c + 8) := by rcases hc with rfl | rfl | rfl <;> exact zeq (s.2.1 _ _)
theorem ka_9_5_2 {h : zM} {c : Int} (s : okC h) (hc : zWd c) : shC (c + 8) = .inr (0, 16) ∧ 0 ≤ (c + 8) ∧ (c + 8) < h.1 := by rcases hc with rfl | rfl | rfl <;> exact kLc s rfl (by decide) (by decide)
theorem ab_9_5_2 {h : zM} {c : Int} (s : okC h) (hc : zWd c) (j : Int) : 0 ≤ h.2 (c + 8) j ∧ h.2 (c + 8) j ≤ 400 := by rcases hc with rfl | rfl | rfl <;> exact s.2.1 _ _
theorem aw_9_5_2 {h h' : zM} {c v j : Int} (s : okC h) (hc : zWd c) (e : h' = zwr h (c + 8) j v) (hv : 0 ≤ v ∧ v ≤ 400) : okC h' := by rcases hc with rfl | rfl | rfl <;> exact okC_w s e hv (by decide) (by decide)
theorem rf_9_5_3 {h : zM} {c : Int} (s : okC h) (hc : zWd c) : h.2 (c + 5) 3 = (c + 9) := by rcases hc with rfl | rfl | rfl <;> exact zeq (s.2.1 _ _)
theorem ka_9_5_3 {h : zM} {c : Int} (s : okC h) (hc : zWd c) : shC (c + 9) = .inr (0, 16) ∧ 0 ≤ (c + 9) ∧ (c + 9) < h.1 := by rcases hc with rfl | rfl | rfl <;> exact kLc s rfl (by decide) (by decide)
theorem ab_9_5_3 {h : zM} {c : Int} (s : okC h) (hc : zWd c) (j : Int) : 0 ≤ h.2 (c + 9) j ∧ h.2 (c + 9) j ≤ 400 := by rcases hc with rfl | rfl | rfl <;> exact s.2.1 _ _
theorem aw_9_5_3 {h h' : zM} {c v j : Int} (s : okC h) (hc : zWd c) (e : h' = zwr h (c + 9) j v) (hv : 0 ≤ v ∧ v ≤ 400) : okC h' := by rcases hc with rfl | rfl | rfl <;> exact okC_w s e hv (by decide) (by decide)
theorem rf_9_5_4 {h : zM} {c : Int} (s : okC h) (hc : zWd c) : h.2 (c + 5) 4 = (c + 10) := by rcases hc with rfl | rfl | rfl <;> exact zeq (s.2.1 _ _)
theorem ka_9_5_4 {h : zM} {c : Int} (s : okC h) (hc : zWd c) : shC (c + 10) = .inr (0, 400) ∧ 0 ≤ (c + 10) ∧ (c + 10) < h.1 := by rcases hc with rfl | rfl | rfl <;> exact kLc s rfl (by decide) (by decide)
theorem ab_9_5_4 {h : zM} {c : Int} (s : okC h) (hc : zWd c) (j : Int) : (-2147483648) ≤ h.2 (c + 10) j ∧ h.2 (c + 10) j ≤ 2147483647 := by rcases hc with rfl | rfl | rfl <;> exact s.2.1 _ _
theorem aw_9_5_4 {h h' : zM} {c v j : Int} (s : okC h) (hc : zWd c) (e : h' = zwr h (c + 10) j v) (hv : (-2147483648) ≤ v ∧ v ≤ 2147483647) : okC h' := by rcases hc with rfl | rfl | rfl <;> exact okC_w s e hv (by decide) (by decide)
theorem rf_9_5_5 {h : zM} {c : Int} (s : okC h) (hc : zWd c) : h.2 (c + 5) 5 = (c + 11) := by rcases hc with rfl | rfl | rfl <;> exact zeq (s.2.1 _ _)
theorem ka_9_5_5 {h : zM} {c : Int} (s : okC h) (hc : zWd c) : shC (c + 11) = .inr (0, 64) ∧ 0 ≤ (c + 11) ∧ (c + 11) < h.1 := by rcases hc with rfl | rfl | rfl <;> exact kLc s rfl (by decide) (by decide)
theorem ab_9_5_5 {h : zM} {c : Int} (s : okC h) (hc : zWd c) (j : Int) : (-2147483648) ≤ h.2 (c + 11) j ∧ h.2 (c + 11) j ≤ 2147483647 := by rcases hc with rfl | rfl | rfl <;> exact s.2.1 _ _
theorem aw_9_5_5 {h h' : zM} {c v j : Int} (s : okC h) (hc : zWd c) (e : h' = zwr h (c + 11) j v) (hv : (-2147483648) ≤ v ∧ v ≤ 2147483647) : okC h' := by rcases hc with rfl | rfl | rfl <;> exact okC_w s e hv (by decide) (by decide)
theorem fb_9_5_6 {h : zM} {c : Int} (s : okC h) (hc : zWd c) : 0 ≤ h.2 (c + 5) 6 ∧ h.2 (c + 5) 6 ≤ 16 := by rcases hc with rfl | rfl | rfl <;> exact s.2.1 _ _
theorem fw_9_5_6 {h h' : zM} {c v : Int} (s : okC h) (hc : zWd c) (e : h' = zwr h (c + 5) 6 v) (hv : 0 ≤ v ∧ v ≤ 16) : okC h' := by rcases hc with rfl | rfl | rfl <;> exact okC_w s e hv (by decide) (by decide)
theorem fb_9_5_7 {h : zM} {c : Int} (s : okC h) (hc : zWd c) : 0 ≤ h.2 (c + 5) 7 ∧ h.2 (c + 5) 7 ≤ 400 := by rcases hc with rfl | rfl | rfl <;> exact s.2.1 _ _
theorem fw_9_5_7 {h h' : zM} {c v : Int} (s : okC h) (hc : zWd c) (e : h' = zwr h (c + 5) 7 v) (hv : 0 ≤ v ∧ v ≤ 400) : okC h' := by rcases hc with rfl | rfl | rfl <;> exact okC_w s e hv (by decide) (by decide)
theorem zs_9_12 {c : Int} (hc : zWd c) : zPl (c + 12) := by unfold zWd at hc; unfold zPl; omega
theorem k_9_12 {h : zM} {c : Int} (s : okC h) (hc : zWd c) : shC (c + 12) = .inl 4 ∧ 0 ≤ (c + 12) ∧ (c + 12) < h.1 := by rcases hc with rfl | rfl | rfl <;> exact kLc s rfl (by decide) (by decide)
theorem rf_9_12_0 {h : zM} {c : Int} (s : okC h) (hc : zWd c) : h.2 (c + 12) 0 = (c + 13) := by rcases hc with rfl | rfl | rfl <;> exact zeq (s.2.1 _ _)
theorem ka_9_12_0 {h : zM} {c : Int} (s : okC h) (hc : zWd c) : shC (c + 13) = .inr (0, 16) ∧ 0 ≤ (c + 13) ∧ (c + 13) < h.1 := by rcases hc with rfl | rfl | rfl <;> exact kLc s rfl (by decide) (by decide)
theorem ab_9_12_0 {h : zM} {c : Int} (s : okC h) (hc : zWd c) (j : Int) : (-2147483648) ≤ h.2 (c + 13) j ∧ h.2 (c + 13) j ≤ 2147483647 := by rcases hc with rfl | rfl | rfl <;> exact s.2.1 _ _
theorem aw_9_12_0 {h h' : zM} {c v j : Int} (s : okC h) (hc : zWd c) (e : h' = zwr h (c + 13) j v) (hv : (-2147483648) ≤ v ∧ v ≤ 2147483647) : okC h' := by rcases hc with rfl | rfl | rfl <;> exact okC_w s e hv (by decide) (by decide)
theorem rf_9_12_1 {h : zM} {c : Int} (s : okC h) (hc : zWd c) : h.2 (c + 12) 1 = (c + 14) := by rcases hc with rfl | rfl | rfl <;> exact zeq (s.2.1 _ _)
theorem ka_9_12_1 {h : zM} {c : Int} (s : okC h) (hc : zWd c) : shC (c + 14) = .inr (0, 16) ∧ 0 ≤ (c + 14) ∧ (c + 14) < h.1 := by rcases hc with rfl | rfl | rfl <;> exact kLc s rfl (by decide) (by decide)
theorem ab_9_12_1 {h : zM} {c : Int} (s : okC h) (hc : zWd c) (j : Int) : (-2147483648) ≤ h.2 (c + 14) j ∧ h.2 (c + 14) j ≤ 2147483647 := by rcases hc with rfl | rfl | rfl <;> exact s.2.1 _ _
theorem aw_9_12_1 {h h' : zM} {c v j : Int} (s : okC h) (hc : zWd c) (e : h' = zwr h (c + 14) j v) (hv : (-2147483648) ≤ v ∧ v ≤ 2147483647) : okC h' := by rcases hc with rfl | rfl | rfl <;> exact okC_w s e hv (by decide) (by decide)
theorem rf_9_12_2 {h : zM} {c : Int} (s : okC h) (hc : zWd c) : h.2 (c + 12) 2 = (c + 15) := by rcases hc with rfl | rfl | rfl <;> exact zeq (s.2.1 _ _)
theorem ka_9_12_2 {h : zM} {c : Int} (s : okC h) (hc : zWd c) : shC (c + 15) = .inr (0, 16) ∧ 0 ≤ (c + 15) ∧ (c + 15) < h.1 := by rcases hc with rfl | rfl | rfl <;> exact kLc s rfl (by decide) (by decide)
theorem ab_9_12_2 {h : zM} {c : Int} (s : okC h) (hc : zWd c) (j : Int) : (-2147483648) ≤ h.2 (c + 15) j ∧ h.2 (c + 15) j ≤ 2147483647 := by rcases hc with rfl | rfl | rfl <;> exact s.2.1 _ _
theorem aw_9_12_2 {h h' : zM} {c v j : Int} (s : okC h) (hc : zWd c) (e : h' = zwr h (c + 15) j v) (hv : (-2147483648) ≤ v ∧ v ≤ 2147483647) : okC h' := by rcases hc with rfl | rfl | rfl <;> exact okC_w s e hv (by decide) (by decide)
theorem fb_9_12_3 {h : zM} {c : Int} (s : okC h) (hc : zWd c) : 0 ≤ h.2 (c + 12) 3 ∧ h.2 (c + 12) 3 ≤ 16 := by rcases hc with rfl | rfl | rfl <;> exact s.2.1 _ _
theorem fw_9_12_3 {h h' : zM} {c v : Int} (s : okC h) (hc : zWd c) (e : h' = zwr h (c + 12) 3 v) (hv : 0 ≤ v ∧ v ≤ 16) : okC h' := by rcases hc with rfl | rfl | rfl <;> exact okC_w s e hv (by decide) (by decide)
theorem zs_9_16 {c : Int} (hc : zWd c) : zPl (c + 16) := by unfold zWd at hc; unfold zPl; omega
theorem k_9_16 {h : zM} {c : Int} (s : okC h) (hc : zWd c) : shC (c + 16) = .inl 4 ∧ 0 ≤ (c + 16) ∧ (c + 16) < h.1 := by rcases hc with rfl | rfl | rfl <;> exact kLc s rfl (by decide) (by decide)
theorem rf_9_16_0 {h : zM} {c : Int} (s : okC h) (hc : zWd c) : h.2 (c + 16) 0 = (c + 17) := by rcases hc with rfl | rfl | rfl <;> exact zeq (s.2.1 _ _)
theorem ka_9_16_0 {h : zM} {c : Int} (s : okC h) (hc : zWd c) : shC (c + 17) = .inr (0, 16) ∧ 0 ≤ (c + 17) ∧ (c + 17) < h.1 := by rcases hc with rfl | rfl | rfl <;> exact kLc s rfl (by decide) (by decide)
theorem ab_9_16_0 {h : zM} {c : Int} (s : okC h) (hc : zWd c) (j : Int) : (-2147483648) ≤ h.2 (c + 17) j ∧ h.2 (c + 17) j ≤ 2147483647 := by rcases hc with rfl | rfl | rfl <;> exact s.2.1 _ _
theorem aw_9_16_0 {h h' : zM} {c v j : Int} (s : okC h) (hc : zWd c) (e : h' = zwr h (c + 17) j v) (hv : (-2147483648) ≤ v ∧ v ≤ 2147483647) : okC h' := by rcases hc with rfl | rfl | rfl <;> exact okC_w s e hv (by decide) (by decide)
theorem rf_9_16_1 {h : zM} {c : Int} (s : okC h) (hc : zWd c) : h.2 (c + 16) 1 = (c + 18) := by rcases hc with rfl | rfl | rfl <;> exact zeq (s.2.1 _ _)
theorem ka_9_16_1 {h : zM} {c : Int} (s : okC h) (hc : zWd c) : shC (c + 18) = .inr (0, 16) ∧ 0 ≤ (c + 18) ∧ (c + 18) < h.1 := by rcases hc with rfl | rfl | rfl <;> exact kLc s rfl (by decide) (by decide)
theorem ab_9_16_1 {h : zM} {c : Int} (s : okC h) (hc : zWd c) (j : Int) : (-2147483648) ≤ h.2 (c + 18) j ∧ h.2 (c + 18) j ≤ 2147483647 := by rcases hc with rfl | rfl | rfl <;> exact s.2.1 _ _
theorem aw_9_16_1 {h h' : zM} {c v j : Int} (s : okC h) (hc : zWd c) (e : h' = zwr h (c + 18) j v) (hv : (-2147483648) ≤ v ∧ v ≤ 2147483647) : okC h' := by rcases hc with rfl | rfl | rfl <;> exact okC_w s e hv (by decide) (by decide)
theorem rf_9_16_2 {h : zM} {c : Int} (s : okC h) (hc : zWd c) : h.2 (c + 16) 2 = (c + 19) := by rcases hc with rfl | rfl | rfl <;> exact zeq (s.2.1 _ _)
theorem ka_9_16_2 {h : zM} {c : Int} (s : okC h) (hc : zWd c) : shC (c + 19) = .inr (0, 16) ∧ 0 ≤ (c + 19) ∧ (c + 19) < h.1 := by rcases hc with rfl | rfl | rfl <;> exact kLc s rfl (by decide) (by decide)
theorem ab_9_16_2 {h : zM} {c : Int} (s : okC h) (hc : zWd c) (j : Int) : (-2147483648) ≤ h.2 (c + 19) j ∧ h.2 (c + 19) j ≤ 2147483647 := by rcases hc with rfl | rfl | rfl <;> exact s.2.1 _ _
theorem aw_9_16_2 {h h' : zM} {c v j : Int} (s : okC h) (hc : zWd c) (e : h' = zwr h (c + 19) j v) (hv : (-2147483648) ≤ v ∧ v ≤ 2147483647) : okC h' := by rcases hc with rfl | rfl | rfl <;> exact okC_w s e hv (by decide) (by decide)
theorem fb_9_16_3 {h : zM} {c : Int} (s : okC h) (hc : zWd c) : 0 ≤ h.2 (c + 16) 3 ∧ h.2 (c + 16) 3 ≤ 16 := by rcases hc with rfl | rfl | rfl <;> exact s.2.1 _ _
theorem fw_9_16_3 {h h' : zM} {c v : Int} (s : okC h) (hc : zWd c) (e : h' = zwr h (c + 16) 3 v) (hv : 0 ≤ v ∧ v ≤ 16) : okC h' := by rcases hc with rfl | rfl | rfl <;> exact okC_w s e hv (by decide) (by decide)
theorem zs_9_20 {c : Int} (hc : zWd c) : zKi (c + 20) := by unfold zWd at hc; unfold zKi; omega
theorem k_9_20 {h : zM} {c : Int} (s : okC h) (hc : zWd c) : shC (c + 20) = .inl 2 ∧ 0 ≤ (c + 20) ∧ (c + 20) < h.1 := by rcases hc with rfl | rfl | rfl <;> exact kLc s rfl (by decide) (by decide)
theorem rf_9_20_0 {h : zM} {c : Int} (s : okC h) (hc : zWd c) : h.2 (c + 20) 0 = (c + 21) := by rcases hc with rfl | rfl | rfl <;> exact zeq (s.2.1 _ _)
theorem ka_9_20_0 {h : zM} {c : Int} (s : okC h) (hc : zWd c) : shC (c + 21) = .inr (0, 18) ∧ 0 ≤ (c + 21) ∧ (c + 21) < h.1 := by rcases hc with rfl | rfl | rfl <;> exact kLc s rfl (by decide) (by decide)
theorem ab_9_20_0 {h : zM} {c : Int} (s : okC h) (hc : zWd c) (j : Int) : (-2147483648) ≤ h.2 (c + 21) j ∧ h.2 (c + 21) j ≤ 2147483647 := by rcases hc with rfl | rfl | rfl <;> exact s.2.1 _ _
theorem aw_9_20_0 {h h' : zM} {c v j : Int} (s : okC h) (hc : zWd c) (e : h' = zwr h (c + 21) j v) (hv : (-2147483648) ≤ v ∧ v ≤ 2147483647) : okC h' := by rcases hc with rfl | rfl | rfl <;> exact okC_w s e hv (by decide) (by decide)
theorem fb_9_20_1 {h : zM} {c : Int} (s : okC h) (hc : zWd c) : (-2147483648) ≤ h.2 (c + 20) 1 ∧ h.2 (c + 20) 1 ≤ 2147483647 := by rcases hc with rfl | rfl | rfl <;> exact s.2.1 _ _
theorem fw_9_20_1 {h h' : zM} {c v : Int} (s : okC h) (hc : zWd c) (e : h' = zwr h (c + 20) 1 v) (hv : (-2147483648) ≤ v ∧ v ≤ 2147483647) : okC h' := by rcases hc with rfl | rfl | rfl <;> exact okC_w s e hv (by decide) (by decide)
theorem zs_9_22 {c : Int} (hc : zWd c) : zBo (c + 22) := by unfold zWd at hc; unfold zBo; omega
theorem k_9_22 {h : zM} {c : Int} (s : okC h) (hc : zWd c) : shC (c + 22) = .inl 0 ∧ 0 ≤ (c + 22) ∧ (c + 22) < h.1 := by rcases hc with rfl | rfl | rfl <;> exact kLc s rfl (by decide) (by decide)
theorem rf_9_22_0 {h : zM} {c : Int} (s : okC h) (hc : zWd c) : h.2 (c + 22) 0 = (c + 23) := by rcases hc with rfl | rfl | rfl <;> exact zeq (s.2.1 _ _)
theorem ka_9_22_0 {h : zM} {c : Int} (s : okC h) (hc : zWd c) : shC (c + 23) = .inr (0, 150) ∧ 0 ≤ (c + 23) ∧ (c + 23) < h.1 := by rcases hc with rfl | rfl | rfl <;> exact kLc s rfl (by decide) (by decide)
theorem ab_9_22_0 {h : zM} {c : Int} (s : okC h) (hc : zWd c) (j : Int) : (-2147483648) ≤ h.2 (c + 23) j ∧ h.2 (c + 23) j ≤ 2147483647 := by rcases hc with rfl | rfl | rfl <;> exact s.2.1 _ _
theorem aw_9_22_0 {h h' : zM} {c v j : Int} (s : okC h) (hc : zWd c) (e : h' = zwr h (c + 23) j v) (hv : (-2147483648) ≤ v ∧ v ≤ 2147483647) : okC h' := by rcases hc with rfl | rfl | rfl <;> exact okC_w s e hv (by decide) (by decide)
theorem rf_9_22_1 {h : zM} {c : Int} (s : okC h) (hc : zWd c) : h.2 (c + 22) 1 = (c + 24) := by rcases hc with rfl | rfl | rfl <;> exact zeq (s.2.1 _ _)
theorem ka_9_22_1 {h : zM} {c : Int} (s : okC h) (hc : zWd c) : shC (c + 24) = .inr (0, 150) ∧ 0 ≤ (c + 24) ∧ (c + 24) < h.1 := by rcases hc with rfl | rfl | rfl <;> exact kLc s rfl (by decide) (by decide)
theorem ab_9_22_1 {h : zM} {c : Int} (s : okC h) (hc : zWd c) (j : Int) : (-2147483648) ≤ h.2 (c + 24) j ∧ h.2 (c + 24) j ≤ 2147483647 := by rcases hc with rfl | rfl | rfl <;> exact s.2.1 _ _
theorem aw_9_22_1 {h h' : zM} {c v j : Int} (s : okC h) (hc : zWd c) (e : h' = zwr h (c + 24) j v) (hv : (-2147483648) ≤ v ∧ v ≤ 2147483647) : okC h' := by rcases hc with rfl | rfl | rfl <;> exact okC_w s e hv (by decide) (by decide)
theorem rf_9_22_2 {h : zM} {c : Int} (s : okC h) (hc : zWd c) : h.2 (c + 22) 2 = (c + 25) := by rcases hc with rfl | rfl | rfl <;> exact zeq (s.2.1 _ _)
theorem ka_9_22_2 {h : zM} {c : Int} (s : okC h) (hc : zWd c) : shC (c + 25) = .inr (0, 150) ∧ 0 ≤ (c + 25) ∧ (c + 25) < h.1 := by rcases hc with rfl | rfl | rfl <;> exact kLc s rfl (by decide) (by decide)
theorem ab_9_22_2 {h : zM} {c : Int} (s : okC h) (hc : zWd c) (j : Int) : (-2147483648) ≤ h.2 (c + 25) j ∧ h.2 (c + 25) j ≤ 2147483647 := by rcases hc with rfl | rfl | rfl <;> exact s.2.1 _ _
theorem aw_9_22_2 {h h' : zM} {c v j : Int} (s : okC h) (hc : zWd c) (e : h' = zwr h (c + 25) j v) (hv : (-2147483648) ≤ v ∧ v ≤ 2147483647) : okC h' := by rcases hc with rfl | rfl | rfl <;> exact okC_w s e hv (by decide) (by decide)
theorem rf_9_22_3 {h : zM} {c : Int} (s : okC h) (hc : zWd c) : h.2 (c + 22) 3 = (c + 26) := by rcases hc with rfl | rfl | rfl <;> exact zeq (s.2.1 _ _)
theorem ka_9_22_3 {h : zM} {c : Int} (s : okC h) (hc : zWd c) : shC (c + 26) = .inr (0, 150) ∧ 0 ≤ (c + 26) ∧ (c + 26) < h.1 := by rcases hc with rfl | rfl | rfl <;> exact kLc s rfl (by decide) (by decide)
theorem ab_9_22_3 {h : zM} {c : Int} (s : okC h) (hc : zWd c) (j : Int) : (-2147483648) ≤ h.2 (c + 26) j ∧ h.2 (c + 26) j ≤ 2147483647 := by rcases hc with rfl | rfl | rfl <;> exact s.2.1 _ _
theorem aw_9_22_3 {h h' : zM} {c v j : Int} (s : okC h) (hc : zWd c) (e : h' = zwr h (c + 26) j v) (hv : (-2147483648) ≤ v ∧ v ≤ 2147483647) : okC h' := by rcases hc with rfl | rfl | rfl <;> exact okC_w s e hv (by decide) (by decide)
theorem fb_9_22_4 {h : zM} {c : Int} (s : okC h) (hc : zWd c) : 0 ≤ h.2 (c + 22) 4 ∧ h.2 (c + 22) 4 ≤ 150 := by rcases hc with rfl | rfl | rfl <;> exact s.2.1 _ _
theorem fw_9_22_4 {h h' : zM} {c v : Int} (s : okC h) (hc : zWd c) (e : h' = zwr h (c + 22) 4 v) (hv : 0 ≤ v ∧ v ≤ 150) : okC h' := by rcases hc with rfl | rfl | rfl <;> exact okC_w s e hv (by decide) (by decide)
theorem zs_9_27 {c : Int} (hc : zWd c) : zPu (c + 27) := by unfold zWd at hc; unfold zPu; omega
theorem k_9_27 {h : zM} {c : Int} (s : okC h) (hc : zWd c) : shC (c + 27) = .inl 5 ∧ 0 ≤ (c + 27) ∧ (c + 27) < h.1 := by rcases hc with rfl | rfl | rfl <;> exact kLc s rfl (by decide) (by decide)
theorem rf_9_27_0 {h : zM} {c : Int} (s : okC h) (hc : zWd c) : h.2 (c + 27) 0 = (c + 28) := by rcases hc with rfl | rfl | rfl <;> exact zeq (s.2.1 _ _)
theorem ka_9_27_0 {h : zM} {c : Int} (s : okC h) (hc : zWd c) : shC (c + 28) = .inr (0, 5) ∧ 0 ≤ (c + 28) ∧ (c + 28) < h.1 := by rcases hc with rfl | rfl | rfl <;> exact kLc s rfl (by decide) (by decide)
theorem ab_9_27_0 {h : zM} {c : Int} (s : okC h) (hc : zWd c) (j : Int) : (-2147483648) ≤ h.2 (c + 28) j ∧ h.2 (c + 28) j ≤ 2147483647 := by rcases hc with rfl | rfl | rfl <;> exact s.2.1 _ _
theorem aw_9_27_0 {h h' : zM} {c v j : Int} (s : okC h) (hc : zWd c) (e : h' = zwr h (c + 28) j v) (hv : (-2147483648) ≤ v ∧ v ≤ 2147483647) : okC h' := by rcases hc with rfl | rfl | rfl <;> exact okC_w s e hv (by decide) (by decide)
theorem rf_9_27_1 {h : zM} {c : Int} (s : okC h) (hc : zWd c) : h.2 (c + 27) 1 = (c + 29) := by rcases hc with rfl | rfl | rfl <;> exact zeq (s.2.1 _ _)
theorem ka_9_27_1 {h : zM} {c : Int} (s : okC h) (hc : zWd c) : shC (c + 29) = .inr (1, 5) ∧ 0 ≤ (c + 29) ∧ (c + 29) < h.1 := by rcases hc with rfl | rfl | rfl <;> exact kLc s rfl (by decide) (by decide)
theorem ab_9_27_1 {h : zM} {c : Int} (s : okC h) (hc : zWd c) (j : Int) : 0 ≤ h.2 (c + 29) j ∧ h.2 (c + 29) j ≤ 1 := by rcases hc with rfl | rfl | rfl <;> exact s.2.1 _ _
theorem aw_9_27_1 {h h' : zM} {c v j : Int} (s : okC h) (hc : zWd c) (e : h' = zwr h (c + 29) j v) (hv : 0 ≤ v ∧ v ≤ 1) : okC h' := by rcases hc with rfl | rfl | rfl <;> exact okC_w s e hv (by decide) (by decide)
theorem fb_9_27_2 {h : zM} {c : Int} (s : okC h) (hc : zWd c) : 0 ≤ h.2 (c + 27) 2 ∧ h.2 (c + 27) 2 ≤ 5 := by rcases hc with rfl | rfl | rfl <;> exact s.2.1 _ _
theorem fw_9_27_2 {h h' : zM} {c v : Int} (s : okC h) (hc : zWd c) (e : h' = zwr h (c + 27) 2 v) (hv : 0 ≤ v ∧ v ≤ 5) : okC h' := by rcases hc with rfl | rfl | rfl <;> exact okC_w s e hv (by decide) (by decide)
theorem rf_9_27_3 {h : zM} {c : Int} (s : okC h) (hc : zWd c) : h.2 (c + 27) 3 = (c + 30) := by rcases hc with rfl | rfl | rfl <;> exact zeq (s.2.1 _ _)
theorem ka_9_27_3 {h : zM} {c : Int} (s : okC h) (hc : zWd c) : shC (c + 30) = .inr (0, 8) ∧ 0 ≤ (c + 30) ∧ (c + 30) < h.1 := by rcases hc with rfl | rfl | rfl <;> exact kLc s rfl (by decide) (by decide)
theorem ab_9_27_3 {h : zM} {c : Int} (s : okC h) (hc : zWd c) (j : Int) : (-2147483648) ≤ h.2 (c + 30) j ∧ h.2 (c + 30) j ≤ 2147483647 := by rcases hc with rfl | rfl | rfl <;> exact s.2.1 _ _
theorem aw_9_27_3 {h h' : zM} {c v j : Int} (s : okC h) (hc : zWd c) (e : h' = zwr h (c + 30) j v) (hv : (-2147483648) ≤ v ∧ v ≤ 2147483647) : okC h' := by rcases hc with rfl | rfl | rfl <;> exact okC_w s e hv (by decide) (by decide)
theorem fb_9_27_4 {h : zM} {c : Int} (s : okC h) (hc : zWd c) : 0 ≤ h.2 (c + 27) 4 ∧ h.2 (c + 27) 4 ≤ 8 := by rcases hc with rfl | rfl | rfl <;> exact s.2.1 _ _
theorem fw_9_27_4 {h h' : zM} {c v : Int} (s : okC h) (hc : zWd c) (e : h' = zwr h (c + 27) 4 v) (hv : 0 ≤ v ∧ v ≤ 8) : okC h' := by rcases hc with rfl | rfl | rfl <;> exact okC_w s e hv (by decide) (by decide)
theorem rf_9_27_5 {h : zM} {c : Int} (s : okC h) (hc : zWd c) : h.2 (c + 27) 5 = (c + 31) := by rcases hc with rfl | rfl | rfl <;> exact zeq (s.2.1 _ _)
theorem ka_9_27_5 {h : zM} {c : Int} (s : okC h) (hc : zWd c) : shC (c + 31) = .inr (0, 7) ∧ 0 ≤ (c + 31) ∧ (c + 31) < h.1 := by rcases hc with rfl | rfl | rfl <;> exact kLc s rfl (by decide) (by decide)
theorem ab_9_27_5 {h : zM} {c : Int} (s : okC h) (hc : zWd c) (j : Int) : (-2147483648) ≤ h.2 (c + 31) j ∧ h.2 (c + 31) j ≤ 2147483647 := by rcases hc with rfl | rfl | rfl <;> exact s.2.1 _ _
theorem aw_9_27_5 {h h' : zM} {c v j : Int} (s : okC h) (hc : zWd c) (e : h' = zwr h (c + 31) j v) (hv : (-2147483648) ≤ v ∧ v ≤ 2147483647) : okC h' := by rcases hc with rfl | rfl | rfl <;> exact okC_w s e hv (by decide) (by decide)
theorem fb_9_27_6 {h : zM} {c : Int} (s : okC h) (hc : zWd c) : 0 ≤ h.2 (c + 27) 6 ∧ h.2 (c + 27) 6 ≤ 7 := by rcases hc with rfl | rfl | rfl <;> exact s.2.1 _ _
theorem fw_9_27_6 {h h' : zM} {c v : Int} (s : okC h) (hc : zWd c) (e : h' = zwr h (c + 27) 6 v) (hv : 0 ≤ v ∧ v ≤ 7) : okC h' := by rcases hc with rfl | rfl | rfl <;> exact okC_w s e hv (by decide) (by decide)
theorem rf_9_27_7 {h : zM} {c : Int} (s : okC h) (hc : zWd c) : h.2 (c + 27) 7 = (c + 32) := by rcases hc with rfl | rfl | rfl <;> exact zeq (s.2.1 _ _)
theorem ka_9_27_7 {h : zM} {c : Int} (s : okC h) (hc : zWd c) : shC (c + 32) = .inr (0, 6) ∧ 0 ≤ (c + 32) ∧ (c + 32) < h.1 := by rcases hc with rfl | rfl | rfl <;> exact kLc s rfl (by decide) (by decide)
theorem ab_9_27_7 {h : zM} {c : Int} (s : okC h) (hc : zWd c) (j : Int) : (-2147483648) ≤ h.2 (c + 32) j ∧ h.2 (c + 32) j ≤ 2147483647 := by rcases hc with rfl | rfl | rfl <;> exact s.2.1 _ _
theorem aw_9_27_7 {h h' : zM} {c v j : Int} (s : okC h) (hc : zWd c) (e : h' = zwr h (c + 32) j v) (hv : (-2147483648) ≤ v ∧ v ≤ 2147483647) : okC h' := by rcases hc with rfl | rfl | rfl <;> exact okC_w s e hv (by decide) (by decide)
theorem rf_9_27_8 {h : zM} {c : Int} (s : okC h) (hc : zWd c) : h.2 (c + 27) 8 = (c + 33) := by rcases hc with rfl | rfl | rfl <;> exact zeq (s.2.1 _ _)
theorem ka_9_27_8 {h : zM} {c : Int} (s : okC h) (hc : zWd c) : shC (c + 33) = .inr (0, 6) ∧ 0 ≤ (c + 33) ∧ (c + 33) < h.1 := by rcases hc with rfl | rfl | rfl <;> exact kLc s rfl (by decide) (by decide)
theorem ab_9_27_8 {h : zM} {c : Int} (s : okC h) (hc : zWd c) (j : Int) : (-2147483648) ≤ h.2 (c + 33) j ∧ h.2 (c + 33) j ≤ 2147483647 := by rcases hc with rfl | rfl | rfl <;> exact s.2.1 _ _
theorem aw_9_27_8 {h h' : zM} {c v j : Int} (s : okC h) (hc : zWd c) (e : h' = zwr h (c + 33) j v) (hv : (-2147483648) ≤ v ∧ v ≤ 2147483647) : okC h' := by rcases hc with rfl | rfl | rfl <;> exact okC_w s e hv (by decide) (by decide)
theorem fb_9_27_9 {h : zM} {c : Int} (s : okC h) (hc : zWd c) : 0 ≤ h.2 (c + 27) 9 ∧ h.2 (c + 27) 9 ≤ 6 := by rcases hc with rfl | rfl | rfl <;> exact s.2.1 _ _
theorem fw_9_27_9 {h h' : zM} {c v : Int} (s : okC h) (hc : zWd c) (e : h' = zwr h (c + 27) 9 v) (hv : 0 ≤ v ∧ v ≤ 6) : okC h' := by rcases hc with rfl | rfl | rfl <;> exact okC_w s e hv (by decide) (by decide)
theorem k_1_0 {h : zM} {c : Int} (s : okC h) (hc : zIs c) : shC c = .inl 1 ∧ 0 ≤ c ∧ c < h.1 := by rcases hc with rfl | rfl | rfl | rfl | rfl | rfl | rfl | rfl | rfl <;> exact kLc s rfl (by decide) (by decide)
theorem rf_1_0_0 {h : zM} {c : Int} (s : okC h) (hc : zIs c) : h.2 c 0 = (c + 1) := by rcases hc with rfl | rfl | rfl | rfl | rfl | rfl | rfl | rfl | rfl <;> exact zeq (s.2.1 _ _)
theorem ka_1_0_0 {h : zM} {c : Int} (s : okC h) (hc : zIs c) : shC (c + 1) = .inr (0, 18) ∧ 0 ≤ (c + 1) ∧ (c + 1) < h.1 := by rcases hc with rfl | rfl | rfl | rfl | rfl | rfl | rfl | rfl | rfl <;> exact kLc s rfl (by decide) (by decide)
theorem ab_1_0_0 {h : zM} {c : Int} (s : okC h) (hc : zIs c) (j : Int) : (-2147483648) ≤ h.2 (c + 1) j ∧ h.2 (c + 1) j ≤ 2147483647 := by rcases hc with rfl | rfl | rfl | rfl | rfl | rfl | rfl | rfl | rfl <;> exact s.2.1 _ _
theorem aw_1_0_0 {h h' : zM} {c v j : Int} (s : okC h) (hc : zIs c) (e : h' = zwr h (c + 1) j v) (hv : (-2147483648) ≤ v ∧ v ≤ 2147483647) : okC h' := by rcases hc with rfl | rfl | rfl | rfl | rfl | rfl | rfl | rfl | rfl <;> exact okC_w s e hv (by decide) (by decide)
theorem rf_1_0_1 {h : zM} {c : Int} (s : okC h) (hc : zIs c) : h.2 c 1 = (c + 2) := by rcases hc with rfl | rfl | rfl | rfl | rfl | rfl | rfl | rfl | rfl <;> exact zeq (s.2.1 _ _)
theorem ka_1_0_1 {h : zM} {c : Int} (s : okC h) (hc : zIs c) : shC (c + 2) = .inr (0, 18) ∧ 0 ≤ (c + 2) ∧ (c + 2) < h.1 := by rcases hc with rfl | rfl | rfl | rfl | rfl | rfl | rfl | rfl | rfl <;> exact kLc s rfl (by decide) (by decide)
theorem ab_1_0_1 {h : zM} {c : Int} (s : okC h) (hc : zIs c) (j : Int) : (-2147483648) ≤ h.2 (c + 2) j ∧ h.2 (c + 2) j ≤ 2147483647 := by rcases hc with rfl | rfl | rfl | rfl | rfl | rfl | rfl | rfl | rfl <;> exact s.2.1 _ _
theorem aw_1_0_1 {h h' : zM} {c v j : Int} (s : okC h) (hc : zIs c) (e : h' = zwr h (c + 2) j v) (hv : (-2147483648) ≤ v ∧ v ≤ 2147483647) : okC h' := by rcases hc with rfl | rfl | rfl | rfl | rfl | rfl | rfl | rfl | rfl <;> exact okC_w s e hv (by decide) (by decide)
theorem rf_1_0_2 {h : zM} {c : Int} (s : okC h) (hc : zIs c) : h.2 c 2 = (c + 3) := by rcases hc with rfl | rfl | rfl | rfl | rfl | rfl | rfl | rfl | rfl <;> exact zeq (s.2.1 _ _)
theorem ka_1_0_2 {h : zM} {c : Int} (s : okC h) (hc : zIs c) : shC (c + 3) = .inr (0, 18) ∧ 0 ≤ (c + 3) ∧ (c + 3) < h.1 := by rcases hc with rfl | rfl | rfl | rfl | rfl | rfl | rfl | rfl | rfl <;> exact kLc s rfl (by decide) (by decide)
theorem ab_1_0_2 {h : zM} {c : Int} (s : okC h) (hc : zIs c) (j : Int) : (-2147483648) ≤ h.2 (c + 3) j ∧ h.2 (c + 3) j ≤ 2147483647 := by rcases hc with rfl | rfl | rfl | rfl | rfl | rfl | rfl | rfl | rfl <;> exact s.2.1 _ _
theorem aw_1_0_2 {h h' : zM} {c v j : Int} (s : okC h) (hc : zIs c) (e : h' = zwr h (c + 3) j v) (hv : (-2147483648) ≤ v ∧ v ≤ 2147483647) : okC h' := by rcases hc with rfl | rfl | rfl | rfl | rfl | rfl | rfl | rfl | rfl <;> exact okC_w s e hv (by decide) (by decide)
theorem fb_1_0_3 {h : zM} {c : Int} (s : okC h) (hc : zIs c) : 0 ≤ h.2 c 3 ∧ h.2 c 3 ≤ 18 := by rcases hc with rfl | rfl | rfl | rfl | rfl | rfl | rfl | rfl | rfl <;> exact s.2.1 _ _
theorem fw_1_0_3 {h h' : zM} {c v : Int} (s : okC h) (hc : zIs c) (e : h' = zwr h c 3 v) (hv : 0 ≤ v ∧ v ≤ 18) : okC h' := by rcases hc with rfl | rfl | rfl | rfl | rfl | rfl | rfl | rfl | rfl <;> exact okC_w s e hv (by decide) (by decide)
theorem fb_1_0_4 {h : zM} {c : Int} (s : okC h) (hc : zIs c) : (-2147483648) ≤ h.2 c 4 ∧ h.2 c 4 ≤ 2147483647 := by rcases hc with rfl | rfl | rfl | rfl | rfl | rfl | rfl | rfl | rfl <;> exact s.2.1 _ _
theorem fw_1_0_4 {h h' : zM} {c v : Int} (s : okC h) (hc : zIs c) (e : h' = zwr h c 4 v) (hv : (-2147483648) ≤ v ∧ v ≤ 2147483647) : okC h' := by rcases hc with rfl | rfl | rfl | rfl | rfl | rfl | rfl | rfl | rfl <;> exact okC_w s e hv (by decide) (by decide)
theorem fb_1_0_5 {h : zM} {c : Int} (s : okC h) (hc : zIs c) : (-2147483648) ≤ h.2 c 5 ∧ h.2 c 5 ≤ 2147483647 := by rcases hc with rfl | rfl | rfl | rfl | rfl | rfl | rfl | rfl | rfl <;> exact s.2.1 _ _
theorem fw_1_0_5 {h h' : zM} {c v : Int} (s : okC h) (hc : zIs c) (e : h' = zwr h c 5 v) (hv : (-2147483648) ≤ v ∧ v ≤ 2147483647) : okC h' := by rcases hc with rfl | rfl | rfl | rfl | rfl | rfl | rfl | rfl | rfl <;> exact okC_w s e hv (by decide) (by decide)
theorem fb_1_0_6 {h : zM} {c : Int} (s : okC h) (hc : zIs c) : 0 ≤ h.2 c 6 ∧ h.2 c 6 ≤ 719 := by rcases hc with rfl | rfl | rfl | rfl | rfl | rfl | rfl | rfl | rfl <;> exact s.2.1 _ _
theorem fw_1_0_6 {h h' : zM} {c v : Int} (s : okC h) (hc : zIs c) (e : h' = zwr h c 6 v) (hv : 0 ≤ v ∧ v ≤ 719) : okC h' := by rcases hc with rfl | rfl | rfl | rfl | rfl | rfl | rfl | rfl | rfl <;> exact okC_w s e hv (by decide) (by decide)
theorem fb_1_0_7 {h : zM} {c : Int} (s : okC h) (hc : zIs c) : (-2147483648) ≤ h.2 c 7 ∧ h.2 c 7 ≤ 2147483647 := by rcases hc with rfl | rfl | rfl | rfl | rfl | rfl | rfl | rfl | rfl <;> exact s.2.1 _ _
theorem fw_1_0_7 {h h' : zM} {c v : Int} (s : okC h) (hc : zIs c) (e : h' = zwr h c 7 v) (hv : (-2147483648) ≤ v ∧ v ≤ 2147483647) : okC h' := by rcases hc with rfl | rfl | rfl | rfl | rfl | rfl | rfl | rfl | rfl <;> exact okC_w s e hv (by decide) (by decide)
theorem fb_1_0_8 {h : zM} {c : Int} (s : okC h) (hc : zIs c) : (-2147483648) ≤ h.2 c 8 ∧ h.2 c 8 ≤ 2147483647 := by rcases hc with rfl | rfl | rfl | rfl | rfl | rfl | rfl | rfl | rfl <;> exact s.2.1 _ _
theorem fw_1_0_8 {h h' : zM} {c v : Int} (s : okC h) (hc : zIs c) (e : h' = zwr h c 8 v) (hv : (-2147483648) ≤ v ∧ v ≤ 2147483647) : okC h' := by rcases hc with rfl | rfl | rfl | rfl | rfl | rfl | rfl | rfl | rfl <;> exact okC_w s e hv (by decide) (by decide)
theorem fb_1_0_9 {h : zM} {c : Int} (s : okC h) (hc : zIs c) : (-2147483648) ≤ h.2 c 9 ∧ h.2 c 9 ≤ 2147483647 := by rcases hc with rfl | rfl | rfl | rfl | rfl | rfl | rfl | rfl | rfl <;> exact s.2.1 _ _
theorem fw_1_0_9 {h h' : zM} {c v : Int} (s : okC h) (hc : zIs c) (e : h' = zwr h c 9 v) (hv : (-2147483648) ≤ v ∧ v ≤ 2147483647) : okC h' := by rcases hc with rfl | rfl | rfl | rfl | rfl | rfl | rfl | rfl | rfl <;> exact okC_w s e hv (by decide) (by decide)
theorem fb_1_0_10 {h : zM} {c : Int} (s : okC h) (hc : zIs c) : (-2147483648) ≤ h.2 c 10 ∧ h.2 c 10 ≤ 2147483647 := by rcases hc with rfl | rfl | rfl | rfl | rfl | rfl | rfl | rfl | rfl <;> exact s.2.1 _ _
theorem fw_1_0_10 {h h' : zM} {c v : Int} (s : okC h) (hc : zIs c) (e : h' = zwr h c 10 v) (hv : (-2147483648) ≤ v ∧ v ≤ 2147483647) : okC h' := by rcases hc with rfl | rfl | rfl | rfl | rfl | rfl | rfl | rfl | rfl <;> exact okC_w s e hv (by decide) (by decide)
theorem fb_1_0_11 {h : zM} {c : Int} (s : okC h) (hc : zIs c) : (-2147483648) ≤ h.2 c 11 ∧ h.2 c 11 ≤ 2147483647 := by rcases hc with rfl | rfl | rfl | rfl | rfl | rfl | rfl | rfl | rfl <;> exact s.2.1 _ _
theorem fw_1_0_11 {h h' : zM} {c v : Int} (s : okC h) (hc : zIs c) (e : h' = zwr h c 11 v) (hv : (-2147483648) ≤ v ∧ v ≤ 2147483647) : okC h' := by rcases hc with rfl | rfl | rfl | rfl | rfl | rfl | rfl | rfl | rfl <;> exact okC_w s e hv (by decide) (by decide)
theorem fb_1_0_12 {h : zM} {c : Int} (s : okC h) (hc : zIs c) : (-2147483648) ≤ h.2 c 12 ∧ h.2 c 12 ≤ 2147483647 := by rcases hc with rfl | rfl | rfl | rfl | rfl | rfl | rfl | rfl | rfl <;> exact s.2.1 _ _
theorem fw_1_0_12 {h h' : zM} {c v : Int} (s : okC h) (hc : zIs c) (e : h' = zwr h c 12 v) (hv : (-2147483648) ≤ v ∧ v ≤ 2147483647) : okC h' := by rcases hc with rfl | rfl | rfl | rfl | rfl | rfl | rfl | rfl | rfl <;> exact okC_w s e hv (by decide) (by decide)
theorem fb_1_0_13 {h : zM} {c : Int} (s : okC h) (hc : zIs c) : (-2147483648) ≤ h.2 c 13 ∧ h.2 c 13 ≤ 2147483647 := by rcases hc with rfl | rfl | rfl | rfl | rfl | rfl | rfl | rfl | rfl <;> exact s.2.1 _ _
theorem fw_1_0_13 {h h' : zM} {c v : Int} (s : okC h) (hc : zIs c) (e : h' = zwr h c 13 v) (hv : (-2147483648) ≤ v ∧ v ≤ 2147483647) : okC h' := by rcases hc with rfl | rfl | rfl | rfl | rfl | rfl | rfl | rfl | rfl <;> exact okC_w s e hv (by decide) (by decide)
theorem k_3_0 {h : zM} {c : Int} (s : okC h) (hc : zLw c) : shC c = .inl 3 ∧ 0 ≤ c ∧ c < h.1 := by rcases hc with rfl | rfl | rfl <;> exact kLc s rfl (by decide) (by decide)
theorem rf_3_0_0 {h : zM} {c : Int} (s : okC h) (hc : zLw c) : h.2 c 0 = (c + 1) := by rcases hc with rfl | rfl | rfl <;> exact zeq (s.2.1 _ _)
theorem ka_3_0_0 {h : zM} {c : Int} (s : okC h) (hc : zLw c) : shC (c + 1) = .inr (0, 16) ∧ 0 ≤ (c + 1) ∧ (c + 1) < h.1 := by rcases hc with rfl | rfl | rfl <;> exact kLc s rfl (by decide) (by decide)
theorem ab_3_0_0 {h : zM} {c : Int} (s : okC h) (hc : zLw c) (j : Int) : (-2147483648) ≤ h.2 (c + 1) j ∧ h.2 (c + 1) j ≤ 2147483647 := by rcases hc with rfl | rfl | rfl <;> exact s.2.1 _ _
theorem aw_3_0_0 {h h' : zM} {c v j : Int} (s : okC h) (hc : zLw c) (e : h' = zwr h (c + 1) j v) (hv : (-2147483648) ≤ v ∧ v ≤ 2147483647) : okC h' := by rcases hc with rfl | rfl | rfl <;> exact okC_w s e hv (by decide) (by decide)
theorem rf_3_0_1 {h : zM} {c : Int} (s : okC h) (hc : zLw c) : h.2 c 1 = (c + 2) := by rcases hc with rfl | rfl | rfl <;> exact zeq (s.2.1 _ _)
theorem ka_3_0_1 {h : zM} {c : Int} (s : okC h) (hc : zLw c) : shC (c + 2) = .inr (0, 16) ∧ 0 ≤ (c + 2) ∧ (c + 2) < h.1 := by rcases hc with rfl | rfl | rfl <;> exact kLc s rfl (by decide) (by decide)
theorem ab_3_0_1 {h : zM} {c : Int} (s : okC h) (hc : zLw c) (j : Int) : 0 ≤ h.2 (c + 2) j ∧ h.2 (c + 2) j ≤ 400 := by rcases hc with rfl | rfl | rfl <;> exact s.2.1 _ _
theorem aw_3_0_1 {h h' : zM} {c v j : Int} (s : okC h) (hc : zLw c) (e : h' = zwr h (c + 2) j v) (hv : 0 ≤ v ∧ v ≤ 400) : okC h' := by rcases hc with rfl | rfl | rfl <;> exact okC_w s e hv (by decide) (by decide)
theorem rf_3_0_2 {h : zM} {c : Int} (s : okC h) (hc : zLw c) : h.2 c 2 = (c + 3) := by rcases hc with rfl | rfl | rfl <;> exact zeq (s.2.1 _ _)
theorem ka_3_0_2 {h : zM} {c : Int} (s : okC h) (hc : zLw c) : shC (c + 3) = .inr (0, 16) ∧ 0 ≤ (c + 3) ∧ (c + 3) < h.1 := by rcases hc with rfl | rfl | rfl <;> exact kLc s rfl (by decide) (by decide)
theorem ab_3_0_2 {h : zM} {c : Int} (s : okC h) (hc : zLw c) (j : Int) : 0 ≤ h.2 (c + 3) j ∧ h.2 (c + 3) j ≤ 400 := by rcases hc with rfl | rfl | rfl <;> exact s.2.1 _ _
theorem aw_3_0_2 {h h' : zM} {c v j : Int} (s : okC h) (hc : zLw c) (e : h' = zwr h (c + 3) j v) (hv : 0 ≤ v ∧ v ≤ 400) : okC h' := by rcases hc with rfl | rfl | rfl <;> exact okC_w s e hv (by decide) (by decide)
theorem rf_3_0_3 {h : zM} {c : Int} (s : okC h) (hc : zLw c) : h.2 c 3 = (c + 4) := by rcases hc with rfl | rfl | rfl <;> exact zeq (s.2.1 _ _)
theorem ka_3_0_3 {h : zM} {c : Int} (s : okC h) (hc : zLw c) : shC (c + 4) = .inr (0, 16) ∧ 0 ≤ (c + 4) ∧ (c + 4) < h.1 := by rcases hc with rfl | rfl | rfl <;> exact kLc s rfl (by decide) (by decide)
theorem ab_3_0_3 {h : zM} {c : Int} (s : okC h) (hc : zLw c) (j : Int) : 0 ≤ h.2 (c + 4) j ∧ h.2 (c + 4) j ≤ 400 := by rcases hc with rfl | rfl | rfl <;> exact s.2.1 _ _
theorem aw_3_0_3 {h h' : zM} {c v j : Int} (s : okC h) (hc : zLw c) (e : h' = zwr h (c + 4) j v) (hv : 0 ≤ v ∧ v ≤ 400) : okC h' := by rcases hc with rfl | rfl | rfl <;> exact okC_w s e hv (by decide) (by decide)
theorem rf_3_0_4 {h : zM} {c : Int} (s : okC h) (hc : zLw c) : h.2 c 4 = (c + 5) := by rcases hc with rfl | rfl | rfl <;> exact zeq (s.2.1 _ _)
theorem ka_3_0_4 {h : zM} {c : Int} (s : okC h) (hc : zLw c) : shC (c + 5) = .inr (0, 400) ∧ 0 ≤ (c + 5) ∧ (c + 5) < h.1 := by rcases hc with rfl | rfl | rfl <;> exact kLc s rfl (by decide) (by decide)
theorem ab_3_0_4 {h : zM} {c : Int} (s : okC h) (hc : zLw c) (j : Int) : (-2147483648) ≤ h.2 (c + 5) j ∧ h.2 (c + 5) j ≤ 2147483647 := by rcases hc with rfl | rfl | rfl <;> exact s.2.1 _ _
theorem aw_3_0_4 {h h' : zM} {c v j : Int} (s : okC h) (hc : zLw c) (e : h' = zwr h (c + 5) j v) (hv : (-2147483648) ≤ v ∧ v ≤ 2147483647) : okC h' := by rcases hc with rfl | rfl | rfl <;> exact okC_w s e hv (by decide) (by decide)
theorem rf_3_0_5 {h : zM} {c : Int} (s : okC h) (hc : zLw c) : h.2 c 5 = (c + 6) := by rcases hc with rfl | rfl | rfl <;> exact zeq (s.2.1 _ _)
theorem ka_3_0_5 {h : zM} {c : Int} (s : okC h) (hc : zLw c) : shC (c + 6) = .inr (0, 64) ∧ 0 ≤ (c + 6) ∧ (c + 6) < h.1 := by rcases hc with rfl | rfl | rfl <;> exact kLc s rfl (by decide) (by decide)
theorem ab_3_0_5 {h : zM} {c : Int} (s : okC h) (hc : zLw c) (j : Int) : (-2147483648) ≤ h.2 (c + 6) j ∧ h.2 (c + 6) j ≤ 2147483647 := by rcases hc with rfl | rfl | rfl <;> exact s.2.1 _ _
theorem aw_3_0_5 {h h' : zM} {c v j : Int} (s : okC h) (hc : zLw c) (e : h' = zwr h (c + 6) j v) (hv : (-2147483648) ≤ v ∧ v ≤ 2147483647) : okC h' := by rcases hc with rfl | rfl | rfl <;> exact okC_w s e hv (by decide) (by decide)
theorem fb_3_0_6 {h : zM} {c : Int} (s : okC h) (hc : zLw c) : 0 ≤ h.2 c 6 ∧ h.2 c 6 ≤ 16 := by rcases hc with rfl | rfl | rfl <;> exact s.2.1 _ _
theorem fw_3_0_6 {h h' : zM} {c v : Int} (s : okC h) (hc : zLw c) (e : h' = zwr h c 6 v) (hv : 0 ≤ v ∧ v ≤ 16) : okC h' := by rcases hc with rfl | rfl | rfl <;> exact okC_w s e hv (by decide) (by decide)
theorem fb_3_0_7 {h : zM} {c : Int} (s : okC h) (hc : zLw c) : 0 ≤ h.2 c 7 ∧ h.2 c 7 ≤ 400 := by rcases hc with rfl | rfl | rfl <;> exact s.2.1 _ _
theorem fw_3_0_7 {h h' : zM} {c v : Int} (s : okC h) (hc : zLw c) (e : h' = zwr h c 7 v) (hv : 0 ≤ v ∧ v ≤ 400) : okC h' := by rcases hc with rfl | rfl | rfl <;> exact okC_w s e hv (by decide) (by decide)
theorem k_4_0 {h : zM} {c : Int} (s : okC h) (hc : zPl c) : shC c = .inl 4 ∧ 0 ≤ c ∧ c < h.1 := by rcases hc with rfl | rfl | rfl | rfl | rfl | rfl <;> exact kLc s rfl (by decide) (by decide)
theorem rf_4_0_0 {h : zM} {c : Int} (s : okC h) (hc : zPl c) : h.2 c 0 = (c + 1) := by rcases hc with rfl | rfl | rfl | rfl | rfl | rfl <;> exact zeq (s.2.1 _ _)
theorem ka_4_0_0 {h : zM} {c : Int} (s : okC h) (hc : zPl c) : shC (c + 1) = .inr (0, 16) ∧ 0 ≤ (c + 1) ∧ (c + 1) < h.1 := by rcases hc with rfl | rfl | rfl | rfl | rfl | rfl <;> exact kLc s rfl (by decide) (by decide)
theorem ab_4_0_0 {h : zM} {c : Int} (s : okC h) (hc : zPl c) (j : Int) : (-2147483648) ≤ h.2 (c + 1) j ∧ h.2 (c + 1) j ≤ 2147483647 := by rcases hc with rfl | rfl | rfl | rfl | rfl | rfl <;> exact s.2.1 _ _
theorem aw_4_0_0 {h h' : zM} {c v j : Int} (s : okC h) (hc : zPl c) (e : h' = zwr h (c + 1) j v) (hv : (-2147483648) ≤ v ∧ v ≤ 2147483647) : okC h' := by rcases hc with rfl | rfl | rfl | rfl | rfl | rfl <;> exact okC_w s e hv (by decide) (by decide)
theorem rf_4_0_1 {h : zM} {c : Int} (s : okC h) (hc : zPl c) : h.2 c 1 = (c + 2) := by rcases hc with rfl | rfl | rfl | rfl | rfl | rfl <;> exact zeq (s.2.1 _ _)
theorem ka_4_0_1 {h : zM} {c : Int} (s : okC h) (hc : zPl c) : shC (c + 2) = .inr (0, 16) ∧ 0 ≤ (c + 2) ∧ (c + 2) < h.1 := by rcases hc with rfl | rfl | rfl | rfl | rfl | rfl <;> exact kLc s rfl (by decide) (by decide)
theorem ab_4_0_1 {h : zM} {c : Int} (s : okC h) (hc : zPl c) (j : Int) : (-2147483648) ≤ h.2 (c + 2) j ∧ h.2 (c + 2) j ≤ 2147483647 := by rcases hc with rfl | rfl | rfl | rfl | rfl | rfl <;> exact s.2.1 _ _
theorem aw_4_0_1 {h h' : zM} {c v j : Int} (s : okC h) (hc : zPl c) (e : h' = zwr h (c + 2) j v) (hv : (-2147483648) ≤ v ∧ v ≤ 2147483647) : okC h' := by rcases hc with rfl | rfl | rfl | rfl | rfl | rfl <;> exact okC_w s e hv (by decide) (by decide)
theorem rf_4_0_2 {h : zM} {c : Int} (s : okC h) (hc : zPl c) : h.2 c 2 = (c + 3) := by rcases hc with rfl | rfl | rfl | rfl | rfl | rfl <;> exact zeq (s.2.1 _ _)
theorem ka_4_0_2 {h : zM} {c : Int} (s : okC h) (hc : zPl c) : shC (c + 3) = .inr (0, 16) ∧ 0 ≤ (c + 3) ∧ (c + 3) < h.1 := by rcases hc with rfl | rfl | rfl | rfl | rfl | rfl <;> exact kLc s rfl (by decide) (by decide)
theorem ab_4_0_2 {h : zM} {c : Int} (s : okC h) (hc : zPl c) (j : Int) : (-2147483648) ≤ h.2 (c + 3) j ∧ h.2 (c + 3) j ≤ 2147483647 := by rcases hc with rfl | rfl | rfl | rfl | rfl | rfl <;> exact s.2.1 _ _
theorem aw_4_0_2 {h h' : zM} {c v j : Int} (s : okC h) (hc : zPl c) (e : h' = zwr h (c + 3) j v) (hv : (-2147483648) ≤ v ∧ v ≤ 2147483647) : okC h' := by rcases hc with rfl | rfl | rfl | rfl | rfl | rfl <;> exact okC_w s e hv (by decide) (by decide)
theorem fb_4_0_3 {h : zM} {c : Int} (s : okC h) (hc : zPl c) : 0 ≤ h.2 c 3 ∧ h.2 c 3 ≤ 16 := by rcases hc with rfl | rfl | rfl | rfl | rfl | rfl <;> exact s.2.1 _ _
theorem fw_4_0_3 {h h' : zM} {c v : Int} (s : okC h) (hc : zPl c) (e : h' = zwr h c 3 v) (hv : 0 ≤ v ∧ v ≤ 16) : okC h' := by rcases hc with rfl | rfl | rfl | rfl | rfl | rfl <;> exact okC_w s e hv (by decide) (by decide)
theorem k_2_0 {h : zM} {c : Int} (s : okC h) (hc : zKi c) : shC c = .inl 2 ∧ 0 ≤ c ∧ c < h.1 := by rcases hc with rfl | rfl | rfl <;> exact kLc s rfl (by decide) (by decide)
theorem rf_2_0_0 {h : zM} {c : Int} (s : okC h) (hc : zKi c) : h.2 c 0 = (c + 1) := by rcases hc with rfl | rfl | rfl <;> exact zeq (s.2.1 _ _)
theorem ka_2_0_0 {h : zM} {c : Int} (s : okC h) (hc : zKi c) : shC (c + 1) = .inr (0, 18) ∧ 0 ≤ (c + 1) ∧ (c + 1) < h.1 := by rcases hc with rfl | rfl | rfl <;> exact kLc s rfl (by decide) (by decide)
theorem ab_2_0_0 {h : zM} {c : Int} (s : okC h) (hc : zKi c) (j : Int) : (-2147483648) ≤ h.2 (c + 1) j ∧ h.2 (c + 1) j ≤ 2147483647 := by rcases hc with rfl | rfl | rfl <;> exact s.2.1 _ _
theorem aw_2_0_0 {h h' : zM} {c v j : Int} (s : okC h) (hc : zKi c) (e : h' = zwr h (c + 1) j v) (hv : (-2147483648) ≤ v ∧ v ≤ 2147483647) : okC h' := by rcases hc with rfl | rfl | rfl <;> exact okC_w s e hv (by decide) (by decide)
theorem fb_2_0_1 {h : zM} {c : Int} (s : okC h) (hc : zKi c) : (-2147483648) ≤ h.2 c 1 ∧ h.2 c 1 ≤ 2147483647 := by rcases hc with rfl | rfl | rfl <;> exact s.2.1 _ _
theorem fw_2_0_1 {h h' : zM} {c v : Int} (s : okC h) (hc : zKi c) (e : h' = zwr h c 1 v) (hv : (-2147483648) ≤ v ∧ v ≤ 2147483647) : okC h' := by rcases hc with rfl | rfl | rfl <;> exact okC_w s e hv (by decide) (by decide)
theorem k_0_0 {h : zM} {c : Int} (s : okC h) (hc : zBo c) : shC c = .inl 0 ∧ 0 ≤ c ∧ c < h.1 := by rcases hc with rfl | rfl | rfl <;> exact kLc s rfl (by decide) (by decide)
theorem rf_0_0_0 {h : zM} {c : Int} (s : okC h) (hc : zBo c) : h.2 c 0 = (c + 1) := by rcases hc with rfl | rfl | rfl <;> exact zeq (s.2.1 _ _)
theorem ka_0_0_0 {h : zM} {c : Int} (s : okC h) (hc : zBo c) : shC (c + 1) = .inr (0, 150) ∧ 0 ≤ (c + 1) ∧ (c + 1) < h.1 := by rcases hc with rfl | rfl | rfl <;> exact kLc s rfl (by decide) (by decide)
theorem ab_0_0_0 {h : zM} {c : Int} (s : okC h) (hc : zBo c) (j : Int) : (-2147483648) ≤ h.2 (c + 1) j ∧ h.2 (c + 1) j ≤ 2147483647 := by rcases hc with rfl | rfl | rfl <;> exact s.2.1 _ _
theorem aw_0_0_0 {h h' : zM} {c v j : Int} (s : okC h) (hc : zBo c) (e : h' = zwr h (c + 1) j v) (hv : (-2147483648) ≤ v ∧ v ≤ 2147483647) : okC h' := by rcases hc with rfl | rfl | rfl <;> exact okC_w s e hv (by decide) (by decide)
theorem rf_0_0_1 {h : zM} {c : Int} (s : okC h) (hc : zBo c) : h.2 c 1 = (c + 2) := by rcases hc with rfl | rfl | rfl <;> exact zeq (s.2.1 _ _)
theorem ka_0_0_1 {h : zM} {c : Int} (s : okC h) (hc : zBo c) : shC (c + 2) = .inr (0, 150) ∧ 0 ≤ (c + 2) ∧ (c + 2) < h.1 := by rcases hc with rfl | rfl | rfl <;> exact kLc s rfl (by decide) (by decide)
theorem ab_0_0_1 {h : zM} {c : Int} (s : okC h) (hc : zBo c) (j : Int) : (-2147483648) ≤ h.2 (c + 2) j ∧ h.2 (c + 2) j ≤ 2147483647 := by rcases hc with rfl | rfl | rfl <;> exact s.2.1 _ _
theorem aw_0_0_1 {h h' : zM} {c v j : Int} (s : okC h) (hc : zBo c) (e : h' = zwr h (c + 2) j v) (hv : (-2147483648) ≤ v ∧ v ≤ 2147483647) : okC h' := by rcases hc with rfl | rfl | rfl <;> exact okC_w s e hv (by decide) (by decide)
theorem rf_0_0_2 {h : zM} {c : Int} (s : okC h) (hc : zBo c) : h.2 c 2 = (c + 3) := by rcases hc with rfl | rfl | rfl <;> exact zeq (s.2.1 _ _)
theorem ka_0_0_2 {h : zM} {c : Int} (s : okC h) (hc : zBo c) : shC (c + 3) = .inr (0, 150) ∧ 0 ≤ (c + 3) ∧ (c + 3) < h.1 := by rcases hc with rfl | rfl | rfl <;> exact kLc s rfl (by decide) (by decide)
theorem ab_0_0_2 {h : zM} {c : Int} (s : okC h) (hc : zBo c) (j : Int) : (-2147483648) ≤ h.2 (c + 3) j ∧ h.2 (c + 3) j ≤ 2147483647 := by rcases hc with rfl | rfl | rfl <;> exact s.2.1 _ _
theorem aw_0_0_2 {h h' : zM} {c v j : Int} (s : okC h) (hc : zBo c) (e : h' = zwr h (c + 3) j v) (hv : (-2147483648) ≤ v ∧ v ≤ 2147483647) : okC h' := by rcases hc with rfl | rfl | rfl <;> exact okC_w s e hv (by decide) (by decide)
theorem rf_0_0_3 {h : zM} {c : Int} (s : okC h) (hc : zBo c) : h.2 c 3 = (c + 4) := by rcases hc with rfl | rfl | rfl <;> exact zeq (s.2.1 _ _)
theorem ka_0_0_3 {h : zM} {c : Int} (s : okC h) (hc : zBo c) : shC (c + 4) = .inr (0, 150) ∧ 0 ≤ (c + 4) ∧ (c + 4) < h.1 := by rcases hc with rfl | rfl | rfl <;> exact kLc s rfl (by decide) (by decide)
theorem ab_0_0_3 {h : zM} {c : Int} (s : okC h) (hc : zBo c) (j : Int) : (-2147483648) ≤ h.2 (c + 4) j ∧ h.2 (c + 4) j ≤ 2147483647 := by rcases hc with rfl | rfl | rfl <;> exact s.2.1 _ _
theorem aw_0_0_3 {h h' : zM} {c v j : Int} (s : okC h) (hc : zBo c) (e : h' = zwr h (c + 4) j v) (hv : (-2147483648) ≤ v ∧ v ≤ 2147483647) : okC h' := by rcases hc with rfl | rfl | rfl <;> exact okC_w s e hv (by decide) (by decide)
theorem fb_0_0_4 {h : zM} {c : Int} (s : okC h) (hc : zBo c) : 0 ≤ h.2 c 4 ∧ h.2 c 4 ≤ 150 := by rcases hc with rfl | rfl | rfl <;> exact s.2.1 _ _
theorem fw_0_0_4 {h h' : zM} {c v : Int} (s : okC h) (hc : zBo c) (e : h' = zwr h c 4 v) (hv : 0 ≤ v ∧ v ≤ 150) : okC h' := by rcases hc with rfl | rfl | rfl <;> exact okC_w s e hv (by decide) (by decide)
theorem k_5_0 {h : zM} {c : Int} (s : okC h) (hc : zPu c) : shC c = .inl 5 ∧ 0 ≤ c ∧ c < h.1 := by rcases hc with rfl | rfl | rfl <;> exact kLc s rfl (by decide) (by decide)
theorem rf_5_0_0 {h : zM} {c : Int} (s : okC h) (hc : zPu c) : h.2 c 0 = (c + 1) := by rcases hc with rfl | rfl | rfl <;> exact zeq (s.2.1 _ _)
theorem ka_5_0_0 {h : zM} {c : Int} (s : okC h) (hc : zPu c) : shC (c + 1) = .inr (0, 5) ∧ 0 ≤ (c + 1) ∧ (c + 1) < h.1 := by rcases hc with rfl | rfl | rfl <;> exact kLc s rfl (by decide) (by decide)
theorem ab_5_0_0 {h : zM} {c : Int} (s : okC h) (hc : zPu c) (j : Int) : (-2147483648) ≤ h.2 (c + 1) j ∧ h.2 (c + 1) j ≤ 2147483647 := by rcases hc with rfl | rfl | rfl <;> exact s.2.1 _ _
theorem aw_5_0_0 {h h' : zM} {c v j : Int} (s : okC h) (hc : zPu c) (e : h' = zwr h (c + 1) j v) (hv : (-2147483648) ≤ v ∧ v ≤ 2147483647) : okC h' := by rcases hc with rfl | rfl | rfl <;> exact okC_w s e hv (by decide) (by decide)
theorem rf_5_0_1 {h : zM} {c : Int} (s : okC h) (hc : zPu c) : h.2 c 1 = (c + 2) := by rcases hc with rfl | rfl | rfl <;> exact zeq (s.2.1 _ _)
theorem ka_5_0_1 {h : zM} {c : Int} (s : okC h) (hc : zPu c) : shC (c + 2) = .inr (1, 5) ∧ 0 ≤ (c + 2) ∧ (c + 2) < h.1 := by rcases hc with rfl | rfl | rfl <;> exact kLc s rfl (by decide) (by decide)
theorem ab_5_0_1 {h : zM} {c : Int} (s : okC h) (hc : zPu c) (j : Int) : 0 ≤ h.2 (c + 2) j ∧ h.2 (c + 2) j ≤ 1 := by rcases hc with rfl | rfl | rfl <;> exact s.2.1 _ _
theorem aw_5_0_1 {h h' : zM} {c v j : Int} (s : okC h) (hc : zPu c) (e : h' = zwr h (c + 2) j v) (hv : 0 ≤ v ∧ v ≤ 1) : okC h' := by rcases hc with rfl | rfl | rfl <;> exact okC_w s e hv (by decide) (by decide)
theorem fb_5_0_2 {h : zM} {c : Int} (s : okC h) (hc : zPu c) : 0 ≤ h.2 c 2 ∧ h.2 c 2 ≤ 5 := by rcases hc with rfl | rfl | rfl <;> exact s.2.1 _ _
theorem fw_5_0_2 {h h' : zM} {c v : Int} (s : okC h) (hc : zPu c) (e : h' = zwr h c 2 v) (hv : 0 ≤ v ∧ v ≤ 5) : okC h' := by rcases hc with rfl | rfl | rfl <;> exact okC_w s e hv (by decide) (by decide)
theorem rf_5_0_3 {h : zM} {c : Int} (s : okC h) (hc : zPu c) : h.2 c 3 = (c + 3) := by rcases hc with rfl | rfl | rfl <;> exact zeq (s.2.1 _ _)
theorem ka_5_0_3 {h : zM} {c : Int} (s : okC h) (hc : zPu c) : shC (c + 3) = .inr (0, 8) ∧ 0 ≤ (c + 3) ∧ (c + 3) < h.1 := by rcases hc with rfl | rfl | rfl <;> exact kLc s rfl (by decide) (by decide)
theorem ab_5_0_3 {h : zM} {c : Int} (s : okC h) (hc : zPu c) (j : Int) : (-2147483648) ≤ h.2 (c + 3) j ∧ h.2 (c + 3) j ≤ 2147483647 := by rcases hc with rfl | rfl | rfl <;> exact s.2.1 _ _
theorem aw_5_0_3 {h h' : zM} {c v j : Int} (s : okC h) (hc : zPu c) (e : h' = zwr h (c + 3) j v) (hv : (-2147483648) ≤ v ∧ v ≤ 2147483647) : okC h' := by rcases hc with rfl | rfl | rfl <;> exact okC_w s e hv (by decide) (by decide)
theorem fb_5_0_4 {h : zM} {c : Int} (s : okC h) (hc : zPu c) : 0 ≤ h.2 c 4 ∧ h.2 c 4 ≤ 8 := by rcases hc with rfl | rfl | rfl <;> exact s.2.1 _ _
theorem fw_5_0_4 {h h' : zM} {c v : Int} (s : okC h) (hc : zPu c) (e : h' = zwr h c 4 v) (hv : 0 ≤ v ∧ v ≤ 8) : okC h' := by rcases hc with rfl | rfl | rfl <;> exact okC_w s e hv (by decide) (by decide)
theorem rf_5_0_5 {h : zM} {c : Int} (s : okC h) (hc : zPu c) : h.2 c 5 = (c + 4) := by rcases hc with rfl | rfl | rfl <;> exact zeq (s.2.1 _ _)
theorem ka_5_0_5 {h : zM} {c : Int} (s : okC h) (hc : zPu c) : shC (c + 4) = .inr (0, 7) ∧ 0 ≤ (c + 4) ∧ (c + 4) < h.1 := by rcases hc with rfl | rfl | rfl <;> exact kLc s rfl (by decide) (by decide)
theorem ab_5_0_5 {h : zM} {c : Int} (s : okC h) (hc : zPu c) (j : Int) : (-2147483648) ≤ h.2 (c + 4) j ∧ h.2 (c + 4) j ≤ 2147483647 := by rcases hc with rfl | rfl | rfl <;> exact s.2.1 _ _
theorem aw_5_0_5 {h h' : zM} {c v j : Int} (s : okC h) (hc : zPu c) (e : h' = zwr h (c + 4) j v) (hv : (-2147483648) ≤ v ∧ v ≤ 2147483647) : okC h' := by rcases hc with rfl | rfl | rfl <;> exact okC_w s e hv (by decide) (by decide)
theorem fb_5_0_6 {h : zM} {c : Int} (s : okC h) (hc : zPu c) : 0 ≤ h.2 c 6 ∧ h.2 c 6 ≤ 7 := by rcases hc with rfl | rfl | rfl <;> exact s.2.1 _ _
theorem fw_5_0_6 {h h' : zM} {c v : Int} (s : okC h) (hc : zPu c) (e : h' = zwr h c 6 v) (hv : 0 ≤ v ∧ v ≤ 7) : okC h' := by rcases hc with rfl | rfl | rfl <;> exact okC_w s e hv (by decide) (by decide)
theorem rf_5_0_7 {h : zM} {c : Int} (s : okC h) (hc : zPu c) : h.2 c 7 = (c + 5) := by rcases hc with rfl | rfl | rfl <;> exact zeq (s.2.1 _ _)
theorem ka_5_0_7 {h : zM} {c : Int} (s : okC h) (hc : zPu c) : shC (c + 5) = .inr (0, 6) ∧ 0 ≤ (c + 5) ∧ (c + 5) < h.1 := by rcases hc with rfl | rfl | rfl <;> exact kLc s rfl (by decide) (by decide)
theorem ab_5_0_7 {h : zM} {c : Int} (s : okC h) (hc : zPu c) (j : Int) : (-2147483648) ≤ h.2 (c + 5) j ∧ h.2 (c + 5) j ≤ 2147483647 := by rcases hc with rfl | rfl | rfl <;> exact s.2.1 _ _
theorem aw_5_0_7 {h h' : zM} {c v j : Int} (s : okC h) (hc : zPu c) (e : h' = zwr h (c + 5) j v) (hv : (-2147483648) ≤ v ∧ v ≤ 2147483647) : okC h' := by rcases hc with rfl | rfl | rfl <;> exact okC_w s e hv (by decide) (by decide)
theorem rf_5_0_8 {h : zM} {c : Int} (s : okC h) (hc : zPu c) : h.2 c 8 = (c + 6) := by rcases hc with rfl | rfl | rfl <;> exact zeq (s.2.1 _ _)
theorem ka_5_0_8 {h : zM} {c : Int} (s : okC h) (hc : zPu c) : shC (c + 6) = .inr (0, 6) ∧ 0 ≤ (c + 6) ∧ (c + 6) < h.1 := by rcases hc with rfl | rfl | rfl <;> exact kLc s rfl (by decide) (by decide)
theorem ab_5_0_8 {h : zM} {c : Int} (s : okC h) (hc : zPu c) (j : Int) : (-2147483648) ≤ h.2 (c + 6) j ∧ h.2 (c + 6) j ≤ 2147483647 := by rcases hc with rfl | rfl | rfl <;> exact s.2.1 _ _
theorem aw_5_0_8 {h h' : zM} {c v j : Int} (s : okC h) (hc : zPu c) (e : h' = zwr h (c + 6) j v) (hv : (-2147483648) ≤ v ∧ v ≤ 2147483647) : okC h' := by rcases hc with rfl | rfl | rfl <;> exact okC_w s e hv (by decide) (by decide)
theorem fb_5_0_9 {h : zM} {c : Int} (s : okC h) (hc : zPu c) : 0 ≤ h.2 c 9 ∧ h.2 c 9 ≤ 6 := by rcases hc with rfl | rfl | rfl <;> exact s.2.1 _ _
theorem fw_5_0_9 {h h' : zM} {c v : Int} (s : okC h) (hc : zPu c) (e : h' = zwr h c 9 v) (hv : 0 ≤ v ∧ v ≤ 6) : okC h' := by rcases hc with rfl | rfl | rfl <;> exact okC_w s e hv (by decide) (by decide)
