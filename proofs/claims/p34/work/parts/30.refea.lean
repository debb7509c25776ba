def okB (h : zM) : Prop := h.1 = 36 ∧ ∀ a b : Int, PM a b (h.2 a b)
theorem okM.B {h : zM} (s : okM h) : okB h := ⟨s.1, s.2.1⟩
theorem okB_w {h h' : zM} {c k v : Int} (s : okB h) (e : h' = zwr h c k v) (hp : PM c k v) : okB h' := by
  subst e
  refine ⟨s.1, fun a b => ?_⟩
  by_cases q : a = c ∧ b = k
  · rw [q.1, q.2, zwr_s]; exact hp
  · rw [zwr_n q]; exact s.2 a b
theorem k_B {h : zM} (s : okB h) : shM 0 = .inl 11 ∧ (0 : Int) ≤ 0 ∧ (0 : Int) < h.1 := ⟨rfl, by decide, by rw [s.1]; decide⟩
theorem fwB_0 {h h' : zM} {v : Int} (s : okB h) (e : h' = zwr h 0 0 v) (hv : (-2147483648) ≤ v ∧ v ≤ 2147483647) : okB h' := okB_w s e hv
theorem rfB_1 {h : zM} (s : okB h) : h.2 0 1 = 1 := zeq (s.2 0 1)
theorem fB_3 {h : zM} (s : okB h) : 0 ≤ h.2 0 3 ∧ h.2 0 3 ≤ 6 := s.2 0 3
theorem fwB_3 {h h' : zM} {v : Int} (s : okB h) (e : h' = zwr h 0 3 v) (hv : 0 ≤ v ∧ v ≤ 6) : okB h' := okB_w s e hv
theorem fB_6 {h : zM} (s : okB h) : 0 ≤ h.2 0 6 ∧ h.2 0 6 ≤ 18 := s.2 0 6
theorem rfB_7 {h : zM} (s : okB h) : h.2 0 7 = 4 := zeq (s.2 0 7)
theorem rfB_8 {h : zM} (s : okB h) : h.2 0 8 = 5 := zeq (s.2 0 8)
theorem rfB_9 {h : zM} (s : okB h) : h.2 0 9 = 6 := zeq (s.2 0 9)
theorem rfB_17 {h : zM} (s : okB h) : h.2 0 17 = 9 := zeq (s.2 0 17)
theorem rfB_18 {h : zM} (s : okB h) : h.2 0 18 = 10 := zeq (s.2 0 18)
theorem rfB_19 {h : zM} (s : okB h) : h.2 0 19 = 11 := zeq (s.2 0 19)
theorem rfB_20 {h : zM} (s : okB h) : h.2 0 20 = 12 := zeq (s.2 0 20)
theorem rfB_21 {h : zM} (s : okB h) : h.2 0 21 = 13 := zeq (s.2 0 21)
theorem rfB_22 {h : zM} (s : okB h) : h.2 0 22 = 14 := zeq (s.2 0 22)
theorem rfB_23 {h : zM} (s : okB h) : h.2 0 23 = 15 := zeq (s.2 0 23)
theorem fB_24 {h : zM} (s : okB h) : 0 ≤ h.2 0 24 ∧ h.2 0 24 ≤ 0 := s.2 0 24
theorem fB_25 {h : zM} (s : okB h) : 0 ≤ h.2 0 25 ∧ h.2 0 25 ≤ 400 := s.2 0 25
theorem fB_33 {h : zM} (s : okB h) : 0 ≤ h.2 0 33 ∧ h.2 0 33 ≤ 16 := s.2 0 33
theorem fwB_33 {h h' : zM} {v : Int} (s : okB h) (e : h' = zwr h 0 33 v) (hv : 0 ≤ v ∧ v ≤ 16) : okB h' := okB_w s e hv
theorem rfB_34 {h : zM} (s : okB h) : h.2 0 34 = 17 := zeq (s.2 0 34)
theorem fB_35 {h : zM} (s : okB h) : 0 ≤ h.2 0 35 ∧ h.2 0 35 ≤ 16 := s.2 0 35
theorem fwB_35 {h h' : zM} {v : Int} (s : okB h) (e : h' = zwr h 0 35 v) (hv : 0 ≤ v ∧ v ≤ 16) : okB h' := okB_w s e hv
theorem rfB_36 {h : zM} (s : okB h) : h.2 0 36 = 18 := zeq (s.2 0 36)
theorem fB_37 {h : zM} (s : okB h) : (-2147483648) ≤ h.2 0 37 ∧ h.2 0 37 ≤ 2147483647 := s.2 0 37
theorem fwB_37 {h h' : zM} {v : Int} (s : okB h) (e : h' = zwr h 0 37 v) (hv : (-2147483648) ≤ v ∧ v ≤ 2147483647) : okB h' := okB_w s e hv
theorem rfB_38 {h : zM} (s : okB h) : h.2 0 38 = 19 := zeq (s.2 0 38)
theorem fB_42 {h : zM} (s : okB h) : 0 ≤ h.2 0 42 ∧ h.2 0 42 ≤ 5 := s.2 0 42
theorem rfB_43 {h : zM} (s : okB h) : h.2 0 43 = 23 := zeq (s.2 0 43)
theorem rfB_44 {h : zM} (s : okB h) : h.2 0 44 = 24 := zeq (s.2 0 44)
theorem fB_45 {h : zM} (s : okB h) : (-2147483648) ≤ h.2 0 45 ∧ h.2 0 45 ≤ 2147483647 := s.2 0 45
theorem rfB_46 {h : zM} (s : okB h) : h.2 0 46 = 25 := zeq (s.2 0 46)
theorem fB_49 {h : zM} (s : okB h) : 0 ≤ h.2 0 49 ∧ h.2 0 49 ≤ 7 := s.2 0 49
theorem rfB_50 {h : zM} (s : okB h) : h.2 0 50 = 28 := zeq (s.2 0 50)
theorem fB_53 {h : zM} (s : okB h) : 0 ≤ h.2 0 53 ∧ h.2 0 53 ≤ 6 := s.2 0 53
theorem rfB_54 {h : zM} (s : okB h) : h.2 0 54 = 31 := zeq (s.2 0 54)
theorem rfB_55 {h : zM} (s : okB h) : h.2 0 55 = 32 := zeq (s.2 0 55)
theorem fB_58 {h : zM} (s : okB h) : 0 ≤ h.2 0 58 ∧ h.2 0 58 ≤ 1 := s.2 0 58
theorem fwB_58 {h h' : zM} {v : Int} (s : okB h) (e : h' = zwr h 0 58 v) (hv : 0 ≤ v ∧ v ≤ 1) : okB h' := okB_w s e hv
theorem fB_59 {h : zM} (s : okB h) : 0 ≤ h.2 0 59 ∧ h.2 0 59 ≤ 1 := s.2 0 59
theorem fwB_59 {h h' : zM} {v : Int} (s : okB h) (e : h' = zwr h 0 59 v) (hv : 0 ≤ v ∧ v ≤ 1) : okB h' := okB_w s e hv
theorem fB_60 {h : zM} (s : okB h) : 0 ≤ h.2 0 60 ∧ h.2 0 60 ≤ 2400 := s.2 0 60
theorem fwB_60 {h h' : zM} {v : Int} (s : okB h) (e : h' = zwr h 0 60 v) (hv : 0 ≤ v ∧ v ≤ 2400) : okB h' := okB_w s e hv
theorem rfB_61 {h : zM} (s : okB h) : h.2 0 61 = 35 := zeq (s.2 0 61)
theorem kaB_1 {h : zM} (s : okB h) : shM 1 = .inr (0, 63) ∧ (0 : Int) ≤ 1 ∧ (1 : Int) < h.1 := ⟨rfl, by decide, by rw [s.1]; decide⟩
theorem abB_1 {h : zM} (s : okB h) (j : Int) : (-2147483648) ≤ h.2 1 j ∧ h.2 1 j ≤ 2147483647 := s.2 1 j
theorem kaB_4 {h : zM} (s : okB h) : shM 4 = .inr (0, 18) ∧ (0 : Int) ≤ 4 ∧ (4 : Int) < h.1 := ⟨rfl, by decide, by rw [s.1]; decide⟩
theorem abB_4 {h : zM} (s : okB h) (j : Int) : (-2147483648) ≤ h.2 4 j ∧ h.2 4 j ≤ 2147483647 := s.2 4 j
theorem kaB_5 {h : zM} (s : okB h) : shM 5 = .inr (0, 18) ∧ (0 : Int) ≤ 5 ∧ (5 : Int) < h.1 := ⟨rfl, by decide, by rw [s.1]; decide⟩
theorem abB_5 {h : zM} (s : okB h) (j : Int) : (-2147483648) ≤ h.2 5 j ∧ h.2 5 j ≤ 2147483647 := s.2 5 j
theorem kaB_6 {h : zM} (s : okB h) : shM 6 = .inr (0, 600) ∧ (0 : Int) ≤ 6 ∧ (6 : Int) < h.1 := ⟨rfl, by decide, by rw [s.1]; decide⟩
theorem abB_6 {h : zM} (s : okB h) (j : Int) : (-2147483648) ≤ h.2 6 j ∧ h.2 6 j ≤ 2147483647 := s.2 6 j
theorem kaB_9 {h : zM} (s : okB h) : shM 9 = .inr (0, 2) ∧ (0 : Int) ≤ 9 ∧ (9 : Int) < h.1 := ⟨rfl, by decide, by rw [s.1]; decide⟩
theorem abB_9 {h : zM} (s : okB h) (j : Int) : 0 ≤ h.2 9 j ∧ h.2 9 j ≤ 16 := s.2 9 j
theorem awB_9 {h h' : zM} {v j : Int} (s : okB h) (e : h' = zwr h 9 j v) (hv : 0 ≤ v ∧ v ≤ 16) : okB h' := okB_w s e hv
theorem kaB_10 {h : zM} (s : okB h) : shM 10 = .inr (0, 48) ∧ (0 : Int) ≤ 10 ∧ (10 : Int) < h.1 := ⟨rfl, by decide, by rw [s.1]; decide⟩
theorem abB_10 {h : zM} (s : okB h) (j : Int) : (-2147483648) ≤ h.2 10 j ∧ h.2 10 j ≤ 2147483647 := s.2 10 j
theorem awB_10 {h h' : zM} {v j : Int} (s : okB h) (e : h' = zwr h 10 j v) (hv : (-2147483648) ≤ v ∧ v ≤ 2147483647) : okB h' := okB_w s e hv
theorem kaB_11 {h : zM} (s : okB h) : shM 11 = .inr (0, 48) ∧ (0 : Int) ≤ 11 ∧ (11 : Int) < h.1 := ⟨rfl, by decide, by rw [s.1]; decide⟩
theorem abB_11 {h : zM} (s : okB h) (j : Int) : 0 ≤ h.2 11 j ∧ h.2 11 j ≤ 400 := s.2 11 j
theorem awB_11 {h h' : zM} {v j : Int} (s : okB h) (e : h' = zwr h 11 j v) (hv : 0 ≤ v ∧ v ≤ 400) : okB h' := okB_w s e hv
theorem kaB_12 {h : zM} (s : okB h) : shM 12 = .inr (0, 48) ∧ (0 : Int) ≤ 12 ∧ (12 : Int) < h.1 := ⟨rfl, by decide, by rw [s.1]; decide⟩
theorem abB_12 {h : zM} (s : okB h) (j : Int) : 0 ≤ h.2 12 j ∧ h.2 12 j ≤ 400 := s.2 12 j
theorem awB_12 {h h' : zM} {v j : Int} (s : okB h) (e : h' = zwr h 12 j v) (hv : 0 ≤ v ∧ v ≤ 400) : okB h' := okB_w s e hv
theorem kaB_13 {h : zM} (s : okB h) : shM 13 = .inr (0, 48) ∧ (0 : Int) ≤ 13 ∧ (13 : Int) < h.1 := ⟨rfl, by decide, by rw [s.1]; decide⟩
theorem abB_13 {h : zM} (s : okB h) (j : Int) : 0 ≤ h.2 13 j ∧ h.2 13 j ≤ 400 := s.2 13 j
theorem awB_13 {h h' : zM} {v j : Int} (s : okB h) (e : h' = zwr h 13 j v) (hv : 0 ≤ v ∧ v ≤ 400) : okB h' := okB_w s e hv
theorem kaB_14 {h : zM} (s : okB h) : shM 14 = .inr (0, 1200) ∧ (0 : Int) ≤ 14 ∧ (14 : Int) < h.1 := ⟨rfl, by decide, by rw [s.1]; decide⟩
theorem abB_14 {h : zM} (s : okB h) (j : Int) : (-2147483648) ≤ h.2 14 j ∧ h.2 14 j ≤ 2147483647 := s.2 14 j
theorem awB_14 {h h' : zM} {v j : Int} (s : okB h) (e : h' = zwr h 14 j v) (hv : (-2147483648) ≤ v ∧ v ≤ 2147483647) : okB h' := okB_w s e hv
theorem kaB_15 {h : zM} (s : okB h) : shM 15 = .inr (0, 1200) ∧ (0 : Int) ≤ 15 ∧ (15 : Int) < h.1 := ⟨rfl, by decide, by rw [s.1]; decide⟩
theorem abB_15 {h : zM} (s : okB h) (j : Int) : (-2147483648) ≤ h.2 15 j ∧ h.2 15 j ≤ 2147483647 := s.2 15 j
theorem awB_15 {h h' : zM} {v j : Int} (s : okB h) (e : h' = zwr h 15 j v) (hv : (-2147483648) ≤ v ∧ v ≤ 2147483647) : okB h' := okB_w s e hv
theorem kaB_17 {h : zM} (s : okB h) : shM 17 = .inr (0, 96) ∧ (0 : Int) ≤ 17 ∧ (17 : Int) < h.1 := ⟨rfl, by decide, by rw [s.1]; decide⟩
theorem abB_17 {h : zM} (s : okB h) (j : Int) : (-2147483648) ≤ h.2 17 j ∧ h.2 17 j ≤ 2147483647 := s.2 17 j
theorem awB_17 {h h' : zM} {v j : Int} (s : okB h) (e : h' = zwr h 17 j v) (hv : (-2147483648) ≤ v ∧ v ≤ 2147483647) : okB h' := okB_w s e hv
theorem kaB_18 {h : zM} (s : okB h) : shM 18 = .inr (0, 96) ∧ (0 : Int) ≤ 18 ∧ (18 : Int) < h.1 := ⟨rfl, by decide, by rw [s.1]; decide⟩
theorem abB_18 {h : zM} (s : okB h) (j : Int) : (-2147483648) ≤ h.2 18 j ∧ h.2 18 j ≤ 2147483647 := s.2 18 j
theorem awB_18 {h h' : zM} {v j : Int} (s : okB h) (e : h' = zwr h 18 j v) (hv : (-2147483648) ≤ v ∧ v ≤ 2147483647) : okB h' := okB_w s e hv
theorem kaB_19 {h : zM} (s : okB h) : shM 19 = .inr (0, 36) ∧ (0 : Int) ≤ 19 ∧ (19 : Int) < h.1 := ⟨rfl, by decide, by rw [s.1]; decide⟩
theorem abB_19 {h : zM} (s : okB h) (j : Int) : (-2147483648) ≤ h.2 19 j ∧ h.2 19 j ≤ 2147483647 := s.2 19 j
theorem awB_19 {h h' : zM} {v j : Int} (s : okB h) (e : h' = zwr h 19 j v) (hv : (-2147483648) ≤ v ∧ v ≤ 2147483647) : okB h' := okB_w s e hv
theorem kaB_23 {h : zM} (s : okB h) : shM 23 = .inr (0, 8) ∧ (0 : Int) ≤ 23 ∧ (23 : Int) < h.1 := ⟨rfl, by decide, by rw [s.1]; decide⟩
theorem abB_23 {h : zM} (s : okB h) (j : Int) : (-2147483648) ≤ h.2 23 j ∧ h.2 23 j ≤ 2147483647 := s.2 23 j
theorem kaB_24 {h : zM} (s : okB h) : shM 24 = .inr (0, 8) ∧ (0 : Int) ≤ 24 ∧ (24 : Int) < h.1 := ⟨rfl, by decide, by rw [s.1]; decide⟩
theorem abB_24 {h : zM} (s : okB h) (j : Int) : (-2147483648) ≤ h.2 24 j ∧ h.2 24 j ≤ 2147483647 := s.2 24 j
theorem kaB_25 {h : zM} (s : okB h) : shM 25 = .inr (0, 6) ∧ (0 : Int) ≤ 25 ∧ (25 : Int) < h.1 := ⟨rfl, by decide, by rw [s.1]; decide⟩
theorem abB_25 {h : zM} (s : okB h) (j : Int) : (-2147483648) ≤ h.2 25 j ∧ h.2 25 j ≤ 2147483647 := s.2 25 j
theorem kaB_28 {h : zM} (s : okB h) : shM 28 = .inr (0, 7) ∧ (0 : Int) ≤ 28 ∧ (28 : Int) < h.1 := ⟨rfl, by decide, by rw [s.1]; decide⟩
theorem abB_28 {h : zM} (s : okB h) (j : Int) : (-2147483648) ≤ h.2 28 j ∧ h.2 28 j ≤ 2147483647 := s.2 28 j
theorem kaB_31 {h : zM} (s : okB h) : shM 31 = .inr (0, 6) ∧ (0 : Int) ≤ 31 ∧ (31 : Int) < h.1 := ⟨rfl, by decide, by rw [s.1]; decide⟩
theorem abB_31 {h : zM} (s : okB h) (j : Int) : (-2147483648) ≤ h.2 31 j ∧ h.2 31 j ≤ 2147483647 := s.2 31 j
theorem kaB_32 {h : zM} (s : okB h) : shM 32 = .inr (0, 6) ∧ (0 : Int) ≤ 32 ∧ (32 : Int) < h.1 := ⟨rfl, by decide, by rw [s.1]; decide⟩
theorem abB_32 {h : zM} (s : okB h) (j : Int) : (-2147483648) ≤ h.2 32 j ∧ h.2 32 j ≤ 2147483647 := s.2 32 j
theorem kaB_35 {h : zM} (s : okB h) : shM 35 = .inr (0, 2400) ∧ (0 : Int) ≤ 35 ∧ (35 : Int) < h.1 := ⟨rfl, by decide, by rw [s.1]; decide⟩
theorem abB_35 {h : zM} (s : okB h) (j : Int) : (-2147483648) ≤ h.2 35 j ∧ h.2 35 j ≤ 2147483647 := s.2 35 j
theorem awB_35 {h h' : zM} {v j : Int} (s : okB h) (e : h' = zwr h 35 j v) (hv : (-2147483648) ≤ v ∧ v ≤ 2147483647) : okB h' := okB_w s e hv
theorem zl_f6 {j : Int} (hj : j = 63) : zloc j = (0, 6) := by subst hj; decide
theorem zl_f33 {j : Int} (hj : j = 64) : zloc j = (0, 33) := by subst hj; decide
theorem zl_f35 {j : Int} (hj : j = 65) : zloc j = (0, 35) := by subst hj; decide
theorem zl_f37 {j : Int} (hj : j = 66) : zloc j = (0, 37) := by subst hj; decide
theorem zl_f42 {j : Int} (hj : j = 67) : zloc j = (0, 42) := by subst hj; decide
theorem zl_f45 {j : Int} (hj : j = 68) : zloc j = (0, 45) := by subst hj; decide
theorem zl_f49 {j : Int} (hj : j = 69) : zloc j = (0, 49) := by subst hj; decide
theorem zl_f53 {j : Int} (hj : j = 70) : zloc j = (0, 53) := by subst hj; decide
theorem zl_9 {j k : Int} (hk : k = 0) (hj : j = 862) : zloc j = (9, k) := by subst hj; subst hk; decide
theorem zl_1 {j k : Int} (hk : 0 ≤ k ∧ k < 63) (hj : j = k) : zloc j = (1, k) := by
  unfold zloc
  rw [if_pos (by omega), hj]
theorem zl_4 {j k : Int} (hk : 0 ≤ k ∧ k < 18) (hj : j = 71 + 3 * k + 0) : zloc j = (4, k) := by
  unfold zloc
  rw [if_neg (by omega), if_neg (by omega), if_neg (by omega), if_neg (by omega), if_neg (by omega), if_neg (by omega), if_neg (by omega), if_neg (by omega), if_neg (by omega), if_pos (by omega), if_pos (by omega), show (j - 71) / 3 = k by omega]
theorem zl_5 {j k : Int} (hk : 0 ≤ k ∧ k < 18) (hj : j = 71 + 3 * k + 1) : zloc j = (5, k) := by
  unfold zloc
  rw [if_neg (by omega), if_neg (by omega), if_neg (by omega), if_neg (by omega), if_neg (by omega), if_neg (by omega), if_neg (by omega), if_neg (by omega), if_neg (by omega), if_pos (by omega), if_neg (by omega), if_pos (by omega), show (j - 71) / 3 = k by omega]
theorem zl_19 {j k : Int} (hk : 0 ≤ k ∧ k < 18) (hj : j = 71 + 3 * k + 2) : zloc j = (19, k) := by
  unfold zloc
  rw [if_neg (by omega), if_neg (by omega), if_neg (by omega), if_neg (by omega), if_neg (by omega), if_neg (by omega), if_neg (by omega), if_neg (by omega), if_neg (by omega), if_pos (by omega), if_neg (by omega), if_neg (by omega), show (j - 71) / 3 = k by omega]
theorem zl_23 {j k : Int} (hk : 0 ≤ k ∧ k < 8) (hj : j = 125 + 2 * k + 0) : zloc j = (23, k) := by
  unfold zloc
  rw [if_neg (by omega), if_neg (by omega), if_neg (by omega), if_neg (by omega), if_neg (by omega), if_neg (by omega), if_neg (by omega), if_neg (by omega), if_neg (by omega), if_neg (by omega), if_pos (by omega), if_pos (by omega), show (j - 125) / 2 = k by omega]
theorem zl_24 {j k : Int} (hk : 0 ≤ k ∧ k < 8) (hj : j = 125 + 2 * k + 1) : zloc j = (24, k) := by
  unfold zloc
  rw [if_neg (by omega), if_neg (by omega), if_neg (by omega), if_neg (by omega), if_neg (by omega), if_neg (by omega), if_neg (by omega), if_neg (by omega), if_neg (by omega), if_neg (by omega), if_pos (by omega), if_neg (by omega), show (j - 125) / 2 = k by omega]
theorem zl_25 {j k : Int} (hk : 0 ≤ k ∧ k < 6) (hj : j = 141 + 3 * k + 0) : zloc j = (25, k) := by
  unfold zloc
  rw [if_neg (by omega), if_neg (by omega), if_neg (by omega), if_neg (by omega), if_neg (by omega), if_neg (by omega), if_neg (by omega), if_neg (by omega), if_neg (by omega), if_neg (by omega), if_neg (by omega), if_pos (by omega), if_pos (by omega), show (j - 141) / 3 = k by omega]
theorem zl_31 {j k : Int} (hk : 0 ≤ k ∧ k < 6) (hj : j = 141 + 3 * k + 1) : zloc j = (31, k) := by
  unfold zloc
  rw [if_neg (by omega), if_neg (by omega), if_neg (by omega), if_neg (by omega), if_neg (by omega), if_neg (by omega), if_neg (by omega), if_neg (by omega), if_neg (by omega), if_neg (by omega), if_neg (by omega), if_pos (by omega), if_neg (by omega), if_pos (by omega), show (j - 141) / 3 = k by omega]
theorem zl_32 {j k : Int} (hk : 0 ≤ k ∧ k < 6) (hj : j = 141 + 3 * k + 2) : zloc j = (32, k) := by
  unfold zloc
  rw [if_neg (by omega), if_neg (by omega), if_neg (by omega), if_neg (by omega), if_neg (by omega), if_neg (by omega), if_neg (by omega), if_neg (by omega), if_neg (by omega), if_neg (by omega), if_neg (by omega), if_pos (by omega), if_neg (by omega), if_neg (by omega), show (j - 141) / 3 = k by omega]
theorem zl_28 {j k : Int} (hk : 0 ≤ k ∧ k < 7) (hj : j = 159 + 1 * k + 0) : zloc j = (28, k) := by
  unfold zloc
  rw [if_neg (by omega), if_neg (by omega), if_neg (by omega), if_neg (by omega), if_neg (by omega), if_neg (by omega), if_neg (by omega), if_neg (by omega), if_neg (by omega), if_neg (by omega), if_neg (by omega), if_neg (by omega), if_pos (by omega), show j - 159 = k by omega]
theorem zl_17 {j k : Int} (hk : 0 ≤ k ∧ k < 48) (hj : j = 166 + 1 * k + 0) : zloc j = (17, k) := by
  unfold zloc
  rw [if_neg (by omega), if_neg (by omega), if_neg (by omega), if_neg (by omega), if_neg (by omega), if_neg (by omega), if_neg (by omega), if_neg (by omega), if_neg (by omega), if_neg (by omega), if_neg (by omega), if_neg (by omega), if_neg (by omega), if_pos (by omega), show j - 166 = k by omega]
theorem zl_18 {j k : Int} (hk : 0 ≤ k ∧ k < 48) (hj : j = 214 + 1 * k + 0) : zloc j = (18, k) := by
  unfold zloc
  rw [if_neg (by omega), if_neg (by omega), if_neg (by omega), if_neg (by omega), if_neg (by omega), if_neg (by omega), if_neg (by omega), if_neg (by omega), if_neg (by omega), if_neg (by omega), if_neg (by omega), if_neg (by omega), if_neg (by omega), if_neg (by omega), if_pos (by omega), show j - 214 = k by omega]
theorem zl_6 {j k : Int} (hk : 0 ≤ k ∧ k < 600) (hj : j = 262 + 1 * k + 0) : zloc j = (6, k) := by
  unfold zloc
  rw [if_neg (by omega), if_neg (by omega), if_neg (by omega), if_neg (by omega), if_neg (by omega), if_neg (by omega), if_neg (by omega), if_neg (by omega), if_neg (by omega), if_neg (by omega), if_neg (by omega), if_neg (by omega), if_neg (by omega), if_neg (by omega), if_neg (by omega), if_pos (by omega), show j - 262 = k by omega]
theorem zl_10 {j k : Int} (hk : 0 ≤ k ∧ k < 16) (hj : j = 863 + 4 * k + 0) : zloc j = (10, k) := by
  unfold zloc
  rw [if_neg (by omega), if_neg (by omega), if_neg (by omega), if_neg (by omega), if_neg (by omega), if_neg (by omega), if_neg (by omega), if_neg (by omega), if_neg (by omega), if_neg (by omega), if_neg (by omega), if_neg (by omega), if_neg (by omega), if_neg (by omega), if_neg (by omega), if_neg (by omega), if_neg (by omega), if_pos (by omega), if_pos (by omega), show (j - 863) / 4 = k by omega]
theorem zl_11 {j k : Int} (hk : 0 ≤ k ∧ k < 16) (hj : j = 863 + 4 * k + 1) : zloc j = (11, k) := by
  unfold zloc
  rw [if_neg (by omega), if_neg (by omega), if_neg (by omega), if_neg (by omega), if_neg (by omega), if_neg (by omega), if_neg (by omega), if_neg (by omega), if_neg (by omega), if_neg (by omega), if_neg (by omega), if_neg (by omega), if_neg (by omega), if_neg (by omega), if_neg (by omega), if_neg (by omega), if_neg (by omega), if_pos (by omega), if_neg (by omega), if_pos (by omega), show (j - 863) / 4 = k by omega]
theorem zl_12 {j k : Int} (hk : 0 ≤ k ∧ k < 16) (hj : j = 863 + 4 * k + 2) : zloc j = (12, k) := by
  unfold zloc
  rw [if_neg (by omega), if_neg (by omega), if_neg (by omega), if_neg (by omega), if_neg (by omega), if_neg (by omega), if_neg (by omega), if_neg (by omega), if_neg (by omega), if_neg (by omega), if_neg (by omega), if_neg (by omega), if_neg (by omega), if_neg (by omega), if_neg (by omega), if_neg (by omega), if_neg (by omega), if_pos (by omega), if_neg (by omega), if_neg (by omega), if_pos (by omega), show (j - 863) / 4 = k by omega]
theorem zl_13 {j k : Int} (hk : 0 ≤ k ∧ k < 16) (hj : j = 863 + 4 * k + 3) : zloc j = (13, k) := by
  unfold zloc
  rw [if_neg (by omega), if_neg (by omega), if_neg (by omega), if_neg (by omega), if_neg (by omega), if_neg (by omega), if_neg (by omega), if_neg (by omega), if_neg (by omega), if_neg (by omega), if_neg (by omega), if_neg (by omega), if_neg (by omega), if_neg (by omega), if_neg (by omega), if_neg (by omega), if_neg (by omega), if_pos (by omega), if_neg (by omega), if_neg (by omega), if_neg (by omega), show (j - 863) / 4 = k by omega]
theorem zl_14 {j k : Int} (hk : 0 ≤ k ∧ k < 400) (hj : j = 927 + 2 * k + 0) : zloc j = (14, k) := by
  unfold zloc
  rw [if_neg (by omega), if_neg (by omega), if_neg (by omega), if_neg (by omega), if_neg (by omega), if_neg (by omega), if_neg (by omega), if_neg (by omega), if_neg (by omega), if_neg (by omega), if_neg (by omega), if_neg (by omega), if_neg (by omega), if_neg (by omega), if_neg (by omega), if_neg (by omega), if_neg (by omega), if_neg (by omega), if_pos (by omega), show (j - 927) / 2 = k by omega]
theorem zl_15 {j k : Int} (hk : 0 ≤ k ∧ k < 400) (hj : j = 927 + 2 * k + 1) : zloc j = (15, k) := by
  unfold zloc
  rw [if_neg (by omega), if_neg (by omega), if_neg (by omega), if_neg (by omega), if_neg (by omega), if_neg (by omega), if_neg (by omega), if_neg (by omega), if_neg (by omega), if_neg (by omega), if_neg (by omega), if_neg (by omega), if_neg (by omega), if_neg (by omega), if_neg (by omega), if_neg (by omega), if_neg (by omega), if_neg (by omega), if_neg (by omega), show (j - 927) / 2 = k by omega]
def zinv (c k : Int) : Int := if c = 0 then (if k = 6 then 63 else if k = 33 then 64 else if k = 35 then 65 else if k = 37 then 66 else if k = 42 then 67 else if k = 45 then 68 else if k = 49 then 69 else if k = 53 then 70 else -1) else if c = 9 then 862 else if c = 1 then k else if c = 4 then 71 + 3 * k + 0 else if c = 5 then 71 + 3 * k + 1 else if c = 19 then 71 + 3 * k + 2 else if c = 23 then 125 + 2 * k + 0 else if c = 24 then 125 + 2 * k + 1 else if c = 25 then 141 + 3 * k + 0 else if c = 31 then 141 + 3 * k + 1 else if c = 32 then 141 + 3 * k + 2 else if c = 28 then 159 + 1 * k + 0 else if c = 17 then 166 + 1 * k + 0 else if c = 18 then 214 + 1 * k + 0 else if c = 6 then 262 + 1 * k + 0 else if c = 10 then 863 + 4 * k + 0 else if c = 11 then 863 + 4 * k + 1 else if c = 12 then 863 + 4 * k + 2 else if c = 13 then 863 + 4 * k + 3 else if c = 14 then 927 + 2 * k + 0 else if c = 15 then 927 + 2 * k + 1 else -1
theorem zinv_all : ∀ i : Nat, i < 1727 → (zinv (zloc (i : Int)).1 (zloc (i : Int)).2 = (i : Int) ∧ ¬ (zloc (i : Int)).1 = 35 ∧ ¬ ((zloc (i : Int)).1 = 0 ∧ ((zloc (i : Int)).2 = 58 ∨ (zloc (i : Int)).2 = 60))) := by decide +kernel
theorem zinv_i {i : Int} (hi : 0 ≤ i ∧ i < 1727) : zinv (zloc i).1 (zloc i).2 = i ∧ ¬ (zloc i).1 = 35 ∧ ¬ ((zloc i).1 = 0 ∧ ((zloc i).2 = 58 ∨ (zloc i).2 = 60)) := by
  have := zinv_all i.toNat (by omega)
  rw [show ((i.toNat : Nat) : Int) = i by omega] at this
  exact this
def zlv (h : zM) (i : Int) : Int := h.2 (zloc i).1 (zloc i).2
def zSt (h0 h : zM) (j : Int) : Prop := h.2 0 60 = j ∧ h.2 0 58 = h0.2 0 58 ∧ (∀ i, 0 ≤ i → i < j → zlv h i = h.2 35 i) ∧ (¬ h0.2 0 58 = 0 → ∀ i, 0 ≤ i → i < 1727 → zlv h i = zlv h0 i) ∧ (h0.2 0 58 = 0 → ∀ i, h.2 35 i = h0.2 35 i)
def zPI (h0 : zM) : Prop := h0.2 0 58 = 0 → ∀ i, 0 ≤ i → i < 1727 → PM (zloc i).1 (zloc i).2 (h0.2 35 i)
theorem zSt_0 {h : zM} (e : h.2 0 60 = 0) : zSt h h 0 := ⟨e, rfl, fun i q1 q2 => absurd q1 (by omega), fun _ _ _ _ => rfl, fun _ _ => rfl⟩
theorem zSt_step {h0 h h1 h2 : zM} {j c k v x : Int} (q : zSt h0 h j) (hj : 0 ≤ j ∧ j < 1727) (hl : zloc j = (c, k)) (f : zfr [60] [35] h h1) (p1 : h1.2 0 60 = h.2 0 60 + 1) (p2 : h.2 0 58 = 0 → v = h.2 35 (h.2 0 60) ∧ ∀ i, h1.2 35 i = h.2 35 i) (rd : h.2 c k = x) (p3 : ¬ h.2 0 58 = 0 → v = x ∧ h1.2 35 (h.2 0 60) = x ∧ ∀ i, ¬ i = h.2 0 60 → h1.2 35 i = h.2 35 i) (e : h2 = zwr h1 c k v) : zSt h0 h2 (j + 1) := by
  obtain ⟨q1, q2, q3, q4, q5⟩ := q
  have zj := zinv_i hj
  rw [hl] at zj
  have hc35 : ¬ c = 35 := zj.2.1
  have hck : ¬ (c = 0 ∧ (k = 58 ∨ k = 60)) := zj.2.2
  have e35 : ∀ i, h2.2 35 i = h1.2 35 i := fun i => by rw [e, zwr_n (by omega)]
  have e58 : h2.2 0 58 = h.2 0 58 := by rw [e, zwr_n (by omega)]; exact zfr_f f rfl rfl
  have e60 : h2.2 0 60 = j + 1 := by rw [e, zwr_n (by omega), p1, q1]
  have lj : zlv h2 j = v := by unfold zlv; rw [hl, e]; exact zwr_s h1 c k v
  have lx : zlv h j = x := by unfold zlv; rw [hl]; exact rd
  have li : ∀ i, 0 ≤ i → i < 1727 → ¬ i = j → zlv h2 i = zlv h i := by
    intro i i1 i2 i3
    have zi := zinv_i (i := i) ⟨i1, i2⟩
    unfold zlv
    rw [e, zwr_n (fun w => i3 (by have a := zi.1; rw [w.1, w.2, zj.1] at a; exact a.symm))]
    refine f.2 _ _ ?_ (fun w => ?_)
    · cases hh : ([35] : List Int).contains (zloc i).1 with
      | false => rfl
      | true => exact absurd (List.mem_singleton.mp (List.contains_iff_mem.mp hh)) zi.2.1
    · exact zi.2.2 ⟨w.1, Or.inr (List.mem_singleton.mp (List.contains_iff_mem.mp w.2))⟩
  refine ⟨e60, e58.trans q2, fun i i1 i2 => ?_, fun hT i i1 i2 => ?_, fun hT i => ?_⟩
  · by_cases ij : i = j
    · subst ij
      rw [lj, e35]
      by_cases hT : h.2 0 58 = 0
      · obtain ⟨a, b⟩ := p2 hT
        rw [a, b, q1]
      · obtain ⟨a, b, c⟩ := p3 hT
        rw [a, ← q1, b]
    · rw [li i i1 (by omega) ij, e35, q3 i i1 (by omega)]
      by_cases hT : h.2 0 58 = 0
      · exact ((p2 hT).2 i).symm
      · exact ((p3 hT).2.2 i (by omega)).symm
  · by_cases ij : i = j
    · subst ij
      rw [lj, (p3 (by omega)).1, ← lx]
      exact q4 hT i i1 i2
    · rw [li i i1 i2 ij]; exact q4 hT i i1 i2
  · rw [e35, (p2 (by omega)).2 i]; exact q5 hT i
theorem zSt_pm {h0 h h1 : zM} {j c k v x : Int} (q : zSt h0 h j) (hj : 0 ≤ j ∧ j < 1727) (hl : zloc j = (c, k)) (B : okB h) (I : zPI h0) (p2 : h.2 0 58 = 0 → v = h.2 35 (h.2 0 60) ∧ ∀ i, h1.2 35 i = h.2 35 i) (rd : h.2 c k = x) (p3 : ¬ h.2 0 58 = 0 → v = x ∧ h1.2 35 (h.2 0 60) = x ∧ ∀ i, ¬ i = h.2 0 60 → h1.2 35 i = h.2 35 i) : PM c k v := by
  obtain ⟨q1, q2, q3, q4, q5⟩ := q
  by_cases hT : h.2 0 58 = 0
  · rw [(p2 hT).1, q1, q5 (by omega)]
    have := I (by omega) j hj.1 hj.2
    rw [hl] at this
    exact this
  · rw [(p3 hT).1, ← rd]; exact B.2 c k
theorem xM_loc {h h' : zM} (hp : ∀ a b : Int, PM a b (h.2 a b)) (e : ∀ j, 0 ≤ j → j < 1727 → zlv h' j = zlv h j) (x : xM h) : xM h' := by
  have p9 : 0 ≤ h.2 9 0 ∧ h.2 9 0 ≤ 16 := hp 9 0
  have p42 : 0 ≤ h.2 0 42 ∧ h.2 0 42 ≤ 5 := hp 0 42
  have at_ : ∀ {c k : Int} (j : Int), 0 ≤ j → j < 1727 → zloc j = (c, k) → h'.2 c k = h.2 c k := by
    intro c k j j1 j2 hl
    have := e j j1 j2
    unfold zlv at this
    rw [hl] at this
    exact this
  have e9 : h'.2 9 0 = h.2 9 0 := at_ 862 (by decide) (by decide) (by decide)
  obtain ⟨x1, x2, x3⟩ := x
  refine ⟨fun k q1 q2 => ?_, fun j q1 q2 => ?_, wfL_ext e9 p9.2 (fun l q1 q2 => ⟨at_ (863 + 4 * l + 1) (by omega) (by omega) (zl_11 (by omega) rfl), at_ (863 + 4 * l + 2) (by omega) (by omega) (zl_12 (by omega) rfl), at_ (863 + 4 * l + 3) (by omega) (by omega) (zl_13 (by omega) rfl)⟩) (fun k q1 q2 => ⟨at_ (927 + 2 * k + 0) (by omega) (by omega) (zl_14 (by omega) rfl), at_ (927 + 2 * k + 1) (by omega) (by omega) (zl_15 (by omega) rfl)⟩) x3⟩
  · rw [at_ 67 (by decide) (by decide) (by decide)] at q2
    rw [at_ (125 + 2 * k + 0) (by omega) (by omega) (zl_23 (by omega) rfl)]
    exact x1 k q1 q2
  · rw [at_ (214 + 1 * (3 * j + 1) + 0) (by omega) (by omega) (zl_18 (by omega) rfl), at_ (214 + 1 * (3 * j + 2) + 0) (by omega) (by omega) (zl_18 (by omega) rfl)]
    exact x2 j q1 q2
/-- an image is made, or it is live again -/
theorem okM_img {h h0 hf : zM} (s : okM h) (f0 : zfr [0, 58, 59, 60] [] h h0) (f59 : hf.2 0 59 = 1) (hT : h0.2 0 58 = 0 → h.2 0 59 = 1) (B : okB hf) (ff : zfr [0, 3, 6, 33, 35, 37, 42, 45, 49, 53, 58, 59, 60] [1, 4, 5, 6, 9, 10, 11, 12, 13, 14, 15, 17, 18, 19, 23, 24, 25, 28, 31, 32, 35] h hf) (q : zSt h0 hf 1727) : okM hf := by
  obtain ⟨s1, s2, s3, s4, s5, s6⟩ := s
  obtain ⟨q1, q2, q3, q4, q5⟩ := q
  have l0 : ∀ j, 0 ≤ j → j < 1727 → zlv h0 j = zlv h j := by
    intro j j1 j2
    have zj := zinv_i (i := j) ⟨j1, j2⟩
    unfold zlv
    refine f0.2 _ _ rfl (fun w => ?_)
    have hm := List.contains_iff_mem.mp w.2
    have a := zj.1
    rw [w.1] at a
    simp only [List.mem_cons, List.mem_nil_iff, or_false] at hm
    rcases hm with hm | hm | hm | hm <;> rw [hm] at a <;> simp [zinv] at a <;> omega
  have xx : xM hf ∧ (0 ≤ hf.2 1 2 ∧ hf.2 1 2 ≤ 150) := by
    by_cases t : h0.2 0 58 = 0
    · obtain ⟨hw, w1, w2, w3, w4⟩ := s5 (hT t)
      have ee : ∀ j, 0 ≤ j → j < 1727 → zlv hf j = zlv hw j := by
        intro j j1 j2
        rw [q3 j j1 j2, q5 t, zfr_a f0 rfl (by decide)]
        exact (w1 j j1 j2).symm
      refine ⟨xM_loc w2 ee w3, ?_⟩
      have := ee 2 (by decide) (by decide)
      have e2 : hf.2 1 2 = hw.2 1 2 := this
      rw [e2]; exact w4
    · have ee : ∀ j, 0 ≤ j → j < 1727 → zlv hf j = zlv h j := fun j j1 j2 => (q4 t j j1 j2).trans (l0 j j1 j2)
      refine ⟨xM_loc s2 ee s4, ?_⟩
      have := ee 2 (by decide) (by decide)
      have e2 : hf.2 1 2 = h.2 1 2 := this
      rw [e2]; exact s3 1 2 (Or.inl ⟨Or.inl rfl, rfl⟩)
  refine ⟨B.1, B.2, fun a j a1 => ?_, xx.1, fun _ => ⟨hf, fun j j1 j2 => q3 j j1 j2, B.2, xx.1, xx.2⟩, ?_⟩
  · by_cases w : a = 1
    · subst w
      have hj : j = 2 := by omega
      subst hj; exact xx.2
    · have e1 : hf.2 a j = h.2 a j := by
        rcases (show a = 2 ∨ a = 3 by omega) with rfl | rfl <;> exact zfr_a ff rfl (by decide)
      rw [e1]
      exact s3 a j a1
  · show hf.2 8 149 = 32
    rw [zfr_a ff rfl (by decide)]
    exact s6
theorem zSt_j {h0 h : zM} {j j' : Int} (q : zSt h0 h j) (e : j = j') : zSt h0 h j' := e ▸ q
theorem zPI_of {h h0 : zM} (s : okM h) (f0 : zfr [0, 58, 59, 60] [] h h0) (hT : h0.2 0 58 = 0 → h.2 0 59 = 1) : zPI h0 := by
  intro t i i1 i2
  obtain ⟨hw, w1, w2, -, -⟩ := s.2.2.2.2.1 (hT t)
  rw [zfr_a f0 rfl (by decide), ← w1 i i1 i2]
  exact w2 _ _
abbrev tX11_keeps : List (Nat × Instr × Nat) := [(0, .aload_n 0, 1), (1, .aload_n 0, 1), (2, .getfield 461, 3), (5, .iconst 1, 1), (6, .iadd, 1), (7, .putfield 461, 3), (10, .aload_n 0, 1), (11, .getfield 464, 3), (14, .ifCond .ne 15, 3), (17, .aload_n 0, 1), (18, .getfield 117, 3), (21, .aload_n 0, 1), (22, .getfield 461, 3), (25, .iconst 1, 1), (26, .isub, 1), (27, .iaload, 1), (28, .ireturn, 1), (29, .aload_n 0, 1), (30, .getfield 117, 3), (33, .aload_n 0, 1), (34, .getfield 461, 3), (37, .iconst 1, 1), (38, .isub, 1), (39, .iload_n 1, 1), (40, .iastore, 1), (41, .iload_n 1, 1), (42, .ireturn, 1)]
theorem ttX11_keeps : zdt cX11_keeps tX11_keeps = true := by decide +kernel
abbrev q_X11_keeps (h : zM) (p1 : Int) : Option zV → zM → Prop := zqi fun v h' => ((-2147483648) ≤ v ∧ v ≤ 2147483647) ∧ okB h' ∧ zfr [60] [35] h h' ∧ (h'.2 0 60 = h.2 0 60 + 1) ∧ (h.2 0 58 = 0 → v = h.2 35 (h.2 0 60) ∧ ∀ i, h'.2 35 i = h.2 35 i) ∧ (¬ h.2 0 58 = 0 → v = p1 ∧ h'.2 35 (h.2 0 60) = p1 ∧ ∀ i, ¬ i = h.2 0 60 → h'.2 35 i = h.2 35 i)
set_option maxRecDepth 100000 in
set_option maxHeartbeats 4000000 in
theorem s_X11_keeps (l : Launch) (h : zM) (p1 : Int) (s0 : okB h) (b_p1 : (-2147483648) ≤ p1 ∧ p1 ≤ 2147483647) (u_0 : h.2 0 60 ≤ 2399) : zT shM l yX11_keeps cX11_keeps 2 (some .int) (rmL 1) 0 0 [.inr 0, .inl p1] h (q_X11_keeps h p1) := by
  refine zT_of (by decide +kernel) (L0 := [some (.inr 0), some (.inl p1)]) rfl (Nat.le_of_ble_eq_true rfl) ?_
  refine zj_aload_n (zdk ttX11_keeps 0 rfl rfl) rfl (by decide) ?_
  refine zj_aload_n (zdk ttX11_keeps 1 rfl rfl) rfl (by decide) ?_
  have b1 : 0 ≤ (h.2 0 60) ∧ (h.2 0 60) ≤ 2400 := fB_60 s0
  refine zj_geti (v := (h.2 0 60)) (zdk ttX11_keeps 2 rfl rfl) zf_RX11_461 rfl (k_B s0) rfl ?_
  refine zj_iconst (zdk ttX11_keeps 3 rfl rfl) ?_
  refine zj_iadd (zdk ttX11_keeps 4 rfl rfl) ?_
  refine zj_puti (zdk ttX11_keeps 5 rfl rfl) zf_RX11_461 rfl (k_B s0) (Or.inl zw_RX11_461) (k2 := 60) rfl (fun h2 e3 => ?_)
  refine zj_aload_n (zdk ttX11_keeps 6 rfl rfl) rfl (by decide) ?_
  have b4 : 0 ≤ (h.2 0 58) ∧ (h.2 0 58) ≤ 1 := fB_58 s0
  have s5 : okB h2 := fwB_60 s0 e3 (by omega)
  refine zj_geti (v := (h.2 0 58)) (zdk ttX11_keeps 7 rfl rfl) zf_RX11_464 rfl (k_B s5) (zwr_r e3 (by first | decide | exact (absurd ·.1 (by decide)) | exact (absurd ·.2 (by decide)) | omega)) ?_
  refine zj_if_ne (t := 29) (zdk ttX11_keeps 8 rfl rfl) (by decide) (by omega) (fun c6 => ?_) (fun c6 => ?_)
  · refine zj_aload_n (zdk ttX11_keeps 17 rfl rfl) rfl (by decide) ?_
    refine zj_getr (r := 35) (zdk ttX11_keeps 18 rfl rfl) zf_RX11_117 rfl (k_B s5) (rfB_61 s5) ?_
    refine zj_aload_n (zdk ttX11_keeps 19 rfl rfl) rfl (by decide) ?_
    refine zj_geti (v := ((h.2 0 60) + 1)) (zdk ttX11_keeps 20 rfl rfl) zf_RX11_461 rfl (k_B s5) (zwr_v e3) ?_
    refine zj_iconst (zdk ttX11_keeps 21 rfl rfl) ?_
    refine zj_isub (zdk ttX11_keeps 22 rfl rfl) ?_
    refine zj_iload_n (zdk ttX11_keeps 23 rfl rfl) rfl ?_
    refine zj_iast (zdk ttX11_keeps 24 rfl rfl) (kaB_35 s5) (by decide) (by omega) (fun h7 e8 => ?_)
    refine zj_iload_n (zdk ttX11_keeps 25 rfl rfl) rfl ?_
    have s9 : okB h7 := awB_35 s5 e8 (by omega)
    have b10 : h7.2 0 60 = ((h.2 0 60) + 1) := ((zwr_r e8 (by first | decide | exact (absurd ·.1 (by decide)) | exact (absurd ·.2 (by decide)) | omega)).trans (zwr_v e3))
    have f12 : zfr [60] [35] h h2 := zfr_wf (zfr_r _ _ _) e3 rfl
    have f11 : zfr [60] [35] h h7 := zfr_wa f12 e8 rfl
    exact zj_iret rfl (zdk ttX11_keeps 26 rfl rfl) (Nat.le_refl _) (Nat.le_refl _) ⟨p1, rfl, by omega, s9, f11, by omega, (fun q => absurd q (by omega)), (fun _ => ⟨rfl, by rw [show h.2 0 60 = ((h.2 0 60) + 1) - 1 by omega]; exact zwr_v e8, fun i q => (zwr_r e8 (by first | decide | exact (absurd ·.1 (by decide)) | exact (absurd ·.2 (by decide)) | omega)).trans (zwr_r e3 (by first | decide | exact (absurd ·.1 (by decide)) | exact (absurd ·.2 (by decide)) | omega))⟩)⟩
  · refine zj_aload_n (zdk ttX11_keeps 9 rfl rfl) rfl (by decide) ?_
    refine zj_getr (r := 35) (zdk ttX11_keeps 10 rfl rfl) zf_RX11_117 rfl (k_B s5) (rfB_61 s5) ?_
    refine zj_aload_n (zdk ttX11_keeps 11 rfl rfl) rfl (by decide) ?_
    refine zj_geti (v := ((h.2 0 60) + 1)) (zdk ttX11_keeps 12 rfl rfl) zf_RX11_461 rfl (k_B s5) (zwr_v e3) ?_
    refine zj_iconst (zdk ttX11_keeps 13 rfl rfl) ?_
    refine zj_isub (zdk ttX11_keeps 14 rfl rfl) ?_
    have b13 : -2147483648 ≤ (h.2 35 (((h.2 0 60) + 1) - 1)) ∧ (h.2 35 (((h.2 0 60) + 1) - 1)) ≤ 2147483647 := abB_35 s0 (((h.2 0 60) + 1) - 1)
    refine zj_iald (v := (h.2 35 (((h.2 0 60) + 1) - 1))) (zdk ttX11_keeps 15 rfl rfl) (kaB_35 s5) (by decide) (by omega) (zwr_r e3 (by first | decide | exact (absurd ·.1 (by decide)) | exact (absurd ·.2 (by decide)) | omega)) ?_
    have b14 : h2.2 0 60 = ((h.2 0 60) + 1) := (zwr_v e3)
    have f15 : zfr [60] [35] h h2 := zfr_wf (zfr_r _ _ _) e3 rfl
    exact zj_iret rfl (zdk ttX11_keeps 16 rfl rfl) (Nat.le_refl _) (Nat.le_refl _) ⟨(h.2 35 (((h.2 0 60) + 1) - 1)), rfl, by omega, s5, f15, by omega, (fun _ => ⟨by rw [show (((h.2 0 60) + 1) - 1) = h.2 0 60 by omega], fun i => zwr_r e3 (by first | decide | exact (absurd ·.1 (by decide)) | exact (absurd ·.2 (by decide)) | omega)⟩), (fun q => absurd q (by omega))⟩

abbrev tX11_keepsTold : List (Nat × Instr × Nat) := [(0, .aload_n 0, 1), (1, .aload_n 0, 1), (2, .aload_n 0, 1), (3, .getfield 132, 3), (6, .invokevirtual 467, 3), (9, .putfield 132, 3), (12, .aload_n 0, 1), (13, .aload_n 0, 1), (14, .aload_n 0, 1), (15, .getfield 285, 3), (18, .invokevirtual 467, 3), (21, .putfield 285, 3), (24, .aload_n 0, 1), (25, .aload_n 0, 1), (26, .aload_n 0, 1), (27, .getfield 288, 3), (30, .invokevirtual 467, 3), (33, .putfield 288, 3), (36, .aload_n 0, 1), (37, .aload_n 0, 1), (38, .aload_n 0, 1), (39, .getfield 282, 3), (42, .invokevirtual 467, 3), (45, .putfield 282, 3), (48, .aload_n 0, 1), (49, .aload_n 0, 1), (50, .aload_n 0, 1), (51, .getfield 401, 3), (54, .invokevirtual 467, 3), (57, .putfield 401, 3), (60, .aload_n 0, 1), (61, .aload_n 0, 1), (62, .aload_n 0, 1), (63, .getfield 408, 3), (66, .invokevirtual 467, 3), (69, .putfield 408, 3), (72, .aload_n 0, 1), (73, .aload_n 0, 1), (74, .aload_n 0, 1), (75, .getfield 425, 3), (78, .invokevirtual 467, 3), (81, .putfield 425, 3), (84, .aload_n 0, 1), (85, .aload_n 0, 1), (86, .aload_n 0, 1), (87, .getfield 445, 3), (90, .invokevirtual 467, 3), (93, .putfield 445, 3), (96, .iconst 0, 1), (97, .istore_n 1, 1), (98, .iload_n 1, 1), (99, .bipush 18, 2), (101, .if_icmp .ge 57, 3), (104, .aload_n 0, 1), (105, .getfield 19, 3), (108, .iload_n 1, 1), (109, .aload_n 0, 1), (110, .aload_n 0, 1), (111, .getfield 19, 3), (114, .iload_n 1, 1), (115, .iaload, 1), (116, .invokevirtual 467, 3), (119, .iastore, 1), (120, .aload_n 0, 1), (121, .getfield 22, 3), (124, .iload_n 1, 1), (125, .aload_n 0, 1), (126, .aload_n 0, 1), (127, .getfield 22, 3), (130, .iload_n 1, 1), (131, .iaload, 1), (132, .invokevirtual 467, 3), (135, .iastore, 1), (136, .aload_n 0, 1), (137, .getfield 68, 3), (140, .iload_n 1, 1), (141, .aload_n 0, 1), (142, .aload_n 0, 1), (143, .getfield 68, 3), (146, .iload_n 1, 1), (147, .iaload, 1), (148, .invokevirtual 467, 3), (151, .iastore, 1), (152, .iinc 1 1, 3), (155, .goto (-57), 3), (158, .iconst 0, 1), (159, .istore_n 1, 1), (160, .iload_n 1, 1), (161, .bipush 8, 2), (163, .if_icmp .ge 41, 3), (166, .aload_n 0, 1), (167, .getfield 80, 3), (170, .iload_n 1, 1), (171, .aload_n 0, 1), (172, .aload_n 0, 1), (173, .getfield 80, 3), (176, .iload_n 1, 1), (177, .iaload, 1), (178, .invokevirtual 467, 3), (181, .iastore, 1), (182, .aload_n 0, 1), (183, .getfield 83, 3), (186, .iload_n 1, 1), (187, .aload_n 0, 1), (188, .aload_n 0, 1), (189, .getfield 83, 3), (192, .iload_n 1, 1), (193, .iaload, 1), (194, .invokevirtual 467, 3), (197, .iastore, 1), (198, .iinc 1 1, 3), (201, .goto (-41), 3), (204, .iconst 0, 1), (205, .istore_n 1, 1), (206, .iload_n 1, 1), (207, .bipush 6, 2), (209, .if_icmp .ge 57, 3), (212, .aload_n 0, 1), (213, .getfield 86, 3), (216, .iload_n 1, 1), (217, .aload_n 0, 1), (218, .aload_n 0, 1), (219, .getfield 86, 3), (222, .iload_n 1, 1), (223, .iaload, 1), (224, .invokevirtual 467, 3), (227, .iastore, 1), (228, .aload_n 0, 1), (229, .getfield 105, 3), (232, .iload_n 1, 1), (233, .aload_n 0, 1), (234, .aload_n 0, 1), (235, .getfield 105, 3), (238, .iload_n 1, 1), (239, .iaload, 1), (240, .invokevirtual 467, 3), (243, .iastore, 1), (244, .aload_n 0, 1), (245, .getfield 108, 3), (248, .iload_n 1, 1), (249, .aload_n 0, 1), (250, .aload_n 0, 1), (251, .getfield 108, 3), (254, .iload_n 1, 1), (255, .iaload, 1), (256, .invokevirtual 467, 3), (259, .iastore, 1), (260, .iinc 1 1, 3), (263, .goto (-57), 3), (266, .iconst 0, 1), (267, .istore_n 1, 1), (268, .iload_n 1, 1), (269, .bipush 7, 2), (271, .if_icmp .ge 25, 3), (274, .aload_n 0, 1), (275, .getfield 96, 3), (278, .iload_n 1, 1), (279, .aload_n 0, 1), (280, .aload_n 0, 1), (281, .getfield 96, 3), (284, .iload_n 1, 1), (285, .iaload, 1), (286, .invokevirtual 467, 3), (289, .iastore, 1), (290, .iinc 1 1, 3), (293, .goto (-25), 3), (296, .iconst 0, 1), (297, .istore_n 1, 1), (298, .iload_n 1, 1), (299, .bipush 48, 2), (301, .if_icmp .ge 25, 3), (304, .aload_n 0, 1), (305, .getfield 62, 3), (308, .iload_n 1, 1), (309, .aload_n 0, 1), (310, .aload_n 0, 1), (311, .getfield 62, 3), (314, .iload_n 1, 1), (315, .iaload, 1), (316, .invokevirtual 467, 3), (319, .iastore, 1), (320, .iinc 1 1, 3), (323, .goto (-25), 3), (326, .iconst 0, 1), (327, .istore_n 1, 1), (328, .iload_n 1, 1), (329, .bipush 48, 2), (331, .if_icmp .ge 25, 3), (334, .aload_n 0, 1), (335, .getfield 65, 3), (338, .iload_n 1, 1), (339, .aload_n 0, 1), (340, .aload_n 0, 1), (341, .getfield 65, 3), (344, .iload_n 1, 1), (345, .iaload, 1), (346, .invokevirtual 467, 3), (349, .iastore, 1), (350, .iinc 1 1, 3), (353, .goto (-25), 3), (356, .return_, 1)]
theorem ttX11_keepsTold : zdt cX11_keepsTold tX11_keepsTold = true := by decide +kernel
abbrev q_X11_keepsTold (h : zM) (h0 : zM) : Option zV → zM → Prop := zqv fun h' => okB h' ∧ zfr [6, 33, 35, 37, 42, 45, 49, 53, 60] [4, 5, 17, 18, 19, 23, 24, 25, 28, 31, 32, 35] h h' ∧ (zSt h0 h' 262)
set_option maxRecDepth 100000 in
set_option maxHeartbeats 4000000 in
theorem s_X11_keepsTold (l : Launch) (h : zM) (h0 : zM) (s0 : okB h) (u_0 : zSt h0 h 63) (u_1 : zPI h0) : zT shM l yX11_keepsTold cX11_keepsTold 2 none (rmL 2) 0 0 [.inr 0] h (q_X11_keepsTold h h0) := by
  refine zT_of (by decide +kernel) (L0 := [some (.inr 0), none]) rfl (Nat.le_of_ble_eq_true rfl) ?_
  refine zj_aload_n (zdk ttX11_keepsTold 0 rfl rfl) rfl (by decide) ?_
  refine zj_aload_n (zdk ttX11_keepsTold 1 rfl rfl) rfl (by decide) ?_
  refine zj_aload_n (zdk ttX11_keepsTold 2 rfl rfl) rfl (by decide) ?_
  have b1 : 0 ≤ (h.2 0 6) ∧ (h.2 0 6) ≤ 18 := fB_6 s0
  refine zj_geti (v := (h.2 0 6)) (zdk ttX11_keepsTold 3 rfl rfl) zf_RX11_132 rfl (k_B s0) rfl ?_
  refine zj_callV (av := [.inl (h.2 0 6)]) (st := [.inr 0]) (zdk ttX11_keepsTold 4 rfl rfl) mb_X11_keeps mv_RX11_467 (ci := 11) rfl rfl (k_B s0) rfl rfl (Nat.le_of_ble_eq_true rfl) (s_X11_keeps l h (h.2 0 6) s0 (by omega) (by have := u_0.1; omega)) (rm_ok (by decide) (by decide)) (zq_i fun v3 h4 q2 => ?_)
  obtain ⟨b5, s6, f10, u7, u8, u9⟩ := q2
  refine zj_puti (zdk ttX11_keepsTold 5 rfl rfl) zf_RX11_132 rfl (k_B s6) (Or.inl zw_RX11_132) (k2 := 6) rfl (fun h11 e12 => ?_)
  refine zj_aload_n (zdk ttX11_keepsTold 6 rfl rfl) rfl (by decide) ?_
  refine zj_aload_n (zdk ttX11_keepsTold 7 rfl rfl) rfl (by decide) ?_
  refine zj_aload_n (zdk ttX11_keepsTold 8 rfl rfl) rfl (by decide) ?_
  have b13 : 0 ≤ (h.2 0 33) ∧ (h.2 0 33) ≤ 16 := fB_33 s0
  have z15r : h.2 0 6 = (h.2 0 6) := rfl
  have z15l : zloc (63) = (0, 6) := (zl_f6 (by omega))
  have z15 : zSt h0 h11 (63 + 1) := zSt_step u_0 (by omega) z15l f10 u7 u8 z15r u9 e12
  have s14 : okB h11 := okB_w s6 e12 (zSt_pm u_0 (by omega) z15l s0 u_1 u8 z15r u9)
  refine zj_geti (v := (h.2 0 33)) (zdk ttX11_keepsTold 9 rfl rfl) zf_RX11_285 rfl (k_B s14) ((zwr_r e12 (by first | decide | exact (absurd ·.1 (by decide)) | exact (absurd ·.2 (by decide)) | omega)).trans (zfr_f f10 rfl rfl)) ?_
  refine zj_callV (av := [.inl (h.2 0 33)]) (st := [.inr 0]) (zdk ttX11_keepsTold 10 rfl rfl) mb_X11_keeps mv_RX11_467 (ci := 11) rfl rfl (k_B s14) rfl rfl (Nat.le_of_ble_eq_true rfl) (s_X11_keeps l h11 (h.2 0 33) s14 (by omega) (by have := z15.1; omega)) (rm_ok (by decide) (by decide)) (zq_i fun v17 h18 q16 => ?_)
  obtain ⟨b19, s20, f24, u21, u22, u23⟩ := q16
  refine zj_puti (zdk ttX11_keepsTold 11 rfl rfl) zf_RX11_285 rfl (k_B s20) (Or.inl zw_RX11_285) (k2 := 33) rfl (fun h25 e26 => ?_)
  refine zj_aload_n (zdk ttX11_keepsTold 12 rfl rfl) rfl (by decide) ?_
  refine zj_aload_n (zdk ttX11_keepsTold 13 rfl rfl) rfl (by decide) ?_
  refine zj_aload_n (zdk ttX11_keepsTold 14 rfl rfl) rfl (by decide) ?_
  have b27 : 0 ≤ (h.2 0 35) ∧ (h.2 0 35) ≤ 16 := fB_35 s0
  have z29r : h11.2 0 33 = (h.2 0 33) := ((zwr_r e12 (by first | decide | exact (absurd ·.1 (by decide)) | exact (absurd ·.2 (by decide)) | omega)).trans (zfr_f f10 rfl rfl))
  have z29l : zloc (63 + 1) = (0, 33) := (zl_f33 (by omega))
  have z29 : zSt h0 h25 (63 + 1 + 1) := zSt_step z15 (by omega) z29l f24 u21 u22 z29r u23 e26
  have s28 : okB h25 := okB_w s20 e26 (zSt_pm z15 (by omega) z29l s14 u_1 u22 z29r u23)
  refine zj_geti (v := (h.2 0 35)) (zdk ttX11_keepsTold 15 rfl rfl) zf_RX11_288 rfl (k_B s28) ((((zwr_r e26 (by first | decide | exact (absurd ·.1 (by decide)) | exact (absurd ·.2 (by decide)) | omega)).trans (zfr_f f24 rfl rfl)).trans (zwr_r e12 (by first | decide | exact (absurd ·.1 (by decide)) | exact (absurd ·.2 (by decide)) | omega))).trans (zfr_f f10 rfl rfl)) ?_
  refine zj_callV (av := [.inl (h.2 0 35)]) (st := [.inr 0]) (zdk ttX11_keepsTold 16 rfl rfl) mb_X11_keeps mv_RX11_467 (ci := 11) rfl rfl (k_B s28) rfl rfl (Nat.le_of_ble_eq_true rfl) (s_X11_keeps l h25 (h.2 0 35) s28 (by omega) (by have := z29.1; omega)) (rm_ok (by decide) (by decide)) (zq_i fun v31 h32 q30 => ?_)
  obtain ⟨b33, s34, f38, u35, u36, u37⟩ := q30
  refine zj_puti (zdk ttX11_keepsTold 17 rfl rfl) zf_RX11_288 rfl (k_B s34) (Or.inl zw_RX11_288) (k2 := 35) rfl (fun h39 e40 => ?_)
  refine zj_aload_n (zdk ttX11_keepsTold 18 rfl rfl) rfl (by decide) ?_
  refine zj_aload_n (zdk ttX11_keepsTold 19 rfl rfl) rfl (by decide) ?_
  refine zj_aload_n (zdk ttX11_keepsTold 20 rfl rfl) rfl (by decide) ?_
  have b41 : -2147483648 ≤ (h.2 0 37) ∧ (h.2 0 37) ≤ 2147483647 := fB_37 s0
  have z43r : h25.2 0 35 = (h.2 0 35) := ((((zwr_r e26 (by first | decide | exact (absurd ·.1 (by decide)) | exact (absurd ·.2 (by decide)) | omega)).trans (zfr_f f24 rfl rfl)).trans (zwr_r e12 (by first | decide | exact (absurd ·.1 (by decide)) | exact (absurd ·.2 (by decide)) | omega))).trans (zfr_f f10 rfl rfl))
  have z43l : zloc (63 + 1 + 1) = (0, 35) := (zl_f35 (by omega))
  have z43 : zSt h0 h39 (63 + 1 + 1 + 1) := zSt_step z29 (by omega) z43l f38 u35 u36 z43r u37 e40
  have s42 : okB h39 := okB_w s34 e40 (zSt_pm z29 (by omega) z43l s28 u_1 u36 z43r u37)
  refine zj_geti (v := (h.2 0 37)) (zdk ttX11_keepsTold 21 rfl rfl) zf_RX11_282 rfl (k_B s42) ((((((zwr_r e40 (by first | decide | exact (absurd ·.1 (by decide)) | exact (absurd ·.2 (by decide)) | omega)).trans (zfr_f f38 rfl rfl)).trans (zwr_r e26 (by first | decide | exact (absurd ·.1 (by decide)) | exact (absurd ·.2 (by decide)) | omega))).trans (zfr_f f24 rfl rfl)).trans (zwr_r e12 (by first | decide | exact (absurd ·.1 (by decide)) | exact (absurd ·.2 (by decide)) | omega))).trans (zfr_f f10 rfl rfl)) ?_
  refine zj_callV (av := [.inl (h.2 0 37)]) (st := [.inr 0]) (zdk ttX11_keepsTold 22 rfl rfl) mb_X11_keeps mv_RX11_467 (ci := 11) rfl rfl (k_B s42) rfl rfl (Nat.le_of_ble_eq_true rfl) (s_X11_keeps l h39 (h.2 0 37) s42 (by omega) (by have := z43.1; omega)) (rm_ok (by decide) (by decide)) (zq_i fun v45 h46 q44 => ?_)
  obtain ⟨b47, s48, f52, u49, u50, u51⟩ := q44
  refine zj_puti (zdk ttX11_keepsTold 23 rfl rfl) zf_RX11_282 rfl (k_B s48) (Or.inl zw_RX11_282) (k2 := 37) rfl (fun h53 e54 => ?_)
  refine zj_aload_n (zdk ttX11_keepsTold 24 rfl rfl) rfl (by decide) ?_
  refine zj_aload_n (zdk ttX11_keepsTold 25 rfl rfl) rfl (by decide) ?_
  refine zj_aload_n (zdk ttX11_keepsTold 26 rfl rfl) rfl (by decide) ?_
  have b55 : 0 ≤ (h.2 0 42) ∧ (h.2 0 42) ≤ 5 := fB_42 s0
  have z57r : h39.2 0 37 = (h.2 0 37) := ((((((zwr_r e40 (by first | decide | exact (absurd ·.1 (by decide)) | exact (absurd ·.2 (by decide)) | omega)).trans (zfr_f f38 rfl rfl)).trans (zwr_r e26 (by first | decide | exact (absurd ·.1 (by decide)) | exact (absurd ·.2 (by decide)) | omega))).trans (zfr_f f24 rfl rfl)).trans (zwr_r e12 (by first | decide | exact (absurd ·.1 (by decide)) | exact (absurd ·.2 (by decide)) | omega))).trans (zfr_f f10 rfl rfl))
  have z57l : zloc (63 + 1 + 1 + 1) = (0, 37) := (zl_f37 (by omega))
  have z57 : zSt h0 h53 (63 + 1 + 1 + 1 + 1) := zSt_step z43 (by omega) z57l f52 u49 u50 z57r u51 e54
  have s56 : okB h53 := okB_w s48 e54 (zSt_pm z43 (by omega) z57l s42 u_1 u50 z57r u51)
  refine zj_geti (v := (h.2 0 42)) (zdk ttX11_keepsTold 27 rfl rfl) zf_RX11_401 rfl (k_B s56) ((((((((zwr_r e54 (by first | decide | exact (absurd ·.1 (by decide)) | exact (absurd ·.2 (by decide)) | omega)).trans (zfr_f f52 rfl rfl)).trans (zwr_r e40 (by first | decide | exact (absurd ·.1 (by decide)) | exact (absurd ·.2 (by decide)) | omega))).trans (zfr_f f38 rfl rfl)).trans (zwr_r e26 (by first | decide | exact (absurd ·.1 (by decide)) | exact (absurd ·.2 (by decide)) | omega))).trans (zfr_f f24 rfl rfl)).trans (zwr_r e12 (by first | decide | exact (absurd ·.1 (by decide)) | exact (absurd ·.2 (by decide)) | omega))).trans (zfr_f f10 rfl rfl)) ?_
  refine zj_callV (av := [.inl (h.2 0 42)]) (st := [.inr 0]) (zdk ttX11_keepsTold 28 rfl rfl) mb_X11_keeps mv_RX11_467 (ci := 11) rfl rfl (k_B s56) rfl rfl (Nat.le_of_ble_eq_true rfl) (s_X11_keeps l h53 (h.2 0 42) s56 (by omega) (by have := z57.1; omega)) (rm_ok (by decide) (by decide)) (zq_i fun v59 h60 q58 => ?_)
  obtain ⟨b61, s62, f66, u63, u64, u65⟩ := q58
  refine zj_puti (zdk ttX11_keepsTold 29 rfl rfl) zf_RX11_401 rfl (k_B s62) (Or.inl zw_RX11_401) (k2 := 42) rfl (fun h67 e68 => ?_)
  refine zj_aload_n (zdk ttX11_keepsTold 30 rfl rfl) rfl (by decide) ?_
  refine zj_aload_n (zdk ttX11_keepsTold 31 rfl rfl) rfl (by decide) ?_
  refine zj_aload_n (zdk ttX11_keepsTold 32 rfl rfl) rfl (by decide) ?_
  have b69 : -2147483648 ≤ (h.2 0 45) ∧ (h.2 0 45) ≤ 2147483647 := fB_45 s0
  have z71r : h53.2 0 42 = (h.2 0 42) := ((((((((zwr_r e54 (by first | decide | exact (absurd ·.1 (by decide)) | exact (absurd ·.2 (by decide)) | omega)).trans (zfr_f f52 rfl rfl)).trans (zwr_r e40 (by first | decide | exact (absurd ·.1 (by decide)) | exact (absurd ·.2 (by decide)) | omega))).trans (zfr_f f38 rfl rfl)).trans (zwr_r e26 (by first | decide | exact (absurd ·.1 (by decide)) | exact (absurd ·.2 (by decide)) | omega))).trans (zfr_f f24 rfl rfl)).trans (zwr_r e12 (by first | decide | exact (absurd ·.1 (by decide)) | exact (absurd ·.2 (by decide)) | omega))).trans (zfr_f f10 rfl rfl))
  have z71l : zloc (63 + 1 + 1 + 1 + 1) = (0, 42) := (zl_f42 (by omega))
  have z71 : zSt h0 h67 (63 + 1 + 1 + 1 + 1 + 1) := zSt_step z57 (by omega) z71l f66 u63 u64 z71r u65 e68
  have s70 : okB h67 := okB_w s62 e68 (zSt_pm z57 (by omega) z71l s56 u_1 u64 z71r u65)
  refine zj_geti (v := (h.2 0 45)) (zdk ttX11_keepsTold 33 rfl rfl) zf_RX11_408 rfl (k_B s70) ((((((((((zwr_r e68 (by first | decide | exact (absurd ·.1 (by decide)) | exact (absurd ·.2 (by decide)) | omega)).trans (zfr_f f66 rfl rfl)).trans (zwr_r e54 (by first | decide | exact (absurd ·.1 (by decide)) | exact (absurd ·.2 (by decide)) | omega))).trans (zfr_f f52 rfl rfl)).trans (zwr_r e40 (by first | decide | exact (absurd ·.1 (by decide)) | exact (absurd ·.2 (by decide)) | omega))).trans (zfr_f f38 rfl rfl)).trans (zwr_r e26 (by first | decide | exact (absurd ·.1 (by decide)) | exact (absurd ·.2 (by decide)) | omega))).trans (zfr_f f24 rfl rfl)).trans (zwr_r e12 (by first | decide | exact (absurd ·.1 (by decide)) | exact (absurd ·.2 (by decide)) | omega))).trans (zfr_f f10 rfl rfl)) ?_
  refine zj_callV (av := [.inl (h.2 0 45)]) (st := [.inr 0]) (zdk ttX11_keepsTold 34 rfl rfl) mb_X11_keeps mv_RX11_467 (ci := 11) rfl rfl (k_B s70) rfl rfl (Nat.le_of_ble_eq_true rfl) (s_X11_keeps l h67 (h.2 0 45) s70 (by omega) (by have := z71.1; omega)) (rm_ok (by decide) (by decide)) (zq_i fun v73 h74 q72 => ?_)
  obtain ⟨b75, s76, f80, u77, u78, u79⟩ := q72
  refine zj_puti (zdk ttX11_keepsTold 35 rfl rfl) zf_RX11_408 rfl (k_B s76) (Or.inl zw_RX11_408) (k2 := 45) rfl (fun h81 e82 => ?_)
  refine zj_aload_n (zdk ttX11_keepsTold 36 rfl rfl) rfl (by decide) ?_
  refine zj_aload_n (zdk ttX11_keepsTold 37 rfl rfl) rfl (by decide) ?_
  refine zj_aload_n (zdk ttX11_keepsTold 38 rfl rfl) rfl (by decide) ?_
  have b83 : 0 ≤ (h.2 0 49) ∧ (h.2 0 49) ≤ 7 := fB_49 s0
  have z85r : h67.2 0 45 = (h.2 0 45) := ((((((((((zwr_r e68 (by first | decide | exact (absurd ·.1 (by decide)) | exact (absurd ·.2 (by decide)) | omega)).trans (zfr_f f66 rfl rfl)).trans (zwr_r e54 (by first | decide | exact (absurd ·.1 (by decide)) | exact (absurd ·.2 (by decide)) | omega))).trans (zfr_f f52 rfl rfl)).trans (zwr_r e40 (by first | decide | exact (absurd ·.1 (by decide)) | exact (absurd ·.2 (by decide)) | omega))).trans (zfr_f f38 rfl rfl)).trans (zwr_r e26 (by first | decide | exact (absurd ·.1 (by decide)) | exact (absurd ·.2 (by decide)) | omega))).trans (zfr_f f24 rfl rfl)).trans (zwr_r e12 (by first | decide | exact (absurd ·.1 (by decide)) | exact (absurd ·.2 (by decide)) | omega))).trans (zfr_f f10 rfl rfl))
  have z85l : zloc (63 + 1 + 1 + 1 + 1 + 1) = (0, 45) := (zl_f45 (by omega))
  have z85 : zSt h0 h81 (63 + 1 + 1 + 1 + 1 + 1 + 1) := zSt_step z71 (by omega) z85l f80 u77 u78 z85r u79 e82
  have s84 : okB h81 := okB_w s76 e82 (zSt_pm z71 (by omega) z85l s70 u_1 u78 z85r u79)
  refine zj_geti (v := (h.2 0 49)) (zdk ttX11_keepsTold 39 rfl rfl) zf_RX11_425 rfl (k_B s84) ((((((((((((zwr_r e82 (by first | decide | exact (absurd ·.1 (by decide)) | exact (absurd ·.2 (by decide)) | omega)).trans (zfr_f f80 rfl rfl)).trans (zwr_r e68 (by first | decide | exact (absurd ·.1 (by decide)) | exact (absurd ·.2 (by decide)) | omega))).trans (zfr_f f66 rfl rfl)).trans (zwr_r e54 (by first | decide | exact (absurd ·.1 (by decide)) | exact (absurd ·.2 (by decide)) | omega))).trans (zfr_f f52 rfl rfl)).trans (zwr_r e40 (by first | decide | exact (absurd ·.1 (by decide)) | exact (absurd ·.2 (by decide)) | omega))).trans (zfr_f f38 rfl rfl)).trans (zwr_r e26 (by first | decide | exact (absurd ·.1 (by decide)) | exact (absurd ·.2 (by decide)) | omega))).trans (zfr_f f24 rfl rfl)).trans (zwr_r e12 (by first | decide | exact (absurd ·.1 (by decide)) | exact (absurd ·.2 (by decide)) | omega))).trans (zfr_f f10 rfl rfl)) ?_
  refine zj_callV (av := [.inl (h.2 0 49)]) (st := [.inr 0]) (zdk ttX11_keepsTold 40 rfl rfl) mb_X11_keeps mv_RX11_467 (ci := 11) rfl rfl (k_B s84) rfl rfl (Nat.le_of_ble_eq_true rfl) (s_X11_keeps l h81 (h.2 0 49) s84 (by omega) (by have := z85.1; omega)) (rm_ok (by decide) (by decide)) (zq_i fun v87 h88 q86 => ?_)
  obtain ⟨b89, s90, f94, u91, u92, u93⟩ := q86
  refine zj_puti (zdk ttX11_keepsTold 41 rfl rfl) zf_RX11_425 rfl (k_B s90) (Or.inl zw_RX11_425) (k2 := 49) rfl (fun h95 e96 => ?_)
  refine zj_aload_n (zdk ttX11_keepsTold 42 rfl rfl) rfl (by decide) ?_
  refine zj_aload_n (zdk ttX11_keepsTold 43 rfl rfl) rfl (by decide) ?_
  refine zj_aload_n (zdk ttX11_keepsTold 44 rfl rfl) rfl (by decide) ?_
  have b97 : 0 ≤ (h.2 0 53) ∧ (h.2 0 53) ≤ 6 := fB_53 s0
  have z99r : h81.2 0 49 = (h.2 0 49) := ((((((((((((zwr_r e82 (by first | decide | exact (absurd ·.1 (by decide)) | exact (absurd ·.2 (by decide)) | omega)).trans (zfr_f f80 rfl rfl)).trans (zwr_r e68 (by first | decide | exact (absurd ·.1 (by decide)) | exact (absurd ·.2 (by decide)) | omega))).trans (zfr_f f66 rfl rfl)).trans (zwr_r e54 (by first | decide | exact (absurd ·.1 (by decide)) | exact (absurd ·.2 (by decide)) | omega))).trans (zfr_f f52 rfl rfl)).trans (zwr_r e40 (by first | decide | exact (absurd ·.1 (by decide)) | exact (absurd ·.2 (by decide)) | omega))).trans (zfr_f f38 rfl rfl)).trans (zwr_r e26 (by first | decide | exact (absurd ·.1 (by decide)) | exact (absurd ·.2 (by decide)) | omega))).trans (zfr_f f24 rfl rfl)).trans (zwr_r e12 (by first | decide | exact (absurd ·.1 (by decide)) | exact (absurd ·.2 (by decide)) | omega))).trans (zfr_f f10 rfl rfl))
  have z99l : zloc (63 + 1 + 1 + 1 + 1 + 1 + 1) = (0, 49) := (zl_f49 (by omega))
  have z99 : zSt h0 h95 (63 + 1 + 1 + 1 + 1 + 1 + 1 + 1) := zSt_step z85 (by omega) z99l f94 u91 u92 z99r u93 e96
  have s98 : okB h95 := okB_w s90 e96 (zSt_pm z85 (by omega) z99l s84 u_1 u92 z99r u93)
  refine zj_geti (v := (h.2 0 53)) (zdk ttX11_keepsTold 45 rfl rfl) zf_RX11_445 rfl (k_B s98) ((((((((((((((zwr_r e96 (by first | decide | exact (absurd ·.1 (by decide)) | exact (absurd ·.2 (by decide)) | omega)).trans (zfr_f f94 rfl rfl)).trans (zwr_r e82 (by first | decide | exact (absurd ·.1 (by decide)) | exact (absurd ·.2 (by decide)) | omega))).trans (zfr_f f80 rfl rfl)).trans (zwr_r e68 (by first | decide | exact (absurd ·.1 (by decide)) | exact (absurd ·.2 (by decide)) | omega))).trans (zfr_f f66 rfl rfl)).trans (zwr_r e54 (by first | decide | exact (absurd ·.1 (by decide)) | exact (absurd ·.2 (by decide)) | omega))).trans (zfr_f f52 rfl rfl)).trans (zwr_r e40 (by first | decide | exact (absurd ·.1 (by decide)) | exact (absurd ·.2 (by decide)) | omega))).trans (zfr_f f38 rfl rfl)).trans (zwr_r e26 (by first | decide | exact (absurd ·.1 (by decide)) | exact (absurd ·.2 (by decide)) | omega))).trans (zfr_f f24 rfl rfl)).trans (zwr_r e12 (by first | decide | exact (absurd ·.1 (by decide)) | exact (absurd ·.2 (by decide)) | omega))).trans (zfr_f f10 rfl rfl)) ?_
  refine zj_callV (av := [.inl (h.2 0 53)]) (st := [.inr 0]) (zdk ttX11_keepsTold 46 rfl rfl) mb_X11_keeps mv_RX11_467 (ci := 11) rfl rfl (k_B s98) rfl rfl (Nat.le_of_ble_eq_true rfl) (s_X11_keeps l h95 (h.2 0 53) s98 (by omega) (by have := z99.1; omega)) (rm_ok (by decide) (by decide)) (zq_i fun v101 h102 q100 => ?_)
  obtain ⟨b103, s104, f108, u105, u106, u107⟩ := q100
  refine zj_puti (zdk ttX11_keepsTold 47 rfl rfl) zf_RX11_445 rfl (k_B s104) (Or.inl zw_RX11_445) (k2 := 53) rfl (fun h109 e110 => ?_)
  refine zj_iconst (zdk ttX11_keepsTold 48 rfl rfl) ?_
  refine zj_istore_n (L' := [some (.inr 0), some (.inl 0)]) (zdk ttX11_keepsTold 49 rfl rfl) (by decide) rfl ?_
  have lp566 : ∀ (n98 : Nat) (x111 : Int) (h112 : zM), (0 ≤ x111 ∧ x111 ≤ 18) → okB h112 → zfr [6, 33, 35, 37, 42, 45, 49, 53, 60] [4, 5, 17, 18, 19, 23, 24, 25, 28, 31, 32, 35] h h112 → (zSt h0 h112 (71 + 3 * x111)) → (19 - x111).toNat < n98 → zJ shM l yX11_keepsTold cX11_keepsTold 2 none (rmL 2) 0 0 (q_X11_keepsTold h h0) 0 0 98 [some (.inr 0), some (.inl x111)] [] h112 := by
    intro n98
    induction n98 with
    | zero => intro x111 h112 b567 s113 f114 u568 m569; exact absurd m569 (Nat.not_lt_zero _)
    | succ n98 ih570 =>
      intro x111 h112 b567 s113 f114 u568 m569
      refine zj_iload_n (zdk ttX11_keepsTold 50 rfl rfl) rfl ?_
      refine zj_bipush (zdk ttX11_keepsTold 51 rfl rfl) (by decide) ?_
      refine zj_icmp_ge (t := 158) (zdk ttX11_keepsTold 52 rfl rfl) (by decide) (by omega) (by decide) (fun c571 => ?_) (fun c571 => ?_)
      · refine zj_iconst (zdk ttX11_keepsTold 85 rfl rfl) ?_
        refine zj_istore_n (L' := [some (.inr 0), some (.inl 0)]) (zdk ttX11_keepsTold 86 rfl rfl) (by decide) rfl ?_
        have lp765 : ∀ (n160 : Nat) (x572 : Int) (h573 : zM), (0 ≤ x572 ∧ x572 ≤ 8) → okB h573 → zfr [6, 33, 35, 37, 42, 45, 49, 53, 60] [4, 5, 17, 18, 19, 23, 24, 25, 28, 31, 32, 35] h h573 → (zSt h0 h573 (125 + 2 * x572)) → (9 - x572).toNat < n160 → zJ shM l yX11_keepsTold cX11_keepsTold 2 none (rmL 2) 0 0 (q_X11_keepsTold h h0) 0 0 160 [some (.inr 0), some (.inl x572)] [] h573 := by
          intro n160
          induction n160 with
          | zero => intro x572 h573 b766 s574 f575 u767 m768; exact absurd m768 (Nat.not_lt_zero _)
          | succ n160 ih769 =>
            intro x572 h573 b766 s574 f575 u767 m768
            refine zj_iload_n (zdk ttX11_keepsTold 87 rfl rfl) rfl ?_
            refine zj_bipush (zdk ttX11_keepsTold 88 rfl rfl) (by decide) ?_
            refine zj_icmp_ge (t := 204) (zdk ttX11_keepsTold 89 rfl rfl) (by decide) (by omega) (by decide) (fun c770 => ?_) (fun c770 => ?_)
            · refine zj_iconst (zdk ttX11_keepsTold 112 rfl rfl) ?_
              refine zj_istore_n (L' := [some (.inr 0), some (.inl 0)]) (zdk ttX11_keepsTold 113 rfl rfl) (by decide) rfl ?_
              have lp980 : ∀ (n206 : Nat) (x771 : Int) (h772 : zM), (0 ≤ x771 ∧ x771 ≤ 6) → okB h772 → zfr [6, 33, 35, 37, 42, 45, 49, 53, 60] [4, 5, 17, 18, 19, 23, 24, 25, 28, 31, 32, 35] h h772 → (zSt h0 h772 (141 + 3 * x771)) → (7 - x771).toNat < n206 → zJ shM l yX11_keepsTold cX11_keepsTold 2 none (rmL 2) 0 0 (q_X11_keepsTold h h0) 0 0 206 [some (.inr 0), some (.inl x771)] [] h772 := by
                intro n206
                induction n206 with
                | zero => intro x771 h772 b981 s773 f774 u982 m983; exact absurd m983 (Nat.not_lt_zero _)
                | succ n206 ih984 =>
                  intro x771 h772 b981 s773 f774 u982 m983
                  refine zj_iload_n (zdk ttX11_keepsTold 114 rfl rfl) rfl ?_
                  refine zj_bipush (zdk ttX11_keepsTold 115 rfl rfl) (by decide) ?_
                  refine zj_icmp_ge (t := 266) (zdk ttX11_keepsTold 116 rfl rfl) (by decide) (by omega) (by decide) (fun c985 => ?_) (fun c985 => ?_)
                  · refine zj_iconst (zdk ttX11_keepsTold 149 rfl rfl) ?_
                    refine zj_istore_n (L' := [some (.inr 0), some (.inl 0)]) (zdk ttX11_keepsTold 150 rfl rfl) (by decide) rfl ?_
                    have lp1068 : ∀ (n268 : Nat) (x986 : Int) (h987 : zM), (0 ≤ x986 ∧ x986 ≤ 7) → okB h987 → zfr [6, 33, 35, 37, 42, 45, 49, 53, 60] [4, 5, 17, 18, 19, 23, 24, 25, 28, 31, 32, 35] h h987 → (zSt h0 h987 (159 + x986)) → (8 - x986).toNat < n268 → zJ shM l yX11_keepsTold cX11_keepsTold 2 none (rmL 2) 0 0 (q_X11_keepsTold h h0) 0 0 268 [some (.inr 0), some (.inl x986)] [] h987 := by
                      intro n268
                      induction n268 with
                      | zero => intro x986 h987 b1069 s988 f989 u1070 m1071; exact absurd m1071 (Nat.not_lt_zero _)
                      | succ n268 ih1072 =>
                        intro x986 h987 b1069 s988 f989 u1070 m1071
                        refine zj_iload_n (zdk ttX11_keepsTold 151 rfl rfl) rfl ?_
                        refine zj_bipush (zdk ttX11_keepsTold 152 rfl rfl) (by decide) ?_
                        refine zj_icmp_ge (t := 296) (zdk ttX11_keepsTold 153 rfl rfl) (by decide) (by omega) (by decide) (fun c1073 => ?_) (fun c1073 => ?_)
                        · refine zj_iconst (zdk ttX11_keepsTold 166 rfl rfl) ?_
                          refine zj_istore_n (L' := [some (.inr 0), some (.inl 0)]) (zdk ttX11_keepsTold 167 rfl rfl) (by decide) rfl ?_
                          have lp1221 : ∀ (n298 : Nat) (x1074 : Int) (h1075 : zM), (0 ≤ x1074 ∧ x1074 ≤ 48) → okB h1075 → zfr [6, 33, 35, 37, 42, 45, 49, 53, 60] [4, 5, 17, 18, 19, 23, 24, 25, 28, 31, 32, 35] h h1075 → (zSt h0 h1075 (166 + x1074)) → (49 - x1074).toNat < n298 → zJ shM l yX11_keepsTold cX11_keepsTold 2 none (rmL 2) 0 0 (q_X11_keepsTold h h0) 0 0 298 [some (.inr 0), some (.inl x1074)] [] h1075 := by
                            intro n298
                            induction n298 with
                            | zero => intro x1074 h1075 b1222 s1076 f1077 u1223 m1224; exact absurd m1224 (Nat.not_lt_zero _)
                            | succ n298 ih1225 =>
                              intro x1074 h1075 b1222 s1076 f1077 u1223 m1224
                              refine zj_iload_n (zdk ttX11_keepsTold 168 rfl rfl) rfl ?_
                              refine zj_bipush (zdk ttX11_keepsTold 169 rfl rfl) (by decide) ?_
                              refine zj_icmp_ge (t := 326) (zdk ttX11_keepsTold 170 rfl rfl) (by decide) (by omega) (by decide) (fun c1226 => ?_) (fun c1226 => ?_)
                              · refine zj_iconst (zdk ttX11_keepsTold 183 rfl rfl) ?_
                                refine zj_istore_n (L' := [some (.inr 0), some (.inl 0)]) (zdk ttX11_keepsTold 184 rfl rfl) (by decide) rfl ?_
                                have lp1374 : ∀ (n328 : Nat) (x1227 : Int) (h1228 : zM), (0 ≤ x1227 ∧ x1227 ≤ 48) → okB h1228 → zfr [6, 33, 35, 37, 42, 45, 49, 53, 60] [4, 5, 17, 18, 19, 23, 24, 25, 28, 31, 32, 35] h h1228 → (zSt h0 h1228 (214 + x1227)) → (49 - x1227).toNat < n328 → zJ shM l yX11_keepsTold cX11_keepsTold 2 none (rmL 2) 0 0 (q_X11_keepsTold h h0) 0 0 328 [some (.inr 0), some (.inl x1227)] [] h1228 := by
                                  intro n328
                                  induction n328 with
                                  | zero => intro x1227 h1228 b1375 s1229 f1230 u1376 m1377; exact absurd m1377 (Nat.not_lt_zero _)
                                  | succ n328 ih1378 =>
                                    intro x1227 h1228 b1375 s1229 f1230 u1376 m1377
                                    refine zj_iload_n (zdk ttX11_keepsTold 185 rfl rfl) rfl ?_
                                    refine zj_bipush (zdk ttX11_keepsTold 186 rfl rfl) (by decide) ?_
                                    refine zj_icmp_ge (t := 356) (zdk ttX11_keepsTold 187 rfl rfl) (by decide) (by omega) (by decide) (fun c1379 => ?_) (fun c1379 => ?_)
                                    · exact zj_vret rfl (zdk ttX11_keepsTold 200 rfl rfl) (Nat.le_refl _) (Nat.le_refl _) ⟨rfl, s1229, f1230, (zSt_j u1376 (by omega))⟩
                                    · refine zj_aload_n (zdk ttX11_keepsTold 188 rfl rfl) rfl (by decide) ?_
                                      refine zj_getr (r := 18) (zdk ttX11_keepsTold 189 rfl rfl) zf_RX11_65 rfl (k_B s1229) (rfB_36 s1229) ?_
                                      refine zj_iload_n (zdk ttX11_keepsTold 190 rfl rfl) rfl ?_
                                      refine zj_aload_n (zdk ttX11_keepsTold 191 rfl rfl) rfl (by decide) ?_
                                      refine zj_aload_n (zdk ttX11_keepsTold 192 rfl rfl) rfl (by decide) ?_
                                      refine zj_getr (r := 18) (zdk ttX11_keepsTold 193 rfl rfl) zf_RX11_65 rfl (k_B s1229) (rfB_36 s1229) ?_
                                      refine zj_iload_n (zdk ttX11_keepsTold 194 rfl rfl) rfl ?_
                                      have b1380 : -2147483648 ≤ (h1228.2 18 x1227) ∧ (h1228.2 18 x1227) ≤ 2147483647 := abB_18 s1229 x1227
                                      refine zj_iald (v := (h1228.2 18 x1227)) (zdk ttX11_keepsTold 195 rfl rfl) (kaB_18 s1229) (by decide) (by omega) rfl ?_
                                      refine zj_callV (av := [.inl (h1228.2 18 x1227)]) (st := [.inl x1227, .inr 18]) (zdk ttX11_keepsTold 196 rfl rfl) mb_X11_keeps mv_RX11_467 (ci := 11) rfl rfl (k_B s1229) rfl rfl (Nat.le_of_ble_eq_true rfl) (s_X11_keeps l h1228 (h1228.2 18 x1227) s1229 (by omega) (by have := u1376.1; omega)) (rm_ok (by decide) (by decide)) (zq_i fun v1382 h1383 q1381 => ?_)
                                      obtain ⟨b1384, s1385, f1389, u1386, u1387, u1388⟩ := q1381
                                      refine zj_iast (zdk ttX11_keepsTold 197 rfl rfl) (kaB_18 s1385) (by decide) (by omega) (fun h1390 e1391 => ?_)
                                      refine zj_iinc (L' := [some (.inr 0), some (.inl (x1227 + 1))]) (zdk ttX11_keepsTold 198 rfl rfl) rfl (by decide) rfl ?_
                                      refine zj_goto (t := 328) (zdk ttX11_keepsTold 199 rfl rfl) (by decide) ?_
                                      have z1393r : h1228.2 18 x1227 = (h1228.2 18 x1227) := rfl
                                      have z1393l : zloc (214 + x1227) = (18, x1227) := (zl_18 (by omega) (by omega))
                                      have z1393 : zSt h0 h1390 (214 + x1227 + 1) := zSt_step u1376 (by omega) z1393l f1389 u1386 u1387 z1393r u1388 e1391
                                      have s1392 : okB h1390 := okB_w s1385 e1391 (zSt_pm u1376 (by omega) z1393l s1229 u_1 u1387 z1393r u1388)
                                      have f1395 : zfr [6, 33, 35, 37, 42, 45, 49, 53, 60] [4, 5, 17, 18, 19, 23, 24, 25, 28, 31, 32, 35] h h1383 := zfr_t f1230 f1389 rfl rfl
                                      have f1394 : zfr [6, 33, 35, 37, 42, 45, 49, 53, 60] [4, 5, 17, 18, 19, 23, 24, 25, 28, 31, 32, 35] h h1390 := zfr_wa f1395 e1391 rfl
                                      exact ih1378  (x1227 + 1) h1390 (by omega) s1392 f1394 (zSt_j z1393 (by omega)) (by omega)
                                exact lp1374 _ 0 h1075 (by omega) s1076 f1077 (zSt_j u1223 (by omega)) (Nat.lt_succ_self _)
                              · refine zj_aload_n (zdk ttX11_keepsTold 171 rfl rfl) rfl (by decide) ?_
                                refine zj_getr (r := 17) (zdk ttX11_keepsTold 172 rfl rfl) zf_RX11_62 rfl (k_B s1076) (rfB_34 s1076) ?_
                                refine zj_iload_n (zdk ttX11_keepsTold 173 rfl rfl) rfl ?_
                                refine zj_aload_n (zdk ttX11_keepsTold 174 rfl rfl) rfl (by decide) ?_
                                refine zj_aload_n (zdk ttX11_keepsTold 175 rfl rfl) rfl (by decide) ?_
                                refine zj_getr (r := 17) (zdk ttX11_keepsTold 176 rfl rfl) zf_RX11_62 rfl (k_B s1076) (rfB_34 s1076) ?_
                                refine zj_iload_n (zdk ttX11_keepsTold 177 rfl rfl) rfl ?_
                                have b1396 : -2147483648 ≤ (h1075.2 17 x1074) ∧ (h1075.2 17 x1074) ≤ 2147483647 := abB_17 s1076 x1074
                                refine zj_iald (v := (h1075.2 17 x1074)) (zdk ttX11_keepsTold 178 rfl rfl) (kaB_17 s1076) (by decide) (by omega) rfl ?_
                                refine zj_callV (av := [.inl (h1075.2 17 x1074)]) (st := [.inl x1074, .inr 17]) (zdk ttX11_keepsTold 179 rfl rfl) mb_X11_keeps mv_RX11_467 (ci := 11) rfl rfl (k_B s1076) rfl rfl (Nat.le_of_ble_eq_true rfl) (s_X11_keeps l h1075 (h1075.2 17 x1074) s1076 (by omega) (by have := u1223.1; omega)) (rm_ok (by decide) (by decide)) (zq_i fun v1398 h1399 q1397 => ?_)
                                obtain ⟨b1400, s1401, f1405, u1402, u1403, u1404⟩ := q1397
                                refine zj_iast (zdk ttX11_keepsTold 180 rfl rfl) (kaB_17 s1401) (by decide) (by omega) (fun h1406 e1407 => ?_)
                                refine zj_iinc (L' := [some (.inr 0), some (.inl (x1074 + 1))]) (zdk ttX11_keepsTold 181 rfl rfl) rfl (by decide) rfl ?_
                                refine zj_goto (t := 298) (zdk ttX11_keepsTold 182 rfl rfl) (by decide) ?_
                                have z1409r : h1075.2 17 x1074 = (h1075.2 17 x1074) := rfl
                                have z1409l : zloc (166 + x1074) = (17, x1074) := (zl_17 (by omega) (by omega))
                                have z1409 : zSt h0 h1406 (166 + x1074 + 1) := zSt_step u1223 (by omega) z1409l f1405 u1402 u1403 z1409r u1404 e1407
                                have s1408 : okB h1406 := okB_w s1401 e1407 (zSt_pm u1223 (by omega) z1409l s1076 u_1 u1403 z1409r u1404)
                                have f1411 : zfr [6, 33, 35, 37, 42, 45, 49, 53, 60] [4, 5, 17, 18, 19, 23, 24, 25, 28, 31, 32, 35] h h1399 := zfr_t f1077 f1405 rfl rfl
                                have f1410 : zfr [6, 33, 35, 37, 42, 45, 49, 53, 60] [4, 5, 17, 18, 19, 23, 24, 25, 28, 31, 32, 35] h h1406 := zfr_wa f1411 e1407 rfl
                                exact ih1225  (x1074 + 1) h1406 (by omega) s1408 f1410 (zSt_j z1409 (by omega)) (by omega)
                          exact lp1221 _ 0 h987 (by omega) s988 f989 (zSt_j u1070 (by omega)) (Nat.lt_succ_self _)
                        · refine zj_aload_n (zdk ttX11_keepsTold 154 rfl rfl) rfl (by decide) ?_
                          refine zj_getr (r := 28) (zdk ttX11_keepsTold 155 rfl rfl) zf_RX11_96 rfl (k_B s988) (rfB_50 s988) ?_
                          refine zj_iload_n (zdk ttX11_keepsTold 156 rfl rfl) rfl ?_
                          refine zj_aload_n (zdk ttX11_keepsTold 157 rfl rfl) rfl (by decide) ?_
                          refine zj_aload_n (zdk ttX11_keepsTold 158 rfl rfl) rfl (by decide) ?_
                          refine zj_getr (r := 28) (zdk ttX11_keepsTold 159 rfl rfl) zf_RX11_96 rfl (k_B s988) (rfB_50 s988) ?_
                          refine zj_iload_n (zdk ttX11_keepsTold 160 rfl rfl) rfl ?_
                          have b1412 : -2147483648 ≤ (h987.2 28 x986) ∧ (h987.2 28 x986) ≤ 2147483647 := abB_28 s988 x986
                          refine zj_iald (v := (h987.2 28 x986)) (zdk ttX11_keepsTold 161 rfl rfl) (kaB_28 s988) (by decide) (by omega) rfl ?_
                          refine zj_callV (av := [.inl (h987.2 28 x986)]) (st := [.inl x986, .inr 28]) (zdk ttX11_keepsTold 162 rfl rfl) mb_X11_keeps mv_RX11_467 (ci := 11) rfl rfl (k_B s988) rfl rfl (Nat.le_of_ble_eq_true rfl) (s_X11_keeps l h987 (h987.2 28 x986) s988 (by omega) (by have := u1070.1; omega)) (rm_ok (by decide) (by decide)) (zq_i fun v1414 h1415 q1413 => ?_)
                          obtain ⟨b1416, s1417, f1421, u1418, u1419, u1420⟩ := q1413
                          refine zj_iast (zdk ttX11_keepsTold 163 rfl rfl) (kaB_28 s1417) (by decide) (by omega) (fun h1422 e1423 => ?_)
                          refine zj_iinc (L' := [some (.inr 0), some (.inl (x986 + 1))]) (zdk ttX11_keepsTold 164 rfl rfl) rfl (by decide) rfl ?_
                          refine zj_goto (t := 268) (zdk ttX11_keepsTold 165 rfl rfl) (by decide) ?_
                          have z1425r : h987.2 28 x986 = (h987.2 28 x986) := rfl
                          have z1425l : zloc (159 + x986) = (28, x986) := (zl_28 (by omega) (by omega))
                          have z1425 : zSt h0 h1422 (159 + x986 + 1) := zSt_step u1070 (by omega) z1425l f1421 u1418 u1419 z1425r u1420 e1423
                          have s1424 : okB h1422 := okB_w s1417 e1423 (zSt_pm u1070 (by omega) z1425l s988 u_1 u1419 z1425r u1420)
                          have f1427 : zfr [6, 33, 35, 37, 42, 45, 49, 53, 60] [4, 5, 17, 18, 19, 23, 24, 25, 28, 31, 32, 35] h h1415 := zfr_t f989 f1421 rfl rfl
                          have f1426 : zfr [6, 33, 35, 37, 42, 45, 49, 53, 60] [4, 5, 17, 18, 19, 23, 24, 25, 28, 31, 32, 35] h h1422 := zfr_wa f1427 e1423 rfl
                          exact ih1072  (x986 + 1) h1422 (by omega) s1424 f1426 (zSt_j z1425 (by omega)) (by omega)
                    exact lp1068 _ 0 h772 (by omega) s773 f774 (zSt_j u982 (by omega)) (Nat.lt_succ_self _)
                  · refine zj_aload_n (zdk ttX11_keepsTold 117 rfl rfl) rfl (by decide) ?_
                    refine zj_getr (r := 25) (zdk ttX11_keepsTold 118 rfl rfl) zf_RX11_86 rfl (k_B s773) (rfB_46 s773) ?_
                    refine zj_iload_n (zdk ttX11_keepsTold 119 rfl rfl) rfl ?_
                    refine zj_aload_n (zdk ttX11_keepsTold 120 rfl rfl) rfl (by decide) ?_
                    refine zj_aload_n (zdk ttX11_keepsTold 121 rfl rfl) rfl (by decide) ?_
                    refine zj_getr (r := 25) (zdk ttX11_keepsTold 122 rfl rfl) zf_RX11_86 rfl (k_B s773) (rfB_46 s773) ?_
                    refine zj_iload_n (zdk ttX11_keepsTold 123 rfl rfl) rfl ?_
                    have b1428 : -2147483648 ≤ (h772.2 25 x771) ∧ (h772.2 25 x771) ≤ 2147483647 := abB_25 s773 x771
                    refine zj_iald (v := (h772.2 25 x771)) (zdk ttX11_keepsTold 124 rfl rfl) (kaB_25 s773) (by decide) (by omega) rfl ?_
                    refine zj_callV (av := [.inl (h772.2 25 x771)]) (st := [.inl x771, .inr 25]) (zdk ttX11_keepsTold 125 rfl rfl) mb_X11_keeps mv_RX11_467 (ci := 11) rfl rfl (k_B s773) rfl rfl (Nat.le_of_ble_eq_true rfl) (s_X11_keeps l h772 (h772.2 25 x771) s773 (by omega) (by have := u982.1; omega)) (rm_ok (by decide) (by decide)) (zq_i fun v1430 h1431 q1429 => ?_)
                    obtain ⟨b1432, s1433, f1437, u1434, u1435, u1436⟩ := q1429
                    refine zj_iast (zdk ttX11_keepsTold 126 rfl rfl) (kaB_25 s1433) (by decide) (by omega) (fun h1438 e1439 => ?_)
                    refine zj_aload_n (zdk ttX11_keepsTold 127 rfl rfl) rfl (by decide) ?_
                    have z1441r : h772.2 25 x771 = (h772.2 25 x771) := rfl
                    have z1441l : zloc (141 + 3 * x771) = (25, x771) := (zl_25 (by omega) (by omega))
                    have z1441 : zSt h0 h1438 (141 + 3 * x771 + 1) := zSt_step u982 (by omega) z1441l f1437 u1434 u1435 z1441r u1436 e1439
                    have s1440 : okB h1438 := okB_w s1433 e1439 (zSt_pm u982 (by omega) z1441l s773 u_1 u1435 z1441r u1436)
                    refine zj_getr (r := 31) (zdk ttX11_keepsTold 128 rfl rfl) zf_RX11_105 rfl (k_B s1440) (rfB_54 s1440) ?_
                    refine zj_iload_n (zdk ttX11_keepsTold 129 rfl rfl) rfl ?_
                    refine zj_aload_n (zdk ttX11_keepsTold 130 rfl rfl) rfl (by decide) ?_
                    refine zj_aload_n (zdk ttX11_keepsTold 131 rfl rfl) rfl (by decide) ?_
                    refine zj_getr (r := 31) (zdk ttX11_keepsTold 132 rfl rfl) zf_RX11_105 rfl (k_B s1440) (rfB_54 s1440) ?_
                    refine zj_iload_n (zdk ttX11_keepsTold 133 rfl rfl) rfl ?_
                    have b1442 : -2147483648 ≤ (h772.2 31 x771) ∧ (h772.2 31 x771) ≤ 2147483647 := abB_31 s773 x771
                    refine zj_iald (v := (h772.2 31 x771)) (zdk ttX11_keepsTold 134 rfl rfl) (kaB_31 s1440) (by decide) (by omega) ((zwr_r e1439 (by first | decide | exact (absurd ·.1 (by decide)) | exact (absurd ·.2 (by decide)) | omega)).trans (zfr_a f1437 rfl (by decide))) ?_
                    refine zj_callV (av := [.inl (h772.2 31 x771)]) (st := [.inl x771, .inr 31]) (zdk ttX11_keepsTold 135 rfl rfl) mb_X11_keeps mv_RX11_467 (ci := 11) rfl rfl (k_B s1440) rfl rfl (Nat.le_of_ble_eq_true rfl) (s_X11_keeps l h1438 (h772.2 31 x771) s1440 (by omega) (by have := z1441.1; omega)) (rm_ok (by decide) (by decide)) (zq_i fun v1444 h1445 q1443 => ?_)
                    obtain ⟨b1446, s1447, f1451, u1448, u1449, u1450⟩ := q1443
                    refine zj_iast (zdk ttX11_keepsTold 136 rfl rfl) (kaB_31 s1447) (by decide) (by omega) (fun h1452 e1453 => ?_)
                    refine zj_aload_n (zdk ttX11_keepsTold 137 rfl rfl) rfl (by decide) ?_
                    have z1455r : h1438.2 31 x771 = (h772.2 31 x771) := ((zwr_r e1439 (by first | decide | exact (absurd ·.1 (by decide)) | exact (absurd ·.2 (by decide)) | omega)).trans (zfr_a f1437 rfl (by decide)))
                    have z1455l : zloc (141 + 3 * x771 + 1) = (31, x771) := (zl_31 (by omega) (by omega))
                    have z1455 : zSt h0 h1452 (141 + 3 * x771 + 1 + 1) := zSt_step z1441 (by omega) z1455l f1451 u1448 u1449 z1455r u1450 e1453
                    have s1454 : okB h1452 := okB_w s1447 e1453 (zSt_pm z1441 (by omega) z1455l s1440 u_1 u1449 z1455r u1450)
                    refine zj_getr (r := 32) (zdk ttX11_keepsTold 138 rfl rfl) zf_RX11_108 rfl (k_B s1454) (rfB_55 s1454) ?_
                    refine zj_iload_n (zdk ttX11_keepsTold 139 rfl rfl) rfl ?_
                    refine zj_aload_n (zdk ttX11_keepsTold 140 rfl rfl) rfl (by decide) ?_
                    refine zj_aload_n (zdk ttX11_keepsTold 141 rfl rfl) rfl (by decide) ?_
                    refine zj_getr (r := 32) (zdk ttX11_keepsTold 142 rfl rfl) zf_RX11_108 rfl (k_B s1454) (rfB_55 s1454) ?_
                    refine zj_iload_n (zdk ttX11_keepsTold 143 rfl rfl) rfl ?_
                    have b1456 : -2147483648 ≤ (h772.2 32 x771) ∧ (h772.2 32 x771) ≤ 2147483647 := abB_32 s773 x771
                    refine zj_iald (v := (h772.2 32 x771)) (zdk ttX11_keepsTold 144 rfl rfl) (kaB_32 s1454) (by decide) (by omega) ((((zwr_r e1453 (by first | decide | exact (absurd ·.1 (by decide)) | exact (absurd ·.2 (by decide)) | omega)).trans (zfr_a f1451 rfl (by decide))).trans (zwr_r e1439 (by first | decide | exact (absurd ·.1 (by decide)) | exact (absurd ·.2 (by decide)) | omega))).trans (zfr_a f1437 rfl (by decide))) ?_
                    refine zj_callV (av := [.inl (h772.2 32 x771)]) (st := [.inl x771, .inr 32]) (zdk ttX11_keepsTold 145 rfl rfl) mb_X11_keeps mv_RX11_467 (ci := 11) rfl rfl (k_B s1454) rfl rfl (Nat.le_of_ble_eq_true rfl) (s_X11_keeps l h1452 (h772.2 32 x771) s1454 (by omega) (by have := z1455.1; omega)) (rm_ok (by decide) (by decide)) (zq_i fun v1458 h1459 q1457 => ?_)
                    obtain ⟨b1460, s1461, f1465, u1462, u1463, u1464⟩ := q1457
                    refine zj_iast (zdk ttX11_keepsTold 146 rfl rfl) (kaB_32 s1461) (by decide) (by omega) (fun h1466 e1467 => ?_)
                    refine zj_iinc (L' := [some (.inr 0), some (.inl (x771 + 1))]) (zdk ttX11_keepsTold 147 rfl rfl) rfl (by decide) rfl ?_
                    refine zj_goto (t := 206) (zdk ttX11_keepsTold 148 rfl rfl) (by decide) ?_
                    have z1469r : h1452.2 32 x771 = (h772.2 32 x771) := ((((zwr_r e1453 (by first | decide | exact (absurd ·.1 (by decide)) | exact (absurd ·.2 (by decide)) | omega)).trans (zfr_a f1451 rfl (by decide))).trans (zwr_r e1439 (by first | decide | exact (absurd ·.1 (by decide)) | exact (absurd ·.2 (by decide)) | omega))).trans (zfr_a f1437 rfl (by decide)))
                    have z1469l : zloc (141 + 3 * x771 + 1 + 1) = (32, x771) := (zl_32 (by omega) (by omega))
                    have z1469 : zSt h0 h1466 (141 + 3 * x771 + 1 + 1 + 1) := zSt_step z1455 (by omega) z1469l f1465 u1462 u1463 z1469r u1464 e1467
                    have s1468 : okB h1466 := okB_w s1461 e1467 (zSt_pm z1455 (by omega) z1469l s1454 u_1 u1463 z1469r u1464)
                    have f1475 : zfr [6, 33, 35, 37, 42, 45, 49, 53, 60] [4, 5, 17, 18, 19, 23, 24, 25, 28, 31, 32, 35] h h1431 := zfr_t f774 f1437 rfl rfl
                    have f1474 : zfr [6, 33, 35, 37, 42, 45, 49, 53, 60] [4, 5, 17, 18, 19, 23, 24, 25, 28, 31, 32, 35] h h1438 := zfr_wa f1475 e1439 rfl
                    have f1473 : zfr [6, 33, 35, 37, 42, 45, 49, 53, 60] [4, 5, 17, 18, 19, 23, 24, 25, 28, 31, 32, 35] h h1445 := zfr_t f1474 f1451 rfl rfl
                    have f1472 : zfr [6, 33, 35, 37, 42, 45, 49, 53, 60] [4, 5, 17, 18, 19, 23, 24, 25, 28, 31, 32, 35] h h1452 := zfr_wa f1473 e1453 rfl
                    have f1471 : zfr [6, 33, 35, 37, 42, 45, 49, 53, 60] [4, 5, 17, 18, 19, 23, 24, 25, 28, 31, 32, 35] h h1459 := zfr_t f1472 f1465 rfl rfl
                    have f1470 : zfr [6, 33, 35, 37, 42, 45, 49, 53, 60] [4, 5, 17, 18, 19, 23, 24, 25, 28, 31, 32, 35] h h1466 := zfr_wa f1471 e1467 rfl
                    exact ih984  (x771 + 1) h1466 (by omega) s1468 f1470 (zSt_j z1469 (by omega)) (by omega)
              exact lp980 _ 0 h573 (by omega) s574 f575 (zSt_j u767 (by omega)) (Nat.lt_succ_self _)
            · refine zj_aload_n (zdk ttX11_keepsTold 90 rfl rfl) rfl (by decide) ?_
              refine zj_getr (r := 23) (zdk ttX11_keepsTold 91 rfl rfl) zf_RX11_80 rfl (k_B s574) (rfB_43 s574) ?_
              refine zj_iload_n (zdk ttX11_keepsTold 92 rfl rfl) rfl ?_
              refine zj_aload_n (zdk ttX11_keepsTold 93 rfl rfl) rfl (by decide) ?_
              refine zj_aload_n (zdk ttX11_keepsTold 94 rfl rfl) rfl (by decide) ?_
              refine zj_getr (r := 23) (zdk ttX11_keepsTold 95 rfl rfl) zf_RX11_80 rfl (k_B s574) (rfB_43 s574) ?_
              refine zj_iload_n (zdk ttX11_keepsTold 96 rfl rfl) rfl ?_
              have b1476 : -2147483648 ≤ (h573.2 23 x572) ∧ (h573.2 23 x572) ≤ 2147483647 := abB_23 s574 x572
              refine zj_iald (v := (h573.2 23 x572)) (zdk ttX11_keepsTold 97 rfl rfl) (kaB_23 s574) (by decide) (by omega) rfl ?_
              refine zj_callV (av := [.inl (h573.2 23 x572)]) (st := [.inl x572, .inr 23]) (zdk ttX11_keepsTold 98 rfl rfl) mb_X11_keeps mv_RX11_467 (ci := 11) rfl rfl (k_B s574) rfl rfl (Nat.le_of_ble_eq_true rfl) (s_X11_keeps l h573 (h573.2 23 x572) s574 (by omega) (by have := u767.1; omega)) (rm_ok (by decide) (by decide)) (zq_i fun v1478 h1479 q1477 => ?_)
              obtain ⟨b1480, s1481, f1485, u1482, u1483, u1484⟩ := q1477
              refine zj_iast (zdk ttX11_keepsTold 99 rfl rfl) (kaB_23 s1481) (by decide) (by omega) (fun h1486 e1487 => ?_)
              refine zj_aload_n (zdk ttX11_keepsTold 100 rfl rfl) rfl (by decide) ?_
              have z1489r : h573.2 23 x572 = (h573.2 23 x572) := rfl
              have z1489l : zloc (125 + 2 * x572) = (23, x572) := (zl_23 (by omega) (by omega))
              have z1489 : zSt h0 h1486 (125 + 2 * x572 + 1) := zSt_step u767 (by omega) z1489l f1485 u1482 u1483 z1489r u1484 e1487
              have s1488 : okB h1486 := okB_w s1481 e1487 (zSt_pm u767 (by omega) z1489l s574 u_1 u1483 z1489r u1484)
              refine zj_getr (r := 24) (zdk ttX11_keepsTold 101 rfl rfl) zf_RX11_83 rfl (k_B s1488) (rfB_44 s1488) ?_
              refine zj_iload_n (zdk ttX11_keepsTold 102 rfl rfl) rfl ?_
              refine zj_aload_n (zdk ttX11_keepsTold 103 rfl rfl) rfl (by decide) ?_
              refine zj_aload_n (zdk ttX11_keepsTold 104 rfl rfl) rfl (by decide) ?_
              refine zj_getr (r := 24) (zdk ttX11_keepsTold 105 rfl rfl) zf_RX11_83 rfl (k_B s1488) (rfB_44 s1488) ?_
              refine zj_iload_n (zdk ttX11_keepsTold 106 rfl rfl) rfl ?_
              have b1490 : -2147483648 ≤ (h573.2 24 x572) ∧ (h573.2 24 x572) ≤ 2147483647 := abB_24 s574 x572
              refine zj_iald (v := (h573.2 24 x572)) (zdk ttX11_keepsTold 107 rfl rfl) (kaB_24 s1488) (by decide) (by omega) ((zwr_r e1487 (by first | decide | exact (absurd ·.1 (by decide)) | exact (absurd ·.2 (by decide)) | omega)).trans (zfr_a f1485 rfl (by decide))) ?_
              refine zj_callV (av := [.inl (h573.2 24 x572)]) (st := [.inl x572, .inr 24]) (zdk ttX11_keepsTold 108 rfl rfl) mb_X11_keeps mv_RX11_467 (ci := 11) rfl rfl (k_B s1488) rfl rfl (Nat.le_of_ble_eq_true rfl) (s_X11_keeps l h1486 (h573.2 24 x572) s1488 (by omega) (by have := z1489.1; omega)) (rm_ok (by decide) (by decide)) (zq_i fun v1492 h1493 q1491 => ?_)
              obtain ⟨b1494, s1495, f1499, u1496, u1497, u1498⟩ := q1491
              refine zj_iast (zdk ttX11_keepsTold 109 rfl rfl) (kaB_24 s1495) (by decide) (by omega) (fun h1500 e1501 => ?_)
              refine zj_iinc (L' := [some (.inr 0), some (.inl (x572 + 1))]) (zdk ttX11_keepsTold 110 rfl rfl) rfl (by decide) rfl ?_
              refine zj_goto (t := 160) (zdk ttX11_keepsTold 111 rfl rfl) (by decide) ?_
              have z1503r : h1486.2 24 x572 = (h573.2 24 x572) := ((zwr_r e1487 (by first | decide | exact (absurd ·.1 (by decide)) | exact (absurd ·.2 (by decide)) | omega)).trans (zfr_a f1485 rfl (by decide)))
              have z1503l : zloc (125 + 2 * x572 + 1) = (24, x572) := (zl_24 (by omega) (by omega))
              have z1503 : zSt h0 h1500 (125 + 2 * x572 + 1 + 1) := zSt_step z1489 (by omega) z1503l f1499 u1496 u1497 z1503r u1498 e1501
              have s1502 : okB h1500 := okB_w s1495 e1501 (zSt_pm z1489 (by omega) z1503l s1488 u_1 u1497 z1503r u1498)
              have f1507 : zfr [6, 33, 35, 37, 42, 45, 49, 53, 60] [4, 5, 17, 18, 19, 23, 24, 25, 28, 31, 32, 35] h h1479 := zfr_t f575 f1485 rfl rfl
              have f1506 : zfr [6, 33, 35, 37, 42, 45, 49, 53, 60] [4, 5, 17, 18, 19, 23, 24, 25, 28, 31, 32, 35] h h1486 := zfr_wa f1507 e1487 rfl
              have f1505 : zfr [6, 33, 35, 37, 42, 45, 49, 53, 60] [4, 5, 17, 18, 19, 23, 24, 25, 28, 31, 32, 35] h h1493 := zfr_t f1506 f1499 rfl rfl
              have f1504 : zfr [6, 33, 35, 37, 42, 45, 49, 53, 60] [4, 5, 17, 18, 19, 23, 24, 25, 28, 31, 32, 35] h h1500 := zfr_wa f1505 e1501 rfl
              exact ih769  (x572 + 1) h1500 (by omega) s1502 f1504 (zSt_j z1503 (by omega)) (by omega)
        exact lp765 _ 0 h112 (by omega) s113 f114 (zSt_j u568 (by omega)) (Nat.lt_succ_self _)
      · refine zj_aload_n (zdk ttX11_keepsTold 53 rfl rfl) rfl (by decide) ?_
        refine zj_getr (r := 4) (zdk ttX11_keepsTold 54 rfl rfl) zf_RX11_19 rfl (k_B s113) (rfB_7 s113) ?_
        refine zj_iload_n (zdk ttX11_keepsTold 55 rfl rfl) rfl ?_
        refine zj_aload_n (zdk ttX11_keepsTold 56 rfl rfl) rfl (by decide) ?_
        refine zj_aload_n (zdk ttX11_keepsTold 57 rfl rfl) rfl (by decide) ?_
        refine zj_getr (r := 4) (zdk ttX11_keepsTold 58 rfl rfl) zf_RX11_19 rfl (k_B s113) (rfB_7 s113) ?_
        refine zj_iload_n (zdk ttX11_keepsTold 59 rfl rfl) rfl ?_
        have b1508 : -2147483648 ≤ (h112.2 4 x111) ∧ (h112.2 4 x111) ≤ 2147483647 := abB_4 s113 x111
        refine zj_iald (v := (h112.2 4 x111)) (zdk ttX11_keepsTold 60 rfl rfl) (kaB_4 s113) (by decide) (by omega) rfl ?_
        refine zj_callV (av := [.inl (h112.2 4 x111)]) (st := [.inl x111, .inr 4]) (zdk ttX11_keepsTold 61 rfl rfl) mb_X11_keeps mv_RX11_467 (ci := 11) rfl rfl (k_B s113) rfl rfl (Nat.le_of_ble_eq_true rfl) (s_X11_keeps l h112 (h112.2 4 x111) s113 (by omega) (by have := u568.1; omega)) (rm_ok (by decide) (by decide)) (zq_i fun v1510 h1511 q1509 => ?_)
        obtain ⟨b1512, s1513, f1517, u1514, u1515, u1516⟩ := q1509
        refine zj_iast (zdk ttX11_keepsTold 62 rfl rfl) (kaB_4 s1513) (by decide) (by omega) (fun h1518 e1519 => ?_)
        refine zj_aload_n (zdk ttX11_keepsTold 63 rfl rfl) rfl (by decide) ?_
        have z1521r : h112.2 4 x111 = (h112.2 4 x111) := rfl
        have z1521l : zloc (71 + 3 * x111) = (4, x111) := (zl_4 (by omega) (by omega))
        have z1521 : zSt h0 h1518 (71 + 3 * x111 + 1) := zSt_step u568 (by omega) z1521l f1517 u1514 u1515 z1521r u1516 e1519
        have s1520 : okB h1518 := okB_w s1513 e1519 (zSt_pm u568 (by omega) z1521l s113 u_1 u1515 z1521r u1516)
        refine zj_getr (r := 5) (zdk ttX11_keepsTold 64 rfl rfl) zf_RX11_22 rfl (k_B s1520) (rfB_8 s1520) ?_
        refine zj_iload_n (zdk ttX11_keepsTold 65 rfl rfl) rfl ?_
        refine zj_aload_n (zdk ttX11_keepsTold 66 rfl rfl) rfl (by decide) ?_
        refine zj_aload_n (zdk ttX11_keepsTold 67 rfl rfl) rfl (by decide) ?_
        refine zj_getr (r := 5) (zdk ttX11_keepsTold 68 rfl rfl) zf_RX11_22 rfl (k_B s1520) (rfB_8 s1520) ?_
        refine zj_iload_n (zdk ttX11_keepsTold 69 rfl rfl) rfl ?_
        have b1522 : -2147483648 ≤ (h112.2 5 x111) ∧ (h112.2 5 x111) ≤ 2147483647 := abB_5 s113 x111
        refine zj_iald (v := (h112.2 5 x111)) (zdk ttX11_keepsTold 70 rfl rfl) (kaB_5 s1520) (by decide) (by omega) ((zwr_r e1519 (by first | decide | exact (absurd ·.1 (by decide)) | exact (absurd ·.2 (by decide)) | omega)).trans (zfr_a f1517 rfl (by decide))) ?_
        refine zj_callV (av := [.inl (h112.2 5 x111)]) (st := [.inl x111, .inr 5]) (zdk ttX11_keepsTold 71 rfl rfl) mb_X11_keeps mv_RX11_467 (ci := 11) rfl rfl (k_B s1520) rfl rfl (Nat.le_of_ble_eq_true rfl) (s_X11_keeps l h1518 (h112.2 5 x111) s1520 (by omega) (by have := z1521.1; omega)) (rm_ok (by decide) (by decide)) (zq_i fun v1524 h1525 q1523 => ?_)
        obtain ⟨b1526, s1527, f1531, u1528, u1529, u1530⟩ := q1523
        refine zj_iast (zdk ttX11_keepsTold 72 rfl rfl) (kaB_5 s1527) (by decide) (by omega) (fun h1532 e1533 => ?_)
        refine zj_aload_n (zdk ttX11_keepsTold 73 rfl rfl) rfl (by decide) ?_
        have z1535r : h1518.2 5 x111 = (h112.2 5 x111) := ((zwr_r e1519 (by first | decide | exact (absurd ·.1 (by decide)) | exact (absurd ·.2 (by decide)) | omega)).trans (zfr_a f1517 rfl (by decide)))
        have z1535l : zloc (71 + 3 * x111 + 1) = (5, x111) := (zl_5 (by omega) (by omega))
        have z1535 : zSt h0 h1532 (71 + 3 * x111 + 1 + 1) := zSt_step z1521 (by omega) z1535l f1531 u1528 u1529 z1535r u1530 e1533
        have s1534 : okB h1532 := okB_w s1527 e1533 (zSt_pm z1521 (by omega) z1535l s1520 u_1 u1529 z1535r u1530)
        refine zj_getr (r := 19) (zdk ttX11_keepsTold 74 rfl rfl) zf_RX11_68 rfl (k_B s1534) (rfB_38 s1534) ?_
        refine zj_iload_n (zdk ttX11_keepsTold 75 rfl rfl) rfl ?_
        refine zj_aload_n (zdk ttX11_keepsTold 76 rfl rfl) rfl (by decide) ?_
        refine zj_aload_n (zdk ttX11_keepsTold 77 rfl rfl) rfl (by decide) ?_
        refine zj_getr (r := 19) (zdk ttX11_keepsTold 78 rfl rfl) zf_RX11_68 rfl (k_B s1534) (rfB_38 s1534) ?_
        refine zj_iload_n (zdk ttX11_keepsTold 79 rfl rfl) rfl ?_
        have b1536 : -2147483648 ≤ (h112.2 19 x111) ∧ (h112.2 19 x111) ≤ 2147483647 := abB_19 s113 x111
        refine zj_iald (v := (h112.2 19 x111)) (zdk ttX11_keepsTold 80 rfl rfl) (kaB_19 s1534) (by decide) (by omega) ((((zwr_r e1533 (by first | decide | exact (absurd ·.1 (by decide)) | exact (absurd ·.2 (by decide)) | omega)).trans (zfr_a f1531 rfl (by decide))).trans (zwr_r e1519 (by first | decide | exact (absurd ·.1 (by decide)) | exact (absurd ·.2 (by decide)) | omega))).trans (zfr_a f1517 rfl (by decide))) ?_
        refine zj_callV (av := [.inl (h112.2 19 x111)]) (st := [.inl x111, .inr 19]) (zdk ttX11_keepsTold 81 rfl rfl) mb_X11_keeps mv_RX11_467 (ci := 11) rfl rfl (k_B s1534) rfl rfl (Nat.le_of_ble_eq_true rfl) (s_X11_keeps l h1532 (h112.2 19 x111) s1534 (by omega) (by have := z1535.1; omega)) (rm_ok (by decide) (by decide)) (zq_i fun v1538 h1539 q1537 => ?_)
        obtain ⟨b1540, s1541, f1545, u1542, u1543, u1544⟩ := q1537
        refine zj_iast (zdk ttX11_keepsTold 82 rfl rfl) (kaB_19 s1541) (by decide) (by omega) (fun h1546 e1547 => ?_)
        refine zj_iinc (L' := [some (.inr 0), some (.inl (x111 + 1))]) (zdk ttX11_keepsTold 83 rfl rfl) rfl (by decide) rfl ?_
        refine zj_goto (t := 98) (zdk ttX11_keepsTold 84 rfl rfl) (by decide) ?_
        have z1549r : h1532.2 19 x111 = (h112.2 19 x111) := ((((zwr_r e1533 (by first | decide | exact (absurd ·.1 (by decide)) | exact (absurd ·.2 (by decide)) | omega)).trans (zfr_a f1531 rfl (by decide))).trans (zwr_r e1519 (by first | decide | exact (absurd ·.1 (by decide)) | exact (absurd ·.2 (by decide)) | omega))).trans (zfr_a f1517 rfl (by decide)))
        have z1549l : zloc (71 + 3 * x111 + 1 + 1) = (19, x111) := (zl_19 (by omega) (by omega))
        have z1549 : zSt h0 h1546 (71 + 3 * x111 + 1 + 1 + 1) := zSt_step z1535 (by omega) z1549l f1545 u1542 u1543 z1549r u1544 e1547
        have s1548 : okB h1546 := okB_w s1541 e1547 (zSt_pm z1535 (by omega) z1549l s1534 u_1 u1543 z1549r u1544)
        have f1555 : zfr [6, 33, 35, 37, 42, 45, 49, 53, 60] [4, 5, 17, 18, 19, 23, 24, 25, 28, 31, 32, 35] h h1511 := zfr_t f114 f1517 rfl rfl
        have f1554 : zfr [6, 33, 35, 37, 42, 45, 49, 53, 60] [4, 5, 17, 18, 19, 23, 24, 25, 28, 31, 32, 35] h h1518 := zfr_wa f1555 e1519 rfl
        have f1553 : zfr [6, 33, 35, 37, 42, 45, 49, 53, 60] [4, 5, 17, 18, 19, 23, 24, 25, 28, 31, 32, 35] h h1525 := zfr_t f1554 f1531 rfl rfl
        have f1552 : zfr [6, 33, 35, 37, 42, 45, 49, 53, 60] [4, 5, 17, 18, 19, 23, 24, 25, 28, 31, 32, 35] h h1532 := zfr_wa f1553 e1533 rfl
        have f1551 : zfr [6, 33, 35, 37, 42, 45, 49, 53, 60] [4, 5, 17, 18, 19, 23, 24, 25, 28, 31, 32, 35] h h1539 := zfr_t f1552 f1545 rfl rfl
        have f1550 : zfr [6, 33, 35, 37, 42, 45, 49, 53, 60] [4, 5, 17, 18, 19, 23, 24, 25, 28, 31, 32, 35] h h1546 := zfr_wa f1551 e1547 rfl
        exact ih570  (x111 + 1) h1546 (by omega) s1548 f1550 (zSt_j z1549 (by omega)) (by omega)
  have z1557r : h95.2 0 53 = (h.2 0 53) := ((((((((((((((zwr_r e96 (by first | decide | exact (absurd ·.1 (by decide)) | exact (absurd ·.2 (by decide)) | omega)).trans (zfr_f f94 rfl rfl)).trans (zwr_r e82 (by first | decide | exact (absurd ·.1 (by decide)) | exact (absurd ·.2 (by decide)) | omega))).trans (zfr_f f80 rfl rfl)).trans (zwr_r e68 (by first | decide | exact (absurd ·.1 (by decide)) | exact (absurd ·.2 (by decide)) | omega))).trans (zfr_f f66 rfl rfl)).trans (zwr_r e54 (by first | decide | exact (absurd ·.1 (by decide)) | exact (absurd ·.2 (by decide)) | omega))).trans (zfr_f f52 rfl rfl)).trans (zwr_r e40 (by first | decide | exact (absurd ·.1 (by decide)) | exact (absurd ·.2 (by decide)) | omega))).trans (zfr_f f38 rfl rfl)).trans (zwr_r e26 (by first | decide | exact (absurd ·.1 (by decide)) | exact (absurd ·.2 (by decide)) | omega))).trans (zfr_f f24 rfl rfl)).trans (zwr_r e12 (by first | decide | exact (absurd ·.1 (by decide)) | exact (absurd ·.2 (by decide)) | omega))).trans (zfr_f f10 rfl rfl))
  have z1557l : zloc (63 + 1 + 1 + 1 + 1 + 1 + 1 + 1) = (0, 53) := (zl_f53 (by omega))
  have z1557 : zSt h0 h109 (63 + 1 + 1 + 1 + 1 + 1 + 1 + 1 + 1) := zSt_step z99 (by omega) z1557l f108 u105 u106 z1557r u107 e110
  have s1556 : okB h109 := okB_w s104 e110 (zSt_pm z99 (by omega) z1557l s98 u_1 u106 z1557r u107)
  have f1573 : zfr [6, 33, 35, 37, 42, 45, 49, 53, 60] [4, 5, 17, 18, 19, 23, 24, 25, 28, 31, 32, 35] h h4 := zfr_t (zfr_r _ _ _) f10 rfl rfl
  have f1572 : zfr [6, 33, 35, 37, 42, 45, 49, 53, 60] [4, 5, 17, 18, 19, 23, 24, 25, 28, 31, 32, 35] h h11 := zfr_wf f1573 e12 rfl
  have f1571 : zfr [6, 33, 35, 37, 42, 45, 49, 53, 60] [4, 5, 17, 18, 19, 23, 24, 25, 28, 31, 32, 35] h h18 := zfr_t f1572 f24 rfl rfl
  have f1570 : zfr [6, 33, 35, 37, 42, 45, 49, 53, 60] [4, 5, 17, 18, 19, 23, 24, 25, 28, 31, 32, 35] h h25 := zfr_wf f1571 e26 rfl
  have f1569 : zfr [6, 33, 35, 37, 42, 45, 49, 53, 60] [4, 5, 17, 18, 19, 23, 24, 25, 28, 31, 32, 35] h h32 := zfr_t f1570 f38 rfl rfl
  have f1568 : zfr [6, 33, 35, 37, 42, 45, 49, 53, 60] [4, 5, 17, 18, 19, 23, 24, 25, 28, 31, 32, 35] h h39 := zfr_wf f1569 e40 rfl
  have f1567 : zfr [6, 33, 35, 37, 42, 45, 49, 53, 60] [4, 5, 17, 18, 19, 23, 24, 25, 28, 31, 32, 35] h h46 := zfr_t f1568 f52 rfl rfl
  have f1566 : zfr [6, 33, 35, 37, 42, 45, 49, 53, 60] [4, 5, 17, 18, 19, 23, 24, 25, 28, 31, 32, 35] h h53 := zfr_wf f1567 e54 rfl
  have f1565 : zfr [6, 33, 35, 37, 42, 45, 49, 53, 60] [4, 5, 17, 18, 19, 23, 24, 25, 28, 31, 32, 35] h h60 := zfr_t f1566 f66 rfl rfl
  have f1564 : zfr [6, 33, 35, 37, 42, 45, 49, 53, 60] [4, 5, 17, 18, 19, 23, 24, 25, 28, 31, 32, 35] h h67 := zfr_wf f1565 e68 rfl
  have f1563 : zfr [6, 33, 35, 37, 42, 45, 49, 53, 60] [4, 5, 17, 18, 19, 23, 24, 25, 28, 31, 32, 35] h h74 := zfr_t f1564 f80 rfl rfl
  have f1562 : zfr [6, 33, 35, 37, 42, 45, 49, 53, 60] [4, 5, 17, 18, 19, 23, 24, 25, 28, 31, 32, 35] h h81 := zfr_wf f1563 e82 rfl
  have f1561 : zfr [6, 33, 35, 37, 42, 45, 49, 53, 60] [4, 5, 17, 18, 19, 23, 24, 25, 28, 31, 32, 35] h h88 := zfr_t f1562 f94 rfl rfl
  have f1560 : zfr [6, 33, 35, 37, 42, 45, 49, 53, 60] [4, 5, 17, 18, 19, 23, 24, 25, 28, 31, 32, 35] h h95 := zfr_wf f1561 e96 rfl
  have f1559 : zfr [6, 33, 35, 37, 42, 45, 49, 53, 60] [4, 5, 17, 18, 19, 23, 24, 25, 28, 31, 32, 35] h h102 := zfr_t f1560 f108 rfl rfl
  have f1558 : zfr [6, 33, 35, 37, 42, 45, 49, 53, 60] [4, 5, 17, 18, 19, 23, 24, 25, 28, 31, 32, 35] h h109 := zfr_wf f1559 e110 rfl
  exact lp566 _ 0 h109 (by omega) s1556 f1558 (zSt_j z1557 (by omega)) (Nat.lt_succ_self _)

