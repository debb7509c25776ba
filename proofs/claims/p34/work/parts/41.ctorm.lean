def zMc (k : Int) (Lf : List Int) (H : zM) : Prop := (H.1 : Int) = k ∧ (∀ a b, ¬ a = 0 → ¬ a = 8 → H.2 a b = 0) ∧ (∀ b, 0 ≤ H.2 8 b ∧ H.2 8 b ≤ 255) ∧ (∀ i : Nat, H.2 0 i = Lf.getD i 0)
theorem zMc_n {k k' : Int} {Lf : List Int} {H H1 : zM} (q : zMc k Lf H) (e : H1 = znew H (fun _ => 0)) (ek : k' = k + 1) (hk : 1 ≤ k) : zMc k' Lf H1 := by
  obtain ⟨q1, q2, q3, q4⟩ := q
  subst e
  refine ⟨by show ((H.1 + 1 : Nat) : Int) = _; omega, fun a b z1 z2 => ?_, fun b => ?_, fun i => ?_⟩
  · by_cases w : a = H.1
    · rw [w]; exact znew_s
    · rw [znew_n w]; exact q2 a b z1 z2
  · by_cases w : (8 : Int) = H.1
    · rw [w, znew_s]; omega
    · rw [znew_n w]; exact q3 b
  · rw [znew_n (by omega)]; exact q4 i
theorem zMc_w {k j v : Int} {Lf : List Int} {H H' : zM} (q : zMc k Lf H) (e : H' = zwr H 8 j v) (hv : 0 ≤ v ∧ v ≤ 255) : zMc k Lf H' := by
  obtain ⟨q1, q2, q3, q4⟩ := q
  subst e
  refine ⟨q1, fun a b z1 z2 => ?_, fun b => ?_, fun i => ?_⟩
  · rw [zwr_n (fun w => z2 w.1)]; exact q2 a b z1 z2
  · by_cases w : b = j
    · rw [w, zwr_s]; exact hv
    · rw [zwr_n (by omega)]; exact q3 b
  · rw [zwr_n (by omega)]; exact q4 i
theorem zMc_f {k v v' : Int} {f : Nat} {Lf L' : List Int} {H H' : zM} (q : zMc k Lf H) (e : H' = zwr H 0 (f : Int) v) (ev : v = v') (hf : f < Lf.length) (eL : L' = Lf.set f v') : zMc k L' H' := by
  obtain ⟨q1, q2, q3, q4⟩ := q
  subst e; subst ev; subst eL
  refine ⟨q1, fun a b z1 z2 => ?_, fun b => ?_, fun i => ?_⟩
  · rw [zwr_n (fun w => z1 w.1)]; exact q2 a b z1 z2
  · rw [zwr_n (by omega)]; exact q3 b
  · rw [List.getD_eq_getElem?_getD]
    by_cases w : i = f
    · rw [w, zwr_s, List.getElem?_set_self hf]; rfl
    · rw [zwr_n (by omega), List.getElem?_set_ne (Ne.symm w), ← List.getD_eq_getElem?_getD]; exact q4 i
def tRw : List Int := [32, 108, 101, 97, 118, 101, 115, 32, 119, 105, 110, 100, 115, 32, 114, 101, 116, 117, 114, 110, 115, 32, 119, 104, 101, 110, 32, 111, 114, 32, 97, 110, 100, 32, 110, 111, 116, 32, 119, 101, 105, 103, 104, 116, 32, 108, 111, 110, 103, 32, 108, 101, 102, 116, 32, 104, 101, 114, 101, 32, 112, 101, 111, 112, 108, 101, 32, 119, 111, 117, 110, 100, 32, 116, 105, 109, 101, 32, 115, 99, 104, 111, 111, 108, 32, 107, 105, 110, 32, 100, 97, 121, 32, 111, 110, 32, 98, 111, 97, 116, 32, 111, 117, 116, 32, 98, 97, 99, 107, 32, 98, 101, 103, 32, 105, 115, 108, 97, 110, 100, 101, 114, 32, 102, 114, 101, 101, 32, 104, 111, 108, 105, 100, 97, 121, 32, 105, 110, 116, 101, 114, 101, 115, 116, 32, 112, 117, 115, 104, 32]
def zWk (m : Int) (H : zM) : Prop := ∀ k, 0 ≤ k → k < m → H.2 8 k = tRw.getD k.toNat 0
theorem zWk_0 (H : zM) : zWk 0 H := fun k a b => absurd b (by omega)
theorem zWk_s {m m' v : Int} {H H' : zM} (w : zWk m H) (e : H' = zwr H 8 m v) (hv : v = tRw.getD m.toNat 0) (hm : m' = m + 1) : zWk m' H' := fun k a b => by
  by_cases z : k = m
  · rw [z, e, zwr_s]; exact hv
  · rw [e, zwr_n (by omega)]; exact w k a (by omega)
theorem zWk_f {m c j v : Int} {H H' : zM} (w : zWk m H) (e : H' = zwr H c j v) (hc : ¬ c = 8) : zWk m H' := fun k a b => by
  rw [e, zwr_n (fun z => hc z.1.symm)]; exact w k a b
theorem zWk_n {m : Int} {H H' : zM} {d : Int → Int} (w : zWk m H) (e : H' = znew H d) (hc : ¬ (8 : Int) = H.1) : zWk m H' := fun k a b => by
  rw [e, znew_n hc]; exact w k a b
abbrev tX11_init_0 : List (Nat × Instr × Nat) := [(0, .aload_n 0, 1), (1, .invokespecial 1, 3), (4, .aload_n 0, 1), (5, .bipush 63, 2), (7, .newarray .int, 2), (9, .putfield 7, 3), (12, .aload_n 0, 1), (13, .sipush 378, 3), (16, .newarray .int, 2), (18, .putfield 13, 3), (21, .aload_n 0, 1), (22, .bipush 63, 2), (24, .newarray .int, 2), (26, .putfield 16, 3), (29, .aload_n 0, 1), (30, .bipush 18, 2), (32, .newarray .int, 2), (34, .putfield 19, 3), (37, .aload_n 0, 1), (38, .bipush 18, 2), (40, .newarray .int, 2), (42, .putfield 22, 3), (45, .aload_n 0, 1), (46, .sipush 600, 3), (49, .newarray .int, 2), (51, .putfield 25, 3), (54, .aload_n 0, 1), (55, .sipush 400, 3), (58, .newarray .int, 2), (60, .putfield 28, 3), (63, .aload_n 0, 1), (64, .sipush 150, 3), (67, .newarray .int, 2), (69, .dup, 1), (70, .iconst 0, 1), (71, .bipush 32, 2), (73, .iastore, 1), (74, .dup, 1), (75, .iconst 1, 1), (76, .bipush 108, 2), (78, .iastore, 1), (79, .dup, 1), (80, .iconst 2, 1), (81, .bipush 101, 2), (83, .iastore, 1), (84, .dup, 1), (85, .iconst 3, 1), (86, .bipush 97, 2), (88, .iastore, 1), (89, .dup, 1), (90, .iconst 4, 1), (91, .bipush 118, 2), (93, .iastore, 1), (94, .dup, 1), (95, .iconst 5, 1), (96, .bipush 101, 2), (98, .iastore, 1), (99, .dup, 1), (100, .bipush 6, 2), (102, .bipush 115, 2)]
theorem ttX11_init_0 : zdt cX11_init tX11_init_0 = true := by decide +kernel
abbrev tX11_init_1 : List (Nat × Instr × Nat) := [(104, .iastore, 1), (105, .dup, 1), (106, .bipush 7, 2), (108, .bipush 32, 2), (110, .iastore, 1), (111, .dup, 1), (112, .bipush 8, 2), (114, .bipush 119, 2), (116, .iastore, 1), (117, .dup, 1), (118, .bipush 9, 2), (120, .bipush 105, 2), (122, .iastore, 1), (123, .dup, 1), (124, .bipush 10, 2), (126, .bipush 110, 2), (128, .iastore, 1), (129, .dup, 1), (130, .bipush 11, 2), (132, .bipush 100, 2), (134, .iastore, 1), (135, .dup, 1), (136, .bipush 12, 2), (138, .bipush 115, 2), (140, .iastore, 1), (141, .dup, 1), (142, .bipush 13, 2), (144, .bipush 32, 2), (146, .iastore, 1), (147, .dup, 1), (148, .bipush 14, 2), (150, .bipush 114, 2), (152, .iastore, 1), (153, .dup, 1), (154, .bipush 15, 2), (156, .bipush 101, 2), (158, .iastore, 1), (159, .dup, 1), (160, .bipush 16, 2), (162, .bipush 116, 2), (164, .iastore, 1), (165, .dup, 1), (166, .bipush 17, 2), (168, .bipush 117, 2), (170, .iastore, 1), (171, .dup, 1), (172, .bipush 18, 2), (174, .bipush 114, 2), (176, .iastore, 1), (177, .dup, 1), (178, .bipush 19, 2), (180, .bipush 110, 2), (182, .iastore, 1), (183, .dup, 1), (184, .bipush 20, 2), (186, .bipush 115, 2), (188, .iastore, 1), (189, .dup, 1), (190, .bipush 21, 2), (192, .bipush 32, 2)]
theorem ttX11_init_1 : zdt cX11_init tX11_init_1 = true := by decide +kernel
abbrev tX11_init_2 : List (Nat × Instr × Nat) := [(194, .iastore, 1), (195, .dup, 1), (196, .bipush 22, 2), (198, .bipush 119, 2), (200, .iastore, 1), (201, .dup, 1), (202, .bipush 23, 2), (204, .bipush 104, 2), (206, .iastore, 1), (207, .dup, 1), (208, .bipush 24, 2), (210, .bipush 101, 2), (212, .iastore, 1), (213, .dup, 1), (214, .bipush 25, 2), (216, .bipush 110, 2), (218, .iastore, 1), (219, .dup, 1), (220, .bipush 26, 2), (222, .bipush 32, 2), (224, .iastore, 1), (225, .dup, 1), (226, .bipush 27, 2), (228, .bipush 111, 2), (230, .iastore, 1), (231, .dup, 1), (232, .bipush 28, 2), (234, .bipush 114, 2), (236, .iastore, 1), (237, .dup, 1), (238, .bipush 29, 2), (240, .bipush 32, 2), (242, .iastore, 1), (243, .dup, 1), (244, .bipush 30, 2), (246, .bipush 97, 2), (248, .iastore, 1), (249, .dup, 1), (250, .bipush 31, 2), (252, .bipush 110, 2), (254, .iastore, 1), (255, .dup, 1), (256, .bipush 32, 2), (258, .bipush 100, 2), (260, .iastore, 1), (261, .dup, 1), (262, .bipush 33, 2), (264, .bipush 32, 2), (266, .iastore, 1), (267, .dup, 1), (268, .bipush 34, 2), (270, .bipush 110, 2), (272, .iastore, 1), (273, .dup, 1), (274, .bipush 35, 2), (276, .bipush 111, 2), (278, .iastore, 1), (279, .dup, 1), (280, .bipush 36, 2), (282, .bipush 116, 2)]
theorem ttX11_init_2 : zdt cX11_init tX11_init_2 = true := by decide +kernel
abbrev tX11_init_3 : List (Nat × Instr × Nat) := [(284, .iastore, 1), (285, .dup, 1), (286, .bipush 37, 2), (288, .bipush 32, 2), (290, .iastore, 1), (291, .dup, 1), (292, .bipush 38, 2), (294, .bipush 119, 2), (296, .iastore, 1), (297, .dup, 1), (298, .bipush 39, 2), (300, .bipush 101, 2), (302, .iastore, 1), (303, .dup, 1), (304, .bipush 40, 2), (306, .bipush 105, 2), (308, .iastore, 1), (309, .dup, 1), (310, .bipush 41, 2), (312, .bipush 103, 2), (314, .iastore, 1), (315, .dup, 1), (316, .bipush 42, 2), (318, .bipush 104, 2), (320, .iastore, 1), (321, .dup, 1), (322, .bipush 43, 2), (324, .bipush 116, 2), (326, .iastore, 1), (327, .dup, 1), (328, .bipush 44, 2), (330, .bipush 32, 2), (332, .iastore, 1), (333, .dup, 1), (334, .bipush 45, 2), (336, .bipush 108, 2), (338, .iastore, 1), (339, .dup, 1), (340, .bipush 46, 2), (342, .bipush 111, 2), (344, .iastore, 1), (345, .dup, 1), (346, .bipush 47, 2), (348, .bipush 110, 2), (350, .iastore, 1), (351, .dup, 1), (352, .bipush 48, 2), (354, .bipush 103, 2), (356, .iastore, 1), (357, .dup, 1), (358, .bipush 49, 2), (360, .bipush 32, 2), (362, .iastore, 1), (363, .dup, 1), (364, .bipush 50, 2), (366, .bipush 108, 2), (368, .iastore, 1), (369, .dup, 1), (370, .bipush 51, 2), (372, .bipush 101, 2)]
theorem ttX11_init_3 : zdt cX11_init tX11_init_3 = true := by decide +kernel
abbrev tX11_init_4 : List (Nat × Instr × Nat) := [(374, .iastore, 1), (375, .dup, 1), (376, .bipush 52, 2), (378, .bipush 102, 2), (380, .iastore, 1), (381, .dup, 1), (382, .bipush 53, 2), (384, .bipush 116, 2), (386, .iastore, 1), (387, .dup, 1), (388, .bipush 54, 2), (390, .bipush 32, 2), (392, .iastore, 1), (393, .dup, 1), (394, .bipush 55, 2), (396, .bipush 104, 2), (398, .iastore, 1), (399, .dup, 1), (400, .bipush 56, 2), (402, .bipush 101, 2), (404, .iastore, 1), (405, .dup, 1), (406, .bipush 57, 2), (408, .bipush 114, 2), (410, .iastore, 1), (411, .dup, 1), (412, .bipush 58, 2), (414, .bipush 101, 2), (416, .iastore, 1), (417, .dup, 1), (418, .bipush 59, 2), (420, .bipush 32, 2), (422, .iastore, 1), (423, .dup, 1), (424, .bipush 60, 2), (426, .bipush 112, 2), (428, .iastore, 1), (429, .dup, 1), (430, .bipush 61, 2), (432, .bipush 101, 2), (434, .iastore, 1), (435, .dup, 1), (436, .bipush 62, 2), (438, .bipush 111, 2), (440, .iastore, 1), (441, .dup, 1), (442, .bipush 63, 2), (444, .bipush 112, 2), (446, .iastore, 1), (447, .dup, 1), (448, .bipush 64, 2), (450, .bipush 108, 2), (452, .iastore, 1), (453, .dup, 1), (454, .bipush 65, 2), (456, .bipush 101, 2), (458, .iastore, 1), (459, .dup, 1), (460, .bipush 66, 2), (462, .bipush 32, 2)]
theorem ttX11_init_4 : zdt cX11_init tX11_init_4 = true := by decide +kernel
abbrev tX11_init_5 : List (Nat × Instr × Nat) := [(464, .iastore, 1), (465, .dup, 1), (466, .bipush 67, 2), (468, .bipush 119, 2), (470, .iastore, 1), (471, .dup, 1), (472, .bipush 68, 2), (474, .bipush 111, 2), (476, .iastore, 1), (477, .dup, 1), (478, .bipush 69, 2), (480, .bipush 117, 2), (482, .iastore, 1), (483, .dup, 1), (484, .bipush 70, 2), (486, .bipush 110, 2), (488, .iastore, 1), (489, .dup, 1), (490, .bipush 71, 2), (492, .bipush 100, 2), (494, .iastore, 1), (495, .dup, 1), (496, .bipush 72, 2), (498, .bipush 32, 2), (500, .iastore, 1), (501, .dup, 1), (502, .bipush 73, 2), (504, .bipush 116, 2), (506, .iastore, 1), (507, .dup, 1), (508, .bipush 74, 2), (510, .bipush 105, 2), (512, .iastore, 1), (513, .dup, 1), (514, .bipush 75, 2), (516, .bipush 109, 2), (518, .iastore, 1), (519, .dup, 1), (520, .bipush 76, 2), (522, .bipush 101, 2), (524, .iastore, 1), (525, .dup, 1), (526, .bipush 77, 2), (528, .bipush 32, 2), (530, .iastore, 1), (531, .dup, 1), (532, .bipush 78, 2), (534, .bipush 115, 2), (536, .iastore, 1), (537, .dup, 1), (538, .bipush 79, 2), (540, .bipush 99, 2), (542, .iastore, 1), (543, .dup, 1), (544, .bipush 80, 2), (546, .bipush 104, 2), (548, .iastore, 1), (549, .dup, 1), (550, .bipush 81, 2), (552, .bipush 111, 2)]
theorem ttX11_init_5 : zdt cX11_init tX11_init_5 = true := by decide +kernel
abbrev tX11_init_6 : List (Nat × Instr × Nat) := [(554, .iastore, 1), (555, .dup, 1), (556, .bipush 82, 2), (558, .bipush 111, 2), (560, .iastore, 1), (561, .dup, 1), (562, .bipush 83, 2), (564, .bipush 108, 2), (566, .iastore, 1), (567, .dup, 1), (568, .bipush 84, 2), (570, .bipush 32, 2), (572, .iastore, 1), (573, .dup, 1), (574, .bipush 85, 2), (576, .bipush 107, 2), (578, .iastore, 1), (579, .dup, 1), (580, .bipush 86, 2), (582, .bipush 105, 2), (584, .iastore, 1), (585, .dup, 1), (586, .bipush 87, 2), (588, .bipush 110, 2), (590, .iastore, 1), (591, .dup, 1), (592, .bipush 88, 2), (594, .bipush 32, 2), (596, .iastore, 1), (597, .dup, 1), (598, .bipush 89, 2), (600, .bipush 100, 2), (602, .iastore, 1), (603, .dup, 1), (604, .bipush 90, 2), (606, .bipush 97, 2), (608, .iastore, 1), (609, .dup, 1), (610, .bipush 91, 2), (612, .bipush 121, 2), (614, .iastore, 1), (615, .dup, 1), (616, .bipush 92, 2), (618, .bipush 32, 2), (620, .iastore, 1), (621, .dup, 1), (622, .bipush 93, 2), (624, .bipush 111, 2), (626, .iastore, 1), (627, .dup, 1), (628, .bipush 94, 2), (630, .bipush 110, 2), (632, .iastore, 1), (633, .dup, 1), (634, .bipush 95, 2), (636, .bipush 32, 2), (638, .iastore, 1), (639, .dup, 1), (640, .bipush 96, 2), (642, .bipush 98, 2)]
theorem ttX11_init_6 : zdt cX11_init tX11_init_6 = true := by decide +kernel
abbrev tX11_init_7 : List (Nat × Instr × Nat) := [(644, .iastore, 1), (645, .dup, 1), (646, .bipush 97, 2), (648, .bipush 111, 2), (650, .iastore, 1), (651, .dup, 1), (652, .bipush 98, 2), (654, .bipush 97, 2), (656, .iastore, 1), (657, .dup, 1), (658, .bipush 99, 2), (660, .bipush 116, 2), (662, .iastore, 1), (663, .dup, 1), (664, .bipush 100, 2), (666, .bipush 32, 2), (668, .iastore, 1), (669, .dup, 1), (670, .bipush 101, 2), (672, .bipush 111, 2), (674, .iastore, 1), (675, .dup, 1), (676, .bipush 102, 2), (678, .bipush 117, 2), (680, .iastore, 1), (681, .dup, 1), (682, .bipush 103, 2), (684, .bipush 116, 2), (686, .iastore, 1), (687, .dup, 1), (688, .bipush 104, 2), (690, .bipush 32, 2), (692, .iastore, 1), (693, .dup, 1), (694, .bipush 105, 2), (696, .bipush 98, 2), (698, .iastore, 1), (699, .dup, 1), (700, .bipush 106, 2), (702, .bipush 97, 2), (704, .iastore, 1), (705, .dup, 1), (706, .bipush 107, 2), (708, .bipush 99, 2), (710, .iastore, 1), (711, .dup, 1), (712, .bipush 108, 2), (714, .bipush 107, 2), (716, .iastore, 1), (717, .dup, 1), (718, .bipush 109, 2), (720, .bipush 32, 2), (722, .iastore, 1), (723, .dup, 1), (724, .bipush 110, 2), (726, .bipush 98, 2), (728, .iastore, 1), (729, .dup, 1), (730, .bipush 111, 2), (732, .bipush 101, 2)]
theorem ttX11_init_7 : zdt cX11_init tX11_init_7 = true := by decide +kernel
abbrev tX11_init_8 : List (Nat × Instr × Nat) := [(734, .iastore, 1), (735, .dup, 1), (736, .bipush 112, 2), (738, .bipush 103, 2), (740, .iastore, 1), (741, .dup, 1), (742, .bipush 113, 2), (744, .bipush 32, 2), (746, .iastore, 1), (747, .dup, 1), (748, .bipush 114, 2), (750, .bipush 105, 2), (752, .iastore, 1), (753, .dup, 1), (754, .bipush 115, 2), (756, .bipush 115, 2), (758, .iastore, 1), (759, .dup, 1), (760, .bipush 116, 2), (762, .bipush 108, 2), (764, .iastore, 1), (765, .dup, 1), (766, .bipush 117, 2), (768, .bipush 97, 2), (770, .iastore, 1), (771, .dup, 1), (772, .bipush 118, 2), (774, .bipush 110, 2), (776, .iastore, 1), (777, .dup, 1), (778, .bipush 119, 2), (780, .bipush 100, 2), (782, .iastore, 1), (783, .dup, 1), (784, .bipush 120, 2), (786, .bipush 101, 2), (788, .iastore, 1), (789, .dup, 1), (790, .bipush 121, 2), (792, .bipush 114, 2), (794, .iastore, 1), (795, .dup, 1), (796, .bipush 122, 2), (798, .bipush 32, 2), (800, .iastore, 1), (801, .dup, 1), (802, .bipush 123, 2), (804, .bipush 102, 2), (806, .iastore, 1), (807, .dup, 1), (808, .bipush 124, 2), (810, .bipush 114, 2), (812, .iastore, 1), (813, .dup, 1), (814, .bipush 125, 2), (816, .bipush 101, 2), (818, .iastore, 1), (819, .dup, 1), (820, .bipush 126, 2), (822, .bipush 101, 2)]
theorem ttX11_init_8 : zdt cX11_init tX11_init_8 = true := by decide +kernel
abbrev tX11_init_9 : List (Nat × Instr × Nat) := [(824, .iastore, 1), (825, .dup, 1), (826, .bipush 127, 2), (828, .bipush 32, 2), (830, .iastore, 1), (831, .dup, 1), (832, .sipush 128, 3), (835, .bipush 104, 2), (837, .iastore, 1), (838, .dup, 1), (839, .sipush 129, 3), (842, .bipush 111, 2), (844, .iastore, 1), (845, .dup, 1), (846, .sipush 130, 3), (849, .bipush 108, 2), (851, .iastore, 1), (852, .dup, 1), (853, .sipush 131, 3), (856, .bipush 105, 2), (858, .iastore, 1), (859, .dup, 1), (860, .sipush 132, 3), (863, .bipush 100, 2), (865, .iastore, 1), (866, .dup, 1), (867, .sipush 133, 3), (870, .bipush 97, 2), (872, .iastore, 1), (873, .dup, 1), (874, .sipush 134, 3), (877, .bipush 121, 2), (879, .iastore, 1), (880, .dup, 1), (881, .sipush 135, 3), (884, .bipush 32, 2), (886, .iastore, 1), (887, .dup, 1), (888, .sipush 136, 3), (891, .bipush 105, 2), (893, .iastore, 1), (894, .dup, 1), (895, .sipush 137, 3), (898, .bipush 110, 2), (900, .iastore, 1), (901, .dup, 1), (902, .sipush 138, 3), (905, .bipush 116, 2), (907, .iastore, 1), (908, .dup, 1), (909, .sipush 139, 3), (912, .bipush 101, 2), (914, .iastore, 1), (915, .dup, 1), (916, .sipush 140, 3), (919, .bipush 114, 2), (921, .iastore, 1), (922, .dup, 1), (923, .sipush 141, 3), (926, .bipush 101, 2)]
theorem ttX11_init_9 : zdt cX11_init tX11_init_9 = true := by decide +kernel
abbrev tX11_init_10 : List (Nat × Instr × Nat) := [(928, .iastore, 1), (929, .dup, 1), (930, .sipush 142, 3), (933, .bipush 115, 2), (935, .iastore, 1), (936, .dup, 1), (937, .sipush 143, 3), (940, .bipush 116, 2), (942, .iastore, 1), (943, .dup, 1), (944, .sipush 144, 3), (947, .bipush 32, 2), (949, .iastore, 1), (950, .dup, 1), (951, .sipush 145, 3), (954, .bipush 112, 2), (956, .iastore, 1), (957, .dup, 1), (958, .sipush 146, 3), (961, .bipush 117, 2), (963, .iastore, 1), (964, .dup, 1), (965, .sipush 147, 3), (968, .bipush 115, 2), (970, .iastore, 1), (971, .dup, 1), (972, .sipush 148, 3), (975, .bipush 104, 2), (977, .iastore, 1), (978, .dup, 1), (979, .sipush 149, 3), (982, .bipush 32, 2), (984, .iastore, 1), (985, .putfield 31, 3), (988, .aload_n 0, 1), (989, .iconst 2, 1), (990, .newarray .int, 2), (992, .putfield 34, 3), (995, .aload_n 0, 1), (996, .bipush 48, 2), (998, .newarray .int, 2), (1000, .putfield 37, 3), (1003, .aload_n 0, 1), (1004, .bipush 48, 2), (1006, .newarray .int, 2), (1008, .putfield 40, 3), (1011, .aload_n 0, 1), (1012, .bipush 48, 2), (1014, .newarray .int, 2), (1016, .putfield 43, 3), (1019, .aload_n 0, 1), (1020, .bipush 48, 2), (1022, .newarray .int, 2), (1024, .putfield 46, 3), (1027, .aload_n 0, 1), (1028, .sipush 1200, 3), (1031, .newarray .int, 2), (1033, .putfield 49, 3), (1036, .aload_n 0, 1), (1037, .sipush 1200, 3)]
theorem ttX11_init_10 : zdt cX11_init tX11_init_10 = true := by decide +kernel
abbrev tX11_init_11 : List (Nat × Instr × Nat) := [(1040, .newarray .int, 2), (1042, .putfield 52, 3), (1045, .aload_n 0, 1), (1046, .bipush 40, 2), (1048, .newarray .int, 2), (1050, .putfield 55, 3), (1053, .aload_n 0, 1), (1054, .iconst (-1), 1), (1055, .putfield 58, 3), (1058, .aload_n 0, 1), (1059, .bipush 96, 2), (1061, .newarray .int, 2), (1063, .putfield 62, 3), (1066, .aload_n 0, 1), (1067, .bipush 96, 2), (1069, .newarray .int, 2), (1071, .putfield 65, 3), (1074, .aload_n 0, 1), (1075, .bipush 36, 2), (1077, .newarray .int, 2), (1079, .putfield 68, 3), (1082, .aload_n 0, 1), (1083, .bipush 10, 2), (1085, .newarray .int, 2), (1087, .putfield 71, 3), (1090, .aload_n 0, 1), (1091, .sipush 420, 3), (1094, .newarray .int, 2), (1096, .putfield 74, 3), (1099, .aload_n 0, 1), (1100, .bipush 18, 2), (1102, .newarray .int, 2), (1104, .putfield 77, 3), (1107, .aload_n 0, 1), (1108, .bipush 8, 2), (1110, .newarray .int, 2), (1112, .putfield 80, 3), (1115, .aload_n 0, 1), (1116, .bipush 8, 2), (1118, .newarray .int, 2), (1120, .putfield 83, 3), (1123, .aload_n 0, 1), (1124, .bipush 6, 2), (1126, .newarray .int, 2), (1128, .putfield 86, 3), (1131, .aload_n 0, 1), (1132, .sipush 128, 3), (1135, .newarray .int, 2), (1137, .putfield 89, 3), (1140, .aload_n 0, 1), (1141, .ldc 92, 2), (1143, .newarray .int, 2), (1145, .putfield 93, 3), (1148, .aload_n 0, 1), (1149, .bipush 7, 2), (1151, .newarray .int, 2), (1153, .putfield 96, 3), (1156, .aload_n 0, 1), (1157, .bipush 40, 2), (1159, .newarray .int, 2)]
theorem ttX11_init_11 : zdt cX11_init tX11_init_11 = true := by decide +kernel
abbrev tX11_init_12 : List (Nat × Instr × Nat) := [(1161, .putfield 99, 3), (1164, .aload_n 0, 1), (1165, .bipush 8, 2), (1167, .newarray .int, 2), (1169, .putfield 102, 3), (1172, .aload_n 0, 1), (1173, .bipush 6, 2), (1175, .newarray .int, 2), (1177, .putfield 105, 3), (1180, .aload_n 0, 1), (1181, .bipush 6, 2), (1183, .newarray .int, 2), (1185, .putfield 108, 3), (1188, .aload_n 0, 1), (1189, .bipush 6, 2), (1191, .newarray .int, 2), (1193, .putfield 111, 3), (1196, .aload_n 0, 1), (1197, .bipush 60, 2), (1199, .newarray .int, 2), (1201, .putfield 114, 3), (1204, .aload_n 0, 1), (1205, .sipush 2400, 3), (1208, .newarray .int, 2), (1210, .putfield 117, 3), (1213, .return_, 1)]
theorem ttX11_init_12 : zdt cX11_init tX11_init_12 = true := by decide +kernel
def zMl : List Int := [0, 1, 2, 0, 3, 0, 0, 4, 5, 6, 7, 0, 0, 0, 0, 0, 8, 9, 10, 11, 12, 13, 14, 15, 0, 0, 0, 16, 0, 0, 0, 0, (-1), 0, 17, 0, 18, 0, 19, 20, 21, 22, 0, 23, 24, 0, 25, 26, 27, 0, 28, 29, 30, 0, 31, 32, 33, 34, 0, 0, 0, 35]
def zLq_0 : List Int := [0, 1, 2, 0, 3, 0, 0, 4, 5, 6, 7, 0, 0, 0, 0, 0, 8, 9, 10, 11, 12, 13, 14, 15, 0, 0, 0, 16, 0, 0, 0, 0, (-1), 0, 17, 0, 18, 0, 19, 20, 21, 22, 0, 23, 24, 0, 25, 26, 27, 0, 28, 29, 30, 0, 31, 32, 33, 34, 0, 0, 0, 35]
def zLq_1 : List Int := [0, 1, 2, 0, 3, 0, 0, 4, 5, 6, 7, 0, 0, 0, 0, 0, (-1), (-1), (-1), (-1), (-1), (-1), (-1), (-1), 0, 0, 0, (-1), 0, 0, 0, 0, 0, 0, (-1), 0, (-1), 0, (-1), (-1), (-1), (-1), 0, (-1), (-1), 0, (-1), (-1), (-1), 0, (-1), (-1), (-1), 0, (-1), (-1), (-1), (-1), 0, 0, 0, (-1)]
def zLq_2 : List Int := [0, 1, 2, 0, 3, 0, 0, 4, 5, 6, 7, 0, 0, 0, 0, 0, 8, (-1), (-1), (-1), (-1), (-1), (-1), (-1), 0, 0, 0, (-1), 0, 0, 0, 0, 0, 0, (-1), 0, (-1), 0, (-1), (-1), (-1), (-1), 0, (-1), (-1), 0, (-1), (-1), (-1), 0, (-1), (-1), (-1), 0, (-1), (-1), (-1), (-1), 0, 0, 0, (-1)]
def zLq_3 : List Int := [0, 1, 2, 0, 3, 0, 0, 4, 5, 6, 7, 0, 0, 0, 0, 0, 8, 9, (-1), (-1), (-1), (-1), (-1), (-1), 0, 0, 0, (-1), 0, 0, 0, 0, 0, 0, (-1), 0, (-1), 0, (-1), (-1), (-1), (-1), 0, (-1), (-1), 0, (-1), (-1), (-1), 0, (-1), (-1), (-1), 0, (-1), (-1), (-1), (-1), 0, 0, 0, (-1)]
def zLq_4 : List Int := [0, 1, 2, 0, 3, 0, 0, 4, 5, 6, 7, 0, 0, 0, 0, 0, 8, 9, 10, (-1), (-1), (-1), (-1), (-1), 0, 0, 0, (-1), 0, 0, 0, 0, 0, 0, (-1), 0, (-1), 0, (-1), (-1), (-1), (-1), 0, (-1), (-1), 0, (-1), (-1), (-1), 0, (-1), (-1), (-1), 0, (-1), (-1), (-1), (-1), 0, 0, 0, (-1)]
def zLq_5 : List Int := [0, 1, 2, 0, 3, 0, 0, 4, 5, 6, 7, 0, 0, 0, 0, 0, 8, 9, 10, 11, (-1), (-1), (-1), (-1), 0, 0, 0, (-1), 0, 0, 0, 0, 0, 0, (-1), 0, (-1), 0, (-1), (-1), (-1), (-1), 0, (-1), (-1), 0, (-1), (-1), (-1), 0, (-1), (-1), (-1), 0, (-1), (-1), (-1), (-1), 0, 0, 0, (-1)]
def zLq_6 : List Int := [0, 1, 2, 0, 3, 0, 0, 4, 5, 6, 7, 0, 0, 0, 0, 0, 8, 9, 10, 11, 12, (-1), (-1), (-1), 0, 0, 0, (-1), 0, 0, 0, 0, 0, 0, (-1), 0, (-1), 0, (-1), (-1), (-1), (-1), 0, (-1), (-1), 0, (-1), (-1), (-1), 0, (-1), (-1), (-1), 0, (-1), (-1), (-1), (-1), 0, 0, 0, (-1)]
def zLq_7 : List Int := [0, 1, 2, 0, 3, 0, 0, 4, 5, 6, 7, 0, 0, 0, 0, 0, 8, 9, 10, 11, 12, 13, (-1), (-1), 0, 0, 0, (-1), 0, 0, 0, 0, 0, 0, (-1), 0, (-1), 0, (-1), (-1), (-1), (-1), 0, (-1), (-1), 0, (-1), (-1), (-1), 0, (-1), (-1), (-1), 0, (-1), (-1), (-1), (-1), 0, 0, 0, (-1)]
def zLq_8 : List Int := [0, 1, 2, 0, 3, 0, 0, 4, 5, 6, 7, 0, 0, 0, 0, 0, 8, 9, 10, 11, 12, 13, 14, (-1), 0, 0, 0, (-1), 0, 0, 0, 0, 0, 0, (-1), 0, (-1), 0, (-1), (-1), (-1), (-1), 0, (-1), (-1), 0, (-1), (-1), (-1), 0, (-1), (-1), (-1), 0, (-1), (-1), (-1), (-1), 0, 0, 0, (-1)]
def zLq_9 : List Int := [0, 1, 2, 0, 3, 0, 0, 4, 5, 6, 7, 0, 0, 0, 0, 0, 8, 9, 10, 11, 12, 13, 14, 15, 0, 0, 0, (-1), 0, 0, 0, 0, 0, 0, (-1), 0, (-1), 0, (-1), (-1), (-1), (-1), 0, (-1), (-1), 0, (-1), (-1), (-1), 0, (-1), (-1), (-1), 0, (-1), (-1), (-1), (-1), 0, 0, 0, (-1)]
def zLq_10 : List Int := [0, 1, 2, 0, 3, 0, 0, 4, 5, 6, 7, 0, 0, 0, 0, 0, 8, 9, 10, 11, 12, 13, 14, 15, 0, 0, 0, 16, 0, 0, 0, 0, (-1), 0, (-1), 0, (-1), 0, (-1), (-1), (-1), (-1), 0, (-1), (-1), 0, (-1), (-1), (-1), 0, (-1), (-1), (-1), 0, (-1), (-1), (-1), (-1), 0, 0, 0, (-1)]
def zLq_11 : List Int := [0, 1, 2, 0, 3, 0, 0, 4, 5, 6, 7, 0, 0, 0, 0, 0, 8, 9, 10, 11, 12, 13, 14, 15, 0, 0, 0, 16, 0, 0, 0, 0, (-1), 0, 17, 0, (-1), 0, (-1), (-1), (-1), (-1), 0, (-1), (-1), 0, (-1), (-1), (-1), 0, (-1), (-1), (-1), 0, (-1), (-1), (-1), (-1), 0, 0, 0, (-1)]
def zLq_12 : List Int := [0, 1, 2, 0, 3, 0, 0, 4, 5, 6, 7, 0, 0, 0, 0, 0, 8, 9, 10, 11, 12, 13, 14, 15, 0, 0, 0, 16, 0, 0, 0, 0, (-1), 0, 17, 0, 18, 0, (-1), (-1), (-1), (-1), 0, (-1), (-1), 0, (-1), (-1), (-1), 0, (-1), (-1), (-1), 0, (-1), (-1), (-1), (-1), 0, 0, 0, (-1)]
def zLq_13 : List Int := [0, 1, 2, 0, 3, 0, 0, 4, 5, 6, 7, 0, 0, 0, 0, 0, 8, 9, 10, 11, 12, 13, 14, 15, 0, 0, 0, 16, 0, 0, 0, 0, (-1), 0, 17, 0, 18, 0, 19, (-1), (-1), (-1), 0, (-1), (-1), 0, (-1), (-1), (-1), 0, (-1), (-1), (-1), 0, (-1), (-1), (-1), (-1), 0, 0, 0, (-1)]
def zLq_14 : List Int := [0, 1, 2, 0, 3, 0, 0, 4, 5, 6, 7, 0, 0, 0, 0, 0, 8, 9, 10, 11, 12, 13, 14, 15, 0, 0, 0, 16, 0, 0, 0, 0, (-1), 0, 17, 0, 18, 0, 19, 20, (-1), (-1), 0, (-1), (-1), 0, (-1), (-1), (-1), 0, (-1), (-1), (-1), 0, (-1), (-1), (-1), (-1), 0, 0, 0, (-1)]
def zLq_15 : List Int := [0, 1, 2, 0, 3, 0, 0, 4, 5, 6, 7, 0, 0, 0, 0, 0, 8, 9, 10, 11, 12, 13, 14, 15, 0, 0, 0, 16, 0, 0, 0, 0, (-1), 0, 17, 0, 18, 0, 19, 20, 21, (-1), 0, (-1), (-1), 0, (-1), (-1), (-1), 0, (-1), (-1), (-1), 0, (-1), (-1), (-1), (-1), 0, 0, 0, (-1)]
def zLq_16 : List Int := [0, 1, 2, 0, 3, 0, 0, 4, 5, 6, 7, 0, 0, 0, 0, 0, 8, 9, 10, 11, 12, 13, 14, 15, 0, 0, 0, 16, 0, 0, 0, 0, (-1), 0, 17, 0, 18, 0, 19, 20, 21, 22, 0, (-1), (-1), 0, (-1), (-1), (-1), 0, (-1), (-1), (-1), 0, (-1), (-1), (-1), (-1), 0, 0, 0, (-1)]
def zLq_17 : List Int := [0, 1, 2, 0, 3, 0, 0, 4, 5, 6, 7, 0, 0, 0, 0, 0, 8, 9, 10, 11, 12, 13, 14, 15, 0, 0, 0, 16, 0, 0, 0, 0, (-1), 0, 17, 0, 18, 0, 19, 20, 21, 22, 0, 23, (-1), 0, (-1), (-1), (-1), 0, (-1), (-1), (-1), 0, (-1), (-1), (-1), (-1), 0, 0, 0, (-1)]
def zLq_18 : List Int := [0, 1, 2, 0, 3, 0, 0, 4, 5, 6, 7, 0, 0, 0, 0, 0, 8, 9, 10, 11, 12, 13, 14, 15, 0, 0, 0, 16, 0, 0, 0, 0, (-1), 0, 17, 0, 18, 0, 19, 20, 21, 22, 0, 23, 24, 0, (-1), (-1), (-1), 0, (-1), (-1), (-1), 0, (-1), (-1), (-1), (-1), 0, 0, 0, (-1)]
def zLq_19 : List Int := [0, 1, 2, 0, 3, 0, 0, 4, 5, 6, 7, 0, 0, 0, 0, 0, 8, 9, 10, 11, 12, 13, 14, 15, 0, 0, 0, 16, 0, 0, 0, 0, (-1), 0, 17, 0, 18, 0, 19, 20, 21, 22, 0, 23, 24, 0, 25, (-1), (-1), 0, (-1), (-1), (-1), 0, (-1), (-1), (-1), (-1), 0, 0, 0, (-1)]
def zLq_20 : List Int := [0, 1, 2, 0, 3, 0, 0, 4, 5, 6, 7, 0, 0, 0, 0, 0, 8, 9, 10, 11, 12, 13, 14, 15, 0, 0, 0, 16, 0, 0, 0, 0, (-1), 0, 17, 0, 18, 0, 19, 20, 21, 22, 0, 23, 24, 0, 25, 26, (-1), 0, (-1), (-1), (-1), 0, (-1), (-1), (-1), (-1), 0, 0, 0, (-1)]
def zLq_21 : List Int := [0, 1, 2, 0, 3, 0, 0, 4, 5, 6, 7, 0, 0, 0, 0, 0, 8, 9, 10, 11, 12, 13, 14, 15, 0, 0, 0, 16, 0, 0, 0, 0, (-1), 0, 17, 0, 18, 0, 19, 20, 21, 22, 0, 23, 24, 0, 25, 26, 27, 0, (-1), (-1), (-1), 0, (-1), (-1), (-1), (-1), 0, 0, 0, (-1)]
def zLq_22 : List Int := [0, 1, 2, 0, 3, 0, 0, 4, 5, 6, 7, 0, 0, 0, 0, 0, 8, 9, 10, 11, 12, 13, 14, 15, 0, 0, 0, 16, 0, 0, 0, 0, (-1), 0, 17, 0, 18, 0, 19, 20, 21, 22, 0, 23, 24, 0, 25, 26, 27, 0, 28, (-1), (-1), 0, (-1), (-1), (-1), (-1), 0, 0, 0, (-1)]
def zLq_23 : List Int := [0, 1, 2, 0, 3, 0, 0, 4, 5, 6, 7, 0, 0, 0, 0, 0, 8, 9, 10, 11, 12, 13, 14, 15, 0, 0, 0, 16, 0, 0, 0, 0, (-1), 0, 17, 0, 18, 0, 19, 20, 21, 22, 0, 23, 24, 0, 25, 26, 27, 0, 28, 29, (-1), 0, (-1), (-1), (-1), (-1), 0, 0, 0, (-1)]
def zLq_24 : List Int := [0, 1, 2, 0, 3, 0, 0, 4, 5, 6, 7, 0, 0, 0, 0, 0, 8, 9, 10, 11, 12, 13, 14, 15, 0, 0, 0, 16, 0, 0, 0, 0, (-1), 0, 17, 0, 18, 0, 19, 20, 21, 22, 0, 23, 24, 0, 25, 26, 27, 0, 28, 29, 30, 0, (-1), (-1), (-1), (-1), 0, 0, 0, (-1)]
def zLq_25 : List Int := [0, 1, 2, 0, 3, 0, 0, 4, 5, 6, 7, 0, 0, 0, 0, 0, 8, 9, 10, 11, 12, 13, 14, 15, 0, 0, 0, 16, 0, 0, 0, 0, (-1), 0, 17, 0, 18, 0, 19, 20, 21, 22, 0, 23, 24, 0, 25, 26, 27, 0, 28, 29, 30, 0, 31, (-1), (-1), (-1), 0, 0, 0, (-1)]
def zLq_26 : List Int := [0, 1, 2, 0, 3, 0, 0, 4, 5, 6, 7, 0, 0, 0, 0, 0, 8, 9, 10, 11, 12, 13, 14, 15, 0, 0, 0, 16, 0, 0, 0, 0, (-1), 0, 17, 0, 18, 0, 19, 20, 21, 22, 0, 23, 24, 0, 25, 26, 27, 0, 28, 29, 30, 0, 31, 32, (-1), (-1), 0, 0, 0, (-1)]
def zLq_27 : List Int := [0, 1, 2, 0, 3, 0, 0, 4, 5, 6, 7, 0, 0, 0, 0, 0, 8, 9, 10, 11, 12, 13, 14, 15, 0, 0, 0, 16, 0, 0, 0, 0, (-1), 0, 17, 0, 18, 0, 19, 20, 21, 22, 0, 23, 24, 0, 25, 26, 27, 0, 28, 29, 30, 0, 31, 32, 33, (-1), 0, 0, 0, (-1)]
def zLq_28 : List Int := [0, 1, 2, 0, 3, 0, 0, 4, 5, 6, 7, 0, 0, 0, 0, 0, 8, 9, 10, 11, 12, 13, 14, 15, 0, 0, 0, 16, 0, 0, 0, 0, (-1), 0, 17, 0, 18, 0, 19, 20, 21, 22, 0, 23, 24, 0, 25, 26, 27, 0, 28, 29, 30, 0, 31, 32, 33, 34, 0, 0, 0, (-1)]
def zLq_29 : List Int := [0, (-1), (-1), 0, (-1), 0, 0, (-1), (-1), (-1), (-1), 0, 0, 0, 0, 0, (-1), (-1), (-1), (-1), (-1), (-1), (-1), (-1), 0, 0, 0, (-1), 0, 0, 0, 0, 0, 0, (-1), 0, (-1), 0, (-1), (-1), (-1), (-1), 0, (-1), (-1), 0, (-1), (-1), (-1), 0, (-1), (-1), (-1), 0, (-1), (-1), (-1), (-1), 0, 0, 0, (-1)]
def zLq_30 : List Int := [0, 1, (-1), 0, (-1), 0, 0, (-1), (-1), (-1), (-1), 0, 0, 0, 0, 0, (-1), (-1), (-1), (-1), (-1), (-1), (-1), (-1), 0, 0, 0, (-1), 0, 0, 0, 0, 0, 0, (-1), 0, (-1), 0, (-1), (-1), (-1), (-1), 0, (-1), (-1), 0, (-1), (-1), (-1), 0, (-1), (-1), (-1), 0, (-1), (-1), (-1), (-1), 0, 0, 0, (-1)]
def zLq_31 : List Int := [0, 1, 2, 0, (-1), 0, 0, (-1), (-1), (-1), (-1), 0, 0, 0, 0, 0, (-1), (-1), (-1), (-1), (-1), (-1), (-1), (-1), 0, 0, 0, (-1), 0, 0, 0, 0, 0, 0, (-1), 0, (-1), 0, (-1), (-1), (-1), (-1), 0, (-1), (-1), 0, (-1), (-1), (-1), 0, (-1), (-1), (-1), 0, (-1), (-1), (-1), (-1), 0, 0, 0, (-1)]
def zLq_32 : List Int := [0, 1, 2, 0, 3, 0, 0, (-1), (-1), (-1), (-1), 0, 0, 0, 0, 0, (-1), (-1), (-1), (-1), (-1), (-1), (-1), (-1), 0, 0, 0, (-1), 0, 0, 0, 0, 0, 0, (-1), 0, (-1), 0, (-1), (-1), (-1), (-1), 0, (-1), (-1), 0, (-1), (-1), (-1), 0, (-1), (-1), (-1), 0, (-1), (-1), (-1), (-1), 0, 0, 0, (-1)]
def zLq_33 : List Int := [0, 1, 2, 0, 3, 0, 0, 4, (-1), (-1), (-1), 0, 0, 0, 0, 0, (-1), (-1), (-1), (-1), (-1), (-1), (-1), (-1), 0, 0, 0, (-1), 0, 0, 0, 0, 0, 0, (-1), 0, (-1), 0, (-1), (-1), (-1), (-1), 0, (-1), (-1), 0, (-1), (-1), (-1), 0, (-1), (-1), (-1), 0, (-1), (-1), (-1), (-1), 0, 0, 0, (-1)]
def zLq_34 : List Int := [0, 1, 2, 0, 3, 0, 0, 4, 5, (-1), (-1), 0, 0, 0, 0, 0, (-1), (-1), (-1), (-1), (-1), (-1), (-1), (-1), 0, 0, 0, (-1), 0, 0, 0, 0, 0, 0, (-1), 0, (-1), 0, (-1), (-1), (-1), (-1), 0, (-1), (-1), 0, (-1), (-1), (-1), 0, (-1), (-1), (-1), 0, (-1), (-1), (-1), (-1), 0, 0, 0, (-1)]
def zLq_35 : List Int := [0, 1, 2, 0, 3, 0, 0, 4, 5, 6, (-1), 0, 0, 0, 0, 0, (-1), (-1), (-1), (-1), (-1), (-1), (-1), (-1), 0, 0, 0, (-1), 0, 0, 0, 0, 0, 0, (-1), 0, (-1), 0, (-1), (-1), (-1), (-1), 0, (-1), (-1), 0, (-1), (-1), (-1), 0, (-1), (-1), (-1), 0, (-1), (-1), (-1), (-1), 0, 0, 0, (-1)]
set_option maxRecDepth 100000 in
set_option maxHeartbeats 4000000 in
theorem cm_4 (l : Launch) (h : zM) (q0 : zMc 9 zLq_1 h) (wk : zWk 120 h) : zJ shM l yX11_init cX11_init 1 none (rmA 1 35 123964) 35 123964 (zqv fun h' => zMc 36 zMl h' ∧ h'.2 8 149 = 32 ∧ zWk 150 h') 8 1690 783 [some (.inr 0)] [.inr 8, .inr 0] h := by
  refine zj_dup (zdk ttX11_init_8 33 rfl rfl) ?_
  refine zj_bipush (zdk ttX11_init_8 34 rfl rfl) (by decide) ?_
  refine zj_bipush (zdk ttX11_init_8 35 rfl rfl) (by decide) ?_
  refine zj_iast (zdk ttX11_init_8 36 rfl rfl) ⟨rfl, by decide, by have := q0.1; omega⟩ (by decide) (by decide) (fun h406 e407 => ?_)
  have q408 : zMc 9 zLq_1 h406 := zMc_w q0 e407 (by decide)
  have wk : zWk 121 h406 := zWk_s (m := 120) wk e407 rfl (by decide)
  refine zj_dup (zdk ttX11_init_8 37 rfl rfl) ?_
  refine zj_bipush (zdk ttX11_init_8 38 rfl rfl) (by decide) ?_
  refine zj_bipush (zdk ttX11_init_8 39 rfl rfl) (by decide) ?_
  refine zj_iast (zdk ttX11_init_8 40 rfl rfl) ⟨rfl, by decide, by have := q408.1; omega⟩ (by decide) (by decide) (fun h409 e410 => ?_)
  have q411 : zMc 9 zLq_1 h409 := zMc_w q408 e410 (by decide)
  have wk : zWk 122 h409 := zWk_s (m := 121) wk e410 rfl (by decide)
  refine zj_dup (zdk ttX11_init_8 41 rfl rfl) ?_
  refine zj_bipush (zdk ttX11_init_8 42 rfl rfl) (by decide) ?_
  refine zj_bipush (zdk ttX11_init_8 43 rfl rfl) (by decide) ?_
  refine zj_iast (zdk ttX11_init_8 44 rfl rfl) ⟨rfl, by decide, by have := q411.1; omega⟩ (by decide) (by decide) (fun h412 e413 => ?_)
  have q414 : zMc 9 zLq_1 h412 := zMc_w q411 e413 (by decide)
  have wk : zWk 123 h412 := zWk_s (m := 122) wk e413 rfl (by decide)
  refine zj_dup (zdk ttX11_init_8 45 rfl rfl) ?_
  refine zj_bipush (zdk ttX11_init_8 46 rfl rfl) (by decide) ?_
  refine zj_bipush (zdk ttX11_init_8 47 rfl rfl) (by decide) ?_
  refine zj_iast (zdk ttX11_init_8 48 rfl rfl) ⟨rfl, by decide, by have := q414.1; omega⟩ (by decide) (by decide) (fun h415 e416 => ?_)
  have q417 : zMc 9 zLq_1 h415 := zMc_w q414 e416 (by decide)
  have wk : zWk 124 h415 := zWk_s (m := 123) wk e416 rfl (by decide)
  refine zj_dup (zdk ttX11_init_8 49 rfl rfl) ?_
  refine zj_bipush (zdk ttX11_init_8 50 rfl rfl) (by decide) ?_
  refine zj_bipush (zdk ttX11_init_8 51 rfl rfl) (by decide) ?_
  refine zj_iast (zdk ttX11_init_8 52 rfl rfl) ⟨rfl, by decide, by have := q417.1; omega⟩ (by decide) (by decide) (fun h418 e419 => ?_)
  have q420 : zMc 9 zLq_1 h418 := zMc_w q417 e419 (by decide)
  have wk : zWk 125 h418 := zWk_s (m := 124) wk e419 rfl (by decide)
  refine zj_dup (zdk ttX11_init_8 53 rfl rfl) ?_
  refine zj_bipush (zdk ttX11_init_8 54 rfl rfl) (by decide) ?_
  refine zj_bipush (zdk ttX11_init_8 55 rfl rfl) (by decide) ?_
  refine zj_iast (zdk ttX11_init_8 56 rfl rfl) ⟨rfl, by decide, by have := q420.1; omega⟩ (by decide) (by decide) (fun h421 e422 => ?_)
  have q423 : zMc 9 zLq_1 h421 := zMc_w q420 e422 (by decide)
  have wk : zWk 126 h421 := zWk_s (m := 125) wk e422 rfl (by decide)
  refine zj_dup (zdk ttX11_init_8 57 rfl rfl) ?_
  refine zj_bipush (zdk ttX11_init_8 58 rfl rfl) (by decide) ?_
  refine zj_bipush (zdk ttX11_init_8 59 rfl rfl) (by decide) ?_
  refine zj_iast (zdk ttX11_init_9 0 rfl rfl) ⟨rfl, by decide, by have := q423.1; omega⟩ (by decide) (by decide) (fun h424 e425 => ?_)
  have q426 : zMc 9 zLq_1 h424 := zMc_w q423 e425 (by decide)
  have wk : zWk 127 h424 := zWk_s (m := 126) wk e425 rfl (by decide)
  refine zj_dup (zdk ttX11_init_9 1 rfl rfl) ?_
  refine zj_bipush (zdk ttX11_init_9 2 rfl rfl) (by decide) ?_
  refine zj_bipush (zdk ttX11_init_9 3 rfl rfl) (by decide) ?_
  refine zj_iast (zdk ttX11_init_9 4 rfl rfl) ⟨rfl, by decide, by have := q426.1; omega⟩ (by decide) (by decide) (fun h427 e428 => ?_)
  have q429 : zMc 9 zLq_1 h427 := zMc_w q426 e428 (by decide)
  have wk : zWk 128 h427 := zWk_s (m := 127) wk e428 rfl (by decide)
  refine zj_dup (zdk ttX11_init_9 5 rfl rfl) ?_
  refine zj_sipush (zdk ttX11_init_9 6 rfl rfl) (by decide) ?_
  refine zj_bipush (zdk ttX11_init_9 7 rfl rfl) (by decide) ?_
  refine zj_iast (zdk ttX11_init_9 8 rfl rfl) ⟨rfl, by decide, by have := q429.1; omega⟩ (by decide) (by decide) (fun h430 e431 => ?_)
  have q432 : zMc 9 zLq_1 h430 := zMc_w q429 e431 (by decide)
  have wk : zWk 129 h430 := zWk_s (m := 128) wk e431 rfl (by decide)
  refine zj_dup (zdk ttX11_init_9 9 rfl rfl) ?_
  refine zj_sipush (zdk ttX11_init_9 10 rfl rfl) (by decide) ?_
  refine zj_bipush (zdk ttX11_init_9 11 rfl rfl) (by decide) ?_
  refine zj_iast (zdk ttX11_init_9 12 rfl rfl) ⟨rfl, by decide, by have := q432.1; omega⟩ (by decide) (by decide) (fun h433 e434 => ?_)
  have q435 : zMc 9 zLq_1 h433 := zMc_w q432 e434 (by decide)
  have wk : zWk 130 h433 := zWk_s (m := 129) wk e434 rfl (by decide)
  refine zj_dup (zdk ttX11_init_9 13 rfl rfl) ?_
  refine zj_sipush (zdk ttX11_init_9 14 rfl rfl) (by decide) ?_
  refine zj_bipush (zdk ttX11_init_9 15 rfl rfl) (by decide) ?_
  refine zj_iast (zdk ttX11_init_9 16 rfl rfl) ⟨rfl, by decide, by have := q435.1; omega⟩ (by decide) (by decide) (fun h436 e437 => ?_)
  have q438 : zMc 9 zLq_1 h436 := zMc_w q435 e437 (by decide)
  have wk : zWk 131 h436 := zWk_s (m := 130) wk e437 rfl (by decide)
  refine zj_dup (zdk ttX11_init_9 17 rfl rfl) ?_
  refine zj_sipush (zdk ttX11_init_9 18 rfl rfl) (by decide) ?_
  refine zj_bipush (zdk ttX11_init_9 19 rfl rfl) (by decide) ?_
  refine zj_iast (zdk ttX11_init_9 20 rfl rfl) ⟨rfl, by decide, by have := q438.1; omega⟩ (by decide) (by decide) (fun h439 e440 => ?_)
  have q441 : zMc 9 zLq_1 h439 := zMc_w q438 e440 (by decide)
  have wk : zWk 132 h439 := zWk_s (m := 131) wk e440 rfl (by decide)
  refine zj_dup (zdk ttX11_init_9 21 rfl rfl) ?_
  refine zj_sipush (zdk ttX11_init_9 22 rfl rfl) (by decide) ?_
  refine zj_bipush (zdk ttX11_init_9 23 rfl rfl) (by decide) ?_
  refine zj_iast (zdk ttX11_init_9 24 rfl rfl) ⟨rfl, by decide, by have := q441.1; omega⟩ (by decide) (by decide) (fun h442 e443 => ?_)
  have q444 : zMc 9 zLq_1 h442 := zMc_w q441 e443 (by decide)
  have wk : zWk 133 h442 := zWk_s (m := 132) wk e443 rfl (by decide)
  refine zj_dup (zdk ttX11_init_9 25 rfl rfl) ?_
  refine zj_sipush (zdk ttX11_init_9 26 rfl rfl) (by decide) ?_
  refine zj_bipush (zdk ttX11_init_9 27 rfl rfl) (by decide) ?_
  refine zj_iast (zdk ttX11_init_9 28 rfl rfl) ⟨rfl, by decide, by have := q444.1; omega⟩ (by decide) (by decide) (fun h445 e446 => ?_)
  have q447 : zMc 9 zLq_1 h445 := zMc_w q444 e446 (by decide)
  have wk : zWk 134 h445 := zWk_s (m := 133) wk e446 rfl (by decide)
  refine zj_dup (zdk ttX11_init_9 29 rfl rfl) ?_
  refine zj_sipush (zdk ttX11_init_9 30 rfl rfl) (by decide) ?_
  refine zj_bipush (zdk ttX11_init_9 31 rfl rfl) (by decide) ?_
  refine zj_iast (zdk ttX11_init_9 32 rfl rfl) ⟨rfl, by decide, by have := q447.1; omega⟩ (by decide) (by decide) (fun h448 e449 => ?_)
  have q450 : zMc 9 zLq_1 h448 := zMc_w q447 e449 (by decide)
  have wk : zWk 135 h448 := zWk_s (m := 134) wk e449 rfl (by decide)
  refine zj_dup (zdk ttX11_init_9 33 rfl rfl) ?_
  refine zj_sipush (zdk ttX11_init_9 34 rfl rfl) (by decide) ?_
  refine zj_bipush (zdk ttX11_init_9 35 rfl rfl) (by decide) ?_
  refine zj_iast (zdk ttX11_init_9 36 rfl rfl) ⟨rfl, by decide, by have := q450.1; omega⟩ (by decide) (by decide) (fun h451 e452 => ?_)
  have q453 : zMc 9 zLq_1 h451 := zMc_w q450 e452 (by decide)
  have wk : zWk 136 h451 := zWk_s (m := 135) wk e452 rfl (by decide)
  refine zj_dup (zdk ttX11_init_9 37 rfl rfl) ?_
  refine zj_sipush (zdk ttX11_init_9 38 rfl rfl) (by decide) ?_
  refine zj_bipush (zdk ttX11_init_9 39 rfl rfl) (by decide) ?_
  refine zj_iast (zdk ttX11_init_9 40 rfl rfl) ⟨rfl, by decide, by have := q453.1; omega⟩ (by decide) (by decide) (fun h454 e455 => ?_)
  have q456 : zMc 9 zLq_1 h454 := zMc_w q453 e455 (by decide)
  have wk : zWk 137 h454 := zWk_s (m := 136) wk e455 rfl (by decide)
  refine zj_dup (zdk ttX11_init_9 41 rfl rfl) ?_
  refine zj_sipush (zdk ttX11_init_9 42 rfl rfl) (by decide) ?_
  refine zj_bipush (zdk ttX11_init_9 43 rfl rfl) (by decide) ?_
  refine zj_iast (zdk ttX11_init_9 44 rfl rfl) ⟨rfl, by decide, by have := q456.1; omega⟩ (by decide) (by decide) (fun h457 e458 => ?_)
  have q459 : zMc 9 zLq_1 h457 := zMc_w q456 e458 (by decide)
  have wk : zWk 138 h457 := zWk_s (m := 137) wk e458 rfl (by decide)
  refine zj_dup (zdk ttX11_init_9 45 rfl rfl) ?_
  refine zj_sipush (zdk ttX11_init_9 46 rfl rfl) (by decide) ?_
  refine zj_bipush (zdk ttX11_init_9 47 rfl rfl) (by decide) ?_
  refine zj_iast (zdk ttX11_init_9 48 rfl rfl) ⟨rfl, by decide, by have := q459.1; omega⟩ (by decide) (by decide) (fun h460 e461 => ?_)
  have q462 : zMc 9 zLq_1 h460 := zMc_w q459 e461 (by decide)
  have wk : zWk 139 h460 := zWk_s (m := 138) wk e461 rfl (by decide)
  refine zj_dup (zdk ttX11_init_9 49 rfl rfl) ?_
  refine zj_sipush (zdk ttX11_init_9 50 rfl rfl) (by decide) ?_
  refine zj_bipush (zdk ttX11_init_9 51 rfl rfl) (by decide) ?_
  refine zj_iast (zdk ttX11_init_9 52 rfl rfl) ⟨rfl, by decide, by have := q462.1; omega⟩ (by decide) (by decide) (fun h463 e464 => ?_)
  have q465 : zMc 9 zLq_1 h463 := zMc_w q462 e464 (by decide)
  have wk : zWk 140 h463 := zWk_s (m := 139) wk e464 rfl (by decide)
  refine zj_dup (zdk ttX11_init_9 53 rfl rfl) ?_
  refine zj_sipush (zdk ttX11_init_9 54 rfl rfl) (by decide) ?_
  refine zj_bipush (zdk ttX11_init_9 55 rfl rfl) (by decide) ?_
  refine zj_iast (zdk ttX11_init_9 56 rfl rfl) ⟨rfl, by decide, by have := q465.1; omega⟩ (by decide) (by decide) (fun h466 e467 => ?_)
  have q468 : zMc 9 zLq_1 h466 := zMc_w q465 e467 (by decide)
  have wk : zWk 141 h466 := zWk_s (m := 140) wk e467 rfl (by decide)
  refine zj_dup (zdk ttX11_init_9 57 rfl rfl) ?_
  refine zj_sipush (zdk ttX11_init_9 58 rfl rfl) (by decide) ?_
  refine zj_bipush (zdk ttX11_init_9 59 rfl rfl) (by decide) ?_
  refine zj_iast (zdk ttX11_init_10 0 rfl rfl) ⟨rfl, by decide, by have := q468.1; omega⟩ (by decide) (by decide) (fun h469 e470 => ?_)
  have q471 : zMc 9 zLq_1 h469 := zMc_w q468 e470 (by decide)
  have wk : zWk 142 h469 := zWk_s (m := 141) wk e470 rfl (by decide)
  refine zj_dup (zdk ttX11_init_10 1 rfl rfl) ?_
  refine zj_sipush (zdk ttX11_init_10 2 rfl rfl) (by decide) ?_
  refine zj_bipush (zdk ttX11_init_10 3 rfl rfl) (by decide) ?_
  refine zj_iast (zdk ttX11_init_10 4 rfl rfl) ⟨rfl, by decide, by have := q471.1; omega⟩ (by decide) (by decide) (fun h472 e473 => ?_)
  have q474 : zMc 9 zLq_1 h472 := zMc_w q471 e473 (by decide)
  have wk : zWk 143 h472 := zWk_s (m := 142) wk e473 rfl (by decide)
  refine zj_dup (zdk ttX11_init_10 5 rfl rfl) ?_
  refine zj_sipush (zdk ttX11_init_10 6 rfl rfl) (by decide) ?_
  refine zj_bipush (zdk ttX11_init_10 7 rfl rfl) (by decide) ?_
  refine zj_iast (zdk ttX11_init_10 8 rfl rfl) ⟨rfl, by decide, by have := q474.1; omega⟩ (by decide) (by decide) (fun h475 e476 => ?_)
  have q477 : zMc 9 zLq_1 h475 := zMc_w q474 e476 (by decide)
  have wk : zWk 144 h475 := zWk_s (m := 143) wk e476 rfl (by decide)
  refine zj_dup (zdk ttX11_init_10 9 rfl rfl) ?_
  refine zj_sipush (zdk ttX11_init_10 10 rfl rfl) (by decide) ?_
  refine zj_bipush (zdk ttX11_init_10 11 rfl rfl) (by decide) ?_
  refine zj_iast (zdk ttX11_init_10 12 rfl rfl) ⟨rfl, by decide, by have := q477.1; omega⟩ (by decide) (by decide) (fun h478 e479 => ?_)
  have q480 : zMc 9 zLq_1 h478 := zMc_w q477 e479 (by decide)
  have wk : zWk 145 h478 := zWk_s (m := 144) wk e479 rfl (by decide)
  refine zj_dup (zdk ttX11_init_10 13 rfl rfl) ?_
  refine zj_sipush (zdk ttX11_init_10 14 rfl rfl) (by decide) ?_
  refine zj_bipush (zdk ttX11_init_10 15 rfl rfl) (by decide) ?_
  refine zj_iast (zdk ttX11_init_10 16 rfl rfl) ⟨rfl, by decide, by have := q480.1; omega⟩ (by decide) (by decide) (fun h481 e482 => ?_)
  have q483 : zMc 9 zLq_1 h481 := zMc_w q480 e482 (by decide)
  have wk : zWk 146 h481 := zWk_s (m := 145) wk e482 rfl (by decide)
  refine zj_dup (zdk ttX11_init_10 17 rfl rfl) ?_
  refine zj_sipush (zdk ttX11_init_10 18 rfl rfl) (by decide) ?_
  refine zj_bipush (zdk ttX11_init_10 19 rfl rfl) (by decide) ?_
  refine zj_iast (zdk ttX11_init_10 20 rfl rfl) ⟨rfl, by decide, by have := q483.1; omega⟩ (by decide) (by decide) (fun h484 e485 => ?_)
  have q486 : zMc 9 zLq_1 h484 := zMc_w q483 e485 (by decide)
  have wk : zWk 147 h484 := zWk_s (m := 146) wk e485 rfl (by decide)
  refine zj_dup (zdk ttX11_init_10 21 rfl rfl) ?_
  refine zj_sipush (zdk ttX11_init_10 22 rfl rfl) (by decide) ?_
  refine zj_bipush (zdk ttX11_init_10 23 rfl rfl) (by decide) ?_
  refine zj_iast (zdk ttX11_init_10 24 rfl rfl) ⟨rfl, by decide, by have := q486.1; omega⟩ (by decide) (by decide) (fun h487 e488 => ?_)
  have q489 : zMc 9 zLq_1 h487 := zMc_w q486 e488 (by decide)
  have wk : zWk 148 h487 := zWk_s (m := 147) wk e488 rfl (by decide)
  refine zj_dup (zdk ttX11_init_10 25 rfl rfl) ?_
  refine zj_sipush (zdk ttX11_init_10 26 rfl rfl) (by decide) ?_
  refine zj_bipush (zdk ttX11_init_10 27 rfl rfl) (by decide) ?_
  refine zj_iast (zdk ttX11_init_10 28 rfl rfl) ⟨rfl, by decide, by have := q489.1; omega⟩ (by decide) (by decide) (fun h490 e491 => ?_)
  have q492 : zMc 9 zLq_1 h490 := zMc_w q489 e491 (by decide)
  have wk : zWk 149 h490 := zWk_s (m := 148) wk e491 rfl (by decide)
  refine zj_dup (zdk ttX11_init_10 29 rfl rfl) ?_
  refine zj_sipush (zdk ttX11_init_10 30 rfl rfl) (by decide) ?_
  refine zj_bipush (zdk ttX11_init_10 31 rfl rfl) (by decide) ?_
  refine zj_iast (zdk ttX11_init_10 32 rfl rfl) ⟨rfl, by decide, by have := q492.1; omega⟩ (by decide) (by decide) (fun h493 e494 => ?_)
  have q495 : zMc 9 zLq_1 h493 := zMc_w q492 e494 (by decide)
  have wk : zWk 150 h493 := zWk_s (m := 149) wk e494 rfl (by decide)
  have w149 : h493.2 8 149 = 32 := zwr_v e494
  refine zj_putr (zdk ttX11_init_10 33 rfl rfl) zf_RX11_31 rfl ⟨rfl, by decide, by have := q495.1; omega⟩ (Or.inr ⟨rfl, zw_RX11_31⟩) (k2 := 16) rfl (fun h496 e497 => ?_)
  have vh496 : h496.2 8 149 = 32 := (zwr_r e497 (by decide)).trans w149
  have wk : zWk 150 h496 := zWk_f wk e497 (by decide)
  have q498 : zMc 9 zLq_2 h496 := zMc_f (f := 16) q495 e497 rfl (by decide) rfl
  have w149 := vh496
  refine zj_aload_n (zdk ttX11_init_10 34 rfl rfl) rfl (by decide) ?_
  refine zj_iconst (zdk ttX11_init_10 35 rfl rfl) ?_
  have kh499 : ((h496.1 : Nat) : Int) = 9 := q498.1
  refine zj_newi (N := 2) (zdk ttX11_init_10 36 rfl rfl) wa_int rfl (by decide) (by rw [kh499]; rfl) ⟨Nat.le_of_ble_eq_true rfl, Nat.le_of_ble_eq_true rfl⟩ (fun h499 e500 => ?_)
  rw [kh499]
  have q501 : zMc 10 zLq_2 h499 := zMc_n q498 e500 (by decide) (by decide)
  refine zj_putr (zdk ttX11_init_10 37 rfl rfl) zf_RX11_34 rfl ⟨rfl, by decide, by have := q501.1; omega⟩ (Or.inr ⟨rfl, zw_RX11_34⟩) (k2 := 17) rfl (fun h502 e503 => ?_)
  have vh502 : h502.2 8 149 = 32 := (zwr_r e503 (by decide)).trans ((show h499.2 8 149 = h496.2 8 149 by rw [e500]; exact znew_n (by omega)).trans w149)
  have wk : zWk 150 h502 := zWk_f (zWk_n wk e500 (by omega)) e503 (by decide)
  have q504 : zMc 10 zLq_3 h502 := zMc_f (f := 17) q501 e503 rfl (by decide) rfl
  have w149 := vh502
  refine zj_aload_n (zdk ttX11_init_10 38 rfl rfl) rfl (by decide) ?_
  refine zj_bipush (zdk ttX11_init_10 39 rfl rfl) (by decide) ?_
  have kh505 : ((h502.1 : Nat) : Int) = 10 := q504.1
  refine zj_newi (N := 48) (zdk ttX11_init_10 40 rfl rfl) wa_int rfl (by decide) (by rw [kh505]; rfl) ⟨Nat.le_of_ble_eq_true rfl, Nat.le_of_ble_eq_true rfl⟩ (fun h505 e506 => ?_)
  rw [kh505]
  have q507 : zMc 11 zLq_3 h505 := zMc_n q504 e506 (by decide) (by decide)
  refine zj_putr (zdk ttX11_init_10 41 rfl rfl) zf_RX11_37 rfl ⟨rfl, by decide, by have := q507.1; omega⟩ (Or.inr ⟨rfl, zw_RX11_37⟩) (k2 := 18) rfl (fun h508 e509 => ?_)
  have vh508 : h508.2 8 149 = 32 := (zwr_r e509 (by decide)).trans ((show h505.2 8 149 = h502.2 8 149 by rw [e506]; exact znew_n (by omega)).trans w149)
  have wk : zWk 150 h508 := zWk_f (zWk_n wk e506 (by omega)) e509 (by decide)
  have q510 : zMc 11 zLq_4 h508 := zMc_f (f := 18) q507 e509 rfl (by decide) rfl
  have w149 := vh508
  refine zj_aload_n (zdk ttX11_init_10 42 rfl rfl) rfl (by decide) ?_
  refine zj_bipush (zdk ttX11_init_10 43 rfl rfl) (by decide) ?_
  have kh511 : ((h508.1 : Nat) : Int) = 11 := q510.1
  refine zj_newi (N := 48) (zdk ttX11_init_10 44 rfl rfl) wa_int rfl (by decide) (by rw [kh511]; rfl) ⟨Nat.le_of_ble_eq_true rfl, Nat.le_of_ble_eq_true rfl⟩ (fun h511 e512 => ?_)
  rw [kh511]
  have q513 : zMc 12 zLq_4 h511 := zMc_n q510 e512 (by decide) (by decide)
  refine zj_putr (zdk ttX11_init_10 45 rfl rfl) zf_RX11_40 rfl ⟨rfl, by decide, by have := q513.1; omega⟩ (Or.inr ⟨rfl, zw_RX11_40⟩) (k2 := 19) rfl (fun h514 e515 => ?_)
  have vh514 : h514.2 8 149 = 32 := (zwr_r e515 (by decide)).trans ((show h511.2 8 149 = h508.2 8 149 by rw [e512]; exact znew_n (by omega)).trans w149)
  have wk : zWk 150 h514 := zWk_f (zWk_n wk e512 (by omega)) e515 (by decide)
  have q516 : zMc 12 zLq_5 h514 := zMc_f (f := 19) q513 e515 rfl (by decide) rfl
  have w149 := vh514
  refine zj_aload_n (zdk ttX11_init_10 46 rfl rfl) rfl (by decide) ?_
  refine zj_bipush (zdk ttX11_init_10 47 rfl rfl) (by decide) ?_
  have kh517 : ((h514.1 : Nat) : Int) = 12 := q516.1
  refine zj_newi (N := 48) (zdk ttX11_init_10 48 rfl rfl) wa_int rfl (by decide) (by rw [kh517]; rfl) ⟨Nat.le_of_ble_eq_true rfl, Nat.le_of_ble_eq_true rfl⟩ (fun h517 e518 => ?_)
  rw [kh517]
  have q519 : zMc 13 zLq_5 h517 := zMc_n q516 e518 (by decide) (by decide)
  refine zj_putr (zdk ttX11_init_10 49 rfl rfl) zf_RX11_43 rfl ⟨rfl, by decide, by have := q519.1; omega⟩ (Or.inr ⟨rfl, zw_RX11_43⟩) (k2 := 20) rfl (fun h520 e521 => ?_)
  have vh520 : h520.2 8 149 = 32 := (zwr_r e521 (by decide)).trans ((show h517.2 8 149 = h514.2 8 149 by rw [e518]; exact znew_n (by omega)).trans w149)
  have wk : zWk 150 h520 := zWk_f (zWk_n wk e518 (by omega)) e521 (by decide)
  have q522 : zMc 13 zLq_6 h520 := zMc_f (f := 20) q519 e521 rfl (by decide) rfl
  have w149 := vh520
  refine zj_aload_n (zdk ttX11_init_10 50 rfl rfl) rfl (by decide) ?_
  refine zj_bipush (zdk ttX11_init_10 51 rfl rfl) (by decide) ?_
  have kh523 : ((h520.1 : Nat) : Int) = 13 := q522.1
  refine zj_newi (N := 48) (zdk ttX11_init_10 52 rfl rfl) wa_int rfl (by decide) (by rw [kh523]; rfl) ⟨Nat.le_of_ble_eq_true rfl, Nat.le_of_ble_eq_true rfl⟩ (fun h523 e524 => ?_)
  rw [kh523]
  have q525 : zMc 14 zLq_6 h523 := zMc_n q522 e524 (by decide) (by decide)
  refine zj_putr (zdk ttX11_init_10 53 rfl rfl) zf_RX11_46 rfl ⟨rfl, by decide, by have := q525.1; omega⟩ (Or.inr ⟨rfl, zw_RX11_46⟩) (k2 := 21) rfl (fun h526 e527 => ?_)
  have vh526 : h526.2 8 149 = 32 := (zwr_r e527 (by decide)).trans ((show h523.2 8 149 = h520.2 8 149 by rw [e524]; exact znew_n (by omega)).trans w149)
  have wk : zWk 150 h526 := zWk_f (zWk_n wk e524 (by omega)) e527 (by decide)
  have q528 : zMc 14 zLq_7 h526 := zMc_f (f := 21) q525 e527 rfl (by decide) rfl
  have w149 := vh526
  refine zj_aload_n (zdk ttX11_init_10 54 rfl rfl) rfl (by decide) ?_
  refine zj_sipush (zdk ttX11_init_10 55 rfl rfl) (by decide) ?_
  have kh529 : ((h526.1 : Nat) : Int) = 14 := q528.1
  refine zj_newi (N := 1200) (zdk ttX11_init_10 56 rfl rfl) wa_int rfl (by decide) (by rw [kh529]; rfl) ⟨Nat.le_of_ble_eq_true rfl, Nat.le_of_ble_eq_true rfl⟩ (fun h529 e530 => ?_)
  rw [kh529]
  have q531 : zMc 15 zLq_7 h529 := zMc_n q528 e530 (by decide) (by decide)
  refine zj_putr (zdk ttX11_init_10 57 rfl rfl) zf_RX11_49 rfl ⟨rfl, by decide, by have := q531.1; omega⟩ (Or.inr ⟨rfl, zw_RX11_49⟩) (k2 := 22) rfl (fun h532 e533 => ?_)
  have vh532 : h532.2 8 149 = 32 := (zwr_r e533 (by decide)).trans ((show h529.2 8 149 = h526.2 8 149 by rw [e530]; exact znew_n (by omega)).trans w149)
  have wk : zWk 150 h532 := zWk_f (zWk_n wk e530 (by omega)) e533 (by decide)
  have q534 : zMc 15 zLq_8 h532 := zMc_f (f := 22) q531 e533 rfl (by decide) rfl
  have w149 := vh532
  refine zj_aload_n (zdk ttX11_init_10 58 rfl rfl) rfl (by decide) ?_
  refine zj_sipush (zdk ttX11_init_10 59 rfl rfl) (by decide) ?_
  have kh535 : ((h532.1 : Nat) : Int) = 15 := q534.1
  refine zj_newi (N := 1200) (zdk ttX11_init_11 0 rfl rfl) wa_int rfl (by decide) (by rw [kh535]; rfl) ⟨Nat.le_of_ble_eq_true rfl, Nat.le_of_ble_eq_true rfl⟩ (fun h535 e536 => ?_)
  rw [kh535]
  have q537 : zMc 16 zLq_8 h535 := zMc_n q534 e536 (by decide) (by decide)
  refine zj_putr (zdk ttX11_init_11 1 rfl rfl) zf_RX11_52 rfl ⟨rfl, by decide, by have := q537.1; omega⟩ (Or.inr ⟨rfl, zw_RX11_52⟩) (k2 := 23) rfl (fun h538 e539 => ?_)
  have vh538 : h538.2 8 149 = 32 := (zwr_r e539 (by decide)).trans ((show h535.2 8 149 = h532.2 8 149 by rw [e536]; exact znew_n (by omega)).trans w149)
  have wk : zWk 150 h538 := zWk_f (zWk_n wk e536 (by omega)) e539 (by decide)
  have q540 : zMc 16 zLq_9 h538 := zMc_f (f := 23) q537 e539 rfl (by decide) rfl
  have w149 := vh538
  refine zj_aload_n (zdk ttX11_init_11 2 rfl rfl) rfl (by decide) ?_
  refine zj_bipush (zdk ttX11_init_11 3 rfl rfl) (by decide) ?_
  have kh541 : ((h538.1 : Nat) : Int) = 16 := q540.1
  refine zj_newi (N := 40) (zdk ttX11_init_11 4 rfl rfl) wa_int rfl (by decide) (by rw [kh541]; rfl) ⟨Nat.le_of_ble_eq_true rfl, Nat.le_of_ble_eq_true rfl⟩ (fun h541 e542 => ?_)
  rw [kh541]
  have q543 : zMc 17 zLq_9 h541 := zMc_n q540 e542 (by decide) (by decide)
  refine zj_putr (zdk ttX11_init_11 5 rfl rfl) zf_RX11_55 rfl ⟨rfl, by decide, by have := q543.1; omega⟩ (Or.inr ⟨rfl, zw_RX11_55⟩) (k2 := 27) rfl (fun h544 e545 => ?_)
  have vh544 : h544.2 8 149 = 32 := (zwr_r e545 (by decide)).trans ((show h541.2 8 149 = h538.2 8 149 by rw [e542]; exact znew_n (by omega)).trans w149)
  have wk : zWk 150 h544 := zWk_f (zWk_n wk e542 (by omega)) e545 (by decide)
  have q546 : zMc 17 [0, 1, 2, 0, 3, 0, 0, 4, 5, 6, 7, 0, 0, 0, 0, 0, 8, 9, 10, 11, 12, 13, 14, 15, 0, 0, 0, 16, 0, 0, 0, 0, 0, 0, (-1), 0, (-1), 0, (-1), (-1), (-1), (-1), 0, (-1), (-1), 0, (-1), (-1), (-1), 0, (-1), (-1), (-1), 0, (-1), (-1), (-1), (-1), 0, 0, 0, (-1)] h544 := zMc_f (f := 27) q543 e545 rfl (by decide) rfl
  have w149 := vh544
  refine zj_aload_n (zdk ttX11_init_11 6 rfl rfl) rfl (by decide) ?_
  refine zj_iconst (zdk ttX11_init_11 7 rfl rfl) ?_
  refine zj_puti (zdk ttX11_init_11 8 rfl rfl) zf_RX11_58 rfl ⟨rfl, by decide, by have := q546.1; omega⟩ (Or.inl zw_RX11_58) (k2 := 32) rfl (fun h547 e548 => ?_)
  have wk : zWk 150 h547 := zWk_f wk e548 (by decide)
  have vh547 : h547.2 8 149 = 32 := (zwr_r e548 (by decide)).trans w149
  have q549 : zMc 17 zLq_10 h547 := zMc_f (f := 32) q546 e548 rfl (by decide) rfl
  have w149 := vh547
  refine zj_aload_n (zdk ttX11_init_11 9 rfl rfl) rfl (by decide) ?_
  refine zj_bipush (zdk ttX11_init_11 10 rfl rfl) (by decide) ?_
  have kh550 : ((h547.1 : Nat) : Int) = 17 := q549.1
  refine zj_newi (N := 96) (zdk ttX11_init_11 11 rfl rfl) wa_int rfl (by decide) (by rw [kh550]; rfl) ⟨Nat.le_of_ble_eq_true rfl, Nat.le_of_ble_eq_true rfl⟩ (fun h550 e551 => ?_)
  rw [kh550]
  have q552 : zMc 18 zLq_10 h550 := zMc_n q549 e551 (by decide) (by decide)
  refine zj_putr (zdk ttX11_init_11 12 rfl rfl) zf_RX11_62 rfl ⟨rfl, by decide, by have := q552.1; omega⟩ (Or.inr ⟨rfl, zw_RX11_62⟩) (k2 := 34) rfl (fun h553 e554 => ?_)
  have vh553 : h553.2 8 149 = 32 := (zwr_r e554 (by decide)).trans ((show h550.2 8 149 = h547.2 8 149 by rw [e551]; exact znew_n (by omega)).trans w149)
  have wk : zWk 150 h553 := zWk_f (zWk_n wk e551 (by omega)) e554 (by decide)
  have q555 : zMc 18 zLq_11 h553 := zMc_f (f := 34) q552 e554 rfl (by decide) rfl
  have w149 := vh553
  refine zj_aload_n (zdk ttX11_init_11 13 rfl rfl) rfl (by decide) ?_
  refine zj_bipush (zdk ttX11_init_11 14 rfl rfl) (by decide) ?_
  have kh556 : ((h553.1 : Nat) : Int) = 18 := q555.1
  refine zj_newi (N := 96) (zdk ttX11_init_11 15 rfl rfl) wa_int rfl (by decide) (by rw [kh556]; rfl) ⟨Nat.le_of_ble_eq_true rfl, Nat.le_of_ble_eq_true rfl⟩ (fun h556 e557 => ?_)
  rw [kh556]
  have q558 : zMc 19 zLq_11 h556 := zMc_n q555 e557 (by decide) (by decide)
  refine zj_putr (zdk ttX11_init_11 16 rfl rfl) zf_RX11_65 rfl ⟨rfl, by decide, by have := q558.1; omega⟩ (Or.inr ⟨rfl, zw_RX11_65⟩) (k2 := 36) rfl (fun h559 e560 => ?_)
  have vh559 : h559.2 8 149 = 32 := (zwr_r e560 (by decide)).trans ((show h556.2 8 149 = h553.2 8 149 by rw [e557]; exact znew_n (by omega)).trans w149)
  have wk : zWk 150 h559 := zWk_f (zWk_n wk e557 (by omega)) e560 (by decide)
  have q561 : zMc 19 zLq_12 h559 := zMc_f (f := 36) q558 e560 rfl (by decide) rfl
  have w149 := vh559
  refine zj_aload_n (zdk ttX11_init_11 17 rfl rfl) rfl (by decide) ?_
  refine zj_bipush (zdk ttX11_init_11 18 rfl rfl) (by decide) ?_
  have kh562 : ((h559.1 : Nat) : Int) = 19 := q561.1
  refine zj_newi (N := 36) (zdk ttX11_init_11 19 rfl rfl) wa_int rfl (by decide) (by rw [kh562]; rfl) ⟨Nat.le_of_ble_eq_true rfl, Nat.le_of_ble_eq_true rfl⟩ (fun h562 e563 => ?_)
  rw [kh562]
  have q564 : zMc 20 zLq_12 h562 := zMc_n q561 e563 (by decide) (by decide)
  refine zj_putr (zdk ttX11_init_11 20 rfl rfl) zf_RX11_68 rfl ⟨rfl, by decide, by have := q564.1; omega⟩ (Or.inr ⟨rfl, zw_RX11_68⟩) (k2 := 38) rfl (fun h565 e566 => ?_)
  have vh565 : h565.2 8 149 = 32 := (zwr_r e566 (by decide)).trans ((show h562.2 8 149 = h559.2 8 149 by rw [e563]; exact znew_n (by omega)).trans w149)
  have wk : zWk 150 h565 := zWk_f (zWk_n wk e563 (by omega)) e566 (by decide)
  have q567 : zMc 20 zLq_13 h565 := zMc_f (f := 38) q564 e566 rfl (by decide) rfl
  have w149 := vh565
  refine zj_aload_n (zdk ttX11_init_11 21 rfl rfl) rfl (by decide) ?_
  refine zj_bipush (zdk ttX11_init_11 22 rfl rfl) (by decide) ?_
  have kh568 : ((h565.1 : Nat) : Int) = 20 := q567.1
  refine zj_newi (N := 10) (zdk ttX11_init_11 23 rfl rfl) wa_int rfl (by decide) (by rw [kh568]; rfl) ⟨Nat.le_of_ble_eq_true rfl, Nat.le_of_ble_eq_true rfl⟩ (fun h568 e569 => ?_)
  rw [kh568]
  have q570 : zMc 21 zLq_13 h568 := zMc_n q567 e569 (by decide) (by decide)
  refine zj_putr (zdk ttX11_init_11 24 rfl rfl) zf_RX11_71 rfl ⟨rfl, by decide, by have := q570.1; omega⟩ (Or.inr ⟨rfl, zw_RX11_71⟩) (k2 := 39) rfl (fun h571 e572 => ?_)
  have vh571 : h571.2 8 149 = 32 := (zwr_r e572 (by decide)).trans ((show h568.2 8 149 = h565.2 8 149 by rw [e569]; exact znew_n (by omega)).trans w149)
  have wk : zWk 150 h571 := zWk_f (zWk_n wk e569 (by omega)) e572 (by decide)
  have q573 : zMc 21 zLq_14 h571 := zMc_f (f := 39) q570 e572 rfl (by decide) rfl
  have w149 := vh571
  refine zj_aload_n (zdk ttX11_init_11 25 rfl rfl) rfl (by decide) ?_
  refine zj_sipush (zdk ttX11_init_11 26 rfl rfl) (by decide) ?_
  have kh574 : ((h571.1 : Nat) : Int) = 21 := q573.1
  refine zj_newi (N := 420) (zdk ttX11_init_11 27 rfl rfl) wa_int rfl (by decide) (by rw [kh574]; rfl) ⟨Nat.le_of_ble_eq_true rfl, Nat.le_of_ble_eq_true rfl⟩ (fun h574 e575 => ?_)
  rw [kh574]
  have q576 : zMc 22 zLq_14 h574 := zMc_n q573 e575 (by decide) (by decide)
  refine zj_putr (zdk ttX11_init_11 28 rfl rfl) zf_RX11_74 rfl ⟨rfl, by decide, by have := q576.1; omega⟩ (Or.inr ⟨rfl, zw_RX11_74⟩) (k2 := 40) rfl (fun h577 e578 => ?_)
  have vh577 : h577.2 8 149 = 32 := (zwr_r e578 (by decide)).trans ((show h574.2 8 149 = h571.2 8 149 by rw [e575]; exact znew_n (by omega)).trans w149)
  have wk : zWk 150 h577 := zWk_f (zWk_n wk e575 (by omega)) e578 (by decide)
  have q579 : zMc 22 zLq_15 h577 := zMc_f (f := 40) q576 e578 rfl (by decide) rfl
  have w149 := vh577
  refine zj_aload_n (zdk ttX11_init_11 29 rfl rfl) rfl (by decide) ?_
  refine zj_bipush (zdk ttX11_init_11 30 rfl rfl) (by decide) ?_
  have kh580 : ((h577.1 : Nat) : Int) = 22 := q579.1
  refine zj_newi (N := 18) (zdk ttX11_init_11 31 rfl rfl) wa_int rfl (by decide) (by rw [kh580]; rfl) ⟨Nat.le_of_ble_eq_true rfl, Nat.le_of_ble_eq_true rfl⟩ (fun h580 e581 => ?_)
  rw [kh580]
  have q582 : zMc 23 zLq_15 h580 := zMc_n q579 e581 (by decide) (by decide)
  refine zj_putr (zdk ttX11_init_11 32 rfl rfl) zf_RX11_77 rfl ⟨rfl, by decide, by have := q582.1; omega⟩ (Or.inr ⟨rfl, zw_RX11_77⟩) (k2 := 41) rfl (fun h583 e584 => ?_)
  have vh583 : h583.2 8 149 = 32 := (zwr_r e584 (by decide)).trans ((show h580.2 8 149 = h577.2 8 149 by rw [e581]; exact znew_n (by omega)).trans w149)
  have wk : zWk 150 h583 := zWk_f (zWk_n wk e581 (by omega)) e584 (by decide)
  have q585 : zMc 23 zLq_16 h583 := zMc_f (f := 41) q582 e584 rfl (by decide) rfl
  have w149 := vh583
  refine zj_aload_n (zdk ttX11_init_11 33 rfl rfl) rfl (by decide) ?_
  refine zj_bipush (zdk ttX11_init_11 34 rfl rfl) (by decide) ?_
  have kh586 : ((h583.1 : Nat) : Int) = 23 := q585.1
  refine zj_newi (N := 8) (zdk ttX11_init_11 35 rfl rfl) wa_int rfl (by decide) (by rw [kh586]; rfl) ⟨Nat.le_of_ble_eq_true rfl, Nat.le_of_ble_eq_true rfl⟩ (fun h586 e587 => ?_)
  rw [kh586]
  have q588 : zMc 24 zLq_16 h586 := zMc_n q585 e587 (by decide) (by decide)
  refine zj_putr (zdk ttX11_init_11 36 rfl rfl) zf_RX11_80 rfl ⟨rfl, by decide, by have := q588.1; omega⟩ (Or.inr ⟨rfl, zw_RX11_80⟩) (k2 := 43) rfl (fun h589 e590 => ?_)
  have vh589 : h589.2 8 149 = 32 := (zwr_r e590 (by decide)).trans ((show h586.2 8 149 = h583.2 8 149 by rw [e587]; exact znew_n (by omega)).trans w149)
  have wk : zWk 150 h589 := zWk_f (zWk_n wk e587 (by omega)) e590 (by decide)
  have q591 : zMc 24 zLq_17 h589 := zMc_f (f := 43) q588 e590 rfl (by decide) rfl
  have w149 := vh589
  refine zj_aload_n (zdk ttX11_init_11 37 rfl rfl) rfl (by decide) ?_
  refine zj_bipush (zdk ttX11_init_11 38 rfl rfl) (by decide) ?_
  have kh592 : ((h589.1 : Nat) : Int) = 24 := q591.1
  refine zj_newi (N := 8) (zdk ttX11_init_11 39 rfl rfl) wa_int rfl (by decide) (by rw [kh592]; rfl) ⟨Nat.le_of_ble_eq_true rfl, Nat.le_of_ble_eq_true rfl⟩ (fun h592 e593 => ?_)
  rw [kh592]
  have q594 : zMc 25 zLq_17 h592 := zMc_n q591 e593 (by decide) (by decide)
  refine zj_putr (zdk ttX11_init_11 40 rfl rfl) zf_RX11_83 rfl ⟨rfl, by decide, by have := q594.1; omega⟩ (Or.inr ⟨rfl, zw_RX11_83⟩) (k2 := 44) rfl (fun h595 e596 => ?_)
  have vh595 : h595.2 8 149 = 32 := (zwr_r e596 (by decide)).trans ((show h592.2 8 149 = h589.2 8 149 by rw [e593]; exact znew_n (by omega)).trans w149)
  have wk : zWk 150 h595 := zWk_f (zWk_n wk e593 (by omega)) e596 (by decide)
  have q597 : zMc 25 zLq_18 h595 := zMc_f (f := 44) q594 e596 rfl (by decide) rfl
  have w149 := vh595
  refine zj_aload_n (zdk ttX11_init_11 41 rfl rfl) rfl (by decide) ?_
  refine zj_bipush (zdk ttX11_init_11 42 rfl rfl) (by decide) ?_
  have kh598 : ((h595.1 : Nat) : Int) = 25 := q597.1
  refine zj_newi (N := 6) (zdk ttX11_init_11 43 rfl rfl) wa_int rfl (by decide) (by rw [kh598]; rfl) ⟨Nat.le_of_ble_eq_true rfl, Nat.le_of_ble_eq_true rfl⟩ (fun h598 e599 => ?_)
  rw [kh598]
  have q600 : zMc 26 zLq_18 h598 := zMc_n q597 e599 (by decide) (by decide)
  refine zj_putr (zdk ttX11_init_11 44 rfl rfl) zf_RX11_86 rfl ⟨rfl, by decide, by have := q600.1; omega⟩ (Or.inr ⟨rfl, zw_RX11_86⟩) (k2 := 46) rfl (fun h601 e602 => ?_)
  have vh601 : h601.2 8 149 = 32 := (zwr_r e602 (by decide)).trans ((show h598.2 8 149 = h595.2 8 149 by rw [e599]; exact znew_n (by omega)).trans w149)
  have wk : zWk 150 h601 := zWk_f (zWk_n wk e599 (by omega)) e602 (by decide)
  have q603 : zMc 26 zLq_19 h601 := zMc_f (f := 46) q600 e602 rfl (by decide) rfl
  have w149 := vh601
  refine zj_aload_n (zdk ttX11_init_11 45 rfl rfl) rfl (by decide) ?_
  refine zj_sipush (zdk ttX11_init_11 46 rfl rfl) (by decide) ?_
  have kh604 : ((h601.1 : Nat) : Int) = 26 := q603.1
  refine zj_newi (N := 128) (zdk ttX11_init_11 47 rfl rfl) wa_int rfl (by decide) (by rw [kh604]; rfl) ⟨Nat.le_of_ble_eq_true rfl, Nat.le_of_ble_eq_true rfl⟩ (fun h604 e605 => ?_)
  rw [kh604]
  have q606 : zMc 27 zLq_19 h604 := zMc_n q603 e605 (by decide) (by decide)
  refine zj_putr (zdk ttX11_init_11 48 rfl rfl) zf_RX11_89 rfl ⟨rfl, by decide, by have := q606.1; omega⟩ (Or.inr ⟨rfl, zw_RX11_89⟩) (k2 := 47) rfl (fun h607 e608 => ?_)
  have vh607 : h607.2 8 149 = 32 := (zwr_r e608 (by decide)).trans ((show h604.2 8 149 = h601.2 8 149 by rw [e605]; exact znew_n (by omega)).trans w149)
  have wk : zWk 150 h607 := zWk_f (zWk_n wk e605 (by omega)) e608 (by decide)
  have q609 : zMc 27 zLq_20 h607 := zMc_f (f := 47) q606 e608 rfl (by decide) rfl
  have w149 := vh607
  refine zj_aload_n (zdk ttX11_init_11 49 rfl rfl) rfl (by decide) ?_
  refine zj_ldc (z := 116281) (zdk ttX11_init_11 50 rfl rfl) wc_RX11_92 ?_
  have kh610 : ((h607.1 : Nat) : Int) = 27 := q609.1
  refine zj_newi (N := 116281) (zdk ttX11_init_11 51 rfl rfl) wa_int rfl (by decide) (by rw [kh610]; rfl) ⟨Nat.le_of_ble_eq_true rfl, Nat.le_of_ble_eq_true rfl⟩ (fun h610 e611 => ?_)
  rw [kh610]
  have q612 : zMc 28 zLq_20 h610 := zMc_n q609 e611 (by decide) (by decide)
  refine zj_putr (zdk ttX11_init_11 52 rfl rfl) zf_RX11_93 rfl ⟨rfl, by decide, by have := q612.1; omega⟩ (Or.inr ⟨rfl, zw_RX11_93⟩) (k2 := 48) rfl (fun h613 e614 => ?_)
  have vh613 : h613.2 8 149 = 32 := (zwr_r e614 (by decide)).trans ((show h610.2 8 149 = h607.2 8 149 by rw [e611]; exact znew_n (by omega)).trans w149)
  have wk : zWk 150 h613 := zWk_f (zWk_n wk e611 (by omega)) e614 (by decide)
  have q615 : zMc 28 zLq_21 h613 := zMc_f (f := 48) q612 e614 rfl (by decide) rfl
  have w149 := vh613
  refine zj_aload_n (zdk ttX11_init_11 53 rfl rfl) rfl (by decide) ?_
  refine zj_bipush (zdk ttX11_init_11 54 rfl rfl) (by decide) ?_
  have kh616 : ((h613.1 : Nat) : Int) = 28 := q615.1
  refine zj_newi (N := 7) (zdk ttX11_init_11 55 rfl rfl) wa_int rfl (by decide) (by rw [kh616]; rfl) ⟨Nat.le_of_ble_eq_true rfl, Nat.le_of_ble_eq_true rfl⟩ (fun h616 e617 => ?_)
  rw [kh616]
  have q618 : zMc 29 zLq_21 h616 := zMc_n q615 e617 (by decide) (by decide)
  refine zj_putr (zdk ttX11_init_11 56 rfl rfl) zf_RX11_96 rfl ⟨rfl, by decide, by have := q618.1; omega⟩ (Or.inr ⟨rfl, zw_RX11_96⟩) (k2 := 50) rfl (fun h619 e620 => ?_)
  have vh619 : h619.2 8 149 = 32 := (zwr_r e620 (by decide)).trans ((show h616.2 8 149 = h613.2 8 149 by rw [e617]; exact znew_n (by omega)).trans w149)
  have wk : zWk 150 h619 := zWk_f (zWk_n wk e617 (by omega)) e620 (by decide)
  have q621 : zMc 29 zLq_22 h619 := zMc_f (f := 50) q618 e620 rfl (by decide) rfl
  have w149 := vh619
  refine zj_aload_n (zdk ttX11_init_11 57 rfl rfl) rfl (by decide) ?_
  refine zj_bipush (zdk ttX11_init_11 58 rfl rfl) (by decide) ?_
  have kh622 : ((h619.1 : Nat) : Int) = 29 := q621.1
  refine zj_newi (N := 40) (zdk ttX11_init_11 59 rfl rfl) wa_int rfl (by decide) (by rw [kh622]; rfl) ⟨Nat.le_of_ble_eq_true rfl, Nat.le_of_ble_eq_true rfl⟩ (fun h622 e623 => ?_)
  rw [kh622]
  have q624 : zMc 30 zLq_22 h622 := zMc_n q621 e623 (by decide) (by decide)
  refine zj_putr (zdk ttX11_init_12 0 rfl rfl) zf_RX11_99 rfl ⟨rfl, by decide, by have := q624.1; omega⟩ (Or.inr ⟨rfl, zw_RX11_99⟩) (k2 := 51) rfl (fun h625 e626 => ?_)
  have vh625 : h625.2 8 149 = 32 := (zwr_r e626 (by decide)).trans ((show h622.2 8 149 = h619.2 8 149 by rw [e623]; exact znew_n (by omega)).trans w149)
  have wk : zWk 150 h625 := zWk_f (zWk_n wk e623 (by omega)) e626 (by decide)
  have q627 : zMc 30 zLq_23 h625 := zMc_f (f := 51) q624 e626 rfl (by decide) rfl
  have w149 := vh625
  refine zj_aload_n (zdk ttX11_init_12 1 rfl rfl) rfl (by decide) ?_
  refine zj_bipush (zdk ttX11_init_12 2 rfl rfl) (by decide) ?_
  have kh628 : ((h625.1 : Nat) : Int) = 30 := q627.1
  refine zj_newi (N := 8) (zdk ttX11_init_12 3 rfl rfl) wa_int rfl (by decide) (by rw [kh628]; rfl) ⟨Nat.le_of_ble_eq_true rfl, Nat.le_of_ble_eq_true rfl⟩ (fun h628 e629 => ?_)
  rw [kh628]
  have q630 : zMc 31 zLq_23 h628 := zMc_n q627 e629 (by decide) (by decide)
  refine zj_putr (zdk ttX11_init_12 4 rfl rfl) zf_RX11_102 rfl ⟨rfl, by decide, by have := q630.1; omega⟩ (Or.inr ⟨rfl, zw_RX11_102⟩) (k2 := 52) rfl (fun h631 e632 => ?_)
  have vh631 : h631.2 8 149 = 32 := (zwr_r e632 (by decide)).trans ((show h628.2 8 149 = h625.2 8 149 by rw [e629]; exact znew_n (by omega)).trans w149)
  have wk : zWk 150 h631 := zWk_f (zWk_n wk e629 (by omega)) e632 (by decide)
  have q633 : zMc 31 zLq_24 h631 := zMc_f (f := 52) q630 e632 rfl (by decide) rfl
  have w149 := vh631
  refine zj_aload_n (zdk ttX11_init_12 5 rfl rfl) rfl (by decide) ?_
  refine zj_bipush (zdk ttX11_init_12 6 rfl rfl) (by decide) ?_
  have kh634 : ((h631.1 : Nat) : Int) = 31 := q633.1
  refine zj_newi (N := 6) (zdk ttX11_init_12 7 rfl rfl) wa_int rfl (by decide) (by rw [kh634]; rfl) ⟨Nat.le_of_ble_eq_true rfl, Nat.le_of_ble_eq_true rfl⟩ (fun h634 e635 => ?_)
  rw [kh634]
  have q636 : zMc 32 zLq_24 h634 := zMc_n q633 e635 (by decide) (by decide)
  refine zj_putr (zdk ttX11_init_12 8 rfl rfl) zf_RX11_105 rfl ⟨rfl, by decide, by have := q636.1; omega⟩ (Or.inr ⟨rfl, zw_RX11_105⟩) (k2 := 54) rfl (fun h637 e638 => ?_)
  have vh637 : h637.2 8 149 = 32 := (zwr_r e638 (by decide)).trans ((show h634.2 8 149 = h631.2 8 149 by rw [e635]; exact znew_n (by omega)).trans w149)
  have wk : zWk 150 h637 := zWk_f (zWk_n wk e635 (by omega)) e638 (by decide)
  have q639 : zMc 32 zLq_25 h637 := zMc_f (f := 54) q636 e638 rfl (by decide) rfl
  have w149 := vh637
  refine zj_aload_n (zdk ttX11_init_12 9 rfl rfl) rfl (by decide) ?_
  refine zj_bipush (zdk ttX11_init_12 10 rfl rfl) (by decide) ?_
  have kh640 : ((h637.1 : Nat) : Int) = 32 := q639.1
  refine zj_newi (N := 6) (zdk ttX11_init_12 11 rfl rfl) wa_int rfl (by decide) (by rw [kh640]; rfl) ⟨Nat.le_of_ble_eq_true rfl, Nat.le_of_ble_eq_true rfl⟩ (fun h640 e641 => ?_)
  rw [kh640]
  have q642 : zMc 33 zLq_25 h640 := zMc_n q639 e641 (by decide) (by decide)
  refine zj_putr (zdk ttX11_init_12 12 rfl rfl) zf_RX11_108 rfl ⟨rfl, by decide, by have := q642.1; omega⟩ (Or.inr ⟨rfl, zw_RX11_108⟩) (k2 := 55) rfl (fun h643 e644 => ?_)
  have vh643 : h643.2 8 149 = 32 := (zwr_r e644 (by decide)).trans ((show h640.2 8 149 = h637.2 8 149 by rw [e641]; exact znew_n (by omega)).trans w149)
  have wk : zWk 150 h643 := zWk_f (zWk_n wk e641 (by omega)) e644 (by decide)
  have q645 : zMc 33 zLq_26 h643 := zMc_f (f := 55) q642 e644 rfl (by decide) rfl
  have w149 := vh643
  refine zj_aload_n (zdk ttX11_init_12 13 rfl rfl) rfl (by decide) ?_
  refine zj_bipush (zdk ttX11_init_12 14 rfl rfl) (by decide) ?_
  have kh646 : ((h643.1 : Nat) : Int) = 33 := q645.1
  refine zj_newi (N := 6) (zdk ttX11_init_12 15 rfl rfl) wa_int rfl (by decide) (by rw [kh646]; rfl) ⟨Nat.le_of_ble_eq_true rfl, Nat.le_of_ble_eq_true rfl⟩ (fun h646 e647 => ?_)
  rw [kh646]
  have q648 : zMc 34 zLq_26 h646 := zMc_n q645 e647 (by decide) (by decide)
  refine zj_putr (zdk ttX11_init_12 16 rfl rfl) zf_RX11_111 rfl ⟨rfl, by decide, by have := q648.1; omega⟩ (Or.inr ⟨rfl, zw_RX11_111⟩) (k2 := 56) rfl (fun h649 e650 => ?_)
  have vh649 : h649.2 8 149 = 32 := (zwr_r e650 (by decide)).trans ((show h646.2 8 149 = h643.2 8 149 by rw [e647]; exact znew_n (by omega)).trans w149)
  have wk : zWk 150 h649 := zWk_f (zWk_n wk e647 (by omega)) e650 (by decide)
  have q651 : zMc 34 zLq_27 h649 := zMc_f (f := 56) q648 e650 rfl (by decide) rfl
  have w149 := vh649
  refine zj_aload_n (zdk ttX11_init_12 17 rfl rfl) rfl (by decide) ?_
  refine zj_bipush (zdk ttX11_init_12 18 rfl rfl) (by decide) ?_
  have kh652 : ((h649.1 : Nat) : Int) = 34 := q651.1
  refine zj_newi (N := 60) (zdk ttX11_init_12 19 rfl rfl) wa_int rfl (by decide) (by rw [kh652]; rfl) ⟨Nat.le_of_ble_eq_true rfl, Nat.le_of_ble_eq_true rfl⟩ (fun h652 e653 => ?_)
  rw [kh652]
  have q654 : zMc 35 zLq_27 h652 := zMc_n q651 e653 (by decide) (by decide)
  refine zj_putr (zdk ttX11_init_12 20 rfl rfl) zf_RX11_114 rfl ⟨rfl, by decide, by have := q654.1; omega⟩ (Or.inr ⟨rfl, zw_RX11_114⟩) (k2 := 57) rfl (fun h655 e656 => ?_)
  have vh655 : h655.2 8 149 = 32 := (zwr_r e656 (by decide)).trans ((show h652.2 8 149 = h649.2 8 149 by rw [e653]; exact znew_n (by omega)).trans w149)
  have wk : zWk 150 h655 := zWk_f (zWk_n wk e653 (by omega)) e656 (by decide)
  have q657 : zMc 35 zLq_28 h655 := zMc_f (f := 57) q654 e656 rfl (by decide) rfl
  have w149 := vh655
  refine zj_aload_n (zdk ttX11_init_12 21 rfl rfl) rfl (by decide) ?_
  refine zj_sipush (zdk ttX11_init_12 22 rfl rfl) (by decide) ?_
  have kh658 : ((h655.1 : Nat) : Int) = 35 := q657.1
  refine zj_newi (N := 2400) (zdk ttX11_init_12 23 rfl rfl) wa_int rfl (by decide) (by rw [kh658]; rfl) ⟨Nat.le_of_ble_eq_true rfl, Nat.le_of_ble_eq_true rfl⟩ (fun h658 e659 => ?_)
  rw [kh658]
  have q660 : zMc 36 zLq_28 h658 := zMc_n q657 e659 (by decide) (by decide)
  refine zj_putr (zdk ttX11_init_12 24 rfl rfl) zf_RX11_117 rfl ⟨rfl, by decide, by have := q660.1; omega⟩ (Or.inr ⟨rfl, zw_RX11_117⟩) (k2 := 61) rfl (fun h661 e662 => ?_)
  have vh661 : h661.2 8 149 = 32 := (zwr_r e662 (by decide)).trans ((show h658.2 8 149 = h655.2 8 149 by rw [e659]; exact znew_n (by omega)).trans w149)
  have wk : zWk 150 h661 := zWk_f (zWk_n wk e659 (by omega)) e662 (by decide)
  have q663 : zMc 36 zLq_0 h661 := zMc_f (f := 61) q660 e662 rfl (by decide) rfl
  have w149 := vh661
  exact zj_vret rfl (zdk ttX11_init_12 25 rfl rfl) (Nat.le_of_ble_eq_true rfl) (Nat.le_of_ble_eq_true rfl) ⟨rfl, q663, w149, wk⟩
set_option maxRecDepth 100000 in
set_option maxHeartbeats 4000000 in
theorem cm_3 (l : Launch) (h : zM) (q0 : zMc 9 zLq_1 h) (wk : zWk 90 h) : zJ shM l yX11_init cX11_init 1 none (rmA 1 35 123964) 35 123964 (zqv fun h' => zMc 36 zMl h' ∧ h'.2 8 149 = 32 ∧ zWk 150 h') 8 1690 603 [some (.inr 0)] [.inr 8, .inr 0] h := by
  refine zj_dup (zdk ttX11_init_6 33 rfl rfl) ?_
  refine zj_bipush (zdk ttX11_init_6 34 rfl rfl) (by decide) ?_
  refine zj_bipush (zdk ttX11_init_6 35 rfl rfl) (by decide) ?_
  refine zj_iast (zdk ttX11_init_6 36 rfl rfl) ⟨rfl, by decide, by have := q0.1; omega⟩ (by decide) (by decide) (fun h316 e317 => ?_)
  have q318 : zMc 9 zLq_1 h316 := zMc_w q0 e317 (by decide)
  have wk : zWk 91 h316 := zWk_s (m := 90) wk e317 rfl (by decide)
  refine zj_dup (zdk ttX11_init_6 37 rfl rfl) ?_
  refine zj_bipush (zdk ttX11_init_6 38 rfl rfl) (by decide) ?_
  refine zj_bipush (zdk ttX11_init_6 39 rfl rfl) (by decide) ?_
  refine zj_iast (zdk ttX11_init_6 40 rfl rfl) ⟨rfl, by decide, by have := q318.1; omega⟩ (by decide) (by decide) (fun h319 e320 => ?_)
  have q321 : zMc 9 zLq_1 h319 := zMc_w q318 e320 (by decide)
  have wk : zWk 92 h319 := zWk_s (m := 91) wk e320 rfl (by decide)
  refine zj_dup (zdk ttX11_init_6 41 rfl rfl) ?_
  refine zj_bipush (zdk ttX11_init_6 42 rfl rfl) (by decide) ?_
  refine zj_bipush (zdk ttX11_init_6 43 rfl rfl) (by decide) ?_
  refine zj_iast (zdk ttX11_init_6 44 rfl rfl) ⟨rfl, by decide, by have := q321.1; omega⟩ (by decide) (by decide) (fun h322 e323 => ?_)
  have q324 : zMc 9 zLq_1 h322 := zMc_w q321 e323 (by decide)
  have wk : zWk 93 h322 := zWk_s (m := 92) wk e323 rfl (by decide)
  refine zj_dup (zdk ttX11_init_6 45 rfl rfl) ?_
  refine zj_bipush (zdk ttX11_init_6 46 rfl rfl) (by decide) ?_
  refine zj_bipush (zdk ttX11_init_6 47 rfl rfl) (by decide) ?_
  refine zj_iast (zdk ttX11_init_6 48 rfl rfl) ⟨rfl, by decide, by have := q324.1; omega⟩ (by decide) (by decide) (fun h325 e326 => ?_)
  have q327 : zMc 9 zLq_1 h325 := zMc_w q324 e326 (by decide)
  have wk : zWk 94 h325 := zWk_s (m := 93) wk e326 rfl (by decide)
  refine zj_dup (zdk ttX11_init_6 49 rfl rfl) ?_
  refine zj_bipush (zdk ttX11_init_6 50 rfl rfl) (by decide) ?_
  refine zj_bipush (zdk ttX11_init_6 51 rfl rfl) (by decide) ?_
  refine zj_iast (zdk ttX11_init_6 52 rfl rfl) ⟨rfl, by decide, by have := q327.1; omega⟩ (by decide) (by decide) (fun h328 e329 => ?_)
  have q330 : zMc 9 zLq_1 h328 := zMc_w q327 e329 (by decide)
  have wk : zWk 95 h328 := zWk_s (m := 94) wk e329 rfl (by decide)
  refine zj_dup (zdk ttX11_init_6 53 rfl rfl) ?_
  refine zj_bipush (zdk ttX11_init_6 54 rfl rfl) (by decide) ?_
  refine zj_bipush (zdk ttX11_init_6 55 rfl rfl) (by decide) ?_
  refine zj_iast (zdk ttX11_init_6 56 rfl rfl) ⟨rfl, by decide, by have := q330.1; omega⟩ (by decide) (by decide) (fun h331 e332 => ?_)
  have q333 : zMc 9 zLq_1 h331 := zMc_w q330 e332 (by decide)
  have wk : zWk 96 h331 := zWk_s (m := 95) wk e332 rfl (by decide)
  refine zj_dup (zdk ttX11_init_6 57 rfl rfl) ?_
  refine zj_bipush (zdk ttX11_init_6 58 rfl rfl) (by decide) ?_
  refine zj_bipush (zdk ttX11_init_6 59 rfl rfl) (by decide) ?_
  refine zj_iast (zdk ttX11_init_7 0 rfl rfl) ⟨rfl, by decide, by have := q333.1; omega⟩ (by decide) (by decide) (fun h334 e335 => ?_)
  have q336 : zMc 9 zLq_1 h334 := zMc_w q333 e335 (by decide)
  have wk : zWk 97 h334 := zWk_s (m := 96) wk e335 rfl (by decide)
  refine zj_dup (zdk ttX11_init_7 1 rfl rfl) ?_
  refine zj_bipush (zdk ttX11_init_7 2 rfl rfl) (by decide) ?_
  refine zj_bipush (zdk ttX11_init_7 3 rfl rfl) (by decide) ?_
  refine zj_iast (zdk ttX11_init_7 4 rfl rfl) ⟨rfl, by decide, by have := q336.1; omega⟩ (by decide) (by decide) (fun h337 e338 => ?_)
  have q339 : zMc 9 zLq_1 h337 := zMc_w q336 e338 (by decide)
  have wk : zWk 98 h337 := zWk_s (m := 97) wk e338 rfl (by decide)
  refine zj_dup (zdk ttX11_init_7 5 rfl rfl) ?_
  refine zj_bipush (zdk ttX11_init_7 6 rfl rfl) (by decide) ?_
  refine zj_bipush (zdk ttX11_init_7 7 rfl rfl) (by decide) ?_
  refine zj_iast (zdk ttX11_init_7 8 rfl rfl) ⟨rfl, by decide, by have := q339.1; omega⟩ (by decide) (by decide) (fun h340 e341 => ?_)
  have q342 : zMc 9 zLq_1 h340 := zMc_w q339 e341 (by decide)
  have wk : zWk 99 h340 := zWk_s (m := 98) wk e341 rfl (by decide)
  refine zj_dup (zdk ttX11_init_7 9 rfl rfl) ?_
  refine zj_bipush (zdk ttX11_init_7 10 rfl rfl) (by decide) ?_
  refine zj_bipush (zdk ttX11_init_7 11 rfl rfl) (by decide) ?_
  refine zj_iast (zdk ttX11_init_7 12 rfl rfl) ⟨rfl, by decide, by have := q342.1; omega⟩ (by decide) (by decide) (fun h343 e344 => ?_)
  have q345 : zMc 9 zLq_1 h343 := zMc_w q342 e344 (by decide)
  have wk : zWk 100 h343 := zWk_s (m := 99) wk e344 rfl (by decide)
  refine zj_dup (zdk ttX11_init_7 13 rfl rfl) ?_
  refine zj_bipush (zdk ttX11_init_7 14 rfl rfl) (by decide) ?_
  refine zj_bipush (zdk ttX11_init_7 15 rfl rfl) (by decide) ?_
  refine zj_iast (zdk ttX11_init_7 16 rfl rfl) ⟨rfl, by decide, by have := q345.1; omega⟩ (by decide) (by decide) (fun h346 e347 => ?_)
  have q348 : zMc 9 zLq_1 h346 := zMc_w q345 e347 (by decide)
  have wk : zWk 101 h346 := zWk_s (m := 100) wk e347 rfl (by decide)
  refine zj_dup (zdk ttX11_init_7 17 rfl rfl) ?_
  refine zj_bipush (zdk ttX11_init_7 18 rfl rfl) (by decide) ?_
  refine zj_bipush (zdk ttX11_init_7 19 rfl rfl) (by decide) ?_
  refine zj_iast (zdk ttX11_init_7 20 rfl rfl) ⟨rfl, by decide, by have := q348.1; omega⟩ (by decide) (by decide) (fun h349 e350 => ?_)
  have q351 : zMc 9 zLq_1 h349 := zMc_w q348 e350 (by decide)
  have wk : zWk 102 h349 := zWk_s (m := 101) wk e350 rfl (by decide)
  refine zj_dup (zdk ttX11_init_7 21 rfl rfl) ?_
  refine zj_bipush (zdk ttX11_init_7 22 rfl rfl) (by decide) ?_
  refine zj_bipush (zdk ttX11_init_7 23 rfl rfl) (by decide) ?_
  refine zj_iast (zdk ttX11_init_7 24 rfl rfl) ⟨rfl, by decide, by have := q351.1; omega⟩ (by decide) (by decide) (fun h352 e353 => ?_)
  have q354 : zMc 9 zLq_1 h352 := zMc_w q351 e353 (by decide)
  have wk : zWk 103 h352 := zWk_s (m := 102) wk e353 rfl (by decide)
  refine zj_dup (zdk ttX11_init_7 25 rfl rfl) ?_
  refine zj_bipush (zdk ttX11_init_7 26 rfl rfl) (by decide) ?_
  refine zj_bipush (zdk ttX11_init_7 27 rfl rfl) (by decide) ?_
  refine zj_iast (zdk ttX11_init_7 28 rfl rfl) ⟨rfl, by decide, by have := q354.1; omega⟩ (by decide) (by decide) (fun h355 e356 => ?_)
  have q357 : zMc 9 zLq_1 h355 := zMc_w q354 e356 (by decide)
  have wk : zWk 104 h355 := zWk_s (m := 103) wk e356 rfl (by decide)
  refine zj_dup (zdk ttX11_init_7 29 rfl rfl) ?_
  refine zj_bipush (zdk ttX11_init_7 30 rfl rfl) (by decide) ?_
  refine zj_bipush (zdk ttX11_init_7 31 rfl rfl) (by decide) ?_
  refine zj_iast (zdk ttX11_init_7 32 rfl rfl) ⟨rfl, by decide, by have := q357.1; omega⟩ (by decide) (by decide) (fun h358 e359 => ?_)
  have q360 : zMc 9 zLq_1 h358 := zMc_w q357 e359 (by decide)
  have wk : zWk 105 h358 := zWk_s (m := 104) wk e359 rfl (by decide)
  refine zj_dup (zdk ttX11_init_7 33 rfl rfl) ?_
  refine zj_bipush (zdk ttX11_init_7 34 rfl rfl) (by decide) ?_
  refine zj_bipush (zdk ttX11_init_7 35 rfl rfl) (by decide) ?_
  refine zj_iast (zdk ttX11_init_7 36 rfl rfl) ⟨rfl, by decide, by have := q360.1; omega⟩ (by decide) (by decide) (fun h361 e362 => ?_)
  have q363 : zMc 9 zLq_1 h361 := zMc_w q360 e362 (by decide)
  have wk : zWk 106 h361 := zWk_s (m := 105) wk e362 rfl (by decide)
  refine zj_dup (zdk ttX11_init_7 37 rfl rfl) ?_
  refine zj_bipush (zdk ttX11_init_7 38 rfl rfl) (by decide) ?_
  refine zj_bipush (zdk ttX11_init_7 39 rfl rfl) (by decide) ?_
  refine zj_iast (zdk ttX11_init_7 40 rfl rfl) ⟨rfl, by decide, by have := q363.1; omega⟩ (by decide) (by decide) (fun h364 e365 => ?_)
  have q366 : zMc 9 zLq_1 h364 := zMc_w q363 e365 (by decide)
  have wk : zWk 107 h364 := zWk_s (m := 106) wk e365 rfl (by decide)
  refine zj_dup (zdk ttX11_init_7 41 rfl rfl) ?_
  refine zj_bipush (zdk ttX11_init_7 42 rfl rfl) (by decide) ?_
  refine zj_bipush (zdk ttX11_init_7 43 rfl rfl) (by decide) ?_
  refine zj_iast (zdk ttX11_init_7 44 rfl rfl) ⟨rfl, by decide, by have := q366.1; omega⟩ (by decide) (by decide) (fun h367 e368 => ?_)
  have q369 : zMc 9 zLq_1 h367 := zMc_w q366 e368 (by decide)
  have wk : zWk 108 h367 := zWk_s (m := 107) wk e368 rfl (by decide)
  refine zj_dup (zdk ttX11_init_7 45 rfl rfl) ?_
  refine zj_bipush (zdk ttX11_init_7 46 rfl rfl) (by decide) ?_
  refine zj_bipush (zdk ttX11_init_7 47 rfl rfl) (by decide) ?_
  refine zj_iast (zdk ttX11_init_7 48 rfl rfl) ⟨rfl, by decide, by have := q369.1; omega⟩ (by decide) (by decide) (fun h370 e371 => ?_)
  have q372 : zMc 9 zLq_1 h370 := zMc_w q369 e371 (by decide)
  have wk : zWk 109 h370 := zWk_s (m := 108) wk e371 rfl (by decide)
  refine zj_dup (zdk ttX11_init_7 49 rfl rfl) ?_
  refine zj_bipush (zdk ttX11_init_7 50 rfl rfl) (by decide) ?_
  refine zj_bipush (zdk ttX11_init_7 51 rfl rfl) (by decide) ?_
  refine zj_iast (zdk ttX11_init_7 52 rfl rfl) ⟨rfl, by decide, by have := q372.1; omega⟩ (by decide) (by decide) (fun h373 e374 => ?_)
  have q375 : zMc 9 zLq_1 h373 := zMc_w q372 e374 (by decide)
  have wk : zWk 110 h373 := zWk_s (m := 109) wk e374 rfl (by decide)
  refine zj_dup (zdk ttX11_init_7 53 rfl rfl) ?_
  refine zj_bipush (zdk ttX11_init_7 54 rfl rfl) (by decide) ?_
  refine zj_bipush (zdk ttX11_init_7 55 rfl rfl) (by decide) ?_
  refine zj_iast (zdk ttX11_init_7 56 rfl rfl) ⟨rfl, by decide, by have := q375.1; omega⟩ (by decide) (by decide) (fun h376 e377 => ?_)
  have q378 : zMc 9 zLq_1 h376 := zMc_w q375 e377 (by decide)
  have wk : zWk 111 h376 := zWk_s (m := 110) wk e377 rfl (by decide)
  refine zj_dup (zdk ttX11_init_7 57 rfl rfl) ?_
  refine zj_bipush (zdk ttX11_init_7 58 rfl rfl) (by decide) ?_
  refine zj_bipush (zdk ttX11_init_7 59 rfl rfl) (by decide) ?_
  refine zj_iast (zdk ttX11_init_8 0 rfl rfl) ⟨rfl, by decide, by have := q378.1; omega⟩ (by decide) (by decide) (fun h379 e380 => ?_)
  have q381 : zMc 9 zLq_1 h379 := zMc_w q378 e380 (by decide)
  have wk : zWk 112 h379 := zWk_s (m := 111) wk e380 rfl (by decide)
  refine zj_dup (zdk ttX11_init_8 1 rfl rfl) ?_
  refine zj_bipush (zdk ttX11_init_8 2 rfl rfl) (by decide) ?_
  refine zj_bipush (zdk ttX11_init_8 3 rfl rfl) (by decide) ?_
  refine zj_iast (zdk ttX11_init_8 4 rfl rfl) ⟨rfl, by decide, by have := q381.1; omega⟩ (by decide) (by decide) (fun h382 e383 => ?_)
  have q384 : zMc 9 zLq_1 h382 := zMc_w q381 e383 (by decide)
  have wk : zWk 113 h382 := zWk_s (m := 112) wk e383 rfl (by decide)
  refine zj_dup (zdk ttX11_init_8 5 rfl rfl) ?_
  refine zj_bipush (zdk ttX11_init_8 6 rfl rfl) (by decide) ?_
  refine zj_bipush (zdk ttX11_init_8 7 rfl rfl) (by decide) ?_
  refine zj_iast (zdk ttX11_init_8 8 rfl rfl) ⟨rfl, by decide, by have := q384.1; omega⟩ (by decide) (by decide) (fun h385 e386 => ?_)
  have q387 : zMc 9 zLq_1 h385 := zMc_w q384 e386 (by decide)
  have wk : zWk 114 h385 := zWk_s (m := 113) wk e386 rfl (by decide)
  refine zj_dup (zdk ttX11_init_8 9 rfl rfl) ?_
  refine zj_bipush (zdk ttX11_init_8 10 rfl rfl) (by decide) ?_
  refine zj_bipush (zdk ttX11_init_8 11 rfl rfl) (by decide) ?_
  refine zj_iast (zdk ttX11_init_8 12 rfl rfl) ⟨rfl, by decide, by have := q387.1; omega⟩ (by decide) (by decide) (fun h388 e389 => ?_)
  have q390 : zMc 9 zLq_1 h388 := zMc_w q387 e389 (by decide)
  have wk : zWk 115 h388 := zWk_s (m := 114) wk e389 rfl (by decide)
  refine zj_dup (zdk ttX11_init_8 13 rfl rfl) ?_
  refine zj_bipush (zdk ttX11_init_8 14 rfl rfl) (by decide) ?_
  refine zj_bipush (zdk ttX11_init_8 15 rfl rfl) (by decide) ?_
  refine zj_iast (zdk ttX11_init_8 16 rfl rfl) ⟨rfl, by decide, by have := q390.1; omega⟩ (by decide) (by decide) (fun h391 e392 => ?_)
  have q393 : zMc 9 zLq_1 h391 := zMc_w q390 e392 (by decide)
  have wk : zWk 116 h391 := zWk_s (m := 115) wk e392 rfl (by decide)
  refine zj_dup (zdk ttX11_init_8 17 rfl rfl) ?_
  refine zj_bipush (zdk ttX11_init_8 18 rfl rfl) (by decide) ?_
  refine zj_bipush (zdk ttX11_init_8 19 rfl rfl) (by decide) ?_
  refine zj_iast (zdk ttX11_init_8 20 rfl rfl) ⟨rfl, by decide, by have := q393.1; omega⟩ (by decide) (by decide) (fun h394 e395 => ?_)
  have q396 : zMc 9 zLq_1 h394 := zMc_w q393 e395 (by decide)
  have wk : zWk 117 h394 := zWk_s (m := 116) wk e395 rfl (by decide)
  refine zj_dup (zdk ttX11_init_8 21 rfl rfl) ?_
  refine zj_bipush (zdk ttX11_init_8 22 rfl rfl) (by decide) ?_
  refine zj_bipush (zdk ttX11_init_8 23 rfl rfl) (by decide) ?_
  refine zj_iast (zdk ttX11_init_8 24 rfl rfl) ⟨rfl, by decide, by have := q396.1; omega⟩ (by decide) (by decide) (fun h397 e398 => ?_)
  have q399 : zMc 9 zLq_1 h397 := zMc_w q396 e398 (by decide)
  have wk : zWk 118 h397 := zWk_s (m := 117) wk e398 rfl (by decide)
  refine zj_dup (zdk ttX11_init_8 25 rfl rfl) ?_
  refine zj_bipush (zdk ttX11_init_8 26 rfl rfl) (by decide) ?_
  refine zj_bipush (zdk ttX11_init_8 27 rfl rfl) (by decide) ?_
  refine zj_iast (zdk ttX11_init_8 28 rfl rfl) ⟨rfl, by decide, by have := q399.1; omega⟩ (by decide) (by decide) (fun h400 e401 => ?_)
  have q402 : zMc 9 zLq_1 h400 := zMc_w q399 e401 (by decide)
  have wk : zWk 119 h400 := zWk_s (m := 118) wk e401 rfl (by decide)
  refine zj_dup (zdk ttX11_init_8 29 rfl rfl) ?_
  refine zj_bipush (zdk ttX11_init_8 30 rfl rfl) (by decide) ?_
  refine zj_bipush (zdk ttX11_init_8 31 rfl rfl) (by decide) ?_
  refine zj_iast (zdk ttX11_init_8 32 rfl rfl) ⟨rfl, by decide, by have := q402.1; omega⟩ (by decide) (by decide) (fun h403 e404 => ?_)
  have q405 : zMc 9 zLq_1 h403 := zMc_w q402 e404 (by decide)
  have wk : zWk 120 h403 := zWk_s (m := 119) wk e404 rfl (by decide)
  exact cm_4 l h403 q405 wk
set_option maxRecDepth 100000 in
set_option maxHeartbeats 4000000 in
theorem cm_2 (l : Launch) (h : zM) (q0 : zMc 9 zLq_1 h) (wk : zWk 60 h) : zJ shM l yX11_init cX11_init 1 none (rmA 1 35 123964) 35 123964 (zqv fun h' => zMc 36 zMl h' ∧ h'.2 8 149 = 32 ∧ zWk 150 h') 8 1690 423 [some (.inr 0)] [.inr 8, .inr 0] h := by
  refine zj_dup (zdk ttX11_init_4 33 rfl rfl) ?_
  refine zj_bipush (zdk ttX11_init_4 34 rfl rfl) (by decide) ?_
  refine zj_bipush (zdk ttX11_init_4 35 rfl rfl) (by decide) ?_
  refine zj_iast (zdk ttX11_init_4 36 rfl rfl) ⟨rfl, by decide, by have := q0.1; omega⟩ (by decide) (by decide) (fun h226 e227 => ?_)
  have q228 : zMc 9 zLq_1 h226 := zMc_w q0 e227 (by decide)
  have wk : zWk 61 h226 := zWk_s (m := 60) wk e227 rfl (by decide)
  refine zj_dup (zdk ttX11_init_4 37 rfl rfl) ?_
  refine zj_bipush (zdk ttX11_init_4 38 rfl rfl) (by decide) ?_
  refine zj_bipush (zdk ttX11_init_4 39 rfl rfl) (by decide) ?_
  refine zj_iast (zdk ttX11_init_4 40 rfl rfl) ⟨rfl, by decide, by have := q228.1; omega⟩ (by decide) (by decide) (fun h229 e230 => ?_)
  have q231 : zMc 9 zLq_1 h229 := zMc_w q228 e230 (by decide)
  have wk : zWk 62 h229 := zWk_s (m := 61) wk e230 rfl (by decide)
  refine zj_dup (zdk ttX11_init_4 41 rfl rfl) ?_
  refine zj_bipush (zdk ttX11_init_4 42 rfl rfl) (by decide) ?_
  refine zj_bipush (zdk ttX11_init_4 43 rfl rfl) (by decide) ?_
  refine zj_iast (zdk ttX11_init_4 44 rfl rfl) ⟨rfl, by decide, by have := q231.1; omega⟩ (by decide) (by decide) (fun h232 e233 => ?_)
  have q234 : zMc 9 zLq_1 h232 := zMc_w q231 e233 (by decide)
  have wk : zWk 63 h232 := zWk_s (m := 62) wk e233 rfl (by decide)
  refine zj_dup (zdk ttX11_init_4 45 rfl rfl) ?_
  refine zj_bipush (zdk ttX11_init_4 46 rfl rfl) (by decide) ?_
  refine zj_bipush (zdk ttX11_init_4 47 rfl rfl) (by decide) ?_
  refine zj_iast (zdk ttX11_init_4 48 rfl rfl) ⟨rfl, by decide, by have := q234.1; omega⟩ (by decide) (by decide) (fun h235 e236 => ?_)
  have q237 : zMc 9 zLq_1 h235 := zMc_w q234 e236 (by decide)
  have wk : zWk 64 h235 := zWk_s (m := 63) wk e236 rfl (by decide)
  refine zj_dup (zdk ttX11_init_4 49 rfl rfl) ?_
  refine zj_bipush (zdk ttX11_init_4 50 rfl rfl) (by decide) ?_
  refine zj_bipush (zdk ttX11_init_4 51 rfl rfl) (by decide) ?_
  refine zj_iast (zdk ttX11_init_4 52 rfl rfl) ⟨rfl, by decide, by have := q237.1; omega⟩ (by decide) (by decide) (fun h238 e239 => ?_)
  have q240 : zMc 9 zLq_1 h238 := zMc_w q237 e239 (by decide)
  have wk : zWk 65 h238 := zWk_s (m := 64) wk e239 rfl (by decide)
  refine zj_dup (zdk ttX11_init_4 53 rfl rfl) ?_
  refine zj_bipush (zdk ttX11_init_4 54 rfl rfl) (by decide) ?_
  refine zj_bipush (zdk ttX11_init_4 55 rfl rfl) (by decide) ?_
  refine zj_iast (zdk ttX11_init_4 56 rfl rfl) ⟨rfl, by decide, by have := q240.1; omega⟩ (by decide) (by decide) (fun h241 e242 => ?_)
  have q243 : zMc 9 zLq_1 h241 := zMc_w q240 e242 (by decide)
  have wk : zWk 66 h241 := zWk_s (m := 65) wk e242 rfl (by decide)
  refine zj_dup (zdk ttX11_init_4 57 rfl rfl) ?_
  refine zj_bipush (zdk ttX11_init_4 58 rfl rfl) (by decide) ?_
  refine zj_bipush (zdk ttX11_init_4 59 rfl rfl) (by decide) ?_
  refine zj_iast (zdk ttX11_init_5 0 rfl rfl) ⟨rfl, by decide, by have := q243.1; omega⟩ (by decide) (by decide) (fun h244 e245 => ?_)
  have q246 : zMc 9 zLq_1 h244 := zMc_w q243 e245 (by decide)
  have wk : zWk 67 h244 := zWk_s (m := 66) wk e245 rfl (by decide)
  refine zj_dup (zdk ttX11_init_5 1 rfl rfl) ?_
  refine zj_bipush (zdk ttX11_init_5 2 rfl rfl) (by decide) ?_
  refine zj_bipush (zdk ttX11_init_5 3 rfl rfl) (by decide) ?_
  refine zj_iast (zdk ttX11_init_5 4 rfl rfl) ⟨rfl, by decide, by have := q246.1; omega⟩ (by decide) (by decide) (fun h247 e248 => ?_)
  have q249 : zMc 9 zLq_1 h247 := zMc_w q246 e248 (by decide)
  have wk : zWk 68 h247 := zWk_s (m := 67) wk e248 rfl (by decide)
  refine zj_dup (zdk ttX11_init_5 5 rfl rfl) ?_
  refine zj_bipush (zdk ttX11_init_5 6 rfl rfl) (by decide) ?_
  refine zj_bipush (zdk ttX11_init_5 7 rfl rfl) (by decide) ?_
  refine zj_iast (zdk ttX11_init_5 8 rfl rfl) ⟨rfl, by decide, by have := q249.1; omega⟩ (by decide) (by decide) (fun h250 e251 => ?_)
  have q252 : zMc 9 zLq_1 h250 := zMc_w q249 e251 (by decide)
  have wk : zWk 69 h250 := zWk_s (m := 68) wk e251 rfl (by decide)
  refine zj_dup (zdk ttX11_init_5 9 rfl rfl) ?_
  refine zj_bipush (zdk ttX11_init_5 10 rfl rfl) (by decide) ?_
  refine zj_bipush (zdk ttX11_init_5 11 rfl rfl) (by decide) ?_
  refine zj_iast (zdk ttX11_init_5 12 rfl rfl) ⟨rfl, by decide, by have := q252.1; omega⟩ (by decide) (by decide) (fun h253 e254 => ?_)
  have q255 : zMc 9 zLq_1 h253 := zMc_w q252 e254 (by decide)
  have wk : zWk 70 h253 := zWk_s (m := 69) wk e254 rfl (by decide)
  refine zj_dup (zdk ttX11_init_5 13 rfl rfl) ?_
  refine zj_bipush (zdk ttX11_init_5 14 rfl rfl) (by decide) ?_
  refine zj_bipush (zdk ttX11_init_5 15 rfl rfl) (by decide) ?_
  refine zj_iast (zdk ttX11_init_5 16 rfl rfl) ⟨rfl, by decide, by have := q255.1; omega⟩ (by decide) (by decide) (fun h256 e257 => ?_)
  have q258 : zMc 9 zLq_1 h256 := zMc_w q255 e257 (by decide)
  have wk : zWk 71 h256 := zWk_s (m := 70) wk e257 rfl (by decide)
  refine zj_dup (zdk ttX11_init_5 17 rfl rfl) ?_
  refine zj_bipush (zdk ttX11_init_5 18 rfl rfl) (by decide) ?_
  refine zj_bipush (zdk ttX11_init_5 19 rfl rfl) (by decide) ?_
  refine zj_iast (zdk ttX11_init_5 20 rfl rfl) ⟨rfl, by decide, by have := q258.1; omega⟩ (by decide) (by decide) (fun h259 e260 => ?_)
  have q261 : zMc 9 zLq_1 h259 := zMc_w q258 e260 (by decide)
  have wk : zWk 72 h259 := zWk_s (m := 71) wk e260 rfl (by decide)
  refine zj_dup (zdk ttX11_init_5 21 rfl rfl) ?_
  refine zj_bipush (zdk ttX11_init_5 22 rfl rfl) (by decide) ?_
  refine zj_bipush (zdk ttX11_init_5 23 rfl rfl) (by decide) ?_
  refine zj_iast (zdk ttX11_init_5 24 rfl rfl) ⟨rfl, by decide, by have := q261.1; omega⟩ (by decide) (by decide) (fun h262 e263 => ?_)
  have q264 : zMc 9 zLq_1 h262 := zMc_w q261 e263 (by decide)
  have wk : zWk 73 h262 := zWk_s (m := 72) wk e263 rfl (by decide)
  refine zj_dup (zdk ttX11_init_5 25 rfl rfl) ?_
  refine zj_bipush (zdk ttX11_init_5 26 rfl rfl) (by decide) ?_
  refine zj_bipush (zdk ttX11_init_5 27 rfl rfl) (by decide) ?_
  refine zj_iast (zdk ttX11_init_5 28 rfl rfl) ⟨rfl, by decide, by have := q264.1; omega⟩ (by decide) (by decide) (fun h265 e266 => ?_)
  have q267 : zMc 9 zLq_1 h265 := zMc_w q264 e266 (by decide)
  have wk : zWk 74 h265 := zWk_s (m := 73) wk e266 rfl (by decide)
  refine zj_dup (zdk ttX11_init_5 29 rfl rfl) ?_
  refine zj_bipush (zdk ttX11_init_5 30 rfl rfl) (by decide) ?_
  refine zj_bipush (zdk ttX11_init_5 31 rfl rfl) (by decide) ?_
  refine zj_iast (zdk ttX11_init_5 32 rfl rfl) ⟨rfl, by decide, by have := q267.1; omega⟩ (by decide) (by decide) (fun h268 e269 => ?_)
  have q270 : zMc 9 zLq_1 h268 := zMc_w q267 e269 (by decide)
  have wk : zWk 75 h268 := zWk_s (m := 74) wk e269 rfl (by decide)
  refine zj_dup (zdk ttX11_init_5 33 rfl rfl) ?_
  refine zj_bipush (zdk ttX11_init_5 34 rfl rfl) (by decide) ?_
  refine zj_bipush (zdk ttX11_init_5 35 rfl rfl) (by decide) ?_
  refine zj_iast (zdk ttX11_init_5 36 rfl rfl) ⟨rfl, by decide, by have := q270.1; omega⟩ (by decide) (by decide) (fun h271 e272 => ?_)
  have q273 : zMc 9 zLq_1 h271 := zMc_w q270 e272 (by decide)
  have wk : zWk 76 h271 := zWk_s (m := 75) wk e272 rfl (by decide)
  refine zj_dup (zdk ttX11_init_5 37 rfl rfl) ?_
  refine zj_bipush (zdk ttX11_init_5 38 rfl rfl) (by decide) ?_
  refine zj_bipush (zdk ttX11_init_5 39 rfl rfl) (by decide) ?_
  refine zj_iast (zdk ttX11_init_5 40 rfl rfl) ⟨rfl, by decide, by have := q273.1; omega⟩ (by decide) (by decide) (fun h274 e275 => ?_)
  have q276 : zMc 9 zLq_1 h274 := zMc_w q273 e275 (by decide)
  have wk : zWk 77 h274 := zWk_s (m := 76) wk e275 rfl (by decide)
  refine zj_dup (zdk ttX11_init_5 41 rfl rfl) ?_
  refine zj_bipush (zdk ttX11_init_5 42 rfl rfl) (by decide) ?_
  refine zj_bipush (zdk ttX11_init_5 43 rfl rfl) (by decide) ?_
  refine zj_iast (zdk ttX11_init_5 44 rfl rfl) ⟨rfl, by decide, by have := q276.1; omega⟩ (by decide) (by decide) (fun h277 e278 => ?_)
  have q279 : zMc 9 zLq_1 h277 := zMc_w q276 e278 (by decide)
  have wk : zWk 78 h277 := zWk_s (m := 77) wk e278 rfl (by decide)
  refine zj_dup (zdk ttX11_init_5 45 rfl rfl) ?_
  refine zj_bipush (zdk ttX11_init_5 46 rfl rfl) (by decide) ?_
  refine zj_bipush (zdk ttX11_init_5 47 rfl rfl) (by decide) ?_
  refine zj_iast (zdk ttX11_init_5 48 rfl rfl) ⟨rfl, by decide, by have := q279.1; omega⟩ (by decide) (by decide) (fun h280 e281 => ?_)
  have q282 : zMc 9 zLq_1 h280 := zMc_w q279 e281 (by decide)
  have wk : zWk 79 h280 := zWk_s (m := 78) wk e281 rfl (by decide)
  refine zj_dup (zdk ttX11_init_5 49 rfl rfl) ?_
  refine zj_bipush (zdk ttX11_init_5 50 rfl rfl) (by decide) ?_
  refine zj_bipush (zdk ttX11_init_5 51 rfl rfl) (by decide) ?_
  refine zj_iast (zdk ttX11_init_5 52 rfl rfl) ⟨rfl, by decide, by have := q282.1; omega⟩ (by decide) (by decide) (fun h283 e284 => ?_)
  have q285 : zMc 9 zLq_1 h283 := zMc_w q282 e284 (by decide)
  have wk : zWk 80 h283 := zWk_s (m := 79) wk e284 rfl (by decide)
  refine zj_dup (zdk ttX11_init_5 53 rfl rfl) ?_
  refine zj_bipush (zdk ttX11_init_5 54 rfl rfl) (by decide) ?_
  refine zj_bipush (zdk ttX11_init_5 55 rfl rfl) (by decide) ?_
  refine zj_iast (zdk ttX11_init_5 56 rfl rfl) ⟨rfl, by decide, by have := q285.1; omega⟩ (by decide) (by decide) (fun h286 e287 => ?_)
  have q288 : zMc 9 zLq_1 h286 := zMc_w q285 e287 (by decide)
  have wk : zWk 81 h286 := zWk_s (m := 80) wk e287 rfl (by decide)
  refine zj_dup (zdk ttX11_init_5 57 rfl rfl) ?_
  refine zj_bipush (zdk ttX11_init_5 58 rfl rfl) (by decide) ?_
  refine zj_bipush (zdk ttX11_init_5 59 rfl rfl) (by decide) ?_
  refine zj_iast (zdk ttX11_init_6 0 rfl rfl) ⟨rfl, by decide, by have := q288.1; omega⟩ (by decide) (by decide) (fun h289 e290 => ?_)
  have q291 : zMc 9 zLq_1 h289 := zMc_w q288 e290 (by decide)
  have wk : zWk 82 h289 := zWk_s (m := 81) wk e290 rfl (by decide)
  refine zj_dup (zdk ttX11_init_6 1 rfl rfl) ?_
  refine zj_bipush (zdk ttX11_init_6 2 rfl rfl) (by decide) ?_
  refine zj_bipush (zdk ttX11_init_6 3 rfl rfl) (by decide) ?_
  refine zj_iast (zdk ttX11_init_6 4 rfl rfl) ⟨rfl, by decide, by have := q291.1; omega⟩ (by decide) (by decide) (fun h292 e293 => ?_)
  have q294 : zMc 9 zLq_1 h292 := zMc_w q291 e293 (by decide)
  have wk : zWk 83 h292 := zWk_s (m := 82) wk e293 rfl (by decide)
  refine zj_dup (zdk ttX11_init_6 5 rfl rfl) ?_
  refine zj_bipush (zdk ttX11_init_6 6 rfl rfl) (by decide) ?_
  refine zj_bipush (zdk ttX11_init_6 7 rfl rfl) (by decide) ?_
  refine zj_iast (zdk ttX11_init_6 8 rfl rfl) ⟨rfl, by decide, by have := q294.1; omega⟩ (by decide) (by decide) (fun h295 e296 => ?_)
  have q297 : zMc 9 zLq_1 h295 := zMc_w q294 e296 (by decide)
  have wk : zWk 84 h295 := zWk_s (m := 83) wk e296 rfl (by decide)
  refine zj_dup (zdk ttX11_init_6 9 rfl rfl) ?_
  refine zj_bipush (zdk ttX11_init_6 10 rfl rfl) (by decide) ?_
  refine zj_bipush (zdk ttX11_init_6 11 rfl rfl) (by decide) ?_
  refine zj_iast (zdk ttX11_init_6 12 rfl rfl) ⟨rfl, by decide, by have := q297.1; omega⟩ (by decide) (by decide) (fun h298 e299 => ?_)
  have q300 : zMc 9 zLq_1 h298 := zMc_w q297 e299 (by decide)
  have wk : zWk 85 h298 := zWk_s (m := 84) wk e299 rfl (by decide)
  refine zj_dup (zdk ttX11_init_6 13 rfl rfl) ?_
  refine zj_bipush (zdk ttX11_init_6 14 rfl rfl) (by decide) ?_
  refine zj_bipush (zdk ttX11_init_6 15 rfl rfl) (by decide) ?_
  refine zj_iast (zdk ttX11_init_6 16 rfl rfl) ⟨rfl, by decide, by have := q300.1; omega⟩ (by decide) (by decide) (fun h301 e302 => ?_)
  have q303 : zMc 9 zLq_1 h301 := zMc_w q300 e302 (by decide)
  have wk : zWk 86 h301 := zWk_s (m := 85) wk e302 rfl (by decide)
  refine zj_dup (zdk ttX11_init_6 17 rfl rfl) ?_
  refine zj_bipush (zdk ttX11_init_6 18 rfl rfl) (by decide) ?_
  refine zj_bipush (zdk ttX11_init_6 19 rfl rfl) (by decide) ?_
  refine zj_iast (zdk ttX11_init_6 20 rfl rfl) ⟨rfl, by decide, by have := q303.1; omega⟩ (by decide) (by decide) (fun h304 e305 => ?_)
  have q306 : zMc 9 zLq_1 h304 := zMc_w q303 e305 (by decide)
  have wk : zWk 87 h304 := zWk_s (m := 86) wk e305 rfl (by decide)
  refine zj_dup (zdk ttX11_init_6 21 rfl rfl) ?_
  refine zj_bipush (zdk ttX11_init_6 22 rfl rfl) (by decide) ?_
  refine zj_bipush (zdk ttX11_init_6 23 rfl rfl) (by decide) ?_
  refine zj_iast (zdk ttX11_init_6 24 rfl rfl) ⟨rfl, by decide, by have := q306.1; omega⟩ (by decide) (by decide) (fun h307 e308 => ?_)
  have q309 : zMc 9 zLq_1 h307 := zMc_w q306 e308 (by decide)
  have wk : zWk 88 h307 := zWk_s (m := 87) wk e308 rfl (by decide)
  refine zj_dup (zdk ttX11_init_6 25 rfl rfl) ?_
  refine zj_bipush (zdk ttX11_init_6 26 rfl rfl) (by decide) ?_
  refine zj_bipush (zdk ttX11_init_6 27 rfl rfl) (by decide) ?_
  refine zj_iast (zdk ttX11_init_6 28 rfl rfl) ⟨rfl, by decide, by have := q309.1; omega⟩ (by decide) (by decide) (fun h310 e311 => ?_)
  have q312 : zMc 9 zLq_1 h310 := zMc_w q309 e311 (by decide)
  have wk : zWk 89 h310 := zWk_s (m := 88) wk e311 rfl (by decide)
  refine zj_dup (zdk ttX11_init_6 29 rfl rfl) ?_
  refine zj_bipush (zdk ttX11_init_6 30 rfl rfl) (by decide) ?_
  refine zj_bipush (zdk ttX11_init_6 31 rfl rfl) (by decide) ?_
  refine zj_iast (zdk ttX11_init_6 32 rfl rfl) ⟨rfl, by decide, by have := q312.1; omega⟩ (by decide) (by decide) (fun h313 e314 => ?_)
  have q315 : zMc 9 zLq_1 h313 := zMc_w q312 e314 (by decide)
  have wk : zWk 90 h313 := zWk_s (m := 89) wk e314 rfl (by decide)
  exact cm_3 l h313 q315 wk
set_option maxRecDepth 100000 in
set_option maxHeartbeats 4000000 in
theorem cm_1 (l : Launch) (h : zM) (q0 : zMc 9 zLq_1 h) (wk : zWk 30 h) : zJ shM l yX11_init cX11_init 1 none (rmA 1 35 123964) 35 123964 (zqv fun h' => zMc 36 zMl h' ∧ h'.2 8 149 = 32 ∧ zWk 150 h') 8 1690 243 [some (.inr 0)] [.inr 8, .inr 0] h := by
  refine zj_dup (zdk ttX11_init_2 33 rfl rfl) ?_
  refine zj_bipush (zdk ttX11_init_2 34 rfl rfl) (by decide) ?_
  refine zj_bipush (zdk ttX11_init_2 35 rfl rfl) (by decide) ?_
  refine zj_iast (zdk ttX11_init_2 36 rfl rfl) ⟨rfl, by decide, by have := q0.1; omega⟩ (by decide) (by decide) (fun h136 e137 => ?_)
  have q138 : zMc 9 zLq_1 h136 := zMc_w q0 e137 (by decide)
  have wk : zWk 31 h136 := zWk_s (m := 30) wk e137 rfl (by decide)
  refine zj_dup (zdk ttX11_init_2 37 rfl rfl) ?_
  refine zj_bipush (zdk ttX11_init_2 38 rfl rfl) (by decide) ?_
  refine zj_bipush (zdk ttX11_init_2 39 rfl rfl) (by decide) ?_
  refine zj_iast (zdk ttX11_init_2 40 rfl rfl) ⟨rfl, by decide, by have := q138.1; omega⟩ (by decide) (by decide) (fun h139 e140 => ?_)
  have q141 : zMc 9 zLq_1 h139 := zMc_w q138 e140 (by decide)
  have wk : zWk 32 h139 := zWk_s (m := 31) wk e140 rfl (by decide)
  refine zj_dup (zdk ttX11_init_2 41 rfl rfl) ?_
  refine zj_bipush (zdk ttX11_init_2 42 rfl rfl) (by decide) ?_
  refine zj_bipush (zdk ttX11_init_2 43 rfl rfl) (by decide) ?_
  refine zj_iast (zdk ttX11_init_2 44 rfl rfl) ⟨rfl, by decide, by have := q141.1; omega⟩ (by decide) (by decide) (fun h142 e143 => ?_)
  have q144 : zMc 9 zLq_1 h142 := zMc_w q141 e143 (by decide)
  have wk : zWk 33 h142 := zWk_s (m := 32) wk e143 rfl (by decide)
  refine zj_dup (zdk ttX11_init_2 45 rfl rfl) ?_
  refine zj_bipush (zdk ttX11_init_2 46 rfl rfl) (by decide) ?_
  refine zj_bipush (zdk ttX11_init_2 47 rfl rfl) (by decide) ?_
  refine zj_iast (zdk ttX11_init_2 48 rfl rfl) ⟨rfl, by decide, by have := q144.1; omega⟩ (by decide) (by decide) (fun h145 e146 => ?_)
  have q147 : zMc 9 zLq_1 h145 := zMc_w q144 e146 (by decide)
  have wk : zWk 34 h145 := zWk_s (m := 33) wk e146 rfl (by decide)
  refine zj_dup (zdk ttX11_init_2 49 rfl rfl) ?_
  refine zj_bipush (zdk ttX11_init_2 50 rfl rfl) (by decide) ?_
  refine zj_bipush (zdk ttX11_init_2 51 rfl rfl) (by decide) ?_
  refine zj_iast (zdk ttX11_init_2 52 rfl rfl) ⟨rfl, by decide, by have := q147.1; omega⟩ (by decide) (by decide) (fun h148 e149 => ?_)
  have q150 : zMc 9 zLq_1 h148 := zMc_w q147 e149 (by decide)
  have wk : zWk 35 h148 := zWk_s (m := 34) wk e149 rfl (by decide)
  refine zj_dup (zdk ttX11_init_2 53 rfl rfl) ?_
  refine zj_bipush (zdk ttX11_init_2 54 rfl rfl) (by decide) ?_
  refine zj_bipush (zdk ttX11_init_2 55 rfl rfl) (by decide) ?_
  refine zj_iast (zdk ttX11_init_2 56 rfl rfl) ⟨rfl, by decide, by have := q150.1; omega⟩ (by decide) (by decide) (fun h151 e152 => ?_)
  have q153 : zMc 9 zLq_1 h151 := zMc_w q150 e152 (by decide)
  have wk : zWk 36 h151 := zWk_s (m := 35) wk e152 rfl (by decide)
  refine zj_dup (zdk ttX11_init_2 57 rfl rfl) ?_
  refine zj_bipush (zdk ttX11_init_2 58 rfl rfl) (by decide) ?_
  refine zj_bipush (zdk ttX11_init_2 59 rfl rfl) (by decide) ?_
  refine zj_iast (zdk ttX11_init_3 0 rfl rfl) ⟨rfl, by decide, by have := q153.1; omega⟩ (by decide) (by decide) (fun h154 e155 => ?_)
  have q156 : zMc 9 zLq_1 h154 := zMc_w q153 e155 (by decide)
  have wk : zWk 37 h154 := zWk_s (m := 36) wk e155 rfl (by decide)
  refine zj_dup (zdk ttX11_init_3 1 rfl rfl) ?_
  refine zj_bipush (zdk ttX11_init_3 2 rfl rfl) (by decide) ?_
  refine zj_bipush (zdk ttX11_init_3 3 rfl rfl) (by decide) ?_
  refine zj_iast (zdk ttX11_init_3 4 rfl rfl) ⟨rfl, by decide, by have := q156.1; omega⟩ (by decide) (by decide) (fun h157 e158 => ?_)
  have q159 : zMc 9 zLq_1 h157 := zMc_w q156 e158 (by decide)
  have wk : zWk 38 h157 := zWk_s (m := 37) wk e158 rfl (by decide)
  refine zj_dup (zdk ttX11_init_3 5 rfl rfl) ?_
  refine zj_bipush (zdk ttX11_init_3 6 rfl rfl) (by decide) ?_
  refine zj_bipush (zdk ttX11_init_3 7 rfl rfl) (by decide) ?_
  refine zj_iast (zdk ttX11_init_3 8 rfl rfl) ⟨rfl, by decide, by have := q159.1; omega⟩ (by decide) (by decide) (fun h160 e161 => ?_)
  have q162 : zMc 9 zLq_1 h160 := zMc_w q159 e161 (by decide)
  have wk : zWk 39 h160 := zWk_s (m := 38) wk e161 rfl (by decide)
  refine zj_dup (zdk ttX11_init_3 9 rfl rfl) ?_
  refine zj_bipush (zdk ttX11_init_3 10 rfl rfl) (by decide) ?_
  refine zj_bipush (zdk ttX11_init_3 11 rfl rfl) (by decide) ?_
  refine zj_iast (zdk ttX11_init_3 12 rfl rfl) ⟨rfl, by decide, by have := q162.1; omega⟩ (by decide) (by decide) (fun h163 e164 => ?_)
  have q165 : zMc 9 zLq_1 h163 := zMc_w q162 e164 (by decide)
  have wk : zWk 40 h163 := zWk_s (m := 39) wk e164 rfl (by decide)
  refine zj_dup (zdk ttX11_init_3 13 rfl rfl) ?_
  refine zj_bipush (zdk ttX11_init_3 14 rfl rfl) (by decide) ?_
  refine zj_bipush (zdk ttX11_init_3 15 rfl rfl) (by decide) ?_
  refine zj_iast (zdk ttX11_init_3 16 rfl rfl) ⟨rfl, by decide, by have := q165.1; omega⟩ (by decide) (by decide) (fun h166 e167 => ?_)
  have q168 : zMc 9 zLq_1 h166 := zMc_w q165 e167 (by decide)
  have wk : zWk 41 h166 := zWk_s (m := 40) wk e167 rfl (by decide)
  refine zj_dup (zdk ttX11_init_3 17 rfl rfl) ?_
  refine zj_bipush (zdk ttX11_init_3 18 rfl rfl) (by decide) ?_
  refine zj_bipush (zdk ttX11_init_3 19 rfl rfl) (by decide) ?_
  refine zj_iast (zdk ttX11_init_3 20 rfl rfl) ⟨rfl, by decide, by have := q168.1; omega⟩ (by decide) (by decide) (fun h169 e170 => ?_)
  have q171 : zMc 9 zLq_1 h169 := zMc_w q168 e170 (by decide)
  have wk : zWk 42 h169 := zWk_s (m := 41) wk e170 rfl (by decide)
  refine zj_dup (zdk ttX11_init_3 21 rfl rfl) ?_
  refine zj_bipush (zdk ttX11_init_3 22 rfl rfl) (by decide) ?_
  refine zj_bipush (zdk ttX11_init_3 23 rfl rfl) (by decide) ?_
  refine zj_iast (zdk ttX11_init_3 24 rfl rfl) ⟨rfl, by decide, by have := q171.1; omega⟩ (by decide) (by decide) (fun h172 e173 => ?_)
  have q174 : zMc 9 zLq_1 h172 := zMc_w q171 e173 (by decide)
  have wk : zWk 43 h172 := zWk_s (m := 42) wk e173 rfl (by decide)
  refine zj_dup (zdk ttX11_init_3 25 rfl rfl) ?_
  refine zj_bipush (zdk ttX11_init_3 26 rfl rfl) (by decide) ?_
  refine zj_bipush (zdk ttX11_init_3 27 rfl rfl) (by decide) ?_
  refine zj_iast (zdk ttX11_init_3 28 rfl rfl) ⟨rfl, by decide, by have := q174.1; omega⟩ (by decide) (by decide) (fun h175 e176 => ?_)
  have q177 : zMc 9 zLq_1 h175 := zMc_w q174 e176 (by decide)
  have wk : zWk 44 h175 := zWk_s (m := 43) wk e176 rfl (by decide)
  refine zj_dup (zdk ttX11_init_3 29 rfl rfl) ?_
  refine zj_bipush (zdk ttX11_init_3 30 rfl rfl) (by decide) ?_
  refine zj_bipush (zdk ttX11_init_3 31 rfl rfl) (by decide) ?_
  refine zj_iast (zdk ttX11_init_3 32 rfl rfl) ⟨rfl, by decide, by have := q177.1; omega⟩ (by decide) (by decide) (fun h178 e179 => ?_)
  have q180 : zMc 9 zLq_1 h178 := zMc_w q177 e179 (by decide)
  have wk : zWk 45 h178 := zWk_s (m := 44) wk e179 rfl (by decide)
  refine zj_dup (zdk ttX11_init_3 33 rfl rfl) ?_
  refine zj_bipush (zdk ttX11_init_3 34 rfl rfl) (by decide) ?_
  refine zj_bipush (zdk ttX11_init_3 35 rfl rfl) (by decide) ?_
  refine zj_iast (zdk ttX11_init_3 36 rfl rfl) ⟨rfl, by decide, by have := q180.1; omega⟩ (by decide) (by decide) (fun h181 e182 => ?_)
  have q183 : zMc 9 zLq_1 h181 := zMc_w q180 e182 (by decide)
  have wk : zWk 46 h181 := zWk_s (m := 45) wk e182 rfl (by decide)
  refine zj_dup (zdk ttX11_init_3 37 rfl rfl) ?_
  refine zj_bipush (zdk ttX11_init_3 38 rfl rfl) (by decide) ?_
  refine zj_bipush (zdk ttX11_init_3 39 rfl rfl) (by decide) ?_
  refine zj_iast (zdk ttX11_init_3 40 rfl rfl) ⟨rfl, by decide, by have := q183.1; omega⟩ (by decide) (by decide) (fun h184 e185 => ?_)
  have q186 : zMc 9 zLq_1 h184 := zMc_w q183 e185 (by decide)
  have wk : zWk 47 h184 := zWk_s (m := 46) wk e185 rfl (by decide)
  refine zj_dup (zdk ttX11_init_3 41 rfl rfl) ?_
  refine zj_bipush (zdk ttX11_init_3 42 rfl rfl) (by decide) ?_
  refine zj_bipush (zdk ttX11_init_3 43 rfl rfl) (by decide) ?_
  refine zj_iast (zdk ttX11_init_3 44 rfl rfl) ⟨rfl, by decide, by have := q186.1; omega⟩ (by decide) (by decide) (fun h187 e188 => ?_)
  have q189 : zMc 9 zLq_1 h187 := zMc_w q186 e188 (by decide)
  have wk : zWk 48 h187 := zWk_s (m := 47) wk e188 rfl (by decide)
  refine zj_dup (zdk ttX11_init_3 45 rfl rfl) ?_
  refine zj_bipush (zdk ttX11_init_3 46 rfl rfl) (by decide) ?_
  refine zj_bipush (zdk ttX11_init_3 47 rfl rfl) (by decide) ?_
  refine zj_iast (zdk ttX11_init_3 48 rfl rfl) ⟨rfl, by decide, by have := q189.1; omega⟩ (by decide) (by decide) (fun h190 e191 => ?_)
  have q192 : zMc 9 zLq_1 h190 := zMc_w q189 e191 (by decide)
  have wk : zWk 49 h190 := zWk_s (m := 48) wk e191 rfl (by decide)
  refine zj_dup (zdk ttX11_init_3 49 rfl rfl) ?_
  refine zj_bipush (zdk ttX11_init_3 50 rfl rfl) (by decide) ?_
  refine zj_bipush (zdk ttX11_init_3 51 rfl rfl) (by decide) ?_
  refine zj_iast (zdk ttX11_init_3 52 rfl rfl) ⟨rfl, by decide, by have := q192.1; omega⟩ (by decide) (by decide) (fun h193 e194 => ?_)
  have q195 : zMc 9 zLq_1 h193 := zMc_w q192 e194 (by decide)
  have wk : zWk 50 h193 := zWk_s (m := 49) wk e194 rfl (by decide)
  refine zj_dup (zdk ttX11_init_3 53 rfl rfl) ?_
  refine zj_bipush (zdk ttX11_init_3 54 rfl rfl) (by decide) ?_
  refine zj_bipush (zdk ttX11_init_3 55 rfl rfl) (by decide) ?_
  refine zj_iast (zdk ttX11_init_3 56 rfl rfl) ⟨rfl, by decide, by have := q195.1; omega⟩ (by decide) (by decide) (fun h196 e197 => ?_)
  have q198 : zMc 9 zLq_1 h196 := zMc_w q195 e197 (by decide)
  have wk : zWk 51 h196 := zWk_s (m := 50) wk e197 rfl (by decide)
  refine zj_dup (zdk ttX11_init_3 57 rfl rfl) ?_
  refine zj_bipush (zdk ttX11_init_3 58 rfl rfl) (by decide) ?_
  refine zj_bipush (zdk ttX11_init_3 59 rfl rfl) (by decide) ?_
  refine zj_iast (zdk ttX11_init_4 0 rfl rfl) ⟨rfl, by decide, by have := q198.1; omega⟩ (by decide) (by decide) (fun h199 e200 => ?_)
  have q201 : zMc 9 zLq_1 h199 := zMc_w q198 e200 (by decide)
  have wk : zWk 52 h199 := zWk_s (m := 51) wk e200 rfl (by decide)
  refine zj_dup (zdk ttX11_init_4 1 rfl rfl) ?_
  refine zj_bipush (zdk ttX11_init_4 2 rfl rfl) (by decide) ?_
  refine zj_bipush (zdk ttX11_init_4 3 rfl rfl) (by decide) ?_
  refine zj_iast (zdk ttX11_init_4 4 rfl rfl) ⟨rfl, by decide, by have := q201.1; omega⟩ (by decide) (by decide) (fun h202 e203 => ?_)
  have q204 : zMc 9 zLq_1 h202 := zMc_w q201 e203 (by decide)
  have wk : zWk 53 h202 := zWk_s (m := 52) wk e203 rfl (by decide)
  refine zj_dup (zdk ttX11_init_4 5 rfl rfl) ?_
  refine zj_bipush (zdk ttX11_init_4 6 rfl rfl) (by decide) ?_
  refine zj_bipush (zdk ttX11_init_4 7 rfl rfl) (by decide) ?_
  refine zj_iast (zdk ttX11_init_4 8 rfl rfl) ⟨rfl, by decide, by have := q204.1; omega⟩ (by decide) (by decide) (fun h205 e206 => ?_)
  have q207 : zMc 9 zLq_1 h205 := zMc_w q204 e206 (by decide)
  have wk : zWk 54 h205 := zWk_s (m := 53) wk e206 rfl (by decide)
  refine zj_dup (zdk ttX11_init_4 9 rfl rfl) ?_
  refine zj_bipush (zdk ttX11_init_4 10 rfl rfl) (by decide) ?_
  refine zj_bipush (zdk ttX11_init_4 11 rfl rfl) (by decide) ?_
  refine zj_iast (zdk ttX11_init_4 12 rfl rfl) ⟨rfl, by decide, by have := q207.1; omega⟩ (by decide) (by decide) (fun h208 e209 => ?_)
  have q210 : zMc 9 zLq_1 h208 := zMc_w q207 e209 (by decide)
  have wk : zWk 55 h208 := zWk_s (m := 54) wk e209 rfl (by decide)
  refine zj_dup (zdk ttX11_init_4 13 rfl rfl) ?_
  refine zj_bipush (zdk ttX11_init_4 14 rfl rfl) (by decide) ?_
  refine zj_bipush (zdk ttX11_init_4 15 rfl rfl) (by decide) ?_
  refine zj_iast (zdk ttX11_init_4 16 rfl rfl) ⟨rfl, by decide, by have := q210.1; omega⟩ (by decide) (by decide) (fun h211 e212 => ?_)
  have q213 : zMc 9 zLq_1 h211 := zMc_w q210 e212 (by decide)
  have wk : zWk 56 h211 := zWk_s (m := 55) wk e212 rfl (by decide)
  refine zj_dup (zdk ttX11_init_4 17 rfl rfl) ?_
  refine zj_bipush (zdk ttX11_init_4 18 rfl rfl) (by decide) ?_
  refine zj_bipush (zdk ttX11_init_4 19 rfl rfl) (by decide) ?_
  refine zj_iast (zdk ttX11_init_4 20 rfl rfl) ⟨rfl, by decide, by have := q213.1; omega⟩ (by decide) (by decide) (fun h214 e215 => ?_)
  have q216 : zMc 9 zLq_1 h214 := zMc_w q213 e215 (by decide)
  have wk : zWk 57 h214 := zWk_s (m := 56) wk e215 rfl (by decide)
  refine zj_dup (zdk ttX11_init_4 21 rfl rfl) ?_
  refine zj_bipush (zdk ttX11_init_4 22 rfl rfl) (by decide) ?_
  refine zj_bipush (zdk ttX11_init_4 23 rfl rfl) (by decide) ?_
  refine zj_iast (zdk ttX11_init_4 24 rfl rfl) ⟨rfl, by decide, by have := q216.1; omega⟩ (by decide) (by decide) (fun h217 e218 => ?_)
  have q219 : zMc 9 zLq_1 h217 := zMc_w q216 e218 (by decide)
  have wk : zWk 58 h217 := zWk_s (m := 57) wk e218 rfl (by decide)
  refine zj_dup (zdk ttX11_init_4 25 rfl rfl) ?_
  refine zj_bipush (zdk ttX11_init_4 26 rfl rfl) (by decide) ?_
  refine zj_bipush (zdk ttX11_init_4 27 rfl rfl) (by decide) ?_
  refine zj_iast (zdk ttX11_init_4 28 rfl rfl) ⟨rfl, by decide, by have := q219.1; omega⟩ (by decide) (by decide) (fun h220 e221 => ?_)
  have q222 : zMc 9 zLq_1 h220 := zMc_w q219 e221 (by decide)
  have wk : zWk 59 h220 := zWk_s (m := 58) wk e221 rfl (by decide)
  refine zj_dup (zdk ttX11_init_4 29 rfl rfl) ?_
  refine zj_bipush (zdk ttX11_init_4 30 rfl rfl) (by decide) ?_
  refine zj_bipush (zdk ttX11_init_4 31 rfl rfl) (by decide) ?_
  refine zj_iast (zdk ttX11_init_4 32 rfl rfl) ⟨rfl, by decide, by have := q222.1; omega⟩ (by decide) (by decide) (fun h223 e224 => ?_)
  have q225 : zMc 9 zLq_1 h223 := zMc_w q222 e224 (by decide)
  have wk : zWk 60 h223 := zWk_s (m := 59) wk e224 rfl (by decide)
  exact cm_2 l h223 q225 wk
set_option maxRecDepth 100000 in
set_option maxHeartbeats 4000000 in
theorem cm_0 (l : Launch) (h : zM) (q0 : zMc 9 zLq_1 h) (wk : zWk 0 h) : zJ shM l yX11_init cX11_init 1 none (rmA 1 35 123964) 35 123964 (zqv fun h' => zMc 36 zMl h' ∧ h'.2 8 149 = 32 ∧ zWk 150 h') 8 1690 69 [some (.inr 0)] [.inr 8, .inr 0] h := by
  refine zj_dup (zdk ttX11_init_0 33 rfl rfl) ?_
  refine zj_iconst (zdk ttX11_init_0 34 rfl rfl) ?_
  refine zj_bipush (zdk ttX11_init_0 35 rfl rfl) (by decide) ?_
  refine zj_iast (zdk ttX11_init_0 36 rfl rfl) ⟨rfl, by decide, by have := q0.1; omega⟩ (by decide) (by decide) (fun h46 e47 => ?_)
  have q48 : zMc 9 zLq_1 h46 := zMc_w q0 e47 (by decide)
  have wk : zWk 1 h46 := zWk_s (m := 0) wk e47 rfl (by decide)
  refine zj_dup (zdk ttX11_init_0 37 rfl rfl) ?_
  refine zj_iconst (zdk ttX11_init_0 38 rfl rfl) ?_
  refine zj_bipush (zdk ttX11_init_0 39 rfl rfl) (by decide) ?_
  refine zj_iast (zdk ttX11_init_0 40 rfl rfl) ⟨rfl, by decide, by have := q48.1; omega⟩ (by decide) (by decide) (fun h49 e50 => ?_)
  have q51 : zMc 9 zLq_1 h49 := zMc_w q48 e50 (by decide)
  have wk : zWk 2 h49 := zWk_s (m := 1) wk e50 rfl (by decide)
  refine zj_dup (zdk ttX11_init_0 41 rfl rfl) ?_
  refine zj_iconst (zdk ttX11_init_0 42 rfl rfl) ?_
  refine zj_bipush (zdk ttX11_init_0 43 rfl rfl) (by decide) ?_
  refine zj_iast (zdk ttX11_init_0 44 rfl rfl) ⟨rfl, by decide, by have := q51.1; omega⟩ (by decide) (by decide) (fun h52 e53 => ?_)
  have q54 : zMc 9 zLq_1 h52 := zMc_w q51 e53 (by decide)
  have wk : zWk 3 h52 := zWk_s (m := 2) wk e53 rfl (by decide)
  refine zj_dup (zdk ttX11_init_0 45 rfl rfl) ?_
  refine zj_iconst (zdk ttX11_init_0 46 rfl rfl) ?_
  refine zj_bipush (zdk ttX11_init_0 47 rfl rfl) (by decide) ?_
  refine zj_iast (zdk ttX11_init_0 48 rfl rfl) ⟨rfl, by decide, by have := q54.1; omega⟩ (by decide) (by decide) (fun h55 e56 => ?_)
  have q57 : zMc 9 zLq_1 h55 := zMc_w q54 e56 (by decide)
  have wk : zWk 4 h55 := zWk_s (m := 3) wk e56 rfl (by decide)
  refine zj_dup (zdk ttX11_init_0 49 rfl rfl) ?_
  refine zj_iconst (zdk ttX11_init_0 50 rfl rfl) ?_
  refine zj_bipush (zdk ttX11_init_0 51 rfl rfl) (by decide) ?_
  refine zj_iast (zdk ttX11_init_0 52 rfl rfl) ⟨rfl, by decide, by have := q57.1; omega⟩ (by decide) (by decide) (fun h58 e59 => ?_)
  have q60 : zMc 9 zLq_1 h58 := zMc_w q57 e59 (by decide)
  have wk : zWk 5 h58 := zWk_s (m := 4) wk e59 rfl (by decide)
  refine zj_dup (zdk ttX11_init_0 53 rfl rfl) ?_
  refine zj_iconst (zdk ttX11_init_0 54 rfl rfl) ?_
  refine zj_bipush (zdk ttX11_init_0 55 rfl rfl) (by decide) ?_
  refine zj_iast (zdk ttX11_init_0 56 rfl rfl) ⟨rfl, by decide, by have := q60.1; omega⟩ (by decide) (by decide) (fun h61 e62 => ?_)
  have q63 : zMc 9 zLq_1 h61 := zMc_w q60 e62 (by decide)
  have wk : zWk 6 h61 := zWk_s (m := 5) wk e62 rfl (by decide)
  refine zj_dup (zdk ttX11_init_0 57 rfl rfl) ?_
  refine zj_bipush (zdk ttX11_init_0 58 rfl rfl) (by decide) ?_
  refine zj_bipush (zdk ttX11_init_0 59 rfl rfl) (by decide) ?_
  refine zj_iast (zdk ttX11_init_1 0 rfl rfl) ⟨rfl, by decide, by have := q63.1; omega⟩ (by decide) (by decide) (fun h64 e65 => ?_)
  have q66 : zMc 9 zLq_1 h64 := zMc_w q63 e65 (by decide)
  have wk : zWk 7 h64 := zWk_s (m := 6) wk e65 rfl (by decide)
  refine zj_dup (zdk ttX11_init_1 1 rfl rfl) ?_
  refine zj_bipush (zdk ttX11_init_1 2 rfl rfl) (by decide) ?_
  refine zj_bipush (zdk ttX11_init_1 3 rfl rfl) (by decide) ?_
  refine zj_iast (zdk ttX11_init_1 4 rfl rfl) ⟨rfl, by decide, by have := q66.1; omega⟩ (by decide) (by decide) (fun h67 e68 => ?_)
  have q69 : zMc 9 zLq_1 h67 := zMc_w q66 e68 (by decide)
  have wk : zWk 8 h67 := zWk_s (m := 7) wk e68 rfl (by decide)
  refine zj_dup (zdk ttX11_init_1 5 rfl rfl) ?_
  refine zj_bipush (zdk ttX11_init_1 6 rfl rfl) (by decide) ?_
  refine zj_bipush (zdk ttX11_init_1 7 rfl rfl) (by decide) ?_
  refine zj_iast (zdk ttX11_init_1 8 rfl rfl) ⟨rfl, by decide, by have := q69.1; omega⟩ (by decide) (by decide) (fun h70 e71 => ?_)
  have q72 : zMc 9 zLq_1 h70 := zMc_w q69 e71 (by decide)
  have wk : zWk 9 h70 := zWk_s (m := 8) wk e71 rfl (by decide)
  refine zj_dup (zdk ttX11_init_1 9 rfl rfl) ?_
  refine zj_bipush (zdk ttX11_init_1 10 rfl rfl) (by decide) ?_
  refine zj_bipush (zdk ttX11_init_1 11 rfl rfl) (by decide) ?_
  refine zj_iast (zdk ttX11_init_1 12 rfl rfl) ⟨rfl, by decide, by have := q72.1; omega⟩ (by decide) (by decide) (fun h73 e74 => ?_)
  have q75 : zMc 9 zLq_1 h73 := zMc_w q72 e74 (by decide)
  have wk : zWk 10 h73 := zWk_s (m := 9) wk e74 rfl (by decide)
  refine zj_dup (zdk ttX11_init_1 13 rfl rfl) ?_
  refine zj_bipush (zdk ttX11_init_1 14 rfl rfl) (by decide) ?_
  refine zj_bipush (zdk ttX11_init_1 15 rfl rfl) (by decide) ?_
  refine zj_iast (zdk ttX11_init_1 16 rfl rfl) ⟨rfl, by decide, by have := q75.1; omega⟩ (by decide) (by decide) (fun h76 e77 => ?_)
  have q78 : zMc 9 zLq_1 h76 := zMc_w q75 e77 (by decide)
  have wk : zWk 11 h76 := zWk_s (m := 10) wk e77 rfl (by decide)
  refine zj_dup (zdk ttX11_init_1 17 rfl rfl) ?_
  refine zj_bipush (zdk ttX11_init_1 18 rfl rfl) (by decide) ?_
  refine zj_bipush (zdk ttX11_init_1 19 rfl rfl) (by decide) ?_
  refine zj_iast (zdk ttX11_init_1 20 rfl rfl) ⟨rfl, by decide, by have := q78.1; omega⟩ (by decide) (by decide) (fun h79 e80 => ?_)
  have q81 : zMc 9 zLq_1 h79 := zMc_w q78 e80 (by decide)
  have wk : zWk 12 h79 := zWk_s (m := 11) wk e80 rfl (by decide)
  refine zj_dup (zdk ttX11_init_1 21 rfl rfl) ?_
  refine zj_bipush (zdk ttX11_init_1 22 rfl rfl) (by decide) ?_
  refine zj_bipush (zdk ttX11_init_1 23 rfl rfl) (by decide) ?_
  refine zj_iast (zdk ttX11_init_1 24 rfl rfl) ⟨rfl, by decide, by have := q81.1; omega⟩ (by decide) (by decide) (fun h82 e83 => ?_)
  have q84 : zMc 9 zLq_1 h82 := zMc_w q81 e83 (by decide)
  have wk : zWk 13 h82 := zWk_s (m := 12) wk e83 rfl (by decide)
  refine zj_dup (zdk ttX11_init_1 25 rfl rfl) ?_
  refine zj_bipush (zdk ttX11_init_1 26 rfl rfl) (by decide) ?_
  refine zj_bipush (zdk ttX11_init_1 27 rfl rfl) (by decide) ?_
  refine zj_iast (zdk ttX11_init_1 28 rfl rfl) ⟨rfl, by decide, by have := q84.1; omega⟩ (by decide) (by decide) (fun h85 e86 => ?_)
  have q87 : zMc 9 zLq_1 h85 := zMc_w q84 e86 (by decide)
  have wk : zWk 14 h85 := zWk_s (m := 13) wk e86 rfl (by decide)
  refine zj_dup (zdk ttX11_init_1 29 rfl rfl) ?_
  refine zj_bipush (zdk ttX11_init_1 30 rfl rfl) (by decide) ?_
  refine zj_bipush (zdk ttX11_init_1 31 rfl rfl) (by decide) ?_
  refine zj_iast (zdk ttX11_init_1 32 rfl rfl) ⟨rfl, by decide, by have := q87.1; omega⟩ (by decide) (by decide) (fun h88 e89 => ?_)
  have q90 : zMc 9 zLq_1 h88 := zMc_w q87 e89 (by decide)
  have wk : zWk 15 h88 := zWk_s (m := 14) wk e89 rfl (by decide)
  refine zj_dup (zdk ttX11_init_1 33 rfl rfl) ?_
  refine zj_bipush (zdk ttX11_init_1 34 rfl rfl) (by decide) ?_
  refine zj_bipush (zdk ttX11_init_1 35 rfl rfl) (by decide) ?_
  refine zj_iast (zdk ttX11_init_1 36 rfl rfl) ⟨rfl, by decide, by have := q90.1; omega⟩ (by decide) (by decide) (fun h91 e92 => ?_)
  have q93 : zMc 9 zLq_1 h91 := zMc_w q90 e92 (by decide)
  have wk : zWk 16 h91 := zWk_s (m := 15) wk e92 rfl (by decide)
  refine zj_dup (zdk ttX11_init_1 37 rfl rfl) ?_
  refine zj_bipush (zdk ttX11_init_1 38 rfl rfl) (by decide) ?_
  refine zj_bipush (zdk ttX11_init_1 39 rfl rfl) (by decide) ?_
  refine zj_iast (zdk ttX11_init_1 40 rfl rfl) ⟨rfl, by decide, by have := q93.1; omega⟩ (by decide) (by decide) (fun h94 e95 => ?_)
  have q96 : zMc 9 zLq_1 h94 := zMc_w q93 e95 (by decide)
  have wk : zWk 17 h94 := zWk_s (m := 16) wk e95 rfl (by decide)
  refine zj_dup (zdk ttX11_init_1 41 rfl rfl) ?_
  refine zj_bipush (zdk ttX11_init_1 42 rfl rfl) (by decide) ?_
  refine zj_bipush (zdk ttX11_init_1 43 rfl rfl) (by decide) ?_
  refine zj_iast (zdk ttX11_init_1 44 rfl rfl) ⟨rfl, by decide, by have := q96.1; omega⟩ (by decide) (by decide) (fun h97 e98 => ?_)
  have q99 : zMc 9 zLq_1 h97 := zMc_w q96 e98 (by decide)
  have wk : zWk 18 h97 := zWk_s (m := 17) wk e98 rfl (by decide)
  refine zj_dup (zdk ttX11_init_1 45 rfl rfl) ?_
  refine zj_bipush (zdk ttX11_init_1 46 rfl rfl) (by decide) ?_
  refine zj_bipush (zdk ttX11_init_1 47 rfl rfl) (by decide) ?_
  refine zj_iast (zdk ttX11_init_1 48 rfl rfl) ⟨rfl, by decide, by have := q99.1; omega⟩ (by decide) (by decide) (fun h100 e101 => ?_)
  have q102 : zMc 9 zLq_1 h100 := zMc_w q99 e101 (by decide)
  have wk : zWk 19 h100 := zWk_s (m := 18) wk e101 rfl (by decide)
  refine zj_dup (zdk ttX11_init_1 49 rfl rfl) ?_
  refine zj_bipush (zdk ttX11_init_1 50 rfl rfl) (by decide) ?_
  refine zj_bipush (zdk ttX11_init_1 51 rfl rfl) (by decide) ?_
  refine zj_iast (zdk ttX11_init_1 52 rfl rfl) ⟨rfl, by decide, by have := q102.1; omega⟩ (by decide) (by decide) (fun h103 e104 => ?_)
  have q105 : zMc 9 zLq_1 h103 := zMc_w q102 e104 (by decide)
  have wk : zWk 20 h103 := zWk_s (m := 19) wk e104 rfl (by decide)
  refine zj_dup (zdk ttX11_init_1 53 rfl rfl) ?_
  refine zj_bipush (zdk ttX11_init_1 54 rfl rfl) (by decide) ?_
  refine zj_bipush (zdk ttX11_init_1 55 rfl rfl) (by decide) ?_
  refine zj_iast (zdk ttX11_init_1 56 rfl rfl) ⟨rfl, by decide, by have := q105.1; omega⟩ (by decide) (by decide) (fun h106 e107 => ?_)
  have q108 : zMc 9 zLq_1 h106 := zMc_w q105 e107 (by decide)
  have wk : zWk 21 h106 := zWk_s (m := 20) wk e107 rfl (by decide)
  refine zj_dup (zdk ttX11_init_1 57 rfl rfl) ?_
  refine zj_bipush (zdk ttX11_init_1 58 rfl rfl) (by decide) ?_
  refine zj_bipush (zdk ttX11_init_1 59 rfl rfl) (by decide) ?_
  refine zj_iast (zdk ttX11_init_2 0 rfl rfl) ⟨rfl, by decide, by have := q108.1; omega⟩ (by decide) (by decide) (fun h109 e110 => ?_)
  have q111 : zMc 9 zLq_1 h109 := zMc_w q108 e110 (by decide)
  have wk : zWk 22 h109 := zWk_s (m := 21) wk e110 rfl (by decide)
  refine zj_dup (zdk ttX11_init_2 1 rfl rfl) ?_
  refine zj_bipush (zdk ttX11_init_2 2 rfl rfl) (by decide) ?_
  refine zj_bipush (zdk ttX11_init_2 3 rfl rfl) (by decide) ?_
  refine zj_iast (zdk ttX11_init_2 4 rfl rfl) ⟨rfl, by decide, by have := q111.1; omega⟩ (by decide) (by decide) (fun h112 e113 => ?_)
  have q114 : zMc 9 zLq_1 h112 := zMc_w q111 e113 (by decide)
  have wk : zWk 23 h112 := zWk_s (m := 22) wk e113 rfl (by decide)
  refine zj_dup (zdk ttX11_init_2 5 rfl rfl) ?_
  refine zj_bipush (zdk ttX11_init_2 6 rfl rfl) (by decide) ?_
  refine zj_bipush (zdk ttX11_init_2 7 rfl rfl) (by decide) ?_
  refine zj_iast (zdk ttX11_init_2 8 rfl rfl) ⟨rfl, by decide, by have := q114.1; omega⟩ (by decide) (by decide) (fun h115 e116 => ?_)
  have q117 : zMc 9 zLq_1 h115 := zMc_w q114 e116 (by decide)
  have wk : zWk 24 h115 := zWk_s (m := 23) wk e116 rfl (by decide)
  refine zj_dup (zdk ttX11_init_2 9 rfl rfl) ?_
  refine zj_bipush (zdk ttX11_init_2 10 rfl rfl) (by decide) ?_
  refine zj_bipush (zdk ttX11_init_2 11 rfl rfl) (by decide) ?_
  refine zj_iast (zdk ttX11_init_2 12 rfl rfl) ⟨rfl, by decide, by have := q117.1; omega⟩ (by decide) (by decide) (fun h118 e119 => ?_)
  have q120 : zMc 9 zLq_1 h118 := zMc_w q117 e119 (by decide)
  have wk : zWk 25 h118 := zWk_s (m := 24) wk e119 rfl (by decide)
  refine zj_dup (zdk ttX11_init_2 13 rfl rfl) ?_
  refine zj_bipush (zdk ttX11_init_2 14 rfl rfl) (by decide) ?_
  refine zj_bipush (zdk ttX11_init_2 15 rfl rfl) (by decide) ?_
  refine zj_iast (zdk ttX11_init_2 16 rfl rfl) ⟨rfl, by decide, by have := q120.1; omega⟩ (by decide) (by decide) (fun h121 e122 => ?_)
  have q123 : zMc 9 zLq_1 h121 := zMc_w q120 e122 (by decide)
  have wk : zWk 26 h121 := zWk_s (m := 25) wk e122 rfl (by decide)
  refine zj_dup (zdk ttX11_init_2 17 rfl rfl) ?_
  refine zj_bipush (zdk ttX11_init_2 18 rfl rfl) (by decide) ?_
  refine zj_bipush (zdk ttX11_init_2 19 rfl rfl) (by decide) ?_
  refine zj_iast (zdk ttX11_init_2 20 rfl rfl) ⟨rfl, by decide, by have := q123.1; omega⟩ (by decide) (by decide) (fun h124 e125 => ?_)
  have q126 : zMc 9 zLq_1 h124 := zMc_w q123 e125 (by decide)
  have wk : zWk 27 h124 := zWk_s (m := 26) wk e125 rfl (by decide)
  refine zj_dup (zdk ttX11_init_2 21 rfl rfl) ?_
  refine zj_bipush (zdk ttX11_init_2 22 rfl rfl) (by decide) ?_
  refine zj_bipush (zdk ttX11_init_2 23 rfl rfl) (by decide) ?_
  refine zj_iast (zdk ttX11_init_2 24 rfl rfl) ⟨rfl, by decide, by have := q126.1; omega⟩ (by decide) (by decide) (fun h127 e128 => ?_)
  have q129 : zMc 9 zLq_1 h127 := zMc_w q126 e128 (by decide)
  have wk : zWk 28 h127 := zWk_s (m := 27) wk e128 rfl (by decide)
  refine zj_dup (zdk ttX11_init_2 25 rfl rfl) ?_
  refine zj_bipush (zdk ttX11_init_2 26 rfl rfl) (by decide) ?_
  refine zj_bipush (zdk ttX11_init_2 27 rfl rfl) (by decide) ?_
  refine zj_iast (zdk ttX11_init_2 28 rfl rfl) ⟨rfl, by decide, by have := q129.1; omega⟩ (by decide) (by decide) (fun h130 e131 => ?_)
  have q132 : zMc 9 zLq_1 h130 := zMc_w q129 e131 (by decide)
  have wk : zWk 29 h130 := zWk_s (m := 28) wk e131 rfl (by decide)
  refine zj_dup (zdk ttX11_init_2 29 rfl rfl) ?_
  refine zj_bipush (zdk ttX11_init_2 30 rfl rfl) (by decide) ?_
  refine zj_bipush (zdk ttX11_init_2 31 rfl rfl) (by decide) ?_
  refine zj_iast (zdk ttX11_init_2 32 rfl rfl) ⟨rfl, by decide, by have := q132.1; omega⟩ (by decide) (by decide) (fun h133 e134 => ?_)
  have q135 : zMc 9 zLq_1 h133 := zMc_w q132 e134 (by decide)
  have wk : zWk 30 h133 := zWk_s (m := 29) wk e134 rfl (by decide)
  exact cm_1 l h133 q135 wk
set_option maxRecDepth 100000 in
set_option maxHeartbeats 4000000 in
theorem s_X11_init (l : Launch) (h : zM) (q0 : zMc 1 zLq_29 h) : zT shM l yX11_init cX11_init 1 none (rmA 1 35 123964) 35 123964 [.inr 0] h (zqv fun h' => zMc 36 zMl h' ∧ h'.2 8 149 = 32 ∧ zWk 150 h') := by
  refine zT_of (by decide +kernel) (L0 := [some (.inr 0)]) rfl (Nat.le_of_ble_eq_true rfl) ?_
  refine zj_aload_n (zdk ttX11_init_0 0 rfl rfl) rfl (by decide) ?_
  refine zj_oinit (zdk ttX11_init_0 1 rfl rfl) wo_RX11 wo_i wo_c (by decide) (Nat.zero_le _) ⟨Nat.le_of_ble_eq_true rfl, Nat.le_of_ble_eq_true rfl⟩ ?_
  refine zj_aload_n (zdk ttX11_init_0 2 rfl rfl) rfl (by decide) ?_
  refine zj_bipush (zdk ttX11_init_0 3 rfl rfl) (by decide) ?_
  have kh1 : ((h.1 : Nat) : Int) = 1 := q0.1
  refine zj_newi (N := 63) (zdk ttX11_init_0 4 rfl rfl) wa_int rfl (by decide) (by rw [kh1]; rfl) ⟨Nat.le_of_ble_eq_true rfl, Nat.le_of_ble_eq_true rfl⟩ (fun h1 e2 => ?_)
  rw [kh1]
  have q3 : zMc 2 zLq_29 h1 := zMc_n q0 e2 (by decide) (by decide)
  refine zj_putr (zdk ttX11_init_0 5 rfl rfl) zf_RX11_7 rfl ⟨rfl, by decide, by have := q3.1; omega⟩ (Or.inr ⟨rfl, zw_RX11_7⟩) (k2 := 1) rfl (fun h4 e5 => ?_)
  have q6 : zMc 2 zLq_30 h4 := zMc_f (f := 1) q3 e5 rfl (by decide) rfl
  refine zj_aload_n (zdk ttX11_init_0 6 rfl rfl) rfl (by decide) ?_
  refine zj_sipush (zdk ttX11_init_0 7 rfl rfl) (by decide) ?_
  have kh7 : ((h4.1 : Nat) : Int) = 2 := q6.1
  refine zj_newi (N := 378) (zdk ttX11_init_0 8 rfl rfl) wa_int rfl (by decide) (by rw [kh7]; rfl) ⟨Nat.le_of_ble_eq_true rfl, Nat.le_of_ble_eq_true rfl⟩ (fun h7 e8 => ?_)
  rw [kh7]
  have q9 : zMc 3 zLq_30 h7 := zMc_n q6 e8 (by decide) (by decide)
  refine zj_putr (zdk ttX11_init_0 9 rfl rfl) zf_RX11_13 rfl ⟨rfl, by decide, by have := q9.1; omega⟩ (Or.inr ⟨rfl, zw_RX11_13⟩) (k2 := 2) rfl (fun h10 e11 => ?_)
  have q12 : zMc 3 zLq_31 h10 := zMc_f (f := 2) q9 e11 rfl (by decide) rfl
  refine zj_aload_n (zdk ttX11_init_0 10 rfl rfl) rfl (by decide) ?_
  refine zj_bipush (zdk ttX11_init_0 11 rfl rfl) (by decide) ?_
  have kh13 : ((h10.1 : Nat) : Int) = 3 := q12.1
  refine zj_newi (N := 63) (zdk ttX11_init_0 12 rfl rfl) wa_int rfl (by decide) (by rw [kh13]; rfl) ⟨Nat.le_of_ble_eq_true rfl, Nat.le_of_ble_eq_true rfl⟩ (fun h13 e14 => ?_)
  rw [kh13]
  have q15 : zMc 4 zLq_31 h13 := zMc_n q12 e14 (by decide) (by decide)
  refine zj_putr (zdk ttX11_init_0 13 rfl rfl) zf_RX11_16 rfl ⟨rfl, by decide, by have := q15.1; omega⟩ (Or.inr ⟨rfl, zw_RX11_16⟩) (k2 := 4) rfl (fun h16 e17 => ?_)
  have q18 : zMc 4 zLq_32 h16 := zMc_f (f := 4) q15 e17 rfl (by decide) rfl
  refine zj_aload_n (zdk ttX11_init_0 14 rfl rfl) rfl (by decide) ?_
  refine zj_bipush (zdk ttX11_init_0 15 rfl rfl) (by decide) ?_
  have kh19 : ((h16.1 : Nat) : Int) = 4 := q18.1
  refine zj_newi (N := 18) (zdk ttX11_init_0 16 rfl rfl) wa_int rfl (by decide) (by rw [kh19]; rfl) ⟨Nat.le_of_ble_eq_true rfl, Nat.le_of_ble_eq_true rfl⟩ (fun h19 e20 => ?_)
  rw [kh19]
  have q21 : zMc 5 zLq_32 h19 := zMc_n q18 e20 (by decide) (by decide)
  refine zj_putr (zdk ttX11_init_0 17 rfl rfl) zf_RX11_19 rfl ⟨rfl, by decide, by have := q21.1; omega⟩ (Or.inr ⟨rfl, zw_RX11_19⟩) (k2 := 7) rfl (fun h22 e23 => ?_)
  have q24 : zMc 5 zLq_33 h22 := zMc_f (f := 7) q21 e23 rfl (by decide) rfl
  refine zj_aload_n (zdk ttX11_init_0 18 rfl rfl) rfl (by decide) ?_
  refine zj_bipush (zdk ttX11_init_0 19 rfl rfl) (by decide) ?_
  have kh25 : ((h22.1 : Nat) : Int) = 5 := q24.1
  refine zj_newi (N := 18) (zdk ttX11_init_0 20 rfl rfl) wa_int rfl (by decide) (by rw [kh25]; rfl) ⟨Nat.le_of_ble_eq_true rfl, Nat.le_of_ble_eq_true rfl⟩ (fun h25 e26 => ?_)
  rw [kh25]
  have q27 : zMc 6 zLq_33 h25 := zMc_n q24 e26 (by decide) (by decide)
  refine zj_putr (zdk ttX11_init_0 21 rfl rfl) zf_RX11_22 rfl ⟨rfl, by decide, by have := q27.1; omega⟩ (Or.inr ⟨rfl, zw_RX11_22⟩) (k2 := 8) rfl (fun h28 e29 => ?_)
  have q30 : zMc 6 zLq_34 h28 := zMc_f (f := 8) q27 e29 rfl (by decide) rfl
  refine zj_aload_n (zdk ttX11_init_0 22 rfl rfl) rfl (by decide) ?_
  refine zj_sipush (zdk ttX11_init_0 23 rfl rfl) (by decide) ?_
  have kh31 : ((h28.1 : Nat) : Int) = 6 := q30.1
  refine zj_newi (N := 600) (zdk ttX11_init_0 24 rfl rfl) wa_int rfl (by decide) (by rw [kh31]; rfl) ⟨Nat.le_of_ble_eq_true rfl, Nat.le_of_ble_eq_true rfl⟩ (fun h31 e32 => ?_)
  rw [kh31]
  have q33 : zMc 7 zLq_34 h31 := zMc_n q30 e32 (by decide) (by decide)
  refine zj_putr (zdk ttX11_init_0 25 rfl rfl) zf_RX11_25 rfl ⟨rfl, by decide, by have := q33.1; omega⟩ (Or.inr ⟨rfl, zw_RX11_25⟩) (k2 := 9) rfl (fun h34 e35 => ?_)
  have q36 : zMc 7 zLq_35 h34 := zMc_f (f := 9) q33 e35 rfl (by decide) rfl
  refine zj_aload_n (zdk ttX11_init_0 26 rfl rfl) rfl (by decide) ?_
  refine zj_sipush (zdk ttX11_init_0 27 rfl rfl) (by decide) ?_
  have kh37 : ((h34.1 : Nat) : Int) = 7 := q36.1
  refine zj_newi (N := 400) (zdk ttX11_init_0 28 rfl rfl) wa_int rfl (by decide) (by rw [kh37]; rfl) ⟨Nat.le_of_ble_eq_true rfl, Nat.le_of_ble_eq_true rfl⟩ (fun h37 e38 => ?_)
  rw [kh37]
  have q39 : zMc 8 zLq_35 h37 := zMc_n q36 e38 (by decide) (by decide)
  refine zj_putr (zdk ttX11_init_0 29 rfl rfl) zf_RX11_28 rfl ⟨rfl, by decide, by have := q39.1; omega⟩ (Or.inr ⟨rfl, zw_RX11_28⟩) (k2 := 10) rfl (fun h40 e41 => ?_)
  have q42 : zMc 8 zLq_1 h40 := zMc_f (f := 10) q39 e41 rfl (by decide) rfl
  refine zj_aload_n (zdk ttX11_init_0 30 rfl rfl) rfl (by decide) ?_
  refine zj_sipush (zdk ttX11_init_0 31 rfl rfl) (by decide) ?_
  have kh43 : ((h40.1 : Nat) : Int) = 8 := q42.1
  refine zj_newi (N := 150) (zdk ttX11_init_0 32 rfl rfl) wa_int rfl (by decide) (by rw [kh43]; rfl) ⟨Nat.le_of_ble_eq_true rfl, Nat.le_of_ble_eq_true rfl⟩ (fun h43 e44 => ?_)
  rw [kh43]
  have q45 : zMc 9 zLq_1 h43 := zMc_n q42 e44 (by decide) (by decide)
  exact cm_0 l h43 q45 (zWk_0 _)
