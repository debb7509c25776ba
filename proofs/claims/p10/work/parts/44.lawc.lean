abbrev tL_0 : List (Nat × Instr × Nat) := [(0, .new 7, 3), (3, .dup, 1), (4, .invokespecial 9, 3), (7, .astore_n 1, 1), (8, .new 10, 3), (11, .dup, 1), (12, .invokespecial 12, 3), (15, .astore_n 2, 1), (16, .iconst 0, 1), (17, .istore_n 3, 1), (18, .iload_n 3, 1), (19, .aload_n 0, 1), (20, .arraylength, 1), (21, .bipush 6, 2), (23, .isub, 1), (24, .if_icmp .gt 1337, 3), (27, .aload_n 0, 1), (28, .iload_n 3, 1), (29, .iaload, 1), (30, .bipush 63, 2), (32, .iand, 1), (33, .tableswitch 1322 0 34 #[155, 178, 211, 254, 287, 310, 373, 396, 419, 442, 475, 508, 541, 554, 587, 620, 653, 702, 725, 758, 791, 834, 857, 870, 913, 956, 999, 1042, 1085, 1138, 1171, 1194, 1247, 1260, 1299], 155), (188, .aload_n 1, 1), (189, .aload_n 0, 1), (190, .iload_n 3, 1), (191, .iconst 1, 1), (192, .iadd, 1), (193, .iaload, 1), (194, .invokevirtual 13, 3), (197, .pop, 1), (198, .aload_n 2, 1), (199, .aload_n 0, 1), (200, .iload_n 3, 1), (201, .iconst 1, 1), (202, .iadd, 1), (203, .iaload, 1), (204, .invokevirtual 17, 3), (207, .pop, 1), (208, .goto 1147, 3), (211, .aload_n 1, 1), (212, .aload_n 0, 1), (213, .iload_n 3, 1), (214, .iconst 1, 1), (215, .iadd, 1), (216, .iaload, 1), (217, .aload_n 0, 1), (218, .iload_n 3, 1), (219, .iconst 2, 1), (220, .iadd, 1), (221, .iaload, 1), (222, .invokevirtual 18, 3), (225, .pop, 1), (226, .aload_n 2, 1), (227, .aload_n 0, 1), (228, .iload_n 3, 1), (229, .iconst 1, 1), (230, .iadd, 1), (231, .iaload, 1), (232, .aload_n 0, 1), (233, .iload_n 3, 1)]
theorem ttL_0 : zdt code tL_0 = true := by decide +kernel
abbrev tL_1 : List (Nat × Instr × Nat) := [(234, .iconst 2, 1), (235, .iadd, 1), (236, .iaload, 1), (237, .invokevirtual 22, 3), (240, .pop, 1), (241, .goto 1114, 3), (244, .aload_n 1, 1), (245, .aload_n 0, 1), (246, .iload_n 3, 1), (247, .iconst 1, 1), (248, .iadd, 1), (249, .iaload, 1), (250, .aload_n 0, 1), (251, .iload_n 3, 1), (252, .iconst 2, 1), (253, .iadd, 1), (254, .iaload, 1), (255, .aload_n 0, 1), (256, .iload_n 3, 1), (257, .iconst 3, 1), (258, .iadd, 1), (259, .iaload, 1), (260, .invokevirtual 23, 3), (263, .pop, 1), (264, .aload_n 2, 1), (265, .aload_n 0, 1), (266, .iload_n 3, 1), (267, .iconst 1, 1), (268, .iadd, 1), (269, .iaload, 1), (270, .aload_n 0, 1), (271, .iload_n 3, 1), (272, .iconst 2, 1), (273, .iadd, 1), (274, .iaload, 1), (275, .aload_n 0, 1), (276, .iload_n 3, 1), (277, .iconst 3, 1), (278, .iadd, 1), (279, .iaload, 1), (280, .invokevirtual 27, 3), (283, .pop, 1), (284, .goto 1071, 3), (287, .aload_n 1, 1), (288, .aload_n 0, 1), (289, .iload_n 3, 1), (290, .iconst 1, 1), (291, .iadd, 1), (292, .iaload, 1), (293, .aload_n 0, 1), (294, .iload_n 3, 1), (295, .iconst 2, 1), (296, .iadd, 1), (297, .iaload, 1), (298, .invokevirtual 28, 3), (301, .pop, 1), (302, .aload_n 2, 1), (303, .aload_n 0, 1), (304, .iload_n 3, 1), (305, .iconst 1, 1)]
theorem ttL_1 : zdt code tL_1 = true := by decide +kernel
abbrev tL_2 : List (Nat × Instr × Nat) := [(306, .iadd, 1), (307, .iaload, 1), (308, .aload_n 0, 1), (309, .iload_n 3, 1), (310, .iconst 2, 1), (311, .iadd, 1), (312, .iaload, 1), (313, .invokevirtual 32, 3), (316, .pop, 1), (317, .goto 1038, 3), (320, .aload_n 1, 1), (321, .aload_n 0, 1), (322, .iload_n 3, 1), (323, .iconst 1, 1), (324, .iadd, 1), (325, .iaload, 1), (326, .invokevirtual 33, 3), (329, .pop, 1), (330, .aload_n 2, 1), (331, .aload_n 0, 1), (332, .iload_n 3, 1), (333, .iconst 1, 1), (334, .iadd, 1), (335, .iaload, 1), (336, .invokevirtual 36, 3), (339, .pop, 1), (340, .goto 1015, 3), (343, .aload_n 1, 1), (344, .aload_n 0, 1), (345, .iload_n 3, 1), (346, .iconst 1, 1), (347, .iadd, 1), (348, .iaload, 1), (349, .aload_n 0, 1), (350, .iload_n 3, 1), (351, .iconst 2, 1), (352, .iadd, 1), (353, .iaload, 1), (354, .aload_n 0, 1), (355, .iload_n 3, 1), (356, .iconst 3, 1), (357, .iadd, 1), (358, .iaload, 1), (359, .aload_n 0, 1), (360, .iload_n 3, 1), (361, .iconst 4, 1), (362, .iadd, 1), (363, .iaload, 1), (364, .aload_n 0, 1), (365, .iload_n 3, 1), (366, .iconst 5, 1), (367, .iadd, 1), (368, .iaload, 1), (369, .invokevirtual 37, 3), (372, .pop, 1), (373, .aload_n 2, 1), (374, .aload_n 0, 1), (375, .iload_n 3, 1), (376, .iconst 1, 1), (377, .iadd, 1)]
theorem ttL_2 : zdt code tL_2 = true := by decide +kernel
abbrev tL_3 : List (Nat × Instr × Nat) := [(378, .iaload, 1), (379, .aload_n 0, 1), (380, .iload_n 3, 1), (381, .iconst 2, 1), (382, .iadd, 1), (383, .iaload, 1), (384, .aload_n 0, 1), (385, .iload_n 3, 1), (386, .iconst 3, 1), (387, .iadd, 1), (388, .iaload, 1), (389, .aload_n 0, 1), (390, .iload_n 3, 1), (391, .iconst 4, 1), (392, .iadd, 1), (393, .iaload, 1), (394, .aload_n 0, 1), (395, .iload_n 3, 1), (396, .iconst 5, 1), (397, .iadd, 1), (398, .iaload, 1), (399, .invokevirtual 41, 3), (402, .pop, 1), (403, .goto 952, 3), (406, .aload_n 1, 1), (407, .aload_n 0, 1), (408, .iload_n 3, 1), (409, .iconst 1, 1), (410, .iadd, 1), (411, .iaload, 1), (412, .invokevirtual 42, 3), (415, .pop, 1), (416, .aload_n 2, 1), (417, .aload_n 0, 1), (418, .iload_n 3, 1), (419, .iconst 1, 1), (420, .iadd, 1), (421, .iaload, 1), (422, .invokevirtual 46, 3), (425, .pop, 1), (426, .goto 929, 3), (429, .aload_n 1, 1), (430, .aload_n 0, 1), (431, .iload_n 3, 1), (432, .iconst 1, 1), (433, .iadd, 1), (434, .iaload, 1), (435, .invokevirtual 47, 3), (438, .pop, 1), (439, .aload_n 2, 1), (440, .aload_n 0, 1), (441, .iload_n 3, 1), (442, .iconst 1, 1), (443, .iadd, 1), (444, .iaload, 1), (445, .invokevirtual 50, 3), (448, .pop, 1), (449, .goto 906, 3), (452, .aload_n 1, 1), (453, .aload_n 0, 1)]
theorem ttL_3 : zdt code tL_3 = true := by decide +kernel
abbrev tL_4 : List (Nat × Instr × Nat) := [(454, .iload_n 3, 1), (455, .iconst 1, 1), (456, .iadd, 1), (457, .iaload, 1), (458, .invokevirtual 51, 3), (461, .aload_n 2, 1), (462, .aload_n 0, 1), (463, .iload_n 3, 1), (464, .iconst 1, 1), (465, .iadd, 1), (466, .iaload, 1), (467, .invokevirtual 54, 3), (470, .if_icmp .eq 885, 3), (473, .iconst 0, 1), (474, .ireturn, 1), (475, .aload_n 1, 1), (476, .aload_n 0, 1), (477, .iload_n 3, 1), (478, .iconst 1, 1), (479, .iadd, 1), (480, .iaload, 1), (481, .aload_n 0, 1), (482, .iload_n 3, 1), (483, .iconst 2, 1), (484, .iadd, 1), (485, .iaload, 1), (486, .invokevirtual 55, 3), (489, .pop, 1), (490, .aload_n 2, 1), (491, .aload_n 0, 1), (492, .iload_n 3, 1), (493, .iconst 1, 1), (494, .iadd, 1), (495, .iaload, 1), (496, .aload_n 0, 1), (497, .iload_n 3, 1), (498, .iconst 2, 1), (499, .iadd, 1), (500, .iaload, 1), (501, .invokevirtual 58, 3), (504, .pop, 1), (505, .goto 850, 3), (508, .aload_n 1, 1), (509, .aload_n 0, 1), (510, .iload_n 3, 1), (511, .iconst 1, 1), (512, .iadd, 1), (513, .iaload, 1), (514, .aload_n 0, 1), (515, .iload_n 3, 1), (516, .iconst 2, 1), (517, .iadd, 1), (518, .iaload, 1), (519, .invokevirtual 59, 3), (522, .pop, 1), (523, .aload_n 2, 1), (524, .aload_n 0, 1), (525, .iload_n 3, 1), (526, .iconst 1, 1), (527, .iadd, 1)]
theorem ttL_4 : zdt code tL_4 = true := by decide +kernel
abbrev tL_5 : List (Nat × Instr × Nat) := [(528, .iaload, 1), (529, .aload_n 0, 1), (530, .iload_n 3, 1), (531, .iconst 2, 1), (532, .iadd, 1), (533, .iaload, 1), (534, .invokevirtual 62, 3), (537, .pop, 1), (538, .goto 817, 3), (541, .aload_n 1, 1), (542, .aload_n 0, 1), (543, .iload_n 3, 1), (544, .iconst 1, 1), (545, .iadd, 1), (546, .iaload, 1), (547, .aload_n 0, 1), (548, .iload_n 3, 1), (549, .iconst 2, 1), (550, .iadd, 1), (551, .iaload, 1), (552, .invokevirtual 63, 3), (555, .pop, 1), (556, .aload_n 2, 1), (557, .aload_n 0, 1), (558, .iload_n 3, 1), (559, .iconst 1, 1), (560, .iadd, 1), (561, .iaload, 1), (562, .aload_n 0, 1), (563, .iload_n 3, 1), (564, .iconst 2, 1), (565, .iadd, 1), (566, .iaload, 1), (567, .invokevirtual 66, 3), (570, .pop, 1), (571, .goto 784, 3), (574, .aload_n 1, 1), (575, .invokevirtual 67, 3), (578, .pop, 1), (579, .aload_n 2, 1), (580, .invokevirtual 71, 3), (583, .pop, 1), (584, .goto 771, 3), (587, .aload_n 1, 1), (588, .aload_n 0, 1), (589, .iload_n 3, 1), (590, .iconst 1, 1), (591, .iadd, 1), (592, .iaload, 1), (593, .aload_n 0, 1), (594, .iload_n 3, 1), (595, .iconst 2, 1), (596, .iadd, 1), (597, .iaload, 1), (598, .invokevirtual 72, 3), (601, .pop, 1), (602, .aload_n 2, 1), (603, .aload_n 0, 1), (604, .iload_n 3, 1), (605, .iconst 1, 1)]
theorem ttL_5 : zdt code tL_5 = true := by decide +kernel
abbrev tL_6 : List (Nat × Instr × Nat) := [(606, .iadd, 1), (607, .iaload, 1), (608, .aload_n 0, 1), (609, .iload_n 3, 1), (610, .iconst 2, 1), (611, .iadd, 1), (612, .iaload, 1), (613, .invokevirtual 75, 3), (616, .pop, 1), (617, .goto 738, 3), (620, .aload_n 1, 1), (621, .aload_n 0, 1), (622, .iload_n 3, 1), (623, .iconst 1, 1), (624, .iadd, 1), (625, .iaload, 1), (626, .aload_n 0, 1), (627, .iload_n 3, 1), (628, .iconst 2, 1), (629, .iadd, 1), (630, .iaload, 1), (631, .invokevirtual 76, 3), (634, .pop, 1), (635, .aload_n 2, 1), (636, .aload_n 0, 1), (637, .iload_n 3, 1), (638, .iconst 1, 1), (639, .iadd, 1), (640, .iaload, 1), (641, .aload_n 0, 1), (642, .iload_n 3, 1), (643, .iconst 2, 1), (644, .iadd, 1), (645, .iaload, 1), (646, .invokevirtual 79, 3), (649, .pop, 1), (650, .goto 705, 3), (653, .aload_n 1, 1), (654, .aload_n 0, 1), (655, .iload_n 3, 1), (656, .iconst 1, 1), (657, .iadd, 1), (658, .iaload, 1), (659, .aload_n 0, 1), (660, .iload_n 3, 1), (661, .iconst 2, 1), (662, .iadd, 1), (663, .iaload, 1), (664, .invokevirtual 80, 3), (667, .pop, 1), (668, .aload_n 2, 1), (669, .aload_n 0, 1), (670, .iload_n 3, 1), (671, .iconst 1, 1), (672, .iadd, 1), (673, .iaload, 1), (674, .aload_n 0, 1), (675, .iload_n 3, 1), (676, .iconst 2, 1), (677, .iadd, 1)]
theorem ttL_6 : zdt code tL_6 = true := by decide +kernel
abbrev tL_7 : List (Nat × Instr × Nat) := [(678, .iaload, 1), (679, .invokevirtual 83, 3), (682, .pop, 1), (683, .goto 672, 3), (686, .aload_n 1, 1), (687, .aload_n 0, 1), (688, .iload_n 3, 1), (689, .iconst 1, 1), (690, .iadd, 1), (691, .iaload, 1), (692, .aload_n 0, 1), (693, .iload_n 3, 1), (694, .iconst 2, 1), (695, .iadd, 1), (696, .iaload, 1), (697, .ifCond .eq 7, 3), (700, .iconst 1, 1), (701, .goto 4, 3), (704, .iconst 0, 1), (705, .invokevirtual 84, 3), (708, .pop, 1), (709, .aload_n 2, 1), (710, .aload_n 0, 1), (711, .iload_n 3, 1), (712, .iconst 1, 1), (713, .iadd, 1), (714, .iaload, 1), (715, .aload_n 0, 1), (716, .iload_n 3, 1), (717, .iconst 2, 1), (718, .iadd, 1), (719, .iaload, 1), (720, .ifCond .eq 7, 3), (723, .iconst 1, 1), (724, .goto 4, 3), (727, .iconst 0, 1), (728, .invokevirtual 88, 3), (731, .pop, 1), (732, .goto 623, 3), (735, .aload_n 1, 1), (736, .aload_n 0, 1), (737, .iload_n 3, 1), (738, .iconst 1, 1), (739, .iadd, 1), (740, .iaload, 1), (741, .invokevirtual 89, 3), (744, .pop, 1), (745, .aload_n 2, 1), (746, .aload_n 0, 1), (747, .iload_n 3, 1), (748, .iconst 1, 1), (749, .iadd, 1), (750, .iaload, 1), (751, .invokevirtual 92, 3), (754, .pop, 1), (755, .goto 600, 3), (758, .aload_n 1, 1), (759, .aload_n 0, 1), (760, .iload_n 3, 1), (761, .iconst 1, 1)]
theorem ttL_7 : zdt code tL_7 = true := by decide +kernel
abbrev tL_8 : List (Nat × Instr × Nat) := [(762, .iadd, 1), (763, .iaload, 1), (764, .aload_n 0, 1), (765, .iload_n 3, 1), (766, .iconst 2, 1), (767, .iadd, 1), (768, .iaload, 1), (769, .invokevirtual 93, 3), (772, .pop, 1), (773, .aload_n 2, 1), (774, .aload_n 0, 1), (775, .iload_n 3, 1), (776, .iconst 1, 1), (777, .iadd, 1), (778, .iaload, 1), (779, .aload_n 0, 1), (780, .iload_n 3, 1), (781, .iconst 2, 1), (782, .iadd, 1), (783, .iaload, 1), (784, .invokevirtual 96, 3), (787, .pop, 1), (788, .goto 567, 3), (791, .aload_n 1, 1), (792, .aload_n 0, 1), (793, .iload_n 3, 1), (794, .iconst 1, 1), (795, .iadd, 1), (796, .iaload, 1), (797, .aload_n 0, 1), (798, .iload_n 3, 1), (799, .iconst 2, 1), (800, .iadd, 1), (801, .iaload, 1), (802, .invokevirtual 97, 3), (805, .pop, 1), (806, .aload_n 2, 1), (807, .aload_n 0, 1), (808, .iload_n 3, 1), (809, .iconst 1, 1), (810, .iadd, 1), (811, .iaload, 1), (812, .aload_n 0, 1), (813, .iload_n 3, 1), (814, .iconst 2, 1), (815, .iadd, 1), (816, .iaload, 1), (817, .invokevirtual 100, 3), (820, .pop, 1), (821, .goto 534, 3), (824, .aload_n 1, 1), (825, .aload_n 0, 1), (826, .iload_n 3, 1), (827, .iconst 1, 1), (828, .iadd, 1), (829, .iaload, 1), (830, .aload_n 0, 1), (831, .iload_n 3, 1), (832, .iconst 2, 1), (833, .iadd, 1)]
theorem ttL_8 : zdt code tL_8 = true := by decide +kernel
abbrev tL_9 : List (Nat × Instr × Nat) := [(834, .iaload, 1), (835, .aload_n 0, 1), (836, .iload_n 3, 1), (837, .iconst 3, 1), (838, .iadd, 1), (839, .iaload, 1), (840, .invokevirtual 101, 3), (843, .pop, 1), (844, .aload_n 2, 1), (845, .aload_n 0, 1), (846, .iload_n 3, 1), (847, .iconst 1, 1), (848, .iadd, 1), (849, .iaload, 1), (850, .aload_n 0, 1), (851, .iload_n 3, 1), (852, .iconst 2, 1), (853, .iadd, 1), (854, .iaload, 1), (855, .aload_n 0, 1), (856, .iload_n 3, 1), (857, .iconst 3, 1), (858, .iadd, 1), (859, .iaload, 1), (860, .invokevirtual 105, 3), (863, .pop, 1), (864, .goto 491, 3), (867, .aload_n 1, 1), (868, .aload_n 0, 1), (869, .iload_n 3, 1), (870, .iconst 1, 1), (871, .iadd, 1), (872, .iaload, 1), (873, .invokevirtual 106, 3), (876, .pop, 1), (877, .aload_n 2, 1), (878, .aload_n 0, 1), (879, .iload_n 3, 1), (880, .iconst 1, 1), (881, .iadd, 1), (882, .iaload, 1), (883, .invokevirtual 109, 3), (886, .pop, 1), (887, .goto 468, 3), (890, .aload_n 1, 1), (891, .invokevirtual 110, 3), (894, .pop, 1), (895, .aload_n 2, 1), (896, .invokevirtual 113, 3), (899, .pop, 1), (900, .goto 455, 3), (903, .aload_n 1, 1), (904, .aload_n 0, 1), (905, .iload_n 3, 1), (906, .iconst 1, 1), (907, .iadd, 1), (908, .iaload, 1), (909, .aload_n 0, 1), (910, .iload_n 3, 1), (911, .iconst 2, 1)]
theorem ttL_9 : zdt code tL_9 = true := by decide +kernel
abbrev tL_10 : List (Nat × Instr × Nat) := [(912, .iadd, 1), (913, .iaload, 1), (914, .aload_n 0, 1), (915, .iload_n 3, 1), (916, .iconst 3, 1), (917, .iadd, 1), (918, .iaload, 1), (919, .invokevirtual 114, 3), (922, .pop, 1), (923, .aload_n 2, 1), (924, .aload_n 0, 1), (925, .iload_n 3, 1), (926, .iconst 1, 1), (927, .iadd, 1), (928, .iaload, 1), (929, .aload_n 0, 1), (930, .iload_n 3, 1), (931, .iconst 2, 1), (932, .iadd, 1), (933, .iaload, 1), (934, .aload_n 0, 1), (935, .iload_n 3, 1), (936, .iconst 3, 1), (937, .iadd, 1), (938, .iaload, 1), (939, .invokevirtual 117, 3), (942, .pop, 1), (943, .goto 412, 3), (946, .aload_n 1, 1), (947, .aload_n 0, 1), (948, .iload_n 3, 1), (949, .iconst 1, 1), (950, .iadd, 1), (951, .iaload, 1), (952, .aload_n 0, 1), (953, .iload_n 3, 1), (954, .iconst 2, 1), (955, .iadd, 1), (956, .iaload, 1), (957, .aload_n 0, 1), (958, .iload_n 3, 1), (959, .iconst 3, 1), (960, .iadd, 1), (961, .iaload, 1), (962, .invokevirtual 118, 3), (965, .pop, 1), (966, .aload_n 2, 1), (967, .aload_n 0, 1), (968, .iload_n 3, 1), (969, .iconst 1, 1), (970, .iadd, 1), (971, .iaload, 1), (972, .aload_n 0, 1), (973, .iload_n 3, 1), (974, .iconst 2, 1), (975, .iadd, 1), (976, .iaload, 1), (977, .aload_n 0, 1), (978, .iload_n 3, 1), (979, .iconst 3, 1)]
theorem ttL_10 : zdt code tL_10 = true := by decide +kernel
abbrev tL_11 : List (Nat × Instr × Nat) := [(980, .iadd, 1), (981, .iaload, 1), (982, .invokevirtual 121, 3), (985, .pop, 1), (986, .goto 369, 3), (989, .aload_n 1, 1), (990, .aload_n 0, 1), (991, .iload_n 3, 1), (992, .iconst 1, 1), (993, .iadd, 1), (994, .iaload, 1), (995, .aload_n 0, 1), (996, .iload_n 3, 1), (997, .iconst 2, 1), (998, .iadd, 1), (999, .iaload, 1), (1000, .aload_n 0, 1), (1001, .iload_n 3, 1), (1002, .iconst 3, 1), (1003, .iadd, 1), (1004, .iaload, 1), (1005, .invokevirtual 122, 3), (1008, .pop, 1), (1009, .aload_n 2, 1), (1010, .aload_n 0, 1), (1011, .iload_n 3, 1), (1012, .iconst 1, 1), (1013, .iadd, 1), (1014, .iaload, 1), (1015, .aload_n 0, 1), (1016, .iload_n 3, 1), (1017, .iconst 2, 1), (1018, .iadd, 1), (1019, .iaload, 1), (1020, .aload_n 0, 1), (1021, .iload_n 3, 1), (1022, .iconst 3, 1), (1023, .iadd, 1), (1024, .iaload, 1), (1025, .invokevirtual 125, 3), (1028, .pop, 1), (1029, .goto 326, 3), (1032, .aload_n 1, 1), (1033, .aload_n 0, 1), (1034, .iload_n 3, 1), (1035, .iconst 1, 1), (1036, .iadd, 1), (1037, .iaload, 1), (1038, .aload_n 0, 1), (1039, .iload_n 3, 1), (1040, .iconst 2, 1), (1041, .iadd, 1), (1042, .iaload, 1), (1043, .aload_n 0, 1), (1044, .iload_n 3, 1), (1045, .iconst 3, 1), (1046, .iadd, 1), (1047, .iaload, 1), (1048, .invokevirtual 126, 3), (1051, .pop, 1)]
theorem ttL_11 : zdt code tL_11 = true := by decide +kernel
abbrev tL_12 : List (Nat × Instr × Nat) := [(1052, .aload_n 2, 1), (1053, .aload_n 0, 1), (1054, .iload_n 3, 1), (1055, .iconst 1, 1), (1056, .iadd, 1), (1057, .iaload, 1), (1058, .aload_n 0, 1), (1059, .iload_n 3, 1), (1060, .iconst 2, 1), (1061, .iadd, 1), (1062, .iaload, 1), (1063, .aload_n 0, 1), (1064, .iload_n 3, 1), (1065, .iconst 3, 1), (1066, .iadd, 1), (1067, .iaload, 1), (1068, .invokevirtual 129, 3), (1071, .pop, 1), (1072, .goto 283, 3), (1075, .aload_n 1, 1), (1076, .aload_n 0, 1), (1077, .iload_n 3, 1), (1078, .iconst 1, 1), (1079, .iadd, 1), (1080, .iaload, 1), (1081, .aload_n 0, 1), (1082, .iload_n 3, 1), (1083, .iconst 2, 1), (1084, .iadd, 1), (1085, .iaload, 1), (1086, .aload_n 0, 1), (1087, .iload_n 3, 1), (1088, .iconst 3, 1), (1089, .iadd, 1), (1090, .iaload, 1), (1091, .invokevirtual 130, 3), (1094, .pop, 1), (1095, .aload_n 2, 1), (1096, .aload_n 0, 1), (1097, .iload_n 3, 1), (1098, .iconst 1, 1), (1099, .iadd, 1), (1100, .iaload, 1), (1101, .aload_n 0, 1), (1102, .iload_n 3, 1), (1103, .iconst 2, 1), (1104, .iadd, 1), (1105, .iaload, 1), (1106, .aload_n 0, 1), (1107, .iload_n 3, 1), (1108, .iconst 3, 1), (1109, .iadd, 1), (1110, .iaload, 1), (1111, .invokevirtual 133, 3), (1114, .pop, 1), (1115, .goto 240, 3), (1118, .aload_n 1, 1), (1119, .aload_n 0, 1), (1120, .iload_n 3, 1), (1121, .iconst 1, 1)]
theorem ttL_12 : zdt code tL_12 = true := by decide +kernel
abbrev tL_13 : List (Nat × Instr × Nat) := [(1122, .iadd, 1), (1123, .iaload, 1), (1124, .aload_n 0, 1), (1125, .iload_n 3, 1), (1126, .iconst 2, 1), (1127, .iadd, 1), (1128, .iaload, 1), (1129, .aload_n 0, 1), (1130, .iload_n 3, 1), (1131, .iconst 3, 1), (1132, .iadd, 1), (1133, .iaload, 1), (1134, .aload_n 0, 1), (1135, .iload_n 3, 1), (1136, .iconst 4, 1), (1137, .iadd, 1), (1138, .iaload, 1), (1139, .invokevirtual 134, 3), (1142, .pop, 1), (1143, .aload_n 2, 1), (1144, .aload_n 0, 1), (1145, .iload_n 3, 1), (1146, .iconst 1, 1), (1147, .iadd, 1), (1148, .iaload, 1), (1149, .aload_n 0, 1), (1150, .iload_n 3, 1), (1151, .iconst 2, 1), (1152, .iadd, 1), (1153, .iaload, 1), (1154, .aload_n 0, 1), (1155, .iload_n 3, 1), (1156, .iconst 3, 1), (1157, .iadd, 1), (1158, .iaload, 1), (1159, .aload_n 0, 1), (1160, .iload_n 3, 1), (1161, .iconst 4, 1), (1162, .iadd, 1), (1163, .iaload, 1), (1164, .invokevirtual 138, 3), (1167, .pop, 1), (1168, .goto 187, 3), (1171, .aload_n 1, 1), (1172, .aload_n 0, 1), (1173, .iload_n 3, 1), (1174, .iconst 1, 1), (1175, .iadd, 1), (1176, .iaload, 1), (1177, .aload_n 0, 1), (1178, .iload_n 3, 1), (1179, .iconst 2, 1), (1180, .iadd, 1), (1181, .iaload, 1), (1182, .invokevirtual 139, 3), (1185, .pop, 1), (1186, .aload_n 2, 1), (1187, .aload_n 0, 1), (1188, .iload_n 3, 1), (1189, .iconst 1, 1)]
theorem ttL_13 : zdt code tL_13 = true := by decide +kernel
abbrev tL_14 : List (Nat × Instr × Nat) := [(1190, .iadd, 1), (1191, .iaload, 1), (1192, .aload_n 0, 1), (1193, .iload_n 3, 1), (1194, .iconst 2, 1), (1195, .iadd, 1), (1196, .iaload, 1), (1197, .invokevirtual 142, 3), (1200, .pop, 1), (1201, .goto 154, 3), (1204, .aload_n 1, 1), (1205, .aload_n 0, 1), (1206, .iload_n 3, 1), (1207, .iconst 1, 1), (1208, .iadd, 1), (1209, .iaload, 1), (1210, .invokevirtual 143, 3), (1213, .pop, 1), (1214, .aload_n 2, 1), (1215, .aload_n 0, 1), (1216, .iload_n 3, 1), (1217, .iconst 1, 1), (1218, .iadd, 1), (1219, .iaload, 1), (1220, .invokevirtual 146, 3), (1223, .pop, 1), (1224, .goto 131, 3), (1227, .aload_n 1, 1), (1228, .aload_n 0, 1), (1229, .iload_n 3, 1), (1230, .iconst 1, 1), (1231, .iadd, 1), (1232, .iaload, 1), (1233, .aload_n 0, 1), (1234, .iload_n 3, 1), (1235, .iconst 2, 1), (1236, .iadd, 1), (1237, .iaload, 1), (1238, .aload_n 0, 1), (1239, .iload_n 3, 1), (1240, .iconst 3, 1), (1241, .iadd, 1), (1242, .iaload, 1), (1243, .aload_n 0, 1), (1244, .iload_n 3, 1), (1245, .iconst 4, 1), (1246, .iadd, 1), (1247, .iaload, 1), (1248, .invokevirtual 147, 3), (1251, .pop, 1), (1252, .aload_n 2, 1), (1253, .aload_n 0, 1), (1254, .iload_n 3, 1), (1255, .iconst 1, 1), (1256, .iadd, 1), (1257, .iaload, 1), (1258, .aload_n 0, 1), (1259, .iload_n 3, 1), (1260, .iconst 2, 1), (1261, .iadd, 1)]
theorem ttL_14 : zdt code tL_14 = true := by decide +kernel
abbrev tL_15 : List (Nat × Instr × Nat) := [(1262, .iaload, 1), (1263, .aload_n 0, 1), (1264, .iload_n 3, 1), (1265, .iconst 3, 1), (1266, .iadd, 1), (1267, .iaload, 1), (1268, .aload_n 0, 1), (1269, .iload_n 3, 1), (1270, .iconst 4, 1), (1271, .iadd, 1), (1272, .iaload, 1), (1273, .invokevirtual 150, 3), (1276, .pop, 1), (1277, .goto 78, 3), (1280, .aload_n 1, 1), (1281, .invokevirtual 151, 3), (1284, .pop, 1), (1285, .aload_n 2, 1), (1286, .invokevirtual 155, 3), (1289, .pop, 1), (1290, .goto 65, 3), (1293, .aload_n 1, 1), (1294, .aload_n 0, 1), (1295, .iload_n 3, 1), (1296, .iconst 1, 1), (1297, .iadd, 1), (1298, .iaload, 1), (1299, .ifCond .eq 7, 3), (1302, .iconst 1, 1), (1303, .goto 4, 3), (1306, .iconst 0, 1), (1307, .invokevirtual 156, 3), (1310, .pop, 1), (1311, .aload_n 2, 1), (1312, .aload_n 0, 1), (1313, .iload_n 3, 1), (1314, .iconst 1, 1), (1315, .iadd, 1), (1316, .iaload, 1), (1317, .ifCond .eq 7, 3), (1320, .iconst 1, 1), (1321, .goto 4, 3), (1324, .iconst 0, 1), (1325, .invokevirtual 160, 3), (1328, .pop, 1), (1329, .goto 26, 3), (1332, .aload_n 1, 1), (1333, .aload_n 0, 1), (1334, .iload_n 3, 1), (1335, .iconst 1, 1), (1336, .iadd, 1), (1337, .iaload, 1), (1338, .invokevirtual 161, 3), (1341, .pop, 1), (1342, .aload_n 2, 1), (1343, .aload_n 0, 1), (1344, .iload_n 3, 1), (1345, .iconst 1, 1), (1346, .iadd, 1), (1347, .iaload, 1)]
theorem ttL_15 : zdt code tL_15 = true := by decide +kernel
abbrev tL_16 : List (Nat × Instr × Nat) := [(1348, .invokevirtual 164, 3), (1351, .pop, 1), (1352, .goto 3, 3), (1355, .iinc 3 6, 3), (1358, .goto (-1340), 3), (1361, .iconst 1, 1), (1362, .ireturn, 1)]
theorem ttL_16 : zdt code tL_16 = true := by decide +kernel
theorem zxs (xs : Nat → Int32) (j : Nat) : -2147483648 ≤ (xs j).toInt ∧ (xs j).toInt ≤ 2147483647 := by
  have h1 := Int32.le_toInt (xs j)
  have h2 := Int32.toInt_lt (xs j)
  omega
section ZLC
variable {p : Program} {l : Launch} {e : Env} {s : State} {m : MethodId} {below : List Frame} {meth : Method} {c : Code} {b L : Nat} {xs : Nat → Int32} {u1 u2 : Nat} {x : Int} {hC hM : zM}
set_option maxHeartbeats 4000000 in
theorem lc_0 (C0 : lw_At p s m meth c b L xs) (hL : L ≤ 3072) (sC : okC hC) (sM : okM hM) (r0 : zRK hC hM) (j0 : zJP hC) (t0 : zRT hC hM) (hx0 : 0 ≤ x ∧ x + 6 ≤ L) (hu1 : u1 ≤ 599999) (hu2 : u2 ≤ 7292250) (kk : ∀ hC hM, okC hC → okM hM → zRK hC hM → zJP hC → zRT hC hM → zK p l e s m below meth c b (u1 + 1) (u2 + 10000) 1355 x [] hC hM) : zK p l e s m below meth c b u1 u2 188 x [] hC hM := by
  refine zk_aload1 C0 (zdk ttL_0 22 rfl rfl) ?_
  refine zk_aload0 C0 (zdk ttL_0 23 rfl rfl) ?_
  refine zk_iload3 C0 (zdk ttL_0 24 rfl rfl) ?_
  refine zk_iconst C0 (zdk ttL_0 25 rfl rfl) ?_
  refine zk_iadd C0 (zdk ttL_0 26 rfl rfl) ?_
  refine zk_sld C0 hL (i := (x + 1)) (by omega) (zdk ttL_0 27 rfl rfl) ?_
  refine zk_callC C0 sC [(xs ((x + 1)).toNat).toInt] (zdk ttL_0 28 rfl rfl) mb_X10_state mv_RL_13 rfl rfl rfl (Nat.le_of_ble_eq_true rfl) (s_X10_state l hC (xs ((x + 1)).toNat).toInt sC (zxs xs _)) ⟨rfl, rfl, ⟨Nat.le_of_ble_eq_true rfl, Nat.le_of_ble_eq_true rfl⟩, by show u1 + 0 ≤ 600000; omega, by show u2 + 0 ≤ 7302250; omega⟩ (fun v1 h2 q3 => ?_)
  have s4 : okC h2 := q3.2.1
  have j5 : zJP h2 := q3.2.2.2 j0
  refine zk_pop C0 (zdk ttL_0 29 rfl rfl) ?_
  refine zk_aload2 C0 (zdk ttL_0 30 rfl rfl) ?_
  refine zk_aload0 C0 (zdk ttL_0 31 rfl rfl) ?_
  refine zk_iload3 C0 (zdk ttL_0 32 rfl rfl) ?_
  refine zk_iconst C0 (zdk ttL_0 33 rfl rfl) ?_
  refine zk_iadd C0 (zdk ttL_0 34 rfl rfl) ?_
  refine zk_sld C0 hL (i := (x + 1)) (by omega) (zdk ttL_0 35 rfl rfl) ?_
  refine zk_callM C0 sM [(xs ((x + 1)).toNat).toInt] (zdk ttL_0 36 rfl rfl) mb_X11_state mv_RL_17 rfl rfl rfl (Nat.le_of_ble_eq_true rfl) (s_X11_state l hM (xs ((x + 1)).toNat).toInt sM (zxs xs _)) ⟨rfl, rfl, ⟨Nat.le_of_ble_eq_true rfl, Nat.le_of_ble_eq_true rfl⟩, by show (u1 + 0) + 0 ≤ 600000; omega, by show (u2 + 0) + 0 ≤ 7302250; omega⟩ (fun v6 h7 q8 => ?_)
  have s9 : okM h7 := q8.2.1
  have r10 : zRK h2 h7 := rk_f r0 (fun a b z => zfC_a q3.2.2.1 (fun w => by unfold zpC at z; unfold w_X10_state at w; omega)) (rkM q8.2.2 rfl)
  have t11 : zRT h2 h7 := zRT_f t0 (fun a b z => zfC_a q3.2.2.1 (fun w => by unfold zpT at z; unfold w_X10_state at w; omega)) (rkT q8.2.2 rfl)
  refine zk_pop C0 (zdk ttL_0 37 rfl rfl) ?_
  refine zk_goto C0 (t := 1355) (zdk ttL_0 38 rfl rfl) (by decide) ?_
  exact zk_widen (by omega) (by omega) (kk h2 h7 s4 s9 r10 j5 t11)
set_option maxHeartbeats 4000000 in
theorem lc_1 (C0 : lw_At p s m meth c b L xs) (hL : L ≤ 3072) (sC : okC hC) (sM : okM hM) (r0 : zRK hC hM) (j0 : zJP hC) (t0 : zRT hC hM) (hx0 : 0 ≤ x ∧ x + 6 ≤ L) (hu1 : u1 ≤ 599999) (hu2 : u2 ≤ 7292250) (kk : ∀ hC hM, okC hC → okM hM → zRK hC hM → zJP hC → zRT hC hM → zK p l e s m below meth c b (u1 + 1) (u2 + 10000) 1355 x [] hC hM) : zK p l e s m below meth c b u1 u2 211 x [] hC hM := by
  refine zk_aload1 C0 (zdk ttL_0 39 rfl rfl) ?_
  refine zk_aload0 C0 (zdk ttL_0 40 rfl rfl) ?_
  refine zk_iload3 C0 (zdk ttL_0 41 rfl rfl) ?_
  refine zk_iconst C0 (zdk ttL_0 42 rfl rfl) ?_
  refine zk_iadd C0 (zdk ttL_0 43 rfl rfl) ?_
  refine zk_sld C0 hL (i := (x + 1)) (by omega) (zdk ttL_0 44 rfl rfl) ?_
  refine zk_aload0 C0 (zdk ttL_0 45 rfl rfl) ?_
  refine zk_iload3 C0 (zdk ttL_0 46 rfl rfl) ?_
  refine zk_iconst C0 (zdk ttL_0 47 rfl rfl) ?_
  refine zk_iadd C0 (zdk ttL_0 48 rfl rfl) ?_
  refine zk_sld C0 hL (i := (x + 2)) (by omega) (zdk ttL_0 49 rfl rfl) ?_
  refine zk_callC C0 sC [(xs ((x + 1)).toNat).toInt, (xs ((x + 2)).toNat).toInt] (zdk ttL_0 50 rfl rfl) mb_X10_islander mv_RL_18 rfl rfl rfl (Nat.le_of_ble_eq_true rfl) (s_X10_islander l hC (xs ((x + 1)).toNat).toInt (xs ((x + 2)).toNat).toInt sC (zxs xs _) (zxs xs _)) ⟨rfl, rfl, ⟨Nat.le_of_ble_eq_true rfl, Nat.le_of_ble_eq_true rfl⟩, by show u1 + 0 ≤ 600000; omega, by show u2 + 0 ≤ 7302250; omega⟩ (fun v12 h13 q14 => ?_)
  have s15 : okC h13 := q14.2.1
  have j16 : zJP h13 := q14.2.2.2.2 j0
  refine zk_pop C0 (zdk ttL_0 51 rfl rfl) ?_
  refine zk_aload2 C0 (zdk ttL_0 52 rfl rfl) ?_
  refine zk_aload0 C0 (zdk ttL_0 53 rfl rfl) ?_
  refine zk_iload3 C0 (zdk ttL_0 54 rfl rfl) ?_
  refine zk_iconst C0 (zdk ttL_0 55 rfl rfl) ?_
  refine zk_iadd C0 (zdk ttL_0 56 rfl rfl) ?_
  refine zk_sld C0 hL (i := (x + 1)) (by omega) (zdk ttL_0 57 rfl rfl) ?_
  refine zk_aload0 C0 (zdk ttL_0 58 rfl rfl) ?_
  refine zk_iload3 C0 (zdk ttL_0 59 rfl rfl) ?_
  refine zk_iconst C0 (zdk ttL_1 0 rfl rfl) ?_
  refine zk_iadd C0 (zdk ttL_1 1 rfl rfl) ?_
  refine zk_sld C0 hL (i := (x + 2)) (by omega) (zdk ttL_1 2 rfl rfl) ?_
  refine zk_callM C0 sM [(xs ((x + 1)).toNat).toInt, (xs ((x + 2)).toNat).toInt] (zdk ttL_1 3 rfl rfl) mb_X11_islander mv_RL_22 rfl rfl rfl (Nat.le_of_ble_eq_true rfl) (s2_X11_islander l hM (xs ((x + 1)).toNat).toInt (xs ((x + 2)).toNat).toInt sM (zxs xs _) (zxs xs _)) ⟨rfl, rfl, ⟨Nat.le_of_ble_eq_true rfl, Nat.le_of_ble_eq_true rfl⟩, by show (u1 + 0) + 0 ≤ 600000; omega, by show (u2 + 0) + 0 ≤ 7302250; omega⟩ (fun v17 h18 q19 => ?_)
  have s20 : okM h18 := q19.2.1
  have e22 : h13.2 28 2 = hC.2 28 2 := zfC_a q14.2.2.1 (fun w => by unfold w_X10_islander at w; first | (revert w; decide) | omega)
  have e23 : h13.2 28 4 = hC.2 28 4 := zfC_a q14.2.2.1 (fun w => by unfold w_X10_islander at w; first | (revert w; decide) | omega)
  have e24 : h13.2 28 6 = hC.2 28 6 := zfC_a q14.2.2.1 (fun w => by unfold w_X10_islander at w; first | (revert w; decide) | omega)
  have e25 : h13.2 28 9 = hC.2 28 9 := zfC_a q14.2.2.1 (fun w => by unfold w_X10_islander at w; first | (revert w; decide) | omega)
  have e26 : h13.2 62 2 = hC.2 62 2 := zfC_a q14.2.2.1 (fun w => by unfold w_X10_islander at w; first | (revert w; decide) | omega)
  have e27 : h13.2 62 4 = hC.2 62 4 := zfC_a q14.2.2.1 (fun w => by unfold w_X10_islander at w; first | (revert w; decide) | omega)
  have e28 : h13.2 62 6 = hC.2 62 6 := zfC_a q14.2.2.1 (fun w => by unfold w_X10_islander at w; first | (revert w; decide) | omega)
  have e29 : h13.2 62 9 = hC.2 62 9 := zfC_a q14.2.2.1 (fun w => by unfold w_X10_islander at w; first | (revert w; decide) | omega)
  have e30 : h13.2 0 9 = hC.2 0 9 := zfC_a q14.2.2.1 (fun w => by unfold w_X10_islander at w; first | (revert w; decide) | omega)
  have e31 : h13.2 103 3 = hC.2 103 3 := zfC_a q14.2.2.1 (fun w => by unfold w_X10_islander at w; first | (revert w; decide) | omega)
  have e32 : h13.2 36 3 = hC.2 36 3 := zfC_a q14.2.2.1 (fun w => by unfold w_X10_islander at w; first | (revert w; decide) | omega)
  have e33 : h18.2 0 42 = hM.2 0 42 := zfr_f q19.2.2.1 rfl rfl
  have e34 : h18.2 0 45 = hM.2 0 45 := zfr_f q19.2.2.1 rfl rfl
  have e35 : h18.2 0 49 = hM.2 0 49 := zfr_f q19.2.2.1 rfl rfl
  have e36 : h18.2 0 53 = hM.2 0 53 := zfr_f q19.2.2.1 rfl rfl
  have e37 : h18.2 35 67 = hM.2 35 67 := zfr_a q19.2.2.1 rfl (by decide)
  have e38 : h18.2 35 68 = hM.2 35 68 := zfr_a q19.2.2.1 rfl (by decide)
  have e39 : h18.2 35 69 = hM.2 35 69 := zfr_a q19.2.2.1 rfl (by decide)
  have e40 : h18.2 35 70 = hM.2 35 70 := zfr_a q19.2.2.1 rfl (by decide)
  have e41 : h18.2 0 59 = hM.2 0 59 := zfr_f q19.2.2.1 rfl rfl
  have e42 : h18.2 0 11 = hM.2 0 11 := zfr_f q19.2.2.1 rfl rfl
  have e43 : h18.2 35 63 = hM.2 35 63 := zfr_a q19.2.2.1 rfl (by decide)
  have p44 := q14.2.2.2.1
  have p45 := q19.2.2.2
  have zw9_45 := zis_r p44 p45 r0.2.2.2.2.2.2.2
  have r21 : zRK h13 h18 := ⟨(e22.trans (r0.1.trans e33.symm)), (e23.trans (r0.2.1.trans e34.symm)), (e24.trans (r0.2.2.1.trans e35.symm)), (e25.trans (r0.2.2.2.1.trans e36.symm)), (fun z => have z9 := r0.2.2.2.2.1 ((e41.symm).trans z); ⟨e26.trans (z9.1.trans e37.symm), e27.trans (z9.2.1.trans e38.symm), e28.trans (z9.2.2.1.trans e39.symm), e29.trans (z9.2.2.2.1.trans e40.symm), e32.trans (z9.2.2.2.2.trans e43.symm)⟩), (e30.trans (r0.2.2.2.2.2.1.trans e41.symm)), (e31.trans (r0.2.2.2.2.2.2.1.trans e42.symm)), zw9_45.2⟩
  have t46 : zRT h13 h18 := zRT_f t0 (fun a b z => zfC_a q14.2.2.1 (fun w => by unfold zpT at z; unfold w_X10_islander at w; omega)) (rkT q19.2.2.1 rfl)
  refine zk_pop C0 (zdk ttL_1 4 rfl rfl) ?_
  refine zk_goto C0 (t := 1355) (zdk ttL_1 5 rfl rfl) (by decide) ?_
  exact zk_widen (by omega) (by omega) (kk h13 h18 s15 s20 r21 j16 t46)
set_option maxHeartbeats 4000000 in
theorem lc_2 (C0 : lw_At p s m meth c b L xs) (hL : L ≤ 3072) (sC : okC hC) (sM : okM hM) (r0 : zRK hC hM) (j0 : zJP hC) (t0 : zRT hC hM) (hx0 : 0 ≤ x ∧ x + 6 ≤ L) (hu1 : u1 ≤ 599999) (hu2 : u2 ≤ 7292250) (kk : ∀ hC hM, okC hC → okM hM → zRK hC hM → zJP hC → zRT hC hM → zK p l e s m below meth c b (u1 + 1) (u2 + 10000) 1355 x [] hC hM) : zK p l e s m below meth c b u1 u2 244 x [] hC hM := by
  refine zk_aload1 C0 (zdk ttL_1 6 rfl rfl) ?_
  refine zk_aload0 C0 (zdk ttL_1 7 rfl rfl) ?_
  refine zk_iload3 C0 (zdk ttL_1 8 rfl rfl) ?_
  refine zk_iconst C0 (zdk ttL_1 9 rfl rfl) ?_
  refine zk_iadd C0 (zdk ttL_1 10 rfl rfl) ?_
  refine zk_sld C0 hL (i := (x + 1)) (by omega) (zdk ttL_1 11 rfl rfl) ?_
  refine zk_aload0 C0 (zdk ttL_1 12 rfl rfl) ?_
  refine zk_iload3 C0 (zdk ttL_1 13 rfl rfl) ?_
  refine zk_iconst C0 (zdk ttL_1 14 rfl rfl) ?_
  refine zk_iadd C0 (zdk ttL_1 15 rfl rfl) ?_
  refine zk_sld C0 hL (i := (x + 2)) (by omega) (zdk ttL_1 16 rfl rfl) ?_
  refine zk_aload0 C0 (zdk ttL_1 17 rfl rfl) ?_
  refine zk_iload3 C0 (zdk ttL_1 18 rfl rfl) ?_
  refine zk_iconst C0 (zdk ttL_1 19 rfl rfl) ?_
  refine zk_iadd C0 (zdk ttL_1 20 rfl rfl) ?_
  refine zk_sld C0 hL (i := (x + 3)) (by omega) (zdk ttL_1 21 rfl rfl) ?_
  refine zk_callC C0 sC [(xs ((x + 1)).toNat).toInt, (xs ((x + 2)).toNat).toInt, (xs ((x + 3)).toNat).toInt] (zdk ttL_1 22 rfl rfl) mb_X10_set mv_RL_23 rfl rfl rfl (Nat.le_of_ble_eq_true rfl) (s_X10_set l hC (xs ((x + 1)).toNat).toInt (xs ((x + 2)).toNat).toInt (xs ((x + 3)).toNat).toInt sC (zxs xs _) (zxs xs _) (zxs xs _)) ⟨rfl, rfl, ⟨Nat.le_of_ble_eq_true rfl, Nat.le_of_ble_eq_true rfl⟩, by show u1 + 0 ≤ 600000; omega, by show u2 + 0 ≤ 7302250; omega⟩ (fun v47 h48 q49 => ?_)
  have s50 : okC h48 := q49.2.1
  have j51 : zJP h48 := q49.2.2.2.2 j0
  refine zk_pop C0 (zdk ttL_1 23 rfl rfl) ?_
  refine zk_aload2 C0 (zdk ttL_1 24 rfl rfl) ?_
  refine zk_aload0 C0 (zdk ttL_1 25 rfl rfl) ?_
  refine zk_iload3 C0 (zdk ttL_1 26 rfl rfl) ?_
  refine zk_iconst C0 (zdk ttL_1 27 rfl rfl) ?_
  refine zk_iadd C0 (zdk ttL_1 28 rfl rfl) ?_
  refine zk_sld C0 hL (i := (x + 1)) (by omega) (zdk ttL_1 29 rfl rfl) ?_
  refine zk_aload0 C0 (zdk ttL_1 30 rfl rfl) ?_
  refine zk_iload3 C0 (zdk ttL_1 31 rfl rfl) ?_
  refine zk_iconst C0 (zdk ttL_1 32 rfl rfl) ?_
  refine zk_iadd C0 (zdk ttL_1 33 rfl rfl) ?_
  refine zk_sld C0 hL (i := (x + 2)) (by omega) (zdk ttL_1 34 rfl rfl) ?_
  refine zk_aload0 C0 (zdk ttL_1 35 rfl rfl) ?_
  refine zk_iload3 C0 (zdk ttL_1 36 rfl rfl) ?_
  refine zk_iconst C0 (zdk ttL_1 37 rfl rfl) ?_
  refine zk_iadd C0 (zdk ttL_1 38 rfl rfl) ?_
  refine zk_sld C0 hL (i := (x + 3)) (by omega) (zdk ttL_1 39 rfl rfl) ?_
  refine zk_callM C0 sM [(xs ((x + 1)).toNat).toInt, (xs ((x + 2)).toNat).toInt, (xs ((x + 3)).toNat).toInt] (zdk ttL_1 40 rfl rfl) mb_X11_set mv_RL_27 rfl rfl rfl (Nat.le_of_ble_eq_true rfl) (s2_X11_set l hM (xs ((x + 1)).toNat).toInt (xs ((x + 2)).toNat).toInt (xs ((x + 3)).toNat).toInt sM (zxs xs _) (zxs xs _) (zxs xs _)) ⟨rfl, rfl, ⟨Nat.le_of_ble_eq_true rfl, Nat.le_of_ble_eq_true rfl⟩, by show (u1 + 0) + 0 ≤ 600000; omega, by show (u2 + 0) + 0 ≤ 7302250; omega⟩ (fun v52 h53 q54 => ?_)
  have s55 : okM h53 := q54.2.1
  have e57 : h48.2 28 2 = hC.2 28 2 := zfC_a q49.2.2.1 (fun w => by unfold w_X10_set at w; first | (revert w; decide) | omega)
  have e58 : h48.2 28 4 = hC.2 28 4 := zfC_a q49.2.2.1 (fun w => by unfold w_X10_set at w; first | (revert w; decide) | omega)
  have e59 : h48.2 28 6 = hC.2 28 6 := zfC_a q49.2.2.1 (fun w => by unfold w_X10_set at w; first | (revert w; decide) | omega)
  have e60 : h48.2 28 9 = hC.2 28 9 := zfC_a q49.2.2.1 (fun w => by unfold w_X10_set at w; first | (revert w; decide) | omega)
  have e61 : h48.2 62 2 = hC.2 62 2 := zfC_a q49.2.2.1 (fun w => by unfold w_X10_set at w; first | (revert w; decide) | omega)
  have e62 : h48.2 62 4 = hC.2 62 4 := zfC_a q49.2.2.1 (fun w => by unfold w_X10_set at w; first | (revert w; decide) | omega)
  have e63 : h48.2 62 6 = hC.2 62 6 := zfC_a q49.2.2.1 (fun w => by unfold w_X10_set at w; first | (revert w; decide) | omega)
  have e64 : h48.2 62 9 = hC.2 62 9 := zfC_a q49.2.2.1 (fun w => by unfold w_X10_set at w; first | (revert w; decide) | omega)
  have e65 : h48.2 0 9 = hC.2 0 9 := zfC_a q49.2.2.1 (fun w => by unfold w_X10_set at w; first | (revert w; decide) | omega)
  have e66 : h48.2 103 3 = hC.2 103 3 := zfC_a q49.2.2.1 (fun w => by unfold w_X10_set at w; first | (revert w; decide) | omega)
  have e67 : h48.2 2 3 = hC.2 2 3 := zfC_a q49.2.2.1 (fun w => by unfold w_X10_set at w; first | (revert w; decide) | omega)
  have e68 : h48.2 36 3 = hC.2 36 3 := zfC_a q49.2.2.1 (fun w => by unfold w_X10_set at w; first | (revert w; decide) | omega)
  have e69 : h53.2 0 42 = hM.2 0 42 := zfr_f q54.2.2.1 rfl rfl
  have e70 : h53.2 0 45 = hM.2 0 45 := zfr_f q54.2.2.1 rfl rfl
  have e71 : h53.2 0 49 = hM.2 0 49 := zfr_f q54.2.2.1 rfl rfl
  have e72 : h53.2 0 53 = hM.2 0 53 := zfr_f q54.2.2.1 rfl rfl
  have e73 : h53.2 35 67 = hM.2 35 67 := zfr_a q54.2.2.1 rfl (by decide)
  have e74 : h53.2 35 68 = hM.2 35 68 := zfr_a q54.2.2.1 rfl (by decide)
  have e75 : h53.2 35 69 = hM.2 35 69 := zfr_a q54.2.2.1 rfl (by decide)
  have e76 : h53.2 35 70 = hM.2 35 70 := zfr_a q54.2.2.1 rfl (by decide)
  have e77 : h53.2 0 59 = hM.2 0 59 := zfr_f q54.2.2.1 rfl rfl
  have e78 : h53.2 0 11 = hM.2 0 11 := zfr_f q54.2.2.1 rfl rfl
  have e79 : h53.2 0 6 = hM.2 0 6 := zfr_f q54.2.2.1 rfl rfl
  have e80 : h53.2 35 63 = hM.2 35 63 := zfr_a q54.2.2.1 rfl (by decide)
  have p81 := q49.2.2.2.1
  have p82 := q54.2.2.2
  have r56 : zRK h48 h53 := ⟨(e57.trans (r0.1.trans e69.symm)), (e58.trans (r0.2.1.trans e70.symm)), (e59.trans (r0.2.2.1.trans e71.symm)), (e60.trans (r0.2.2.2.1.trans e72.symm)), (fun z => have z9 := r0.2.2.2.2.1 ((e77.symm).trans z); ⟨e61.trans (z9.1.trans e73.symm), e62.trans (z9.2.1.trans e74.symm), e63.trans (z9.2.2.1.trans e75.symm), e64.trans (z9.2.2.2.1.trans e76.symm), e68.trans (z9.2.2.2.2.trans e80.symm)⟩), (e65.trans (r0.2.2.2.2.2.1.trans e77.symm)), (e66.trans (r0.2.2.2.2.2.2.1.trans e78.symm)), (e67.trans (r0.2.2.2.2.2.2.2.trans e79.symm))⟩
  have t83 : zRT h48 h53 := zRT_f t0 (fun a b z => zfC_a q49.2.2.1 (fun w => by unfold zpT at z; unfold w_X10_set at w; omega)) (rkT q54.2.2.1 rfl)
  refine zk_pop C0 (zdk ttL_1 41 rfl rfl) ?_
  refine zk_goto C0 (t := 1355) (zdk ttL_1 42 rfl rfl) (by decide) ?_
  exact zk_widen (by omega) (by omega) (kk h48 h53 s50 s55 r56 j51 t83)
set_option maxHeartbeats 4000000 in
theorem lc_3 (C0 : lw_At p s m meth c b L xs) (hL : L ≤ 3072) (sC : okC hC) (sM : okM hM) (r0 : zRK hC hM) (j0 : zJP hC) (t0 : zRT hC hM) (hx0 : 0 ≤ x ∧ x + 6 ≤ L) (hu1 : u1 ≤ 599999) (hu2 : u2 ≤ 7292250) (kk : ∀ hC hM, okC hC → okM hM → zRK hC hM → zJP hC → zRT hC hM → zK p l e s m below meth c b (u1 + 1) (u2 + 10000) 1355 x [] hC hM) : zK p l e s m below meth c b u1 u2 287 x [] hC hM := by
  refine zk_aload1 C0 (zdk ttL_1 43 rfl rfl) ?_
  refine zk_aload0 C0 (zdk ttL_1 44 rfl rfl) ?_
  refine zk_iload3 C0 (zdk ttL_1 45 rfl rfl) ?_
  refine zk_iconst C0 (zdk ttL_1 46 rfl rfl) ?_
  refine zk_iadd C0 (zdk ttL_1 47 rfl rfl) ?_
  refine zk_sld C0 hL (i := (x + 1)) (by omega) (zdk ttL_1 48 rfl rfl) ?_
  refine zk_aload0 C0 (zdk ttL_1 49 rfl rfl) ?_
  refine zk_iload3 C0 (zdk ttL_1 50 rfl rfl) ?_
  refine zk_iconst C0 (zdk ttL_1 51 rfl rfl) ?_
  refine zk_iadd C0 (zdk ttL_1 52 rfl rfl) ?_
  refine zk_sld C0 hL (i := (x + 2)) (by omega) (zdk ttL_1 53 rfl rfl) ?_
  refine zk_callC C0 sC [(xs ((x + 1)).toNat).toInt, (xs ((x + 2)).toNat).toInt] (zdk ttL_1 54 rfl rfl) mb_X10_act mv_RL_28 rfl rfl rfl (Nat.le_of_ble_eq_true rfl) (s_X10_act l hC (xs ((x + 1)).toNat).toInt (xs ((x + 2)).toNat).toInt sC (zxs xs _) (zxs xs _)) ⟨rfl, rfl, ⟨Nat.le_of_ble_eq_true rfl, Nat.le_of_ble_eq_true rfl⟩, by show u1 + 0 ≤ 600000; omega, by show u2 + 0 ≤ 7302250; omega⟩ (fun v84 h85 q86 => ?_)
  have s87 : okC h85 := q86.2.1
  have j88 : zJP h85 := q86.2.2.2 j0
  refine zk_pop C0 (zdk ttL_1 55 rfl rfl) ?_
  refine zk_aload2 C0 (zdk ttL_1 56 rfl rfl) ?_
  refine zk_aload0 C0 (zdk ttL_1 57 rfl rfl) ?_
  refine zk_iload3 C0 (zdk ttL_1 58 rfl rfl) ?_
  refine zk_iconst C0 (zdk ttL_1 59 rfl rfl) ?_
  refine zk_iadd C0 (zdk ttL_2 0 rfl rfl) ?_
  refine zk_sld C0 hL (i := (x + 1)) (by omega) (zdk ttL_2 1 rfl rfl) ?_
  refine zk_aload0 C0 (zdk ttL_2 2 rfl rfl) ?_
  refine zk_iload3 C0 (zdk ttL_2 3 rfl rfl) ?_
  refine zk_iconst C0 (zdk ttL_2 4 rfl rfl) ?_
  refine zk_iadd C0 (zdk ttL_2 5 rfl rfl) ?_
  refine zk_sld C0 hL (i := (x + 2)) (by omega) (zdk ttL_2 6 rfl rfl) ?_
  refine zk_callM C0 sM [(xs ((x + 1)).toNat).toInt, (xs ((x + 2)).toNat).toInt] (zdk ttL_2 7 rfl rfl) mb_X11_act mv_RL_32 rfl rfl rfl (Nat.le_of_ble_eq_true rfl) (s_X11_act l hM (xs ((x + 1)).toNat).toInt (xs ((x + 2)).toNat).toInt sM (zxs xs _) (zxs xs _)) ⟨rfl, rfl, ⟨Nat.le_of_ble_eq_true rfl, Nat.le_of_ble_eq_true rfl⟩, by show (u1 + 0) + 0 ≤ 600000; omega, by show (u2 + 0) + 0 ≤ 7302250; omega⟩ (fun v89 h90 q91 => ?_)
  have s92 : okM h90 := q91.2.1
  have r93 : zRK h85 h90 := rk_f r0 (fun a b z => zfC_a q86.2.2.1 (fun w => by unfold zpC at z; unfold w_X10_act at w; omega)) (rkM q91.2.2 rfl)
  have t94 : zRT h85 h90 := zRT_f t0 (fun a b z => zfC_a q86.2.2.1 (fun w => by unfold zpT at z; unfold w_X10_act at w; omega)) (rkT q91.2.2 rfl)
  refine zk_pop C0 (zdk ttL_2 8 rfl rfl) ?_
  refine zk_goto C0 (t := 1355) (zdk ttL_2 9 rfl rfl) (by decide) ?_
  exact zk_widen (by omega) (by omega) (kk h85 h90 s87 s92 r93 j88 t94)
set_option maxHeartbeats 4000000 in
theorem lc_4 (C0 : lw_At p s m meth c b L xs) (hL : L ≤ 3072) (sC : okC hC) (sM : okM hM) (r0 : zRK hC hM) (j0 : zJP hC) (t0 : zRT hC hM) (hx0 : 0 ≤ x ∧ x + 6 ≤ L) (hu1 : u1 ≤ 599999) (hu2 : u2 ≤ 7292250) (kk : ∀ hC hM, okC hC → okM hM → zRK hC hM → zJP hC → zRT hC hM → zK p l e s m below meth c b (u1 + 1) (u2 + 10000) 1355 x [] hC hM) : zK p l e s m below meth c b u1 u2 320 x [] hC hM := by
  refine zk_aload1 C0 (zdk ttL_2 10 rfl rfl) ?_
  refine zk_aload0 C0 (zdk ttL_2 11 rfl rfl) ?_
  refine zk_iload3 C0 (zdk ttL_2 12 rfl rfl) ?_
  refine zk_iconst C0 (zdk ttL_2 13 rfl rfl) ?_
  refine zk_iadd C0 (zdk ttL_2 14 rfl rfl) ?_
  refine zk_sld C0 hL (i := (x + 1)) (by omega) (zdk ttL_2 15 rfl rfl) ?_
  refine zk_callC C0 sC [(xs ((x + 1)).toNat).toInt] (zdk ttL_2 16 rfl rfl) mb_X10_days mv_RL_33 rfl rfl rfl (Nat.le_of_ble_eq_true rfl) (s_X10_days l hC (xs ((x + 1)).toNat).toInt sC (zxs xs _)) ⟨rfl, rfl, ⟨Nat.le_of_ble_eq_true rfl, Nat.le_of_ble_eq_true rfl⟩, by show u1 + 0 ≤ 600000; omega, by show u2 + 0 ≤ 7302250; omega⟩ (fun v95 h96 q97 => ?_)
  have s98 : okC h96 := q97.2.1
  have j99 : zJP h96 := q97.2.2.2 j0
  refine zk_pop C0 (zdk ttL_2 17 rfl rfl) ?_
  refine zk_aload2 C0 (zdk ttL_2 18 rfl rfl) ?_
  refine zk_aload0 C0 (zdk ttL_2 19 rfl rfl) ?_
  refine zk_iload3 C0 (zdk ttL_2 20 rfl rfl) ?_
  refine zk_iconst C0 (zdk ttL_2 21 rfl rfl) ?_
  refine zk_iadd C0 (zdk ttL_2 22 rfl rfl) ?_
  refine zk_sld C0 hL (i := (x + 1)) (by omega) (zdk ttL_2 23 rfl rfl) ?_
  refine zk_callM C0 sM [(xs ((x + 1)).toNat).toInt] (zdk ttL_2 24 rfl rfl) mb_X11_days mv_RL_36 rfl rfl rfl (Nat.le_of_ble_eq_true rfl) (s_X11_days l hM (xs ((x + 1)).toNat).toInt sM (zxs xs _)) ⟨rfl, rfl, ⟨Nat.le_of_ble_eq_true rfl, Nat.le_of_ble_eq_true rfl⟩, by show (u1 + 0) + 0 ≤ 600000; omega, by show (u2 + 0) + 0 ≤ 7302250; omega⟩ (fun v100 h101 q102 => ?_)
  have s103 : okM h101 := q102.2.1
  have r104 : zRK h96 h101 := rk_f r0 (fun a b z => zfC_a q97.2.2.1 (fun w => by unfold zpC at z; unfold w_X10_days at w; omega)) (rkM q102.2.2 rfl)
  have t105 : zRT h96 h101 := zRT_f t0 (fun a b z => zfC_a q97.2.2.1 (fun w => by unfold zpT at z; unfold w_X10_days at w; omega)) (rkT q102.2.2 rfl)
  refine zk_pop C0 (zdk ttL_2 25 rfl rfl) ?_
  refine zk_goto C0 (t := 1355) (zdk ttL_2 26 rfl rfl) (by decide) ?_
  exact zk_widen (by omega) (by omega) (kk h96 h101 s98 s103 r104 j99 t105)
set_option maxHeartbeats 4000000 in
theorem lc_5 (C0 : lw_At p s m meth c b L xs) (hL : L ≤ 3072) (sC : okC hC) (sM : okM hM) (r0 : zRK hC hM) (j0 : zJP hC) (t0 : zRT hC hM) (hx0 : 0 ≤ x ∧ x + 6 ≤ L) (hu1 : u1 ≤ 599999) (hu2 : u2 ≤ 7292250) (kk : ∀ hC hM, okC hC → okM hM → zRK hC hM → zJP hC → zRT hC hM → zK p l e s m below meth c b (u1 + 1) (u2 + 10000) 1355 x [] hC hM) : zK p l e s m below meth c b u1 u2 343 x [] hC hM := by
  refine zk_aload1 C0 (zdk ttL_2 27 rfl rfl) ?_
  refine zk_aload0 C0 (zdk ttL_2 28 rfl rfl) ?_
  refine zk_iload3 C0 (zdk ttL_2 29 rfl rfl) ?_
  refine zk_iconst C0 (zdk ttL_2 30 rfl rfl) ?_
  refine zk_iadd C0 (zdk ttL_2 31 rfl rfl) ?_
  refine zk_sld C0 hL (i := (x + 1)) (by omega) (zdk ttL_2 32 rfl rfl) ?_
  refine zk_aload0 C0 (zdk ttL_2 33 rfl rfl) ?_
  refine zk_iload3 C0 (zdk ttL_2 34 rfl rfl) ?_
  refine zk_iconst C0 (zdk ttL_2 35 rfl rfl) ?_
  refine zk_iadd C0 (zdk ttL_2 36 rfl rfl) ?_
  refine zk_sld C0 hL (i := (x + 2)) (by omega) (zdk ttL_2 37 rfl rfl) ?_
  refine zk_aload0 C0 (zdk ttL_2 38 rfl rfl) ?_
  refine zk_iload3 C0 (zdk ttL_2 39 rfl rfl) ?_
  refine zk_iconst C0 (zdk ttL_2 40 rfl rfl) ?_
  refine zk_iadd C0 (zdk ttL_2 41 rfl rfl) ?_
  refine zk_sld C0 hL (i := (x + 3)) (by omega) (zdk ttL_2 42 rfl rfl) ?_
  refine zk_aload0 C0 (zdk ttL_2 43 rfl rfl) ?_
  refine zk_iload3 C0 (zdk ttL_2 44 rfl rfl) ?_
  refine zk_iconst C0 (zdk ttL_2 45 rfl rfl) ?_
  refine zk_iadd C0 (zdk ttL_2 46 rfl rfl) ?_
  refine zk_sld C0 hL (i := (x + 4)) (by omega) (zdk ttL_2 47 rfl rfl) ?_
  refine zk_aload0 C0 (zdk ttL_2 48 rfl rfl) ?_
  refine zk_iload3 C0 (zdk ttL_2 49 rfl rfl) ?_
  refine zk_iconst C0 (zdk ttL_2 50 rfl rfl) ?_
  refine zk_iadd C0 (zdk ttL_2 51 rfl rfl) ?_
  refine zk_sld C0 hL (i := (x + 5)) (by omega) (zdk ttL_2 52 rfl rfl) ?_
  refine zk_callC C0 sC [(xs ((x + 1)).toNat).toInt, (xs ((x + 2)).toNat).toInt, (xs ((x + 3)).toNat).toInt, (xs ((x + 4)).toNat).toInt, (xs ((x + 5)).toNat).toInt] (zdk ttL_2 53 rfl rfl) mb_X10_feed mv_RL_37 rfl rfl rfl (Nat.le_of_ble_eq_true rfl) (s2_X10_feed l hC (xs ((x + 1)).toNat).toInt (xs ((x + 2)).toNat).toInt (xs ((x + 3)).toNat).toInt (xs ((x + 4)).toNat).toInt (xs ((x + 5)).toNat).toInt sC (zxs xs _) (zxs xs _) (zxs xs _) (zxs xs _) (zxs xs _) ) ⟨rfl, rfl, ⟨Nat.le_of_ble_eq_true rfl, Nat.le_of_ble_eq_true rfl⟩, by show u1 + 0 ≤ 600000; omega, by show u2 + 0 ≤ 7302250; omega⟩ (fun v106 h107 q108 => ?_)
  have s109 : okC h107 := q108.2.1
  have j110 : zJP h107 := zJP_f sC (fun a b z => zfC_a q108.2.2.1 (fun w => by unfold zpJ at z; unfold w_X10_feed at w; omega)) j0
  refine zk_pop C0 (zdk ttL_2 54 rfl rfl) ?_
  refine zk_aload2 C0 (zdk ttL_2 55 rfl rfl) ?_
  refine zk_aload0 C0 (zdk ttL_2 56 rfl rfl) ?_
  refine zk_iload3 C0 (zdk ttL_2 57 rfl rfl) ?_
  refine zk_iconst C0 (zdk ttL_2 58 rfl rfl) ?_
  refine zk_iadd C0 (zdk ttL_2 59 rfl rfl) ?_
  refine zk_sld C0 hL (i := (x + 1)) (by omega) (zdk ttL_3 0 rfl rfl) ?_
  refine zk_aload0 C0 (zdk ttL_3 1 rfl rfl) ?_
  refine zk_iload3 C0 (zdk ttL_3 2 rfl rfl) ?_
  refine zk_iconst C0 (zdk ttL_3 3 rfl rfl) ?_
  refine zk_iadd C0 (zdk ttL_3 4 rfl rfl) ?_
  refine zk_sld C0 hL (i := (x + 2)) (by omega) (zdk ttL_3 5 rfl rfl) ?_
  refine zk_aload0 C0 (zdk ttL_3 6 rfl rfl) ?_
  refine zk_iload3 C0 (zdk ttL_3 7 rfl rfl) ?_
  refine zk_iconst C0 (zdk ttL_3 8 rfl rfl) ?_
  refine zk_iadd C0 (zdk ttL_3 9 rfl rfl) ?_
  refine zk_sld C0 hL (i := (x + 3)) (by omega) (zdk ttL_3 10 rfl rfl) ?_
  refine zk_aload0 C0 (zdk ttL_3 11 rfl rfl) ?_
  refine zk_iload3 C0 (zdk ttL_3 12 rfl rfl) ?_
  refine zk_iconst C0 (zdk ttL_3 13 rfl rfl) ?_
  refine zk_iadd C0 (zdk ttL_3 14 rfl rfl) ?_
  refine zk_sld C0 hL (i := (x + 4)) (by omega) (zdk ttL_3 15 rfl rfl) ?_
  refine zk_aload0 C0 (zdk ttL_3 16 rfl rfl) ?_
  refine zk_iload3 C0 (zdk ttL_3 17 rfl rfl) ?_
  refine zk_iconst C0 (zdk ttL_3 18 rfl rfl) ?_
  refine zk_iadd C0 (zdk ttL_3 19 rfl rfl) ?_
  refine zk_sld C0 hL (i := (x + 5)) (by omega) (zdk ttL_3 20 rfl rfl) ?_
  refine zk_callM C0 sM [(xs ((x + 1)).toNat).toInt, (xs ((x + 2)).toNat).toInt, (xs ((x + 3)).toNat).toInt, (xs ((x + 4)).toNat).toInt, (xs ((x + 5)).toNat).toInt] (zdk ttL_3 21 rfl rfl) mb_X11_feed mv_RL_41 rfl rfl rfl (Nat.le_of_ble_eq_true rfl) (s2_X11_feed l hM (xs ((x + 1)).toNat).toInt (xs ((x + 2)).toNat).toInt (xs ((x + 3)).toNat).toInt (xs ((x + 4)).toNat).toInt (xs ((x + 5)).toNat).toInt sM (zxs xs _) (zxs xs _) (zxs xs _) (zxs xs _) (zxs xs _)) ⟨rfl, rfl, ⟨Nat.le_of_ble_eq_true rfl, Nat.le_of_ble_eq_true rfl⟩, by show (u1 + 0) + 0 ≤ 600000; omega, by show (u2 + 0) + 0 ≤ 7302250; omega⟩ (fun v111 h112 q113 => ?_)
  have s114 : okM h112 := q113.2.1
  have e116 : h107.2 28 2 = hC.2 28 2 := zfC_a q108.2.2.1 (fun w => by unfold w_X10_feed at w; first | (revert w; decide) | omega)
  have e117 : h107.2 28 4 = hC.2 28 4 := zfC_a q108.2.2.1 (fun w => by unfold w_X10_feed at w; first | (revert w; decide) | omega)
  have e118 : h107.2 28 6 = hC.2 28 6 := zfC_a q108.2.2.1 (fun w => by unfold w_X10_feed at w; first | (revert w; decide) | omega)
  have e119 : h107.2 28 9 = hC.2 28 9 := zfC_a q108.2.2.1 (fun w => by unfold w_X10_feed at w; first | (revert w; decide) | omega)
  have e120 : h107.2 62 2 = hC.2 62 2 := zfC_a q108.2.2.1 (fun w => by unfold w_X10_feed at w; first | (revert w; decide) | omega)
  have e121 : h107.2 62 4 = hC.2 62 4 := zfC_a q108.2.2.1 (fun w => by unfold w_X10_feed at w; first | (revert w; decide) | omega)
  have e122 : h107.2 62 6 = hC.2 62 6 := zfC_a q108.2.2.1 (fun w => by unfold w_X10_feed at w; first | (revert w; decide) | omega)
  have e123 : h107.2 62 9 = hC.2 62 9 := zfC_a q108.2.2.1 (fun w => by unfold w_X10_feed at w; first | (revert w; decide) | omega)
  have e124 : h107.2 0 9 = hC.2 0 9 := zfC_a q108.2.2.1 (fun w => by unfold w_X10_feed at w; first | (revert w; decide) | omega)
  have e125 : h107.2 2 3 = hC.2 2 3 := zfC_a q108.2.2.1 (fun w => by unfold w_X10_feed at w; first | (revert w; decide) | omega)
  have e126 : h107.2 36 3 = hC.2 36 3 := zfC_a q108.2.2.1 (fun w => by unfold w_X10_feed at w; first | (revert w; decide) | omega)
  have e127 : h112.2 0 42 = hM.2 0 42 := zfr_f q113.2.2.1 rfl rfl
  have e128 : h112.2 0 45 = hM.2 0 45 := zfr_f q113.2.2.1 rfl rfl
  have e129 : h112.2 0 49 = hM.2 0 49 := zfr_f q113.2.2.1 rfl rfl
  have e130 : h112.2 0 53 = hM.2 0 53 := zfr_f q113.2.2.1 rfl rfl
  have e131 : h112.2 35 67 = hM.2 35 67 := zfr_a q113.2.2.1 rfl (by decide)
  have e132 : h112.2 35 68 = hM.2 35 68 := zfr_a q113.2.2.1 rfl (by decide)
  have e133 : h112.2 35 69 = hM.2 35 69 := zfr_a q113.2.2.1 rfl (by decide)
  have e134 : h112.2 35 70 = hM.2 35 70 := zfr_a q113.2.2.1 rfl (by decide)
  have e135 : h112.2 0 59 = hM.2 0 59 := zfr_f q113.2.2.1 rfl rfl
  have e136 : h112.2 0 6 = hM.2 0 6 := zfr_f q113.2.2.1 rfl rfl
  have e137 : h112.2 35 63 = hM.2 35 63 := zfr_a q113.2.2.1 rfl (by decide)
  have p138 := q108.2.2.2.1
  have p139 := q113.2.2.2.1
  have zw9_139 := zfd_r p138 p139 r0.2.2.2.2.2.2.1
  have r115 : zRK h107 h112 := ⟨(e116.trans (r0.1.trans e127.symm)), (e117.trans (r0.2.1.trans e128.symm)), (e118.trans (r0.2.2.1.trans e129.symm)), (e119.trans (r0.2.2.2.1.trans e130.symm)), (fun z => have z9 := r0.2.2.2.2.1 ((e135.symm).trans z); ⟨e120.trans (z9.1.trans e131.symm), e121.trans (z9.2.1.trans e132.symm), e122.trans (z9.2.2.1.trans e133.symm), e123.trans (z9.2.2.2.1.trans e134.symm), e126.trans (z9.2.2.2.2.trans e137.symm)⟩), (e124.trans (r0.2.2.2.2.2.1.trans e135.symm)), zw9_139.2, (e125.trans (r0.2.2.2.2.2.2.2.trans e136.symm))⟩
  have t140y := q113.2.2.2.2
  rw [← r0.2.2.2.2.2.2.1] at t140y
  have t140 : zRT h107 h112 := ⟨tFe_r q108.2.2.2.2 t140y q108.2.2.2.1 (fb_L103_3 sC).1 t0.1, ⟨(zfC_a q108.2.2.1 (fun w => by unfold w_X10_feed at w; first | (revert w; decide) | omega)).trans (t0.2.1.1.trans (zfr_f q113.2.2.1 rfl rfl).symm), (zfC_a q108.2.2.1 (fun w => by unfold w_X10_feed at w; first | (revert w; decide) | omega)).trans (t0.2.1.2.trans (zfr_f q113.2.2.1 rfl rfl).symm)⟩, (tWr_f t0.2.2 (fun k => zfr_a q113.2.2.1 rfl (by decide)))⟩
  refine zk_pop C0 (zdk ttL_3 22 rfl rfl) ?_
  refine zk_goto C0 (t := 1355) (zdk ttL_3 23 rfl rfl) (by decide) ?_
  exact zk_widen (by omega) (by omega) (kk h107 h112 s109 s114 r115 j110 t140)
set_option maxHeartbeats 4000000 in
theorem lc_6 (C0 : lw_At p s m meth c b L xs) (hL : L ≤ 3072) (sC : okC hC) (sM : okM hM) (r0 : zRK hC hM) (j0 : zJP hC) (t0 : zRT hC hM) (hx0 : 0 ≤ x ∧ x + 6 ≤ L) (hu1 : u1 ≤ 599999) (hu2 : u2 ≤ 7292250) (kk : ∀ hC hM, okC hC → okM hM → zRK hC hM → zJP hC → zRT hC hM → zK p l e s m below meth c b (u1 + 1) (u2 + 10000) 1355 x [] hC hM) : zK p l e s m below meth c b u1 u2 406 x [] hC hM := by
  refine zk_aload1 C0 (zdk ttL_3 24 rfl rfl) ?_
  refine zk_aload0 C0 (zdk ttL_3 25 rfl rfl) ?_
  refine zk_iload3 C0 (zdk ttL_3 26 rfl rfl) ?_
  refine zk_iconst C0 (zdk ttL_3 27 rfl rfl) ?_
  refine zk_iadd C0 (zdk ttL_3 28 rfl rfl) ?_
  refine zk_sld C0 hL (i := (x + 1)) (by omega) (zdk ttL_3 29 rfl rfl) ?_
  refine zk_callC C0 sC [(xs ((x + 1)).toNat).toInt] (zdk ttL_3 30 rfl rfl) mb_X10_end mv_RL_42 rfl rfl rfl (Nat.le_of_ble_eq_true rfl) (s_X10_end l hC (xs ((x + 1)).toNat).toInt sC (zxs xs _)) ⟨rfl, rfl, ⟨Nat.le_of_ble_eq_true rfl, Nat.le_of_ble_eq_true rfl⟩, by show u1 + 0 ≤ 600000; omega, by show u2 + 0 ≤ 7302250; omega⟩ (fun v141 h142 q143 => ?_)
  have s144 : okC h142 := q143.2.1
  have j145 : zJP h142 := zJP_f sC (fun a b z => zfC_a q143.2.2.1 (fun w => by unfold zpJ at z; unfold w_X10_end at w; omega)) j0
  refine zk_pop C0 (zdk ttL_3 31 rfl rfl) ?_
  refine zk_aload2 C0 (zdk ttL_3 32 rfl rfl) ?_
  refine zk_aload0 C0 (zdk ttL_3 33 rfl rfl) ?_
  refine zk_iload3 C0 (zdk ttL_3 34 rfl rfl) ?_
  refine zk_iconst C0 (zdk ttL_3 35 rfl rfl) ?_
  refine zk_iadd C0 (zdk ttL_3 36 rfl rfl) ?_
  refine zk_sld C0 hL (i := (x + 1)) (by omega) (zdk ttL_3 37 rfl rfl) ?_
  refine zk_callM C0 sM [(xs ((x + 1)).toNat).toInt] (zdk ttL_3 38 rfl rfl) mb_X11_end mv_RL_46 rfl rfl rfl (Nat.le_of_ble_eq_true rfl) (s2_X11_end l hM (xs ((x + 1)).toNat).toInt sM (zxs xs _)) ⟨rfl, rfl, ⟨Nat.le_of_ble_eq_true rfl, Nat.le_of_ble_eq_true rfl⟩, by show (u1 + 0) + 0 ≤ 600000; omega, by show (u2 + 0) + 0 ≤ 7302250; omega⟩ (fun v146 h147 q148 => ?_)
  have s149 : okM h147 := q148.2.1
  have e151 : h142.2 28 2 = hC.2 28 2 := zfC_a q143.2.2.1 (fun w => by unfold w_X10_end at w; first | (revert w; decide) | omega)
  have e152 : h142.2 28 4 = hC.2 28 4 := zfC_a q143.2.2.1 (fun w => by unfold w_X10_end at w; first | (revert w; decide) | omega)
  have e153 : h142.2 28 6 = hC.2 28 6 := zfC_a q143.2.2.1 (fun w => by unfold w_X10_end at w; first | (revert w; decide) | omega)
  have e154 : h142.2 28 9 = hC.2 28 9 := zfC_a q143.2.2.1 (fun w => by unfold w_X10_end at w; first | (revert w; decide) | omega)
  have e155 : h142.2 62 2 = hC.2 62 2 := zfC_a q143.2.2.1 (fun w => by unfold w_X10_end at w; first | (revert w; decide) | omega)
  have e156 : h142.2 62 4 = hC.2 62 4 := zfC_a q143.2.2.1 (fun w => by unfold w_X10_end at w; first | (revert w; decide) | omega)
  have e157 : h142.2 62 6 = hC.2 62 6 := zfC_a q143.2.2.1 (fun w => by unfold w_X10_end at w; first | (revert w; decide) | omega)
  have e158 : h142.2 62 9 = hC.2 62 9 := zfC_a q143.2.2.1 (fun w => by unfold w_X10_end at w; first | (revert w; decide) | omega)
  have e159 : h142.2 0 9 = hC.2 0 9 := zfC_a q143.2.2.1 (fun w => by unfold w_X10_end at w; first | (revert w; decide) | omega)
  have e160 : h142.2 2 3 = hC.2 2 3 := zfC_a q143.2.2.1 (fun w => by unfold w_X10_end at w; first | (revert w; decide) | omega)
  have e161 : h142.2 36 3 = hC.2 36 3 := zfC_a q143.2.2.1 (fun w => by unfold w_X10_end at w; first | (revert w; decide) | omega)
  have e162 : h147.2 0 42 = hM.2 0 42 := zfr_f q148.2.2.1 rfl rfl
  have e163 : h147.2 0 45 = hM.2 0 45 := zfr_f q148.2.2.1 rfl rfl
  have e164 : h147.2 0 49 = hM.2 0 49 := zfr_f q148.2.2.1 rfl rfl
  have e165 : h147.2 0 53 = hM.2 0 53 := zfr_f q148.2.2.1 rfl rfl
  have e166 : h147.2 35 67 = hM.2 35 67 := zfr_a q148.2.2.1 rfl (by decide)
  have e167 : h147.2 35 68 = hM.2 35 68 := zfr_a q148.2.2.1 rfl (by decide)
  have e168 : h147.2 35 69 = hM.2 35 69 := zfr_a q148.2.2.1 rfl (by decide)
  have e169 : h147.2 35 70 = hM.2 35 70 := zfr_a q148.2.2.1 rfl (by decide)
  have e170 : h147.2 0 59 = hM.2 0 59 := zfr_f q148.2.2.1 rfl rfl
  have e171 : h147.2 0 6 = hM.2 0 6 := zfr_f q148.2.2.1 rfl rfl
  have e172 : h147.2 35 63 = hM.2 35 63 := zfr_a q148.2.2.1 rfl (by decide)
  have p173 := q143.2.2.2
  have p174 := q148.2.2.2
  have zw9_174 := zen_r p173 p174 r0.2.2.2.2.2.2.1
  have r150 : zRK h142 h147 := ⟨(e151.trans (r0.1.trans e162.symm)), (e152.trans (r0.2.1.trans e163.symm)), (e153.trans (r0.2.2.1.trans e164.symm)), (e154.trans (r0.2.2.2.1.trans e165.symm)), (fun z => have z9 := r0.2.2.2.2.1 ((e170.symm).trans z); ⟨e155.trans (z9.1.trans e166.symm), e156.trans (z9.2.1.trans e167.symm), e157.trans (z9.2.2.1.trans e168.symm), e158.trans (z9.2.2.2.1.trans e169.symm), e161.trans (z9.2.2.2.2.trans e172.symm)⟩), (e159.trans (r0.2.2.2.2.2.1.trans e170.symm)), zw9_174.2, (e160.trans (r0.2.2.2.2.2.2.2.trans e171.symm))⟩
  have t175z := q143.2.2.2
  unfold zen at t175z
  have t175 : zRT h142 h147 := ⟨fun i a b => by rw [show h142.2 104 i = hC.2 104 i from (zfC_a q143.2.2.1 (fun w => by unfold w_X10_end at w; first | (revert w; decide) | omega)), show h147.2 7 i = hM.2 7 i from zfr_a q148.2.2.1 rfl (by decide)]; exact t0.1 i a (by omega), ⟨(zfC_a q143.2.2.1 (fun w => by unfold w_X10_end at w; first | (revert w; decide) | omega)).trans (t0.2.1.1.trans (zfr_f q148.2.2.1 rfl rfl).symm), (zfC_a q143.2.2.1 (fun w => by unfold w_X10_end at w; first | (revert w; decide) | omega)).trans (t0.2.1.2.trans (zfr_f q148.2.2.1 rfl rfl).symm)⟩, (tWr_f t0.2.2 (fun k => zfr_a q148.2.2.1 rfl (by decide)))⟩
  refine zk_pop C0 (zdk ttL_3 39 rfl rfl) ?_
  refine zk_goto C0 (t := 1355) (zdk ttL_3 40 rfl rfl) (by decide) ?_
  exact zk_widen (by omega) (by omega) (kk h142 h147 s144 s149 r150 j145 t175)
set_option maxHeartbeats 4000000 in
theorem lc_7 (C0 : lw_At p s m meth c b L xs) (hL : L ≤ 3072) (sC : okC hC) (sM : okM hM) (r0 : zRK hC hM) (j0 : zJP hC) (t0 : zRT hC hM) (hx0 : 0 ≤ x ∧ x + 6 ≤ L) (hu1 : u1 ≤ 599999) (hu2 : u2 ≤ 7292250) (kk : ∀ hC hM, okC hC → okM hM → zRK hC hM → zJP hC → zRT hC hM → zK p l e s m below meth c b (u1 + 1) (u2 + 10000) 1355 x [] hC hM) : zK p l e s m below meth c b u1 u2 429 x [] hC hM := by
  refine zk_aload1 C0 (zdk ttL_3 41 rfl rfl) ?_
  refine zk_aload0 C0 (zdk ttL_3 42 rfl rfl) ?_
  refine zk_iload3 C0 (zdk ttL_3 43 rfl rfl) ?_
  refine zk_iconst C0 (zdk ttL_3 44 rfl rfl) ?_
  refine zk_iadd C0 (zdk ttL_3 45 rfl rfl) ?_
  refine zk_sld C0 hL (i := (x + 1)) (by omega) (zdk ttL_3 46 rfl rfl) ?_
  refine zk_callC C0 sC [(xs ((x + 1)).toNat).toInt] (zdk ttL_3 47 rfl rfl) mb_X10_text mv_RL_47 rfl rfl rfl (Nat.le_of_ble_eq_true rfl) (s2_X10_text l hC (xs ((x + 1)).toNat).toInt sC (zxs xs _) ) ⟨rfl, rfl, ⟨Nat.le_of_ble_eq_true rfl, Nat.le_of_ble_eq_true rfl⟩, by show u1 + 0 ≤ 600000; omega, by show u2 + 0 ≤ 7302250; omega⟩ (fun v176 h177 q178 => ?_)
  have s179 : okC h177 := q178.2.1
  have j180 : zJP h177 := q178.2.2.2.2.1 j0
  refine zk_pop C0 (zdk ttL_3 48 rfl rfl) ?_
  refine zk_aload2 C0 (zdk ttL_3 49 rfl rfl) ?_
  refine zk_aload0 C0 (zdk ttL_3 50 rfl rfl) ?_
  refine zk_iload3 C0 (zdk ttL_3 51 rfl rfl) ?_
  refine zk_iconst C0 (zdk ttL_3 52 rfl rfl) ?_
  refine zk_iadd C0 (zdk ttL_3 53 rfl rfl) ?_
  refine zk_sld C0 hL (i := (x + 1)) (by omega) (zdk ttL_3 54 rfl rfl) ?_
  refine zk_callM C0 sM [(xs ((x + 1)).toNat).toInt] (zdk ttL_3 55 rfl rfl) mb_X11_text mv_RL_50 rfl rfl rfl (Nat.le_of_ble_eq_true rfl) (s2_X11_text l hM (xs ((x + 1)).toNat).toInt sM (zxs xs _)) ⟨rfl, rfl, ⟨Nat.le_of_ble_eq_true rfl, Nat.le_of_ble_eq_true rfl⟩, by show (u1 + 0) + 0 ≤ 600000; omega, by show (u2 + 0) + 0 ≤ 7302250; omega⟩ (fun v181 h182 q183 => ?_)
  have s184 : okM h182 := q183.2.1
  have e186 : h177.2 28 2 = hC.2 28 2 := zfC_a q178.2.2.1 (fun w => by unfold w_X10_text at w; first | (revert w; decide) | omega)
  have e187 : h177.2 28 4 = hC.2 28 4 := zfC_a q178.2.2.1 (fun w => by unfold w_X10_text at w; first | (revert w; decide) | omega)
  have e188 : h177.2 28 6 = hC.2 28 6 := zfC_a q178.2.2.1 (fun w => by unfold w_X10_text at w; first | (revert w; decide) | omega)
  have e189 : h177.2 28 9 = hC.2 28 9 := zfC_a q178.2.2.1 (fun w => by unfold w_X10_text at w; first | (revert w; decide) | omega)
  have e190 : h177.2 62 2 = hC.2 62 2 := zfC_a q178.2.2.1 (fun w => by unfold w_X10_text at w; first | (revert w; decide) | omega)
  have e191 : h177.2 62 4 = hC.2 62 4 := zfC_a q178.2.2.1 (fun w => by unfold w_X10_text at w; first | (revert w; decide) | omega)
  have e192 : h177.2 62 6 = hC.2 62 6 := zfC_a q178.2.2.1 (fun w => by unfold w_X10_text at w; first | (revert w; decide) | omega)
  have e193 : h177.2 62 9 = hC.2 62 9 := zfC_a q178.2.2.1 (fun w => by unfold w_X10_text at w; first | (revert w; decide) | omega)
  have e194 : h177.2 0 9 = hC.2 0 9 := zfC_a q178.2.2.1 (fun w => by unfold w_X10_text at w; first | (revert w; decide) | omega)
  have e195 : h177.2 2 3 = hC.2 2 3 := zfC_a q178.2.2.1 (fun w => by unfold w_X10_text at w; first | (revert w; decide) | omega)
  have e196 : h177.2 36 3 = hC.2 36 3 := zfC_a q178.2.2.1 (fun w => by unfold w_X10_text at w; first | (revert w; decide) | omega)
  have e197 : h182.2 0 42 = hM.2 0 42 := zfr_f q183.2.2.1 rfl rfl
  have e198 : h182.2 0 45 = hM.2 0 45 := zfr_f q183.2.2.1 rfl rfl
  have e199 : h182.2 0 49 = hM.2 0 49 := zfr_f q183.2.2.1 rfl rfl
  have e200 : h182.2 0 53 = hM.2 0 53 := zfr_f q183.2.2.1 rfl rfl
  have e201 : h182.2 35 67 = hM.2 35 67 := zfr_a q183.2.2.1 rfl (by decide)
  have e202 : h182.2 35 68 = hM.2 35 68 := zfr_a q183.2.2.1 rfl (by decide)
  have e203 : h182.2 35 69 = hM.2 35 69 := zfr_a q183.2.2.1 rfl (by decide)
  have e204 : h182.2 35 70 = hM.2 35 70 := zfr_a q183.2.2.1 rfl (by decide)
  have e205 : h182.2 0 59 = hM.2 0 59 := zfr_f q183.2.2.1 rfl rfl
  have e206 : h182.2 0 6 = hM.2 0 6 := zfr_f q183.2.2.1 rfl rfl
  have e207 : h182.2 35 63 = hM.2 35 63 := zfr_a q183.2.2.1 rfl (by decide)
  have p208 := q178.2.2.2.1
  have p209 := q183.2.2.2.1
  have r185 : zRK h177 h182 := ⟨(e186.trans (r0.1.trans e197.symm)), (e187.trans (r0.2.1.trans e198.symm)), (e188.trans (r0.2.2.1.trans e199.symm)), (e189.trans (r0.2.2.2.1.trans e200.symm)), (fun z => have z9 := r0.2.2.2.2.1 ((e205.symm).trans z); ⟨e190.trans (z9.1.trans e201.symm), e191.trans (z9.2.1.trans e202.symm), e192.trans (z9.2.2.1.trans e203.symm), e193.trans (z9.2.2.2.1.trans e204.symm), e196.trans (z9.2.2.2.2.trans e207.symm)⟩), (e194.trans (r0.2.2.2.2.2.1.trans e205.symm)), (p208.trans p209.symm), (e195.trans (r0.2.2.2.2.2.2.2.trans e206.symm))⟩
  have t210y := q183.2.2.2.2 t0.2.2
  rw [← r0.2.2.2.2.2.2.1, ← r0.2.2.2.2.2.2.2] at t210y
  have t210u := tTX_u t0.1 q178.2.2.2.2.2 t210y
  have t210 : zRT h177 h182 := ⟨fun i a b => absurd b (by rw [q178.2.2.2.1]; omega), ⟨t210u.2.1, t210u.2.2⟩, (tWr_f t0.2.2 (fun k => zfr_a q183.2.2.1 rfl (by decide)))⟩
  refine zk_pop C0 (zdk ttL_3 56 rfl rfl) ?_
  refine zk_goto C0 (t := 1355) (zdk ttL_3 57 rfl rfl) (by decide) ?_
  exact zk_widen (by omega) (by omega) (kk h177 h182 s179 s184 r185 j180 t210)
set_option maxHeartbeats 4000000 in
theorem lc_8 (C0 : lw_At p s m meth c b L xs) (hL : L ≤ 3072) (sC : okC hC) (sM : okM hM) (r0 : zRK hC hM) (j0 : zJP hC) (t0 : zRT hC hM) (hx0 : 0 ≤ x ∧ x + 6 ≤ L) (hu1 : u1 ≤ 599999) (hu2 : u2 ≤ 7292250) (kk : ∀ hC hM, okC hC → okM hM → zRK hC hM → zJP hC → zRT hC hM → zK p l e s m below meth c b (u1 + 1) (u2 + 10000) 1355 x [] hC hM) : zK p l e s m below meth c b u1 u2 452 x [] hC hM := by
  refine zk_aload1 C0 (zdk ttL_3 58 rfl rfl) ?_
  refine zk_aload0 C0 (zdk ttL_3 59 rfl rfl) ?_
  refine zk_iload3 C0 (zdk ttL_4 0 rfl rfl) ?_
  refine zk_iconst C0 (zdk ttL_4 1 rfl rfl) ?_
  refine zk_iadd C0 (zdk ttL_4 2 rfl rfl) ?_
  refine zk_sld C0 hL (i := (x + 1)) (by omega) (zdk ttL_4 3 rfl rfl) ?_
  refine zk_callC C0 sC [(xs ((x + 1)).toNat).toInt] (zdk ttL_4 4 rfl rfl) mb_X10_fault mv_RL_51 rfl rfl rfl (Nat.le_of_ble_eq_true rfl) (s2_X10_fault l hC (xs ((x + 1)).toNat).toInt sC (zxs xs _) ) ⟨rfl, rfl, ⟨Nat.le_of_ble_eq_true rfl, Nat.le_of_ble_eq_true rfl⟩, by show u1 + 0 ≤ 600000; omega, by show u2 + 0 ≤ 7302250; omega⟩ (fun v211 h212 q213 => ?_)
  have s214 : okC h212 := q213.2.1
  have j215 : zJP h212 := zJP_f sC (fun a b z => zfC_a q213.2.2.1 (fun w => by unfold zpJ at z; unfold w_X10_fault at w; omega)) j0
  refine zk_aload2 C0 (zdk ttL_4 5 rfl rfl) ?_
  refine zk_aload0 C0 (zdk ttL_4 6 rfl rfl) ?_
  refine zk_iload3 C0 (zdk ttL_4 7 rfl rfl) ?_
  refine zk_iconst C0 (zdk ttL_4 8 rfl rfl) ?_
  refine zk_iadd C0 (zdk ttL_4 9 rfl rfl) ?_
  refine zk_sld C0 hL (i := (x + 1)) (by omega) (zdk ttL_4 10 rfl rfl) ?_
  refine zk_callM C0 sM [(xs ((x + 1)).toNat).toInt] (zdk ttL_4 11 rfl rfl) mb_X11_fault mv_RL_54 rfl rfl rfl (Nat.le_of_ble_eq_true rfl) (s2_X11_fault l hM (xs ((x + 1)).toNat).toInt sM (zxs xs _)) ⟨rfl, rfl, ⟨Nat.le_of_ble_eq_true rfl, Nat.le_of_ble_eq_true rfl⟩, by show (u1 + 0) + 0 ≤ 600000; omega, by show (u2 + 0) + 0 ≤ 7302250; omega⟩ (fun v216 h217 q218 => ?_)
  have s219 : okM h217 := q218.2.1
  have r220 : zRK h212 h217 := rk_f r0 (fun a b z => zfC_a q213.2.2.1 (fun w => by unfold zpC at z; unfold w_X10_fault at w; omega)) (rkM q218.2.2.1 rfl)
  have zeq9 : v211 = v216 := by have a9 := q213.2.2.2; have b9 := q218.2.2.2; have t9 := t0.2.1; omega
  have t221 : zRT h212 h217 := zRT_f t0 (fun a b z => zfC_a q213.2.2.1 (fun w => by unfold zpT at z; unfold w_X10_fault at w; omega)) (rkT q218.2.2.1 rfl)
  refine zk_icmp_eq C0 (t := 1355) (zdk ttL_4 12 rfl rfl) (by decide) (by have z9 := q213.1; omega) (by have z9 := q218.1; omega) (fun c222 => ?_) (fun c222 => absurd zeq9 c222)
  exact zk_widen (by omega) (by omega) (kk h212 h217 s214 s219 r220 j215 t221)
set_option maxHeartbeats 4000000 in
theorem lc_9 (C0 : lw_At p s m meth c b L xs) (hL : L ≤ 3072) (sC : okC hC) (sM : okM hM) (r0 : zRK hC hM) (j0 : zJP hC) (t0 : zRT hC hM) (hx0 : 0 ≤ x ∧ x + 6 ≤ L) (hu1 : u1 ≤ 599999) (hu2 : u2 ≤ 7292250) (kk : ∀ hC hM, okC hC → okM hM → zRK hC hM → zJP hC → zRT hC hM → zK p l e s m below meth c b (u1 + 1) (u2 + 10000) 1355 x [] hC hM) : zK p l e s m below meth c b u1 u2 475 x [] hC hM := by
  refine zk_aload1 C0 (zdk ttL_4 15 rfl rfl) ?_
  refine zk_aload0 C0 (zdk ttL_4 16 rfl rfl) ?_
  refine zk_iload3 C0 (zdk ttL_4 17 rfl rfl) ?_
  refine zk_iconst C0 (zdk ttL_4 18 rfl rfl) ?_
  refine zk_iadd C0 (zdk ttL_4 19 rfl rfl) ?_
  refine zk_sld C0 hL (i := (x + 1)) (by omega) (zdk ttL_4 20 rfl rfl) ?_
  refine zk_aload0 C0 (zdk ttL_4 21 rfl rfl) ?_
  refine zk_iload3 C0 (zdk ttL_4 22 rfl rfl) ?_
  refine zk_iconst C0 (zdk ttL_4 23 rfl rfl) ?_
  refine zk_iadd C0 (zdk ttL_4 24 rfl rfl) ?_
  refine zk_sld C0 hL (i := (x + 2)) (by omega) (zdk ttL_4 25 rfl rfl) ?_
  refine zk_callC C0 sC [(xs ((x + 1)).toNat).toInt, (xs ((x + 2)).toNat).toInt] (zdk ttL_4 26 rfl rfl) mb_X10_of mv_RL_55 rfl rfl rfl (Nat.le_of_ble_eq_true rfl) (s_X10_of l hC (xs ((x + 1)).toNat).toInt (xs ((x + 2)).toNat).toInt sC (zxs xs _) (zxs xs _)) ⟨rfl, rfl, ⟨Nat.le_of_ble_eq_true rfl, Nat.le_of_ble_eq_true rfl⟩, by show u1 + 0 ≤ 600000; omega, by show u2 + 0 ≤ 7302250; omega⟩ (fun v223 h224 q225 => ?_)
  have s226 : okC h224 := q225.2.1
  have j227 : zJP h224 := zJP_f sC (fun a b z => zfC_a q225.2.2 (fun w => by unfold zpJ at z; unfold w_X10_of at w; omega)) j0
  refine zk_pop C0 (zdk ttL_4 27 rfl rfl) ?_
  refine zk_aload2 C0 (zdk ttL_4 28 rfl rfl) ?_
  refine zk_aload0 C0 (zdk ttL_4 29 rfl rfl) ?_
  refine zk_iload3 C0 (zdk ttL_4 30 rfl rfl) ?_
  refine zk_iconst C0 (zdk ttL_4 31 rfl rfl) ?_
  refine zk_iadd C0 (zdk ttL_4 32 rfl rfl) ?_
  refine zk_sld C0 hL (i := (x + 1)) (by omega) (zdk ttL_4 33 rfl rfl) ?_
  refine zk_aload0 C0 (zdk ttL_4 34 rfl rfl) ?_
  refine zk_iload3 C0 (zdk ttL_4 35 rfl rfl) ?_
  refine zk_iconst C0 (zdk ttL_4 36 rfl rfl) ?_
  refine zk_iadd C0 (zdk ttL_4 37 rfl rfl) ?_
  refine zk_sld C0 hL (i := (x + 2)) (by omega) (zdk ttL_4 38 rfl rfl) ?_
  refine zk_callM C0 sM [(xs ((x + 1)).toNat).toInt, (xs ((x + 2)).toNat).toInt] (zdk ttL_4 39 rfl rfl) mb_X11_of mv_RL_58 rfl rfl rfl (Nat.le_of_ble_eq_true rfl) (s_X11_of l hM (xs ((x + 1)).toNat).toInt (xs ((x + 2)).toNat).toInt sM (zxs xs _) (zxs xs _)) ⟨rfl, rfl, ⟨Nat.le_of_ble_eq_true rfl, Nat.le_of_ble_eq_true rfl⟩, by show (u1 + 0) + 0 ≤ 600000; omega, by show (u2 + 0) + 0 ≤ 7302250; omega⟩ (fun v228 h229 q230 => ?_)
  have s231 : okM h229 := q230.2.1
  have r232 : zRK h224 h229 := rk_f r0 (fun a b z => zfC_a q225.2.2 (fun w => by unfold zpC at z; unfold w_X10_of at w; omega)) (rkM q230.2.2 rfl)
  have t233 : zRT h224 h229 := zRT_f t0 (fun a b z => zfC_a q225.2.2 (fun w => by unfold zpT at z; unfold w_X10_of at w; omega)) (rkT q230.2.2 rfl)
  refine zk_pop C0 (zdk ttL_4 40 rfl rfl) ?_
  refine zk_goto C0 (t := 1355) (zdk ttL_4 41 rfl rfl) (by decide) ?_
  exact zk_widen (by omega) (by omega) (kk h224 h229 s226 s231 r232 j227 t233)
set_option maxHeartbeats 4000000 in
theorem lc_10 (C0 : lw_At p s m meth c b L xs) (hL : L ≤ 3072) (sC : okC hC) (sM : okM hM) (r0 : zRK hC hM) (j0 : zJP hC) (t0 : zRT hC hM) (hx0 : 0 ≤ x ∧ x + 6 ≤ L) (hu1 : u1 ≤ 599999) (hu2 : u2 ≤ 7292250) (kk : ∀ hC hM, okC hC → okM hM → zRK hC hM → zJP hC → zRT hC hM → zK p l e s m below meth c b (u1 + 1) (u2 + 10000) 1355 x [] hC hM) : zK p l e s m below meth c b u1 u2 508 x [] hC hM := by
  refine zk_aload1 C0 (zdk ttL_4 42 rfl rfl) ?_
  refine zk_aload0 C0 (zdk ttL_4 43 rfl rfl) ?_
  refine zk_iload3 C0 (zdk ttL_4 44 rfl rfl) ?_
  refine zk_iconst C0 (zdk ttL_4 45 rfl rfl) ?_
  refine zk_iadd C0 (zdk ttL_4 46 rfl rfl) ?_
  refine zk_sld C0 hL (i := (x + 1)) (by omega) (zdk ttL_4 47 rfl rfl) ?_
  refine zk_aload0 C0 (zdk ttL_4 48 rfl rfl) ?_
  refine zk_iload3 C0 (zdk ttL_4 49 rfl rfl) ?_
  refine zk_iconst C0 (zdk ttL_4 50 rfl rfl) ?_
  refine zk_iadd C0 (zdk ttL_4 51 rfl rfl) ?_
  refine zk_sld C0 hL (i := (x + 2)) (by omega) (zdk ttL_4 52 rfl rfl) ?_
  refine zk_callC C0 sC [(xs ((x + 1)).toNat).toInt, (xs ((x + 2)).toNat).toInt] (zdk ttL_4 53 rfl rfl) mb_X10_book mv_RL_59 rfl rfl rfl (Nat.le_of_ble_eq_true rfl) (s_X10_book l hC (xs ((x + 1)).toNat).toInt (xs ((x + 2)).toNat).toInt sC (zxs xs _) (zxs xs _)) ⟨rfl, rfl, ⟨Nat.le_of_ble_eq_true rfl, Nat.le_of_ble_eq_true rfl⟩, by show u1 + 0 ≤ 600000; omega, by show u2 + 0 ≤ 7302250; omega⟩ (fun v234 h235 q236 => ?_)
  have s237 : okC h235 := q236.2.1
  have j238 : zJP h235 := zJP_f sC (fun a b z => zfC_a q236.2.2 (fun w => by unfold zpJ at z; unfold w_X10_book at w; omega)) j0
  refine zk_pop C0 (zdk ttL_4 54 rfl rfl) ?_
  refine zk_aload2 C0 (zdk ttL_4 55 rfl rfl) ?_
  refine zk_aload0 C0 (zdk ttL_4 56 rfl rfl) ?_
  refine zk_iload3 C0 (zdk ttL_4 57 rfl rfl) ?_
  refine zk_iconst C0 (zdk ttL_4 58 rfl rfl) ?_
  refine zk_iadd C0 (zdk ttL_4 59 rfl rfl) ?_
  refine zk_sld C0 hL (i := (x + 1)) (by omega) (zdk ttL_5 0 rfl rfl) ?_
  refine zk_aload0 C0 (zdk ttL_5 1 rfl rfl) ?_
  refine zk_iload3 C0 (zdk ttL_5 2 rfl rfl) ?_
  refine zk_iconst C0 (zdk ttL_5 3 rfl rfl) ?_
  refine zk_iadd C0 (zdk ttL_5 4 rfl rfl) ?_
  refine zk_sld C0 hL (i := (x + 2)) (by omega) (zdk ttL_5 5 rfl rfl) ?_
  refine zk_callM C0 sM [(xs ((x + 1)).toNat).toInt, (xs ((x + 2)).toNat).toInt] (zdk ttL_5 6 rfl rfl) mb_X11_book mv_RL_62 rfl rfl rfl (Nat.le_of_ble_eq_true rfl) (s_X11_book l hM (xs ((x + 1)).toNat).toInt (xs ((x + 2)).toNat).toInt sM (zxs xs _) (zxs xs _)) ⟨rfl, rfl, ⟨Nat.le_of_ble_eq_true rfl, Nat.le_of_ble_eq_true rfl⟩, by show (u1 + 0) + 0 ≤ 600000; omega, by show (u2 + 0) + 0 ≤ 7302250; omega⟩ (fun v239 h240 q241 => ?_)
  have s242 : okM h240 := q241.2.1
  have r243 : zRK h235 h240 := rk_f r0 (fun a b z => zfC_a q236.2.2 (fun w => by unfold zpC at z; unfold w_X10_book at w; omega)) (rkM q241.2.2 rfl)
  have t244 : zRT h235 h240 := zRT_f t0 (fun a b z => zfC_a q236.2.2 (fun w => by unfold zpT at z; unfold w_X10_book at w; omega)) (rkT q241.2.2 rfl)
  refine zk_pop C0 (zdk ttL_5 7 rfl rfl) ?_
  refine zk_goto C0 (t := 1355) (zdk ttL_5 8 rfl rfl) (by decide) ?_
  exact zk_widen (by omega) (by omega) (kk h235 h240 s237 s242 r243 j238 t244)
set_option maxHeartbeats 4000000 in
theorem lc_11 (C0 : lw_At p s m meth c b L xs) (hL : L ≤ 3072) (sC : okC hC) (sM : okM hM) (r0 : zRK hC hM) (j0 : zJP hC) (t0 : zRT hC hM) (hx0 : 0 ≤ x ∧ x + 6 ≤ L) (hu1 : u1 ≤ 599999) (hu2 : u2 ≤ 7292250) (kk : ∀ hC hM, okC hC → okM hM → zRK hC hM → zJP hC → zRT hC hM → zK p l e s m below meth c b (u1 + 1) (u2 + 10000) 1355 x [] hC hM) : zK p l e s m below meth c b u1 u2 541 x [] hC hM := by
  refine zk_aload1 C0 (zdk ttL_5 9 rfl rfl) ?_
  refine zk_aload0 C0 (zdk ttL_5 10 rfl rfl) ?_
  refine zk_iload3 C0 (zdk ttL_5 11 rfl rfl) ?_
  refine zk_iconst C0 (zdk ttL_5 12 rfl rfl) ?_
  refine zk_iadd C0 (zdk ttL_5 13 rfl rfl) ?_
  refine zk_sld C0 hL (i := (x + 1)) (by omega) (zdk ttL_5 14 rfl rfl) ?_
  refine zk_aload0 C0 (zdk ttL_5 15 rfl rfl) ?_
  refine zk_iload3 C0 (zdk ttL_5 16 rfl rfl) ?_
  refine zk_iconst C0 (zdk ttL_5 17 rfl rfl) ?_
  refine zk_iadd C0 (zdk ttL_5 18 rfl rfl) ?_
  refine zk_sld C0 hL (i := (x + 2)) (by omega) (zdk ttL_5 19 rfl rfl) ?_
  refine zk_callC C0 sC [(xs ((x + 1)).toNat).toInt, (xs ((x + 2)).toNat).toInt] (zdk ttL_5 20 rfl rfl) mb_X10_goes mv_RL_63 rfl rfl rfl (Nat.le_of_ble_eq_true rfl) (s_X10_goes l hC (xs ((x + 1)).toNat).toInt (xs ((x + 2)).toNat).toInt sC (zxs xs _) (zxs xs _)) ⟨rfl, rfl, ⟨Nat.le_of_ble_eq_true rfl, Nat.le_of_ble_eq_true rfl⟩, by show u1 + 0 ≤ 600000; omega, by show u2 + 0 ≤ 7302250; omega⟩ (fun v245 h246 q247 => ?_)
  have s248 : okC h246 := q247.2.1
  have j249 : zJP h246 := zJP_f sC (fun a b z => zfC_a q247.2.2 (fun w => by unfold zpJ at z; unfold w_X10_goes at w; omega)) j0
  refine zk_pop C0 (zdk ttL_5 21 rfl rfl) ?_
  refine zk_aload2 C0 (zdk ttL_5 22 rfl rfl) ?_
  refine zk_aload0 C0 (zdk ttL_5 23 rfl rfl) ?_
  refine zk_iload3 C0 (zdk ttL_5 24 rfl rfl) ?_
  refine zk_iconst C0 (zdk ttL_5 25 rfl rfl) ?_
  refine zk_iadd C0 (zdk ttL_5 26 rfl rfl) ?_
  refine zk_sld C0 hL (i := (x + 1)) (by omega) (zdk ttL_5 27 rfl rfl) ?_
  refine zk_aload0 C0 (zdk ttL_5 28 rfl rfl) ?_
  refine zk_iload3 C0 (zdk ttL_5 29 rfl rfl) ?_
  refine zk_iconst C0 (zdk ttL_5 30 rfl rfl) ?_
  refine zk_iadd C0 (zdk ttL_5 31 rfl rfl) ?_
  refine zk_sld C0 hL (i := (x + 2)) (by omega) (zdk ttL_5 32 rfl rfl) ?_
  refine zk_callM C0 sM [(xs ((x + 1)).toNat).toInt, (xs ((x + 2)).toNat).toInt] (zdk ttL_5 33 rfl rfl) mb_X11_goes mv_RL_66 rfl rfl rfl (Nat.le_of_ble_eq_true rfl) (s_X11_goes l hM (xs ((x + 1)).toNat).toInt (xs ((x + 2)).toNat).toInt sM (zxs xs _) (zxs xs _)) ⟨rfl, rfl, ⟨Nat.le_of_ble_eq_true rfl, Nat.le_of_ble_eq_true rfl⟩, by show (u1 + 0) + 0 ≤ 600000; omega, by show (u2 + 0) + 0 ≤ 7302250; omega⟩ (fun v250 h251 q252 => ?_)
  have s253 : okM h251 := q252.2.1
  have r254 : zRK h246 h251 := rk_f r0 (fun a b z => zfC_a q247.2.2 (fun w => by unfold zpC at z; unfold w_X10_goes at w; omega)) (rkM q252.2.2 rfl)
  have t255 : zRT h246 h251 := zRT_f t0 (fun a b z => zfC_a q247.2.2 (fun w => by unfold zpT at z; unfold w_X10_goes at w; omega)) (rkT q252.2.2 rfl)
  refine zk_pop C0 (zdk ttL_5 34 rfl rfl) ?_
  refine zk_goto C0 (t := 1355) (zdk ttL_5 35 rfl rfl) (by decide) ?_
  exact zk_widen (by omega) (by omega) (kk h246 h251 s248 s253 r254 j249 t255)
set_option maxHeartbeats 4000000 in
theorem lc_12 (C0 : lw_At p s m meth c b L xs) (hL : L ≤ 3072) (sC : okC hC) (sM : okM hM) (r0 : zRK hC hM) (j0 : zJP hC) (t0 : zRT hC hM) (hx0 : 0 ≤ x ∧ x + 6 ≤ L) (hu1 : u1 ≤ 599999) (hu2 : u2 ≤ 7292250) (kk : ∀ hC hM, okC hC → okM hM → zRK hC hM → zJP hC → zRT hC hM → zK p l e s m below meth c b (u1 + 1) (u2 + 10000) 1355 x [] hC hM) : zK p l e s m below meth c b u1 u2 574 x [] hC hM := by
  refine zk_aload1 C0 (zdk ttL_5 36 rfl rfl) ?_
  refine zk_callC C0 sC [] (zdk ttL_5 37 rfl rfl) mb_X10_lonely mv_RL_67 rfl rfl rfl (Nat.le_of_ble_eq_true rfl) (s_X10_lonely l hC sC ) ⟨rfl, rfl, ⟨Nat.le_of_ble_eq_true rfl, Nat.le_of_ble_eq_true rfl⟩, by show u1 + 0 ≤ 600000; omega, by show u2 + 0 ≤ 7302250; omega⟩ (fun v256 h257 q258 => ?_)
  have s259 : okC h257 := q258.2.1
  have j260 : zJP h257 := zJP_f sC (fun a b z => zfC_a q258.2.2 (fun w => by unfold zpJ at z; unfold w_X10_lonely at w; omega)) j0
  refine zk_pop C0 (zdk ttL_5 38 rfl rfl) ?_
  refine zk_aload2 C0 (zdk ttL_5 39 rfl rfl) ?_
  refine zk_callM C0 sM [] (zdk ttL_5 40 rfl rfl) mb_X11_lonely mv_RL_71 rfl rfl rfl (Nat.le_of_ble_eq_true rfl) (s_X11_lonely l hM sM ) ⟨rfl, rfl, ⟨Nat.le_of_ble_eq_true rfl, Nat.le_of_ble_eq_true rfl⟩, by show (u1 + 0) + 0 ≤ 600000; omega, by show (u2 + 0) + 0 ≤ 7302250; omega⟩ (fun v261 h262 q263 => ?_)
  have s264 : okM h262 := q263.2.1
  have r265 : zRK h257 h262 := rk_f r0 (fun a b z => zfC_a q258.2.2 (fun w => by unfold zpC at z; unfold w_X10_lonely at w; omega)) (rkM q263.2.2 rfl)
  have t266 : zRT h257 h262 := zRT_f t0 (fun a b z => zfC_a q258.2.2 (fun w => by unfold zpT at z; unfold w_X10_lonely at w; omega)) (rkT q263.2.2 rfl)
  refine zk_pop C0 (zdk ttL_5 41 rfl rfl) ?_
  refine zk_goto C0 (t := 1355) (zdk ttL_5 42 rfl rfl) (by decide) ?_
  exact zk_widen (by omega) (by omega) (kk h257 h262 s259 s264 r265 j260 t266)
set_option maxHeartbeats 4000000 in
theorem lc_13 (C0 : lw_At p s m meth c b L xs) (hL : L ≤ 3072) (sC : okC hC) (sM : okM hM) (r0 : zRK hC hM) (j0 : zJP hC) (t0 : zRT hC hM) (hx0 : 0 ≤ x ∧ x + 6 ≤ L) (hu1 : u1 ≤ 599999) (hu2 : u2 ≤ 7292250) (kk : ∀ hC hM, okC hC → okM hM → zRK hC hM → zJP hC → zRT hC hM → zK p l e s m below meth c b (u1 + 1) (u2 + 10000) 1355 x [] hC hM) : zK p l e s m below meth c b u1 u2 587 x [] hC hM := by
  refine zk_aload1 C0 (zdk ttL_5 43 rfl rfl) ?_
  refine zk_aload0 C0 (zdk ttL_5 44 rfl rfl) ?_
  refine zk_iload3 C0 (zdk ttL_5 45 rfl rfl) ?_
  refine zk_iconst C0 (zdk ttL_5 46 rfl rfl) ?_
  refine zk_iadd C0 (zdk ttL_5 47 rfl rfl) ?_
  refine zk_sld C0 hL (i := (x + 1)) (by omega) (zdk ttL_5 48 rfl rfl) ?_
  refine zk_aload0 C0 (zdk ttL_5 49 rfl rfl) ?_
  refine zk_iload3 C0 (zdk ttL_5 50 rfl rfl) ?_
  refine zk_iconst C0 (zdk ttL_5 51 rfl rfl) ?_
  refine zk_iadd C0 (zdk ttL_5 52 rfl rfl) ?_
  refine zk_sld C0 hL (i := (x + 2)) (by omega) (zdk ttL_5 53 rfl rfl) ?_
  refine zk_callC C0 sC [(xs ((x + 1)).toNat).toInt, (xs ((x + 2)).toNat).toInt] (zdk ttL_5 54 rfl rfl) mb_X10_must mv_RL_72 rfl rfl rfl (Nat.le_of_ble_eq_true rfl) (s_X10_must l hC (xs ((x + 1)).toNat).toInt (xs ((x + 2)).toNat).toInt sC (zxs xs _) (zxs xs _)) ⟨rfl, rfl, ⟨Nat.le_of_ble_eq_true rfl, Nat.le_of_ble_eq_true rfl⟩, by show u1 + 1 ≤ 600000; omega, by show u2 + 10000 ≤ 7302250; omega⟩ (fun v267 h268 q269 => ?_)
  have s270 : okC h268 := q269.2.1
  have j271 : zJP h268 := zJP_f sC (fun a b z => zfC_a q269.2.2 (fun w => by unfold zpJ at z; unfold w_X10_must at w; omega)) j0
  refine zk_pop C0 (zdk ttL_5 55 rfl rfl) ?_
  refine zk_aload2 C0 (zdk ttL_5 56 rfl rfl) ?_
  refine zk_aload0 C0 (zdk ttL_5 57 rfl rfl) ?_
  refine zk_iload3 C0 (zdk ttL_5 58 rfl rfl) ?_
  refine zk_iconst C0 (zdk ttL_5 59 rfl rfl) ?_
  refine zk_iadd C0 (zdk ttL_6 0 rfl rfl) ?_
  refine zk_sld C0 hL (i := (x + 1)) (by omega) (zdk ttL_6 1 rfl rfl) ?_
  refine zk_aload0 C0 (zdk ttL_6 2 rfl rfl) ?_
  refine zk_iload3 C0 (zdk ttL_6 3 rfl rfl) ?_
  refine zk_iconst C0 (zdk ttL_6 4 rfl rfl) ?_
  refine zk_iadd C0 (zdk ttL_6 5 rfl rfl) ?_
  refine zk_sld C0 hL (i := (x + 2)) (by omega) (zdk ttL_6 6 rfl rfl) ?_
  refine zk_callM C0 sM [(xs ((x + 1)).toNat).toInt, (xs ((x + 2)).toNat).toInt] (zdk ttL_6 7 rfl rfl) mb_X11_must mv_RL_75 rfl rfl rfl (Nat.le_of_ble_eq_true rfl) (s_X11_must l hM (xs ((x + 1)).toNat).toInt (xs ((x + 2)).toNat).toInt sM (zxs xs _) (zxs xs _)) ⟨rfl, rfl, ⟨Nat.le_of_ble_eq_true rfl, Nat.le_of_ble_eq_true rfl⟩, by show (u1 + 1) + 0 ≤ 600000; omega, by show (u2 + 10000) + 0 ≤ 7302250; omega⟩ (fun v272 h273 q274 => ?_)
  have s275 : okM h273 := q274.2.1
  have r276 : zRK h268 h273 := rk_f r0 (fun a b z => zfC_a q269.2.2 (fun w => by unfold zpC at z; unfold w_X10_must at w; omega)) (rkM q274.2.2 rfl)
  have t277 : zRT h268 h273 := zRT_f t0 (fun a b z => zfC_a q269.2.2 (fun w => by unfold zpT at z; unfold w_X10_must at w; omega)) (rkT q274.2.2 rfl)
  refine zk_pop C0 (zdk ttL_6 8 rfl rfl) ?_
  refine zk_goto C0 (t := 1355) (zdk ttL_6 9 rfl rfl) (by decide) ?_
  exact zk_widen (by omega) (by omega) (kk h268 h273 s270 s275 r276 j271 t277)
set_option maxHeartbeats 4000000 in
theorem lc_14 (C0 : lw_At p s m meth c b L xs) (hL : L ≤ 3072) (sC : okC hC) (sM : okM hM) (r0 : zRK hC hM) (j0 : zJP hC) (t0 : zRT hC hM) (hx0 : 0 ≤ x ∧ x + 6 ≤ L) (hu1 : u1 ≤ 599999) (hu2 : u2 ≤ 7292250) (kk : ∀ hC hM, okC hC → okM hM → zRK hC hM → zJP hC → zRT hC hM → zK p l e s m below meth c b (u1 + 1) (u2 + 10000) 1355 x [] hC hM) : zK p l e s m below meth c b u1 u2 620 x [] hC hM := by
  refine zk_aload1 C0 (zdk ttL_6 10 rfl rfl) ?_
  refine zk_aload0 C0 (zdk ttL_6 11 rfl rfl) ?_
  refine zk_iload3 C0 (zdk ttL_6 12 rfl rfl) ?_
  refine zk_iconst C0 (zdk ttL_6 13 rfl rfl) ?_
  refine zk_iadd C0 (zdk ttL_6 14 rfl rfl) ?_
  refine zk_sld C0 hL (i := (x + 1)) (by omega) (zdk ttL_6 15 rfl rfl) ?_
  refine zk_aload0 C0 (zdk ttL_6 16 rfl rfl) ?_
  refine zk_iload3 C0 (zdk ttL_6 17 rfl rfl) ?_
  refine zk_iconst C0 (zdk ttL_6 18 rfl rfl) ?_
  refine zk_iadd C0 (zdk ttL_6 19 rfl rfl) ?_
  refine zk_sld C0 hL (i := (x + 2)) (by omega) (zdk ttL_6 20 rfl rfl) ?_
  refine zk_callC C0 sC [(xs ((x + 1)).toNat).toInt, (xs ((x + 2)).toNat).toInt] (zdk ttL_6 21 rfl rfl) mb_X10_strokes mv_RL_76 rfl rfl rfl (Nat.le_of_ble_eq_true rfl) (s_X10_strokes l hC (xs ((x + 1)).toNat).toInt (xs ((x + 2)).toNat).toInt sC (zxs xs _) (zxs xs _)) ⟨rfl, rfl, ⟨Nat.le_of_ble_eq_true rfl, Nat.le_of_ble_eq_true rfl⟩, by show u1 + 0 ≤ 600000; omega, by show u2 + 0 ≤ 7302250; omega⟩ (fun v278 h279 q280 => ?_)
  have s281 : okC h279 := q280.2.1
  have j282 : zJP h279 := zJP_f sC (fun a b z => zfC_a q280.2.2 (fun w => by unfold zpJ at z; unfold w_X10_strokes at w; omega)) j0
  refine zk_pop C0 (zdk ttL_6 22 rfl rfl) ?_
  refine zk_aload2 C0 (zdk ttL_6 23 rfl rfl) ?_
  refine zk_aload0 C0 (zdk ttL_6 24 rfl rfl) ?_
  refine zk_iload3 C0 (zdk ttL_6 25 rfl rfl) ?_
  refine zk_iconst C0 (zdk ttL_6 26 rfl rfl) ?_
  refine zk_iadd C0 (zdk ttL_6 27 rfl rfl) ?_
  refine zk_sld C0 hL (i := (x + 1)) (by omega) (zdk ttL_6 28 rfl rfl) ?_
  refine zk_aload0 C0 (zdk ttL_6 29 rfl rfl) ?_
  refine zk_iload3 C0 (zdk ttL_6 30 rfl rfl) ?_
  refine zk_iconst C0 (zdk ttL_6 31 rfl rfl) ?_
  refine zk_iadd C0 (zdk ttL_6 32 rfl rfl) ?_
  refine zk_sld C0 hL (i := (x + 2)) (by omega) (zdk ttL_6 33 rfl rfl) ?_
  refine zk_callM C0 sM [(xs ((x + 1)).toNat).toInt, (xs ((x + 2)).toNat).toInt] (zdk ttL_6 34 rfl rfl) mb_X11_strokes mv_RL_79 rfl rfl rfl (Nat.le_of_ble_eq_true rfl) (s_X11_strokes l hM (xs ((x + 1)).toNat).toInt (xs ((x + 2)).toNat).toInt sM (zxs xs _) (zxs xs _)) ⟨rfl, rfl, ⟨Nat.le_of_ble_eq_true rfl, Nat.le_of_ble_eq_true rfl⟩, by show (u1 + 0) + 0 ≤ 600000; omega, by show (u2 + 0) + 0 ≤ 7302250; omega⟩ (fun v283 h284 q285 => ?_)
  have s286 : okM h284 := q285.2.1
  have r287 : zRK h279 h284 := rk_f r0 (fun a b z => zfC_a q280.2.2 (fun w => by unfold zpC at z; unfold w_X10_strokes at w; omega)) (rkM q285.2.2 rfl)
  have t288 : zRT h279 h284 := zRT_f t0 (fun a b z => zfC_a q280.2.2 (fun w => by unfold zpT at z; unfold w_X10_strokes at w; omega)) (rkT q285.2.2 rfl)
  refine zk_pop C0 (zdk ttL_6 35 rfl rfl) ?_
  refine zk_goto C0 (t := 1355) (zdk ttL_6 36 rfl rfl) (by decide) ?_
  exact zk_widen (by omega) (by omega) (kk h279 h284 s281 s286 r287 j282 t288)
set_option maxHeartbeats 4000000 in
theorem lc_15 (C0 : lw_At p s m meth c b L xs) (hL : L ≤ 3072) (sC : okC hC) (sM : okM hM) (r0 : zRK hC hM) (j0 : zJP hC) (t0 : zRT hC hM) (hx0 : 0 ≤ x ∧ x + 6 ≤ L) (hu1 : u1 ≤ 599999) (hu2 : u2 ≤ 7292250) (kk : ∀ hC hM, okC hC → okM hM → zRK hC hM → zJP hC → zRT hC hM → zK p l e s m below meth c b (u1 + 1) (u2 + 10000) 1355 x [] hC hM) : zK p l e s m below meth c b u1 u2 653 x [] hC hM := by
  refine zk_aload1 C0 (zdk ttL_6 37 rfl rfl) ?_
  refine zk_aload0 C0 (zdk ttL_6 38 rfl rfl) ?_
  refine zk_iload3 C0 (zdk ttL_6 39 rfl rfl) ?_
  refine zk_iconst C0 (zdk ttL_6 40 rfl rfl) ?_
  refine zk_iadd C0 (zdk ttL_6 41 rfl rfl) ?_
  refine zk_sld C0 hL (i := (x + 1)) (by omega) (zdk ttL_6 42 rfl rfl) ?_
  refine zk_aload0 C0 (zdk ttL_6 43 rfl rfl) ?_
  refine zk_iload3 C0 (zdk ttL_6 44 rfl rfl) ?_
  refine zk_iconst C0 (zdk ttL_6 45 rfl rfl) ?_
  refine zk_iadd C0 (zdk ttL_6 46 rfl rfl) ?_
  refine zk_sld C0 hL (i := (x + 2)) (by omega) (zdk ttL_6 47 rfl rfl) ?_
  refine zk_callC C0 sC [(xs ((x + 1)).toNat).toInt, (xs ((x + 2)).toNat).toInt] (zdk ttL_6 48 rfl rfl) mb_X10_hands mv_RL_80 rfl rfl rfl (Nat.le_of_ble_eq_true rfl) (s_X10_hands l hC (xs ((x + 1)).toNat).toInt (xs ((x + 2)).toNat).toInt sC (zxs xs _) (zxs xs _)) ⟨rfl, rfl, ⟨Nat.le_of_ble_eq_true rfl, Nat.le_of_ble_eq_true rfl⟩, by show u1 + 0 ≤ 600000; omega, by show u2 + 0 ≤ 7302250; omega⟩ (fun v289 h290 q291 => ?_)
  have s292 : okC h290 := q291.2.1
  have j293 : zJP h290 := zJP_f sC (fun a b z => zfC_a q291.2.2 (fun w => by unfold zpJ at z; unfold w_X10_hands at w; omega)) j0
  refine zk_pop C0 (zdk ttL_6 49 rfl rfl) ?_
  refine zk_aload2 C0 (zdk ttL_6 50 rfl rfl) ?_
  refine zk_aload0 C0 (zdk ttL_6 51 rfl rfl) ?_
  refine zk_iload3 C0 (zdk ttL_6 52 rfl rfl) ?_
  refine zk_iconst C0 (zdk ttL_6 53 rfl rfl) ?_
  refine zk_iadd C0 (zdk ttL_6 54 rfl rfl) ?_
  refine zk_sld C0 hL (i := (x + 1)) (by omega) (zdk ttL_6 55 rfl rfl) ?_
  refine zk_aload0 C0 (zdk ttL_6 56 rfl rfl) ?_
  refine zk_iload3 C0 (zdk ttL_6 57 rfl rfl) ?_
  refine zk_iconst C0 (zdk ttL_6 58 rfl rfl) ?_
  refine zk_iadd C0 (zdk ttL_6 59 rfl rfl) ?_
  refine zk_sld C0 hL (i := (x + 2)) (by omega) (zdk ttL_7 0 rfl rfl) ?_
  refine zk_callM C0 sM [(xs ((x + 1)).toNat).toInt, (xs ((x + 2)).toNat).toInt] (zdk ttL_7 1 rfl rfl) mb_X11_hands mv_RL_83 rfl rfl rfl (Nat.le_of_ble_eq_true rfl) (s_X11_hands l hM (xs ((x + 1)).toNat).toInt (xs ((x + 2)).toNat).toInt sM (zxs xs _) (zxs xs _)) ⟨rfl, rfl, ⟨Nat.le_of_ble_eq_true rfl, Nat.le_of_ble_eq_true rfl⟩, by show (u1 + 0) + 0 ≤ 600000; omega, by show (u2 + 0) + 0 ≤ 7302250; omega⟩ (fun v294 h295 q296 => ?_)
  have s297 : okM h295 := q296.2.1
  have r298 : zRK h290 h295 := rk_f r0 (fun a b z => zfC_a q291.2.2 (fun w => by unfold zpC at z; unfold w_X10_hands at w; omega)) (rkM q296.2.2 rfl)
  have t299 : zRT h290 h295 := zRT_f t0 (fun a b z => zfC_a q291.2.2 (fun w => by unfold zpT at z; unfold w_X10_hands at w; omega)) (rkT q296.2.2 rfl)
  refine zk_pop C0 (zdk ttL_7 2 rfl rfl) ?_
  refine zk_goto C0 (t := 1355) (zdk ttL_7 3 rfl rfl) (by decide) ?_
  exact zk_widen (by omega) (by omega) (kk h290 h295 s292 s297 r298 j293 t299)
set_option maxHeartbeats 4000000 in
theorem lc_16 (C0 : lw_At p s m meth c b L xs) (hL : L ≤ 3072) (sC : okC hC) (sM : okM hM) (r0 : zRK hC hM) (j0 : zJP hC) (t0 : zRT hC hM) (hx0 : 0 ≤ x ∧ x + 6 ≤ L) (hu1 : u1 ≤ 599999) (hu2 : u2 ≤ 7292250) (kk : ∀ hC hM, okC hC → okM hM → zRK hC hM → zJP hC → zRT hC hM → zK p l e s m below meth c b (u1 + 1) (u2 + 10000) 1355 x [] hC hM) : zK p l e s m below meth c b u1 u2 686 x [] hC hM := by
  refine zk_aload1 C0 (zdk ttL_7 4 rfl rfl) ?_
  refine zk_aload0 C0 (zdk ttL_7 5 rfl rfl) ?_
  refine zk_iload3 C0 (zdk ttL_7 6 rfl rfl) ?_
  refine zk_iconst C0 (zdk ttL_7 7 rfl rfl) ?_
  refine zk_iadd C0 (zdk ttL_7 8 rfl rfl) ?_
  refine zk_sld C0 hL (i := (x + 1)) (by omega) (zdk ttL_7 9 rfl rfl) ?_
  refine zk_aload0 C0 (zdk ttL_7 10 rfl rfl) ?_
  refine zk_iload3 C0 (zdk ttL_7 11 rfl rfl) ?_
  refine zk_iconst C0 (zdk ttL_7 12 rfl rfl) ?_
  refine zk_iadd C0 (zdk ttL_7 13 rfl rfl) ?_
  refine zk_sld C0 hL (i := (x + 2)) (by omega) (zdk ttL_7 14 rfl rfl) ?_
  refine zk_if_eq C0 (t := 704) (zdk ttL_7 15 rfl rfl) (by decide) (zxs xs _) (fun c300 => ?_) (fun c300 => ?_)
  · refine zk_iconst C0 (zdk ttL_7 18 rfl rfl) ?_
    refine zk_callC C0 sC [(xs ((x + 1)).toNat).toInt, 0] (zdk ttL_7 19 rfl rfl) mb_X10_wheel mv_RL_84 rfl rfl rfl (Nat.le_of_ble_eq_true rfl) (s_X10_wheel l hC (xs ((x + 1)).toNat).toInt 0 sC (zxs xs _) (by decide)) ⟨rfl, rfl, ⟨Nat.le_of_ble_eq_true rfl, Nat.le_of_ble_eq_true rfl⟩, by show u1 + 0 ≤ 600000; omega, by show u2 + 0 ≤ 7302250; omega⟩ (fun v301 h302 q303 => ?_)
    have s304 : okC h302 := q303.2.1
    have j305 : zJP h302 := zJP_f sC (fun a b z => zfC_a q303.2.2.1 (fun w => by unfold zpJ at z; unfold w_X10_wheel at w; omega)) j0
    refine zk_pop C0 (zdk ttL_7 20 rfl rfl) ?_
    refine zk_aload2 C0 (zdk ttL_7 21 rfl rfl) ?_
    refine zk_aload0 C0 (zdk ttL_7 22 rfl rfl) ?_
    refine zk_iload3 C0 (zdk ttL_7 23 rfl rfl) ?_
    refine zk_iconst C0 (zdk ttL_7 24 rfl rfl) ?_
    refine zk_iadd C0 (zdk ttL_7 25 rfl rfl) ?_
    refine zk_sld C0 hL (i := (x + 1)) (by omega) (zdk ttL_7 26 rfl rfl) ?_
    refine zk_aload0 C0 (zdk ttL_7 27 rfl rfl) ?_
    refine zk_iload3 C0 (zdk ttL_7 28 rfl rfl) ?_
    refine zk_iconst C0 (zdk ttL_7 29 rfl rfl) ?_
    refine zk_iadd C0 (zdk ttL_7 30 rfl rfl) ?_
    refine zk_sld C0 hL (i := (x + 2)) (by omega) (zdk ttL_7 31 rfl rfl) ?_
    refine zk_if_eq C0 (t := 727) (zdk ttL_7 32 rfl rfl) (by decide) (zxs xs _) (fun c306 => ?_) (fun c306 => ?_)
    · refine zk_iconst C0 (zdk ttL_7 35 rfl rfl) ?_
      refine zk_callM C0 sM [(xs ((x + 1)).toNat).toInt, 0] (zdk ttL_7 36 rfl rfl) mb_X11_wheel mv_RL_88 rfl rfl rfl (Nat.le_of_ble_eq_true rfl) (s2_X11_wheel l hM (xs ((x + 1)).toNat).toInt 0 sM (zxs xs _) (by decide)) ⟨rfl, rfl, ⟨Nat.le_of_ble_eq_true rfl, Nat.le_of_ble_eq_true rfl⟩, by show (u1 + 0) + 0 ≤ 600000; omega, by show (u2 + 0) + 0 ≤ 7302250; omega⟩ (fun v307 h308 q309 => ?_)
      have s310 : okM h308 := q309.2.1
      have e312 : h302.2 28 4 = hC.2 28 4 := zfC_a q303.2.2.1 (fun w => by unfold w_X10_wheel at w; first | (revert w; decide) | omega)
      have e313 : h302.2 28 6 = hC.2 28 6 := zfC_a q303.2.2.1 (fun w => by unfold w_X10_wheel at w; first | (revert w; decide) | omega)
      have e314 : h302.2 28 9 = hC.2 28 9 := zfC_a q303.2.2.1 (fun w => by unfold w_X10_wheel at w; first | (revert w; decide) | omega)
      have e315 : h302.2 62 2 = hC.2 62 2 := zfC_a q303.2.2.1 (fun w => by unfold w_X10_wheel at w; first | (revert w; decide) | omega)
      have e316 : h302.2 62 4 = hC.2 62 4 := zfC_a q303.2.2.1 (fun w => by unfold w_X10_wheel at w; first | (revert w; decide) | omega)
      have e317 : h302.2 62 6 = hC.2 62 6 := zfC_a q303.2.2.1 (fun w => by unfold w_X10_wheel at w; first | (revert w; decide) | omega)
      have e318 : h302.2 62 9 = hC.2 62 9 := zfC_a q303.2.2.1 (fun w => by unfold w_X10_wheel at w; first | (revert w; decide) | omega)
      have e319 : h302.2 0 9 = hC.2 0 9 := zfC_a q303.2.2.1 (fun w => by unfold w_X10_wheel at w; first | (revert w; decide) | omega)
      have e320 : h302.2 103 3 = hC.2 103 3 := zfC_a q303.2.2.1 (fun w => by unfold w_X10_wheel at w; first | (revert w; decide) | omega)
      have e321 : h302.2 2 3 = hC.2 2 3 := zfC_a q303.2.2.1 (fun w => by unfold w_X10_wheel at w; first | (revert w; decide) | omega)
      have e322 : h302.2 36 3 = hC.2 36 3 := zfC_a q303.2.2.1 (fun w => by unfold w_X10_wheel at w; first | (revert w; decide) | omega)
      have e323 : h308.2 0 45 = hM.2 0 45 := zfr_f q309.2.2.1 rfl rfl
      have e324 : h308.2 0 49 = hM.2 0 49 := zfr_f q309.2.2.1 rfl rfl
      have e325 : h308.2 0 53 = hM.2 0 53 := zfr_f q309.2.2.1 rfl rfl
      have e326 : h308.2 35 67 = hM.2 35 67 := zfr_a q309.2.2.1 rfl (by decide)
      have e327 : h308.2 35 68 = hM.2 35 68 := zfr_a q309.2.2.1 rfl (by decide)
      have e328 : h308.2 35 69 = hM.2 35 69 := zfr_a q309.2.2.1 rfl (by decide)
      have e329 : h308.2 35 70 = hM.2 35 70 := zfr_a q309.2.2.1 rfl (by decide)
      have e330 : h308.2 0 59 = hM.2 0 59 := zfr_f q309.2.2.1 rfl rfl
      have e331 : h308.2 0 11 = hM.2 0 11 := zfr_f q309.2.2.1 rfl rfl
      have e332 : h308.2 0 6 = hM.2 0 6 := zfr_f q309.2.2.1 rfl rfl
      have e333 : h308.2 35 63 = hM.2 35 63 := zfr_a q309.2.2.1 rfl (by decide)
      have p334 := q303.2.2.2
      have p335 := q309.2.2.2
      have zw9_335 := zcw_r p334 p335 r0.1
      have r311 : zRK h302 h308 := ⟨zw9_335.2, (e312.trans (r0.2.1.trans e323.symm)), (e313.trans (r0.2.2.1.trans e324.symm)), (e314.trans (r0.2.2.2.1.trans e325.symm)), (fun z => have z9 := r0.2.2.2.2.1 ((e330.symm).trans z); ⟨e315.trans (z9.1.trans e326.symm), e316.trans (z9.2.1.trans e327.symm), e317.trans (z9.2.2.1.trans e328.symm), e318.trans (z9.2.2.2.1.trans e329.symm), e322.trans (z9.2.2.2.2.trans e333.symm)⟩), (e319.trans (r0.2.2.2.2.2.1.trans e330.symm)), (e320.trans (r0.2.2.2.2.2.2.1.trans e331.symm)), (e321.trans (r0.2.2.2.2.2.2.2.trans e332.symm))⟩
      have t336 : zRT h302 h308 := zRT_f t0 (fun a b z => zfC_a q303.2.2.1 (fun w => by unfold zpT at z; unfold w_X10_wheel at w; omega)) (rkT q309.2.2.1 rfl)
      refine zk_pop C0 (zdk ttL_7 37 rfl rfl) ?_
      refine zk_goto C0 (t := 1355) (zdk ttL_7 38 rfl rfl) (by decide) ?_
      exact zk_widen (by omega) (by omega) (kk h302 h308 s304 s310 r311 j305 t336)
    · exact absurd c300 c306
  · refine zk_iconst C0 (zdk ttL_7 16 rfl rfl) ?_
    refine zk_goto C0 (t := 705) (zdk ttL_7 17 rfl rfl) (by decide) ?_
    refine zk_callC C0 sC [(xs ((x + 1)).toNat).toInt, 1] (zdk ttL_7 19 rfl rfl) mb_X10_wheel mv_RL_84 rfl rfl rfl (Nat.le_of_ble_eq_true rfl) (s_X10_wheel l hC (xs ((x + 1)).toNat).toInt 1 sC (zxs xs _) (by decide)) ⟨rfl, rfl, ⟨Nat.le_of_ble_eq_true rfl, Nat.le_of_ble_eq_true rfl⟩, by show u1 + 0 ≤ 600000; omega, by show u2 + 0 ≤ 7302250; omega⟩ (fun v337 h338 q339 => ?_)
    have s340 : okC h338 := q339.2.1
    have j341 : zJP h338 := zJP_f sC (fun a b z => zfC_a q339.2.2.1 (fun w => by unfold zpJ at z; unfold w_X10_wheel at w; omega)) j0
    refine zk_pop C0 (zdk ttL_7 20 rfl rfl) ?_
    refine zk_aload2 C0 (zdk ttL_7 21 rfl rfl) ?_
    refine zk_aload0 C0 (zdk ttL_7 22 rfl rfl) ?_
    refine zk_iload3 C0 (zdk ttL_7 23 rfl rfl) ?_
    refine zk_iconst C0 (zdk ttL_7 24 rfl rfl) ?_
    refine zk_iadd C0 (zdk ttL_7 25 rfl rfl) ?_
    refine zk_sld C0 hL (i := (x + 1)) (by omega) (zdk ttL_7 26 rfl rfl) ?_
    refine zk_aload0 C0 (zdk ttL_7 27 rfl rfl) ?_
    refine zk_iload3 C0 (zdk ttL_7 28 rfl rfl) ?_
    refine zk_iconst C0 (zdk ttL_7 29 rfl rfl) ?_
    refine zk_iadd C0 (zdk ttL_7 30 rfl rfl) ?_
    refine zk_sld C0 hL (i := (x + 2)) (by omega) (zdk ttL_7 31 rfl rfl) ?_
    refine zk_if_eq C0 (t := 727) (zdk ttL_7 32 rfl rfl) (by decide) (zxs xs _) (fun c342 => ?_) (fun c342 => ?_)
    · exact absurd c342 c300
    · refine zk_iconst C0 (zdk ttL_7 33 rfl rfl) ?_
      refine zk_goto C0 (t := 728) (zdk ttL_7 34 rfl rfl) (by decide) ?_
      refine zk_callM C0 sM [(xs ((x + 1)).toNat).toInt, 1] (zdk ttL_7 36 rfl rfl) mb_X11_wheel mv_RL_88 rfl rfl rfl (Nat.le_of_ble_eq_true rfl) (s2_X11_wheel l hM (xs ((x + 1)).toNat).toInt 1 sM (zxs xs _) (by decide)) ⟨rfl, rfl, ⟨Nat.le_of_ble_eq_true rfl, Nat.le_of_ble_eq_true rfl⟩, by show (u1 + 0) + 0 ≤ 600000; omega, by show (u2 + 0) + 0 ≤ 7302250; omega⟩ (fun v343 h344 q345 => ?_)
      have s346 : okM h344 := q345.2.1
      have e348 : h338.2 28 4 = hC.2 28 4 := zfC_a q339.2.2.1 (fun w => by unfold w_X10_wheel at w; first | (revert w; decide) | omega)
      have e349 : h338.2 28 6 = hC.2 28 6 := zfC_a q339.2.2.1 (fun w => by unfold w_X10_wheel at w; first | (revert w; decide) | omega)
      have e350 : h338.2 28 9 = hC.2 28 9 := zfC_a q339.2.2.1 (fun w => by unfold w_X10_wheel at w; first | (revert w; decide) | omega)
      have e351 : h338.2 62 2 = hC.2 62 2 := zfC_a q339.2.2.1 (fun w => by unfold w_X10_wheel at w; first | (revert w; decide) | omega)
      have e352 : h338.2 62 4 = hC.2 62 4 := zfC_a q339.2.2.1 (fun w => by unfold w_X10_wheel at w; first | (revert w; decide) | omega)
      have e353 : h338.2 62 6 = hC.2 62 6 := zfC_a q339.2.2.1 (fun w => by unfold w_X10_wheel at w; first | (revert w; decide) | omega)
      have e354 : h338.2 62 9 = hC.2 62 9 := zfC_a q339.2.2.1 (fun w => by unfold w_X10_wheel at w; first | (revert w; decide) | omega)
      have e355 : h338.2 0 9 = hC.2 0 9 := zfC_a q339.2.2.1 (fun w => by unfold w_X10_wheel at w; first | (revert w; decide) | omega)
      have e356 : h338.2 103 3 = hC.2 103 3 := zfC_a q339.2.2.1 (fun w => by unfold w_X10_wheel at w; first | (revert w; decide) | omega)
      have e357 : h338.2 2 3 = hC.2 2 3 := zfC_a q339.2.2.1 (fun w => by unfold w_X10_wheel at w; first | (revert w; decide) | omega)
      have e358 : h338.2 36 3 = hC.2 36 3 := zfC_a q339.2.2.1 (fun w => by unfold w_X10_wheel at w; first | (revert w; decide) | omega)
      have e359 : h344.2 0 45 = hM.2 0 45 := zfr_f q345.2.2.1 rfl rfl
      have e360 : h344.2 0 49 = hM.2 0 49 := zfr_f q345.2.2.1 rfl rfl
      have e361 : h344.2 0 53 = hM.2 0 53 := zfr_f q345.2.2.1 rfl rfl
      have e362 : h344.2 35 67 = hM.2 35 67 := zfr_a q345.2.2.1 rfl (by decide)
      have e363 : h344.2 35 68 = hM.2 35 68 := zfr_a q345.2.2.1 rfl (by decide)
      have e364 : h344.2 35 69 = hM.2 35 69 := zfr_a q345.2.2.1 rfl (by decide)
      have e365 : h344.2 35 70 = hM.2 35 70 := zfr_a q345.2.2.1 rfl (by decide)
      have e366 : h344.2 0 59 = hM.2 0 59 := zfr_f q345.2.2.1 rfl rfl
      have e367 : h344.2 0 11 = hM.2 0 11 := zfr_f q345.2.2.1 rfl rfl
      have e368 : h344.2 0 6 = hM.2 0 6 := zfr_f q345.2.2.1 rfl rfl
      have e369 : h344.2 35 63 = hM.2 35 63 := zfr_a q345.2.2.1 rfl (by decide)
      have p370 := q339.2.2.2
      have p371 := q345.2.2.2
      have zw9_371 := zcw_r p370 p371 r0.1
      have r347 : zRK h338 h344 := ⟨zw9_371.2, (e348.trans (r0.2.1.trans e359.symm)), (e349.trans (r0.2.2.1.trans e360.symm)), (e350.trans (r0.2.2.2.1.trans e361.symm)), (fun z => have z9 := r0.2.2.2.2.1 ((e366.symm).trans z); ⟨e351.trans (z9.1.trans e362.symm), e352.trans (z9.2.1.trans e363.symm), e353.trans (z9.2.2.1.trans e364.symm), e354.trans (z9.2.2.2.1.trans e365.symm), e358.trans (z9.2.2.2.2.trans e369.symm)⟩), (e355.trans (r0.2.2.2.2.2.1.trans e366.symm)), (e356.trans (r0.2.2.2.2.2.2.1.trans e367.symm)), (e357.trans (r0.2.2.2.2.2.2.2.trans e368.symm))⟩
      have t372 : zRT h338 h344 := zRT_f t0 (fun a b z => zfC_a q339.2.2.1 (fun w => by unfold zpT at z; unfold w_X10_wheel at w; omega)) (rkT q345.2.2.1 rfl)
      refine zk_pop C0 (zdk ttL_7 37 rfl rfl) ?_
      refine zk_goto C0 (t := 1355) (zdk ttL_7 38 rfl rfl) (by decide) ?_
      exact zk_widen (by omega) (by omega) (kk h338 h344 s340 s346 r347 j341 t372)
set_option maxHeartbeats 4000000 in
theorem lc_17 (C0 : lw_At p s m meth c b L xs) (hL : L ≤ 3072) (sC : okC hC) (sM : okM hM) (r0 : zRK hC hM) (j0 : zJP hC) (t0 : zRT hC hM) (hx0 : 0 ≤ x ∧ x + 6 ≤ L) (hu1 : u1 ≤ 599999) (hu2 : u2 ≤ 7292250) (kk : ∀ hC hM, okC hC → okM hM → zRK hC hM → zJP hC → zRT hC hM → zK p l e s m below meth c b (u1 + 1) (u2 + 10000) 1355 x [] hC hM) : zK p l e s m below meth c b u1 u2 735 x [] hC hM := by
  refine zk_aload1 C0 (zdk ttL_7 39 rfl rfl) ?_
  refine zk_aload0 C0 (zdk ttL_7 40 rfl rfl) ?_
  refine zk_iload3 C0 (zdk ttL_7 41 rfl rfl) ?_
  refine zk_iconst C0 (zdk ttL_7 42 rfl rfl) ?_
  refine zk_iadd C0 (zdk ttL_7 43 rfl rfl) ?_
  refine zk_sld C0 hL (i := (x + 1)) (by omega) (zdk ttL_7 44 rfl rfl) ?_
  refine zk_callC C0 sC [(xs ((x + 1)).toNat).toInt] (zdk ttL_7 45 rfl rfl) mb_X10_wheels mv_RL_89 rfl rfl rfl (Nat.le_of_ble_eq_true rfl) (s_X10_wheels l hC (xs ((x + 1)).toNat).toInt sC (zxs xs _)) ⟨rfl, rfl, ⟨Nat.le_of_ble_eq_true rfl, Nat.le_of_ble_eq_true rfl⟩, by show u1 + 0 ≤ 600000; omega, by show u2 + 0 ≤ 7302250; omega⟩ (fun v373 h374 q375 => ?_)
  have s376 : okC h374 := q375.2.1
  have j377 : zJP h374 := zJP_f sC (fun a b z => zfC_a q375.2.2 (fun w => by unfold zpJ at z; unfold w_X10_wheels at w; omega)) j0
  refine zk_pop C0 (zdk ttL_7 46 rfl rfl) ?_
  refine zk_aload2 C0 (zdk ttL_7 47 rfl rfl) ?_
  refine zk_aload0 C0 (zdk ttL_7 48 rfl rfl) ?_
  refine zk_iload3 C0 (zdk ttL_7 49 rfl rfl) ?_
  refine zk_iconst C0 (zdk ttL_7 50 rfl rfl) ?_
  refine zk_iadd C0 (zdk ttL_7 51 rfl rfl) ?_
  refine zk_sld C0 hL (i := (x + 1)) (by omega) (zdk ttL_7 52 rfl rfl) ?_
  refine zk_callM C0 sM [(xs ((x + 1)).toNat).toInt] (zdk ttL_7 53 rfl rfl) mb_X11_wheels mv_RL_92 rfl rfl rfl (Nat.le_of_ble_eq_true rfl) (s_X11_wheels l hM (xs ((x + 1)).toNat).toInt sM (zxs xs _)) ⟨rfl, rfl, ⟨Nat.le_of_ble_eq_true rfl, Nat.le_of_ble_eq_true rfl⟩, by show (u1 + 0) + 0 ≤ 600000; omega, by show (u2 + 0) + 0 ≤ 7302250; omega⟩ (fun v378 h379 q380 => ?_)
  have s381 : okM h379 := q380.2.1
  have r382 : zRK h374 h379 := rk_f r0 (fun a b z => zfC_a q375.2.2 (fun w => by unfold zpC at z; unfold w_X10_wheels at w; omega)) (rkM q380.2.2 rfl)
  have t383 : zRT h374 h379 := zRT_f t0 (fun a b z => zfC_a q375.2.2 (fun w => by unfold zpT at z; unfold w_X10_wheels at w; omega)) (rkT q380.2.2 rfl)
  refine zk_pop C0 (zdk ttL_7 54 rfl rfl) ?_
  refine zk_goto C0 (t := 1355) (zdk ttL_7 55 rfl rfl) (by decide) ?_
  exact zk_widen (by omega) (by omega) (kk h374 h379 s376 s381 r382 j377 t383)
set_option maxHeartbeats 4000000 in
theorem lc_18 (C0 : lw_At p s m meth c b L xs) (hL : L ≤ 3072) (sC : okC hC) (sM : okM hM) (r0 : zRK hC hM) (j0 : zJP hC) (t0 : zRT hC hM) (hx0 : 0 ≤ x ∧ x + 6 ≤ L) (hu1 : u1 ≤ 599999) (hu2 : u2 ≤ 7292250) (kk : ∀ hC hM, okC hC → okM hM → zRK hC hM → zJP hC → zRT hC hM → zK p l e s m below meth c b (u1 + 1) (u2 + 10000) 1355 x [] hC hM) : zK p l e s m below meth c b u1 u2 758 x [] hC hM := by
  refine zk_aload1 C0 (zdk ttL_7 56 rfl rfl) ?_
  refine zk_aload0 C0 (zdk ttL_7 57 rfl rfl) ?_
  refine zk_iload3 C0 (zdk ttL_7 58 rfl rfl) ?_
  refine zk_iconst C0 (zdk ttL_7 59 rfl rfl) ?_
  refine zk_iadd C0 (zdk ttL_8 0 rfl rfl) ?_
  refine zk_sld C0 hL (i := (x + 1)) (by omega) (zdk ttL_8 1 rfl rfl) ?_
  refine zk_aload0 C0 (zdk ttL_8 2 rfl rfl) ?_
  refine zk_iload3 C0 (zdk ttL_8 3 rfl rfl) ?_
  refine zk_iconst C0 (zdk ttL_8 4 rfl rfl) ?_
  refine zk_iadd C0 (zdk ttL_8 5 rfl rfl) ?_
  refine zk_sld C0 hL (i := (x + 2)) (by omega) (zdk ttL_8 6 rfl rfl) ?_
  refine zk_callC C0 sC [(xs ((x + 1)).toNat).toInt, (xs ((x + 2)).toNat).toInt] (zdk ttL_8 7 rfl rfl) mb_X10_couple mv_RL_93 rfl rfl rfl (Nat.le_of_ble_eq_true rfl) (s_X10_couple l hC (xs ((x + 1)).toNat).toInt (xs ((x + 2)).toNat).toInt sC (zxs xs _) (zxs xs _)) ⟨rfl, rfl, ⟨Nat.le_of_ble_eq_true rfl, Nat.le_of_ble_eq_true rfl⟩, by show u1 + 0 ≤ 600000; omega, by show u2 + 0 ≤ 7302250; omega⟩ (fun v384 h385 q386 => ?_)
  have s387 : okC h385 := q386.2.1
  have j388 : zJP h385 := zJP_f sC (fun a b z => zfC_a q386.2.2.1 (fun w => by unfold zpJ at z; unfold w_X10_couple at w; omega)) j0
  refine zk_pop C0 (zdk ttL_8 8 rfl rfl) ?_
  refine zk_aload2 C0 (zdk ttL_8 9 rfl rfl) ?_
  refine zk_aload0 C0 (zdk ttL_8 10 rfl rfl) ?_
  refine zk_iload3 C0 (zdk ttL_8 11 rfl rfl) ?_
  refine zk_iconst C0 (zdk ttL_8 12 rfl rfl) ?_
  refine zk_iadd C0 (zdk ttL_8 13 rfl rfl) ?_
  refine zk_sld C0 hL (i := (x + 1)) (by omega) (zdk ttL_8 14 rfl rfl) ?_
  refine zk_aload0 C0 (zdk ttL_8 15 rfl rfl) ?_
  refine zk_iload3 C0 (zdk ttL_8 16 rfl rfl) ?_
  refine zk_iconst C0 (zdk ttL_8 17 rfl rfl) ?_
  refine zk_iadd C0 (zdk ttL_8 18 rfl rfl) ?_
  refine zk_sld C0 hL (i := (x + 2)) (by omega) (zdk ttL_8 19 rfl rfl) ?_
  refine zk_callM C0 sM [(xs ((x + 1)).toNat).toInt, (xs ((x + 2)).toNat).toInt] (zdk ttL_8 20 rfl rfl) mb_X11_couple mv_RL_96 rfl rfl rfl (Nat.le_of_ble_eq_true rfl) (s2_X11_couple l hM (xs ((x + 1)).toNat).toInt (xs ((x + 2)).toNat).toInt sM (zxs xs _) (zxs xs _)) ⟨rfl, rfl, ⟨Nat.le_of_ble_eq_true rfl, Nat.le_of_ble_eq_true rfl⟩, by show (u1 + 0) + 0 ≤ 600000; omega, by show (u2 + 0) + 0 ≤ 7302250; omega⟩ (fun v389 h390 q391 => ?_)
  have s392 : okM h390 := q391.2.1
  have e394 : h385.2 28 2 = hC.2 28 2 := zfC_a q386.2.2.1 (fun w => by unfold w_X10_couple at w; first | (revert w; decide) | omega)
  have e395 : h385.2 28 6 = hC.2 28 6 := zfC_a q386.2.2.1 (fun w => by unfold w_X10_couple at w; first | (revert w; decide) | omega)
  have e396 : h385.2 28 9 = hC.2 28 9 := zfC_a q386.2.2.1 (fun w => by unfold w_X10_couple at w; first | (revert w; decide) | omega)
  have e397 : h385.2 62 2 = hC.2 62 2 := zfC_a q386.2.2.1 (fun w => by unfold w_X10_couple at w; first | (revert w; decide) | omega)
  have e398 : h385.2 62 4 = hC.2 62 4 := zfC_a q386.2.2.1 (fun w => by unfold w_X10_couple at w; first | (revert w; decide) | omega)
  have e399 : h385.2 62 6 = hC.2 62 6 := zfC_a q386.2.2.1 (fun w => by unfold w_X10_couple at w; first | (revert w; decide) | omega)
  have e400 : h385.2 62 9 = hC.2 62 9 := zfC_a q386.2.2.1 (fun w => by unfold w_X10_couple at w; first | (revert w; decide) | omega)
  have e401 : h385.2 0 9 = hC.2 0 9 := zfC_a q386.2.2.1 (fun w => by unfold w_X10_couple at w; first | (revert w; decide) | omega)
  have e402 : h385.2 103 3 = hC.2 103 3 := zfC_a q386.2.2.1 (fun w => by unfold w_X10_couple at w; first | (revert w; decide) | omega)
  have e403 : h385.2 2 3 = hC.2 2 3 := zfC_a q386.2.2.1 (fun w => by unfold w_X10_couple at w; first | (revert w; decide) | omega)
  have e404 : h385.2 36 3 = hC.2 36 3 := zfC_a q386.2.2.1 (fun w => by unfold w_X10_couple at w; first | (revert w; decide) | omega)
  have e405 : h390.2 0 42 = hM.2 0 42 := zfr_f q391.2.2.1 rfl rfl
  have e406 : h390.2 0 49 = hM.2 0 49 := zfr_f q391.2.2.1 rfl rfl
  have e407 : h390.2 0 53 = hM.2 0 53 := zfr_f q391.2.2.1 rfl rfl
  have e408 : h390.2 35 67 = hM.2 35 67 := zfr_a q391.2.2.1 rfl (by decide)
  have e409 : h390.2 35 68 = hM.2 35 68 := zfr_a q391.2.2.1 rfl (by decide)
  have e410 : h390.2 35 69 = hM.2 35 69 := zfr_a q391.2.2.1 rfl (by decide)
  have e411 : h390.2 35 70 = hM.2 35 70 := zfr_a q391.2.2.1 rfl (by decide)
  have e412 : h390.2 0 59 = hM.2 0 59 := zfr_f q391.2.2.1 rfl rfl
  have e413 : h390.2 0 11 = hM.2 0 11 := zfr_f q391.2.2.1 rfl rfl
  have e414 : h390.2 0 6 = hM.2 0 6 := zfr_f q391.2.2.1 rfl rfl
  have e415 : h390.2 35 63 = hM.2 35 63 := zfr_a q391.2.2.1 rfl (by decide)
  have p416 := q386.2.2.2
  have p417b := fb_5_0_4 sC zPu_28
  have p417r := r0
  unfold zRK at p417r
  have p417 := q391.2.2.2 (by omega) (by omega)
  have zw9_417 := zcw_r p416 p417 r0.2.1
  have r393 : zRK h385 h390 := ⟨(e394.trans (r0.1.trans e405.symm)), zw9_417.2, (e395.trans (r0.2.2.1.trans e406.symm)), (e396.trans (r0.2.2.2.1.trans e407.symm)), (fun z => have z9 := r0.2.2.2.2.1 ((e412.symm).trans z); ⟨e397.trans (z9.1.trans e408.symm), e398.trans (z9.2.1.trans e409.symm), e399.trans (z9.2.2.1.trans e410.symm), e400.trans (z9.2.2.2.1.trans e411.symm), e404.trans (z9.2.2.2.2.trans e415.symm)⟩), (e401.trans (r0.2.2.2.2.2.1.trans e412.symm)), (e402.trans (r0.2.2.2.2.2.2.1.trans e413.symm)), (e403.trans (r0.2.2.2.2.2.2.2.trans e414.symm))⟩
  have t418 : zRT h385 h390 := zRT_f t0 (fun a b z => zfC_a q386.2.2.1 (fun w => by unfold zpT at z; unfold w_X10_couple at w; omega)) (rkT q391.2.2.1 rfl)
  refine zk_pop C0 (zdk ttL_8 21 rfl rfl) ?_
  refine zk_goto C0 (t := 1355) (zdk ttL_8 22 rfl rfl) (by decide) ?_
  exact zk_widen (by omega) (by omega) (kk h385 h390 s387 s392 r393 j388 t418)
set_option maxHeartbeats 4000000 in
theorem lc_19 (C0 : lw_At p s m meth c b L xs) (hL : L ≤ 3072) (sC : okC hC) (sM : okM hM) (r0 : zRK hC hM) (j0 : zJP hC) (t0 : zRT hC hM) (hx0 : 0 ≤ x ∧ x + 6 ≤ L) (hu1 : u1 ≤ 599999) (hu2 : u2 ≤ 7292250) (kk : ∀ hC hM, okC hC → okM hM → zRK hC hM → zJP hC → zRT hC hM → zK p l e s m below meth c b (u1 + 1) (u2 + 10000) 1355 x [] hC hM) : zK p l e s m below meth c b u1 u2 791 x [] hC hM := by
  refine zk_aload1 C0 (zdk ttL_8 23 rfl rfl) ?_
  refine zk_aload0 C0 (zdk ttL_8 24 rfl rfl) ?_
  refine zk_iload3 C0 (zdk ttL_8 25 rfl rfl) ?_
  refine zk_iconst C0 (zdk ttL_8 26 rfl rfl) ?_
  refine zk_iadd C0 (zdk ttL_8 27 rfl rfl) ?_
  refine zk_sld C0 hL (i := (x + 1)) (by omega) (zdk ttL_8 28 rfl rfl) ?_
  refine zk_aload0 C0 (zdk ttL_8 29 rfl rfl) ?_
  refine zk_iload3 C0 (zdk ttL_8 30 rfl rfl) ?_
  refine zk_iconst C0 (zdk ttL_8 31 rfl rfl) ?_
  refine zk_iadd C0 (zdk ttL_8 32 rfl rfl) ?_
  refine zk_sld C0 hL (i := (x + 2)) (by omega) (zdk ttL_8 33 rfl rfl) ?_
  refine zk_callC C0 sC [(xs ((x + 1)).toNat).toInt, (xs ((x + 2)).toNat).toInt] (zdk ttL_8 34 rfl rfl) mb_X10_ferry mv_RL_97 rfl rfl rfl (Nat.le_of_ble_eq_true rfl) (s_X10_ferry l hC (xs ((x + 1)).toNat).toInt (xs ((x + 2)).toNat).toInt sC (zxs xs _) (zxs xs _)) ⟨rfl, rfl, ⟨Nat.le_of_ble_eq_true rfl, Nat.le_of_ble_eq_true rfl⟩, by show u1 + 0 ≤ 600000; omega, by show u2 + 0 ≤ 7302250; omega⟩ (fun v419 h420 q421 => ?_)
  have s422 : okC h420 := q421.2.1
  have j423 : zJP h420 := zJP_f sC (fun a b z => zfC_a q421.2.2 (fun w => by unfold zpJ at z; unfold w_X10_ferry at w; omega)) j0
  refine zk_pop C0 (zdk ttL_8 35 rfl rfl) ?_
  refine zk_aload2 C0 (zdk ttL_8 36 rfl rfl) ?_
  refine zk_aload0 C0 (zdk ttL_8 37 rfl rfl) ?_
  refine zk_iload3 C0 (zdk ttL_8 38 rfl rfl) ?_
  refine zk_iconst C0 (zdk ttL_8 39 rfl rfl) ?_
  refine zk_iadd C0 (zdk ttL_8 40 rfl rfl) ?_
  refine zk_sld C0 hL (i := (x + 1)) (by omega) (zdk ttL_8 41 rfl rfl) ?_
  refine zk_aload0 C0 (zdk ttL_8 42 rfl rfl) ?_
  refine zk_iload3 C0 (zdk ttL_8 43 rfl rfl) ?_
  refine zk_iconst C0 (zdk ttL_8 44 rfl rfl) ?_
  refine zk_iadd C0 (zdk ttL_8 45 rfl rfl) ?_
  refine zk_sld C0 hL (i := (x + 2)) (by omega) (zdk ttL_8 46 rfl rfl) ?_
  refine zk_callM C0 sM [(xs ((x + 1)).toNat).toInt, (xs ((x + 2)).toNat).toInt] (zdk ttL_8 47 rfl rfl) mb_X11_ferry mv_RL_100 rfl rfl rfl (Nat.le_of_ble_eq_true rfl) (s_X11_ferry l hM (xs ((x + 1)).toNat).toInt (xs ((x + 2)).toNat).toInt sM (zxs xs _) (zxs xs _)) ⟨rfl, rfl, ⟨Nat.le_of_ble_eq_true rfl, Nat.le_of_ble_eq_true rfl⟩, by show (u1 + 0) + 0 ≤ 600000; omega, by show (u2 + 0) + 0 ≤ 7302250; omega⟩ (fun v424 h425 q426 => ?_)
  have s427 : okM h425 := q426.2.1
  have r428 : zRK h420 h425 := rk_f r0 (fun a b z => zfC_a q421.2.2 (fun w => by unfold zpC at z; unfold w_X10_ferry at w; omega)) (rkM q426.2.2 rfl)
  have t429 : zRT h420 h425 := zRT_f t0 (fun a b z => zfC_a q421.2.2 (fun w => by unfold zpT at z; unfold w_X10_ferry at w; omega)) (rkT q426.2.2 rfl)
  refine zk_pop C0 (zdk ttL_8 48 rfl rfl) ?_
  refine zk_goto C0 (t := 1355) (zdk ttL_8 49 rfl rfl) (by decide) ?_
  exact zk_widen (by omega) (by omega) (kk h420 h425 s422 s427 r428 j423 t429)
set_option maxHeartbeats 4000000 in
theorem lc_20 (C0 : lw_At p s m meth c b L xs) (hL : L ≤ 3072) (sC : okC hC) (sM : okM hM) (r0 : zRK hC hM) (j0 : zJP hC) (t0 : zRT hC hM) (hx0 : 0 ≤ x ∧ x + 6 ≤ L) (hu1 : u1 ≤ 599999) (hu2 : u2 ≤ 7292250) (kk : ∀ hC hM, okC hC → okM hM → zRK hC hM → zJP hC → zRT hC hM → zK p l e s m below meth c b (u1 + 1) (u2 + 10000) 1355 x [] hC hM) : zK p l e s m below meth c b u1 u2 824 x [] hC hM := by
  refine zk_aload1 C0 (zdk ttL_8 50 rfl rfl) ?_
  refine zk_aload0 C0 (zdk ttL_8 51 rfl rfl) ?_
  refine zk_iload3 C0 (zdk ttL_8 52 rfl rfl) ?_
  refine zk_iconst C0 (zdk ttL_8 53 rfl rfl) ?_
  refine zk_iadd C0 (zdk ttL_8 54 rfl rfl) ?_
  refine zk_sld C0 hL (i := (x + 1)) (by omega) (zdk ttL_8 55 rfl rfl) ?_
  refine zk_aload0 C0 (zdk ttL_8 56 rfl rfl) ?_
  refine zk_iload3 C0 (zdk ttL_8 57 rfl rfl) ?_
  refine zk_iconst C0 (zdk ttL_8 58 rfl rfl) ?_
  refine zk_iadd C0 (zdk ttL_8 59 rfl rfl) ?_
  refine zk_sld C0 hL (i := (x + 2)) (by omega) (zdk ttL_9 0 rfl rfl) ?_
  refine zk_aload0 C0 (zdk ttL_9 1 rfl rfl) ?_
  refine zk_iload3 C0 (zdk ttL_9 2 rfl rfl) ?_
  refine zk_iconst C0 (zdk ttL_9 3 rfl rfl) ?_
  refine zk_iadd C0 (zdk ttL_9 4 rfl rfl) ?_
  refine zk_sld C0 hL (i := (x + 3)) (by omega) (zdk ttL_9 5 rfl rfl) ?_
  refine zk_callC C0 sC [(xs ((x + 1)).toNat).toInt, (xs ((x + 2)).toNat).toInt, (xs ((x + 3)).toNat).toInt] (zdk ttL_9 6 rfl rfl) mb_X10_glasses mv_RL_101 rfl rfl rfl (Nat.le_of_ble_eq_true rfl) (s_X10_glasses l hC (xs ((x + 1)).toNat).toInt (xs ((x + 2)).toNat).toInt (xs ((x + 3)).toNat).toInt sC (zxs xs _) (zxs xs _) (zxs xs _)) ⟨rfl, rfl, ⟨Nat.le_of_ble_eq_true rfl, Nat.le_of_ble_eq_true rfl⟩, by show u1 + 0 ≤ 600000; omega, by show u2 + 0 ≤ 7302250; omega⟩ (fun v430 h431 q432 => ?_)
  have s433 : okC h431 := q432.2.1
  have j434 : zJP h431 := zJP_f sC (fun a b z => zfC_a q432.2.2 (fun w => by unfold zpJ at z; unfold w_X10_glasses at w; omega)) j0
  refine zk_pop C0 (zdk ttL_9 7 rfl rfl) ?_
  refine zk_aload2 C0 (zdk ttL_9 8 rfl rfl) ?_
  refine zk_aload0 C0 (zdk ttL_9 9 rfl rfl) ?_
  refine zk_iload3 C0 (zdk ttL_9 10 rfl rfl) ?_
  refine zk_iconst C0 (zdk ttL_9 11 rfl rfl) ?_
  refine zk_iadd C0 (zdk ttL_9 12 rfl rfl) ?_
  refine zk_sld C0 hL (i := (x + 1)) (by omega) (zdk ttL_9 13 rfl rfl) ?_
  refine zk_aload0 C0 (zdk ttL_9 14 rfl rfl) ?_
  refine zk_iload3 C0 (zdk ttL_9 15 rfl rfl) ?_
  refine zk_iconst C0 (zdk ttL_9 16 rfl rfl) ?_
  refine zk_iadd C0 (zdk ttL_9 17 rfl rfl) ?_
  refine zk_sld C0 hL (i := (x + 2)) (by omega) (zdk ttL_9 18 rfl rfl) ?_
  refine zk_aload0 C0 (zdk ttL_9 19 rfl rfl) ?_
  refine zk_iload3 C0 (zdk ttL_9 20 rfl rfl) ?_
  refine zk_iconst C0 (zdk ttL_9 21 rfl rfl) ?_
  refine zk_iadd C0 (zdk ttL_9 22 rfl rfl) ?_
  refine zk_sld C0 hL (i := (x + 3)) (by omega) (zdk ttL_9 23 rfl rfl) ?_
  refine zk_callM C0 sM [(xs ((x + 1)).toNat).toInt, (xs ((x + 2)).toNat).toInt, (xs ((x + 3)).toNat).toInt] (zdk ttL_9 24 rfl rfl) mb_X11_glasses mv_RL_105 rfl rfl rfl (Nat.le_of_ble_eq_true rfl) (s_X11_glasses l hM (xs ((x + 1)).toNat).toInt (xs ((x + 2)).toNat).toInt (xs ((x + 3)).toNat).toInt sM (zxs xs _) (zxs xs _) (zxs xs _)) ⟨rfl, rfl, ⟨Nat.le_of_ble_eq_true rfl, Nat.le_of_ble_eq_true rfl⟩, by show (u1 + 0) + 0 ≤ 600000; omega, by show (u2 + 0) + 0 ≤ 7302250; omega⟩ (fun v435 h436 q437 => ?_)
  have s438 : okM h436 := q437.2.1
  have r439 : zRK h431 h436 := rk_f r0 (fun a b z => zfC_a q432.2.2 (fun w => by unfold zpC at z; unfold w_X10_glasses at w; omega)) (rkM q437.2.2 rfl)
  have t440 : zRT h431 h436 := zRT_f t0 (fun a b z => zfC_a q432.2.2 (fun w => by unfold zpT at z; unfold w_X10_glasses at w; omega)) (rkT q437.2.2 rfl)
  refine zk_pop C0 (zdk ttL_9 25 rfl rfl) ?_
  refine zk_goto C0 (t := 1355) (zdk ttL_9 26 rfl rfl) (by decide) ?_
  exact zk_widen (by omega) (by omega) (kk h431 h436 s433 s438 r439 j434 t440)
set_option maxHeartbeats 4000000 in
theorem lc_21 (C0 : lw_At p s m meth c b L xs) (hL : L ≤ 3072) (sC : okC hC) (sM : okM hM) (r0 : zRK hC hM) (j0 : zJP hC) (t0 : zRT hC hM) (hx0 : 0 ≤ x ∧ x + 6 ≤ L) (hu1 : u1 ≤ 599999) (hu2 : u2 ≤ 7292250) (kk : ∀ hC hM, okC hC → okM hM → zRK hC hM → zJP hC → zRT hC hM → zK p l e s m below meth c b (u1 + 1) (u2 + 10000) 1355 x [] hC hM) : zK p l e s m below meth c b u1 u2 867 x [] hC hM := by
  refine zk_aload1 C0 (zdk ttL_9 27 rfl rfl) ?_
  refine zk_aload0 C0 (zdk ttL_9 28 rfl rfl) ?_
  refine zk_iload3 C0 (zdk ttL_9 29 rfl rfl) ?_
  refine zk_iconst C0 (zdk ttL_9 30 rfl rfl) ?_
  refine zk_iadd C0 (zdk ttL_9 31 rfl rfl) ?_
  refine zk_sld C0 hL (i := (x + 1)) (by omega) (zdk ttL_9 32 rfl rfl) ?_
  refine zk_callC C0 sC [(xs ((x + 1)).toNat).toInt] (zdk ttL_9 33 rfl rfl) mb_X10_seat mv_RL_106 rfl rfl rfl (Nat.le_of_ble_eq_true rfl) (s_X10_seat l hC (xs ((x + 1)).toNat).toInt sC (zxs xs _)) ⟨rfl, rfl, ⟨Nat.le_of_ble_eq_true rfl, Nat.le_of_ble_eq_true rfl⟩, by show u1 + 0 ≤ 600000; omega, by show u2 + 0 ≤ 7302250; omega⟩ (fun v441 h442 q443 => ?_)
  have s444 : okC h442 := q443.2.1
  have j445 : zJP h442 := zJP_f sC (fun a b z => zfC_a q443.2.2.1 (fun w => by unfold zpJ at z; unfold w_X10_seat at w; omega)) j0
  refine zk_pop C0 (zdk ttL_9 34 rfl rfl) ?_
  refine zk_aload2 C0 (zdk ttL_9 35 rfl rfl) ?_
  refine zk_aload0 C0 (zdk ttL_9 36 rfl rfl) ?_
  refine zk_iload3 C0 (zdk ttL_9 37 rfl rfl) ?_
  refine zk_iconst C0 (zdk ttL_9 38 rfl rfl) ?_
  refine zk_iadd C0 (zdk ttL_9 39 rfl rfl) ?_
  refine zk_sld C0 hL (i := (x + 1)) (by omega) (zdk ttL_9 40 rfl rfl) ?_
  refine zk_callM C0 sM [(xs ((x + 1)).toNat).toInt] (zdk ttL_9 41 rfl rfl) mb_X11_seat mv_RL_109 rfl rfl rfl (Nat.le_of_ble_eq_true rfl) (s2_X11_seat l hM (xs ((x + 1)).toNat).toInt sM (zxs xs _)) ⟨rfl, rfl, ⟨Nat.le_of_ble_eq_true rfl, Nat.le_of_ble_eq_true rfl⟩, by show (u1 + 0) + 0 ≤ 600000; omega, by show (u2 + 0) + 0 ≤ 7302250; omega⟩ (fun v446 h447 q448 => ?_)
  have s449 : okM h447 := q448.2.1
  have e451 : h442.2 28 2 = hC.2 28 2 := zfC_a q443.2.2.1 (fun w => by unfold w_X10_seat at w; first | (revert w; decide) | omega)
  have e452 : h442.2 28 4 = hC.2 28 4 := zfC_a q443.2.2.1 (fun w => by unfold w_X10_seat at w; first | (revert w; decide) | omega)
  have e453 : h442.2 28 9 = hC.2 28 9 := zfC_a q443.2.2.1 (fun w => by unfold w_X10_seat at w; first | (revert w; decide) | omega)
  have e454 : h442.2 62 2 = hC.2 62 2 := zfC_a q443.2.2.1 (fun w => by unfold w_X10_seat at w; first | (revert w; decide) | omega)
  have e455 : h442.2 62 4 = hC.2 62 4 := zfC_a q443.2.2.1 (fun w => by unfold w_X10_seat at w; first | (revert w; decide) | omega)
  have e456 : h442.2 62 6 = hC.2 62 6 := zfC_a q443.2.2.1 (fun w => by unfold w_X10_seat at w; first | (revert w; decide) | omega)
  have e457 : h442.2 62 9 = hC.2 62 9 := zfC_a q443.2.2.1 (fun w => by unfold w_X10_seat at w; first | (revert w; decide) | omega)
  have e458 : h442.2 0 9 = hC.2 0 9 := zfC_a q443.2.2.1 (fun w => by unfold w_X10_seat at w; first | (revert w; decide) | omega)
  have e459 : h442.2 103 3 = hC.2 103 3 := zfC_a q443.2.2.1 (fun w => by unfold w_X10_seat at w; first | (revert w; decide) | omega)
  have e460 : h442.2 2 3 = hC.2 2 3 := zfC_a q443.2.2.1 (fun w => by unfold w_X10_seat at w; first | (revert w; decide) | omega)
  have e461 : h442.2 36 3 = hC.2 36 3 := zfC_a q443.2.2.1 (fun w => by unfold w_X10_seat at w; first | (revert w; decide) | omega)
  have e462 : h447.2 0 42 = hM.2 0 42 := zfr_f q448.2.2.1 rfl rfl
  have e463 : h447.2 0 45 = hM.2 0 45 := zfr_f q448.2.2.1 rfl rfl
  have e464 : h447.2 0 53 = hM.2 0 53 := zfr_f q448.2.2.1 rfl rfl
  have e465 : h447.2 35 67 = hM.2 35 67 := zfr_a q448.2.2.1 rfl (by decide)
  have e466 : h447.2 35 68 = hM.2 35 68 := zfr_a q448.2.2.1 rfl (by decide)
  have e467 : h447.2 35 69 = hM.2 35 69 := zfr_a q448.2.2.1 rfl (by decide)
  have e468 : h447.2 35 70 = hM.2 35 70 := zfr_a q448.2.2.1 rfl (by decide)
  have e469 : h447.2 0 59 = hM.2 0 59 := zfr_f q448.2.2.1 rfl rfl
  have e470 : h447.2 0 11 = hM.2 0 11 := zfr_f q448.2.2.1 rfl rfl
  have e471 : h447.2 0 6 = hM.2 0 6 := zfr_f q448.2.2.1 rfl rfl
  have e472 : h447.2 35 63 = hM.2 35 63 := zfr_a q448.2.2.1 rfl (by decide)
  have p473 := q443.2.2.2
  have p474 := q448.2.2.2
  have zw9_474 := zcw_r p473 p474 r0.2.2.1
  have r450 : zRK h442 h447 := ⟨(e451.trans (r0.1.trans e462.symm)), (e452.trans (r0.2.1.trans e463.symm)), zw9_474.2, (e453.trans (r0.2.2.2.1.trans e464.symm)), (fun z => have z9 := r0.2.2.2.2.1 ((e469.symm).trans z); ⟨e454.trans (z9.1.trans e465.symm), e455.trans (z9.2.1.trans e466.symm), e456.trans (z9.2.2.1.trans e467.symm), e457.trans (z9.2.2.2.1.trans e468.symm), e461.trans (z9.2.2.2.2.trans e472.symm)⟩), (e458.trans (r0.2.2.2.2.2.1.trans e469.symm)), (e459.trans (r0.2.2.2.2.2.2.1.trans e470.symm)), (e460.trans (r0.2.2.2.2.2.2.2.trans e471.symm))⟩
  have t475 : zRT h442 h447 := zRT_f t0 (fun a b z => zfC_a q443.2.2.1 (fun w => by unfold zpT at z; unfold w_X10_seat at w; omega)) (rkT q448.2.2.1 rfl)
  refine zk_pop C0 (zdk ttL_9 42 rfl rfl) ?_
  refine zk_goto C0 (t := 1355) (zdk ttL_9 43 rfl rfl) (by decide) ?_
  exact zk_widen (by omega) (by omega) (kk h442 h447 s444 s449 r450 j445 t475)
set_option maxHeartbeats 4000000 in
theorem lc_22 (C0 : lw_At p s m meth c b L xs) (hL : L ≤ 3072) (sC : okC hC) (sM : okM hM) (r0 : zRK hC hM) (j0 : zJP hC) (t0 : zRT hC hM) (hx0 : 0 ≤ x ∧ x + 6 ≤ L) (hu1 : u1 ≤ 599999) (hu2 : u2 ≤ 7292250) (kk : ∀ hC hM, okC hC → okM hM → zRK hC hM → zJP hC → zRT hC hM → zK p l e s m below meth c b (u1 + 1) (u2 + 10000) 1355 x [] hC hM) : zK p l e s m below meth c b u1 u2 890 x [] hC hM := by
  refine zk_aload1 C0 (zdk ttL_9 44 rfl rfl) ?_
  refine zk_callC C0 sC [] (zdk ttL_9 45 rfl rfl) mb_X10_level mv_RL_110 rfl rfl rfl (Nat.le_of_ble_eq_true rfl) (s_X10_level l hC sC ) ⟨rfl, rfl, ⟨Nat.le_of_ble_eq_true rfl, Nat.le_of_ble_eq_true rfl⟩, by show u1 + 0 ≤ 600000; omega, by show u2 + 0 ≤ 7302250; omega⟩ (fun v476 h477 q478 => ?_)
  have s479 : okC h477 := q478.2.1
  have j480 : zJP h477 := zJP_f sC (fun a b z => zfC_a q478.2.2 (fun w => by unfold zpJ at z; unfold w_X10_level at w; omega)) j0
  refine zk_pop C0 (zdk ttL_9 46 rfl rfl) ?_
  refine zk_aload2 C0 (zdk ttL_9 47 rfl rfl) ?_
  refine zk_callM C0 sM [] (zdk ttL_9 48 rfl rfl) mb_X11_level mv_RL_113 rfl rfl rfl (Nat.le_of_ble_eq_true rfl) (s_X11_level l hM sM ) ⟨rfl, rfl, ⟨Nat.le_of_ble_eq_true rfl, Nat.le_of_ble_eq_true rfl⟩, by show (u1 + 0) + 0 ≤ 600000; omega, by show (u2 + 0) + 0 ≤ 7302250; omega⟩ (fun v481 h482 q483 => ?_)
  have s484 : okM h482 := q483.2.1
  have r485 : zRK h477 h482 := rk_f r0 (fun a b z => zfC_a q478.2.2 (fun w => by unfold zpC at z; unfold w_X10_level at w; omega)) (rkM q483.2.2 rfl)
  have t486 : zRT h477 h482 := zRT_f t0 (fun a b z => zfC_a q478.2.2 (fun w => by unfold zpT at z; unfold w_X10_level at w; omega)) (rkT q483.2.2 rfl)
  refine zk_pop C0 (zdk ttL_9 49 rfl rfl) ?_
  refine zk_goto C0 (t := 1355) (zdk ttL_9 50 rfl rfl) (by decide) ?_
  exact zk_widen (by omega) (by omega) (kk h477 h482 s479 s484 r485 j480 t486)
set_option maxHeartbeats 4000000 in
theorem lc_23 (C0 : lw_At p s m meth c b L xs) (hL : L ≤ 3072) (sC : okC hC) (sM : okM hM) (r0 : zRK hC hM) (j0 : zJP hC) (t0 : zRT hC hM) (hx0 : 0 ≤ x ∧ x + 6 ≤ L) (hu1 : u1 ≤ 599999) (hu2 : u2 ≤ 7292250) (kk : ∀ hC hM, okC hC → okM hM → zRK hC hM → zJP hC → zRT hC hM → zK p l e s m below meth c b (u1 + 1) (u2 + 10000) 1355 x [] hC hM) : zK p l e s m below meth c b u1 u2 903 x [] hC hM := by
  refine zk_aload1 C0 (zdk ttL_9 51 rfl rfl) ?_
  refine zk_aload0 C0 (zdk ttL_9 52 rfl rfl) ?_
  refine zk_iload3 C0 (zdk ttL_9 53 rfl rfl) ?_
  refine zk_iconst C0 (zdk ttL_9 54 rfl rfl) ?_
  refine zk_iadd C0 (zdk ttL_9 55 rfl rfl) ?_
  refine zk_sld C0 hL (i := (x + 1)) (by omega) (zdk ttL_9 56 rfl rfl) ?_
  refine zk_aload0 C0 (zdk ttL_9 57 rfl rfl) ?_
  refine zk_iload3 C0 (zdk ttL_9 58 rfl rfl) ?_
  refine zk_iconst C0 (zdk ttL_9 59 rfl rfl) ?_
  refine zk_iadd C0 (zdk ttL_10 0 rfl rfl) ?_
  refine zk_sld C0 hL (i := (x + 2)) (by omega) (zdk ttL_10 1 rfl rfl) ?_
  refine zk_aload0 C0 (zdk ttL_10 2 rfl rfl) ?_
  refine zk_iload3 C0 (zdk ttL_10 3 rfl rfl) ?_
  refine zk_iconst C0 (zdk ttL_10 4 rfl rfl) ?_
  refine zk_iadd C0 (zdk ttL_10 5 rfl rfl) ?_
  refine zk_sld C0 hL (i := (x + 3)) (by omega) (zdk ttL_10 6 rfl rfl) ?_
  refine zk_callC C0 sC [(xs ((x + 1)).toNat).toInt, (xs ((x + 2)).toNat).toInt, (xs ((x + 3)).toNat).toInt] (zdk ttL_10 7 rfl rfl) mb_X10_part mv_RL_114 rfl rfl rfl (Nat.le_of_ble_eq_true rfl) (s_X10_part l hC (xs ((x + 1)).toNat).toInt (xs ((x + 2)).toNat).toInt (xs ((x + 3)).toNat).toInt sC (zxs xs _) (zxs xs _) (zxs xs _)) ⟨rfl, rfl, ⟨Nat.le_of_ble_eq_true rfl, Nat.le_of_ble_eq_true rfl⟩, by show u1 + 0 ≤ 600000; omega, by show u2 + 0 ≤ 7302250; omega⟩ (fun v487 h488 q489 => ?_)
  have s490 : okC h488 := q489.2.1
  have j491 : zJP h488 := zJP_f sC (fun a b z => zfC_a q489.2.2 (fun w => by unfold zpJ at z; unfold w_X10_part at w; omega)) j0
  refine zk_pop C0 (zdk ttL_10 8 rfl rfl) ?_
  refine zk_aload2 C0 (zdk ttL_10 9 rfl rfl) ?_
  refine zk_aload0 C0 (zdk ttL_10 10 rfl rfl) ?_
  refine zk_iload3 C0 (zdk ttL_10 11 rfl rfl) ?_
  refine zk_iconst C0 (zdk ttL_10 12 rfl rfl) ?_
  refine zk_iadd C0 (zdk ttL_10 13 rfl rfl) ?_
  refine zk_sld C0 hL (i := (x + 1)) (by omega) (zdk ttL_10 14 rfl rfl) ?_
  refine zk_aload0 C0 (zdk ttL_10 15 rfl rfl) ?_
  refine zk_iload3 C0 (zdk ttL_10 16 rfl rfl) ?_
  refine zk_iconst C0 (zdk ttL_10 17 rfl rfl) ?_
  refine zk_iadd C0 (zdk ttL_10 18 rfl rfl) ?_
  refine zk_sld C0 hL (i := (x + 2)) (by omega) (zdk ttL_10 19 rfl rfl) ?_
  refine zk_aload0 C0 (zdk ttL_10 20 rfl rfl) ?_
  refine zk_iload3 C0 (zdk ttL_10 21 rfl rfl) ?_
  refine zk_iconst C0 (zdk ttL_10 22 rfl rfl) ?_
  refine zk_iadd C0 (zdk ttL_10 23 rfl rfl) ?_
  refine zk_sld C0 hL (i := (x + 3)) (by omega) (zdk ttL_10 24 rfl rfl) ?_
  refine zk_callM C0 sM [(xs ((x + 1)).toNat).toInt, (xs ((x + 2)).toNat).toInt, (xs ((x + 3)).toNat).toInt] (zdk ttL_10 25 rfl rfl) mb_X11_part mv_RL_117 rfl rfl rfl (Nat.le_of_ble_eq_true rfl) (s_X11_part l hM (xs ((x + 1)).toNat).toInt (xs ((x + 2)).toNat).toInt (xs ((x + 3)).toNat).toInt sM (zxs xs _) (zxs xs _) (zxs xs _)) ⟨rfl, rfl, ⟨Nat.le_of_ble_eq_true rfl, Nat.le_of_ble_eq_true rfl⟩, by show (u1 + 0) + 0 ≤ 600000; omega, by show (u2 + 0) + 0 ≤ 7302250; omega⟩ (fun v492 h493 q494 => ?_)
  have s495 : okM h493 := q494.2.1
  have r496 : zRK h488 h493 := rk_f r0 (fun a b z => zfC_a q489.2.2 (fun w => by unfold zpC at z; unfold w_X10_part at w; omega)) (rkM q494.2.2 rfl)
  have t497 : zRT h488 h493 := zRT_f t0 (fun a b z => zfC_a q489.2.2 (fun w => by unfold zpT at z; unfold w_X10_part at w; omega)) (rkT q494.2.2 rfl)
  refine zk_pop C0 (zdk ttL_10 26 rfl rfl) ?_
  refine zk_goto C0 (t := 1355) (zdk ttL_10 27 rfl rfl) (by decide) ?_
  exact zk_widen (by omega) (by omega) (kk h488 h493 s490 s495 r496 j491 t497)
set_option maxHeartbeats 4000000 in
theorem lc_24 (C0 : lw_At p s m meth c b L xs) (hL : L ≤ 3072) (sC : okC hC) (sM : okM hM) (r0 : zRK hC hM) (j0 : zJP hC) (t0 : zRT hC hM) (hx0 : 0 ≤ x ∧ x + 6 ≤ L) (hu1 : u1 ≤ 599999) (hu2 : u2 ≤ 7292250) (kk : ∀ hC hM, okC hC → okM hM → zRK hC hM → zJP hC → zRT hC hM → zK p l e s m below meth c b (u1 + 1) (u2 + 10000) 1355 x [] hC hM) : zK p l e s m below meth c b u1 u2 946 x [] hC hM := by
  refine zk_aload1 C0 (zdk ttL_10 28 rfl rfl) ?_
  refine zk_aload0 C0 (zdk ttL_10 29 rfl rfl) ?_
  refine zk_iload3 C0 (zdk ttL_10 30 rfl rfl) ?_
  refine zk_iconst C0 (zdk ttL_10 31 rfl rfl) ?_
  refine zk_iadd C0 (zdk ttL_10 32 rfl rfl) ?_
  refine zk_sld C0 hL (i := (x + 1)) (by omega) (zdk ttL_10 33 rfl rfl) ?_
  refine zk_aload0 C0 (zdk ttL_10 34 rfl rfl) ?_
  refine zk_iload3 C0 (zdk ttL_10 35 rfl rfl) ?_
  refine zk_iconst C0 (zdk ttL_10 36 rfl rfl) ?_
  refine zk_iadd C0 (zdk ttL_10 37 rfl rfl) ?_
  refine zk_sld C0 hL (i := (x + 2)) (by omega) (zdk ttL_10 38 rfl rfl) ?_
  refine zk_aload0 C0 (zdk ttL_10 39 rfl rfl) ?_
  refine zk_iload3 C0 (zdk ttL_10 40 rfl rfl) ?_
  refine zk_iconst C0 (zdk ttL_10 41 rfl rfl) ?_
  refine zk_iadd C0 (zdk ttL_10 42 rfl rfl) ?_
  refine zk_sld C0 hL (i := (x + 3)) (by omega) (zdk ttL_10 43 rfl rfl) ?_
  refine zk_callC C0 sC [(xs ((x + 1)).toNat).toInt, (xs ((x + 2)).toNat).toInt, (xs ((x + 3)).toNat).toInt] (zdk ttL_10 44 rfl rfl) mb_X10_bells mv_RL_118 rfl rfl rfl (Nat.le_of_ble_eq_true rfl) (s_X10_bells l hC (xs ((x + 1)).toNat).toInt (xs ((x + 2)).toNat).toInt (xs ((x + 3)).toNat).toInt sC (zxs xs _) (zxs xs _) (zxs xs _)) ⟨rfl, rfl, ⟨Nat.le_of_ble_eq_true rfl, Nat.le_of_ble_eq_true rfl⟩, by show u1 + 0 ≤ 600000; omega, by show u2 + 0 ≤ 7302250; omega⟩ (fun v498 h499 q500 => ?_)
  have s501 : okC h499 := q500.2.1
  have j502 : zJP h499 := zJP_f sC (fun a b z => zfC_a q500.2.2 (fun w => by unfold zpJ at z; unfold w_X10_bells at w; omega)) j0
  refine zk_pop C0 (zdk ttL_10 45 rfl rfl) ?_
  refine zk_aload2 C0 (zdk ttL_10 46 rfl rfl) ?_
  refine zk_aload0 C0 (zdk ttL_10 47 rfl rfl) ?_
  refine zk_iload3 C0 (zdk ttL_10 48 rfl rfl) ?_
  refine zk_iconst C0 (zdk ttL_10 49 rfl rfl) ?_
  refine zk_iadd C0 (zdk ttL_10 50 rfl rfl) ?_
  refine zk_sld C0 hL (i := (x + 1)) (by omega) (zdk ttL_10 51 rfl rfl) ?_
  refine zk_aload0 C0 (zdk ttL_10 52 rfl rfl) ?_
  refine zk_iload3 C0 (zdk ttL_10 53 rfl rfl) ?_
  refine zk_iconst C0 (zdk ttL_10 54 rfl rfl) ?_
  refine zk_iadd C0 (zdk ttL_10 55 rfl rfl) ?_
  refine zk_sld C0 hL (i := (x + 2)) (by omega) (zdk ttL_10 56 rfl rfl) ?_
  refine zk_aload0 C0 (zdk ttL_10 57 rfl rfl) ?_
  refine zk_iload3 C0 (zdk ttL_10 58 rfl rfl) ?_
  refine zk_iconst C0 (zdk ttL_10 59 rfl rfl) ?_
  refine zk_iadd C0 (zdk ttL_11 0 rfl rfl) ?_
  refine zk_sld C0 hL (i := (x + 3)) (by omega) (zdk ttL_11 1 rfl rfl) ?_
  refine zk_callM C0 sM [(xs ((x + 1)).toNat).toInt, (xs ((x + 2)).toNat).toInt, (xs ((x + 3)).toNat).toInt] (zdk ttL_11 2 rfl rfl) mb_X11_bells mv_RL_121 rfl rfl rfl (Nat.le_of_ble_eq_true rfl) (s_X11_bells l hM (xs ((x + 1)).toNat).toInt (xs ((x + 2)).toNat).toInt (xs ((x + 3)).toNat).toInt sM (zxs xs _) (zxs xs _) (zxs xs _)) ⟨rfl, rfl, ⟨Nat.le_of_ble_eq_true rfl, Nat.le_of_ble_eq_true rfl⟩, by show (u1 + 0) + 0 ≤ 600000; omega, by show (u2 + 0) + 0 ≤ 7302250; omega⟩ (fun v503 h504 q505 => ?_)
  have s506 : okM h504 := q505.2.1
  have r507 : zRK h499 h504 := rk_f r0 (fun a b z => zfC_a q500.2.2 (fun w => by unfold zpC at z; unfold w_X10_bells at w; omega)) (rkM q505.2.2 rfl)
  have t508 : zRT h499 h504 := zRT_f t0 (fun a b z => zfC_a q500.2.2 (fun w => by unfold zpT at z; unfold w_X10_bells at w; omega)) (rkT q505.2.2 rfl)
  refine zk_pop C0 (zdk ttL_11 3 rfl rfl) ?_
  refine zk_goto C0 (t := 1355) (zdk ttL_11 4 rfl rfl) (by decide) ?_
  exact zk_widen (by omega) (by omega) (kk h499 h504 s501 s506 r507 j502 t508)
set_option maxHeartbeats 4000000 in
theorem lc_25 (C0 : lw_At p s m meth c b L xs) (hL : L ≤ 3072) (sC : okC hC) (sM : okM hM) (r0 : zRK hC hM) (j0 : zJP hC) (t0 : zRT hC hM) (hx0 : 0 ≤ x ∧ x + 6 ≤ L) (hu1 : u1 ≤ 599999) (hu2 : u2 ≤ 7292250) (kk : ∀ hC hM, okC hC → okM hM → zRK hC hM → zJP hC → zRT hC hM → zK p l e s m below meth c b (u1 + 1) (u2 + 10000) 1355 x [] hC hM) : zK p l e s m below meth c b u1 u2 989 x [] hC hM := by
  refine zk_aload1 C0 (zdk ttL_11 5 rfl rfl) ?_
  refine zk_aload0 C0 (zdk ttL_11 6 rfl rfl) ?_
  refine zk_iload3 C0 (zdk ttL_11 7 rfl rfl) ?_
  refine zk_iconst C0 (zdk ttL_11 8 rfl rfl) ?_
  refine zk_iadd C0 (zdk ttL_11 9 rfl rfl) ?_
  refine zk_sld C0 hL (i := (x + 1)) (by omega) (zdk ttL_11 10 rfl rfl) ?_
  refine zk_aload0 C0 (zdk ttL_11 11 rfl rfl) ?_
  refine zk_iload3 C0 (zdk ttL_11 12 rfl rfl) ?_
  refine zk_iconst C0 (zdk ttL_11 13 rfl rfl) ?_
  refine zk_iadd C0 (zdk ttL_11 14 rfl rfl) ?_
  refine zk_sld C0 hL (i := (x + 2)) (by omega) (zdk ttL_11 15 rfl rfl) ?_
  refine zk_aload0 C0 (zdk ttL_11 16 rfl rfl) ?_
  refine zk_iload3 C0 (zdk ttL_11 17 rfl rfl) ?_
  refine zk_iconst C0 (zdk ttL_11 18 rfl rfl) ?_
  refine zk_iadd C0 (zdk ttL_11 19 rfl rfl) ?_
  refine zk_sld C0 hL (i := (x + 3)) (by omega) (zdk ttL_11 20 rfl rfl) ?_
  refine zk_callC C0 sC [(xs ((x + 1)).toNat).toInt, (xs ((x + 2)).toNat).toInt, (xs ((x + 3)).toNat).toInt] (zdk ttL_11 21 rfl rfl) mb_X10_against mv_RL_122 rfl rfl rfl (Nat.le_of_ble_eq_true rfl) (s_X10_against l hC (xs ((x + 1)).toNat).toInt (xs ((x + 2)).toNat).toInt (xs ((x + 3)).toNat).toInt sC (zxs xs _) (zxs xs _) (zxs xs _)) ⟨rfl, rfl, ⟨Nat.le_of_ble_eq_true rfl, Nat.le_of_ble_eq_true rfl⟩, by show u1 + 0 ≤ 600000; omega, by show u2 + 0 ≤ 7302250; omega⟩ (fun v509 h510 q511 => ?_)
  have s512 : okC h510 := q511.2.1
  have j513 : zJP h510 := zJP_f sC (fun a b z => zfC_a q511.2.2 (fun w => by unfold zpJ at z; unfold w_X10_against at w; omega)) j0
  refine zk_pop C0 (zdk ttL_11 22 rfl rfl) ?_
  refine zk_aload2 C0 (zdk ttL_11 23 rfl rfl) ?_
  refine zk_aload0 C0 (zdk ttL_11 24 rfl rfl) ?_
  refine zk_iload3 C0 (zdk ttL_11 25 rfl rfl) ?_
  refine zk_iconst C0 (zdk ttL_11 26 rfl rfl) ?_
  refine zk_iadd C0 (zdk ttL_11 27 rfl rfl) ?_
  refine zk_sld C0 hL (i := (x + 1)) (by omega) (zdk ttL_11 28 rfl rfl) ?_
  refine zk_aload0 C0 (zdk ttL_11 29 rfl rfl) ?_
  refine zk_iload3 C0 (zdk ttL_11 30 rfl rfl) ?_
  refine zk_iconst C0 (zdk ttL_11 31 rfl rfl) ?_
  refine zk_iadd C0 (zdk ttL_11 32 rfl rfl) ?_
  refine zk_sld C0 hL (i := (x + 2)) (by omega) (zdk ttL_11 33 rfl rfl) ?_
  refine zk_aload0 C0 (zdk ttL_11 34 rfl rfl) ?_
  refine zk_iload3 C0 (zdk ttL_11 35 rfl rfl) ?_
  refine zk_iconst C0 (zdk ttL_11 36 rfl rfl) ?_
  refine zk_iadd C0 (zdk ttL_11 37 rfl rfl) ?_
  refine zk_sld C0 hL (i := (x + 3)) (by omega) (zdk ttL_11 38 rfl rfl) ?_
  refine zk_callM C0 sM [(xs ((x + 1)).toNat).toInt, (xs ((x + 2)).toNat).toInt, (xs ((x + 3)).toNat).toInt] (zdk ttL_11 39 rfl rfl) mb_X11_against mv_RL_125 rfl rfl rfl (Nat.le_of_ble_eq_true rfl) (s_X11_against l hM (xs ((x + 1)).toNat).toInt (xs ((x + 2)).toNat).toInt (xs ((x + 3)).toNat).toInt sM (zxs xs _) (zxs xs _) (zxs xs _)) ⟨rfl, rfl, ⟨Nat.le_of_ble_eq_true rfl, Nat.le_of_ble_eq_true rfl⟩, by show (u1 + 0) + 0 ≤ 600000; omega, by show (u2 + 0) + 0 ≤ 7302250; omega⟩ (fun v514 h515 q516 => ?_)
  have s517 : okM h515 := q516.2.1
  have r518 : zRK h510 h515 := rk_f r0 (fun a b z => zfC_a q511.2.2 (fun w => by unfold zpC at z; unfold w_X10_against at w; omega)) (rkM q516.2.2 rfl)
  have t519 : zRT h510 h515 := zRT_f t0 (fun a b z => zfC_a q511.2.2 (fun w => by unfold zpT at z; unfold w_X10_against at w; omega)) (rkT q516.2.2 rfl)
  refine zk_pop C0 (zdk ttL_11 40 rfl rfl) ?_
  refine zk_goto C0 (t := 1355) (zdk ttL_11 41 rfl rfl) (by decide) ?_
  exact zk_widen (by omega) (by omega) (kk h510 h515 s512 s517 r518 j513 t519)
set_option maxHeartbeats 4000000 in
theorem lc_26 (C0 : lw_At p s m meth c b L xs) (hL : L ≤ 3072) (sC : okC hC) (sM : okM hM) (r0 : zRK hC hM) (j0 : zJP hC) (t0 : zRT hC hM) (hx0 : 0 ≤ x ∧ x + 6 ≤ L) (hu1 : u1 ≤ 599999) (hu2 : u2 ≤ 7292250) (kk : ∀ hC hM, okC hC → okM hM → zRK hC hM → zJP hC → zRT hC hM → zK p l e s m below meth c b (u1 + 1) (u2 + 10000) 1355 x [] hC hM) : zK p l e s m below meth c b u1 u2 1032 x [] hC hM := by
  refine zk_aload1 C0 (zdk ttL_11 42 rfl rfl) ?_
  refine zk_aload0 C0 (zdk ttL_11 43 rfl rfl) ?_
  refine zk_iload3 C0 (zdk ttL_11 44 rfl rfl) ?_
  refine zk_iconst C0 (zdk ttL_11 45 rfl rfl) ?_
  refine zk_iadd C0 (zdk ttL_11 46 rfl rfl) ?_
  refine zk_sld C0 hL (i := (x + 1)) (by omega) (zdk ttL_11 47 rfl rfl) ?_
  refine zk_aload0 C0 (zdk ttL_11 48 rfl rfl) ?_
  refine zk_iload3 C0 (zdk ttL_11 49 rfl rfl) ?_
  refine zk_iconst C0 (zdk ttL_11 50 rfl rfl) ?_
  refine zk_iadd C0 (zdk ttL_11 51 rfl rfl) ?_
  refine zk_sld C0 hL (i := (x + 2)) (by omega) (zdk ttL_11 52 rfl rfl) ?_
  refine zk_aload0 C0 (zdk ttL_11 53 rfl rfl) ?_
  refine zk_iload3 C0 (zdk ttL_11 54 rfl rfl) ?_
  refine zk_iconst C0 (zdk ttL_11 55 rfl rfl) ?_
  refine zk_iadd C0 (zdk ttL_11 56 rfl rfl) ?_
  refine zk_sld C0 hL (i := (x + 3)) (by omega) (zdk ttL_11 57 rfl rfl) ?_
  refine zk_callC C0 sC [(xs ((x + 1)).toNat).toInt, (xs ((x + 2)).toNat).toInt, (xs ((x + 3)).toNat).toInt] (zdk ttL_11 58 rfl rfl) mb_X10_calendar mv_RL_126 rfl rfl rfl (Nat.le_of_ble_eq_true rfl) (s_X10_calendar l hC (xs ((x + 1)).toNat).toInt (xs ((x + 2)).toNat).toInt (xs ((x + 3)).toNat).toInt sC (zxs xs _) (zxs xs _) (zxs xs _)) ⟨rfl, rfl, ⟨Nat.le_of_ble_eq_true rfl, Nat.le_of_ble_eq_true rfl⟩, by show u1 + 0 ≤ 600000; omega, by show u2 + 0 ≤ 7302250; omega⟩ (fun v520 h521 q522 => ?_)
  have s523 : okC h521 := q522.2.1
  have j524 : zJP h521 := zJP_f sC (fun a b z => zfC_a q522.2.2 (fun w => by unfold zpJ at z; unfold w_X10_calendar at w; omega)) j0
  refine zk_pop C0 (zdk ttL_11 59 rfl rfl) ?_
  refine zk_aload2 C0 (zdk ttL_12 0 rfl rfl) ?_
  refine zk_aload0 C0 (zdk ttL_12 1 rfl rfl) ?_
  refine zk_iload3 C0 (zdk ttL_12 2 rfl rfl) ?_
  refine zk_iconst C0 (zdk ttL_12 3 rfl rfl) ?_
  refine zk_iadd C0 (zdk ttL_12 4 rfl rfl) ?_
  refine zk_sld C0 hL (i := (x + 1)) (by omega) (zdk ttL_12 5 rfl rfl) ?_
  refine zk_aload0 C0 (zdk ttL_12 6 rfl rfl) ?_
  refine zk_iload3 C0 (zdk ttL_12 7 rfl rfl) ?_
  refine zk_iconst C0 (zdk ttL_12 8 rfl rfl) ?_
  refine zk_iadd C0 (zdk ttL_12 9 rfl rfl) ?_
  refine zk_sld C0 hL (i := (x + 2)) (by omega) (zdk ttL_12 10 rfl rfl) ?_
  refine zk_aload0 C0 (zdk ttL_12 11 rfl rfl) ?_
  refine zk_iload3 C0 (zdk ttL_12 12 rfl rfl) ?_
  refine zk_iconst C0 (zdk ttL_12 13 rfl rfl) ?_
  refine zk_iadd C0 (zdk ttL_12 14 rfl rfl) ?_
  refine zk_sld C0 hL (i := (x + 3)) (by omega) (zdk ttL_12 15 rfl rfl) ?_
  refine zk_callM C0 sM [(xs ((x + 1)).toNat).toInt, (xs ((x + 2)).toNat).toInt, (xs ((x + 3)).toNat).toInt] (zdk ttL_12 16 rfl rfl) mb_X11_calendar mv_RL_129 rfl rfl rfl (Nat.le_of_ble_eq_true rfl) (s_X11_calendar l hM (xs ((x + 1)).toNat).toInt (xs ((x + 2)).toNat).toInt (xs ((x + 3)).toNat).toInt sM (zxs xs _) (zxs xs _) (zxs xs _)) ⟨rfl, rfl, ⟨Nat.le_of_ble_eq_true rfl, Nat.le_of_ble_eq_true rfl⟩, by show (u1 + 0) + 0 ≤ 600000; omega, by show (u2 + 0) + 0 ≤ 7302250; omega⟩ (fun v525 h526 q527 => ?_)
  have s528 : okM h526 := q527.2.1
  have r529 : zRK h521 h526 := rk_f r0 (fun a b z => zfC_a q522.2.2 (fun w => by unfold zpC at z; unfold w_X10_calendar at w; omega)) (rkM q527.2.2 rfl)
  have t530 : zRT h521 h526 := zRT_f t0 (fun a b z => zfC_a q522.2.2 (fun w => by unfold zpT at z; unfold w_X10_calendar at w; omega)) (rkT q527.2.2 rfl)
  refine zk_pop C0 (zdk ttL_12 17 rfl rfl) ?_
  refine zk_goto C0 (t := 1355) (zdk ttL_12 18 rfl rfl) (by decide) ?_
  exact zk_widen (by omega) (by omega) (kk h521 h526 s523 s528 r529 j524 t530)
set_option maxHeartbeats 4000000 in
theorem lc_27 (C0 : lw_At p s m meth c b L xs) (hL : L ≤ 3072) (sC : okC hC) (sM : okM hM) (r0 : zRK hC hM) (j0 : zJP hC) (t0 : zRT hC hM) (hx0 : 0 ≤ x ∧ x + 6 ≤ L) (hu1 : u1 ≤ 599999) (hu2 : u2 ≤ 7292250) (kk : ∀ hC hM, okC hC → okM hM → zRK hC hM → zJP hC → zRT hC hM → zK p l e s m below meth c b (u1 + 1) (u2 + 10000) 1355 x [] hC hM) : zK p l e s m below meth c b u1 u2 1075 x [] hC hM := by
  refine zk_aload1 C0 (zdk ttL_12 19 rfl rfl) ?_
  refine zk_aload0 C0 (zdk ttL_12 20 rfl rfl) ?_
  refine zk_iload3 C0 (zdk ttL_12 21 rfl rfl) ?_
  refine zk_iconst C0 (zdk ttL_12 22 rfl rfl) ?_
  refine zk_iadd C0 (zdk ttL_12 23 rfl rfl) ?_
  refine zk_sld C0 hL (i := (x + 1)) (by omega) (zdk ttL_12 24 rfl rfl) ?_
  refine zk_aload0 C0 (zdk ttL_12 25 rfl rfl) ?_
  refine zk_iload3 C0 (zdk ttL_12 26 rfl rfl) ?_
  refine zk_iconst C0 (zdk ttL_12 27 rfl rfl) ?_
  refine zk_iadd C0 (zdk ttL_12 28 rfl rfl) ?_
  refine zk_sld C0 hL (i := (x + 2)) (by omega) (zdk ttL_12 29 rfl rfl) ?_
  refine zk_aload0 C0 (zdk ttL_12 30 rfl rfl) ?_
  refine zk_iload3 C0 (zdk ttL_12 31 rfl rfl) ?_
  refine zk_iconst C0 (zdk ttL_12 32 rfl rfl) ?_
  refine zk_iadd C0 (zdk ttL_12 33 rfl rfl) ?_
  refine zk_sld C0 hL (i := (x + 3)) (by omega) (zdk ttL_12 34 rfl rfl) ?_
  refine zk_callC C0 sC [(xs ((x + 1)).toNat).toInt, (xs ((x + 2)).toNat).toInt, (xs ((x + 3)).toNat).toInt] (zdk ttL_12 35 rfl rfl) mb_X10_rope mv_RL_130 rfl rfl rfl (Nat.le_of_ble_eq_true rfl) (s_X10_rope l hC (xs ((x + 1)).toNat).toInt (xs ((x + 2)).toNat).toInt (xs ((x + 3)).toNat).toInt sC (zxs xs _) (zxs xs _) (zxs xs _)) ⟨rfl, rfl, ⟨Nat.le_of_ble_eq_true rfl, Nat.le_of_ble_eq_true rfl⟩, by show u1 + 0 ≤ 600000; omega, by show u2 + 0 ≤ 7302250; omega⟩ (fun v531 h532 q533 => ?_)
  have s534 : okC h532 := by have e9 := q533.1; rw [← e9]; exact sC
  have j535 : zJP h532 := by have e9 := q533.1; rw [← e9]; exact j0
  refine zk_pop C0 (zdk ttL_12 36 rfl rfl) ?_
  refine zk_aload2 C0 (zdk ttL_12 37 rfl rfl) ?_
  refine zk_aload0 C0 (zdk ttL_12 38 rfl rfl) ?_
  refine zk_iload3 C0 (zdk ttL_12 39 rfl rfl) ?_
  refine zk_iconst C0 (zdk ttL_12 40 rfl rfl) ?_
  refine zk_iadd C0 (zdk ttL_12 41 rfl rfl) ?_
  refine zk_sld C0 hL (i := (x + 1)) (by omega) (zdk ttL_12 42 rfl rfl) ?_
  refine zk_aload0 C0 (zdk ttL_12 43 rfl rfl) ?_
  refine zk_iload3 C0 (zdk ttL_12 44 rfl rfl) ?_
  refine zk_iconst C0 (zdk ttL_12 45 rfl rfl) ?_
  refine zk_iadd C0 (zdk ttL_12 46 rfl rfl) ?_
  refine zk_sld C0 hL (i := (x + 2)) (by omega) (zdk ttL_12 47 rfl rfl) ?_
  refine zk_aload0 C0 (zdk ttL_12 48 rfl rfl) ?_
  refine zk_iload3 C0 (zdk ttL_12 49 rfl rfl) ?_
  refine zk_iconst C0 (zdk ttL_12 50 rfl rfl) ?_
  refine zk_iadd C0 (zdk ttL_12 51 rfl rfl) ?_
  refine zk_sld C0 hL (i := (x + 3)) (by omega) (zdk ttL_12 52 rfl rfl) ?_
  refine zk_callM C0 sM [(xs ((x + 1)).toNat).toInt, (xs ((x + 2)).toNat).toInt, (xs ((x + 3)).toNat).toInt] (zdk ttL_12 53 rfl rfl) mb_X11_rope mv_RL_133 rfl rfl rfl (Nat.le_of_ble_eq_true rfl) (s_X11_rope l hM (xs ((x + 1)).toNat).toInt (xs ((x + 2)).toNat).toInt (xs ((x + 3)).toNat).toInt sM (zxs xs _) (zxs xs _) (zxs xs _)) ⟨rfl, rfl, ⟨Nat.le_of_ble_eq_true rfl, Nat.le_of_ble_eq_true rfl⟩, by show (u1 + 0) + 0 ≤ 600000; omega, by show (u2 + 0) + 0 ≤ 7302250; omega⟩ (fun v536 h537 q538 => ?_)
  have s539 : okM h537 := q538.2.1
  have r540 : zRK h532 h537 := rk_f r0 (fun a b _ => by have e9 := q533.1; rw [e9]) (rkM q538.2.2 rfl)
  have t541 : zRT h532 h537 := zRT_f t0 (fun a b _ => by have e9 := q533.1; rw [e9]) (rkT q538.2.2 rfl)
  refine zk_pop C0 (zdk ttL_12 54 rfl rfl) ?_
  refine zk_goto C0 (t := 1355) (zdk ttL_12 55 rfl rfl) (by decide) ?_
  exact zk_widen (by omega) (by omega) (kk h532 h537 s534 s539 r540 j535 t541)
set_option maxHeartbeats 4000000 in
theorem lc_28 (C0 : lw_At p s m meth c b L xs) (hL : L ≤ 3072) (sC : okC hC) (sM : okM hM) (r0 : zRK hC hM) (j0 : zJP hC) (t0 : zRT hC hM) (hx0 : 0 ≤ x ∧ x + 6 ≤ L) (hu1 : u1 ≤ 599999) (hu2 : u2 ≤ 7292250) (kk : ∀ hC hM, okC hC → okM hM → zRK hC hM → zJP hC → zRT hC hM → zK p l e s m below meth c b (u1 + 1) (u2 + 10000) 1355 x [] hC hM) : zK p l e s m below meth c b u1 u2 1118 x [] hC hM := by
  refine zk_aload1 C0 (zdk ttL_12 56 rfl rfl) ?_
  refine zk_aload0 C0 (zdk ttL_12 57 rfl rfl) ?_
  refine zk_iload3 C0 (zdk ttL_12 58 rfl rfl) ?_
  refine zk_iconst C0 (zdk ttL_12 59 rfl rfl) ?_
  refine zk_iadd C0 (zdk ttL_13 0 rfl rfl) ?_
  refine zk_sld C0 hL (i := (x + 1)) (by omega) (zdk ttL_13 1 rfl rfl) ?_
  refine zk_aload0 C0 (zdk ttL_13 2 rfl rfl) ?_
  refine zk_iload3 C0 (zdk ttL_13 3 rfl rfl) ?_
  refine zk_iconst C0 (zdk ttL_13 4 rfl rfl) ?_
  refine zk_iadd C0 (zdk ttL_13 5 rfl rfl) ?_
  refine zk_sld C0 hL (i := (x + 2)) (by omega) (zdk ttL_13 6 rfl rfl) ?_
  refine zk_aload0 C0 (zdk ttL_13 7 rfl rfl) ?_
  refine zk_iload3 C0 (zdk ttL_13 8 rfl rfl) ?_
  refine zk_iconst C0 (zdk ttL_13 9 rfl rfl) ?_
  refine zk_iadd C0 (zdk ttL_13 10 rfl rfl) ?_
  refine zk_sld C0 hL (i := (x + 3)) (by omega) (zdk ttL_13 11 rfl rfl) ?_
  refine zk_aload0 C0 (zdk ttL_13 12 rfl rfl) ?_
  refine zk_iload3 C0 (zdk ttL_13 13 rfl rfl) ?_
  refine zk_iconst C0 (zdk ttL_13 14 rfl rfl) ?_
  refine zk_iadd C0 (zdk ttL_13 15 rfl rfl) ?_
  refine zk_sld C0 hL (i := (x + 4)) (by omega) (zdk ttL_13 16 rfl rfl) ?_
  refine zk_callC C0 sC [(xs ((x + 1)).toNat).toInt, (xs ((x + 2)).toNat).toInt, (xs ((x + 3)).toNat).toInt, (xs ((x + 4)).toNat).toInt] (zdk ttL_13 17 rfl rfl) mb_X10_meets mv_RL_134 rfl rfl rfl (Nat.le_of_ble_eq_true rfl) (s_X10_meets l hC (xs ((x + 1)).toNat).toInt (xs ((x + 2)).toNat).toInt (xs ((x + 3)).toNat).toInt (xs ((x + 4)).toNat).toInt sC (zxs xs _) (zxs xs _) (zxs xs _) (zxs xs _)) ⟨rfl, rfl, ⟨Nat.le_of_ble_eq_true rfl, Nat.le_of_ble_eq_true rfl⟩, by show u1 + 0 ≤ 600000; omega, by show u2 + 0 ≤ 7302250; omega⟩ (fun v542 h543 q544 => ?_)
  have s545 : okC h543 := q544.2.1
  have j546 : zJP h543 := zJP_f sC (fun a b z => zfC_a q544.2.2 (fun w => by unfold zpJ at z; unfold w_X10_meets at w; omega)) j0
  refine zk_pop C0 (zdk ttL_13 18 rfl rfl) ?_
  refine zk_aload2 C0 (zdk ttL_13 19 rfl rfl) ?_
  refine zk_aload0 C0 (zdk ttL_13 20 rfl rfl) ?_
  refine zk_iload3 C0 (zdk ttL_13 21 rfl rfl) ?_
  refine zk_iconst C0 (zdk ttL_13 22 rfl rfl) ?_
  refine zk_iadd C0 (zdk ttL_13 23 rfl rfl) ?_
  refine zk_sld C0 hL (i := (x + 1)) (by omega) (zdk ttL_13 24 rfl rfl) ?_
  refine zk_aload0 C0 (zdk ttL_13 25 rfl rfl) ?_
  refine zk_iload3 C0 (zdk ttL_13 26 rfl rfl) ?_
  refine zk_iconst C0 (zdk ttL_13 27 rfl rfl) ?_
  refine zk_iadd C0 (zdk ttL_13 28 rfl rfl) ?_
  refine zk_sld C0 hL (i := (x + 2)) (by omega) (zdk ttL_13 29 rfl rfl) ?_
  refine zk_aload0 C0 (zdk ttL_13 30 rfl rfl) ?_
  refine zk_iload3 C0 (zdk ttL_13 31 rfl rfl) ?_
  refine zk_iconst C0 (zdk ttL_13 32 rfl rfl) ?_
  refine zk_iadd C0 (zdk ttL_13 33 rfl rfl) ?_
  refine zk_sld C0 hL (i := (x + 3)) (by omega) (zdk ttL_13 34 rfl rfl) ?_
  refine zk_aload0 C0 (zdk ttL_13 35 rfl rfl) ?_
  refine zk_iload3 C0 (zdk ttL_13 36 rfl rfl) ?_
  refine zk_iconst C0 (zdk ttL_13 37 rfl rfl) ?_
  refine zk_iadd C0 (zdk ttL_13 38 rfl rfl) ?_
  refine zk_sld C0 hL (i := (x + 4)) (by omega) (zdk ttL_13 39 rfl rfl) ?_
  refine zk_callM C0 sM [(xs ((x + 1)).toNat).toInt, (xs ((x + 2)).toNat).toInt, (xs ((x + 3)).toNat).toInt, (xs ((x + 4)).toNat).toInt] (zdk ttL_13 40 rfl rfl) mb_X11_meets mv_RL_138 rfl rfl rfl (Nat.le_of_ble_eq_true rfl) (s_X11_meets l hM (xs ((x + 1)).toNat).toInt (xs ((x + 2)).toNat).toInt (xs ((x + 3)).toNat).toInt (xs ((x + 4)).toNat).toInt sM (zxs xs _) (zxs xs _) (zxs xs _) (zxs xs _)) ⟨rfl, rfl, ⟨Nat.le_of_ble_eq_true rfl, Nat.le_of_ble_eq_true rfl⟩, by show (u1 + 0) + 0 ≤ 600000; omega, by show (u2 + 0) + 0 ≤ 7302250; omega⟩ (fun v547 h548 q549 => ?_)
  have s550 : okM h548 := q549.2.1
  have r551 : zRK h543 h548 := rk_f r0 (fun a b z => zfC_a q544.2.2 (fun w => by unfold zpC at z; unfold w_X10_meets at w; omega)) (rkM q549.2.2 rfl)
  have t552 : zRT h543 h548 := zRT_f t0 (fun a b z => zfC_a q544.2.2 (fun w => by unfold zpT at z; unfold w_X10_meets at w; omega)) (rkT q549.2.2 rfl)
  refine zk_pop C0 (zdk ttL_13 41 rfl rfl) ?_
  refine zk_goto C0 (t := 1355) (zdk ttL_13 42 rfl rfl) (by decide) ?_
  exact zk_widen (by omega) (by omega) (kk h543 h548 s545 s550 r551 j546 t552)
set_option maxHeartbeats 4000000 in
theorem lc_29 (C0 : lw_At p s m meth c b L xs) (hL : L ≤ 3072) (sC : okC hC) (sM : okM hM) (r0 : zRK hC hM) (j0 : zJP hC) (t0 : zRT hC hM) (hx0 : 0 ≤ x ∧ x + 6 ≤ L) (hu1 : u1 ≤ 599999) (hu2 : u2 ≤ 7292250) (kk : ∀ hC hM, okC hC → okM hM → zRK hC hM → zJP hC → zRT hC hM → zK p l e s m below meth c b (u1 + 1) (u2 + 10000) 1355 x [] hC hM) : zK p l e s m below meth c b u1 u2 1171 x [] hC hM := by
  refine zk_aload1 C0 (zdk ttL_13 43 rfl rfl) ?_
  refine zk_aload0 C0 (zdk ttL_13 44 rfl rfl) ?_
  refine zk_iload3 C0 (zdk ttL_13 45 rfl rfl) ?_
  refine zk_iconst C0 (zdk ttL_13 46 rfl rfl) ?_
  refine zk_iadd C0 (zdk ttL_13 47 rfl rfl) ?_
  refine zk_sld C0 hL (i := (x + 1)) (by omega) (zdk ttL_13 48 rfl rfl) ?_
  refine zk_aload0 C0 (zdk ttL_13 49 rfl rfl) ?_
  refine zk_iload3 C0 (zdk ttL_13 50 rfl rfl) ?_
  refine zk_iconst C0 (zdk ttL_13 51 rfl rfl) ?_
  refine zk_iadd C0 (zdk ttL_13 52 rfl rfl) ?_
  refine zk_sld C0 hL (i := (x + 2)) (by omega) (zdk ttL_13 53 rfl rfl) ?_
  refine zk_callC C0 sC [(xs ((x + 1)).toNat).toInt, (xs ((x + 2)).toNat).toInt] (zdk ttL_13 54 rfl rfl) mb_X10_arm mv_RL_139 rfl rfl rfl (Nat.le_of_ble_eq_true rfl) (s_X10_arm l hC (xs ((x + 1)).toNat).toInt (xs ((x + 2)).toNat).toInt sC (zxs xs _) (zxs xs _)) ⟨rfl, rfl, ⟨Nat.le_of_ble_eq_true rfl, Nat.le_of_ble_eq_true rfl⟩, by show u1 + 0 ≤ 600000; omega, by show u2 + 0 ≤ 7302250; omega⟩ (fun v553 h554 q555 => ?_)
  have s556 : okC h554 := q555.2.1
  have j557 : zJP h554 := zJP_f sC (fun a b z => zfC_a q555.2.2.1 (fun w => by unfold zpJ at z; unfold w_X10_arm at w; omega)) j0
  refine zk_pop C0 (zdk ttL_13 55 rfl rfl) ?_
  refine zk_aload2 C0 (zdk ttL_13 56 rfl rfl) ?_
  refine zk_aload0 C0 (zdk ttL_13 57 rfl rfl) ?_
  refine zk_iload3 C0 (zdk ttL_13 58 rfl rfl) ?_
  refine zk_iconst C0 (zdk ttL_13 59 rfl rfl) ?_
  refine zk_iadd C0 (zdk ttL_14 0 rfl rfl) ?_
  refine zk_sld C0 hL (i := (x + 1)) (by omega) (zdk ttL_14 1 rfl rfl) ?_
  refine zk_aload0 C0 (zdk ttL_14 2 rfl rfl) ?_
  refine zk_iload3 C0 (zdk ttL_14 3 rfl rfl) ?_
  refine zk_iconst C0 (zdk ttL_14 4 rfl rfl) ?_
  refine zk_iadd C0 (zdk ttL_14 5 rfl rfl) ?_
  refine zk_sld C0 hL (i := (x + 2)) (by omega) (zdk ttL_14 6 rfl rfl) ?_
  refine zk_callM C0 sM [(xs ((x + 1)).toNat).toInt, (xs ((x + 2)).toNat).toInt] (zdk ttL_14 7 rfl rfl) mb_X11_arm mv_RL_142 rfl rfl rfl (Nat.le_of_ble_eq_true rfl) (s2_X11_arm l hM (xs ((x + 1)).toNat).toInt (xs ((x + 2)).toNat).toInt sM (zxs xs _) (zxs xs _)) ⟨rfl, rfl, ⟨Nat.le_of_ble_eq_true rfl, Nat.le_of_ble_eq_true rfl⟩, by show (u1 + 0) + 0 ≤ 600000; omega, by show (u2 + 0) + 0 ≤ 7302250; omega⟩ (fun v558 h559 q560 => ?_)
  have s561 : okM h559 := q560.2.1
  have e563 : h554.2 28 2 = hC.2 28 2 := zfC_a q555.2.2.1 (fun w => by unfold w_X10_arm at w; first | (revert w; decide) | omega)
  have e564 : h554.2 28 4 = hC.2 28 4 := zfC_a q555.2.2.1 (fun w => by unfold w_X10_arm at w; first | (revert w; decide) | omega)
  have e565 : h554.2 28 6 = hC.2 28 6 := zfC_a q555.2.2.1 (fun w => by unfold w_X10_arm at w; first | (revert w; decide) | omega)
  have e566 : h554.2 62 2 = hC.2 62 2 := zfC_a q555.2.2.1 (fun w => by unfold w_X10_arm at w; first | (revert w; decide) | omega)
  have e567 : h554.2 62 4 = hC.2 62 4 := zfC_a q555.2.2.1 (fun w => by unfold w_X10_arm at w; first | (revert w; decide) | omega)
  have e568 : h554.2 62 6 = hC.2 62 6 := zfC_a q555.2.2.1 (fun w => by unfold w_X10_arm at w; first | (revert w; decide) | omega)
  have e569 : h554.2 62 9 = hC.2 62 9 := zfC_a q555.2.2.1 (fun w => by unfold w_X10_arm at w; first | (revert w; decide) | omega)
  have e570 : h554.2 0 9 = hC.2 0 9 := zfC_a q555.2.2.1 (fun w => by unfold w_X10_arm at w; first | (revert w; decide) | omega)
  have e571 : h554.2 103 3 = hC.2 103 3 := zfC_a q555.2.2.1 (fun w => by unfold w_X10_arm at w; first | (revert w; decide) | omega)
  have e572 : h554.2 2 3 = hC.2 2 3 := zfC_a q555.2.2.1 (fun w => by unfold w_X10_arm at w; first | (revert w; decide) | omega)
  have e573 : h554.2 36 3 = hC.2 36 3 := zfC_a q555.2.2.1 (fun w => by unfold w_X10_arm at w; first | (revert w; decide) | omega)
  have e574 : h559.2 0 42 = hM.2 0 42 := zfr_f q560.2.2.1 rfl rfl
  have e575 : h559.2 0 45 = hM.2 0 45 := zfr_f q560.2.2.1 rfl rfl
  have e576 : h559.2 0 49 = hM.2 0 49 := zfr_f q560.2.2.1 rfl rfl
  have e577 : h559.2 35 67 = hM.2 35 67 := zfr_a q560.2.2.1 rfl (by decide)
  have e578 : h559.2 35 68 = hM.2 35 68 := zfr_a q560.2.2.1 rfl (by decide)
  have e579 : h559.2 35 69 = hM.2 35 69 := zfr_a q560.2.2.1 rfl (by decide)
  have e580 : h559.2 35 70 = hM.2 35 70 := zfr_a q560.2.2.1 rfl (by decide)
  have e581 : h559.2 0 59 = hM.2 0 59 := zfr_f q560.2.2.1 rfl rfl
  have e582 : h559.2 0 11 = hM.2 0 11 := zfr_f q560.2.2.1 rfl rfl
  have e583 : h559.2 0 6 = hM.2 0 6 := zfr_f q560.2.2.1 rfl rfl
  have e584 : h559.2 35 63 = hM.2 35 63 := zfr_a q560.2.2.1 rfl (by decide)
  have p585 := q555.2.2.2
  have p586 := q560.2.2.2
  have zw9_586 := zcw_r p585 p586 r0.2.2.2.1
  have r562 : zRK h554 h559 := ⟨(e563.trans (r0.1.trans e574.symm)), (e564.trans (r0.2.1.trans e575.symm)), (e565.trans (r0.2.2.1.trans e576.symm)), zw9_586.2, (fun z => have z9 := r0.2.2.2.2.1 ((e581.symm).trans z); ⟨e566.trans (z9.1.trans e577.symm), e567.trans (z9.2.1.trans e578.symm), e568.trans (z9.2.2.1.trans e579.symm), e569.trans (z9.2.2.2.1.trans e580.symm), e573.trans (z9.2.2.2.2.trans e584.symm)⟩), (e570.trans (r0.2.2.2.2.2.1.trans e581.symm)), (e571.trans (r0.2.2.2.2.2.2.1.trans e582.symm)), (e572.trans (r0.2.2.2.2.2.2.2.trans e583.symm))⟩
  have t587 : zRT h554 h559 := zRT_f t0 (fun a b z => zfC_a q555.2.2.1 (fun w => by unfold zpT at z; unfold w_X10_arm at w; omega)) (rkT q560.2.2.1 rfl)
  refine zk_pop C0 (zdk ttL_14 8 rfl rfl) ?_
  refine zk_goto C0 (t := 1355) (zdk ttL_14 9 rfl rfl) (by decide) ?_
  exact zk_widen (by omega) (by omega) (kk h554 h559 s556 s561 r562 j557 t587)
set_option maxHeartbeats 4000000 in
theorem lc_30 (C0 : lw_At p s m meth c b L xs) (hL : L ≤ 3072) (sC : okC hC) (sM : okM hM) (r0 : zRK hC hM) (j0 : zJP hC) (t0 : zRT hC hM) (hx0 : 0 ≤ x ∧ x + 6 ≤ L) (hu1 : u1 ≤ 599999) (hu2 : u2 ≤ 7292250) (kk : ∀ hC hM, okC hC → okM hM → zRK hC hM → zJP hC → zRT hC hM → zK p l e s m below meth c b (u1 + 1) (u2 + 10000) 1355 x [] hC hM) : zK p l e s m below meth c b u1 u2 1204 x [] hC hM := by
  refine zk_aload1 C0 (zdk ttL_14 10 rfl rfl) ?_
  refine zk_aload0 C0 (zdk ttL_14 11 rfl rfl) ?_
  refine zk_iload3 C0 (zdk ttL_14 12 rfl rfl) ?_
  refine zk_iconst C0 (zdk ttL_14 13 rfl rfl) ?_
  refine zk_iadd C0 (zdk ttL_14 14 rfl rfl) ?_
  refine zk_sld C0 hL (i := (x + 1)) (by omega) (zdk ttL_14 15 rfl rfl) ?_
  refine zk_callC C0 sC [(xs ((x + 1)).toNat).toInt] (zdk ttL_14 16 rfl rfl) mb_X10_hung mv_RL_143 rfl rfl rfl (Nat.le_of_ble_eq_true rfl) (s_X10_hung l hC (xs ((x + 1)).toNat).toInt sC (zxs xs _)) ⟨rfl, rfl, ⟨Nat.le_of_ble_eq_true rfl, Nat.le_of_ble_eq_true rfl⟩, by show u1 + 0 ≤ 600000; omega, by show u2 + 0 ≤ 7302250; omega⟩ (fun v588 h589 q590 => ?_)
  have s591 : okC h589 := q590.2.1
  have j592 : zJP h589 := zJP_f sC (fun a b z => zfC_a q590.2.2 (fun w => by unfold zpJ at z; unfold w_X10_hung at w; omega)) j0
  refine zk_pop C0 (zdk ttL_14 17 rfl rfl) ?_
  refine zk_aload2 C0 (zdk ttL_14 18 rfl rfl) ?_
  refine zk_aload0 C0 (zdk ttL_14 19 rfl rfl) ?_
  refine zk_iload3 C0 (zdk ttL_14 20 rfl rfl) ?_
  refine zk_iconst C0 (zdk ttL_14 21 rfl rfl) ?_
  refine zk_iadd C0 (zdk ttL_14 22 rfl rfl) ?_
  refine zk_sld C0 hL (i := (x + 1)) (by omega) (zdk ttL_14 23 rfl rfl) ?_
  refine zk_callM C0 sM [(xs ((x + 1)).toNat).toInt] (zdk ttL_14 24 rfl rfl) mb_X11_hung mv_RL_146 rfl rfl rfl (Nat.le_of_ble_eq_true rfl) (s_X11_hung l hM (xs ((x + 1)).toNat).toInt sM (zxs xs _)) ⟨rfl, rfl, ⟨Nat.le_of_ble_eq_true rfl, Nat.le_of_ble_eq_true rfl⟩, by show (u1 + 0) + 0 ≤ 600000; omega, by show (u2 + 0) + 0 ≤ 7302250; omega⟩ (fun v593 h594 q595 => ?_)
  have s596 : okM h594 := q595.2.1
  have r597 : zRK h589 h594 := rk_f r0 (fun a b z => zfC_a q590.2.2 (fun w => by unfold zpC at z; unfold w_X10_hung at w; omega)) (rkM q595.2.2 rfl)
  have t598 : zRT h589 h594 := zRT_f t0 (fun a b z => zfC_a q590.2.2 (fun w => by unfold zpT at z; unfold w_X10_hung at w; omega)) (rkT q595.2.2 rfl)
  refine zk_pop C0 (zdk ttL_14 25 rfl rfl) ?_
  refine zk_goto C0 (t := 1355) (zdk ttL_14 26 rfl rfl) (by decide) ?_
  exact zk_widen (by omega) (by omega) (kk h589 h594 s591 s596 r597 j592 t598)
set_option maxHeartbeats 4000000 in
theorem lc_31 (C0 : lw_At p s m meth c b L xs) (hL : L ≤ 3072) (sC : okC hC) (sM : okM hM) (r0 : zRK hC hM) (j0 : zJP hC) (t0 : zRT hC hM) (hx0 : 0 ≤ x ∧ x + 6 ≤ L) (hu1 : u1 ≤ 599999) (hu2 : u2 ≤ 7292250) (kk : ∀ hC hM, okC hC → okM hM → zRK hC hM → zJP hC → zRT hC hM → zK p l e s m below meth c b (u1 + 1) (u2 + 10000) 1355 x [] hC hM) : zK p l e s m below meth c b u1 u2 1227 x [] hC hM := by
  refine zk_aload1 C0 (zdk ttL_14 27 rfl rfl) ?_
  refine zk_aload0 C0 (zdk ttL_14 28 rfl rfl) ?_
  refine zk_iload3 C0 (zdk ttL_14 29 rfl rfl) ?_
  refine zk_iconst C0 (zdk ttL_14 30 rfl rfl) ?_
  refine zk_iadd C0 (zdk ttL_14 31 rfl rfl) ?_
  refine zk_sld C0 hL (i := (x + 1)) (by omega) (zdk ttL_14 32 rfl rfl) ?_
  refine zk_aload0 C0 (zdk ttL_14 33 rfl rfl) ?_
  refine zk_iload3 C0 (zdk ttL_14 34 rfl rfl) ?_
  refine zk_iconst C0 (zdk ttL_14 35 rfl rfl) ?_
  refine zk_iadd C0 (zdk ttL_14 36 rfl rfl) ?_
  refine zk_sld C0 hL (i := (x + 2)) (by omega) (zdk ttL_14 37 rfl rfl) ?_
  refine zk_aload0 C0 (zdk ttL_14 38 rfl rfl) ?_
  refine zk_iload3 C0 (zdk ttL_14 39 rfl rfl) ?_
  refine zk_iconst C0 (zdk ttL_14 40 rfl rfl) ?_
  refine zk_iadd C0 (zdk ttL_14 41 rfl rfl) ?_
  refine zk_sld C0 hL (i := (x + 3)) (by omega) (zdk ttL_14 42 rfl rfl) ?_
  refine zk_aload0 C0 (zdk ttL_14 43 rfl rfl) ?_
  refine zk_iload3 C0 (zdk ttL_14 44 rfl rfl) ?_
  refine zk_iconst C0 (zdk ttL_14 45 rfl rfl) ?_
  refine zk_iadd C0 (zdk ttL_14 46 rfl rfl) ?_
  refine zk_sld C0 hL (i := (x + 4)) (by omega) (zdk ttL_14 47 rfl rfl) ?_
  refine zk_callC C0 sC [(xs ((x + 1)).toNat).toInt, (xs ((x + 2)).toNat).toInt, (xs ((x + 3)).toNat).toInt, (xs ((x + 4)).toNat).toInt] (zdk ttL_14 48 rfl rfl) mb_X10_game mv_RL_147 rfl rfl rfl (Nat.le_of_ble_eq_true rfl) (s_X10_game l hC (xs ((x + 1)).toNat).toInt (xs ((x + 2)).toNat).toInt (xs ((x + 3)).toNat).toInt (xs ((x + 4)).toNat).toInt sC (zxs xs _) (zxs xs _) (zxs xs _) (zxs xs _)) ⟨rfl, rfl, ⟨Nat.le_of_ble_eq_true rfl, Nat.le_of_ble_eq_true rfl⟩, by show u1 + 0 ≤ 600000; omega, by show u2 + 0 ≤ 7302250; omega⟩ (fun v599 h600 q601 => ?_)
  have s602 : okC h600 := q601.2.1
  have j603 : zJP h600 := zJP_f sC (fun a b z => zfC_a q601.2.2 (fun w => by unfold zpJ at z; unfold w_X10_game at w; omega)) j0
  refine zk_pop C0 (zdk ttL_14 49 rfl rfl) ?_
  refine zk_aload2 C0 (zdk ttL_14 50 rfl rfl) ?_
  refine zk_aload0 C0 (zdk ttL_14 51 rfl rfl) ?_
  refine zk_iload3 C0 (zdk ttL_14 52 rfl rfl) ?_
  refine zk_iconst C0 (zdk ttL_14 53 rfl rfl) ?_
  refine zk_iadd C0 (zdk ttL_14 54 rfl rfl) ?_
  refine zk_sld C0 hL (i := (x + 1)) (by omega) (zdk ttL_14 55 rfl rfl) ?_
  refine zk_aload0 C0 (zdk ttL_14 56 rfl rfl) ?_
  refine zk_iload3 C0 (zdk ttL_14 57 rfl rfl) ?_
  refine zk_iconst C0 (zdk ttL_14 58 rfl rfl) ?_
  refine zk_iadd C0 (zdk ttL_14 59 rfl rfl) ?_
  refine zk_sld C0 hL (i := (x + 2)) (by omega) (zdk ttL_15 0 rfl rfl) ?_
  refine zk_aload0 C0 (zdk ttL_15 1 rfl rfl) ?_
  refine zk_iload3 C0 (zdk ttL_15 2 rfl rfl) ?_
  refine zk_iconst C0 (zdk ttL_15 3 rfl rfl) ?_
  refine zk_iadd C0 (zdk ttL_15 4 rfl rfl) ?_
  refine zk_sld C0 hL (i := (x + 3)) (by omega) (zdk ttL_15 5 rfl rfl) ?_
  refine zk_aload0 C0 (zdk ttL_15 6 rfl rfl) ?_
  refine zk_iload3 C0 (zdk ttL_15 7 rfl rfl) ?_
  refine zk_iconst C0 (zdk ttL_15 8 rfl rfl) ?_
  refine zk_iadd C0 (zdk ttL_15 9 rfl rfl) ?_
  refine zk_sld C0 hL (i := (x + 4)) (by omega) (zdk ttL_15 10 rfl rfl) ?_
  refine zk_callM C0 sM [(xs ((x + 1)).toNat).toInt, (xs ((x + 2)).toNat).toInt, (xs ((x + 3)).toNat).toInt, (xs ((x + 4)).toNat).toInt] (zdk ttL_15 11 rfl rfl) mb_X11_game mv_RL_150 rfl rfl rfl (Nat.le_of_ble_eq_true rfl) (s_X11_game l hM (xs ((x + 1)).toNat).toInt (xs ((x + 2)).toNat).toInt (xs ((x + 3)).toNat).toInt (xs ((x + 4)).toNat).toInt sM (zxs xs _) (zxs xs _) (zxs xs _) (zxs xs _)) ⟨rfl, rfl, ⟨Nat.le_of_ble_eq_true rfl, Nat.le_of_ble_eq_true rfl⟩, by show (u1 + 0) + 0 ≤ 600000; omega, by show (u2 + 0) + 0 ≤ 7302250; omega⟩ (fun v604 h605 q606 => ?_)
  have s607 : okM h605 := q606.2.1
  have r608 : zRK h600 h605 := rk_f r0 (fun a b z => zfC_a q601.2.2 (fun w => by unfold zpC at z; unfold w_X10_game at w; omega)) (rkM q606.2.2 rfl)
  have t609 : zRT h600 h605 := zRT_f t0 (fun a b z => zfC_a q601.2.2 (fun w => by unfold zpT at z; unfold w_X10_game at w; omega)) (rkT q606.2.2 rfl)
  refine zk_pop C0 (zdk ttL_15 12 rfl rfl) ?_
  refine zk_goto C0 (t := 1355) (zdk ttL_15 13 rfl rfl) (by decide) ?_
  exact zk_widen (by omega) (by omega) (kk h600 h605 s602 s607 r608 j603 t609)
set_option maxHeartbeats 4000000 in
theorem lc_32 (C0 : lw_At p s m meth c b L xs) (hL : L ≤ 3072) (sC : okC hC) (sM : okM hM) (r0 : zRK hC hM) (j0 : zJP hC) (t0 : zRT hC hM) (hx0 : 0 ≤ x ∧ x + 6 ≤ L) (hu1 : u1 ≤ 599999) (hu2 : u2 ≤ 7292250) (kk : ∀ hC hM, okC hC → okM hM → zRK hC hM → zJP hC → zRT hC hM → zK p l e s m below meth c b (u1 + 1) (u2 + 10000) 1355 x [] hC hM) : zK p l e s m below meth c b u1 u2 1280 x [] hC hM := by
  refine zk_aload1 C0 (zdk ttL_15 14 rfl rfl) ?_
  refine zk_callC C0 sC [] (zdk ttL_15 15 rfl rfl) mb_X10_undo mv_RL_151 rfl rfl rfl (Nat.le_of_ble_eq_true rfl) (s_X10_undo l hC sC ) ⟨rfl, rfl, ⟨Nat.le_of_ble_eq_true rfl, Nat.le_of_ble_eq_true rfl⟩, by show u1 + 0 ≤ 600000; omega, by show u2 + 0 ≤ 7302250; omega⟩ (fun v610 h611 q612 => ?_)
  have s613 : okC h611 := q612.2.1
  have j614 : zJP h611 := (q612.2.2.2 j0).1
  refine zk_pop C0 (zdk ttL_15 16 rfl rfl) ?_
  refine zk_aload2 C0 (zdk ttL_15 17 rfl rfl) ?_
  refine zk_callM C0 sM [] (zdk ttL_15 18 rfl rfl) mb_X11_undo mv_RL_155 rfl rfl rfl (Nat.le_of_ble_eq_true rfl) (s_X11_undo l hM sM ) ⟨rfl, rfl, ⟨Nat.le_of_ble_eq_true rfl, Nat.le_of_ble_eq_true rfl⟩, by show (u1 + 0) + 0 ≤ 600000; omega, by show (u2 + 0) + 0 ≤ 7302250; omega⟩ (fun v615 h616 q617 => ?_)
  have s618 : okM h616 := q617.2.1
  have e620 : h611.2 28 2 = hC.2 28 2 := zfC_a q612.2.2.1 (fun w => by unfold w_X10_undo at w; first | (revert w; decide) | omega)
  have e621 : h611.2 28 4 = hC.2 28 4 := zfC_a q612.2.2.1 (fun w => by unfold w_X10_undo at w; first | (revert w; decide) | omega)
  have e622 : h611.2 28 6 = hC.2 28 6 := zfC_a q612.2.2.1 (fun w => by unfold w_X10_undo at w; first | (revert w; decide) | omega)
  have e623 : h611.2 28 9 = hC.2 28 9 := zfC_a q612.2.2.1 (fun w => by unfold w_X10_undo at w; first | (revert w; decide) | omega)
  have e624 : h611.2 62 2 = hC.2 62 2 := zfC_a q612.2.2.1 (fun w => by unfold w_X10_undo at w; first | (revert w; decide) | omega)
  have e625 : h611.2 62 4 = hC.2 62 4 := zfC_a q612.2.2.1 (fun w => by unfold w_X10_undo at w; first | (revert w; decide) | omega)
  have e626 : h611.2 62 6 = hC.2 62 6 := zfC_a q612.2.2.1 (fun w => by unfold w_X10_undo at w; first | (revert w; decide) | omega)
  have e627 : h611.2 62 9 = hC.2 62 9 := zfC_a q612.2.2.1 (fun w => by unfold w_X10_undo at w; first | (revert w; decide) | omega)
  have e628 : h611.2 0 9 = hC.2 0 9 := zfC_a q612.2.2.1 (fun w => by unfold w_X10_undo at w; first | (revert w; decide) | omega)
  have e629 : h611.2 103 3 = hC.2 103 3 := zfC_a q612.2.2.1 (fun w => by unfold w_X10_undo at w; first | (revert w; decide) | omega)
  have e630 : h611.2 36 3 = hC.2 36 3 := zfC_a q612.2.2.1 (fun w => by unfold w_X10_undo at w; first | (revert w; decide) | omega)
  have e631 : h616.2 0 42 = hM.2 0 42 := zfr_f q617.2.2 rfl rfl
  have e632 : h616.2 0 45 = hM.2 0 45 := zfr_f q617.2.2 rfl rfl
  have e633 : h616.2 0 49 = hM.2 0 49 := zfr_f q617.2.2 rfl rfl
  have e634 : h616.2 0 53 = hM.2 0 53 := zfr_f q617.2.2 rfl rfl
  have e635 : h616.2 35 67 = hM.2 35 67 := zfr_a q617.2.2 rfl (by decide)
  have e636 : h616.2 35 68 = hM.2 35 68 := zfr_a q617.2.2 rfl (by decide)
  have e637 : h616.2 35 69 = hM.2 35 69 := zfr_a q617.2.2 rfl (by decide)
  have e638 : h616.2 35 70 = hM.2 35 70 := zfr_a q617.2.2 rfl (by decide)
  have e639 : h616.2 0 59 = hM.2 0 59 := zfr_f q617.2.2 rfl rfl
  have e640 : h616.2 0 11 = hM.2 0 11 := zfr_f q617.2.2 rfl rfl
  have e641 : h616.2 0 6 = hM.2 0 6 := zfr_f q617.2.2 rfl rfl
  have e642 : h616.2 35 63 = hM.2 35 63 := zfr_a q617.2.2 rfl (by decide)
  have p643 := (q612.2.2.2 j0).2
  have r619 : zRK h611 h616 := ⟨(e620.trans (r0.1.trans e631.symm)), (e621.trans (r0.2.1.trans e632.symm)), (e622.trans (r0.2.2.1.trans e633.symm)), (e623.trans (r0.2.2.2.1.trans e634.symm)), (fun z => have z9 := r0.2.2.2.2.1 ((e639.symm).trans z); ⟨e624.trans (z9.1.trans e635.symm), e625.trans (z9.2.1.trans e636.symm), e626.trans (z9.2.2.1.trans e637.symm), e627.trans (z9.2.2.2.1.trans e638.symm), e630.trans (z9.2.2.2.2.trans e642.symm)⟩), (e628.trans (r0.2.2.2.2.2.1.trans e639.symm)), (e629.trans (r0.2.2.2.2.2.2.1.trans e640.symm)), (p643.trans (r0.2.2.2.2.2.2.2.trans e641.symm))⟩
  have t644 : zRT h611 h616 := zRT_f t0 (fun a b z => zfC_a q612.2.2.1 (fun w => by unfold zpT at z; unfold w_X10_undo at w; omega)) (rkT q617.2.2 rfl)
  refine zk_pop C0 (zdk ttL_15 19 rfl rfl) ?_
  refine zk_goto C0 (t := 1355) (zdk ttL_15 20 rfl rfl) (by decide) ?_
  exact zk_widen (by omega) (by omega) (kk h611 h616 s613 s618 r619 j614 t644)
set_option maxHeartbeats 4000000 in
theorem lc_33 (C0 : lw_At p s m meth c b L xs) (hL : L ≤ 3072) (sC : okC hC) (sM : okM hM) (r0 : zRK hC hM) (j0 : zJP hC) (t0 : zRT hC hM) (hx0 : 0 ≤ x ∧ x + 6 ≤ L) (hu1 : u1 ≤ 599999) (hu2 : u2 ≤ 7292250) (kk : ∀ hC hM, okC hC → okM hM → zRK hC hM → zJP hC → zRT hC hM → zK p l e s m below meth c b (u1 + 1) (u2 + 10000) 1355 x [] hC hM) : zK p l e s m below meth c b u1 u2 1293 x [] hC hM := by
  refine zk_aload1 C0 (zdk ttL_15 21 rfl rfl) ?_
  refine zk_aload0 C0 (zdk ttL_15 22 rfl rfl) ?_
  refine zk_iload3 C0 (zdk ttL_15 23 rfl rfl) ?_
  refine zk_iconst C0 (zdk ttL_15 24 rfl rfl) ?_
  refine zk_iadd C0 (zdk ttL_15 25 rfl rfl) ?_
  refine zk_sld C0 hL (i := (x + 1)) (by omega) (zdk ttL_15 26 rfl rfl) ?_
  refine zk_if_eq C0 (t := 1306) (zdk ttL_15 27 rfl rfl) (by decide) (zxs xs _) (fun c645 => ?_) (fun c645 => ?_)
  · refine zk_iconst C0 (zdk ttL_15 30 rfl rfl) ?_
    refine zk_callC C0 sC [0] (zdk ttL_15 31 rfl rfl) mb_X10_image mv_RL_156 rfl rfl rfl (Nat.le_of_ble_eq_true rfl) (s_X10_image l hC 0 sC (by decide)) ⟨rfl, rfl, ⟨Nat.le_of_ble_eq_true rfl, Nat.le_of_ble_eq_true rfl⟩, by show u1 + 0 ≤ 600000; omega, by show u2 + 0 ≤ 7302250; omega⟩ (fun v646 h647 q648 => ?_)
    have s649 : okC h647 := q648.2.1
    have j650 : zJP h647 := q648.2.2.2.2.2.2.2.2.2 j0
    refine zk_pop C0 (zdk ttL_15 32 rfl rfl) ?_
    refine zk_aload2 C0 (zdk ttL_15 33 rfl rfl) ?_
    refine zk_aload0 C0 (zdk ttL_15 34 rfl rfl) ?_
    refine zk_iload3 C0 (zdk ttL_15 35 rfl rfl) ?_
    refine zk_iconst C0 (zdk ttL_15 36 rfl rfl) ?_
    refine zk_iadd C0 (zdk ttL_15 37 rfl rfl) ?_
    refine zk_sld C0 hL (i := (x + 1)) (by omega) (zdk ttL_15 38 rfl rfl) ?_
    refine zk_if_eq C0 (t := 1324) (zdk ttL_15 39 rfl rfl) (by decide) (zxs xs _) (fun c651 => ?_) (fun c651 => ?_)
    · refine zk_iconst C0 (zdk ttL_15 42 rfl rfl) ?_
      refine zk_callM C0 sM [0] (zdk ttL_15 43 rfl rfl) mb_X11_image mv_RL_160 rfl rfl rfl (Nat.le_of_ble_eq_true rfl) (s2_X11_image l hM 0 sM.B (by decide) sM) ⟨rfl, rfl, ⟨Nat.le_of_ble_eq_true rfl, Nat.le_of_ble_eq_true rfl⟩, by show (u1 + 0) + 0 ≤ 600000; omega, by show (u2 + 0) + 0 ≤ 7302250; omega⟩ (fun v652 h653 q654 => ?_)
      have s655 : okM h653 := q654.2.2.2.1
      have e657 : h647.2 103 3 = hC.2 103 3 := zfC_a q648.2.2.1 (fun w => by unfold w_X10_image at w; first | (revert w; decide) | omega)
      have e658 : h653.2 0 11 = hM.2 0 11 := zfr_f q654.2.2.1 rfl rfl
      have p659 := q648.2.2.2.1
      have p660 := q648.2.2.2.2.1
      have p661 := q648.2.2.2.2.2.1
      have p662 := q648.2.2.2.2.2.2.1
      have p663 := q648.2.2.2.2.2.2.2.1
      have p664 := q648.2.2.2.2.2.2.2.2.1
      have p665 := q654.2.2.2.2.1
      have p666 := q654.2.2.2.2.2.1
      have p667 := q654.2.2.2.2.2.2.1
      have p668 := q654.2.2.2.2.2.2.2.1
      have p669 := q654.2.2.2.2.2.2.2.2.1
      have p670 := q654.2.2.2.2.2.2.2.2.2
      have zw9_670 := zimc_r p659 p665 r0.2.2.2.2.2.1
      have zw9_670b := fb_L0_9 sC
      have zw9_670_0 := zimx_r p660 p666 p665 r0.2.2.2.2.2.1 zw9_670b r0.1 (fun z => (r0.2.2.2.2.1 z).1)
      have zw9_670_1 := zimx_r p661 p667 p665 r0.2.2.2.2.2.1 zw9_670b r0.2.1 (fun z => (r0.2.2.2.2.1 z).2.1)
      have zw9_670_2 := zimx_r p662 p668 p665 r0.2.2.2.2.2.1 zw9_670b r0.2.2.1 (fun z => (r0.2.2.2.2.1 z).2.2.1)
      have zw9_670_3 := zimx_r p663 p669 p665 r0.2.2.2.2.2.1 zw9_670b r0.2.2.2.1 (fun z => (r0.2.2.2.2.1 z).2.2.2.1)
      have zw9_670_4 := zimx_r p664 p670 p665 r0.2.2.2.2.2.1 zw9_670b r0.2.2.2.2.2.2.2 (fun z => (r0.2.2.2.2.1 z).2.2.2.2)
      have r656 : zRK h647 h653 := ⟨zw9_670_0.1, zw9_670_1.1, zw9_670_2.1, zw9_670_3.1, (fun z => ⟨zw9_670_0.2 z, zw9_670_1.2 z, zw9_670_2.2 z, zw9_670_3.2 z, zw9_670_4.2 z⟩), zw9_670.2, (e657.trans (r0.2.2.2.2.2.2.1.trans e658.symm)), zw9_670_4.1⟩
      have t671 : zRT h647 h653 := zRT_f t0 (fun a b z => zfC_a q648.2.2.1 (fun w => by unfold zpT at z; unfold w_X10_image at w; omega)) (rkT q654.2.2.1 rfl)
      refine zk_pop C0 (zdk ttL_15 44 rfl rfl) ?_
      refine zk_goto C0 (t := 1355) (zdk ttL_15 45 rfl rfl) (by decide) ?_
      exact zk_widen (by omega) (by omega) (kk h647 h653 s649 s655 r656 j650 t671)
    · exact absurd c645 c651
  · refine zk_iconst C0 (zdk ttL_15 28 rfl rfl) ?_
    refine zk_goto C0 (t := 1307) (zdk ttL_15 29 rfl rfl) (by decide) ?_
    refine zk_callC C0 sC [1] (zdk ttL_15 31 rfl rfl) mb_X10_image mv_RL_156 rfl rfl rfl (Nat.le_of_ble_eq_true rfl) (s_X10_image l hC 1 sC (by decide)) ⟨rfl, rfl, ⟨Nat.le_of_ble_eq_true rfl, Nat.le_of_ble_eq_true rfl⟩, by show u1 + 0 ≤ 600000; omega, by show u2 + 0 ≤ 7302250; omega⟩ (fun v672 h673 q674 => ?_)
    have s675 : okC h673 := q674.2.1
    have j676 : zJP h673 := q674.2.2.2.2.2.2.2.2.2 j0
    refine zk_pop C0 (zdk ttL_15 32 rfl rfl) ?_
    refine zk_aload2 C0 (zdk ttL_15 33 rfl rfl) ?_
    refine zk_aload0 C0 (zdk ttL_15 34 rfl rfl) ?_
    refine zk_iload3 C0 (zdk ttL_15 35 rfl rfl) ?_
    refine zk_iconst C0 (zdk ttL_15 36 rfl rfl) ?_
    refine zk_iadd C0 (zdk ttL_15 37 rfl rfl) ?_
    refine zk_sld C0 hL (i := (x + 1)) (by omega) (zdk ttL_15 38 rfl rfl) ?_
    refine zk_if_eq C0 (t := 1324) (zdk ttL_15 39 rfl rfl) (by decide) (zxs xs _) (fun c677 => ?_) (fun c677 => ?_)
    · exact absurd c677 c645
    · refine zk_iconst C0 (zdk ttL_15 40 rfl rfl) ?_
      refine zk_goto C0 (t := 1325) (zdk ttL_15 41 rfl rfl) (by decide) ?_
      refine zk_callM C0 sM [1] (zdk ttL_15 43 rfl rfl) mb_X11_image mv_RL_160 rfl rfl rfl (Nat.le_of_ble_eq_true rfl) (s2_X11_image l hM 1 sM.B (by decide) sM) ⟨rfl, rfl, ⟨Nat.le_of_ble_eq_true rfl, Nat.le_of_ble_eq_true rfl⟩, by show (u1 + 0) + 0 ≤ 600000; omega, by show (u2 + 0) + 0 ≤ 7302250; omega⟩ (fun v678 h679 q680 => ?_)
      have s681 : okM h679 := q680.2.2.2.1
      have e683 : h673.2 103 3 = hC.2 103 3 := zfC_a q674.2.2.1 (fun w => by unfold w_X10_image at w; first | (revert w; decide) | omega)
      have e684 : h679.2 0 11 = hM.2 0 11 := zfr_f q680.2.2.1 rfl rfl
      have p685 := q674.2.2.2.1
      have p686 := q674.2.2.2.2.1
      have p687 := q674.2.2.2.2.2.1
      have p688 := q674.2.2.2.2.2.2.1
      have p689 := q674.2.2.2.2.2.2.2.1
      have p690 := q674.2.2.2.2.2.2.2.2.1
      have p691 := q680.2.2.2.2.1
      have p692 := q680.2.2.2.2.2.1
      have p693 := q680.2.2.2.2.2.2.1
      have p694 := q680.2.2.2.2.2.2.2.1
      have p695 := q680.2.2.2.2.2.2.2.2.1
      have p696 := q680.2.2.2.2.2.2.2.2.2
      have zw9_696 := zimc_r p685 p691 r0.2.2.2.2.2.1
      have zw9_696b := fb_L0_9 sC
      have zw9_696_0 := zimx_r p686 p692 p691 r0.2.2.2.2.2.1 zw9_696b r0.1 (fun z => (r0.2.2.2.2.1 z).1)
      have zw9_696_1 := zimx_r p687 p693 p691 r0.2.2.2.2.2.1 zw9_696b r0.2.1 (fun z => (r0.2.2.2.2.1 z).2.1)
      have zw9_696_2 := zimx_r p688 p694 p691 r0.2.2.2.2.2.1 zw9_696b r0.2.2.1 (fun z => (r0.2.2.2.2.1 z).2.2.1)
      have zw9_696_3 := zimx_r p689 p695 p691 r0.2.2.2.2.2.1 zw9_696b r0.2.2.2.1 (fun z => (r0.2.2.2.2.1 z).2.2.2.1)
      have zw9_696_4 := zimx_r p690 p696 p691 r0.2.2.2.2.2.1 zw9_696b r0.2.2.2.2.2.2.2 (fun z => (r0.2.2.2.2.1 z).2.2.2.2)
      have r682 : zRK h673 h679 := ⟨zw9_696_0.1, zw9_696_1.1, zw9_696_2.1, zw9_696_3.1, (fun z => ⟨zw9_696_0.2 z, zw9_696_1.2 z, zw9_696_2.2 z, zw9_696_3.2 z, zw9_696_4.2 z⟩), zw9_696.2, (e683.trans (r0.2.2.2.2.2.2.1.trans e684.symm)), zw9_696_4.1⟩
      have t697 : zRT h673 h679 := zRT_f t0 (fun a b z => zfC_a q674.2.2.1 (fun w => by unfold zpT at z; unfold w_X10_image at w; omega)) (rkT q680.2.2.1 rfl)
      refine zk_pop C0 (zdk ttL_15 44 rfl rfl) ?_
      refine zk_goto C0 (t := 1355) (zdk ttL_15 45 rfl rfl) (by decide) ?_
      exact zk_widen (by omega) (by omega) (kk h673 h679 s675 s681 r682 j676 t697)
set_option maxHeartbeats 4000000 in
theorem lc_34 (C0 : lw_At p s m meth c b L xs) (hL : L ≤ 3072) (sC : okC hC) (sM : okM hM) (r0 : zRK hC hM) (j0 : zJP hC) (t0 : zRT hC hM) (hx0 : 0 ≤ x ∧ x + 6 ≤ L) (hu1 : u1 ≤ 599999) (hu2 : u2 ≤ 7292250) (kk : ∀ hC hM, okC hC → okM hM → zRK hC hM → zJP hC → zRT hC hM → zK p l e s m below meth c b (u1 + 1) (u2 + 10000) 1355 x [] hC hM) : zK p l e s m below meth c b u1 u2 1332 x [] hC hM := by
  refine zk_aload1 C0 (zdk ttL_15 46 rfl rfl) ?_
  refine zk_aload0 C0 (zdk ttL_15 47 rfl rfl) ?_
  refine zk_iload3 C0 (zdk ttL_15 48 rfl rfl) ?_
  refine zk_iconst C0 (zdk ttL_15 49 rfl rfl) ?_
  refine zk_iadd C0 (zdk ttL_15 50 rfl rfl) ?_
  refine zk_sld C0 hL (i := (x + 1)) (by omega) (zdk ttL_15 51 rfl rfl) ?_
  refine zk_callC C0 sC [(xs ((x + 1)).toNat).toInt] (zdk ttL_15 52 rfl rfl) mb_X10_look mv_RL_161 rfl rfl rfl (Nat.le_of_ble_eq_true rfl) (s_X10_look l hC (xs ((x + 1)).toNat).toInt sC (zxs xs _)) ⟨rfl, rfl, ⟨Nat.le_of_ble_eq_true rfl, Nat.le_of_ble_eq_true rfl⟩, by show u1 + 0 ≤ 600000; omega, by show u2 + 0 ≤ 7302250; omega⟩ (fun v698 h699 q700 => ?_)
  have s701 : okC h699 := q700.2.1
  have j702 : zJP h699 := zJP_f sC (fun a b z => zfC_a q700.2.2 (fun w => by unfold zpJ at z; unfold w_X10_look at w; omega)) j0
  refine zk_pop C0 (zdk ttL_15 53 rfl rfl) ?_
  refine zk_aload2 C0 (zdk ttL_15 54 rfl rfl) ?_
  refine zk_aload0 C0 (zdk ttL_15 55 rfl rfl) ?_
  refine zk_iload3 C0 (zdk ttL_15 56 rfl rfl) ?_
  refine zk_iconst C0 (zdk ttL_15 57 rfl rfl) ?_
  refine zk_iadd C0 (zdk ttL_15 58 rfl rfl) ?_
  refine zk_sld C0 hL (i := (x + 1)) (by omega) (zdk ttL_15 59 rfl rfl) ?_
  refine zk_callM C0 sM [(xs ((x + 1)).toNat).toInt] (zdk ttL_16 0 rfl rfl) mb_X11_look mv_RL_164 rfl rfl rfl (Nat.le_of_ble_eq_true rfl) (s_X11_look l hM (xs ((x + 1)).toNat).toInt sM (zxs xs _)) ⟨rfl, rfl, ⟨Nat.le_of_ble_eq_true rfl, Nat.le_of_ble_eq_true rfl⟩, by show (u1 + 0) + 0 ≤ 600000; omega, by show (u2 + 0) + 0 ≤ 7302250; omega⟩ (fun v703 h704 q705 => ?_)
  have s706 : okM h704 := q705.2.1
  have r707 : zRK h699 h704 := rk_f r0 (fun a b z => zfC_a q700.2.2 (fun w => by unfold zpC at z; unfold w_X10_look at w; omega)) (rkM q705.2.2 rfl)
  have t708 : zRT h699 h704 := zRT_f t0 (fun a b z => zfC_a q700.2.2 (fun w => by unfold zpT at z; unfold w_X10_look at w; omega)) (rkT q705.2.2 rfl)
  refine zk_pop C0 (zdk ttL_16 1 rfl rfl) ?_
  refine zk_goto C0 (t := 1355) (zdk ttL_16 2 rfl rfl) (by decide) ?_
  exact zk_widen (by omega) (by omega) (kk h699 h704 s701 s706 r707 j702 t708)
end ZLC
set_option maxHeartbeats 4000000 in
theorem law_loop {p : Program} {l : Launch} {e : Env} {s : State} {m : MethodId} {below : List Frame} {meth : Method} {c : Code} {b L : Nat} {xs : Nat → Int32} (C0 : lw_At p s m meth c b L xs) (hL : L ≤ 3072) : ∀ (n : Nat) (x : Int) (hC hM : zM), 0 ≤ x → x ≤ 3078 → okC hC → okM hM → zRK hC hM → zJP hC → zRT hC hM → (3080 - x).toNat < n → zK p l e s m below meth c b (1000 + x.toNat) (200000 + 2000 * x.toNat) 18 x [] hC hM := by
  intro n
  induction n with
  | zero => intro x hC hM _ _ _ _ _ _ _ hm; exact absurd hm (Nat.not_lt_zero _)
  | succ n ih =>
    intro x hC hM hx0 hx1 sC sM r0 j0 t0 hm
    refine zk_iload3 C0 (zdk ttL_0 10 rfl rfl) ?_
    refine zk_aload0 C0 (zdk ttL_0 11 rfl rfl) ?_
    refine zk_len C0 (zdk ttL_0 12 rfl rfl) ?_
    refine zk_bipush C0 (zdk ttL_0 13 rfl rfl) (by decide) ?_
    refine zk_isub C0 (zdk ttL_0 14 rfl rfl) ?_
    refine zk_icmp_gt C0 (t := 1361) (zdk ttL_0 15 rfl rfl) (by decide) (by omega) (by omega) (fun c1 => ?_) (fun c1 => ?_)
    · refine zk_iconst C0 (zdk ttL_16 5 rfl rfl) ?_
      exact zk_end C0 (zdk ttL_16 6 rfl rfl).1 (by omega) (by omega)
    · have hxL : 0 ≤ x ∧ x + 6 ≤ L := by omega
      have kk : ∀ hC hM, okC hC → okM hM → zRK hC hM → zJP hC → zRT hC hM → zK p l e s m below meth c b (1000 + x.toNat + 1) (200000 + 2000 * x.toNat + 10000) 1355 x [] hC hM := by
        intro hC hM sC sM r0 j0 t0
        refine zk_iinc C0 (zdk ttL_16 3 rfl rfl) ?_
        refine zk_goto C0 (t := 18) (zdk ttL_16 4 rfl rfl) (by decide) ?_
        exact zk_widen (by omega) (by omega) (ih (x + 6) hC hM (by omega) (by omega) sC sM r0 j0 t0 (by omega))
      refine zk_aload0 C0 (zdk ttL_0 16 rfl rfl) ?_
      refine zk_iload3 C0 (zdk ttL_0 17 rfl rfl) ?_
      refine zk_sld C0 hL (by omega) (zdk ttL_0 18 rfl rfl) ?_
      refine zk_bipush C0 (zdk ttL_0 19 rfl rfl) (by decide) ?_
      refine zk_iand C0 (zdk ttL_0 20 rfl rfl) ?_
      have hz := zand_m (d := 64) 6 (by decide) (c := 63) (by decide) (by decide) (xs x.toNat).toInt
      generalize zand (xs x.toNat).toInt 63 = v at hz ⊢
      refine zk_table C0 (t := 1355) (zdk ttL_0 21 rfl rfl) (by omega) (by decide) (fun _ => zk_widen (by omega) (by omega) (kk hC hM sC sM r0 j0 t0)) (fun z1 z2 => ?_)
      have z3 : v = 0 ∨ v = 1 ∨ v = 2 ∨ v = 3 ∨ v = 4 ∨ v = 5 ∨ v = 6 ∨ v = 7 ∨ v = 8 ∨ v = 9 ∨ v = 10 ∨ v = 11 ∨ v = 12 ∨ v = 13 ∨ v = 14 ∨ v = 15 ∨ v = 16 ∨ v = 17 ∨ v = 18 ∨ v = 19 ∨ v = 20 ∨ v = 21 ∨ v = 22 ∨ v = 23 ∨ v = 24 ∨ v = 25 ∨ v = 26 ∨ v = 27 ∨ v = 28 ∨ v = 29 ∨ v = 30 ∨ v = 31 ∨ v = 32 ∨ v = 33 ∨ v = 34 := by omega
      rcases z3 with z3 | z3 | z3 | z3 | z3 | z3 | z3 | z3 | z3 | z3 | z3 | z3 | z3 | z3 | z3 | z3 | z3 | z3 | z3 | z3 | z3 | z3 | z3 | z3 | z3 | z3 | z3 | z3 | z3 | z3 | z3 | z3 | z3 | z3 | z3
      · exact ⟨155, 188, by rw [z3] <;> rfl, by decide, lc_0 C0 hL sC sM r0 j0 t0 hxL (by omega) (by omega) kk⟩
      · exact ⟨178, 211, by rw [z3] <;> rfl, by decide, lc_1 C0 hL sC sM r0 j0 t0 hxL (by omega) (by omega) kk⟩
      · exact ⟨211, 244, by rw [z3] <;> rfl, by decide, lc_2 C0 hL sC sM r0 j0 t0 hxL (by omega) (by omega) kk⟩
      · exact ⟨254, 287, by rw [z3] <;> rfl, by decide, lc_3 C0 hL sC sM r0 j0 t0 hxL (by omega) (by omega) kk⟩
      · exact ⟨287, 320, by rw [z3] <;> rfl, by decide, lc_4 C0 hL sC sM r0 j0 t0 hxL (by omega) (by omega) kk⟩
      · exact ⟨310, 343, by rw [z3] <;> rfl, by decide, lc_5 C0 hL sC sM r0 j0 t0 hxL (by omega) (by omega) kk⟩
      · exact ⟨373, 406, by rw [z3] <;> rfl, by decide, lc_6 C0 hL sC sM r0 j0 t0 hxL (by omega) (by omega) kk⟩
      · exact ⟨396, 429, by rw [z3] <;> rfl, by decide, lc_7 C0 hL sC sM r0 j0 t0 hxL (by omega) (by omega) kk⟩
      · exact ⟨419, 452, by rw [z3] <;> rfl, by decide, lc_8 C0 hL sC sM r0 j0 t0 hxL (by omega) (by omega) kk⟩
      · exact ⟨442, 475, by rw [z3] <;> rfl, by decide, lc_9 C0 hL sC sM r0 j0 t0 hxL (by omega) (by omega) kk⟩
      · exact ⟨475, 508, by rw [z3] <;> rfl, by decide, lc_10 C0 hL sC sM r0 j0 t0 hxL (by omega) (by omega) kk⟩
      · exact ⟨508, 541, by rw [z3] <;> rfl, by decide, lc_11 C0 hL sC sM r0 j0 t0 hxL (by omega) (by omega) kk⟩
      · exact ⟨541, 574, by rw [z3] <;> rfl, by decide, lc_12 C0 hL sC sM r0 j0 t0 hxL (by omega) (by omega) kk⟩
      · exact ⟨554, 587, by rw [z3] <;> rfl, by decide, lc_13 C0 hL sC sM r0 j0 t0 hxL (by omega) (by omega) kk⟩
      · exact ⟨587, 620, by rw [z3] <;> rfl, by decide, lc_14 C0 hL sC sM r0 j0 t0 hxL (by omega) (by omega) kk⟩
      · exact ⟨620, 653, by rw [z3] <;> rfl, by decide, lc_15 C0 hL sC sM r0 j0 t0 hxL (by omega) (by omega) kk⟩
      · exact ⟨653, 686, by rw [z3] <;> rfl, by decide, lc_16 C0 hL sC sM r0 j0 t0 hxL (by omega) (by omega) kk⟩
      · exact ⟨702, 735, by rw [z3] <;> rfl, by decide, lc_17 C0 hL sC sM r0 j0 t0 hxL (by omega) (by omega) kk⟩
      · exact ⟨725, 758, by rw [z3] <;> rfl, by decide, lc_18 C0 hL sC sM r0 j0 t0 hxL (by omega) (by omega) kk⟩
      · exact ⟨758, 791, by rw [z3] <;> rfl, by decide, lc_19 C0 hL sC sM r0 j0 t0 hxL (by omega) (by omega) kk⟩
      · exact ⟨791, 824, by rw [z3] <;> rfl, by decide, lc_20 C0 hL sC sM r0 j0 t0 hxL (by omega) (by omega) kk⟩
      · exact ⟨834, 867, by rw [z3] <;> rfl, by decide, lc_21 C0 hL sC sM r0 j0 t0 hxL (by omega) (by omega) kk⟩
      · exact ⟨857, 890, by rw [z3] <;> rfl, by decide, lc_22 C0 hL sC sM r0 j0 t0 hxL (by omega) (by omega) kk⟩
      · exact ⟨870, 903, by rw [z3] <;> rfl, by decide, lc_23 C0 hL sC sM r0 j0 t0 hxL (by omega) (by omega) kk⟩
      · exact ⟨913, 946, by rw [z3] <;> rfl, by decide, lc_24 C0 hL sC sM r0 j0 t0 hxL (by omega) (by omega) kk⟩
      · exact ⟨956, 989, by rw [z3] <;> rfl, by decide, lc_25 C0 hL sC sM r0 j0 t0 hxL (by omega) (by omega) kk⟩
      · exact ⟨999, 1032, by rw [z3] <;> rfl, by decide, lc_26 C0 hL sC sM r0 j0 t0 hxL (by omega) (by omega) kk⟩
      · exact ⟨1042, 1075, by rw [z3] <;> rfl, by decide, lc_27 C0 hL sC sM r0 j0 t0 hxL (by omega) (by omega) kk⟩
      · exact ⟨1085, 1118, by rw [z3] <;> rfl, by decide, lc_28 C0 hL sC sM r0 j0 t0 hxL (by omega) (by omega) kk⟩
      · exact ⟨1138, 1171, by rw [z3] <;> rfl, by decide, lc_29 C0 hL sC sM r0 j0 t0 hxL (by omega) (by omega) kk⟩
      · exact ⟨1171, 1204, by rw [z3] <;> rfl, by decide, lc_30 C0 hL sC sM r0 j0 t0 hxL (by omega) (by omega) kk⟩
      · exact ⟨1194, 1227, by rw [z3] <;> rfl, by decide, lc_31 C0 hL sC sM r0 j0 t0 hxL (by omega) (by omega) kk⟩
      · exact ⟨1247, 1280, by rw [z3] <;> rfl, by decide, lc_32 C0 hL sC sM r0 j0 t0 hxL (by omega) (by omega) kk⟩
      · exact ⟨1260, 1293, by rw [z3] <;> rfl, by decide, lc_33 C0 hL sC sM r0 j0 t0 hxL (by omega) (by omega) kk⟩
      · exact ⟨1299, 1332, by rw [z3] <;> rfl, by decide, lc_34 C0 hL sC sM r0 j0 t0 hxL (by omega) (by omega) kk⟩
