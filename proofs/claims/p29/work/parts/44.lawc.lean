abbrev tL_0 : List (Nat × Instr × Nat) := [(0, .new 7, 3), (3, .dup, 1), (4, .invokespecial 9, 3), (7, .astore_n 1, 1), (8, .new 10, 3), (11, .dup, 1), (12, .invokespecial 12, 3), (15, .astore_n 2, 1), (16, .iconst 0, 1), (17, .istore_n 3, 1), (18, .iload_n 3, 1), (19, .aload_n 0, 1), (20, .arraylength, 1), (21, .bipush 6, 2), (23, .isub, 1), (24, .if_icmp .gt 1337, 3), (27, .aload_n 0, 1), (28, .iload_n 3, 1), (29, .iaload, 1), (30, .bipush 63, 2), (32, .iand, 1), (33, .tableswitch 1322 0 34 #[155, 178, 211, 254, 287, 310, 373, 396, 419, 442, 475, 508, 541, 554, 587, 620, 653, 702, 725, 758, 791, 834, 857, 870, 913, 956, 999, 1042, 1085, 1138, 1171, 1194, 1247, 1260, 1299], 155), (188, .aload_n 1, 1), (189, .aload_n 0, 1), (190, .iload_n 3, 1), (191, .iconst 1, 1), (192, .iadd, 1), (193, .iaload, 1), (194, .invokevirtual 13, 3), (197, .pop, 1), (198, .aload_n 2, 1), (199, .aload_n 0, 1), (200, .iload_n 3, 1), (201, .iconst 1, 1), (202, .iadd, 1), (203, .iaload, 1), (204, .invokevirtual 17, 3), (207, .pop, 1), (208, .goto 1147, 3), (211, .aload_n 1, 1), (212, .aload_n 0, 1), (213, .iload_n 3, 1), (214, .iconst 1, 1), (215, .iadd, 1), (216, .iaload, 1), (217, .aload_n 0, 1), (218, .iload_n 3, 1), (219, .iconst 2, 1), (220, .iadd, 1), (221, .iaload, 1), (222, .invokevirtual 18, 3), (225, .pop, 1), (226, .aload_n 2, 1), (227, .aload_n 0, 1), (228, .iload_n 3, 1), (229, .iconst 1, 1), (230, .iadd, 1), (231, .iaload, 1), (232, .aload_n 0, 1), (233, .iload_n 3, 1)]
theorem ttL_0 : zdt code tL_0 = true := by decide +kernel
abbrev tL_1 : List (Nat × Instr × Nat) := [(234, .iconst 2, 1), (235, .iadd, 1), (236, .iaload, 1), (237, .invokevirtual 22, 3), (240, .pop, 1), (241, .goto 1114, 3), (244, .aload_n 1, 1), (245, .aload_n 0, 1), (246, .iload_n 3, 1), (247, .iconst 1, 1), (248, .iadd, 1), (249, .iaload, 1), (250, .aload_n 0, 1), (251, .iload_n 3, 1), (252, .iconst 2, 1), (253, .iadd, 1), (254, .iaload, 1), (255, .aload_n 0, 1), (256, .iload_n 3, 1), (257, .iconst 3, 1), (258, .iadd, 1), (259, .iaload, 1), (260, .invokevirtual 23, 3), (263, .pop, 1), (264, .aload_n 2, 1), (265, .aload_n 0, 1), (266, .iload_n 3, 1), (267, .iconst 1, 1), (268, .iadd, 1), (269, .iaload, 1), (270, .aload_n 0, 1), (271, .iload_n 3, 1), (272, .iconst 2, 1), (273, .iadd, 1), (274, .iaload, 1), (275, .aload_n 0, 1), (276, .iload_n 3, 1), (277, .iconst 3, 1), (278, .iadd, 1), (279, .iaload, 1), (280, .invokevirtual 27, 3), (283, .pop, 1), (284, .goto 1071, 3), (287, .aload_n 1, 1), (288, .aload_n 0, 1), (289, .iload_n 3, 1), (290, .iconst 1, 1), (291, .iadd, 1), (292, .iaload, 1), (293, .aload_n 0, 1), (294, .iload_n 3, 1), (295, .iconst 2, 1), (296, .iadd, 1), (297, .iaload, 1), (298, .invokevirtual 28, 3), (301, .pop, 1), (302, .aload_n 2, 1), (303, .aload_n 0, 1), (304, .iload_n 3, 1), (305, .iconst 1, 1)]
theorem ttL_1 : zdt code tL_1 = true := by decide +kernel
abbrev tL_2 : List (Nat × Instr × Nat) := [(306, .iadd, 1), (307, .iaload, 1), (308, .aload_n 0, 1), (309, .iload_n 3, 1), (310, .iconst 2, 1), (311, .iadd, 1), (312, .iaload, 1), (313, .invokevirtual 32, 3), (316, .pop, 1), (317, .goto 1038, 3), (320, .aload_n 1, 1), (321, .aload_n 0, 1), (322, .iload_n 3, 1), (323, .iconst 1, 1), (324, .iadd, 1), (325, .iaload, 1), (326, .invokevirtual 33, 3), (329, .pop, 1), (330, .aload_n 2, 1), (331, .aload_n 0, 1), (332, .iload_n 3, 1), (333, .iconst 1, 1), (334, .iadd, 1), (335, .iaload, 1), (336, .invokevirtual 36, 3), (339, .pop, 1), (340, .goto 1015, 3), (343, .aload_n 1, 1), (344, .aload_n 0, 1), (345, .iload_n 3, 1), (346, .iconst 1, 1), (347, .iadd, 1), (348, .iaload, 1), (349, .aload_n 0, 1), (350, .iload_n 3, 1), (351, .iconst 2, 1), (352, .iadd, 1), (353, .iaload, 1), (354, .aload_n 0, 1), (355, .iload_n 3, 1), (356, .iconst 3, 1), (357, .iadd, 1), (358, .iaload, 1), (359, .aload_n 0, 1), (360, .iload_n 3, 1), (361, .iconst 4, 1), (362, .iadd, 1), (363, .iaload, 1), (364, .aload_n 0, 1), (365, .iload_n 3, 1), (366, .iconst 5, 1), (367, .iadd, 1), (368, .iaload, 1), (369, .invokevirtual 37, 3), (372, .pop, 1), (373, .aload_n 2, 1), (374, .aload_n 0, 1), (375, .iload_n 3, 1), (376, .iconst 1, 1), (377, .iadd, 1)]
theorem ttL_2 : zdt code tL_2 = true := by decide +kernel
abbrev tL_3 : List (Nat × Instr × Nat) := [(378, .iaload, 1), (379, .aload_n 0, 1), (380, .iload_n 3, 1), (381, .iconst 2, 1), (382, .iadd, 1), (383, .iaload, 1), (384, .aload_n 0, 1), (385, .iload_n 3, 1), (386, .iconst 3, 1), (387, .iadd, 1), (388, .iaload, 1), (389, .aload_n 0, 1), (390, .iload_n 3, 1), (391, .iconst 4, 1), (392, .iadd, 1), (393, .iaload, 1), (394, .aload_n 0, 1), (395, .iload_n 3, 1), (396, .iconst 5, 1), (397, .iadd, 1), (398, .iaload, 1), (399, .invokevirtual 41, 3), (402, .pop, 1), (403, .goto 952, 3), (406, .aload_n 1, 1), (407, .aload_n 0, 1), (408, .iload_n 3, 1), (409, .iconst 1, 1), (410, .iadd, 1), (411, .iaload, 1), (412, .invokevirtual 42, 3), (415, .pop, 1), (416, .aload_n 2, 1), (417, .aload_n 0, 1), (418, .iload_n 3, 1), (419, .iconst 1, 1), (420, .iadd, 1), (421, .iaload, 1), (422, .invokevirtual 46, 3), (425, .pop, 1), (426, .goto 929, 3), (429, .aload_n 1, 1), (430, .aload_n 0, 1), (431, .iload_n 3, 1), (432, .iconst 1, 1), (433, .iadd, 1), (434, .iaload, 1), (435, .invokevirtual 47, 3), (438, .pop, 1), (439, .aload_n 2, 1), (440, .aload_n 0, 1), (441, .iload_n 3, 1), (442, .iconst 1, 1), (443, .iadd, 1), (444, .iaload, 1), (445, .invokevirtual 50, 3), (448, .pop, 1), (449, .goto 906, 3), (452, .aload_n 1, 1), (453, .aload_n 0, 1)]
theorem ttL_3 : zdt code tL_3 = true := by decide +kernel
abbrev tL_4 : List (Nat × Instr × Nat) := [(454, .iload_n 3, 1), (455, .iconst 1, 1), (456, .iadd, 1), (457, .iaload, 1), (458, .invokevirtual 51, 3), (461, .pop, 1), (462, .aload_n 2, 1), (463, .aload_n 0, 1), (464, .iload_n 3, 1), (465, .iconst 1, 1), (466, .iadd, 1), (467, .iaload, 1), (468, .invokevirtual 54, 3), (471, .pop, 1), (472, .goto 883, 3), (475, .aload_n 1, 1), (476, .aload_n 0, 1), (477, .iload_n 3, 1), (478, .iconst 1, 1), (479, .iadd, 1), (480, .iaload, 1), (481, .aload_n 0, 1), (482, .iload_n 3, 1), (483, .iconst 2, 1), (484, .iadd, 1), (485, .iaload, 1), (486, .invokevirtual 55, 3), (489, .pop, 1), (490, .aload_n 2, 1), (491, .aload_n 0, 1), (492, .iload_n 3, 1), (493, .iconst 1, 1), (494, .iadd, 1), (495, .iaload, 1), (496, .aload_n 0, 1), (497, .iload_n 3, 1), (498, .iconst 2, 1), (499, .iadd, 1), (500, .iaload, 1), (501, .invokevirtual 58, 3), (504, .pop, 1), (505, .goto 850, 3), (508, .aload_n 1, 1), (509, .aload_n 0, 1), (510, .iload_n 3, 1), (511, .iconst 1, 1), (512, .iadd, 1), (513, .iaload, 1), (514, .aload_n 0, 1), (515, .iload_n 3, 1), (516, .iconst 2, 1), (517, .iadd, 1), (518, .iaload, 1), (519, .invokevirtual 59, 3), (522, .pop, 1), (523, .aload_n 2, 1), (524, .aload_n 0, 1), (525, .iload_n 3, 1), (526, .iconst 1, 1), (527, .iadd, 1)]
theorem ttL_4 : zdt code tL_4 = true := by decide +kernel
abbrev tL_5 : List (Nat × Instr × Nat) := [(528, .iaload, 1), (529, .aload_n 0, 1), (530, .iload_n 3, 1), (531, .iconst 2, 1), (532, .iadd, 1), (533, .iaload, 1), (534, .invokevirtual 62, 3), (537, .pop, 1), (538, .goto 817, 3), (541, .aload_n 1, 1), (542, .aload_n 0, 1), (543, .iload_n 3, 1), (544, .iconst 1, 1), (545, .iadd, 1), (546, .iaload, 1), (547, .aload_n 0, 1), (548, .iload_n 3, 1), (549, .iconst 2, 1), (550, .iadd, 1), (551, .iaload, 1), (552, .invokevirtual 63, 3), (555, .pop, 1), (556, .aload_n 2, 1), (557, .aload_n 0, 1), (558, .iload_n 3, 1), (559, .iconst 1, 1), (560, .iadd, 1), (561, .iaload, 1), (562, .aload_n 0, 1), (563, .iload_n 3, 1), (564, .iconst 2, 1), (565, .iadd, 1), (566, .iaload, 1), (567, .invokevirtual 66, 3), (570, .pop, 1), (571, .goto 784, 3), (574, .aload_n 1, 1), (575, .invokevirtual 67, 3), (578, .pop, 1), (579, .aload_n 2, 1), (580, .invokevirtual 71, 3), (583, .pop, 1), (584, .goto 771, 3), (587, .aload_n 1, 1), (588, .aload_n 0, 1), (589, .iload_n 3, 1), (590, .iconst 1, 1), (591, .iadd, 1), (592, .iaload, 1), (593, .aload_n 0, 1), (594, .iload_n 3, 1), (595, .iconst 2, 1), (596, .iadd, 1), (597, .iaload, 1), (598, .invokevirtual 72, 3), (601, .pop, 1), (602, .aload_n 2, 1), (603, .aload_n 0, 1), (604, .iload_n 3, 1), (605, .iconst 1, 1)]
theorem ttL_5 : zdt code tL_5 = true := by decide +kernel
abbrev tL_6 : List (Nat × Instr × Nat) := [(606, .iadd, 1), (607, .iaload, 1), (608, .aload_n 0, 1), (609, .iload_n 3, 1), (610, .iconst 2, 1), (611, .iadd, 1), (612, .iaload, 1), (613, .invokevirtual 75, 3), (616, .pop, 1), (617, .goto 738, 3), (620, .aload_n 1, 1), (621, .aload_n 0, 1), (622, .iload_n 3, 1), (623, .iconst 1, 1), (624, .iadd, 1), (625, .iaload, 1), (626, .aload_n 0, 1), (627, .iload_n 3, 1), (628, .iconst 2, 1), (629, .iadd, 1), (630, .iaload, 1), (631, .invokevirtual 76, 3), (634, .pop, 1), (635, .aload_n 2, 1), (636, .aload_n 0, 1), (637, .iload_n 3, 1), (638, .iconst 1, 1), (639, .iadd, 1), (640, .iaload, 1), (641, .aload_n 0, 1), (642, .iload_n 3, 1), (643, .iconst 2, 1), (644, .iadd, 1), (645, .iaload, 1), (646, .invokevirtual 79, 3), (649, .pop, 1), (650, .goto 705, 3), (653, .aload_n 1, 1), (654, .aload_n 0, 1), (655, .iload_n 3, 1), (656, .iconst 1, 1), (657, .iadd, 1), (658, .iaload, 1), (659, .aload_n 0, 1), (660, .iload_n 3, 1), (661, .iconst 2, 1), (662, .iadd, 1), (663, .iaload, 1), (664, .invokevirtual 80, 3), (667, .pop, 1), (668, .aload_n 2, 1), (669, .aload_n 0, 1), (670, .iload_n 3, 1), (671, .iconst 1, 1), (672, .iadd, 1), (673, .iaload, 1), (674, .aload_n 0, 1), (675, .iload_n 3, 1), (676, .iconst 2, 1), (677, .iadd, 1)]
theorem ttL_6 : zdt code tL_6 = true := by decide +kernel
abbrev tL_7 : List (Nat × Instr × Nat) := [(678, .iaload, 1), (679, .invokevirtual 83, 3), (682, .pop, 1), (683, .goto 672, 3), (686, .aload_n 1, 1), (687, .aload_n 0, 1), (688, .iload_n 3, 1), (689, .iconst 1, 1), (690, .iadd, 1), (691, .iaload, 1), (692, .aload_n 0, 1), (693, .iload_n 3, 1), (694, .iconst 2, 1), (695, .iadd, 1), (696, .iaload, 1), (697, .ifCond .eq 7, 3), (700, .iconst 1, 1), (701, .goto 4, 3), (704, .iconst 0, 1), (705, .invokevirtual 84, 3), (708, .pop, 1), (709, .aload_n 2, 1), (710, .aload_n 0, 1), (711, .iload_n 3, 1), (712, .iconst 1, 1), (713, .iadd, 1), (714, .iaload, 1), (715, .aload_n 0, 1), (716, .iload_n 3, 1), (717, .iconst 2, 1), (718, .iadd, 1), (719, .iaload, 1), (720, .ifCond .eq 7, 3), (723, .iconst 1, 1), (724, .goto 4, 3), (727, .iconst 0, 1), (728, .invokevirtual 88, 3), (731, .pop, 1), (732, .goto 623, 3), (735, .aload_n 1, 1), (736, .aload_n 0, 1), (737, .iload_n 3, 1), (738, .iconst 1, 1), (739, .iadd, 1), (740, .iaload, 1), (741, .invokevirtual 89, 3), (744, .pop, 1), (745, .aload_n 2, 1), (746, .aload_n 0, 1), (747, .iload_n 3, 1), (748, .iconst 1, 1), (749, .iadd, 1), (750, .iaload, 1), (751, .invokevirtual 92, 3), (754, .pop, 1), (755, .goto 600, 3), (758, .aload_n 1, 1), (759, .aload_n 0, 1), (760, .iload_n 3, 1), (761, .iconst 1, 1)]
theorem ttL_7 : zdt code tL_7 = true := by decide +kernel
abbrev tL_8 : List (Nat × Instr × Nat) := [(762, .iadd, 1), (763, .iaload, 1), (764, .aload_n 0, 1), (765, .iload_n 3, 1), (766, .iconst 2, 1), (767, .iadd, 1), (768, .iaload, 1), (769, .invokevirtual 93, 3), (772, .pop, 1), (773, .aload_n 2, 1), (774, .aload_n 0, 1), (775, .iload_n 3, 1), (776, .iconst 1, 1), (777, .iadd, 1), (778, .iaload, 1), (779, .aload_n 0, 1), (780, .iload_n 3, 1), (781, .iconst 2, 1), (782, .iadd, 1), (783, .iaload, 1), (784, .invokevirtual 96, 3), (787, .pop, 1), (788, .goto 567, 3), (791, .aload_n 1, 1), (792, .aload_n 0, 1), (793, .iload_n 3, 1), (794, .iconst 1, 1), (795, .iadd, 1), (796, .iaload, 1), (797, .aload_n 0, 1), (798, .iload_n 3, 1), (799, .iconst 2, 1), (800, .iadd, 1), (801, .iaload, 1), (802, .invokevirtual 97, 3), (805, .pop, 1), (806, .aload_n 2, 1), (807, .aload_n 0, 1), (808, .iload_n 3, 1), (809, .iconst 1, 1), (810, .iadd, 1), (811, .iaload, 1), (812, .aload_n 0, 1), (813, .iload_n 3, 1), (814, .iconst 2, 1), (815, .iadd, 1), (816, .iaload, 1), (817, .invokevirtual 100, 3), (820, .pop, 1), (821, .goto 534, 3), (824, .aload_n 1, 1), (825, .aload_n 0, 1), (826, .iload_n 3, 1), (827, .iconst 1, 1), (828, .iadd, 1), (829, .iaload, 1), (830, .aload_n 0, 1), (831, .iload_n 3, 1), (832, .iconst 2, 1), (833, .iadd, 1)]
theorem ttL_8 : zdt code tL_8 = true := by decide +kernel
abbrev tL_9 : List (Nat × Instr × Nat) := [(834, .iaload, 1), (835, .aload_n 0, 1), (836, .iload_n 3, 1), (837, .iconst 3, 1), (838, .iadd, 1), (839, .iaload, 1), (840, .invokevirtual 101, 3), (843, .pop, 1), (844, .aload_n 2, 1), (845, .aload_n 0, 1), (846, .iload_n 3, 1), (847, .iconst 1, 1), (848, .iadd, 1), (849, .iaload, 1), (850, .aload_n 0, 1), (851, .iload_n 3, 1), (852, .iconst 2, 1), (853, .iadd, 1), (854, .iaload, 1), (855, .aload_n 0, 1), (856, .iload_n 3, 1), (857, .iconst 3, 1), (858, .iadd, 1), (859, .iaload, 1), (860, .invokevirtual 105, 3), (863, .pop, 1), (864, .goto 491, 3), (867, .aload_n 1, 1), (868, .aload_n 0, 1), (869, .iload_n 3, 1), (870, .iconst 1, 1), (871, .iadd, 1), (872, .iaload, 1), (873, .invokevirtual 106, 3), (876, .pop, 1), (877, .aload_n 2, 1), (878, .aload_n 0, 1), (879, .iload_n 3, 1), (880, .iconst 1, 1), (881, .iadd, 1), (882, .iaload, 1), (883, .invokevirtual 109, 3), (886, .pop, 1), (887, .goto 468, 3), (890, .aload_n 1, 1), (891, .invokevirtual 110, 3), (894, .pop, 1), (895, .aload_n 2, 1), (896, .invokevirtual 113, 3), (899, .pop, 1), (900, .goto 455, 3), (903, .aload_n 1, 1), (904, .aload_n 0, 1), (905, .iload_n 3, 1), (906, .iconst 1, 1), (907, .iadd, 1), (908, .iaload, 1), (909, .aload_n 0, 1), (910, .iload_n 3, 1), (911, .iconst 2, 1)]
theorem ttL_9 : zdt code tL_9 = true := by decide +kernel
abbrev tL_10 : List (Nat × Instr × Nat) := [(912, .iadd, 1), (913, .iaload, 1), (914, .aload_n 0, 1), (915, .iload_n 3, 1), (916, .iconst 3, 1), (917, .iadd, 1), (918, .iaload, 1), (919, .invokevirtual 114, 3), (922, .pop, 1), (923, .aload_n 2, 1), (924, .aload_n 0, 1), (925, .iload_n 3, 1), (926, .iconst 1, 1), (927, .iadd, 1), (928, .iaload, 1), (929, .aload_n 0, 1), (930, .iload_n 3, 1), (931, .iconst 2, 1), (932, .iadd, 1), (933, .iaload, 1), (934, .aload_n 0, 1), (935, .iload_n 3, 1), (936, .iconst 3, 1), (937, .iadd, 1), (938, .iaload, 1), (939, .invokevirtual 117, 3), (942, .pop, 1), (943, .goto 412, 3), (946, .aload_n 1, 1), (947, .aload_n 0, 1), (948, .iload_n 3, 1), (949, .iconst 1, 1), (950, .iadd, 1), (951, .iaload, 1), (952, .aload_n 0, 1), (953, .iload_n 3, 1), (954, .iconst 2, 1), (955, .iadd, 1), (956, .iaload, 1), (957, .aload_n 0, 1), (958, .iload_n 3, 1), (959, .iconst 3, 1), (960, .iadd, 1), (961, .iaload, 1), (962, .invokevirtual 118, 3), (965, .pop, 1), (966, .aload_n 2, 1), (967, .aload_n 0, 1), (968, .iload_n 3, 1), (969, .iconst 1, 1), (970, .iadd, 1), (971, .iaload, 1), (972, .aload_n 0, 1), (973, .iload_n 3, 1), (974, .iconst 2, 1), (975, .iadd, 1), (976, .iaload, 1), (977, .aload_n 0, 1), (978, .iload_n 3, 1), (979, .iconst 3, 1)]
theorem ttL_10 : zdt code tL_10 = true := by decide +kernel
abbrev tL_11 : List (Nat × Instr × Nat) := [(980, .iadd, 1), (981, .iaload, 1), (982, .invokevirtual 121, 3), (985, .pop, 1), (986, .goto 369, 3), (989, .aload_n 1, 1), (990, .aload_n 0, 1), (991, .iload_n 3, 1), (992, .iconst 1, 1), (993, .iadd, 1), (994, .iaload, 1), (995, .aload_n 0, 1), (996, .iload_n 3, 1), (997, .iconst 2, 1), (998, .iadd, 1), (999, .iaload, 1), (1000, .aload_n 0, 1), (1001, .iload_n 3, 1), (1002, .iconst 3, 1), (1003, .iadd, 1), (1004, .iaload, 1), (1005, .invokevirtual 122, 3), (1008, .pop, 1), (1009, .aload_n 2, 1), (1010, .aload_n 0, 1), (1011, .iload_n 3, 1), (1012, .iconst 1, 1), (1013, .iadd, 1), (1014, .iaload, 1), (1015, .aload_n 0, 1), (1016, .iload_n 3, 1), (1017, .iconst 2, 1), (1018, .iadd, 1), (1019, .iaload, 1), (1020, .aload_n 0, 1), (1021, .iload_n 3, 1), (1022, .iconst 3, 1), (1023, .iadd, 1), (1024, .iaload, 1), (1025, .invokevirtual 125, 3), (1028, .pop, 1), (1029, .goto 326, 3), (1032, .aload_n 1, 1), (1033, .aload_n 0, 1), (1034, .iload_n 3, 1), (1035, .iconst 1, 1), (1036, .iadd, 1), (1037, .iaload, 1), (1038, .aload_n 0, 1), (1039, .iload_n 3, 1), (1040, .iconst 2, 1), (1041, .iadd, 1), (1042, .iaload, 1), (1043, .aload_n 0, 1), (1044, .iload_n 3, 1), (1045, .iconst 3, 1), (1046, .iadd, 1), (1047, .iaload, 1), (1048, .invokevirtual 126, 3), (1051, .pop, 1)]
theorem ttL_11 : zdt code tL_11 = true := by decide +kernel
abbrev tL_12 : List (Nat × Instr × Nat) := [(1052, .aload_n 2, 1), (1053, .aload_n 0, 1), (1054, .iload_n 3, 1), (1055, .iconst 1, 1), (1056, .iadd, 1), (1057, .iaload, 1), (1058, .aload_n 0, 1), (1059, .iload_n 3, 1), (1060, .iconst 2, 1), (1061, .iadd, 1), (1062, .iaload, 1), (1063, .aload_n 0, 1), (1064, .iload_n 3, 1), (1065, .iconst 3, 1), (1066, .iadd, 1), (1067, .iaload, 1), (1068, .invokevirtual 129, 3), (1071, .pop, 1), (1072, .goto 283, 3), (1075, .aload_n 1, 1), (1076, .aload_n 0, 1), (1077, .iload_n 3, 1), (1078, .iconst 1, 1), (1079, .iadd, 1), (1080, .iaload, 1), (1081, .aload_n 0, 1), (1082, .iload_n 3, 1), (1083, .iconst 2, 1), (1084, .iadd, 1), (1085, .iaload, 1), (1086, .aload_n 0, 1), (1087, .iload_n 3, 1), (1088, .iconst 3, 1), (1089, .iadd, 1), (1090, .iaload, 1), (1091, .invokevirtual 130, 3), (1094, .aload_n 2, 1), (1095, .aload_n 0, 1), (1096, .iload_n 3, 1), (1097, .iconst 1, 1), (1098, .iadd, 1), (1099, .iaload, 1), (1100, .aload_n 0, 1), (1101, .iload_n 3, 1), (1102, .iconst 2, 1), (1103, .iadd, 1), (1104, .iaload, 1), (1105, .aload_n 0, 1), (1106, .iload_n 3, 1), (1107, .iconst 3, 1), (1108, .iadd, 1), (1109, .iaload, 1), (1110, .invokevirtual 133, 3), (1113, .if_icmp .eq 242, 3), (1116, .iconst 0, 1), (1117, .ireturn, 1), (1118, .aload_n 1, 1), (1119, .aload_n 0, 1), (1120, .iload_n 3, 1), (1121, .iconst 1, 1)]
theorem ttL_12 : zdt code tL_12 = true := by decide +kernel
abbrev tL_13 : List (Nat × Instr × Nat) := [(1122, .iadd, 1), (1123, .iaload, 1), (1124, .aload_n 0, 1), (1125, .iload_n 3, 1), (1126, .iconst 2, 1), (1127, .iadd, 1), (1128, .iaload, 1), (1129, .aload_n 0, 1), (1130, .iload_n 3, 1), (1131, .iconst 3, 1), (1132, .iadd, 1), (1133, .iaload, 1), (1134, .aload_n 0, 1), (1135, .iload_n 3, 1), (1136, .iconst 4, 1), (1137, .iadd, 1), (1138, .iaload, 1), (1139, .invokevirtual 134, 3), (1142, .pop, 1), (1143, .aload_n 2, 1), (1144, .aload_n 0, 1), (1145, .iload_n 3, 1), (1146, .iconst 1, 1), (1147, .iadd, 1), (1148, .iaload, 1), (1149, .aload_n 0, 1), (1150, .iload_n 3, 1), (1151, .iconst 2, 1), (1152, .iadd, 1), (1153, .iaload, 1), (1154, .aload_n 0, 1), (1155, .iload_n 3, 1), (1156, .iconst 3, 1), (1157, .iadd, 1), (1158, .iaload, 1), (1159, .aload_n 0, 1), (1160, .iload_n 3, 1), (1161, .iconst 4, 1), (1162, .iadd, 1), (1163, .iaload, 1), (1164, .invokevirtual 138, 3), (1167, .pop, 1), (1168, .goto 187, 3), (1171, .aload_n 1, 1), (1172, .aload_n 0, 1), (1173, .iload_n 3, 1), (1174, .iconst 1, 1), (1175, .iadd, 1), (1176, .iaload, 1), (1177, .aload_n 0, 1), (1178, .iload_n 3, 1), (1179, .iconst 2, 1), (1180, .iadd, 1), (1181, .iaload, 1), (1182, .invokevirtual 139, 3), (1185, .pop, 1), (1186, .aload_n 2, 1), (1187, .aload_n 0, 1), (1188, .iload_n 3, 1), (1189, .iconst 1, 1)]
theorem ttL_13 : zdt code tL_13 = true := by decide +kernel
abbrev tL_14 : List (Nat × Instr × Nat) := [(1190, .iadd, 1), (1191, .iaload, 1), (1192, .aload_n 0, 1), (1193, .iload_n 3, 1), (1194, .iconst 2, 1), (1195, .iadd, 1), (1196, .iaload, 1), (1197, .invokevirtual 142, 3), (1200, .pop, 1), (1201, .goto 154, 3), (1204, .aload_n 1, 1), (1205, .aload_n 0, 1), (1206, .iload_n 3, 1), (1207, .iconst 1, 1), (1208, .iadd, 1), (1209, .iaload, 1), (1210, .invokevirtual 143, 3), (1213, .pop, 1), (1214, .aload_n 2, 1), (1215, .aload_n 0, 1), (1216, .iload_n 3, 1), (1217, .iconst 1, 1), (1218, .iadd, 1), (1219, .iaload, 1), (1220, .invokevirtual 146, 3), (1223, .pop, 1), (1224, .goto 131, 3), (1227, .aload_n 1, 1), (1228, .aload_n 0, 1), (1229, .iload_n 3, 1), (1230, .iconst 1, 1), (1231, .iadd, 1), (1232, .iaload, 1), (1233, .aload_n 0, 1), (1234, .iload_n 3, 1), (1235, .iconst 2, 1), (1236, .iadd, 1), (1237, .iaload, 1), (1238, .aload_n 0, 1), (1239, .iload_n 3, 1), (1240, .iconst 3, 1), (1241, .iadd, 1), (1242, .iaload, 1), (1243, .aload_n 0, 1), (1244, .iload_n 3, 1), (1245, .iconst 4, 1), (1246, .iadd, 1), (1247, .iaload, 1), (1248, .invokevirtual 147, 3), (1251, .pop, 1), (1252, .aload_n 2, 1), (1253, .aload_n 0, 1), (1254, .iload_n 3, 1), (1255, .iconst 1, 1), (1256, .iadd, 1), (1257, .iaload, 1), (1258, .aload_n 0, 1), (1259, .iload_n 3, 1), (1260, .iconst 2, 1), (1261, .iadd, 1)]
theorem ttL_14 : zdt code tL_14 = true := by decide +kernel
abbrev tL_15 : List (Nat × Instr × Nat) := [(1262, .iaload, 1), (1263, .aload_n 0, 1), (1264, .iload_n 3, 1), (1265, .iconst 3, 1), (1266, .iadd, 1), (1267, .iaload, 1), (1268, .aload_n 0, 1), (1269, .iload_n 3, 1), (1270, .iconst 4, 1), (1271, .iadd, 1), (1272, .iaload, 1), (1273, .invokevirtual 150, 3), (1276, .pop, 1), (1277, .goto 78, 3), (1280, .aload_n 1, 1), (1281, .invokevirtual 151, 3), (1284, .pop, 1), (1285, .aload_n 2, 1), (1286, .invokevirtual 155, 3), (1289, .pop, 1), (1290, .goto 65, 3), (1293, .aload_n 1, 1), (1294, .aload_n 0, 1), (1295, .iload_n 3, 1), (1296, .iconst 1, 1), (1297, .iadd, 1), (1298, .iaload, 1), (1299, .ifCond .eq 7, 3), (1302, .iconst 1, 1), (1303, .goto 4, 3), (1306, .iconst 0, 1), (1307, .invokevirtual 156, 3), (1310, .pop, 1), (1311, .aload_n 2, 1), (1312, .aload_n 0, 1), (1313, .iload_n 3, 1), (1314, .iconst 1, 1), (1315, .iadd, 1), (1316, .iaload, 1), (1317, .ifCond .eq 7, 3), (1320, .iconst 1, 1), (1321, .goto 4, 3), (1324, .iconst 0, 1), (1325, .invokevirtual 160, 3), (1328, .pop, 1), (1329, .goto 26, 3), (1332, .aload_n 1, 1), (1333, .aload_n 0, 1), (1334, .iload_n 3, 1), (1335, .iconst 1, 1), (1336, .iadd, 1), (1337, .iaload, 1), (1338, .invokevirtual 161, 3), (1341, .pop, 1), (1342, .aload_n 2, 1), (1343, .aload_n 0, 1), (1344, .iload_n 3, 1), (1345, .iconst 1, 1), (1346, .iadd, 1), (1347, .iaload, 1)]
theorem ttL_15 : zdt code tL_15 = true := by decide +kernel
abbrev tL_16 : List (Nat × Instr × Nat) := [(1348, .invokevirtual 164, 3), (1351, .pop, 1), (1352, .goto 3, 3), (1355, .iinc 3 6, 3), (1358, .goto (-1340), 3), (1361, .iconst 1, 1), (1362, .ireturn, 1)]
theorem ttL_16 : zdt code tL_16 = true := by decide +kernel
theorem zxs (xs : Nat → Int32) (j : Nat) : -2147483648 ≤ (xs j).toInt ∧ (xs j).toInt ≤ 2147483647 := by
  have h1 := Int32.le_toInt (xs j)
  have h2 := Int32.toInt_lt (xs j)
  omega
section ZLC
variable {p : Program} {l : Launch} {e : Env} {s : State} {m : MethodId} {below : List Frame} {meth : Method} {c : Code} {b L : Nat} {xs : Nat → Int32} {u1 u2 : Nat} {x : Int} {hC hM : zM}
theorem lc_0 (C0 : lw_At p s m meth c b L xs) (hL : L ≤ 3072) (sC : okC hC) (sM : okM hM) (hx0 : 0 ≤ x ∧ x + 6 ≤ L) (hu1 : u1 ≤ 165161) (hu2 : u2 ≤ 8596764) (kk : ∀ hC hM, okC hC → okM hM → zK p l e s m below meth c b (u1 + 1) (u2 + 10000) 1355 x [] hC hM) : zK p l e s m below meth c b u1 u2 188 x [] hC hM := by
  refine zk_aload1 C0 (zdk ttL_0 22 rfl rfl) ?_
  refine zk_aload0 C0 (zdk ttL_0 23 rfl rfl) ?_
  refine zk_iload3 C0 (zdk ttL_0 24 rfl rfl) ?_
  refine zk_iconst C0 (zdk ttL_0 25 rfl rfl) ?_
  refine zk_iadd C0 (zdk ttL_0 26 rfl rfl) ?_
  refine zk_sld C0 hL (i := (x + 1)) (by omega) (zdk ttL_0 27 rfl rfl) ?_
  refine zk_callC C0 sC [(xs ((x + 1)).toNat).toInt] (zdk ttL_0 28 rfl rfl) mb_X10_state mv_RL_13 rfl rfl rfl (Nat.le_of_ble_eq_true rfl) (s_X10_state l hC (xs ((x + 1)).toNat).toInt sC (zxs xs _)) ⟨rfl, rfl, ⟨Nat.le_of_ble_eq_true rfl, Nat.le_of_ble_eq_true rfl⟩, by show u1 + 0 ≤ 165162; omega, by show u2 + 0 ≤ 8606764; omega⟩ (fun v1 h2 q3 => ?_)
  have s4 : okC h2 := q3.2
  refine zk_pop C0 (zdk ttL_0 29 rfl rfl) ?_
  refine zk_aload2 C0 (zdk ttL_0 30 rfl rfl) ?_
  refine zk_aload0 C0 (zdk ttL_0 31 rfl rfl) ?_
  refine zk_iload3 C0 (zdk ttL_0 32 rfl rfl) ?_
  refine zk_iconst C0 (zdk ttL_0 33 rfl rfl) ?_
  refine zk_iadd C0 (zdk ttL_0 34 rfl rfl) ?_
  refine zk_sld C0 hL (i := (x + 1)) (by omega) (zdk ttL_0 35 rfl rfl) ?_
  refine zk_callM C0 sM [(xs ((x + 1)).toNat).toInt] (zdk ttL_0 36 rfl rfl) mb_X11_state mv_RL_17 rfl rfl rfl (Nat.le_of_ble_eq_true rfl) (s_X11_state l hM (xs ((x + 1)).toNat).toInt sM (zxs xs _)) ⟨rfl, rfl, ⟨Nat.le_of_ble_eq_true rfl, Nat.le_of_ble_eq_true rfl⟩, by show (u1 + 0) + 0 ≤ 165162; omega, by show (u2 + 0) + 0 ≤ 8606764; omega⟩ (fun v5 h6 q7 => ?_)
  have s8 : okM h6 := q7.2.1
  refine zk_pop C0 (zdk ttL_0 37 rfl rfl) ?_
  refine zk_goto C0 (t := 1355) (zdk ttL_0 38 rfl rfl) (by decide) ?_
  exact zk_widen (by omega) (by omega) (kk h2 h6 s4 s8)
theorem lc_1 (C0 : lw_At p s m meth c b L xs) (hL : L ≤ 3072) (sC : okC hC) (sM : okM hM) (hx0 : 0 ≤ x ∧ x + 6 ≤ L) (hu1 : u1 ≤ 165161) (hu2 : u2 ≤ 8596764) (kk : ∀ hC hM, okC hC → okM hM → zK p l e s m below meth c b (u1 + 1) (u2 + 10000) 1355 x [] hC hM) : zK p l e s m below meth c b u1 u2 211 x [] hC hM := by
  refine zk_aload1 C0 (zdk ttL_0 39 rfl rfl) ?_
  refine zk_aload0 C0 (zdk ttL_0 40 rfl rfl) ?_
  refine zk_iload3 C0 (zdk ttL_0 41 rfl rfl) ?_
  refine zk_iconst C0 (zdk ttL_0 42 rfl rfl) ?_
  refine zk_iadd C0 (zdk ttL_0 43 rfl rfl) ?_
  refine zk_sld C0 hL (i := (x + 1)) (by omega) (zdk ttL_0 44 rfl rfl) ?_
  refine zk_aload0 C0 (zdk ttL_0 45 rfl rfl) ?_
  refine zk_iload3 C0 (zdk ttL_0 46 rfl rfl) ?_
  refine zk_iconst C0 (zdk ttL_0 47 rfl rfl) ?_
  refine zk_iadd C0 (zdk ttL_0 48 rfl rfl) ?_
  refine zk_sld C0 hL (i := (x + 2)) (by omega) (zdk ttL_0 49 rfl rfl) ?_
  refine zk_callC C0 sC [(xs ((x + 1)).toNat).toInt, (xs ((x + 2)).toNat).toInt] (zdk ttL_0 50 rfl rfl) mb_X10_islander mv_RL_18 rfl rfl rfl (Nat.le_of_ble_eq_true rfl) (s_X10_islander l hC (xs ((x + 1)).toNat).toInt (xs ((x + 2)).toNat).toInt sC (zxs xs _) (zxs xs _)) ⟨rfl, rfl, ⟨Nat.le_of_ble_eq_true rfl, Nat.le_of_ble_eq_true rfl⟩, by show u1 + 0 ≤ 165162; omega, by show u2 + 0 ≤ 8606764; omega⟩ (fun v9 h10 q11 => ?_)
  have s12 : okC h10 := q11.2
  refine zk_pop C0 (zdk ttL_0 51 rfl rfl) ?_
  refine zk_aload2 C0 (zdk ttL_0 52 rfl rfl) ?_
  refine zk_aload0 C0 (zdk ttL_0 53 rfl rfl) ?_
  refine zk_iload3 C0 (zdk ttL_0 54 rfl rfl) ?_
  refine zk_iconst C0 (zdk ttL_0 55 rfl rfl) ?_
  refine zk_iadd C0 (zdk ttL_0 56 rfl rfl) ?_
  refine zk_sld C0 hL (i := (x + 1)) (by omega) (zdk ttL_0 57 rfl rfl) ?_
  refine zk_aload0 C0 (zdk ttL_0 58 rfl rfl) ?_
  refine zk_iload3 C0 (zdk ttL_0 59 rfl rfl) ?_
  refine zk_iconst C0 (zdk ttL_1 0 rfl rfl) ?_
  refine zk_iadd C0 (zdk ttL_1 1 rfl rfl) ?_
  refine zk_sld C0 hL (i := (x + 2)) (by omega) (zdk ttL_1 2 rfl rfl) ?_
  refine zk_callM C0 sM [(xs ((x + 1)).toNat).toInt, (xs ((x + 2)).toNat).toInt] (zdk ttL_1 3 rfl rfl) mb_X11_islander mv_RL_22 rfl rfl rfl (Nat.le_of_ble_eq_true rfl) (s_X11_islander l hM (xs ((x + 1)).toNat).toInt (xs ((x + 2)).toNat).toInt sM (zxs xs _) (zxs xs _)) ⟨rfl, rfl, ⟨Nat.le_of_ble_eq_true rfl, Nat.le_of_ble_eq_true rfl⟩, by show (u1 + 0) + 0 ≤ 165162; omega, by show (u2 + 0) + 0 ≤ 8606764; omega⟩ (fun v13 h14 q15 => ?_)
  have s16 : okM h14 := q15.2.1
  refine zk_pop C0 (zdk ttL_1 4 rfl rfl) ?_
  refine zk_goto C0 (t := 1355) (zdk ttL_1 5 rfl rfl) (by decide) ?_
  exact zk_widen (by omega) (by omega) (kk h10 h14 s12 s16)
theorem lc_2 (C0 : lw_At p s m meth c b L xs) (hL : L ≤ 3072) (sC : okC hC) (sM : okM hM) (hx0 : 0 ≤ x ∧ x + 6 ≤ L) (hu1 : u1 ≤ 165161) (hu2 : u2 ≤ 8596764) (kk : ∀ hC hM, okC hC → okM hM → zK p l e s m below meth c b (u1 + 1) (u2 + 10000) 1355 x [] hC hM) : zK p l e s m below meth c b u1 u2 244 x [] hC hM := by
  refine zk_aload1 C0 (zdk ttL_1 6 rfl rfl) ?_
  refine zk_aload0 C0 (zdk ttL_1 7 rfl rfl) ?_
  refine zk_iload3 C0 (zdk ttL_1 8 rfl rfl) ?_
  refine zk_iconst C0 (zdk ttL_1 9 rfl rfl) ?_
  refine zk_iadd C0 (zdk ttL_1 10 rfl rfl) ?_
  refine zk_sld C0 hL (i := (x + 1)) (by omega) (zdk ttL_1 11 rfl rfl) ?_
  refine zk_aload0 C0 (zdk ttL_1 12 rfl rfl) ?_
  refine zk_iload3 C0 (zdk ttL_1 13 rfl rfl) ?_
  refine zk_iconst C0 (zdk ttL_1 14 rfl rfl) ?_
  refine zk_iadd C0 (zdk ttL_1 15 rfl rfl) ?_
  refine zk_sld C0 hL (i := (x + 2)) (by omega) (zdk ttL_1 16 rfl rfl) ?_
  refine zk_aload0 C0 (zdk ttL_1 17 rfl rfl) ?_
  refine zk_iload3 C0 (zdk ttL_1 18 rfl rfl) ?_
  refine zk_iconst C0 (zdk ttL_1 19 rfl rfl) ?_
  refine zk_iadd C0 (zdk ttL_1 20 rfl rfl) ?_
  refine zk_sld C0 hL (i := (x + 3)) (by omega) (zdk ttL_1 21 rfl rfl) ?_
  refine zk_callC C0 sC [(xs ((x + 1)).toNat).toInt, (xs ((x + 2)).toNat).toInt, (xs ((x + 3)).toNat).toInt] (zdk ttL_1 22 rfl rfl) mb_X10_set mv_RL_23 rfl rfl rfl (Nat.le_of_ble_eq_true rfl) (s_X10_set l hC (xs ((x + 1)).toNat).toInt (xs ((x + 2)).toNat).toInt (xs ((x + 3)).toNat).toInt sC (zxs xs _) (zxs xs _) (zxs xs _)) ⟨rfl, rfl, ⟨Nat.le_of_ble_eq_true rfl, Nat.le_of_ble_eq_true rfl⟩, by show u1 + 0 ≤ 165162; omega, by show u2 + 0 ≤ 8606764; omega⟩ (fun v17 h18 q19 => ?_)
  have s20 : okC h18 := q19.2
  refine zk_pop C0 (zdk ttL_1 23 rfl rfl) ?_
  refine zk_aload2 C0 (zdk ttL_1 24 rfl rfl) ?_
  refine zk_aload0 C0 (zdk ttL_1 25 rfl rfl) ?_
  refine zk_iload3 C0 (zdk ttL_1 26 rfl rfl) ?_
  refine zk_iconst C0 (zdk ttL_1 27 rfl rfl) ?_
  refine zk_iadd C0 (zdk ttL_1 28 rfl rfl) ?_
  refine zk_sld C0 hL (i := (x + 1)) (by omega) (zdk ttL_1 29 rfl rfl) ?_
  refine zk_aload0 C0 (zdk ttL_1 30 rfl rfl) ?_
  refine zk_iload3 C0 (zdk ttL_1 31 rfl rfl) ?_
  refine zk_iconst C0 (zdk ttL_1 32 rfl rfl) ?_
  refine zk_iadd C0 (zdk ttL_1 33 rfl rfl) ?_
  refine zk_sld C0 hL (i := (x + 2)) (by omega) (zdk ttL_1 34 rfl rfl) ?_
  refine zk_aload0 C0 (zdk ttL_1 35 rfl rfl) ?_
  refine zk_iload3 C0 (zdk ttL_1 36 rfl rfl) ?_
  refine zk_iconst C0 (zdk ttL_1 37 rfl rfl) ?_
  refine zk_iadd C0 (zdk ttL_1 38 rfl rfl) ?_
  refine zk_sld C0 hL (i := (x + 3)) (by omega) (zdk ttL_1 39 rfl rfl) ?_
  refine zk_callM C0 sM [(xs ((x + 1)).toNat).toInt, (xs ((x + 2)).toNat).toInt, (xs ((x + 3)).toNat).toInt] (zdk ttL_1 40 rfl rfl) mb_X11_set mv_RL_27 rfl rfl rfl (Nat.le_of_ble_eq_true rfl) (s_X11_set l hM (xs ((x + 1)).toNat).toInt (xs ((x + 2)).toNat).toInt (xs ((x + 3)).toNat).toInt sM (zxs xs _) (zxs xs _) (zxs xs _)) ⟨rfl, rfl, ⟨Nat.le_of_ble_eq_true rfl, Nat.le_of_ble_eq_true rfl⟩, by show (u1 + 0) + 0 ≤ 165162; omega, by show (u2 + 0) + 0 ≤ 8606764; omega⟩ (fun v21 h22 q23 => ?_)
  have s24 : okM h22 := q23.2.1
  refine zk_pop C0 (zdk ttL_1 41 rfl rfl) ?_
  refine zk_goto C0 (t := 1355) (zdk ttL_1 42 rfl rfl) (by decide) ?_
  exact zk_widen (by omega) (by omega) (kk h18 h22 s20 s24)
theorem lc_3 (C0 : lw_At p s m meth c b L xs) (hL : L ≤ 3072) (sC : okC hC) (sM : okM hM) (hx0 : 0 ≤ x ∧ x + 6 ≤ L) (hu1 : u1 ≤ 165161) (hu2 : u2 ≤ 8596764) (kk : ∀ hC hM, okC hC → okM hM → zK p l e s m below meth c b (u1 + 1) (u2 + 10000) 1355 x [] hC hM) : zK p l e s m below meth c b u1 u2 287 x [] hC hM := by
  refine zk_aload1 C0 (zdk ttL_1 43 rfl rfl) ?_
  refine zk_aload0 C0 (zdk ttL_1 44 rfl rfl) ?_
  refine zk_iload3 C0 (zdk ttL_1 45 rfl rfl) ?_
  refine zk_iconst C0 (zdk ttL_1 46 rfl rfl) ?_
  refine zk_iadd C0 (zdk ttL_1 47 rfl rfl) ?_
  refine zk_sld C0 hL (i := (x + 1)) (by omega) (zdk ttL_1 48 rfl rfl) ?_
  refine zk_aload0 C0 (zdk ttL_1 49 rfl rfl) ?_
  refine zk_iload3 C0 (zdk ttL_1 50 rfl rfl) ?_
  refine zk_iconst C0 (zdk ttL_1 51 rfl rfl) ?_
  refine zk_iadd C0 (zdk ttL_1 52 rfl rfl) ?_
  refine zk_sld C0 hL (i := (x + 2)) (by omega) (zdk ttL_1 53 rfl rfl) ?_
  refine zk_callC C0 sC [(xs ((x + 1)).toNat).toInt, (xs ((x + 2)).toNat).toInt] (zdk ttL_1 54 rfl rfl) mb_X10_act mv_RL_28 rfl rfl rfl (Nat.le_of_ble_eq_true rfl) (s_X10_act l hC (xs ((x + 1)).toNat).toInt (xs ((x + 2)).toNat).toInt sC (zxs xs _) (zxs xs _)) ⟨rfl, rfl, ⟨Nat.le_of_ble_eq_true rfl, Nat.le_of_ble_eq_true rfl⟩, by show u1 + 0 ≤ 165162; omega, by show u2 + 0 ≤ 8606764; omega⟩ (fun v25 h26 q27 => ?_)
  have s28 : okC h26 := q27.2
  refine zk_pop C0 (zdk ttL_1 55 rfl rfl) ?_
  refine zk_aload2 C0 (zdk ttL_1 56 rfl rfl) ?_
  refine zk_aload0 C0 (zdk ttL_1 57 rfl rfl) ?_
  refine zk_iload3 C0 (zdk ttL_1 58 rfl rfl) ?_
  refine zk_iconst C0 (zdk ttL_1 59 rfl rfl) ?_
  refine zk_iadd C0 (zdk ttL_2 0 rfl rfl) ?_
  refine zk_sld C0 hL (i := (x + 1)) (by omega) (zdk ttL_2 1 rfl rfl) ?_
  refine zk_aload0 C0 (zdk ttL_2 2 rfl rfl) ?_
  refine zk_iload3 C0 (zdk ttL_2 3 rfl rfl) ?_
  refine zk_iconst C0 (zdk ttL_2 4 rfl rfl) ?_
  refine zk_iadd C0 (zdk ttL_2 5 rfl rfl) ?_
  refine zk_sld C0 hL (i := (x + 2)) (by omega) (zdk ttL_2 6 rfl rfl) ?_
  refine zk_callM C0 sM [(xs ((x + 1)).toNat).toInt, (xs ((x + 2)).toNat).toInt] (zdk ttL_2 7 rfl rfl) mb_X11_act mv_RL_32 rfl rfl rfl (Nat.le_of_ble_eq_true rfl) (s_X11_act l hM (xs ((x + 1)).toNat).toInt (xs ((x + 2)).toNat).toInt sM (zxs xs _) (zxs xs _)) ⟨rfl, rfl, ⟨Nat.le_of_ble_eq_true rfl, Nat.le_of_ble_eq_true rfl⟩, by show (u1 + 0) + 0 ≤ 165162; omega, by show (u2 + 0) + 0 ≤ 8606764; omega⟩ (fun v29 h30 q31 => ?_)
  have s32 : okM h30 := q31.2.1
  refine zk_pop C0 (zdk ttL_2 8 rfl rfl) ?_
  refine zk_goto C0 (t := 1355) (zdk ttL_2 9 rfl rfl) (by decide) ?_
  exact zk_widen (by omega) (by omega) (kk h26 h30 s28 s32)
theorem lc_4 (C0 : lw_At p s m meth c b L xs) (hL : L ≤ 3072) (sC : okC hC) (sM : okM hM) (hx0 : 0 ≤ x ∧ x + 6 ≤ L) (hu1 : u1 ≤ 165161) (hu2 : u2 ≤ 8596764) (kk : ∀ hC hM, okC hC → okM hM → zK p l e s m below meth c b (u1 + 1) (u2 + 10000) 1355 x [] hC hM) : zK p l e s m below meth c b u1 u2 320 x [] hC hM := by
  refine zk_aload1 C0 (zdk ttL_2 10 rfl rfl) ?_
  refine zk_aload0 C0 (zdk ttL_2 11 rfl rfl) ?_
  refine zk_iload3 C0 (zdk ttL_2 12 rfl rfl) ?_
  refine zk_iconst C0 (zdk ttL_2 13 rfl rfl) ?_
  refine zk_iadd C0 (zdk ttL_2 14 rfl rfl) ?_
  refine zk_sld C0 hL (i := (x + 1)) (by omega) (zdk ttL_2 15 rfl rfl) ?_
  refine zk_callC C0 sC [(xs ((x + 1)).toNat).toInt] (zdk ttL_2 16 rfl rfl) mb_X10_days mv_RL_33 rfl rfl rfl (Nat.le_of_ble_eq_true rfl) (s_X10_days l hC (xs ((x + 1)).toNat).toInt sC (zxs xs _)) ⟨rfl, rfl, ⟨Nat.le_of_ble_eq_true rfl, Nat.le_of_ble_eq_true rfl⟩, by show u1 + 0 ≤ 165162; omega, by show u2 + 0 ≤ 8606764; omega⟩ (fun v33 h34 q35 => ?_)
  have s36 : okC h34 := q35.2
  refine zk_pop C0 (zdk ttL_2 17 rfl rfl) ?_
  refine zk_aload2 C0 (zdk ttL_2 18 rfl rfl) ?_
  refine zk_aload0 C0 (zdk ttL_2 19 rfl rfl) ?_
  refine zk_iload3 C0 (zdk ttL_2 20 rfl rfl) ?_
  refine zk_iconst C0 (zdk ttL_2 21 rfl rfl) ?_
  refine zk_iadd C0 (zdk ttL_2 22 rfl rfl) ?_
  refine zk_sld C0 hL (i := (x + 1)) (by omega) (zdk ttL_2 23 rfl rfl) ?_
  refine zk_callM C0 sM [(xs ((x + 1)).toNat).toInt] (zdk ttL_2 24 rfl rfl) mb_X11_days mv_RL_36 rfl rfl rfl (Nat.le_of_ble_eq_true rfl) (s_X11_days l hM (xs ((x + 1)).toNat).toInt sM (zxs xs _)) ⟨rfl, rfl, ⟨Nat.le_of_ble_eq_true rfl, Nat.le_of_ble_eq_true rfl⟩, by show (u1 + 0) + 0 ≤ 165162; omega, by show (u2 + 0) + 0 ≤ 8606764; omega⟩ (fun v37 h38 q39 => ?_)
  have s40 : okM h38 := q39.2.1
  refine zk_pop C0 (zdk ttL_2 25 rfl rfl) ?_
  refine zk_goto C0 (t := 1355) (zdk ttL_2 26 rfl rfl) (by decide) ?_
  exact zk_widen (by omega) (by omega) (kk h34 h38 s36 s40)
theorem lc_5 (C0 : lw_At p s m meth c b L xs) (hL : L ≤ 3072) (sC : okC hC) (sM : okM hM) (hx0 : 0 ≤ x ∧ x + 6 ≤ L) (hu1 : u1 ≤ 165161) (hu2 : u2 ≤ 8596764) (kk : ∀ hC hM, okC hC → okM hM → zK p l e s m below meth c b (u1 + 1) (u2 + 10000) 1355 x [] hC hM) : zK p l e s m below meth c b u1 u2 343 x [] hC hM := by
  refine zk_aload1 C0 (zdk ttL_2 27 rfl rfl) ?_
  refine zk_aload0 C0 (zdk ttL_2 28 rfl rfl) ?_
  refine zk_iload3 C0 (zdk ttL_2 29 rfl rfl) ?_
  refine zk_iconst C0 (zdk ttL_2 30 rfl rfl) ?_
  refine zk_iadd C0 (zdk ttL_2 31 rfl rfl) ?_
  refine zk_sld C0 hL (i := (x + 1)) (by omega) (zdk ttL_2 32 rfl rfl) ?_
  refine zk_aload0 C0 (zdk ttL_2 33 rfl rfl) ?_
  refine zk_iload3 C0 (zdk ttL_2 34 rfl rfl) ?_
  refine zk_iconst C0 (zdk ttL_2 35 rfl rfl) ?_
  refine zk_iadd C0 (zdk ttL_2 36 rfl rfl) ?_
  refine zk_sld C0 hL (i := (x + 2)) (by omega) (zdk ttL_2 37 rfl rfl) ?_
  refine zk_aload0 C0 (zdk ttL_2 38 rfl rfl) ?_
  refine zk_iload3 C0 (zdk ttL_2 39 rfl rfl) ?_
  refine zk_iconst C0 (zdk ttL_2 40 rfl rfl) ?_
  refine zk_iadd C0 (zdk ttL_2 41 rfl rfl) ?_
  refine zk_sld C0 hL (i := (x + 3)) (by omega) (zdk ttL_2 42 rfl rfl) ?_
  refine zk_aload0 C0 (zdk ttL_2 43 rfl rfl) ?_
  refine zk_iload3 C0 (zdk ttL_2 44 rfl rfl) ?_
  refine zk_iconst C0 (zdk ttL_2 45 rfl rfl) ?_
  refine zk_iadd C0 (zdk ttL_2 46 rfl rfl) ?_
  refine zk_sld C0 hL (i := (x + 4)) (by omega) (zdk ttL_2 47 rfl rfl) ?_
  refine zk_aload0 C0 (zdk ttL_2 48 rfl rfl) ?_
  refine zk_iload3 C0 (zdk ttL_2 49 rfl rfl) ?_
  refine zk_iconst C0 (zdk ttL_2 50 rfl rfl) ?_
  refine zk_iadd C0 (zdk ttL_2 51 rfl rfl) ?_
  refine zk_sld C0 hL (i := (x + 5)) (by omega) (zdk ttL_2 52 rfl rfl) ?_
  refine zk_callC C0 sC [(xs ((x + 1)).toNat).toInt, (xs ((x + 2)).toNat).toInt, (xs ((x + 3)).toNat).toInt, (xs ((x + 4)).toNat).toInt, (xs ((x + 5)).toNat).toInt] (zdk ttL_2 53 rfl rfl) mb_X10_feed mv_RL_37 rfl rfl rfl (Nat.le_of_ble_eq_true rfl) (s_X10_feed l hC (xs ((x + 1)).toNat).toInt (xs ((x + 2)).toNat).toInt (xs ((x + 3)).toNat).toInt (xs ((x + 4)).toNat).toInt (xs ((x + 5)).toNat).toInt sC (zxs xs _) (zxs xs _) (zxs xs _) (zxs xs _) (zxs xs _)) ⟨rfl, rfl, ⟨Nat.le_of_ble_eq_true rfl, Nat.le_of_ble_eq_true rfl⟩, by show u1 + 0 ≤ 165162; omega, by show u2 + 0 ≤ 8606764; omega⟩ (fun v41 h42 q43 => ?_)
  have s44 : okC h42 := q43.2
  refine zk_pop C0 (zdk ttL_2 54 rfl rfl) ?_
  refine zk_aload2 C0 (zdk ttL_2 55 rfl rfl) ?_
  refine zk_aload0 C0 (zdk ttL_2 56 rfl rfl) ?_
  refine zk_iload3 C0 (zdk ttL_2 57 rfl rfl) ?_
  refine zk_iconst C0 (zdk ttL_2 58 rfl rfl) ?_
  refine zk_iadd C0 (zdk ttL_2 59 rfl rfl) ?_
  refine zk_sld C0 hL (i := (x + 1)) (by omega) (zdk ttL_3 0 rfl rfl) ?_
  refine zk_aload0 C0 (zdk ttL_3 1 rfl rfl) ?_
  refine zk_iload3 C0 (zdk ttL_3 2 rfl rfl) ?_
  refine zk_iconst C0 (zdk ttL_3 3 rfl rfl) ?_
  refine zk_iadd C0 (zdk ttL_3 4 rfl rfl) ?_
  refine zk_sld C0 hL (i := (x + 2)) (by omega) (zdk ttL_3 5 rfl rfl) ?_
  refine zk_aload0 C0 (zdk ttL_3 6 rfl rfl) ?_
  refine zk_iload3 C0 (zdk ttL_3 7 rfl rfl) ?_
  refine zk_iconst C0 (zdk ttL_3 8 rfl rfl) ?_
  refine zk_iadd C0 (zdk ttL_3 9 rfl rfl) ?_
  refine zk_sld C0 hL (i := (x + 3)) (by omega) (zdk ttL_3 10 rfl rfl) ?_
  refine zk_aload0 C0 (zdk ttL_3 11 rfl rfl) ?_
  refine zk_iload3 C0 (zdk ttL_3 12 rfl rfl) ?_
  refine zk_iconst C0 (zdk ttL_3 13 rfl rfl) ?_
  refine zk_iadd C0 (zdk ttL_3 14 rfl rfl) ?_
  refine zk_sld C0 hL (i := (x + 4)) (by omega) (zdk ttL_3 15 rfl rfl) ?_
  refine zk_aload0 C0 (zdk ttL_3 16 rfl rfl) ?_
  refine zk_iload3 C0 (zdk ttL_3 17 rfl rfl) ?_
  refine zk_iconst C0 (zdk ttL_3 18 rfl rfl) ?_
  refine zk_iadd C0 (zdk ttL_3 19 rfl rfl) ?_
  refine zk_sld C0 hL (i := (x + 5)) (by omega) (zdk ttL_3 20 rfl rfl) ?_
  refine zk_callM C0 sM [(xs ((x + 1)).toNat).toInt, (xs ((x + 2)).toNat).toInt, (xs ((x + 3)).toNat).toInt, (xs ((x + 4)).toNat).toInt, (xs ((x + 5)).toNat).toInt] (zdk ttL_3 21 rfl rfl) mb_X11_feed mv_RL_41 rfl rfl rfl (Nat.le_of_ble_eq_true rfl) (s_X11_feed l hM (xs ((x + 1)).toNat).toInt (xs ((x + 2)).toNat).toInt (xs ((x + 3)).toNat).toInt (xs ((x + 4)).toNat).toInt (xs ((x + 5)).toNat).toInt sM (zxs xs _) (zxs xs _) (zxs xs _) (zxs xs _) (zxs xs _)) ⟨rfl, rfl, ⟨Nat.le_of_ble_eq_true rfl, Nat.le_of_ble_eq_true rfl⟩, by show (u1 + 0) + 0 ≤ 165162; omega, by show (u2 + 0) + 0 ≤ 8606764; omega⟩ (fun v45 h46 q47 => ?_)
  have s48 : okM h46 := q47.2.1
  refine zk_pop C0 (zdk ttL_3 22 rfl rfl) ?_
  refine zk_goto C0 (t := 1355) (zdk ttL_3 23 rfl rfl) (by decide) ?_
  exact zk_widen (by omega) (by omega) (kk h42 h46 s44 s48)
theorem lc_6 (C0 : lw_At p s m meth c b L xs) (hL : L ≤ 3072) (sC : okC hC) (sM : okM hM) (hx0 : 0 ≤ x ∧ x + 6 ≤ L) (hu1 : u1 ≤ 165161) (hu2 : u2 ≤ 8596764) (kk : ∀ hC hM, okC hC → okM hM → zK p l e s m below meth c b (u1 + 1) (u2 + 10000) 1355 x [] hC hM) : zK p l e s m below meth c b u1 u2 406 x [] hC hM := by
  refine zk_aload1 C0 (zdk ttL_3 24 rfl rfl) ?_
  refine zk_aload0 C0 (zdk ttL_3 25 rfl rfl) ?_
  refine zk_iload3 C0 (zdk ttL_3 26 rfl rfl) ?_
  refine zk_iconst C0 (zdk ttL_3 27 rfl rfl) ?_
  refine zk_iadd C0 (zdk ttL_3 28 rfl rfl) ?_
  refine zk_sld C0 hL (i := (x + 1)) (by omega) (zdk ttL_3 29 rfl rfl) ?_
  refine zk_callC C0 sC [(xs ((x + 1)).toNat).toInt] (zdk ttL_3 30 rfl rfl) mb_X10_end mv_RL_42 rfl rfl rfl (Nat.le_of_ble_eq_true rfl) (s_X10_end l hC (xs ((x + 1)).toNat).toInt sC (zxs xs _)) ⟨rfl, rfl, ⟨Nat.le_of_ble_eq_true rfl, Nat.le_of_ble_eq_true rfl⟩, by show u1 + 0 ≤ 165162; omega, by show u2 + 0 ≤ 8606764; omega⟩ (fun v49 h50 q51 => ?_)
  have s52 : okC h50 := q51.2
  refine zk_pop C0 (zdk ttL_3 31 rfl rfl) ?_
  refine zk_aload2 C0 (zdk ttL_3 32 rfl rfl) ?_
  refine zk_aload0 C0 (zdk ttL_3 33 rfl rfl) ?_
  refine zk_iload3 C0 (zdk ttL_3 34 rfl rfl) ?_
  refine zk_iconst C0 (zdk ttL_3 35 rfl rfl) ?_
  refine zk_iadd C0 (zdk ttL_3 36 rfl rfl) ?_
  refine zk_sld C0 hL (i := (x + 1)) (by omega) (zdk ttL_3 37 rfl rfl) ?_
  refine zk_callM C0 sM [(xs ((x + 1)).toNat).toInt] (zdk ttL_3 38 rfl rfl) mb_X11_end mv_RL_46 rfl rfl rfl (Nat.le_of_ble_eq_true rfl) (s_X11_end l hM (xs ((x + 1)).toNat).toInt sM (zxs xs _)) ⟨rfl, rfl, ⟨Nat.le_of_ble_eq_true rfl, Nat.le_of_ble_eq_true rfl⟩, by show (u1 + 0) + 0 ≤ 165162; omega, by show (u2 + 0) + 0 ≤ 8606764; omega⟩ (fun v53 h54 q55 => ?_)
  have s56 : okM h54 := q55.2.1
  refine zk_pop C0 (zdk ttL_3 39 rfl rfl) ?_
  refine zk_goto C0 (t := 1355) (zdk ttL_3 40 rfl rfl) (by decide) ?_
  exact zk_widen (by omega) (by omega) (kk h50 h54 s52 s56)
theorem lc_7 (C0 : lw_At p s m meth c b L xs) (hL : L ≤ 3072) (sC : okC hC) (sM : okM hM) (hx0 : 0 ≤ x ∧ x + 6 ≤ L) (hu1 : u1 ≤ 165161) (hu2 : u2 ≤ 8596764) (kk : ∀ hC hM, okC hC → okM hM → zK p l e s m below meth c b (u1 + 1) (u2 + 10000) 1355 x [] hC hM) : zK p l e s m below meth c b u1 u2 429 x [] hC hM := by
  refine zk_aload1 C0 (zdk ttL_3 41 rfl rfl) ?_
  refine zk_aload0 C0 (zdk ttL_3 42 rfl rfl) ?_
  refine zk_iload3 C0 (zdk ttL_3 43 rfl rfl) ?_
  refine zk_iconst C0 (zdk ttL_3 44 rfl rfl) ?_
  refine zk_iadd C0 (zdk ttL_3 45 rfl rfl) ?_
  refine zk_sld C0 hL (i := (x + 1)) (by omega) (zdk ttL_3 46 rfl rfl) ?_
  refine zk_callC C0 sC [(xs ((x + 1)).toNat).toInt] (zdk ttL_3 47 rfl rfl) mb_X10_text mv_RL_47 rfl rfl rfl (Nat.le_of_ble_eq_true rfl) (s_X10_text l hC (xs ((x + 1)).toNat).toInt sC (zxs xs _)) ⟨rfl, rfl, ⟨Nat.le_of_ble_eq_true rfl, Nat.le_of_ble_eq_true rfl⟩, by show u1 + 0 ≤ 165162; omega, by show u2 + 0 ≤ 8606764; omega⟩ (fun v57 h58 q59 => ?_)
  have s60 : okC h58 := q59.2
  refine zk_pop C0 (zdk ttL_3 48 rfl rfl) ?_
  refine zk_aload2 C0 (zdk ttL_3 49 rfl rfl) ?_
  refine zk_aload0 C0 (zdk ttL_3 50 rfl rfl) ?_
  refine zk_iload3 C0 (zdk ttL_3 51 rfl rfl) ?_
  refine zk_iconst C0 (zdk ttL_3 52 rfl rfl) ?_
  refine zk_iadd C0 (zdk ttL_3 53 rfl rfl) ?_
  refine zk_sld C0 hL (i := (x + 1)) (by omega) (zdk ttL_3 54 rfl rfl) ?_
  refine zk_callM C0 sM [(xs ((x + 1)).toNat).toInt] (zdk ttL_3 55 rfl rfl) mb_X11_text mv_RL_50 rfl rfl rfl (Nat.le_of_ble_eq_true rfl) (s_X11_text l hM (xs ((x + 1)).toNat).toInt sM (zxs xs _)) ⟨rfl, rfl, ⟨Nat.le_of_ble_eq_true rfl, Nat.le_of_ble_eq_true rfl⟩, by show (u1 + 0) + 0 ≤ 165162; omega, by show (u2 + 0) + 0 ≤ 8606764; omega⟩ (fun v61 h62 q63 => ?_)
  have s64 : okM h62 := q63.2.1
  refine zk_pop C0 (zdk ttL_3 56 rfl rfl) ?_
  refine zk_goto C0 (t := 1355) (zdk ttL_3 57 rfl rfl) (by decide) ?_
  exact zk_widen (by omega) (by omega) (kk h58 h62 s60 s64)
theorem lc_8 (C0 : lw_At p s m meth c b L xs) (hL : L ≤ 3072) (sC : okC hC) (sM : okM hM) (hx0 : 0 ≤ x ∧ x + 6 ≤ L) (hu1 : u1 ≤ 165161) (hu2 : u2 ≤ 8596764) (kk : ∀ hC hM, okC hC → okM hM → zK p l e s m below meth c b (u1 + 1) (u2 + 10000) 1355 x [] hC hM) : zK p l e s m below meth c b u1 u2 452 x [] hC hM := by
  refine zk_aload1 C0 (zdk ttL_3 58 rfl rfl) ?_
  refine zk_aload0 C0 (zdk ttL_3 59 rfl rfl) ?_
  refine zk_iload3 C0 (zdk ttL_4 0 rfl rfl) ?_
  refine zk_iconst C0 (zdk ttL_4 1 rfl rfl) ?_
  refine zk_iadd C0 (zdk ttL_4 2 rfl rfl) ?_
  refine zk_sld C0 hL (i := (x + 1)) (by omega) (zdk ttL_4 3 rfl rfl) ?_
  refine zk_callC C0 sC [(xs ((x + 1)).toNat).toInt] (zdk ttL_4 4 rfl rfl) mb_X10_fault mv_RL_51 rfl rfl rfl (Nat.le_of_ble_eq_true rfl) (s_X10_fault l hC (xs ((x + 1)).toNat).toInt sC (zxs xs _)) ⟨rfl, rfl, ⟨Nat.le_of_ble_eq_true rfl, Nat.le_of_ble_eq_true rfl⟩, by show u1 + 0 ≤ 165162; omega, by show u2 + 0 ≤ 8606764; omega⟩ (fun v65 h66 q67 => ?_)
  have s68 : okC h66 := q67.2
  refine zk_pop C0 (zdk ttL_4 5 rfl rfl) ?_
  refine zk_aload2 C0 (zdk ttL_4 6 rfl rfl) ?_
  refine zk_aload0 C0 (zdk ttL_4 7 rfl rfl) ?_
  refine zk_iload3 C0 (zdk ttL_4 8 rfl rfl) ?_
  refine zk_iconst C0 (zdk ttL_4 9 rfl rfl) ?_
  refine zk_iadd C0 (zdk ttL_4 10 rfl rfl) ?_
  refine zk_sld C0 hL (i := (x + 1)) (by omega) (zdk ttL_4 11 rfl rfl) ?_
  refine zk_callM C0 sM [(xs ((x + 1)).toNat).toInt] (zdk ttL_4 12 rfl rfl) mb_X11_fault mv_RL_54 rfl rfl rfl (Nat.le_of_ble_eq_true rfl) (s_X11_fault l hM (xs ((x + 1)).toNat).toInt sM (zxs xs _)) ⟨rfl, rfl, ⟨Nat.le_of_ble_eq_true rfl, Nat.le_of_ble_eq_true rfl⟩, by show (u1 + 0) + 0 ≤ 165162; omega, by show (u2 + 0) + 0 ≤ 8606764; omega⟩ (fun v69 h70 q71 => ?_)
  have s72 : okM h70 := q71.2.1
  refine zk_pop C0 (zdk ttL_4 13 rfl rfl) ?_
  refine zk_goto C0 (t := 1355) (zdk ttL_4 14 rfl rfl) (by decide) ?_
  exact zk_widen (by omega) (by omega) (kk h66 h70 s68 s72)
theorem lc_9 (C0 : lw_At p s m meth c b L xs) (hL : L ≤ 3072) (sC : okC hC) (sM : okM hM) (hx0 : 0 ≤ x ∧ x + 6 ≤ L) (hu1 : u1 ≤ 165161) (hu2 : u2 ≤ 8596764) (kk : ∀ hC hM, okC hC → okM hM → zK p l e s m below meth c b (u1 + 1) (u2 + 10000) 1355 x [] hC hM) : zK p l e s m below meth c b u1 u2 475 x [] hC hM := by
  refine zk_aload1 C0 (zdk ttL_4 15 rfl rfl) ?_
  refine zk_aload0 C0 (zdk ttL_4 16 rfl rfl) ?_
  refine zk_iload3 C0 (zdk ttL_4 17 rfl rfl) ?_
  refine zk_iconst C0 (zdk ttL_4 18 rfl rfl) ?_
  refine zk_iadd C0 (zdk ttL_4 19 rfl rfl) ?_
  refine zk_sld C0 hL (i := (x + 1)) (by omega) (zdk ttL_4 20 rfl rfl) ?_
  refine zk_aload0 C0 (zdk ttL_4 21 rfl rfl) ?_
  refine zk_iload3 C0 (zdk ttL_4 22 rfl rfl) ?_
  refine zk_iconst C0 (zdk ttL_4 23 rfl rfl) ?_
  refine zk_iadd C0 (zdk ttL_4 24 rfl rfl) ?_
  refine zk_sld C0 hL (i := (x + 2)) (by omega) (zdk ttL_4 25 rfl rfl) ?_
  refine zk_callC C0 sC [(xs ((x + 1)).toNat).toInt, (xs ((x + 2)).toNat).toInt] (zdk ttL_4 26 rfl rfl) mb_X10_of mv_RL_55 rfl rfl rfl (Nat.le_of_ble_eq_true rfl) (s_X10_of l hC (xs ((x + 1)).toNat).toInt (xs ((x + 2)).toNat).toInt sC (zxs xs _) (zxs xs _)) ⟨rfl, rfl, ⟨Nat.le_of_ble_eq_true rfl, Nat.le_of_ble_eq_true rfl⟩, by show u1 + 0 ≤ 165162; omega, by show u2 + 0 ≤ 8606764; omega⟩ (fun v73 h74 q75 => ?_)
  have s76 : okC h74 := q75.2
  refine zk_pop C0 (zdk ttL_4 27 rfl rfl) ?_
  refine zk_aload2 C0 (zdk ttL_4 28 rfl rfl) ?_
  refine zk_aload0 C0 (zdk ttL_4 29 rfl rfl) ?_
  refine zk_iload3 C0 (zdk ttL_4 30 rfl rfl) ?_
  refine zk_iconst C0 (zdk ttL_4 31 rfl rfl) ?_
  refine zk_iadd C0 (zdk ttL_4 32 rfl rfl) ?_
  refine zk_sld C0 hL (i := (x + 1)) (by omega) (zdk ttL_4 33 rfl rfl) ?_
  refine zk_aload0 C0 (zdk ttL_4 34 rfl rfl) ?_
  refine zk_iload3 C0 (zdk ttL_4 35 rfl rfl) ?_
  refine zk_iconst C0 (zdk ttL_4 36 rfl rfl) ?_
  refine zk_iadd C0 (zdk ttL_4 37 rfl rfl) ?_
  refine zk_sld C0 hL (i := (x + 2)) (by omega) (zdk ttL_4 38 rfl rfl) ?_
  refine zk_callM C0 sM [(xs ((x + 1)).toNat).toInt, (xs ((x + 2)).toNat).toInt] (zdk ttL_4 39 rfl rfl) mb_X11_of mv_RL_58 rfl rfl rfl (Nat.le_of_ble_eq_true rfl) (s_X11_of l hM (xs ((x + 1)).toNat).toInt (xs ((x + 2)).toNat).toInt sM (zxs xs _) (zxs xs _)) ⟨rfl, rfl, ⟨Nat.le_of_ble_eq_true rfl, Nat.le_of_ble_eq_true rfl⟩, by show (u1 + 0) + 0 ≤ 165162; omega, by show (u2 + 0) + 0 ≤ 8606764; omega⟩ (fun v77 h78 q79 => ?_)
  have s80 : okM h78 := q79.2.1
  refine zk_pop C0 (zdk ttL_4 40 rfl rfl) ?_
  refine zk_goto C0 (t := 1355) (zdk ttL_4 41 rfl rfl) (by decide) ?_
  exact zk_widen (by omega) (by omega) (kk h74 h78 s76 s80)
theorem lc_10 (C0 : lw_At p s m meth c b L xs) (hL : L ≤ 3072) (sC : okC hC) (sM : okM hM) (hx0 : 0 ≤ x ∧ x + 6 ≤ L) (hu1 : u1 ≤ 165161) (hu2 : u2 ≤ 8596764) (kk : ∀ hC hM, okC hC → okM hM → zK p l e s m below meth c b (u1 + 1) (u2 + 10000) 1355 x [] hC hM) : zK p l e s m below meth c b u1 u2 508 x [] hC hM := by
  refine zk_aload1 C0 (zdk ttL_4 42 rfl rfl) ?_
  refine zk_aload0 C0 (zdk ttL_4 43 rfl rfl) ?_
  refine zk_iload3 C0 (zdk ttL_4 44 rfl rfl) ?_
  refine zk_iconst C0 (zdk ttL_4 45 rfl rfl) ?_
  refine zk_iadd C0 (zdk ttL_4 46 rfl rfl) ?_
  refine zk_sld C0 hL (i := (x + 1)) (by omega) (zdk ttL_4 47 rfl rfl) ?_
  refine zk_aload0 C0 (zdk ttL_4 48 rfl rfl) ?_
  refine zk_iload3 C0 (zdk ttL_4 49 rfl rfl) ?_
  refine zk_iconst C0 (zdk ttL_4 50 rfl rfl) ?_
  refine zk_iadd C0 (zdk ttL_4 51 rfl rfl) ?_
  refine zk_sld C0 hL (i := (x + 2)) (by omega) (zdk ttL_4 52 rfl rfl) ?_
  refine zk_callC C0 sC [(xs ((x + 1)).toNat).toInt, (xs ((x + 2)).toNat).toInt] (zdk ttL_4 53 rfl rfl) mb_X10_book mv_RL_59 rfl rfl rfl (Nat.le_of_ble_eq_true rfl) (s_X10_book l hC (xs ((x + 1)).toNat).toInt (xs ((x + 2)).toNat).toInt sC (zxs xs _) (zxs xs _)) ⟨rfl, rfl, ⟨Nat.le_of_ble_eq_true rfl, Nat.le_of_ble_eq_true rfl⟩, by show u1 + 0 ≤ 165162; omega, by show u2 + 0 ≤ 8606764; omega⟩ (fun v81 h82 q83 => ?_)
  have s84 : okC h82 := q83.2
  refine zk_pop C0 (zdk ttL_4 54 rfl rfl) ?_
  refine zk_aload2 C0 (zdk ttL_4 55 rfl rfl) ?_
  refine zk_aload0 C0 (zdk ttL_4 56 rfl rfl) ?_
  refine zk_iload3 C0 (zdk ttL_4 57 rfl rfl) ?_
  refine zk_iconst C0 (zdk ttL_4 58 rfl rfl) ?_
  refine zk_iadd C0 (zdk ttL_4 59 rfl rfl) ?_
  refine zk_sld C0 hL (i := (x + 1)) (by omega) (zdk ttL_5 0 rfl rfl) ?_
  refine zk_aload0 C0 (zdk ttL_5 1 rfl rfl) ?_
  refine zk_iload3 C0 (zdk ttL_5 2 rfl rfl) ?_
  refine zk_iconst C0 (zdk ttL_5 3 rfl rfl) ?_
  refine zk_iadd C0 (zdk ttL_5 4 rfl rfl) ?_
  refine zk_sld C0 hL (i := (x + 2)) (by omega) (zdk ttL_5 5 rfl rfl) ?_
  refine zk_callM C0 sM [(xs ((x + 1)).toNat).toInt, (xs ((x + 2)).toNat).toInt] (zdk ttL_5 6 rfl rfl) mb_X11_book mv_RL_62 rfl rfl rfl (Nat.le_of_ble_eq_true rfl) (s_X11_book l hM (xs ((x + 1)).toNat).toInt (xs ((x + 2)).toNat).toInt sM (zxs xs _) (zxs xs _)) ⟨rfl, rfl, ⟨Nat.le_of_ble_eq_true rfl, Nat.le_of_ble_eq_true rfl⟩, by show (u1 + 0) + 0 ≤ 165162; omega, by show (u2 + 0) + 0 ≤ 8606764; omega⟩ (fun v85 h86 q87 => ?_)
  have s88 : okM h86 := q87.2.1
  refine zk_pop C0 (zdk ttL_5 7 rfl rfl) ?_
  refine zk_goto C0 (t := 1355) (zdk ttL_5 8 rfl rfl) (by decide) ?_
  exact zk_widen (by omega) (by omega) (kk h82 h86 s84 s88)
theorem lc_11 (C0 : lw_At p s m meth c b L xs) (hL : L ≤ 3072) (sC : okC hC) (sM : okM hM) (hx0 : 0 ≤ x ∧ x + 6 ≤ L) (hu1 : u1 ≤ 165161) (hu2 : u2 ≤ 8596764) (kk : ∀ hC hM, okC hC → okM hM → zK p l e s m below meth c b (u1 + 1) (u2 + 10000) 1355 x [] hC hM) : zK p l e s m below meth c b u1 u2 541 x [] hC hM := by
  refine zk_aload1 C0 (zdk ttL_5 9 rfl rfl) ?_
  refine zk_aload0 C0 (zdk ttL_5 10 rfl rfl) ?_
  refine zk_iload3 C0 (zdk ttL_5 11 rfl rfl) ?_
  refine zk_iconst C0 (zdk ttL_5 12 rfl rfl) ?_
  refine zk_iadd C0 (zdk ttL_5 13 rfl rfl) ?_
  refine zk_sld C0 hL (i := (x + 1)) (by omega) (zdk ttL_5 14 rfl rfl) ?_
  refine zk_aload0 C0 (zdk ttL_5 15 rfl rfl) ?_
  refine zk_iload3 C0 (zdk ttL_5 16 rfl rfl) ?_
  refine zk_iconst C0 (zdk ttL_5 17 rfl rfl) ?_
  refine zk_iadd C0 (zdk ttL_5 18 rfl rfl) ?_
  refine zk_sld C0 hL (i := (x + 2)) (by omega) (zdk ttL_5 19 rfl rfl) ?_
  refine zk_callC C0 sC [(xs ((x + 1)).toNat).toInt, (xs ((x + 2)).toNat).toInt] (zdk ttL_5 20 rfl rfl) mb_X10_goes mv_RL_63 rfl rfl rfl (Nat.le_of_ble_eq_true rfl) (s_X10_goes l hC (xs ((x + 1)).toNat).toInt (xs ((x + 2)).toNat).toInt sC (zxs xs _) (zxs xs _)) ⟨rfl, rfl, ⟨Nat.le_of_ble_eq_true rfl, Nat.le_of_ble_eq_true rfl⟩, by show u1 + 0 ≤ 165162; omega, by show u2 + 0 ≤ 8606764; omega⟩ (fun v89 h90 q91 => ?_)
  have s92 : okC h90 := q91.2
  refine zk_pop C0 (zdk ttL_5 21 rfl rfl) ?_
  refine zk_aload2 C0 (zdk ttL_5 22 rfl rfl) ?_
  refine zk_aload0 C0 (zdk ttL_5 23 rfl rfl) ?_
  refine zk_iload3 C0 (zdk ttL_5 24 rfl rfl) ?_
  refine zk_iconst C0 (zdk ttL_5 25 rfl rfl) ?_
  refine zk_iadd C0 (zdk ttL_5 26 rfl rfl) ?_
  refine zk_sld C0 hL (i := (x + 1)) (by omega) (zdk ttL_5 27 rfl rfl) ?_
  refine zk_aload0 C0 (zdk ttL_5 28 rfl rfl) ?_
  refine zk_iload3 C0 (zdk ttL_5 29 rfl rfl) ?_
  refine zk_iconst C0 (zdk ttL_5 30 rfl rfl) ?_
  refine zk_iadd C0 (zdk ttL_5 31 rfl rfl) ?_
  refine zk_sld C0 hL (i := (x + 2)) (by omega) (zdk ttL_5 32 rfl rfl) ?_
  refine zk_callM C0 sM [(xs ((x + 1)).toNat).toInt, (xs ((x + 2)).toNat).toInt] (zdk ttL_5 33 rfl rfl) mb_X11_goes mv_RL_66 rfl rfl rfl (Nat.le_of_ble_eq_true rfl) (s_X11_goes l hM (xs ((x + 1)).toNat).toInt (xs ((x + 2)).toNat).toInt sM (zxs xs _) (zxs xs _)) ⟨rfl, rfl, ⟨Nat.le_of_ble_eq_true rfl, Nat.le_of_ble_eq_true rfl⟩, by show (u1 + 0) + 0 ≤ 165162; omega, by show (u2 + 0) + 0 ≤ 8606764; omega⟩ (fun v93 h94 q95 => ?_)
  have s96 : okM h94 := q95.2.1
  refine zk_pop C0 (zdk ttL_5 34 rfl rfl) ?_
  refine zk_goto C0 (t := 1355) (zdk ttL_5 35 rfl rfl) (by decide) ?_
  exact zk_widen (by omega) (by omega) (kk h90 h94 s92 s96)
theorem lc_12 (C0 : lw_At p s m meth c b L xs) (hL : L ≤ 3072) (sC : okC hC) (sM : okM hM) (hx0 : 0 ≤ x ∧ x + 6 ≤ L) (hu1 : u1 ≤ 165161) (hu2 : u2 ≤ 8596764) (kk : ∀ hC hM, okC hC → okM hM → zK p l e s m below meth c b (u1 + 1) (u2 + 10000) 1355 x [] hC hM) : zK p l e s m below meth c b u1 u2 574 x [] hC hM := by
  refine zk_aload1 C0 (zdk ttL_5 36 rfl rfl) ?_
  refine zk_callC C0 sC [] (zdk ttL_5 37 rfl rfl) mb_X10_lonely mv_RL_67 rfl rfl rfl (Nat.le_of_ble_eq_true rfl) (s_X10_lonely l hC sC ) ⟨rfl, rfl, ⟨Nat.le_of_ble_eq_true rfl, Nat.le_of_ble_eq_true rfl⟩, by show u1 + 0 ≤ 165162; omega, by show u2 + 0 ≤ 8606764; omega⟩ (fun v97 h98 q99 => ?_)
  have s100 : okC h98 := q99.2
  refine zk_pop C0 (zdk ttL_5 38 rfl rfl) ?_
  refine zk_aload2 C0 (zdk ttL_5 39 rfl rfl) ?_
  refine zk_callM C0 sM [] (zdk ttL_5 40 rfl rfl) mb_X11_lonely mv_RL_71 rfl rfl rfl (Nat.le_of_ble_eq_true rfl) (s_X11_lonely l hM sM ) ⟨rfl, rfl, ⟨Nat.le_of_ble_eq_true rfl, Nat.le_of_ble_eq_true rfl⟩, by show (u1 + 0) + 0 ≤ 165162; omega, by show (u2 + 0) + 0 ≤ 8606764; omega⟩ (fun v101 h102 q103 => ?_)
  have s104 : okM h102 := q103.2.1
  refine zk_pop C0 (zdk ttL_5 41 rfl rfl) ?_
  refine zk_goto C0 (t := 1355) (zdk ttL_5 42 rfl rfl) (by decide) ?_
  exact zk_widen (by omega) (by omega) (kk h98 h102 s100 s104)
theorem lc_13 (C0 : lw_At p s m meth c b L xs) (hL : L ≤ 3072) (sC : okC hC) (sM : okM hM) (hx0 : 0 ≤ x ∧ x + 6 ≤ L) (hu1 : u1 ≤ 165161) (hu2 : u2 ≤ 8596764) (kk : ∀ hC hM, okC hC → okM hM → zK p l e s m below meth c b (u1 + 1) (u2 + 10000) 1355 x [] hC hM) : zK p l e s m below meth c b u1 u2 587 x [] hC hM := by
  refine zk_aload1 C0 (zdk ttL_5 43 rfl rfl) ?_
  refine zk_aload0 C0 (zdk ttL_5 44 rfl rfl) ?_
  refine zk_iload3 C0 (zdk ttL_5 45 rfl rfl) ?_
  refine zk_iconst C0 (zdk ttL_5 46 rfl rfl) ?_
  refine zk_iadd C0 (zdk ttL_5 47 rfl rfl) ?_
  refine zk_sld C0 hL (i := (x + 1)) (by omega) (zdk ttL_5 48 rfl rfl) ?_
  refine zk_aload0 C0 (zdk ttL_5 49 rfl rfl) ?_
  refine zk_iload3 C0 (zdk ttL_5 50 rfl rfl) ?_
  refine zk_iconst C0 (zdk ttL_5 51 rfl rfl) ?_
  refine zk_iadd C0 (zdk ttL_5 52 rfl rfl) ?_
  refine zk_sld C0 hL (i := (x + 2)) (by omega) (zdk ttL_5 53 rfl rfl) ?_
  refine zk_callC C0 sC [(xs ((x + 1)).toNat).toInt, (xs ((x + 2)).toNat).toInt] (zdk ttL_5 54 rfl rfl) mb_X10_must mv_RL_72 rfl rfl rfl (Nat.le_of_ble_eq_true rfl) (s_X10_must l hC (xs ((x + 1)).toNat).toInt (xs ((x + 2)).toNat).toInt sC (zxs xs _) (zxs xs _)) ⟨rfl, rfl, ⟨Nat.le_of_ble_eq_true rfl, Nat.le_of_ble_eq_true rfl⟩, by show u1 + 1 ≤ 165162; omega, by show u2 + 10000 ≤ 8606764; omega⟩ (fun v105 h106 q107 => ?_)
  have s108 : okC h106 := q107.2
  refine zk_pop C0 (zdk ttL_5 55 rfl rfl) ?_
  refine zk_aload2 C0 (zdk ttL_5 56 rfl rfl) ?_
  refine zk_aload0 C0 (zdk ttL_5 57 rfl rfl) ?_
  refine zk_iload3 C0 (zdk ttL_5 58 rfl rfl) ?_
  refine zk_iconst C0 (zdk ttL_5 59 rfl rfl) ?_
  refine zk_iadd C0 (zdk ttL_6 0 rfl rfl) ?_
  refine zk_sld C0 hL (i := (x + 1)) (by omega) (zdk ttL_6 1 rfl rfl) ?_
  refine zk_aload0 C0 (zdk ttL_6 2 rfl rfl) ?_
  refine zk_iload3 C0 (zdk ttL_6 3 rfl rfl) ?_
  refine zk_iconst C0 (zdk ttL_6 4 rfl rfl) ?_
  refine zk_iadd C0 (zdk ttL_6 5 rfl rfl) ?_
  refine zk_sld C0 hL (i := (x + 2)) (by omega) (zdk ttL_6 6 rfl rfl) ?_
  refine zk_callM C0 sM [(xs ((x + 1)).toNat).toInt, (xs ((x + 2)).toNat).toInt] (zdk ttL_6 7 rfl rfl) mb_X11_must mv_RL_75 rfl rfl rfl (Nat.le_of_ble_eq_true rfl) (s_X11_must l hM (xs ((x + 1)).toNat).toInt (xs ((x + 2)).toNat).toInt sM (zxs xs _) (zxs xs _)) ⟨rfl, rfl, ⟨Nat.le_of_ble_eq_true rfl, Nat.le_of_ble_eq_true rfl⟩, by show (u1 + 1) + 0 ≤ 165162; omega, by show (u2 + 10000) + 0 ≤ 8606764; omega⟩ (fun v109 h110 q111 => ?_)
  have s112 : okM h110 := q111.2.1
  refine zk_pop C0 (zdk ttL_6 8 rfl rfl) ?_
  refine zk_goto C0 (t := 1355) (zdk ttL_6 9 rfl rfl) (by decide) ?_
  exact zk_widen (by omega) (by omega) (kk h106 h110 s108 s112)
theorem lc_14 (C0 : lw_At p s m meth c b L xs) (hL : L ≤ 3072) (sC : okC hC) (sM : okM hM) (hx0 : 0 ≤ x ∧ x + 6 ≤ L) (hu1 : u1 ≤ 165161) (hu2 : u2 ≤ 8596764) (kk : ∀ hC hM, okC hC → okM hM → zK p l e s m below meth c b (u1 + 1) (u2 + 10000) 1355 x [] hC hM) : zK p l e s m below meth c b u1 u2 620 x [] hC hM := by
  refine zk_aload1 C0 (zdk ttL_6 10 rfl rfl) ?_
  refine zk_aload0 C0 (zdk ttL_6 11 rfl rfl) ?_
  refine zk_iload3 C0 (zdk ttL_6 12 rfl rfl) ?_
  refine zk_iconst C0 (zdk ttL_6 13 rfl rfl) ?_
  refine zk_iadd C0 (zdk ttL_6 14 rfl rfl) ?_
  refine zk_sld C0 hL (i := (x + 1)) (by omega) (zdk ttL_6 15 rfl rfl) ?_
  refine zk_aload0 C0 (zdk ttL_6 16 rfl rfl) ?_
  refine zk_iload3 C0 (zdk ttL_6 17 rfl rfl) ?_
  refine zk_iconst C0 (zdk ttL_6 18 rfl rfl) ?_
  refine zk_iadd C0 (zdk ttL_6 19 rfl rfl) ?_
  refine zk_sld C0 hL (i := (x + 2)) (by omega) (zdk ttL_6 20 rfl rfl) ?_
  refine zk_callC C0 sC [(xs ((x + 1)).toNat).toInt, (xs ((x + 2)).toNat).toInt] (zdk ttL_6 21 rfl rfl) mb_X10_strokes mv_RL_76 rfl rfl rfl (Nat.le_of_ble_eq_true rfl) (s_X10_strokes l hC (xs ((x + 1)).toNat).toInt (xs ((x + 2)).toNat).toInt sC (zxs xs _) (zxs xs _)) ⟨rfl, rfl, ⟨Nat.le_of_ble_eq_true rfl, Nat.le_of_ble_eq_true rfl⟩, by show u1 + 0 ≤ 165162; omega, by show u2 + 0 ≤ 8606764; omega⟩ (fun v113 h114 q115 => ?_)
  have s116 : okC h114 := q115.2
  refine zk_pop C0 (zdk ttL_6 22 rfl rfl) ?_
  refine zk_aload2 C0 (zdk ttL_6 23 rfl rfl) ?_
  refine zk_aload0 C0 (zdk ttL_6 24 rfl rfl) ?_
  refine zk_iload3 C0 (zdk ttL_6 25 rfl rfl) ?_
  refine zk_iconst C0 (zdk ttL_6 26 rfl rfl) ?_
  refine zk_iadd C0 (zdk ttL_6 27 rfl rfl) ?_
  refine zk_sld C0 hL (i := (x + 1)) (by omega) (zdk ttL_6 28 rfl rfl) ?_
  refine zk_aload0 C0 (zdk ttL_6 29 rfl rfl) ?_
  refine zk_iload3 C0 (zdk ttL_6 30 rfl rfl) ?_
  refine zk_iconst C0 (zdk ttL_6 31 rfl rfl) ?_
  refine zk_iadd C0 (zdk ttL_6 32 rfl rfl) ?_
  refine zk_sld C0 hL (i := (x + 2)) (by omega) (zdk ttL_6 33 rfl rfl) ?_
  refine zk_callM C0 sM [(xs ((x + 1)).toNat).toInt, (xs ((x + 2)).toNat).toInt] (zdk ttL_6 34 rfl rfl) mb_X11_strokes mv_RL_79 rfl rfl rfl (Nat.le_of_ble_eq_true rfl) (s_X11_strokes l hM (xs ((x + 1)).toNat).toInt (xs ((x + 2)).toNat).toInt sM (zxs xs _) (zxs xs _)) ⟨rfl, rfl, ⟨Nat.le_of_ble_eq_true rfl, Nat.le_of_ble_eq_true rfl⟩, by show (u1 + 0) + 0 ≤ 165162; omega, by show (u2 + 0) + 0 ≤ 8606764; omega⟩ (fun v117 h118 q119 => ?_)
  have s120 : okM h118 := q119.2.1
  refine zk_pop C0 (zdk ttL_6 35 rfl rfl) ?_
  refine zk_goto C0 (t := 1355) (zdk ttL_6 36 rfl rfl) (by decide) ?_
  exact zk_widen (by omega) (by omega) (kk h114 h118 s116 s120)
theorem lc_15 (C0 : lw_At p s m meth c b L xs) (hL : L ≤ 3072) (sC : okC hC) (sM : okM hM) (hx0 : 0 ≤ x ∧ x + 6 ≤ L) (hu1 : u1 ≤ 165161) (hu2 : u2 ≤ 8596764) (kk : ∀ hC hM, okC hC → okM hM → zK p l e s m below meth c b (u1 + 1) (u2 + 10000) 1355 x [] hC hM) : zK p l e s m below meth c b u1 u2 653 x [] hC hM := by
  refine zk_aload1 C0 (zdk ttL_6 37 rfl rfl) ?_
  refine zk_aload0 C0 (zdk ttL_6 38 rfl rfl) ?_
  refine zk_iload3 C0 (zdk ttL_6 39 rfl rfl) ?_
  refine zk_iconst C0 (zdk ttL_6 40 rfl rfl) ?_
  refine zk_iadd C0 (zdk ttL_6 41 rfl rfl) ?_
  refine zk_sld C0 hL (i := (x + 1)) (by omega) (zdk ttL_6 42 rfl rfl) ?_
  refine zk_aload0 C0 (zdk ttL_6 43 rfl rfl) ?_
  refine zk_iload3 C0 (zdk ttL_6 44 rfl rfl) ?_
  refine zk_iconst C0 (zdk ttL_6 45 rfl rfl) ?_
  refine zk_iadd C0 (zdk ttL_6 46 rfl rfl) ?_
  refine zk_sld C0 hL (i := (x + 2)) (by omega) (zdk ttL_6 47 rfl rfl) ?_
  refine zk_callC C0 sC [(xs ((x + 1)).toNat).toInt, (xs ((x + 2)).toNat).toInt] (zdk ttL_6 48 rfl rfl) mb_X10_hands mv_RL_80 rfl rfl rfl (Nat.le_of_ble_eq_true rfl) (s_X10_hands l hC (xs ((x + 1)).toNat).toInt (xs ((x + 2)).toNat).toInt sC (zxs xs _) (zxs xs _)) ⟨rfl, rfl, ⟨Nat.le_of_ble_eq_true rfl, Nat.le_of_ble_eq_true rfl⟩, by show u1 + 0 ≤ 165162; omega, by show u2 + 0 ≤ 8606764; omega⟩ (fun v121 h122 q123 => ?_)
  have s124 : okC h122 := q123.2
  refine zk_pop C0 (zdk ttL_6 49 rfl rfl) ?_
  refine zk_aload2 C0 (zdk ttL_6 50 rfl rfl) ?_
  refine zk_aload0 C0 (zdk ttL_6 51 rfl rfl) ?_
  refine zk_iload3 C0 (zdk ttL_6 52 rfl rfl) ?_
  refine zk_iconst C0 (zdk ttL_6 53 rfl rfl) ?_
  refine zk_iadd C0 (zdk ttL_6 54 rfl rfl) ?_
  refine zk_sld C0 hL (i := (x + 1)) (by omega) (zdk ttL_6 55 rfl rfl) ?_
  refine zk_aload0 C0 (zdk ttL_6 56 rfl rfl) ?_
  refine zk_iload3 C0 (zdk ttL_6 57 rfl rfl) ?_
  refine zk_iconst C0 (zdk ttL_6 58 rfl rfl) ?_
  refine zk_iadd C0 (zdk ttL_6 59 rfl rfl) ?_
  refine zk_sld C0 hL (i := (x + 2)) (by omega) (zdk ttL_7 0 rfl rfl) ?_
  refine zk_callM C0 sM [(xs ((x + 1)).toNat).toInt, (xs ((x + 2)).toNat).toInt] (zdk ttL_7 1 rfl rfl) mb_X11_hands mv_RL_83 rfl rfl rfl (Nat.le_of_ble_eq_true rfl) (s_X11_hands l hM (xs ((x + 1)).toNat).toInt (xs ((x + 2)).toNat).toInt sM (zxs xs _) (zxs xs _)) ⟨rfl, rfl, ⟨Nat.le_of_ble_eq_true rfl, Nat.le_of_ble_eq_true rfl⟩, by show (u1 + 0) + 0 ≤ 165162; omega, by show (u2 + 0) + 0 ≤ 8606764; omega⟩ (fun v125 h126 q127 => ?_)
  have s128 : okM h126 := q127.2.1
  refine zk_pop C0 (zdk ttL_7 2 rfl rfl) ?_
  refine zk_goto C0 (t := 1355) (zdk ttL_7 3 rfl rfl) (by decide) ?_
  exact zk_widen (by omega) (by omega) (kk h122 h126 s124 s128)
theorem lc_16 (C0 : lw_At p s m meth c b L xs) (hL : L ≤ 3072) (sC : okC hC) (sM : okM hM) (hx0 : 0 ≤ x ∧ x + 6 ≤ L) (hu1 : u1 ≤ 165161) (hu2 : u2 ≤ 8596764) (kk : ∀ hC hM, okC hC → okM hM → zK p l e s m below meth c b (u1 + 1) (u2 + 10000) 1355 x [] hC hM) : zK p l e s m below meth c b u1 u2 686 x [] hC hM := by
  refine zk_aload1 C0 (zdk ttL_7 4 rfl rfl) ?_
  refine zk_aload0 C0 (zdk ttL_7 5 rfl rfl) ?_
  refine zk_iload3 C0 (zdk ttL_7 6 rfl rfl) ?_
  refine zk_iconst C0 (zdk ttL_7 7 rfl rfl) ?_
  refine zk_iadd C0 (zdk ttL_7 8 rfl rfl) ?_
  refine zk_sld C0 hL (i := (x + 1)) (by omega) (zdk ttL_7 9 rfl rfl) ?_
  refine zk_aload0 C0 (zdk ttL_7 10 rfl rfl) ?_
  refine zk_iload3 C0 (zdk ttL_7 11 rfl rfl) ?_
  refine zk_iconst C0 (zdk ttL_7 12 rfl rfl) ?_
  refine zk_iadd C0 (zdk ttL_7 13 rfl rfl) ?_
  refine zk_sld C0 hL (i := (x + 2)) (by omega) (zdk ttL_7 14 rfl rfl) ?_
  refine zk_if_eq C0 (t := 704) (zdk ttL_7 15 rfl rfl) (by decide) (zxs xs _) (fun c129 => ?_) (fun c129 => ?_)
  · refine zk_iconst C0 (zdk ttL_7 18 rfl rfl) ?_
    refine zk_callC C0 sC [(xs ((x + 1)).toNat).toInt, 0] (zdk ttL_7 19 rfl rfl) mb_X10_wheel mv_RL_84 rfl rfl rfl (Nat.le_of_ble_eq_true rfl) (s_X10_wheel l hC (xs ((x + 1)).toNat).toInt 0 sC (zxs xs _) (by decide)) ⟨rfl, rfl, ⟨Nat.le_of_ble_eq_true rfl, Nat.le_of_ble_eq_true rfl⟩, by show u1 + 0 ≤ 165162; omega, by show u2 + 0 ≤ 8606764; omega⟩ (fun v130 h131 q132 => ?_)
    have s133 : okC h131 := q132.2
    refine zk_pop C0 (zdk ttL_7 20 rfl rfl) ?_
    refine zk_aload2 C0 (zdk ttL_7 21 rfl rfl) ?_
    refine zk_aload0 C0 (zdk ttL_7 22 rfl rfl) ?_
    refine zk_iload3 C0 (zdk ttL_7 23 rfl rfl) ?_
    refine zk_iconst C0 (zdk ttL_7 24 rfl rfl) ?_
    refine zk_iadd C0 (zdk ttL_7 25 rfl rfl) ?_
    refine zk_sld C0 hL (i := (x + 1)) (by omega) (zdk ttL_7 26 rfl rfl) ?_
    refine zk_aload0 C0 (zdk ttL_7 27 rfl rfl) ?_
    refine zk_iload3 C0 (zdk ttL_7 28 rfl rfl) ?_
    refine zk_iconst C0 (zdk ttL_7 29 rfl rfl) ?_
    refine zk_iadd C0 (zdk ttL_7 30 rfl rfl) ?_
    refine zk_sld C0 hL (i := (x + 2)) (by omega) (zdk ttL_7 31 rfl rfl) ?_
    refine zk_if_eq C0 (t := 727) (zdk ttL_7 32 rfl rfl) (by decide) (zxs xs _) (fun c134 => ?_) (fun c134 => ?_)
    · refine zk_iconst C0 (zdk ttL_7 35 rfl rfl) ?_
      refine zk_callM C0 sM [(xs ((x + 1)).toNat).toInt, 0] (zdk ttL_7 36 rfl rfl) mb_X11_wheel mv_RL_88 rfl rfl rfl (Nat.le_of_ble_eq_true rfl) (s_X11_wheel l hM (xs ((x + 1)).toNat).toInt 0 sM (zxs xs _) (by decide)) ⟨rfl, rfl, ⟨Nat.le_of_ble_eq_true rfl, Nat.le_of_ble_eq_true rfl⟩, by show (u1 + 0) + 0 ≤ 165162; omega, by show (u2 + 0) + 0 ≤ 8606764; omega⟩ (fun v135 h136 q137 => ?_)
      have s138 : okM h136 := q137.2.1
      refine zk_pop C0 (zdk ttL_7 37 rfl rfl) ?_
      refine zk_goto C0 (t := 1355) (zdk ttL_7 38 rfl rfl) (by decide) ?_
      exact zk_widen (by omega) (by omega) (kk h131 h136 s133 s138)
    · refine zk_iconst C0 (zdk ttL_7 33 rfl rfl) ?_
      refine zk_goto C0 (t := 728) (zdk ttL_7 34 rfl rfl) (by decide) ?_
      refine zk_callM C0 sM [(xs ((x + 1)).toNat).toInt, 1] (zdk ttL_7 36 rfl rfl) mb_X11_wheel mv_RL_88 rfl rfl rfl (Nat.le_of_ble_eq_true rfl) (s_X11_wheel l hM (xs ((x + 1)).toNat).toInt 1 sM (zxs xs _) (by decide)) ⟨rfl, rfl, ⟨Nat.le_of_ble_eq_true rfl, Nat.le_of_ble_eq_true rfl⟩, by show (u1 + 0) + 0 ≤ 165162; omega, by show (u2 + 0) + 0 ≤ 8606764; omega⟩ (fun v139 h140 q141 => ?_)
      have s142 : okM h140 := q141.2.1
      refine zk_pop C0 (zdk ttL_7 37 rfl rfl) ?_
      refine zk_goto C0 (t := 1355) (zdk ttL_7 38 rfl rfl) (by decide) ?_
      exact zk_widen (by omega) (by omega) (kk h131 h140 s133 s142)
  · refine zk_iconst C0 (zdk ttL_7 16 rfl rfl) ?_
    refine zk_goto C0 (t := 705) (zdk ttL_7 17 rfl rfl) (by decide) ?_
    refine zk_callC C0 sC [(xs ((x + 1)).toNat).toInt, 1] (zdk ttL_7 19 rfl rfl) mb_X10_wheel mv_RL_84 rfl rfl rfl (Nat.le_of_ble_eq_true rfl) (s_X10_wheel l hC (xs ((x + 1)).toNat).toInt 1 sC (zxs xs _) (by decide)) ⟨rfl, rfl, ⟨Nat.le_of_ble_eq_true rfl, Nat.le_of_ble_eq_true rfl⟩, by show u1 + 0 ≤ 165162; omega, by show u2 + 0 ≤ 8606764; omega⟩ (fun v143 h144 q145 => ?_)
    have s146 : okC h144 := q145.2
    refine zk_pop C0 (zdk ttL_7 20 rfl rfl) ?_
    refine zk_aload2 C0 (zdk ttL_7 21 rfl rfl) ?_
    refine zk_aload0 C0 (zdk ttL_7 22 rfl rfl) ?_
    refine zk_iload3 C0 (zdk ttL_7 23 rfl rfl) ?_
    refine zk_iconst C0 (zdk ttL_7 24 rfl rfl) ?_
    refine zk_iadd C0 (zdk ttL_7 25 rfl rfl) ?_
    refine zk_sld C0 hL (i := (x + 1)) (by omega) (zdk ttL_7 26 rfl rfl) ?_
    refine zk_aload0 C0 (zdk ttL_7 27 rfl rfl) ?_
    refine zk_iload3 C0 (zdk ttL_7 28 rfl rfl) ?_
    refine zk_iconst C0 (zdk ttL_7 29 rfl rfl) ?_
    refine zk_iadd C0 (zdk ttL_7 30 rfl rfl) ?_
    refine zk_sld C0 hL (i := (x + 2)) (by omega) (zdk ttL_7 31 rfl rfl) ?_
    refine zk_if_eq C0 (t := 727) (zdk ttL_7 32 rfl rfl) (by decide) (zxs xs _) (fun c147 => ?_) (fun c147 => ?_)
    · refine zk_iconst C0 (zdk ttL_7 35 rfl rfl) ?_
      refine zk_callM C0 sM [(xs ((x + 1)).toNat).toInt, 0] (zdk ttL_7 36 rfl rfl) mb_X11_wheel mv_RL_88 rfl rfl rfl (Nat.le_of_ble_eq_true rfl) (s_X11_wheel l hM (xs ((x + 1)).toNat).toInt 0 sM (zxs xs _) (by decide)) ⟨rfl, rfl, ⟨Nat.le_of_ble_eq_true rfl, Nat.le_of_ble_eq_true rfl⟩, by show (u1 + 0) + 0 ≤ 165162; omega, by show (u2 + 0) + 0 ≤ 8606764; omega⟩ (fun v148 h149 q150 => ?_)
      have s151 : okM h149 := q150.2.1
      refine zk_pop C0 (zdk ttL_7 37 rfl rfl) ?_
      refine zk_goto C0 (t := 1355) (zdk ttL_7 38 rfl rfl) (by decide) ?_
      exact zk_widen (by omega) (by omega) (kk h144 h149 s146 s151)
    · refine zk_iconst C0 (zdk ttL_7 33 rfl rfl) ?_
      refine zk_goto C0 (t := 728) (zdk ttL_7 34 rfl rfl) (by decide) ?_
      refine zk_callM C0 sM [(xs ((x + 1)).toNat).toInt, 1] (zdk ttL_7 36 rfl rfl) mb_X11_wheel mv_RL_88 rfl rfl rfl (Nat.le_of_ble_eq_true rfl) (s_X11_wheel l hM (xs ((x + 1)).toNat).toInt 1 sM (zxs xs _) (by decide)) ⟨rfl, rfl, ⟨Nat.le_of_ble_eq_true rfl, Nat.le_of_ble_eq_true rfl⟩, by show (u1 + 0) + 0 ≤ 165162; omega, by show (u2 + 0) + 0 ≤ 8606764; omega⟩ (fun v152 h153 q154 => ?_)
      have s155 : okM h153 := q154.2.1
      refine zk_pop C0 (zdk ttL_7 37 rfl rfl) ?_
      refine zk_goto C0 (t := 1355) (zdk ttL_7 38 rfl rfl) (by decide) ?_
      exact zk_widen (by omega) (by omega) (kk h144 h153 s146 s155)
theorem lc_17 (C0 : lw_At p s m meth c b L xs) (hL : L ≤ 3072) (sC : okC hC) (sM : okM hM) (hx0 : 0 ≤ x ∧ x + 6 ≤ L) (hu1 : u1 ≤ 165161) (hu2 : u2 ≤ 8596764) (kk : ∀ hC hM, okC hC → okM hM → zK p l e s m below meth c b (u1 + 1) (u2 + 10000) 1355 x [] hC hM) : zK p l e s m below meth c b u1 u2 735 x [] hC hM := by
  refine zk_aload1 C0 (zdk ttL_7 39 rfl rfl) ?_
  refine zk_aload0 C0 (zdk ttL_7 40 rfl rfl) ?_
  refine zk_iload3 C0 (zdk ttL_7 41 rfl rfl) ?_
  refine zk_iconst C0 (zdk ttL_7 42 rfl rfl) ?_
  refine zk_iadd C0 (zdk ttL_7 43 rfl rfl) ?_
  refine zk_sld C0 hL (i := (x + 1)) (by omega) (zdk ttL_7 44 rfl rfl) ?_
  refine zk_callC C0 sC [(xs ((x + 1)).toNat).toInt] (zdk ttL_7 45 rfl rfl) mb_X10_wheels mv_RL_89 rfl rfl rfl (Nat.le_of_ble_eq_true rfl) (s_X10_wheels l hC (xs ((x + 1)).toNat).toInt sC (zxs xs _)) ⟨rfl, rfl, ⟨Nat.le_of_ble_eq_true rfl, Nat.le_of_ble_eq_true rfl⟩, by show u1 + 0 ≤ 165162; omega, by show u2 + 0 ≤ 8606764; omega⟩ (fun v156 h157 q158 => ?_)
  have s159 : okC h157 := q158.2
  refine zk_pop C0 (zdk ttL_7 46 rfl rfl) ?_
  refine zk_aload2 C0 (zdk ttL_7 47 rfl rfl) ?_
  refine zk_aload0 C0 (zdk ttL_7 48 rfl rfl) ?_
  refine zk_iload3 C0 (zdk ttL_7 49 rfl rfl) ?_
  refine zk_iconst C0 (zdk ttL_7 50 rfl rfl) ?_
  refine zk_iadd C0 (zdk ttL_7 51 rfl rfl) ?_
  refine zk_sld C0 hL (i := (x + 1)) (by omega) (zdk ttL_7 52 rfl rfl) ?_
  refine zk_callM C0 sM [(xs ((x + 1)).toNat).toInt] (zdk ttL_7 53 rfl rfl) mb_X11_wheels mv_RL_92 rfl rfl rfl (Nat.le_of_ble_eq_true rfl) (s_X11_wheels l hM (xs ((x + 1)).toNat).toInt sM (zxs xs _)) ⟨rfl, rfl, ⟨Nat.le_of_ble_eq_true rfl, Nat.le_of_ble_eq_true rfl⟩, by show (u1 + 0) + 0 ≤ 165162; omega, by show (u2 + 0) + 0 ≤ 8606764; omega⟩ (fun v160 h161 q162 => ?_)
  have s163 : okM h161 := q162.2.1
  refine zk_pop C0 (zdk ttL_7 54 rfl rfl) ?_
  refine zk_goto C0 (t := 1355) (zdk ttL_7 55 rfl rfl) (by decide) ?_
  exact zk_widen (by omega) (by omega) (kk h157 h161 s159 s163)
theorem lc_18 (C0 : lw_At p s m meth c b L xs) (hL : L ≤ 3072) (sC : okC hC) (sM : okM hM) (hx0 : 0 ≤ x ∧ x + 6 ≤ L) (hu1 : u1 ≤ 165161) (hu2 : u2 ≤ 8596764) (kk : ∀ hC hM, okC hC → okM hM → zK p l e s m below meth c b (u1 + 1) (u2 + 10000) 1355 x [] hC hM) : zK p l e s m below meth c b u1 u2 758 x [] hC hM := by
  refine zk_aload1 C0 (zdk ttL_7 56 rfl rfl) ?_
  refine zk_aload0 C0 (zdk ttL_7 57 rfl rfl) ?_
  refine zk_iload3 C0 (zdk ttL_7 58 rfl rfl) ?_
  refine zk_iconst C0 (zdk ttL_7 59 rfl rfl) ?_
  refine zk_iadd C0 (zdk ttL_8 0 rfl rfl) ?_
  refine zk_sld C0 hL (i := (x + 1)) (by omega) (zdk ttL_8 1 rfl rfl) ?_
  refine zk_aload0 C0 (zdk ttL_8 2 rfl rfl) ?_
  refine zk_iload3 C0 (zdk ttL_8 3 rfl rfl) ?_
  refine zk_iconst C0 (zdk ttL_8 4 rfl rfl) ?_
  refine zk_iadd C0 (zdk ttL_8 5 rfl rfl) ?_
  refine zk_sld C0 hL (i := (x + 2)) (by omega) (zdk ttL_8 6 rfl rfl) ?_
  refine zk_callC C0 sC [(xs ((x + 1)).toNat).toInt, (xs ((x + 2)).toNat).toInt] (zdk ttL_8 7 rfl rfl) mb_X10_couple mv_RL_93 rfl rfl rfl (Nat.le_of_ble_eq_true rfl) (s_X10_couple l hC (xs ((x + 1)).toNat).toInt (xs ((x + 2)).toNat).toInt sC (zxs xs _) (zxs xs _)) ⟨rfl, rfl, ⟨Nat.le_of_ble_eq_true rfl, Nat.le_of_ble_eq_true rfl⟩, by show u1 + 0 ≤ 165162; omega, by show u2 + 0 ≤ 8606764; omega⟩ (fun v164 h165 q166 => ?_)
  have s167 : okC h165 := q166.2
  refine zk_pop C0 (zdk ttL_8 8 rfl rfl) ?_
  refine zk_aload2 C0 (zdk ttL_8 9 rfl rfl) ?_
  refine zk_aload0 C0 (zdk ttL_8 10 rfl rfl) ?_
  refine zk_iload3 C0 (zdk ttL_8 11 rfl rfl) ?_
  refine zk_iconst C0 (zdk ttL_8 12 rfl rfl) ?_
  refine zk_iadd C0 (zdk ttL_8 13 rfl rfl) ?_
  refine zk_sld C0 hL (i := (x + 1)) (by omega) (zdk ttL_8 14 rfl rfl) ?_
  refine zk_aload0 C0 (zdk ttL_8 15 rfl rfl) ?_
  refine zk_iload3 C0 (zdk ttL_8 16 rfl rfl) ?_
  refine zk_iconst C0 (zdk ttL_8 17 rfl rfl) ?_
  refine zk_iadd C0 (zdk ttL_8 18 rfl rfl) ?_
  refine zk_sld C0 hL (i := (x + 2)) (by omega) (zdk ttL_8 19 rfl rfl) ?_
  refine zk_callM C0 sM [(xs ((x + 1)).toNat).toInt, (xs ((x + 2)).toNat).toInt] (zdk ttL_8 20 rfl rfl) mb_X11_couple mv_RL_96 rfl rfl rfl (Nat.le_of_ble_eq_true rfl) (s_X11_couple l hM (xs ((x + 1)).toNat).toInt (xs ((x + 2)).toNat).toInt sM (zxs xs _) (zxs xs _)) ⟨rfl, rfl, ⟨Nat.le_of_ble_eq_true rfl, Nat.le_of_ble_eq_true rfl⟩, by show (u1 + 0) + 0 ≤ 165162; omega, by show (u2 + 0) + 0 ≤ 8606764; omega⟩ (fun v168 h169 q170 => ?_)
  have s171 : okM h169 := q170.2.1
  refine zk_pop C0 (zdk ttL_8 21 rfl rfl) ?_
  refine zk_goto C0 (t := 1355) (zdk ttL_8 22 rfl rfl) (by decide) ?_
  exact zk_widen (by omega) (by omega) (kk h165 h169 s167 s171)
theorem lc_19 (C0 : lw_At p s m meth c b L xs) (hL : L ≤ 3072) (sC : okC hC) (sM : okM hM) (hx0 : 0 ≤ x ∧ x + 6 ≤ L) (hu1 : u1 ≤ 165161) (hu2 : u2 ≤ 8596764) (kk : ∀ hC hM, okC hC → okM hM → zK p l e s m below meth c b (u1 + 1) (u2 + 10000) 1355 x [] hC hM) : zK p l e s m below meth c b u1 u2 791 x [] hC hM := by
  refine zk_aload1 C0 (zdk ttL_8 23 rfl rfl) ?_
  refine zk_aload0 C0 (zdk ttL_8 24 rfl rfl) ?_
  refine zk_iload3 C0 (zdk ttL_8 25 rfl rfl) ?_
  refine zk_iconst C0 (zdk ttL_8 26 rfl rfl) ?_
  refine zk_iadd C0 (zdk ttL_8 27 rfl rfl) ?_
  refine zk_sld C0 hL (i := (x + 1)) (by omega) (zdk ttL_8 28 rfl rfl) ?_
  refine zk_aload0 C0 (zdk ttL_8 29 rfl rfl) ?_
  refine zk_iload3 C0 (zdk ttL_8 30 rfl rfl) ?_
  refine zk_iconst C0 (zdk ttL_8 31 rfl rfl) ?_
  refine zk_iadd C0 (zdk ttL_8 32 rfl rfl) ?_
  refine zk_sld C0 hL (i := (x + 2)) (by omega) (zdk ttL_8 33 rfl rfl) ?_
  refine zk_callC C0 sC [(xs ((x + 1)).toNat).toInt, (xs ((x + 2)).toNat).toInt] (zdk ttL_8 34 rfl rfl) mb_X10_ferry mv_RL_97 rfl rfl rfl (Nat.le_of_ble_eq_true rfl) (s_X10_ferry l hC (xs ((x + 1)).toNat).toInt (xs ((x + 2)).toNat).toInt sC (zxs xs _) (zxs xs _)) ⟨rfl, rfl, ⟨Nat.le_of_ble_eq_true rfl, Nat.le_of_ble_eq_true rfl⟩, by show u1 + 0 ≤ 165162; omega, by show u2 + 0 ≤ 8606764; omega⟩ (fun v172 h173 q174 => ?_)
  have s175 : okC h173 := q174.2
  refine zk_pop C0 (zdk ttL_8 35 rfl rfl) ?_
  refine zk_aload2 C0 (zdk ttL_8 36 rfl rfl) ?_
  refine zk_aload0 C0 (zdk ttL_8 37 rfl rfl) ?_
  refine zk_iload3 C0 (zdk ttL_8 38 rfl rfl) ?_
  refine zk_iconst C0 (zdk ttL_8 39 rfl rfl) ?_
  refine zk_iadd C0 (zdk ttL_8 40 rfl rfl) ?_
  refine zk_sld C0 hL (i := (x + 1)) (by omega) (zdk ttL_8 41 rfl rfl) ?_
  refine zk_aload0 C0 (zdk ttL_8 42 rfl rfl) ?_
  refine zk_iload3 C0 (zdk ttL_8 43 rfl rfl) ?_
  refine zk_iconst C0 (zdk ttL_8 44 rfl rfl) ?_
  refine zk_iadd C0 (zdk ttL_8 45 rfl rfl) ?_
  refine zk_sld C0 hL (i := (x + 2)) (by omega) (zdk ttL_8 46 rfl rfl) ?_
  refine zk_callM C0 sM [(xs ((x + 1)).toNat).toInt, (xs ((x + 2)).toNat).toInt] (zdk ttL_8 47 rfl rfl) mb_X11_ferry mv_RL_100 rfl rfl rfl (Nat.le_of_ble_eq_true rfl) (s_X11_ferry l hM (xs ((x + 1)).toNat).toInt (xs ((x + 2)).toNat).toInt sM (zxs xs _) (zxs xs _)) ⟨rfl, rfl, ⟨Nat.le_of_ble_eq_true rfl, Nat.le_of_ble_eq_true rfl⟩, by show (u1 + 0) + 0 ≤ 165162; omega, by show (u2 + 0) + 0 ≤ 8606764; omega⟩ (fun v176 h177 q178 => ?_)
  have s179 : okM h177 := q178.2.1
  refine zk_pop C0 (zdk ttL_8 48 rfl rfl) ?_
  refine zk_goto C0 (t := 1355) (zdk ttL_8 49 rfl rfl) (by decide) ?_
  exact zk_widen (by omega) (by omega) (kk h173 h177 s175 s179)
theorem lc_20 (C0 : lw_At p s m meth c b L xs) (hL : L ≤ 3072) (sC : okC hC) (sM : okM hM) (hx0 : 0 ≤ x ∧ x + 6 ≤ L) (hu1 : u1 ≤ 165161) (hu2 : u2 ≤ 8596764) (kk : ∀ hC hM, okC hC → okM hM → zK p l e s m below meth c b (u1 + 1) (u2 + 10000) 1355 x [] hC hM) : zK p l e s m below meth c b u1 u2 824 x [] hC hM := by
  refine zk_aload1 C0 (zdk ttL_8 50 rfl rfl) ?_
  refine zk_aload0 C0 (zdk ttL_8 51 rfl rfl) ?_
  refine zk_iload3 C0 (zdk ttL_8 52 rfl rfl) ?_
  refine zk_iconst C0 (zdk ttL_8 53 rfl rfl) ?_
  refine zk_iadd C0 (zdk ttL_8 54 rfl rfl) ?_
  refine zk_sld C0 hL (i := (x + 1)) (by omega) (zdk ttL_8 55 rfl rfl) ?_
  refine zk_aload0 C0 (zdk ttL_8 56 rfl rfl) ?_
  refine zk_iload3 C0 (zdk ttL_8 57 rfl rfl) ?_
  refine zk_iconst C0 (zdk ttL_8 58 rfl rfl) ?_
  refine zk_iadd C0 (zdk ttL_8 59 rfl rfl) ?_
  refine zk_sld C0 hL (i := (x + 2)) (by omega) (zdk ttL_9 0 rfl rfl) ?_
  refine zk_aload0 C0 (zdk ttL_9 1 rfl rfl) ?_
  refine zk_iload3 C0 (zdk ttL_9 2 rfl rfl) ?_
  refine zk_iconst C0 (zdk ttL_9 3 rfl rfl) ?_
  refine zk_iadd C0 (zdk ttL_9 4 rfl rfl) ?_
  refine zk_sld C0 hL (i := (x + 3)) (by omega) (zdk ttL_9 5 rfl rfl) ?_
  refine zk_callC C0 sC [(xs ((x + 1)).toNat).toInt, (xs ((x + 2)).toNat).toInt, (xs ((x + 3)).toNat).toInt] (zdk ttL_9 6 rfl rfl) mb_X10_glasses mv_RL_101 rfl rfl rfl (Nat.le_of_ble_eq_true rfl) (s_X10_glasses l hC (xs ((x + 1)).toNat).toInt (xs ((x + 2)).toNat).toInt (xs ((x + 3)).toNat).toInt sC (zxs xs _) (zxs xs _) (zxs xs _)) ⟨rfl, rfl, ⟨Nat.le_of_ble_eq_true rfl, Nat.le_of_ble_eq_true rfl⟩, by show u1 + 0 ≤ 165162; omega, by show u2 + 0 ≤ 8606764; omega⟩ (fun v180 h181 q182 => ?_)
  have s183 : okC h181 := q182.2
  refine zk_pop C0 (zdk ttL_9 7 rfl rfl) ?_
  refine zk_aload2 C0 (zdk ttL_9 8 rfl rfl) ?_
  refine zk_aload0 C0 (zdk ttL_9 9 rfl rfl) ?_
  refine zk_iload3 C0 (zdk ttL_9 10 rfl rfl) ?_
  refine zk_iconst C0 (zdk ttL_9 11 rfl rfl) ?_
  refine zk_iadd C0 (zdk ttL_9 12 rfl rfl) ?_
  refine zk_sld C0 hL (i := (x + 1)) (by omega) (zdk ttL_9 13 rfl rfl) ?_
  refine zk_aload0 C0 (zdk ttL_9 14 rfl rfl) ?_
  refine zk_iload3 C0 (zdk ttL_9 15 rfl rfl) ?_
  refine zk_iconst C0 (zdk ttL_9 16 rfl rfl) ?_
  refine zk_iadd C0 (zdk ttL_9 17 rfl rfl) ?_
  refine zk_sld C0 hL (i := (x + 2)) (by omega) (zdk ttL_9 18 rfl rfl) ?_
  refine zk_aload0 C0 (zdk ttL_9 19 rfl rfl) ?_
  refine zk_iload3 C0 (zdk ttL_9 20 rfl rfl) ?_
  refine zk_iconst C0 (zdk ttL_9 21 rfl rfl) ?_
  refine zk_iadd C0 (zdk ttL_9 22 rfl rfl) ?_
  refine zk_sld C0 hL (i := (x + 3)) (by omega) (zdk ttL_9 23 rfl rfl) ?_
  refine zk_callM C0 sM [(xs ((x + 1)).toNat).toInt, (xs ((x + 2)).toNat).toInt, (xs ((x + 3)).toNat).toInt] (zdk ttL_9 24 rfl rfl) mb_X11_glasses mv_RL_105 rfl rfl rfl (Nat.le_of_ble_eq_true rfl) (s_X11_glasses l hM (xs ((x + 1)).toNat).toInt (xs ((x + 2)).toNat).toInt (xs ((x + 3)).toNat).toInt sM (zxs xs _) (zxs xs _) (zxs xs _)) ⟨rfl, rfl, ⟨Nat.le_of_ble_eq_true rfl, Nat.le_of_ble_eq_true rfl⟩, by show (u1 + 0) + 0 ≤ 165162; omega, by show (u2 + 0) + 0 ≤ 8606764; omega⟩ (fun v184 h185 q186 => ?_)
  have s187 : okM h185 := q186.2.1
  refine zk_pop C0 (zdk ttL_9 25 rfl rfl) ?_
  refine zk_goto C0 (t := 1355) (zdk ttL_9 26 rfl rfl) (by decide) ?_
  exact zk_widen (by omega) (by omega) (kk h181 h185 s183 s187)
theorem lc_21 (C0 : lw_At p s m meth c b L xs) (hL : L ≤ 3072) (sC : okC hC) (sM : okM hM) (hx0 : 0 ≤ x ∧ x + 6 ≤ L) (hu1 : u1 ≤ 165161) (hu2 : u2 ≤ 8596764) (kk : ∀ hC hM, okC hC → okM hM → zK p l e s m below meth c b (u1 + 1) (u2 + 10000) 1355 x [] hC hM) : zK p l e s m below meth c b u1 u2 867 x [] hC hM := by
  refine zk_aload1 C0 (zdk ttL_9 27 rfl rfl) ?_
  refine zk_aload0 C0 (zdk ttL_9 28 rfl rfl) ?_
  refine zk_iload3 C0 (zdk ttL_9 29 rfl rfl) ?_
  refine zk_iconst C0 (zdk ttL_9 30 rfl rfl) ?_
  refine zk_iadd C0 (zdk ttL_9 31 rfl rfl) ?_
  refine zk_sld C0 hL (i := (x + 1)) (by omega) (zdk ttL_9 32 rfl rfl) ?_
  refine zk_callC C0 sC [(xs ((x + 1)).toNat).toInt] (zdk ttL_9 33 rfl rfl) mb_X10_seat mv_RL_106 rfl rfl rfl (Nat.le_of_ble_eq_true rfl) (s_X10_seat l hC (xs ((x + 1)).toNat).toInt sC (zxs xs _)) ⟨rfl, rfl, ⟨Nat.le_of_ble_eq_true rfl, Nat.le_of_ble_eq_true rfl⟩, by show u1 + 0 ≤ 165162; omega, by show u2 + 0 ≤ 8606764; omega⟩ (fun v188 h189 q190 => ?_)
  have s191 : okC h189 := q190.2
  refine zk_pop C0 (zdk ttL_9 34 rfl rfl) ?_
  refine zk_aload2 C0 (zdk ttL_9 35 rfl rfl) ?_
  refine zk_aload0 C0 (zdk ttL_9 36 rfl rfl) ?_
  refine zk_iload3 C0 (zdk ttL_9 37 rfl rfl) ?_
  refine zk_iconst C0 (zdk ttL_9 38 rfl rfl) ?_
  refine zk_iadd C0 (zdk ttL_9 39 rfl rfl) ?_
  refine zk_sld C0 hL (i := (x + 1)) (by omega) (zdk ttL_9 40 rfl rfl) ?_
  refine zk_callM C0 sM [(xs ((x + 1)).toNat).toInt] (zdk ttL_9 41 rfl rfl) mb_X11_seat mv_RL_109 rfl rfl rfl (Nat.le_of_ble_eq_true rfl) (s_X11_seat l hM (xs ((x + 1)).toNat).toInt sM (zxs xs _)) ⟨rfl, rfl, ⟨Nat.le_of_ble_eq_true rfl, Nat.le_of_ble_eq_true rfl⟩, by show (u1 + 0) + 0 ≤ 165162; omega, by show (u2 + 0) + 0 ≤ 8606764; omega⟩ (fun v192 h193 q194 => ?_)
  have s195 : okM h193 := q194.2.1
  refine zk_pop C0 (zdk ttL_9 42 rfl rfl) ?_
  refine zk_goto C0 (t := 1355) (zdk ttL_9 43 rfl rfl) (by decide) ?_
  exact zk_widen (by omega) (by omega) (kk h189 h193 s191 s195)
theorem lc_22 (C0 : lw_At p s m meth c b L xs) (hL : L ≤ 3072) (sC : okC hC) (sM : okM hM) (hx0 : 0 ≤ x ∧ x + 6 ≤ L) (hu1 : u1 ≤ 165161) (hu2 : u2 ≤ 8596764) (kk : ∀ hC hM, okC hC → okM hM → zK p l e s m below meth c b (u1 + 1) (u2 + 10000) 1355 x [] hC hM) : zK p l e s m below meth c b u1 u2 890 x [] hC hM := by
  refine zk_aload1 C0 (zdk ttL_9 44 rfl rfl) ?_
  refine zk_callC C0 sC [] (zdk ttL_9 45 rfl rfl) mb_X10_level mv_RL_110 rfl rfl rfl (Nat.le_of_ble_eq_true rfl) (s_X10_level l hC sC ) ⟨rfl, rfl, ⟨Nat.le_of_ble_eq_true rfl, Nat.le_of_ble_eq_true rfl⟩, by show u1 + 0 ≤ 165162; omega, by show u2 + 0 ≤ 8606764; omega⟩ (fun v196 h197 q198 => ?_)
  have s199 : okC h197 := q198.2
  refine zk_pop C0 (zdk ttL_9 46 rfl rfl) ?_
  refine zk_aload2 C0 (zdk ttL_9 47 rfl rfl) ?_
  refine zk_callM C0 sM [] (zdk ttL_9 48 rfl rfl) mb_X11_level mv_RL_113 rfl rfl rfl (Nat.le_of_ble_eq_true rfl) (s_X11_level l hM sM ) ⟨rfl, rfl, ⟨Nat.le_of_ble_eq_true rfl, Nat.le_of_ble_eq_true rfl⟩, by show (u1 + 0) + 0 ≤ 165162; omega, by show (u2 + 0) + 0 ≤ 8606764; omega⟩ (fun v200 h201 q202 => ?_)
  have s203 : okM h201 := q202.2.1
  refine zk_pop C0 (zdk ttL_9 49 rfl rfl) ?_
  refine zk_goto C0 (t := 1355) (zdk ttL_9 50 rfl rfl) (by decide) ?_
  exact zk_widen (by omega) (by omega) (kk h197 h201 s199 s203)
theorem lc_23 (C0 : lw_At p s m meth c b L xs) (hL : L ≤ 3072) (sC : okC hC) (sM : okM hM) (hx0 : 0 ≤ x ∧ x + 6 ≤ L) (hu1 : u1 ≤ 165161) (hu2 : u2 ≤ 8596764) (kk : ∀ hC hM, okC hC → okM hM → zK p l e s m below meth c b (u1 + 1) (u2 + 10000) 1355 x [] hC hM) : zK p l e s m below meth c b u1 u2 903 x [] hC hM := by
  refine zk_aload1 C0 (zdk ttL_9 51 rfl rfl) ?_
  refine zk_aload0 C0 (zdk ttL_9 52 rfl rfl) ?_
  refine zk_iload3 C0 (zdk ttL_9 53 rfl rfl) ?_
  refine zk_iconst C0 (zdk ttL_9 54 rfl rfl) ?_
  refine zk_iadd C0 (zdk ttL_9 55 rfl rfl) ?_
  refine zk_sld C0 hL (i := (x + 1)) (by omega) (zdk ttL_9 56 rfl rfl) ?_
  refine zk_aload0 C0 (zdk ttL_9 57 rfl rfl) ?_
  refine zk_iload3 C0 (zdk ttL_9 58 rfl rfl) ?_
  refine zk_iconst C0 (zdk ttL_9 59 rfl rfl) ?_
  refine zk_iadd C0 (zdk ttL_10 0 rfl rfl) ?_
  refine zk_sld C0 hL (i := (x + 2)) (by omega) (zdk ttL_10 1 rfl rfl) ?_
  refine zk_aload0 C0 (zdk ttL_10 2 rfl rfl) ?_
  refine zk_iload3 C0 (zdk ttL_10 3 rfl rfl) ?_
  refine zk_iconst C0 (zdk ttL_10 4 rfl rfl) ?_
  refine zk_iadd C0 (zdk ttL_10 5 rfl rfl) ?_
  refine zk_sld C0 hL (i := (x + 3)) (by omega) (zdk ttL_10 6 rfl rfl) ?_
  refine zk_callC C0 sC [(xs ((x + 1)).toNat).toInt, (xs ((x + 2)).toNat).toInt, (xs ((x + 3)).toNat).toInt] (zdk ttL_10 7 rfl rfl) mb_X10_part mv_RL_114 rfl rfl rfl (Nat.le_of_ble_eq_true rfl) (s_X10_part l hC (xs ((x + 1)).toNat).toInt (xs ((x + 2)).toNat).toInt (xs ((x + 3)).toNat).toInt sC (zxs xs _) (zxs xs _) (zxs xs _)) ⟨rfl, rfl, ⟨Nat.le_of_ble_eq_true rfl, Nat.le_of_ble_eq_true rfl⟩, by show u1 + 0 ≤ 165162; omega, by show u2 + 0 ≤ 8606764; omega⟩ (fun v204 h205 q206 => ?_)
  have s207 : okC h205 := q206.2
  refine zk_pop C0 (zdk ttL_10 8 rfl rfl) ?_
  refine zk_aload2 C0 (zdk ttL_10 9 rfl rfl) ?_
  refine zk_aload0 C0 (zdk ttL_10 10 rfl rfl) ?_
  refine zk_iload3 C0 (zdk ttL_10 11 rfl rfl) ?_
  refine zk_iconst C0 (zdk ttL_10 12 rfl rfl) ?_
  refine zk_iadd C0 (zdk ttL_10 13 rfl rfl) ?_
  refine zk_sld C0 hL (i := (x + 1)) (by omega) (zdk ttL_10 14 rfl rfl) ?_
  refine zk_aload0 C0 (zdk ttL_10 15 rfl rfl) ?_
  refine zk_iload3 C0 (zdk ttL_10 16 rfl rfl) ?_
  refine zk_iconst C0 (zdk ttL_10 17 rfl rfl) ?_
  refine zk_iadd C0 (zdk ttL_10 18 rfl rfl) ?_
  refine zk_sld C0 hL (i := (x + 2)) (by omega) (zdk ttL_10 19 rfl rfl) ?_
  refine zk_aload0 C0 (zdk ttL_10 20 rfl rfl) ?_
  refine zk_iload3 C0 (zdk ttL_10 21 rfl rfl) ?_
  refine zk_iconst C0 (zdk ttL_10 22 rfl rfl) ?_
  refine zk_iadd C0 (zdk ttL_10 23 rfl rfl) ?_
  refine zk_sld C0 hL (i := (x + 3)) (by omega) (zdk ttL_10 24 rfl rfl) ?_
  refine zk_callM C0 sM [(xs ((x + 1)).toNat).toInt, (xs ((x + 2)).toNat).toInt, (xs ((x + 3)).toNat).toInt] (zdk ttL_10 25 rfl rfl) mb_X11_part mv_RL_117 rfl rfl rfl (Nat.le_of_ble_eq_true rfl) (s_X11_part l hM (xs ((x + 1)).toNat).toInt (xs ((x + 2)).toNat).toInt (xs ((x + 3)).toNat).toInt sM (zxs xs _) (zxs xs _) (zxs xs _)) ⟨rfl, rfl, ⟨Nat.le_of_ble_eq_true rfl, Nat.le_of_ble_eq_true rfl⟩, by show (u1 + 0) + 0 ≤ 165162; omega, by show (u2 + 0) + 0 ≤ 8606764; omega⟩ (fun v208 h209 q210 => ?_)
  have s211 : okM h209 := q210.2.1
  refine zk_pop C0 (zdk ttL_10 26 rfl rfl) ?_
  refine zk_goto C0 (t := 1355) (zdk ttL_10 27 rfl rfl) (by decide) ?_
  exact zk_widen (by omega) (by omega) (kk h205 h209 s207 s211)
theorem lc_24 (C0 : lw_At p s m meth c b L xs) (hL : L ≤ 3072) (sC : okC hC) (sM : okM hM) (hx0 : 0 ≤ x ∧ x + 6 ≤ L) (hu1 : u1 ≤ 165161) (hu2 : u2 ≤ 8596764) (kk : ∀ hC hM, okC hC → okM hM → zK p l e s m below meth c b (u1 + 1) (u2 + 10000) 1355 x [] hC hM) : zK p l e s m below meth c b u1 u2 946 x [] hC hM := by
  refine zk_aload1 C0 (zdk ttL_10 28 rfl rfl) ?_
  refine zk_aload0 C0 (zdk ttL_10 29 rfl rfl) ?_
  refine zk_iload3 C0 (zdk ttL_10 30 rfl rfl) ?_
  refine zk_iconst C0 (zdk ttL_10 31 rfl rfl) ?_
  refine zk_iadd C0 (zdk ttL_10 32 rfl rfl) ?_
  refine zk_sld C0 hL (i := (x + 1)) (by omega) (zdk ttL_10 33 rfl rfl) ?_
  refine zk_aload0 C0 (zdk ttL_10 34 rfl rfl) ?_
  refine zk_iload3 C0 (zdk ttL_10 35 rfl rfl) ?_
  refine zk_iconst C0 (zdk ttL_10 36 rfl rfl) ?_
  refine zk_iadd C0 (zdk ttL_10 37 rfl rfl) ?_
  refine zk_sld C0 hL (i := (x + 2)) (by omega) (zdk ttL_10 38 rfl rfl) ?_
  refine zk_aload0 C0 (zdk ttL_10 39 rfl rfl) ?_
  refine zk_iload3 C0 (zdk ttL_10 40 rfl rfl) ?_
  refine zk_iconst C0 (zdk ttL_10 41 rfl rfl) ?_
  refine zk_iadd C0 (zdk ttL_10 42 rfl rfl) ?_
  refine zk_sld C0 hL (i := (x + 3)) (by omega) (zdk ttL_10 43 rfl rfl) ?_
  refine zk_callC C0 sC [(xs ((x + 1)).toNat).toInt, (xs ((x + 2)).toNat).toInt, (xs ((x + 3)).toNat).toInt] (zdk ttL_10 44 rfl rfl) mb_X10_bells mv_RL_118 rfl rfl rfl (Nat.le_of_ble_eq_true rfl) (s_X10_bells l hC (xs ((x + 1)).toNat).toInt (xs ((x + 2)).toNat).toInt (xs ((x + 3)).toNat).toInt sC (zxs xs _) (zxs xs _) (zxs xs _)) ⟨rfl, rfl, ⟨Nat.le_of_ble_eq_true rfl, Nat.le_of_ble_eq_true rfl⟩, by show u1 + 0 ≤ 165162; omega, by show u2 + 0 ≤ 8606764; omega⟩ (fun v212 h213 q214 => ?_)
  have s215 : okC h213 := q214.2
  refine zk_pop C0 (zdk ttL_10 45 rfl rfl) ?_
  refine zk_aload2 C0 (zdk ttL_10 46 rfl rfl) ?_
  refine zk_aload0 C0 (zdk ttL_10 47 rfl rfl) ?_
  refine zk_iload3 C0 (zdk ttL_10 48 rfl rfl) ?_
  refine zk_iconst C0 (zdk ttL_10 49 rfl rfl) ?_
  refine zk_iadd C0 (zdk ttL_10 50 rfl rfl) ?_
  refine zk_sld C0 hL (i := (x + 1)) (by omega) (zdk ttL_10 51 rfl rfl) ?_
  refine zk_aload0 C0 (zdk ttL_10 52 rfl rfl) ?_
  refine zk_iload3 C0 (zdk ttL_10 53 rfl rfl) ?_
  refine zk_iconst C0 (zdk ttL_10 54 rfl rfl) ?_
  refine zk_iadd C0 (zdk ttL_10 55 rfl rfl) ?_
  refine zk_sld C0 hL (i := (x + 2)) (by omega) (zdk ttL_10 56 rfl rfl) ?_
  refine zk_aload0 C0 (zdk ttL_10 57 rfl rfl) ?_
  refine zk_iload3 C0 (zdk ttL_10 58 rfl rfl) ?_
  refine zk_iconst C0 (zdk ttL_10 59 rfl rfl) ?_
  refine zk_iadd C0 (zdk ttL_11 0 rfl rfl) ?_
  refine zk_sld C0 hL (i := (x + 3)) (by omega) (zdk ttL_11 1 rfl rfl) ?_
  refine zk_callM C0 sM [(xs ((x + 1)).toNat).toInt, (xs ((x + 2)).toNat).toInt, (xs ((x + 3)).toNat).toInt] (zdk ttL_11 2 rfl rfl) mb_X11_bells mv_RL_121 rfl rfl rfl (Nat.le_of_ble_eq_true rfl) (s_X11_bells l hM (xs ((x + 1)).toNat).toInt (xs ((x + 2)).toNat).toInt (xs ((x + 3)).toNat).toInt sM (zxs xs _) (zxs xs _) (zxs xs _)) ⟨rfl, rfl, ⟨Nat.le_of_ble_eq_true rfl, Nat.le_of_ble_eq_true rfl⟩, by show (u1 + 0) + 0 ≤ 165162; omega, by show (u2 + 0) + 0 ≤ 8606764; omega⟩ (fun v216 h217 q218 => ?_)
  have s219 : okM h217 := q218.2.1
  refine zk_pop C0 (zdk ttL_11 3 rfl rfl) ?_
  refine zk_goto C0 (t := 1355) (zdk ttL_11 4 rfl rfl) (by decide) ?_
  exact zk_widen (by omega) (by omega) (kk h213 h217 s215 s219)
theorem lc_25 (C0 : lw_At p s m meth c b L xs) (hL : L ≤ 3072) (sC : okC hC) (sM : okM hM) (hx0 : 0 ≤ x ∧ x + 6 ≤ L) (hu1 : u1 ≤ 165161) (hu2 : u2 ≤ 8596764) (kk : ∀ hC hM, okC hC → okM hM → zK p l e s m below meth c b (u1 + 1) (u2 + 10000) 1355 x [] hC hM) : zK p l e s m below meth c b u1 u2 989 x [] hC hM := by
  refine zk_aload1 C0 (zdk ttL_11 5 rfl rfl) ?_
  refine zk_aload0 C0 (zdk ttL_11 6 rfl rfl) ?_
  refine zk_iload3 C0 (zdk ttL_11 7 rfl rfl) ?_
  refine zk_iconst C0 (zdk ttL_11 8 rfl rfl) ?_
  refine zk_iadd C0 (zdk ttL_11 9 rfl rfl) ?_
  refine zk_sld C0 hL (i := (x + 1)) (by omega) (zdk ttL_11 10 rfl rfl) ?_
  refine zk_aload0 C0 (zdk ttL_11 11 rfl rfl) ?_
  refine zk_iload3 C0 (zdk ttL_11 12 rfl rfl) ?_
  refine zk_iconst C0 (zdk ttL_11 13 rfl rfl) ?_
  refine zk_iadd C0 (zdk ttL_11 14 rfl rfl) ?_
  refine zk_sld C0 hL (i := (x + 2)) (by omega) (zdk ttL_11 15 rfl rfl) ?_
  refine zk_aload0 C0 (zdk ttL_11 16 rfl rfl) ?_
  refine zk_iload3 C0 (zdk ttL_11 17 rfl rfl) ?_
  refine zk_iconst C0 (zdk ttL_11 18 rfl rfl) ?_
  refine zk_iadd C0 (zdk ttL_11 19 rfl rfl) ?_
  refine zk_sld C0 hL (i := (x + 3)) (by omega) (zdk ttL_11 20 rfl rfl) ?_
  refine zk_callC C0 sC [(xs ((x + 1)).toNat).toInt, (xs ((x + 2)).toNat).toInt, (xs ((x + 3)).toNat).toInt] (zdk ttL_11 21 rfl rfl) mb_X10_against mv_RL_122 rfl rfl rfl (Nat.le_of_ble_eq_true rfl) (s_X10_against l hC (xs ((x + 1)).toNat).toInt (xs ((x + 2)).toNat).toInt (xs ((x + 3)).toNat).toInt sC (zxs xs _) (zxs xs _) (zxs xs _)) ⟨rfl, rfl, ⟨Nat.le_of_ble_eq_true rfl, Nat.le_of_ble_eq_true rfl⟩, by show u1 + 0 ≤ 165162; omega, by show u2 + 0 ≤ 8606764; omega⟩ (fun v220 h221 q222 => ?_)
  have s223 : okC h221 := q222.2
  refine zk_pop C0 (zdk ttL_11 22 rfl rfl) ?_
  refine zk_aload2 C0 (zdk ttL_11 23 rfl rfl) ?_
  refine zk_aload0 C0 (zdk ttL_11 24 rfl rfl) ?_
  refine zk_iload3 C0 (zdk ttL_11 25 rfl rfl) ?_
  refine zk_iconst C0 (zdk ttL_11 26 rfl rfl) ?_
  refine zk_iadd C0 (zdk ttL_11 27 rfl rfl) ?_
  refine zk_sld C0 hL (i := (x + 1)) (by omega) (zdk ttL_11 28 rfl rfl) ?_
  refine zk_aload0 C0 (zdk ttL_11 29 rfl rfl) ?_
  refine zk_iload3 C0 (zdk ttL_11 30 rfl rfl) ?_
  refine zk_iconst C0 (zdk ttL_11 31 rfl rfl) ?_
  refine zk_iadd C0 (zdk ttL_11 32 rfl rfl) ?_
  refine zk_sld C0 hL (i := (x + 2)) (by omega) (zdk ttL_11 33 rfl rfl) ?_
  refine zk_aload0 C0 (zdk ttL_11 34 rfl rfl) ?_
  refine zk_iload3 C0 (zdk ttL_11 35 rfl rfl) ?_
  refine zk_iconst C0 (zdk ttL_11 36 rfl rfl) ?_
  refine zk_iadd C0 (zdk ttL_11 37 rfl rfl) ?_
  refine zk_sld C0 hL (i := (x + 3)) (by omega) (zdk ttL_11 38 rfl rfl) ?_
  refine zk_callM C0 sM [(xs ((x + 1)).toNat).toInt, (xs ((x + 2)).toNat).toInt, (xs ((x + 3)).toNat).toInt] (zdk ttL_11 39 rfl rfl) mb_X11_against mv_RL_125 rfl rfl rfl (Nat.le_of_ble_eq_true rfl) (s_X11_against l hM (xs ((x + 1)).toNat).toInt (xs ((x + 2)).toNat).toInt (xs ((x + 3)).toNat).toInt sM (zxs xs _) (zxs xs _) (zxs xs _)) ⟨rfl, rfl, ⟨Nat.le_of_ble_eq_true rfl, Nat.le_of_ble_eq_true rfl⟩, by show (u1 + 0) + 0 ≤ 165162; omega, by show (u2 + 0) + 0 ≤ 8606764; omega⟩ (fun v224 h225 q226 => ?_)
  have s227 : okM h225 := q226.2.1
  refine zk_pop C0 (zdk ttL_11 40 rfl rfl) ?_
  refine zk_goto C0 (t := 1355) (zdk ttL_11 41 rfl rfl) (by decide) ?_
  exact zk_widen (by omega) (by omega) (kk h221 h225 s223 s227)
theorem lc_26 (C0 : lw_At p s m meth c b L xs) (hL : L ≤ 3072) (sC : okC hC) (sM : okM hM) (hx0 : 0 ≤ x ∧ x + 6 ≤ L) (hu1 : u1 ≤ 165161) (hu2 : u2 ≤ 8596764) (kk : ∀ hC hM, okC hC → okM hM → zK p l e s m below meth c b (u1 + 1) (u2 + 10000) 1355 x [] hC hM) : zK p l e s m below meth c b u1 u2 1032 x [] hC hM := by
  refine zk_aload1 C0 (zdk ttL_11 42 rfl rfl) ?_
  refine zk_aload0 C0 (zdk ttL_11 43 rfl rfl) ?_
  refine zk_iload3 C0 (zdk ttL_11 44 rfl rfl) ?_
  refine zk_iconst C0 (zdk ttL_11 45 rfl rfl) ?_
  refine zk_iadd C0 (zdk ttL_11 46 rfl rfl) ?_
  refine zk_sld C0 hL (i := (x + 1)) (by omega) (zdk ttL_11 47 rfl rfl) ?_
  refine zk_aload0 C0 (zdk ttL_11 48 rfl rfl) ?_
  refine zk_iload3 C0 (zdk ttL_11 49 rfl rfl) ?_
  refine zk_iconst C0 (zdk ttL_11 50 rfl rfl) ?_
  refine zk_iadd C0 (zdk ttL_11 51 rfl rfl) ?_
  refine zk_sld C0 hL (i := (x + 2)) (by omega) (zdk ttL_11 52 rfl rfl) ?_
  refine zk_aload0 C0 (zdk ttL_11 53 rfl rfl) ?_
  refine zk_iload3 C0 (zdk ttL_11 54 rfl rfl) ?_
  refine zk_iconst C0 (zdk ttL_11 55 rfl rfl) ?_
  refine zk_iadd C0 (zdk ttL_11 56 rfl rfl) ?_
  refine zk_sld C0 hL (i := (x + 3)) (by omega) (zdk ttL_11 57 rfl rfl) ?_
  refine zk_callC C0 sC [(xs ((x + 1)).toNat).toInt, (xs ((x + 2)).toNat).toInt, (xs ((x + 3)).toNat).toInt] (zdk ttL_11 58 rfl rfl) mb_X10_calendar mv_RL_126 rfl rfl rfl (Nat.le_of_ble_eq_true rfl) (s_X10_calendar l hC (xs ((x + 1)).toNat).toInt (xs ((x + 2)).toNat).toInt (xs ((x + 3)).toNat).toInt sC (zxs xs _) (zxs xs _) (zxs xs _)) ⟨rfl, rfl, ⟨Nat.le_of_ble_eq_true rfl, Nat.le_of_ble_eq_true rfl⟩, by show u1 + 0 ≤ 165162; omega, by show u2 + 0 ≤ 8606764; omega⟩ (fun v228 h229 q230 => ?_)
  have s231 : okC h229 := q230.2
  refine zk_pop C0 (zdk ttL_11 59 rfl rfl) ?_
  refine zk_aload2 C0 (zdk ttL_12 0 rfl rfl) ?_
  refine zk_aload0 C0 (zdk ttL_12 1 rfl rfl) ?_
  refine zk_iload3 C0 (zdk ttL_12 2 rfl rfl) ?_
  refine zk_iconst C0 (zdk ttL_12 3 rfl rfl) ?_
  refine zk_iadd C0 (zdk ttL_12 4 rfl rfl) ?_
  refine zk_sld C0 hL (i := (x + 1)) (by omega) (zdk ttL_12 5 rfl rfl) ?_
  refine zk_aload0 C0 (zdk ttL_12 6 rfl rfl) ?_
  refine zk_iload3 C0 (zdk ttL_12 7 rfl rfl) ?_
  refine zk_iconst C0 (zdk ttL_12 8 rfl rfl) ?_
  refine zk_iadd C0 (zdk ttL_12 9 rfl rfl) ?_
  refine zk_sld C0 hL (i := (x + 2)) (by omega) (zdk ttL_12 10 rfl rfl) ?_
  refine zk_aload0 C0 (zdk ttL_12 11 rfl rfl) ?_
  refine zk_iload3 C0 (zdk ttL_12 12 rfl rfl) ?_
  refine zk_iconst C0 (zdk ttL_12 13 rfl rfl) ?_
  refine zk_iadd C0 (zdk ttL_12 14 rfl rfl) ?_
  refine zk_sld C0 hL (i := (x + 3)) (by omega) (zdk ttL_12 15 rfl rfl) ?_
  refine zk_callM C0 sM [(xs ((x + 1)).toNat).toInt, (xs ((x + 2)).toNat).toInt, (xs ((x + 3)).toNat).toInt] (zdk ttL_12 16 rfl rfl) mb_X11_calendar mv_RL_129 rfl rfl rfl (Nat.le_of_ble_eq_true rfl) (s_X11_calendar l hM (xs ((x + 1)).toNat).toInt (xs ((x + 2)).toNat).toInt (xs ((x + 3)).toNat).toInt sM (zxs xs _) (zxs xs _) (zxs xs _)) ⟨rfl, rfl, ⟨Nat.le_of_ble_eq_true rfl, Nat.le_of_ble_eq_true rfl⟩, by show (u1 + 0) + 0 ≤ 165162; omega, by show (u2 + 0) + 0 ≤ 8606764; omega⟩ (fun v232 h233 q234 => ?_)
  have s235 : okM h233 := q234.2.1
  refine zk_pop C0 (zdk ttL_12 17 rfl rfl) ?_
  refine zk_goto C0 (t := 1355) (zdk ttL_12 18 rfl rfl) (by decide) ?_
  exact zk_widen (by omega) (by omega) (kk h229 h233 s231 s235)
theorem lc_27 (C0 : lw_At p s m meth c b L xs) (hL : L ≤ 3072) (sC : okC hC) (sM : okM hM) (hx0 : 0 ≤ x ∧ x + 6 ≤ L) (hu1 : u1 ≤ 165161) (hu2 : u2 ≤ 8596764) (kk : ∀ hC hM, okC hC → okM hM → zK p l e s m below meth c b (u1 + 1) (u2 + 10000) 1355 x [] hC hM) : zK p l e s m below meth c b u1 u2 1075 x [] hC hM := by
  refine zk_aload1 C0 (zdk ttL_12 19 rfl rfl) ?_
  refine zk_aload0 C0 (zdk ttL_12 20 rfl rfl) ?_
  refine zk_iload3 C0 (zdk ttL_12 21 rfl rfl) ?_
  refine zk_iconst C0 (zdk ttL_12 22 rfl rfl) ?_
  refine zk_iadd C0 (zdk ttL_12 23 rfl rfl) ?_
  refine zk_sld C0 hL (i := (x + 1)) (by omega) (zdk ttL_12 24 rfl rfl) ?_
  refine zk_aload0 C0 (zdk ttL_12 25 rfl rfl) ?_
  refine zk_iload3 C0 (zdk ttL_12 26 rfl rfl) ?_
  refine zk_iconst C0 (zdk ttL_12 27 rfl rfl) ?_
  refine zk_iadd C0 (zdk ttL_12 28 rfl rfl) ?_
  refine zk_sld C0 hL (i := (x + 2)) (by omega) (zdk ttL_12 29 rfl rfl) ?_
  refine zk_aload0 C0 (zdk ttL_12 30 rfl rfl) ?_
  refine zk_iload3 C0 (zdk ttL_12 31 rfl rfl) ?_
  refine zk_iconst C0 (zdk ttL_12 32 rfl rfl) ?_
  refine zk_iadd C0 (zdk ttL_12 33 rfl rfl) ?_
  refine zk_sld C0 hL (i := (x + 3)) (by omega) (zdk ttL_12 34 rfl rfl) ?_
  refine zk_callC C0 sC [(xs ((x + 1)).toNat).toInt, (xs ((x + 2)).toNat).toInt, (xs ((x + 3)).toNat).toInt] (zdk ttL_12 35 rfl rfl) mb_X10_rope mv_RL_130 rfl rfl rfl (Nat.le_of_ble_eq_true rfl) (s_X10_rope l hC (xs ((x + 1)).toNat).toInt (xs ((x + 2)).toNat).toInt (xs ((x + 3)).toNat).toInt sC (zxs xs _) (zxs xs _) (zxs xs _)) ⟨rfl, rfl, ⟨Nat.le_of_ble_eq_true rfl, Nat.le_of_ble_eq_true rfl⟩, by show u1 + 0 ≤ 165162; omega, by show u2 + 0 ≤ 8606764; omega⟩ (fun v236 h237 q238 => ?_)
  have s239 : okC h237 := by have e9 := q238.1; rw [← e9]; exact sC
  refine zk_aload2 C0 (zdk ttL_12 36 rfl rfl) ?_
  refine zk_aload0 C0 (zdk ttL_12 37 rfl rfl) ?_
  refine zk_iload3 C0 (zdk ttL_12 38 rfl rfl) ?_
  refine zk_iconst C0 (zdk ttL_12 39 rfl rfl) ?_
  refine zk_iadd C0 (zdk ttL_12 40 rfl rfl) ?_
  refine zk_sld C0 hL (i := (x + 1)) (by omega) (zdk ttL_12 41 rfl rfl) ?_
  refine zk_aload0 C0 (zdk ttL_12 42 rfl rfl) ?_
  refine zk_iload3 C0 (zdk ttL_12 43 rfl rfl) ?_
  refine zk_iconst C0 (zdk ttL_12 44 rfl rfl) ?_
  refine zk_iadd C0 (zdk ttL_12 45 rfl rfl) ?_
  refine zk_sld C0 hL (i := (x + 2)) (by omega) (zdk ttL_12 46 rfl rfl) ?_
  refine zk_aload0 C0 (zdk ttL_12 47 rfl rfl) ?_
  refine zk_iload3 C0 (zdk ttL_12 48 rfl rfl) ?_
  refine zk_iconst C0 (zdk ttL_12 49 rfl rfl) ?_
  refine zk_iadd C0 (zdk ttL_12 50 rfl rfl) ?_
  refine zk_sld C0 hL (i := (x + 3)) (by omega) (zdk ttL_12 51 rfl rfl) ?_
  refine zk_callM C0 sM [(xs ((x + 1)).toNat).toInt, (xs ((x + 2)).toNat).toInt, (xs ((x + 3)).toNat).toInt] (zdk ttL_12 52 rfl rfl) mb_X11_rope mv_RL_133 rfl rfl rfl (Nat.le_of_ble_eq_true rfl) (s2_X11_rope l hM (xs ((x + 1)).toNat).toInt (xs ((x + 2)).toNat).toInt (xs ((x + 3)).toNat).toInt sM (zxs xs _) (zxs xs _) (zxs xs _)) ⟨rfl, rfl, ⟨Nat.le_of_ble_eq_true rfl, Nat.le_of_ble_eq_true rfl⟩, by show (u1 + 0) + 0 ≤ 165162; omega, by show (u2 + 0) + 0 ≤ 8606764; omega⟩ (fun v240 h241 q242 => ?_)
  have s243 : okM h241 := q242.2.1
  have zc9 : zrp (xs ((x + 1)).toNat).toInt (xs ((x + 2)).toNat).toInt (xs ((x + 3)).toNat).toInt v236 := by have q9 := q238.2; unfold zrp; omega
  have zm9 : zrp (xs ((x + 1)).toNat).toInt (xs ((x + 2)).toNat).toInt (xs ((x + 3)).toNat).toInt v240 := q242.2.2.2
  have zi9 : -1 ≤ v236 ∧ v236 ≤ 9437185 := by have q9 := q238.2; omega
  have zeq9 : v236 = v240 := by unfold zrp at zc9 zm9; omega
  refine zk_icmp_eq C0 (t := 1355) (zdk ttL_12 53 rfl rfl) (by decide) (by omega) q242.1 (fun c244 => ?_) (fun c244 => absurd zeq9 c244)
  exact zk_widen (by omega) (by omega) (kk h237 h241 s239 s243)
theorem lc_28 (C0 : lw_At p s m meth c b L xs) (hL : L ≤ 3072) (sC : okC hC) (sM : okM hM) (hx0 : 0 ≤ x ∧ x + 6 ≤ L) (hu1 : u1 ≤ 165161) (hu2 : u2 ≤ 8596764) (kk : ∀ hC hM, okC hC → okM hM → zK p l e s m below meth c b (u1 + 1) (u2 + 10000) 1355 x [] hC hM) : zK p l e s m below meth c b u1 u2 1118 x [] hC hM := by
  refine zk_aload1 C0 (zdk ttL_12 56 rfl rfl) ?_
  refine zk_aload0 C0 (zdk ttL_12 57 rfl rfl) ?_
  refine zk_iload3 C0 (zdk ttL_12 58 rfl rfl) ?_
  refine zk_iconst C0 (zdk ttL_12 59 rfl rfl) ?_
  refine zk_iadd C0 (zdk ttL_13 0 rfl rfl) ?_
  refine zk_sld C0 hL (i := (x + 1)) (by omega) (zdk ttL_13 1 rfl rfl) ?_
  refine zk_aload0 C0 (zdk ttL_13 2 rfl rfl) ?_
  refine zk_iload3 C0 (zdk ttL_13 3 rfl rfl) ?_
  refine zk_iconst C0 (zdk ttL_13 4 rfl rfl) ?_
  refine zk_iadd C0 (zdk ttL_13 5 rfl rfl) ?_
  refine zk_sld C0 hL (i := (x + 2)) (by omega) (zdk ttL_13 6 rfl rfl) ?_
  refine zk_aload0 C0 (zdk ttL_13 7 rfl rfl) ?_
  refine zk_iload3 C0 (zdk ttL_13 8 rfl rfl) ?_
  refine zk_iconst C0 (zdk ttL_13 9 rfl rfl) ?_
  refine zk_iadd C0 (zdk ttL_13 10 rfl rfl) ?_
  refine zk_sld C0 hL (i := (x + 3)) (by omega) (zdk ttL_13 11 rfl rfl) ?_
  refine zk_aload0 C0 (zdk ttL_13 12 rfl rfl) ?_
  refine zk_iload3 C0 (zdk ttL_13 13 rfl rfl) ?_
  refine zk_iconst C0 (zdk ttL_13 14 rfl rfl) ?_
  refine zk_iadd C0 (zdk ttL_13 15 rfl rfl) ?_
  refine zk_sld C0 hL (i := (x + 4)) (by omega) (zdk ttL_13 16 rfl rfl) ?_
  refine zk_callC C0 sC [(xs ((x + 1)).toNat).toInt, (xs ((x + 2)).toNat).toInt, (xs ((x + 3)).toNat).toInt, (xs ((x + 4)).toNat).toInt] (zdk ttL_13 17 rfl rfl) mb_X10_meets mv_RL_134 rfl rfl rfl (Nat.le_of_ble_eq_true rfl) (s_X10_meets l hC (xs ((x + 1)).toNat).toInt (xs ((x + 2)).toNat).toInt (xs ((x + 3)).toNat).toInt (xs ((x + 4)).toNat).toInt sC (zxs xs _) (zxs xs _) (zxs xs _) (zxs xs _)) ⟨rfl, rfl, ⟨Nat.le_of_ble_eq_true rfl, Nat.le_of_ble_eq_true rfl⟩, by show u1 + 0 ≤ 165162; omega, by show u2 + 0 ≤ 8606764; omega⟩ (fun v245 h246 q247 => ?_)
  have s248 : okC h246 := q247.2
  refine zk_pop C0 (zdk ttL_13 18 rfl rfl) ?_
  refine zk_aload2 C0 (zdk ttL_13 19 rfl rfl) ?_
  refine zk_aload0 C0 (zdk ttL_13 20 rfl rfl) ?_
  refine zk_iload3 C0 (zdk ttL_13 21 rfl rfl) ?_
  refine zk_iconst C0 (zdk ttL_13 22 rfl rfl) ?_
  refine zk_iadd C0 (zdk ttL_13 23 rfl rfl) ?_
  refine zk_sld C0 hL (i := (x + 1)) (by omega) (zdk ttL_13 24 rfl rfl) ?_
  refine zk_aload0 C0 (zdk ttL_13 25 rfl rfl) ?_
  refine zk_iload3 C0 (zdk ttL_13 26 rfl rfl) ?_
  refine zk_iconst C0 (zdk ttL_13 27 rfl rfl) ?_
  refine zk_iadd C0 (zdk ttL_13 28 rfl rfl) ?_
  refine zk_sld C0 hL (i := (x + 2)) (by omega) (zdk ttL_13 29 rfl rfl) ?_
  refine zk_aload0 C0 (zdk ttL_13 30 rfl rfl) ?_
  refine zk_iload3 C0 (zdk ttL_13 31 rfl rfl) ?_
  refine zk_iconst C0 (zdk ttL_13 32 rfl rfl) ?_
  refine zk_iadd C0 (zdk ttL_13 33 rfl rfl) ?_
  refine zk_sld C0 hL (i := (x + 3)) (by omega) (zdk ttL_13 34 rfl rfl) ?_
  refine zk_aload0 C0 (zdk ttL_13 35 rfl rfl) ?_
  refine zk_iload3 C0 (zdk ttL_13 36 rfl rfl) ?_
  refine zk_iconst C0 (zdk ttL_13 37 rfl rfl) ?_
  refine zk_iadd C0 (zdk ttL_13 38 rfl rfl) ?_
  refine zk_sld C0 hL (i := (x + 4)) (by omega) (zdk ttL_13 39 rfl rfl) ?_
  refine zk_callM C0 sM [(xs ((x + 1)).toNat).toInt, (xs ((x + 2)).toNat).toInt, (xs ((x + 3)).toNat).toInt, (xs ((x + 4)).toNat).toInt] (zdk ttL_13 40 rfl rfl) mb_X11_meets mv_RL_138 rfl rfl rfl (Nat.le_of_ble_eq_true rfl) (s_X11_meets l hM (xs ((x + 1)).toNat).toInt (xs ((x + 2)).toNat).toInt (xs ((x + 3)).toNat).toInt (xs ((x + 4)).toNat).toInt sM (zxs xs _) (zxs xs _) (zxs xs _) (zxs xs _)) ⟨rfl, rfl, ⟨Nat.le_of_ble_eq_true rfl, Nat.le_of_ble_eq_true rfl⟩, by show (u1 + 0) + 0 ≤ 165162; omega, by show (u2 + 0) + 0 ≤ 8606764; omega⟩ (fun v249 h250 q251 => ?_)
  have s252 : okM h250 := q251.2.1
  refine zk_pop C0 (zdk ttL_13 41 rfl rfl) ?_
  refine zk_goto C0 (t := 1355) (zdk ttL_13 42 rfl rfl) (by decide) ?_
  exact zk_widen (by omega) (by omega) (kk h246 h250 s248 s252)
theorem lc_29 (C0 : lw_At p s m meth c b L xs) (hL : L ≤ 3072) (sC : okC hC) (sM : okM hM) (hx0 : 0 ≤ x ∧ x + 6 ≤ L) (hu1 : u1 ≤ 165161) (hu2 : u2 ≤ 8596764) (kk : ∀ hC hM, okC hC → okM hM → zK p l e s m below meth c b (u1 + 1) (u2 + 10000) 1355 x [] hC hM) : zK p l e s m below meth c b u1 u2 1171 x [] hC hM := by
  refine zk_aload1 C0 (zdk ttL_13 43 rfl rfl) ?_
  refine zk_aload0 C0 (zdk ttL_13 44 rfl rfl) ?_
  refine zk_iload3 C0 (zdk ttL_13 45 rfl rfl) ?_
  refine zk_iconst C0 (zdk ttL_13 46 rfl rfl) ?_
  refine zk_iadd C0 (zdk ttL_13 47 rfl rfl) ?_
  refine zk_sld C0 hL (i := (x + 1)) (by omega) (zdk ttL_13 48 rfl rfl) ?_
  refine zk_aload0 C0 (zdk ttL_13 49 rfl rfl) ?_
  refine zk_iload3 C0 (zdk ttL_13 50 rfl rfl) ?_
  refine zk_iconst C0 (zdk ttL_13 51 rfl rfl) ?_
  refine zk_iadd C0 (zdk ttL_13 52 rfl rfl) ?_
  refine zk_sld C0 hL (i := (x + 2)) (by omega) (zdk ttL_13 53 rfl rfl) ?_
  refine zk_callC C0 sC [(xs ((x + 1)).toNat).toInt, (xs ((x + 2)).toNat).toInt] (zdk ttL_13 54 rfl rfl) mb_X10_arm mv_RL_139 rfl rfl rfl (Nat.le_of_ble_eq_true rfl) (s_X10_arm l hC (xs ((x + 1)).toNat).toInt (xs ((x + 2)).toNat).toInt sC (zxs xs _) (zxs xs _)) ⟨rfl, rfl, ⟨Nat.le_of_ble_eq_true rfl, Nat.le_of_ble_eq_true rfl⟩, by show u1 + 0 ≤ 165162; omega, by show u2 + 0 ≤ 8606764; omega⟩ (fun v253 h254 q255 => ?_)
  have s256 : okC h254 := q255.2
  refine zk_pop C0 (zdk ttL_13 55 rfl rfl) ?_
  refine zk_aload2 C0 (zdk ttL_13 56 rfl rfl) ?_
  refine zk_aload0 C0 (zdk ttL_13 57 rfl rfl) ?_
  refine zk_iload3 C0 (zdk ttL_13 58 rfl rfl) ?_
  refine zk_iconst C0 (zdk ttL_13 59 rfl rfl) ?_
  refine zk_iadd C0 (zdk ttL_14 0 rfl rfl) ?_
  refine zk_sld C0 hL (i := (x + 1)) (by omega) (zdk ttL_14 1 rfl rfl) ?_
  refine zk_aload0 C0 (zdk ttL_14 2 rfl rfl) ?_
  refine zk_iload3 C0 (zdk ttL_14 3 rfl rfl) ?_
  refine zk_iconst C0 (zdk ttL_14 4 rfl rfl) ?_
  refine zk_iadd C0 (zdk ttL_14 5 rfl rfl) ?_
  refine zk_sld C0 hL (i := (x + 2)) (by omega) (zdk ttL_14 6 rfl rfl) ?_
  refine zk_callM C0 sM [(xs ((x + 1)).toNat).toInt, (xs ((x + 2)).toNat).toInt] (zdk ttL_14 7 rfl rfl) mb_X11_arm mv_RL_142 rfl rfl rfl (Nat.le_of_ble_eq_true rfl) (s_X11_arm l hM (xs ((x + 1)).toNat).toInt (xs ((x + 2)).toNat).toInt sM (zxs xs _) (zxs xs _)) ⟨rfl, rfl, ⟨Nat.le_of_ble_eq_true rfl, Nat.le_of_ble_eq_true rfl⟩, by show (u1 + 0) + 0 ≤ 165162; omega, by show (u2 + 0) + 0 ≤ 8606764; omega⟩ (fun v257 h258 q259 => ?_)
  have s260 : okM h258 := q259.2.1
  refine zk_pop C0 (zdk ttL_14 8 rfl rfl) ?_
  refine zk_goto C0 (t := 1355) (zdk ttL_14 9 rfl rfl) (by decide) ?_
  exact zk_widen (by omega) (by omega) (kk h254 h258 s256 s260)
theorem lc_30 (C0 : lw_At p s m meth c b L xs) (hL : L ≤ 3072) (sC : okC hC) (sM : okM hM) (hx0 : 0 ≤ x ∧ x + 6 ≤ L) (hu1 : u1 ≤ 165161) (hu2 : u2 ≤ 8596764) (kk : ∀ hC hM, okC hC → okM hM → zK p l e s m below meth c b (u1 + 1) (u2 + 10000) 1355 x [] hC hM) : zK p l e s m below meth c b u1 u2 1204 x [] hC hM := by
  refine zk_aload1 C0 (zdk ttL_14 10 rfl rfl) ?_
  refine zk_aload0 C0 (zdk ttL_14 11 rfl rfl) ?_
  refine zk_iload3 C0 (zdk ttL_14 12 rfl rfl) ?_
  refine zk_iconst C0 (zdk ttL_14 13 rfl rfl) ?_
  refine zk_iadd C0 (zdk ttL_14 14 rfl rfl) ?_
  refine zk_sld C0 hL (i := (x + 1)) (by omega) (zdk ttL_14 15 rfl rfl) ?_
  refine zk_callC C0 sC [(xs ((x + 1)).toNat).toInt] (zdk ttL_14 16 rfl rfl) mb_X10_hung mv_RL_143 rfl rfl rfl (Nat.le_of_ble_eq_true rfl) (s_X10_hung l hC (xs ((x + 1)).toNat).toInt sC (zxs xs _)) ⟨rfl, rfl, ⟨Nat.le_of_ble_eq_true rfl, Nat.le_of_ble_eq_true rfl⟩, by show u1 + 0 ≤ 165162; omega, by show u2 + 0 ≤ 8606764; omega⟩ (fun v261 h262 q263 => ?_)
  have s264 : okC h262 := q263.2
  refine zk_pop C0 (zdk ttL_14 17 rfl rfl) ?_
  refine zk_aload2 C0 (zdk ttL_14 18 rfl rfl) ?_
  refine zk_aload0 C0 (zdk ttL_14 19 rfl rfl) ?_
  refine zk_iload3 C0 (zdk ttL_14 20 rfl rfl) ?_
  refine zk_iconst C0 (zdk ttL_14 21 rfl rfl) ?_
  refine zk_iadd C0 (zdk ttL_14 22 rfl rfl) ?_
  refine zk_sld C0 hL (i := (x + 1)) (by omega) (zdk ttL_14 23 rfl rfl) ?_
  refine zk_callM C0 sM [(xs ((x + 1)).toNat).toInt] (zdk ttL_14 24 rfl rfl) mb_X11_hung mv_RL_146 rfl rfl rfl (Nat.le_of_ble_eq_true rfl) (s_X11_hung l hM (xs ((x + 1)).toNat).toInt sM (zxs xs _)) ⟨rfl, rfl, ⟨Nat.le_of_ble_eq_true rfl, Nat.le_of_ble_eq_true rfl⟩, by show (u1 + 0) + 0 ≤ 165162; omega, by show (u2 + 0) + 0 ≤ 8606764; omega⟩ (fun v265 h266 q267 => ?_)
  have s268 : okM h266 := q267.2.1
  refine zk_pop C0 (zdk ttL_14 25 rfl rfl) ?_
  refine zk_goto C0 (t := 1355) (zdk ttL_14 26 rfl rfl) (by decide) ?_
  exact zk_widen (by omega) (by omega) (kk h262 h266 s264 s268)
theorem lc_31 (C0 : lw_At p s m meth c b L xs) (hL : L ≤ 3072) (sC : okC hC) (sM : okM hM) (hx0 : 0 ≤ x ∧ x + 6 ≤ L) (hu1 : u1 ≤ 165161) (hu2 : u2 ≤ 8596764) (kk : ∀ hC hM, okC hC → okM hM → zK p l e s m below meth c b (u1 + 1) (u2 + 10000) 1355 x [] hC hM) : zK p l e s m below meth c b u1 u2 1227 x [] hC hM := by
  refine zk_aload1 C0 (zdk ttL_14 27 rfl rfl) ?_
  refine zk_aload0 C0 (zdk ttL_14 28 rfl rfl) ?_
  refine zk_iload3 C0 (zdk ttL_14 29 rfl rfl) ?_
  refine zk_iconst C0 (zdk ttL_14 30 rfl rfl) ?_
  refine zk_iadd C0 (zdk ttL_14 31 rfl rfl) ?_
  refine zk_sld C0 hL (i := (x + 1)) (by omega) (zdk ttL_14 32 rfl rfl) ?_
  refine zk_aload0 C0 (zdk ttL_14 33 rfl rfl) ?_
  refine zk_iload3 C0 (zdk ttL_14 34 rfl rfl) ?_
  refine zk_iconst C0 (zdk ttL_14 35 rfl rfl) ?_
  refine zk_iadd C0 (zdk ttL_14 36 rfl rfl) ?_
  refine zk_sld C0 hL (i := (x + 2)) (by omega) (zdk ttL_14 37 rfl rfl) ?_
  refine zk_aload0 C0 (zdk ttL_14 38 rfl rfl) ?_
  refine zk_iload3 C0 (zdk ttL_14 39 rfl rfl) ?_
  refine zk_iconst C0 (zdk ttL_14 40 rfl rfl) ?_
  refine zk_iadd C0 (zdk ttL_14 41 rfl rfl) ?_
  refine zk_sld C0 hL (i := (x + 3)) (by omega) (zdk ttL_14 42 rfl rfl) ?_
  refine zk_aload0 C0 (zdk ttL_14 43 rfl rfl) ?_
  refine zk_iload3 C0 (zdk ttL_14 44 rfl rfl) ?_
  refine zk_iconst C0 (zdk ttL_14 45 rfl rfl) ?_
  refine zk_iadd C0 (zdk ttL_14 46 rfl rfl) ?_
  refine zk_sld C0 hL (i := (x + 4)) (by omega) (zdk ttL_14 47 rfl rfl) ?_
  refine zk_callC C0 sC [(xs ((x + 1)).toNat).toInt, (xs ((x + 2)).toNat).toInt, (xs ((x + 3)).toNat).toInt, (xs ((x + 4)).toNat).toInt] (zdk ttL_14 48 rfl rfl) mb_X10_game mv_RL_147 rfl rfl rfl (Nat.le_of_ble_eq_true rfl) (s_X10_game l hC (xs ((x + 1)).toNat).toInt (xs ((x + 2)).toNat).toInt (xs ((x + 3)).toNat).toInt (xs ((x + 4)).toNat).toInt sC (zxs xs _) (zxs xs _) (zxs xs _) (zxs xs _)) ⟨rfl, rfl, ⟨Nat.le_of_ble_eq_true rfl, Nat.le_of_ble_eq_true rfl⟩, by show u1 + 0 ≤ 165162; omega, by show u2 + 0 ≤ 8606764; omega⟩ (fun v269 h270 q271 => ?_)
  have s272 : okC h270 := q271.2
  refine zk_pop C0 (zdk ttL_14 49 rfl rfl) ?_
  refine zk_aload2 C0 (zdk ttL_14 50 rfl rfl) ?_
  refine zk_aload0 C0 (zdk ttL_14 51 rfl rfl) ?_
  refine zk_iload3 C0 (zdk ttL_14 52 rfl rfl) ?_
  refine zk_iconst C0 (zdk ttL_14 53 rfl rfl) ?_
  refine zk_iadd C0 (zdk ttL_14 54 rfl rfl) ?_
  refine zk_sld C0 hL (i := (x + 1)) (by omega) (zdk ttL_14 55 rfl rfl) ?_
  refine zk_aload0 C0 (zdk ttL_14 56 rfl rfl) ?_
  refine zk_iload3 C0 (zdk ttL_14 57 rfl rfl) ?_
  refine zk_iconst C0 (zdk ttL_14 58 rfl rfl) ?_
  refine zk_iadd C0 (zdk ttL_14 59 rfl rfl) ?_
  refine zk_sld C0 hL (i := (x + 2)) (by omega) (zdk ttL_15 0 rfl rfl) ?_
  refine zk_aload0 C0 (zdk ttL_15 1 rfl rfl) ?_
  refine zk_iload3 C0 (zdk ttL_15 2 rfl rfl) ?_
  refine zk_iconst C0 (zdk ttL_15 3 rfl rfl) ?_
  refine zk_iadd C0 (zdk ttL_15 4 rfl rfl) ?_
  refine zk_sld C0 hL (i := (x + 3)) (by omega) (zdk ttL_15 5 rfl rfl) ?_
  refine zk_aload0 C0 (zdk ttL_15 6 rfl rfl) ?_
  refine zk_iload3 C0 (zdk ttL_15 7 rfl rfl) ?_
  refine zk_iconst C0 (zdk ttL_15 8 rfl rfl) ?_
  refine zk_iadd C0 (zdk ttL_15 9 rfl rfl) ?_
  refine zk_sld C0 hL (i := (x + 4)) (by omega) (zdk ttL_15 10 rfl rfl) ?_
  refine zk_callM C0 sM [(xs ((x + 1)).toNat).toInt, (xs ((x + 2)).toNat).toInt, (xs ((x + 3)).toNat).toInt, (xs ((x + 4)).toNat).toInt] (zdk ttL_15 11 rfl rfl) mb_X11_game mv_RL_150 rfl rfl rfl (Nat.le_of_ble_eq_true rfl) (s_X11_game l hM (xs ((x + 1)).toNat).toInt (xs ((x + 2)).toNat).toInt (xs ((x + 3)).toNat).toInt (xs ((x + 4)).toNat).toInt sM (zxs xs _) (zxs xs _) (zxs xs _) (zxs xs _)) ⟨rfl, rfl, ⟨Nat.le_of_ble_eq_true rfl, Nat.le_of_ble_eq_true rfl⟩, by show (u1 + 0) + 0 ≤ 165162; omega, by show (u2 + 0) + 0 ≤ 8606764; omega⟩ (fun v273 h274 q275 => ?_)
  have s276 : okM h274 := q275.2.1
  refine zk_pop C0 (zdk ttL_15 12 rfl rfl) ?_
  refine zk_goto C0 (t := 1355) (zdk ttL_15 13 rfl rfl) (by decide) ?_
  exact zk_widen (by omega) (by omega) (kk h270 h274 s272 s276)
theorem lc_32 (C0 : lw_At p s m meth c b L xs) (hL : L ≤ 3072) (sC : okC hC) (sM : okM hM) (hx0 : 0 ≤ x ∧ x + 6 ≤ L) (hu1 : u1 ≤ 165161) (hu2 : u2 ≤ 8596764) (kk : ∀ hC hM, okC hC → okM hM → zK p l e s m below meth c b (u1 + 1) (u2 + 10000) 1355 x [] hC hM) : zK p l e s m below meth c b u1 u2 1280 x [] hC hM := by
  refine zk_aload1 C0 (zdk ttL_15 14 rfl rfl) ?_
  refine zk_callC C0 sC [] (zdk ttL_15 15 rfl rfl) mb_X10_undo mv_RL_151 rfl rfl rfl (Nat.le_of_ble_eq_true rfl) (s_X10_undo l hC sC ) ⟨rfl, rfl, ⟨Nat.le_of_ble_eq_true rfl, Nat.le_of_ble_eq_true rfl⟩, by show u1 + 0 ≤ 165162; omega, by show u2 + 0 ≤ 8606764; omega⟩ (fun v277 h278 q279 => ?_)
  have s280 : okC h278 := q279.2
  refine zk_pop C0 (zdk ttL_15 16 rfl rfl) ?_
  refine zk_aload2 C0 (zdk ttL_15 17 rfl rfl) ?_
  refine zk_callM C0 sM [] (zdk ttL_15 18 rfl rfl) mb_X11_undo mv_RL_155 rfl rfl rfl (Nat.le_of_ble_eq_true rfl) (s_X11_undo l hM sM ) ⟨rfl, rfl, ⟨Nat.le_of_ble_eq_true rfl, Nat.le_of_ble_eq_true rfl⟩, by show (u1 + 0) + 0 ≤ 165162; omega, by show (u2 + 0) + 0 ≤ 8606764; omega⟩ (fun v281 h282 q283 => ?_)
  have s284 : okM h282 := q283.2.1
  refine zk_pop C0 (zdk ttL_15 19 rfl rfl) ?_
  refine zk_goto C0 (t := 1355) (zdk ttL_15 20 rfl rfl) (by decide) ?_
  exact zk_widen (by omega) (by omega) (kk h278 h282 s280 s284)
theorem lc_33 (C0 : lw_At p s m meth c b L xs) (hL : L ≤ 3072) (sC : okC hC) (sM : okM hM) (hx0 : 0 ≤ x ∧ x + 6 ≤ L) (hu1 : u1 ≤ 165161) (hu2 : u2 ≤ 8596764) (kk : ∀ hC hM, okC hC → okM hM → zK p l e s m below meth c b (u1 + 1) (u2 + 10000) 1355 x [] hC hM) : zK p l e s m below meth c b u1 u2 1293 x [] hC hM := by
  refine zk_aload1 C0 (zdk ttL_15 21 rfl rfl) ?_
  refine zk_aload0 C0 (zdk ttL_15 22 rfl rfl) ?_
  refine zk_iload3 C0 (zdk ttL_15 23 rfl rfl) ?_
  refine zk_iconst C0 (zdk ttL_15 24 rfl rfl) ?_
  refine zk_iadd C0 (zdk ttL_15 25 rfl rfl) ?_
  refine zk_sld C0 hL (i := (x + 1)) (by omega) (zdk ttL_15 26 rfl rfl) ?_
  refine zk_if_eq C0 (t := 1306) (zdk ttL_15 27 rfl rfl) (by decide) (zxs xs _) (fun c285 => ?_) (fun c285 => ?_)
  · refine zk_iconst C0 (zdk ttL_15 30 rfl rfl) ?_
    refine zk_callC C0 sC [0] (zdk ttL_15 31 rfl rfl) mb_X10_image mv_RL_156 rfl rfl rfl (Nat.le_of_ble_eq_true rfl) (s_X10_image l hC 0 sC (by decide)) ⟨rfl, rfl, ⟨Nat.le_of_ble_eq_true rfl, Nat.le_of_ble_eq_true rfl⟩, by show u1 + 0 ≤ 165162; omega, by show u2 + 0 ≤ 8606764; omega⟩ (fun v286 h287 q288 => ?_)
    have s289 : okC h287 := q288.2
    refine zk_pop C0 (zdk ttL_15 32 rfl rfl) ?_
    refine zk_aload2 C0 (zdk ttL_15 33 rfl rfl) ?_
    refine zk_aload0 C0 (zdk ttL_15 34 rfl rfl) ?_
    refine zk_iload3 C0 (zdk ttL_15 35 rfl rfl) ?_
    refine zk_iconst C0 (zdk ttL_15 36 rfl rfl) ?_
    refine zk_iadd C0 (zdk ttL_15 37 rfl rfl) ?_
    refine zk_sld C0 hL (i := (x + 1)) (by omega) (zdk ttL_15 38 rfl rfl) ?_
    refine zk_if_eq C0 (t := 1324) (zdk ttL_15 39 rfl rfl) (by decide) (zxs xs _) (fun c290 => ?_) (fun c290 => ?_)
    · refine zk_iconst C0 (zdk ttL_15 42 rfl rfl) ?_
      refine zk_callM C0 sM [0] (zdk ttL_15 43 rfl rfl) mb_X11_image mv_RL_160 rfl rfl rfl (Nat.le_of_ble_eq_true rfl) (s_X11_image l hM 0 sM.B (by decide) sM) ⟨rfl, rfl, ⟨Nat.le_of_ble_eq_true rfl, Nat.le_of_ble_eq_true rfl⟩, by show (u1 + 0) + 0 ≤ 165162; omega, by show (u2 + 0) + 0 ≤ 8606764; omega⟩ (fun v291 h292 q293 => ?_)
      have s294 : okM h292 := q293.2.2.2
      refine zk_pop C0 (zdk ttL_15 44 rfl rfl) ?_
      refine zk_goto C0 (t := 1355) (zdk ttL_15 45 rfl rfl) (by decide) ?_
      exact zk_widen (by omega) (by omega) (kk h287 h292 s289 s294)
    · refine zk_iconst C0 (zdk ttL_15 40 rfl rfl) ?_
      refine zk_goto C0 (t := 1325) (zdk ttL_15 41 rfl rfl) (by decide) ?_
      refine zk_callM C0 sM [1] (zdk ttL_15 43 rfl rfl) mb_X11_image mv_RL_160 rfl rfl rfl (Nat.le_of_ble_eq_true rfl) (s_X11_image l hM 1 sM.B (by decide) sM) ⟨rfl, rfl, ⟨Nat.le_of_ble_eq_true rfl, Nat.le_of_ble_eq_true rfl⟩, by show (u1 + 0) + 0 ≤ 165162; omega, by show (u2 + 0) + 0 ≤ 8606764; omega⟩ (fun v295 h296 q297 => ?_)
      have s298 : okM h296 := q297.2.2.2
      refine zk_pop C0 (zdk ttL_15 44 rfl rfl) ?_
      refine zk_goto C0 (t := 1355) (zdk ttL_15 45 rfl rfl) (by decide) ?_
      exact zk_widen (by omega) (by omega) (kk h287 h296 s289 s298)
  · refine zk_iconst C0 (zdk ttL_15 28 rfl rfl) ?_
    refine zk_goto C0 (t := 1307) (zdk ttL_15 29 rfl rfl) (by decide) ?_
    refine zk_callC C0 sC [1] (zdk ttL_15 31 rfl rfl) mb_X10_image mv_RL_156 rfl rfl rfl (Nat.le_of_ble_eq_true rfl) (s_X10_image l hC 1 sC (by decide)) ⟨rfl, rfl, ⟨Nat.le_of_ble_eq_true rfl, Nat.le_of_ble_eq_true rfl⟩, by show u1 + 0 ≤ 165162; omega, by show u2 + 0 ≤ 8606764; omega⟩ (fun v299 h300 q301 => ?_)
    have s302 : okC h300 := q301.2
    refine zk_pop C0 (zdk ttL_15 32 rfl rfl) ?_
    refine zk_aload2 C0 (zdk ttL_15 33 rfl rfl) ?_
    refine zk_aload0 C0 (zdk ttL_15 34 rfl rfl) ?_
    refine zk_iload3 C0 (zdk ttL_15 35 rfl rfl) ?_
    refine zk_iconst C0 (zdk ttL_15 36 rfl rfl) ?_
    refine zk_iadd C0 (zdk ttL_15 37 rfl rfl) ?_
    refine zk_sld C0 hL (i := (x + 1)) (by omega) (zdk ttL_15 38 rfl rfl) ?_
    refine zk_if_eq C0 (t := 1324) (zdk ttL_15 39 rfl rfl) (by decide) (zxs xs _) (fun c303 => ?_) (fun c303 => ?_)
    · refine zk_iconst C0 (zdk ttL_15 42 rfl rfl) ?_
      refine zk_callM C0 sM [0] (zdk ttL_15 43 rfl rfl) mb_X11_image mv_RL_160 rfl rfl rfl (Nat.le_of_ble_eq_true rfl) (s_X11_image l hM 0 sM.B (by decide) sM) ⟨rfl, rfl, ⟨Nat.le_of_ble_eq_true rfl, Nat.le_of_ble_eq_true rfl⟩, by show (u1 + 0) + 0 ≤ 165162; omega, by show (u2 + 0) + 0 ≤ 8606764; omega⟩ (fun v304 h305 q306 => ?_)
      have s307 : okM h305 := q306.2.2.2
      refine zk_pop C0 (zdk ttL_15 44 rfl rfl) ?_
      refine zk_goto C0 (t := 1355) (zdk ttL_15 45 rfl rfl) (by decide) ?_
      exact zk_widen (by omega) (by omega) (kk h300 h305 s302 s307)
    · refine zk_iconst C0 (zdk ttL_15 40 rfl rfl) ?_
      refine zk_goto C0 (t := 1325) (zdk ttL_15 41 rfl rfl) (by decide) ?_
      refine zk_callM C0 sM [1] (zdk ttL_15 43 rfl rfl) mb_X11_image mv_RL_160 rfl rfl rfl (Nat.le_of_ble_eq_true rfl) (s_X11_image l hM 1 sM.B (by decide) sM) ⟨rfl, rfl, ⟨Nat.le_of_ble_eq_true rfl, Nat.le_of_ble_eq_true rfl⟩, by show (u1 + 0) + 0 ≤ 165162; omega, by show (u2 + 0) + 0 ≤ 8606764; omega⟩ (fun v308 h309 q310 => ?_)
      have s311 : okM h309 := q310.2.2.2
      refine zk_pop C0 (zdk ttL_15 44 rfl rfl) ?_
      refine zk_goto C0 (t := 1355) (zdk ttL_15 45 rfl rfl) (by decide) ?_
      exact zk_widen (by omega) (by omega) (kk h300 h309 s302 s311)
theorem lc_34 (C0 : lw_At p s m meth c b L xs) (hL : L ≤ 3072) (sC : okC hC) (sM : okM hM) (hx0 : 0 ≤ x ∧ x + 6 ≤ L) (hu1 : u1 ≤ 165161) (hu2 : u2 ≤ 8596764) (kk : ∀ hC hM, okC hC → okM hM → zK p l e s m below meth c b (u1 + 1) (u2 + 10000) 1355 x [] hC hM) : zK p l e s m below meth c b u1 u2 1332 x [] hC hM := by
  refine zk_aload1 C0 (zdk ttL_15 46 rfl rfl) ?_
  refine zk_aload0 C0 (zdk ttL_15 47 rfl rfl) ?_
  refine zk_iload3 C0 (zdk ttL_15 48 rfl rfl) ?_
  refine zk_iconst C0 (zdk ttL_15 49 rfl rfl) ?_
  refine zk_iadd C0 (zdk ttL_15 50 rfl rfl) ?_
  refine zk_sld C0 hL (i := (x + 1)) (by omega) (zdk ttL_15 51 rfl rfl) ?_
  refine zk_callC C0 sC [(xs ((x + 1)).toNat).toInt] (zdk ttL_15 52 rfl rfl) mb_X10_look mv_RL_161 rfl rfl rfl (Nat.le_of_ble_eq_true rfl) (s_X10_look l hC (xs ((x + 1)).toNat).toInt sC (zxs xs _)) ⟨rfl, rfl, ⟨Nat.le_of_ble_eq_true rfl, Nat.le_of_ble_eq_true rfl⟩, by show u1 + 0 ≤ 165162; omega, by show u2 + 0 ≤ 8606764; omega⟩ (fun v312 h313 q314 => ?_)
  have s315 : okC h313 := q314.2
  refine zk_pop C0 (zdk ttL_15 53 rfl rfl) ?_
  refine zk_aload2 C0 (zdk ttL_15 54 rfl rfl) ?_
  refine zk_aload0 C0 (zdk ttL_15 55 rfl rfl) ?_
  refine zk_iload3 C0 (zdk ttL_15 56 rfl rfl) ?_
  refine zk_iconst C0 (zdk ttL_15 57 rfl rfl) ?_
  refine zk_iadd C0 (zdk ttL_15 58 rfl rfl) ?_
  refine zk_sld C0 hL (i := (x + 1)) (by omega) (zdk ttL_15 59 rfl rfl) ?_
  refine zk_callM C0 sM [(xs ((x + 1)).toNat).toInt] (zdk ttL_16 0 rfl rfl) mb_X11_look mv_RL_164 rfl rfl rfl (Nat.le_of_ble_eq_true rfl) (s_X11_look l hM (xs ((x + 1)).toNat).toInt sM (zxs xs _)) ⟨rfl, rfl, ⟨Nat.le_of_ble_eq_true rfl, Nat.le_of_ble_eq_true rfl⟩, by show (u1 + 0) + 0 ≤ 165162; omega, by show (u2 + 0) + 0 ≤ 8606764; omega⟩ (fun v316 h317 q318 => ?_)
  have s319 : okM h317 := q318.2.1
  refine zk_pop C0 (zdk ttL_16 1 rfl rfl) ?_
  refine zk_goto C0 (t := 1355) (zdk ttL_16 2 rfl rfl) (by decide) ?_
  exact zk_widen (by omega) (by omega) (kk h313 h317 s315 s319)
end ZLC
set_option maxHeartbeats 4000000 in
theorem law_loop {p : Program} {l : Launch} {e : Env} {s : State} {m : MethodId} {below : List Frame} {meth : Method} {c : Code} {b L : Nat} {xs : Nat → Int32} (C0 : lw_At p s m meth c b L xs) (hL : L ≤ 3072) : ∀ (n : Nat) (x : Int) (hC hM : zM), 0 ≤ x → x ≤ 3078 → okC hC → okM hM → (3080 - x).toNat < n → zK p l e s m below meth c b (1000 + x.toNat) (200000 + 2000 * x.toNat) 18 x [] hC hM := by
  intro n
  induction n with
  | zero => intro x hC hM _ _ _ _ hm; exact absurd hm (Nat.not_lt_zero _)
  | succ n ih =>
    intro x hC hM hx0 hx1 sC sM hm
    refine zk_iload3 C0 (zdk ttL_0 10 rfl rfl) ?_
    refine zk_aload0 C0 (zdk ttL_0 11 rfl rfl) ?_
    refine zk_len C0 (zdk ttL_0 12 rfl rfl) ?_
    refine zk_bipush C0 (zdk ttL_0 13 rfl rfl) (by decide) ?_
    refine zk_isub C0 (zdk ttL_0 14 rfl rfl) ?_
    refine zk_icmp_gt C0 (t := 1361) (zdk ttL_0 15 rfl rfl) (by decide) (by omega) (by omega) (fun c1 => ?_) (fun c1 => ?_)
    · refine zk_iconst C0 (zdk ttL_16 5 rfl rfl) ?_
      exact zk_end C0 (zdk ttL_16 6 rfl rfl).1 (by omega) (by omega)
    · have hxL : 0 ≤ x ∧ x + 6 ≤ L := by omega
      have kk : ∀ hC hM, okC hC → okM hM → zK p l e s m below meth c b (1000 + x.toNat + 1) (200000 + 2000 * x.toNat + 10000) 1355 x [] hC hM := by
        intro hC hM sC sM
        refine zk_iinc C0 (zdk ttL_16 3 rfl rfl) ?_
        refine zk_goto C0 (t := 18) (zdk ttL_16 4 rfl rfl) (by decide) ?_
        exact zk_widen (by omega) (by omega) (ih (x + 6) hC hM (by omega) (by omega) sC sM (by omega))
      refine zk_aload0 C0 (zdk ttL_0 16 rfl rfl) ?_
      refine zk_iload3 C0 (zdk ttL_0 17 rfl rfl) ?_
      refine zk_sld C0 hL (by omega) (zdk ttL_0 18 rfl rfl) ?_
      refine zk_bipush C0 (zdk ttL_0 19 rfl rfl) (by decide) ?_
      refine zk_iand C0 (zdk ttL_0 20 rfl rfl) ?_
      have hz := zand_m (d := 64) 6 (by decide) (c := 63) (by decide) (by decide) (xs x.toNat).toInt
      generalize zand (xs x.toNat).toInt 63 = v at hz ⊢
      refine zk_table C0 (t := 1355) (zdk ttL_0 21 rfl rfl) (by omega) (by decide) (fun _ => zk_widen (by omega) (by omega) (kk hC hM sC sM)) (fun z1 z2 => ?_)
      have z3 : v = 0 ∨ v = 1 ∨ v = 2 ∨ v = 3 ∨ v = 4 ∨ v = 5 ∨ v = 6 ∨ v = 7 ∨ v = 8 ∨ v = 9 ∨ v = 10 ∨ v = 11 ∨ v = 12 ∨ v = 13 ∨ v = 14 ∨ v = 15 ∨ v = 16 ∨ v = 17 ∨ v = 18 ∨ v = 19 ∨ v = 20 ∨ v = 21 ∨ v = 22 ∨ v = 23 ∨ v = 24 ∨ v = 25 ∨ v = 26 ∨ v = 27 ∨ v = 28 ∨ v = 29 ∨ v = 30 ∨ v = 31 ∨ v = 32 ∨ v = 33 ∨ v = 34 := by omega
      rcases z3 with z3 | z3 | z3 | z3 | z3 | z3 | z3 | z3 | z3 | z3 | z3 | z3 | z3 | z3 | z3 | z3 | z3 | z3 | z3 | z3 | z3 | z3 | z3 | z3 | z3 | z3 | z3 | z3 | z3 | z3 | z3 | z3 | z3 | z3 | z3
      · exact ⟨155, 188, by rw [z3] <;> rfl, by decide, lc_0 C0 hL sC sM hxL (by omega) (by omega) kk⟩
      · exact ⟨178, 211, by rw [z3] <;> rfl, by decide, lc_1 C0 hL sC sM hxL (by omega) (by omega) kk⟩
      · exact ⟨211, 244, by rw [z3] <;> rfl, by decide, lc_2 C0 hL sC sM hxL (by omega) (by omega) kk⟩
      · exact ⟨254, 287, by rw [z3] <;> rfl, by decide, lc_3 C0 hL sC sM hxL (by omega) (by omega) kk⟩
      · exact ⟨287, 320, by rw [z3] <;> rfl, by decide, lc_4 C0 hL sC sM hxL (by omega) (by omega) kk⟩
      · exact ⟨310, 343, by rw [z3] <;> rfl, by decide, lc_5 C0 hL sC sM hxL (by omega) (by omega) kk⟩
      · exact ⟨373, 406, by rw [z3] <;> rfl, by decide, lc_6 C0 hL sC sM hxL (by omega) (by omega) kk⟩
      · exact ⟨396, 429, by rw [z3] <;> rfl, by decide, lc_7 C0 hL sC sM hxL (by omega) (by omega) kk⟩
      · exact ⟨419, 452, by rw [z3] <;> rfl, by decide, lc_8 C0 hL sC sM hxL (by omega) (by omega) kk⟩
      · exact ⟨442, 475, by rw [z3] <;> rfl, by decide, lc_9 C0 hL sC sM hxL (by omega) (by omega) kk⟩
      · exact ⟨475, 508, by rw [z3] <;> rfl, by decide, lc_10 C0 hL sC sM hxL (by omega) (by omega) kk⟩
      · exact ⟨508, 541, by rw [z3] <;> rfl, by decide, lc_11 C0 hL sC sM hxL (by omega) (by omega) kk⟩
      · exact ⟨541, 574, by rw [z3] <;> rfl, by decide, lc_12 C0 hL sC sM hxL (by omega) (by omega) kk⟩
      · exact ⟨554, 587, by rw [z3] <;> rfl, by decide, lc_13 C0 hL sC sM hxL (by omega) (by omega) kk⟩
      · exact ⟨587, 620, by rw [z3] <;> rfl, by decide, lc_14 C0 hL sC sM hxL (by omega) (by omega) kk⟩
      · exact ⟨620, 653, by rw [z3] <;> rfl, by decide, lc_15 C0 hL sC sM hxL (by omega) (by omega) kk⟩
      · exact ⟨653, 686, by rw [z3] <;> rfl, by decide, lc_16 C0 hL sC sM hxL (by omega) (by omega) kk⟩
      · exact ⟨702, 735, by rw [z3] <;> rfl, by decide, lc_17 C0 hL sC sM hxL (by omega) (by omega) kk⟩
      · exact ⟨725, 758, by rw [z3] <;> rfl, by decide, lc_18 C0 hL sC sM hxL (by omega) (by omega) kk⟩
      · exact ⟨758, 791, by rw [z3] <;> rfl, by decide, lc_19 C0 hL sC sM hxL (by omega) (by omega) kk⟩
      · exact ⟨791, 824, by rw [z3] <;> rfl, by decide, lc_20 C0 hL sC sM hxL (by omega) (by omega) kk⟩
      · exact ⟨834, 867, by rw [z3] <;> rfl, by decide, lc_21 C0 hL sC sM hxL (by omega) (by omega) kk⟩
      · exact ⟨857, 890, by rw [z3] <;> rfl, by decide, lc_22 C0 hL sC sM hxL (by omega) (by omega) kk⟩
      · exact ⟨870, 903, by rw [z3] <;> rfl, by decide, lc_23 C0 hL sC sM hxL (by omega) (by omega) kk⟩
      · exact ⟨913, 946, by rw [z3] <;> rfl, by decide, lc_24 C0 hL sC sM hxL (by omega) (by omega) kk⟩
      · exact ⟨956, 989, by rw [z3] <;> rfl, by decide, lc_25 C0 hL sC sM hxL (by omega) (by omega) kk⟩
      · exact ⟨999, 1032, by rw [z3] <;> rfl, by decide, lc_26 C0 hL sC sM hxL (by omega) (by omega) kk⟩
      · exact ⟨1042, 1075, by rw [z3] <;> rfl, by decide, lc_27 C0 hL sC sM hxL (by omega) (by omega) kk⟩
      · exact ⟨1085, 1118, by rw [z3] <;> rfl, by decide, lc_28 C0 hL sC sM hxL (by omega) (by omega) kk⟩
      · exact ⟨1138, 1171, by rw [z3] <;> rfl, by decide, lc_29 C0 hL sC sM hxL (by omega) (by omega) kk⟩
      · exact ⟨1171, 1204, by rw [z3] <;> rfl, by decide, lc_30 C0 hL sC sM hxL (by omega) (by omega) kk⟩
      · exact ⟨1194, 1227, by rw [z3] <;> rfl, by decide, lc_31 C0 hL sC sM hxL (by omega) (by omega) kk⟩
      · exact ⟨1247, 1280, by rw [z3] <;> rfl, by decide, lc_32 C0 hL sC sM hxL (by omega) (by omega) kk⟩
      · exact ⟨1260, 1293, by rw [z3] <;> rfl, by decide, lc_33 C0 hL sC sM hxL (by omega) (by omega) kk⟩
      · exact ⟨1299, 1332, by rw [z3] <;> rfl, by decide, lc_34 C0 hL sC sM hxL (by omega) (by omega) kk⟩
