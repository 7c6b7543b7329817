/-! the law -/
def M_la_law : Mi := (⟨"GongHouseLaw", "law", "([I)Z"⟩, code, 4, (Option.some FieldType.boolean), 8, 270, [(0, .new 7, 3), (3, .dup, 1), (4, .invokespecial 9, 3), (7, .astore_n 1, 1), (8, .new 10, 3), (11, .dup, 1), (12, .invokespecial 12, 3), (15, .astore_n 2, 1), (16, .iconst 0, 1), (17, .istore_n 3, 1), (18, .iload_n 3, 1), (19, .aload_n 0, 1), (20, .arraylength, 1), (21, .bipush 6, 2), (23, .isub, 1), (24, .if_icmp .gt 1058, 3), (27, .aload_n 0, 1), (28, .iload_n 3, 1), (29, .iaload, 1), (30, .bipush 31, 2), (32, .iand, 1), (33, .tableswitch 1043 0 23 #[111, 154, 177, 200, 243, 286, 349, 402, 455, 488, 531, 574, 607, 620, 653, 706, 759, 792, 805, 848, 881, 914, 957, 1020], 111), (144, .aload_n 1, 1), (145, .aload_n 0, 1), (146, .iload_n 3, 1), (147, .iconst 1, 1), (148, .iadd, 1), (149, .iaload, 1), (150, .aload_n 0, 1), (151, .iload_n 3, 1), (152, .iconst 2, 1), (153, .iadd, 1), (154, .iaload, 1), (155, .aload_n 0, 1), (156, .iload_n 3, 1), (157, .iconst 3, 1), (158, .iadd, 1), (159, .iaload, 1), (160, .invokevirtual 13, 3), (163, .aload_n 2, 1), (164, .aload_n 0, 1), (165, .iload_n 3, 1), (166, .iconst 1, 1), (167, .iadd, 1), (168, .iaload, 1), (169, .aload_n 0, 1), (170, .iload_n 3, 1), (171, .iconst 2, 1), (172, .iadd, 1), (173, .iaload, 1), (174, .aload_n 0, 1), (175, .iload_n 3, 1), (176, .iconst 3, 1), (177, .iadd, 1), (178, .iaload, 1), (179, .invokevirtual 17, 3), (182, .if_icmp .eq 894, 3), (185, .iconst 0, 1), (186, .ireturn, 1), (187, .aload_n 1, 1), (188, .aload_n 0, 1), (189, .iload_n 3, 1), (190, .iconst 1, 1), (191, .iadd, 1), (192, .iaload, 1), (193, .invokevirtual 18, 3), (196, .aload_n 2, 1), (197, .aload_n 0, 1), (198, .iload_n 3, 1), (199, .iconst 1, 1), (200, .iadd, 1), (201, .iaload, 1), (202, .invokevirtual 22, 3), (205, .if_icmp .eq 871, 3), (208, .iconst 0, 1), (209, .ireturn, 1), (210, .aload_n 1, 1), (211, .aload_n 0, 1), (212, .iload_n 3, 1), (213, .iconst 1, 1), (214, .iadd, 1), (215, .iaload, 1), (216, .invokevirtual 23, 3), (219, .aload_n 2, 1), (220, .aload_n 0, 1), (221, .iload_n 3, 1), (222, .iconst 1, 1), (223, .iadd, 1), (224, .iaload, 1), (225, .invokevirtual 26, 3), (228, .if_icmp .eq 848, 3), (231, .iconst 0, 1), (232, .ireturn, 1), (233, .aload_n 1, 1), (234, .aload_n 0, 1), (235, .iload_n 3, 1), (236, .iconst 1, 1), (237, .iadd, 1), (238, .iaload, 1), (239, .aload_n 0, 1), (240, .iload_n 3, 1), (241, .iconst 2, 1), (242, .iadd, 1), (243, .iaload, 1), (244, .aload_n 0, 1), (245, .iload_n 3, 1), (246, .iconst 3, 1), (247, .iadd, 1), (248, .iaload, 1), (249, .invokevirtual 27, 3), (252, .aload_n 2, 1), (253, .aload_n 0, 1), (254, .iload_n 3, 1), (255, .iconst 1, 1), (256, .iadd, 1), (257, .iaload, 1), (258, .aload_n 0, 1), (259, .iload_n 3, 1), (260, .iconst 2, 1), (261, .iadd, 1), (262, .iaload, 1), (263, .aload_n 0, 1), (264, .iload_n 3, 1), (265, .iconst 3, 1), (266, .iadd, 1), (267, .iaload, 1), (268, .invokevirtual 30, 3), (271, .if_icmp .eq 805, 3), (274, .iconst 0, 1), (275, .ireturn, 1), (276, .aload_n 1, 1), (277, .aload_n 0, 1), (278, .iload_n 3, 1), (279, .iconst 1, 1), (280, .iadd, 1), (281, .iaload, 1), (282, .aload_n 0, 1), (283, .iload_n 3, 1), (284, .iconst 2, 1), (285, .iadd, 1), (286, .iaload, 1), (287, .aload_n 0, 1), (288, .iload_n 3, 1), (289, .iconst 3, 1), (290, .iadd, 1), (291, .iaload, 1), (292, .invokevirtual 31, 3), (295, .aload_n 2, 1), (296, .aload_n 0, 1), (297, .iload_n 3, 1), (298, .iconst 1, 1), (299, .iadd, 1), (300, .iaload, 1), (301, .aload_n 0, 1), (302, .iload_n 3, 1), (303, .iconst 2, 1), (304, .iadd, 1), (305, .iaload, 1), (306, .aload_n 0, 1), (307, .iload_n 3, 1), (308, .iconst 3, 1), (309, .iadd, 1), (310, .iaload, 1), (311, .invokevirtual 34, 3), (314, .if_icmp .eq 762, 3), (317, .iconst 0, 1), (318, .ireturn, 1), (319, .aload_n 1, 1), (320, .aload_n 0, 1), (321, .iload_n 3, 1), (322, .iconst 1, 1), (323, .iadd, 1), (324, .iaload, 1), (325, .aload_n 0, 1), (326, .iload_n 3, 1), (327, .iconst 2, 1), (328, .iadd, 1), (329, .iaload, 1), (330, .aload_n 0, 1), (331, .iload_n 3, 1), (332, .iconst 3, 1), (333, .iadd, 1), (334, .iaload, 1), (335, .aload_n 0, 1), (336, .iload_n 3, 1), (337, .iconst 4, 1), (338, .iadd, 1), (339, .iaload, 1), (340, .aload_n 0, 1), (341, .iload_n 3, 1), (342, .iconst 5, 1), (343, .iadd, 1), (344, .iaload, 1), (345, .invokevirtual 35, 3), (348, .aload_n 2, 1), (349, .aload_n 0, 1), (350, .iload_n 3, 1), (351, .iconst 1, 1), (352, .iadd, 1), (353, .iaload, 1), (354, .aload_n 0, 1), (355, .iload_n 3, 1), (356, .iconst 2, 1), (357, .iadd, 1), (358, .iaload, 1), (359, .aload_n 0, 1), (360, .iload_n 3, 1), (361, .iconst 3, 1), (362, .iadd, 1), (363, .iaload, 1), (364, .aload_n 0, 1), (365, .iload_n 3, 1), (366, .iconst 4, 1), (367, .iadd, 1), (368, .iaload, 1), (369, .aload_n 0, 1), (370, .iload_n 3, 1), (371, .iconst 5, 1), (372, .iadd, 1), (373, .iaload, 1), (374, .invokevirtual 39, 3), (377, .if_icmp .eq 699, 3), (380, .iconst 0, 1), (381, .ireturn, 1), (382, .aload_n 1, 1), (383, .aload_n 0, 1), (384, .iload_n 3, 1), (385, .iconst 1, 1), (386, .iadd, 1), (387, .iaload, 1), (388, .aload_n 0, 1), (389, .iload_n 3, 1), (390, .iconst 2, 1), (391, .iadd, 1), (392, .iaload, 1), (393, .aload_n 0, 1), (394, .iload_n 3, 1), (395, .iconst 3, 1), (396, .iadd, 1), (397, .iaload, 1), (398, .aload_n 0, 1), (399, .iload_n 3, 1), (400, .iconst 4, 1), (401, .iadd, 1), (402, .iaload, 1), (403, .invokevirtual 40, 3), (406, .aload_n 2, 1), (407, .aload_n 0, 1), (408, .iload_n 3, 1), (409, .iconst 1, 1), (410, .iadd, 1), (411, .iaload, 1), (412, .aload_n 0, 1), (413, .iload_n 3, 1), (414, .iconst 2, 1), (415, .iadd, 1), (416, .iaload, 1), (417, .aload_n 0, 1), (418, .iload_n 3, 1), (419, .iconst 3, 1), (420, .iadd, 1), (421, .iaload, 1), (422, .aload_n 0, 1), (423, .iload_n 3, 1), (424, .iconst 4, 1), (425, .iadd, 1), (426, .iaload, 1), (427, .invokevirtual 44, 3), (430, .if_icmp .eq 646, 3), (433, .iconst 0, 1), (434, .ireturn, 1), (435, .aload_n 1, 1), (436, .aload_n 0, 1), (437, .iload_n 3, 1), (438, .iconst 1, 1), (439, .iadd, 1), (440, .iaload, 1), (441, .aload_n 0, 1), (442, .iload_n 3, 1), (443, .iconst 2, 1), (444, .iadd, 1), (445, .iaload, 1), (446, .aload_n 0, 1), (447, .iload_n 3, 1), (448, .iconst 3, 1), (449, .iadd, 1), (450, .iaload, 1), (451, .aload_n 0, 1), (452, .iload_n 3, 1), (453, .iconst 4, 1), (454, .iadd, 1), (455, .iaload, 1), (456, .invokevirtual 45, 3), (459, .aload_n 2, 1), (460, .aload_n 0, 1), (461, .iload_n 3, 1), (462, .iconst 1, 1), (463, .iadd, 1), (464, .iaload, 1), (465, .aload_n 0, 1), (466, .iload_n 3, 1), (467, .iconst 2, 1), (468, .iadd, 1), (469, .iaload, 1), (470, .aload_n 0, 1), (471, .iload_n 3, 1), (472, .iconst 3, 1), (473, .iadd, 1), (474, .iaload, 1), (475, .aload_n 0, 1), (476, .iload_n 3, 1), (477, .iconst 4, 1), (478, .iadd, 1), (479, .iaload, 1), (480, .invokevirtual 48, 3), (483, .if_icmp .eq 593, 3), (486, .iconst 0, 1), (487, .ireturn, 1), (488, .aload_n 1, 1), (489, .aload_n 0, 1), (490, .iload_n 3, 1), (491, .iconst 1, 1), (492, .iadd, 1), (493, .iaload, 1), (494, .aload_n 0, 1), (495, .iload_n 3, 1), (496, .iconst 2, 1), (497, .iadd, 1), (498, .iaload, 1), (499, .invokevirtual 49, 3), (502, .aload_n 2, 1), (503, .aload_n 0, 1), (504, .iload_n 3, 1), (505, .iconst 1, 1), (506, .iadd, 1), (507, .iaload, 1), (508, .aload_n 0, 1), (509, .iload_n 3, 1), (510, .iconst 2, 1), (511, .iadd, 1), (512, .iaload, 1), (513, .invokevirtual 53, 3), (516, .if_icmp .eq 560, 3), (519, .iconst 0, 1), (520, .ireturn, 1), (521, .aload_n 1, 1), (522, .aload_n 0, 1), (523, .iload_n 3, 1), (524, .iconst 1, 1), (525, .iadd, 1), (526, .iaload, 1), (527, .aload_n 0, 1), (528, .iload_n 3, 1), (529, .iconst 2, 1), (530, .iadd, 1), (531, .iaload, 1), (532, .aload_n 0, 1), (533, .iload_n 3, 1), (534, .iconst 3, 1), (535, .iadd, 1), (536, .iaload, 1), (537, .invokevirtual 54, 3), (540, .aload_n 2, 1), (541, .aload_n 0, 1), (542, .iload_n 3, 1), (543, .iconst 1, 1), (544, .iadd, 1), (545, .iaload, 1), (546, .aload_n 0, 1), (547, .iload_n 3, 1), (548, .iconst 2, 1), (549, .iadd, 1), (550, .iaload, 1), (551, .aload_n 0, 1), (552, .iload_n 3, 1), (553, .iconst 3, 1), (554, .iadd, 1), (555, .iaload, 1), (556, .invokevirtual 57, 3), (559, .if_icmp .eq 517, 3), (562, .iconst 0, 1), (563, .ireturn, 1), (564, .aload_n 1, 1), (565, .aload_n 0, 1), (566, .iload_n 3, 1), (567, .iconst 1, 1), (568, .iadd, 1), (569, .iaload, 1), (570, .aload_n 0, 1), (571, .iload_n 3, 1), (572, .iconst 2, 1), (573, .iadd, 1), (574, .iaload, 1), (575, .aload_n 0, 1), (576, .iload_n 3, 1), (577, .iconst 3, 1), (578, .iadd, 1), (579, .iaload, 1), (580, .invokevirtual 58, 3), (583, .aload_n 2, 1), (584, .aload_n 0, 1), (585, .iload_n 3, 1), (586, .iconst 1, 1), (587, .iadd, 1), (588, .iaload, 1), (589, .aload_n 0, 1), (590, .iload_n 3, 1), (591, .iconst 2, 1), (592, .iadd, 1), (593, .iaload, 1), (594, .aload_n 0, 1), (595, .iload_n 3, 1), (596, .iconst 3, 1), (597, .iadd, 1), (598, .iaload, 1), (599, .invokevirtual 61, 3), (602, .if_icmp .eq 474, 3), (605, .iconst 0, 1), (606, .ireturn, 1), (607, .aload_n 1, 1), (608, .aload_n 0, 1), (609, .iload_n 3, 1), (610, .iconst 1, 1), (611, .iadd, 1), (612, .iaload, 1), (613, .aload_n 0, 1), (614, .iload_n 3, 1), (615, .iconst 2, 1), (616, .iadd, 1), (617, .iaload, 1), (618, .invokevirtual 62, 3), (621, .aload_n 2, 1), (622, .aload_n 0, 1), (623, .iload_n 3, 1), (624, .iconst 1, 1), (625, .iadd, 1), (626, .iaload, 1), (627, .aload_n 0, 1), (628, .iload_n 3, 1), (629, .iconst 2, 1), (630, .iadd, 1), (631, .iaload, 1), (632, .invokevirtual 65, 3), (635, .if_icmp .eq 441, 3), (638, .iconst 0, 1), (639, .ireturn, 1), (640, .aload_n 1, 1), (641, .invokevirtual 66, 3), (644, .aload_n 2, 1), (645, .invokevirtual 70, 3), (648, .if_icmp .eq 428, 3), (651, .iconst 0, 1), (652, .ireturn, 1), (653, .aload_n 1, 1), (654, .aload_n 0, 1), (655, .iload_n 3, 1), (656, .iconst 1, 1), (657, .iadd, 1), (658, .iaload, 1), (659, .aload_n 0, 1), (660, .iload_n 3, 1), (661, .iconst 2, 1), (662, .iadd, 1), (663, .iaload, 1), (664, .invokevirtual 71, 3), (667, .aload_n 2, 1), (668, .aload_n 0, 1), (669, .iload_n 3, 1), (670, .iconst 1, 1), (671, .iadd, 1), (672, .iaload, 1), (673, .aload_n 0, 1), (674, .iload_n 3, 1), (675, .iconst 2, 1), (676, .iadd, 1), (677, .iaload, 1), (678, .invokevirtual 74, 3), (681, .if_icmp .eq 395, 3), (684, .iconst 0, 1), (685, .ireturn, 1), (686, .aload_n 1, 1), (687, .aload_n 0, 1), (688, .iload_n 3, 1), (689, .iconst 1, 1), (690, .iadd, 1), (691, .iaload, 1), (692, .aload_n 0, 1), (693, .iload_n 3, 1), (694, .iconst 2, 1), (695, .iadd, 1), (696, .iaload, 1), (697, .aload_n 0, 1), (698, .iload_n 3, 1), (699, .iconst 3, 1), (700, .iadd, 1), (701, .iaload, 1), (702, .aload_n 0, 1), (703, .iload_n 3, 1), (704, .iconst 4, 1), (705, .iadd, 1), (706, .iaload, 1), (707, .invokevirtual 75, 3), (710, .aload_n 2, 1), (711, .aload_n 0, 1), (712, .iload_n 3, 1), (713, .iconst 1, 1), (714, .iadd, 1), (715, .iaload, 1), (716, .aload_n 0, 1), (717, .iload_n 3, 1), (718, .iconst 2, 1), (719, .iadd, 1), (720, .iaload, 1), (721, .aload_n 0, 1), (722, .iload_n 3, 1), (723, .iconst 3, 1), (724, .iadd, 1), (725, .iaload, 1), (726, .aload_n 0, 1), (727, .iload_n 3, 1), (728, .iconst 4, 1), (729, .iadd, 1), (730, .iaload, 1), (731, .invokevirtual 78, 3), (734, .if_icmp .eq 342, 3), (737, .iconst 0, 1), (738, .ireturn, 1), (739, .aload_n 1, 1), (740, .aload_n 0, 1), (741, .iload_n 3, 1), (742, .iconst 1, 1), (743, .iadd, 1), (744, .iaload, 1), (745, .aload_n 0, 1), (746, .iload_n 3, 1), (747, .iconst 2, 1), (748, .iadd, 1), (749, .iaload, 1), (750, .aload_n 0, 1), (751, .iload_n 3, 1), (752, .iconst 3, 1), (753, .iadd, 1), (754, .iaload, 1), (755, .aload_n 0, 1), (756, .iload_n 3, 1), (757, .iconst 4, 1), (758, .iadd, 1), (759, .iaload, 1), (760, .invokevirtual 79, 3), (763, .aload_n 2, 1), (764, .aload_n 0, 1), (765, .iload_n 3, 1), (766, .iconst 1, 1), (767, .iadd, 1), (768, .iaload, 1), (769, .aload_n 0, 1), (770, .iload_n 3, 1), (771, .iconst 2, 1), (772, .iadd, 1), (773, .iaload, 1), (774, .aload_n 0, 1), (775, .iload_n 3, 1), (776, .iconst 3, 1), (777, .iadd, 1), (778, .iaload, 1), (779, .aload_n 0, 1), (780, .iload_n 3, 1), (781, .iconst 4, 1), (782, .iadd, 1), (783, .iaload, 1), (784, .invokevirtual 82, 3), (787, .if_icmp .eq 289, 3), (790, .iconst 0, 1), (791, .ireturn, 1), (792, .aload_n 1, 1), (793, .aload_n 0, 1), (794, .iload_n 3, 1), (795, .iconst 1, 1), (796, .iadd, 1), (797, .iaload, 1), (798, .aload_n 0, 1), (799, .iload_n 3, 1), (800, .iconst 2, 1), (801, .iadd, 1), (802, .iaload, 1), (803, .invokevirtual 83, 3), (806, .aload_n 2, 1), (807, .aload_n 0, 1), (808, .iload_n 3, 1), (809, .iconst 1, 1), (810, .iadd, 1), (811, .iaload, 1), (812, .aload_n 0, 1), (813, .iload_n 3, 1), (814, .iconst 2, 1), (815, .iadd, 1), (816, .iaload, 1), (817, .invokevirtual 86, 3), (820, .if_icmp .eq 256, 3), (823, .iconst 0, 1), (824, .ireturn, 1), (825, .aload_n 1, 1), (826, .invokevirtual 87, 3), (829, .aload_n 2, 1), (830, .invokevirtual 90, 3), (833, .if_icmp .eq 243, 3), (836, .iconst 0, 1), (837, .ireturn, 1), (838, .aload_n 1, 1), (839, .aload_n 0, 1), (840, .iload_n 3, 1), (841, .iconst 1, 1), (842, .iadd, 1), (843, .iaload, 1), (844, .aload_n 0, 1), (845, .iload_n 3, 1), (846, .iconst 2, 1), (847, .iadd, 1), (848, .iaload, 1), (849, .aload_n 0, 1), (850, .iload_n 3, 1), (851, .iconst 3, 1), (852, .iadd, 1), (853, .iaload, 1), (854, .invokevirtual 91, 3), (857, .aload_n 2, 1), (858, .aload_n 0, 1), (859, .iload_n 3, 1), (860, .iconst 1, 1), (861, .iadd, 1), (862, .iaload, 1), (863, .aload_n 0, 1), (864, .iload_n 3, 1), (865, .iconst 2, 1), (866, .iadd, 1), (867, .iaload, 1), (868, .aload_n 0, 1), (869, .iload_n 3, 1), (870, .iconst 3, 1), (871, .iadd, 1), (872, .iaload, 1), (873, .invokevirtual 94, 3), (876, .if_icmp .eq 200, 3), (879, .iconst 0, 1), (880, .ireturn, 1), (881, .aload_n 1, 1), (882, .aload_n 0, 1), (883, .iload_n 3, 1), (884, .iconst 1, 1), (885, .iadd, 1), (886, .iaload, 1), (887, .aload_n 0, 1), (888, .iload_n 3, 1), (889, .iconst 2, 1), (890, .iadd, 1), (891, .iaload, 1), (892, .invokevirtual 95, 3), (895, .aload_n 2, 1), (896, .aload_n 0, 1), (897, .iload_n 3, 1), (898, .iconst 1, 1), (899, .iadd, 1), (900, .iaload, 1), (901, .aload_n 0, 1), (902, .iload_n 3, 1), (903, .iconst 2, 1), (904, .iadd, 1), (905, .iaload, 1), (906, .invokevirtual 98, 3), (909, .if_icmp .eq 167, 3), (912, .iconst 0, 1), (913, .ireturn, 1), (914, .aload_n 1, 1), (915, .aload_n 0, 1), (916, .iload_n 3, 1), (917, .iconst 1, 1), (918, .iadd, 1), (919, .iaload, 1), (920, .aload_n 0, 1), (921, .iload_n 3, 1), (922, .iconst 2, 1), (923, .iadd, 1), (924, .iaload, 1), (925, .invokevirtual 99, 3), (928, .aload_n 2, 1), (929, .aload_n 0, 1), (930, .iload_n 3, 1), (931, .iconst 1, 1), (932, .iadd, 1), (933, .iaload, 1), (934, .aload_n 0, 1), (935, .iload_n 3, 1), (936, .iconst 2, 1), (937, .iadd, 1), (938, .iaload, 1), (939, .invokevirtual 102, 3), (942, .if_icmp .eq 134, 3), (945, .iconst 0, 1), (946, .ireturn, 1), (947, .aload_n 1, 1), (948, .aload_n 0, 1), (949, .iload_n 3, 1), (950, .iconst 1, 1), (951, .iadd, 1), (952, .iaload, 1), (953, .aload_n 0, 1), (954, .iload_n 3, 1), (955, .iconst 2, 1), (956, .iadd, 1), (957, .iaload, 1), (958, .aload_n 0, 1), (959, .iload_n 3, 1), (960, .iconst 3, 1), (961, .iadd, 1), (962, .iaload, 1), (963, .invokevirtual 103, 3), (966, .aload_n 2, 1), (967, .aload_n 0, 1), (968, .iload_n 3, 1), (969, .iconst 1, 1), (970, .iadd, 1), (971, .iaload, 1), (972, .aload_n 0, 1), (973, .iload_n 3, 1), (974, .iconst 2, 1), (975, .iadd, 1), (976, .iaload, 1), (977, .aload_n 0, 1), (978, .iload_n 3, 1), (979, .iconst 3, 1), (980, .iadd, 1), (981, .iaload, 1), (982, .invokevirtual 106, 3), (985, .if_icmp .eq 91, 3), (988, .iconst 0, 1), (989, .ireturn, 1), (990, .aload_n 1, 1), (991, .aload_n 0, 1), (992, .iload_n 3, 1), (993, .iconst 1, 1), (994, .iadd, 1), (995, .iaload, 1), (996, .aload_n 0, 1), (997, .iload_n 3, 1), (998, .iconst 2, 1), (999, .iadd, 1), (1000, .iaload, 1), (1001, .aload_n 0, 1), (1002, .iload_n 3, 1), (1003, .iconst 3, 1), (1004, .iadd, 1), (1005, .iaload, 1), (1006, .aload_n 0, 1), (1007, .iload_n 3, 1), (1008, .iconst 4, 1), (1009, .iadd, 1), (1010, .iaload, 1), (1011, .aload_n 0, 1), (1012, .iload_n 3, 1), (1013, .iconst 5, 1), (1014, .iadd, 1), (1015, .iaload, 1), (1016, .invokevirtual 107, 3), (1019, .aload_n 2, 1), (1020, .aload_n 0, 1), (1021, .iload_n 3, 1), (1022, .iconst 1, 1), (1023, .iadd, 1), (1024, .iaload, 1), (1025, .aload_n 0, 1), (1026, .iload_n 3, 1), (1027, .iconst 2, 1), (1028, .iadd, 1), (1029, .iaload, 1), (1030, .aload_n 0, 1), (1031, .iload_n 3, 1), (1032, .iconst 3, 1), (1033, .iadd, 1), (1034, .iaload, 1), (1035, .aload_n 0, 1), (1036, .iload_n 3, 1), (1037, .iconst 4, 1), (1038, .iadd, 1), (1039, .iaload, 1), (1040, .aload_n 0, 1), (1041, .iload_n 3, 1), (1042, .iconst 5, 1), (1043, .iadd, 1), (1044, .iaload, 1), (1045, .invokevirtual 110, 3), (1048, .if_icmp .eq 28, 3), (1051, .iconst 0, 1), (1052, .ireturn, 1), (1053, .aload_n 1, 1), (1054, .aload_n 0, 1), (1055, .iload_n 3, 1), (1056, .iconst 1, 1), (1057, .iadd, 1), (1058, .iaload, 1), (1059, .invokevirtual 111, 3), (1062, .aload_n 2, 1), (1063, .aload_n 0, 1), (1064, .iload_n 3, 1), (1065, .iconst 1, 1), (1066, .iadd, 1), (1067, .iaload, 1), (1068, .invokevirtual 114, 3), (1071, .if_icmp .eq 5, 3), (1074, .iconst 0, 1), (1075, .ireturn, 1), (1076, .iinc 3 6, 3), (1079, .goto (-1061), 3), (1082, .iconst 1, 1), (1083, .ireturn, 1)])
set_option maxHeartbeats 400000 in
theorem law_ge {L i : Nat} (hL : L ≤ 3072) (hi : i ≤ 3072) (h : ¬ nI L - nI 6 < nI i) : i + 6 ≤ L := by
  by_cases e : 6 ≤ L
  · rw [nI_sub e] at h
    have := mt (nI_ltI (by omega) (by omega)).mpr h
    omega
  · exfalso
    apply h
    have e5 : L = 0 ∨ L = 1 ∨ L = 2 ∨ L = 3 ∨ L = 4 ∨ L = 5 := by omega
    have hp := nI_pos' (n := i) (by omega)
    have hneg : nI L - nI 6 < 0 := by rcases e5 with rfl | rfl | rfl | rfl | rfl | rfl <;> decide
    rw [Int32.lt_iff_toInt_lt] at hneg ⊢
    rw [Int32.le_iff_toInt_le] at hp
    omega
set_option maxHeartbeats 400000 in
theorem law_lt {L i : Nat} (hL : L ≤ 3072) (hi : i + 6 ≤ L) : ¬ nI L - nI 6 < nI i := by
  rw [nI_sub (by omega)]
  exact mt (nI_ltI (by omega) (by omega)).mp (by omega)

set_option maxRecDepth 20000 in
set_option maxHeartbeats 400000 in
theorem LC_feed {G : Nat × (Nat → Int32)} {cap : Nat × Nat} (hL : G.1 ≤ 3072) {i : Nat} (hi : i + 6 ≤ G.1) {m S : Mm} (h : RC m S) (hM : RM m S) (w : WF S) (HN : ∀ m2 S2, RC m2 S2 → RM m2 S2 → WF S2 → Y G M_la_law cap 1076 [some (.ref 1000000), some (.ref 0), some (.ref 153), some (.int (nI i))] [] (LAY, m2) (qm_ LAY (fun v _ => v = some (.int (nI 1))))) : Y G M_la_law cap 144 [some (.ref 1000000), some (.ref 0), some (.ref 153), some (.int (nI i))] [] (LAY, m) (qm_ LAY (fun v _ => v = some (.int (nI 1)))) := by
  refine Y_aload_n 22 rfl (pc2 := 145) rfl rfl ?_
  refine Y_aload_n 23 rfl (pc2 := 146) rfl rfl ?_
  refine Y_iload_n 24 rfl (pc2 := 147) rfl rfl ?_
  refine Y_iconst 25 rfl (pc2 := 148) rfl (v := nI 1) (by decide) ?_
  refine Y_iadd 26 rfl (pc2 := 149) rfl ?_
  refine Y_top (nI_add _ _) ?_
  refine Y_sald 27 rfl (pc2 := 150) rfl (z := 0) (by decide) rfl (by show _ < G.1; omega) (by show G.1 < _; omega) ?_
  refine Y_aload_n 28 rfl (pc2 := 151) rfl rfl ?_
  refine Y_iload_n 29 rfl (pc2 := 152) rfl rfl ?_
  refine Y_iconst 30 rfl (pc2 := 153) rfl (v := nI 2) (by decide) ?_
  refine Y_iadd 31 rfl (pc2 := 154) rfl ?_
  refine Y_top (nI_add _ _) ?_
  refine Y_sald 32 rfl (pc2 := 155) rfl (z := 0) (by decide) rfl (by show _ < G.1; omega) (by show G.1 < _; omega) ?_
  refine Y_aload_n 33 rfl (pc2 := 156) rfl rfl ?_
  refine Y_iload_n 34 rfl (pc2 := 157) rfl rfl ?_
  refine Y_iconst 35 rfl (pc2 := 158) rfl (v := nI 3) (by decide) ?_
  refine Y_iadd 36 rfl (pc2 := 159) rfl ?_
  refine Y_top (nI_add _ _) ?_
  refine Y_sald 37 rfl (pc2 := 160) rfl (z := 0) (by decide) rfl (by show _ < G.1; omega) (by show G.1 < _; omega) ?_
  refine Y_cV 38 rfl (pc2 := 163) rfl ok_gh_feed lk_la_13 vi_gh_feed ly_gh rfl (by decide) rfl (as := [.int _, .int _, .int _]) (rest := []) rfl rfl (T_gh_feed h w) ?_
  rintro _ m1 ⟨rfl, hc, hfm⟩
  change Y _ _ _ _ _ [.int _] _ _
  refine Y_aload_n 39 rfl (pc2 := 164) rfl rfl ?_
  refine Y_aload_n 40 rfl (pc2 := 165) rfl rfl ?_
  refine Y_iload_n 41 rfl (pc2 := 166) rfl rfl ?_
  refine Y_iconst 42 rfl (pc2 := 167) rfl (v := nI 1) (by decide) ?_
  refine Y_iadd 43 rfl (pc2 := 168) rfl ?_
  refine Y_top (nI_add _ _) ?_
  refine Y_sald 44 rfl (pc2 := 169) rfl (z := 0) (by decide) rfl (by show _ < G.1; omega) (by show G.1 < _; omega) ?_
  refine Y_aload_n 45 rfl (pc2 := 170) rfl rfl ?_
  refine Y_iload_n 46 rfl (pc2 := 171) rfl rfl ?_
  refine Y_iconst 47 rfl (pc2 := 172) rfl (v := nI 2) (by decide) ?_
  refine Y_iadd 48 rfl (pc2 := 173) rfl ?_
  refine Y_top (nI_add _ _) ?_
  refine Y_sald 49 rfl (pc2 := 174) rfl (z := 0) (by decide) rfl (by show _ < G.1; omega) (by show G.1 < _; omega) ?_
  refine Y_aload_n 50 rfl (pc2 := 175) rfl rfl ?_
  refine Y_iload_n 51 rfl (pc2 := 176) rfl rfl ?_
  refine Y_iconst 52 rfl (pc2 := 177) rfl (v := nI 3) (by decide) ?_
  refine Y_iadd 53 rfl (pc2 := 178) rfl ?_
  refine Y_top (nI_add _ _) ?_
  refine Y_sald 54 rfl (pc2 := 179) rfl (z := 0) (by decide) rfl (by show _ < G.1; omega) (by show G.1 < _; omega) ?_
  refine Y_cV 55 rfl (pc2 := 182) rfl ok_mo_feed lk_la_17 vi_mo_feed ly_mo rfl (by decide) rfl (as := [.int _, .int _, .int _]) (rest := [.int _]) rfl rfl (T_mo_feed (hM.mono hfm) w) ?_
  rintro _ m2 ⟨rfl, hm, hfc⟩
  change Y _ _ _ _ _ [.int _, .int _] _ _
  refine Y_icmp_eq 56 rfl (pc2 := 185) rfl (tgt := 1076) (by decide) (fun h182 => ?_) (fun h182 => ?_)
  · exact HN m2 _ (hc.mono (fun a _ ha => hfc a ha)) hm (WF_st_feed w)
  · exact absurd rfl h182

set_option maxRecDepth 20000 in
set_option maxHeartbeats 400000 in
theorem LC_trim {G : Nat × (Nat → Int32)} {cap : Nat × Nat} (hL : G.1 ≤ 3072) {i : Nat} (hi : i + 6 ≤ G.1) {m S : Mm} (h : RC m S) (hM : RM m S) (w : WF S) (HN : ∀ m2 S2, RC m2 S2 → RM m2 S2 → WF S2 → Y G M_la_law cap 1076 [some (.ref 1000000), some (.ref 0), some (.ref 153), some (.int (nI i))] [] (LAY, m2) (qm_ LAY (fun v _ => v = some (.int (nI 1))))) : Y G M_la_law cap 187 [some (.ref 1000000), some (.ref 0), some (.ref 153), some (.int (nI i))] [] (LAY, m) (qm_ LAY (fun v _ => v = some (.int (nI 1)))) := by
  refine Y_aload_n 59 rfl (pc2 := 188) rfl rfl ?_
  refine Y_aload_n 60 rfl (pc2 := 189) rfl rfl ?_
  refine Y_iload_n 61 rfl (pc2 := 190) rfl rfl ?_
  refine Y_iconst 62 rfl (pc2 := 191) rfl (v := nI 1) (by decide) ?_
  refine Y_iadd 63 rfl (pc2 := 192) rfl ?_
  refine Y_top (nI_add _ _) ?_
  refine Y_sald 64 rfl (pc2 := 193) rfl (z := 0) (by decide) rfl (by show _ < G.1; omega) (by show G.1 < _; omega) ?_
  refine Y_cV 65 rfl (pc2 := 196) rfl ok_gh_trim lk_la_18 vi_gh_trim ly_gh rfl (by decide) rfl (as := [.int _]) (rest := []) rfl rfl (T_gh_trim h w) ?_
  rintro _ m1 ⟨rfl, hc, hfm⟩
  change Y _ _ _ _ _ [.int _] _ _
  refine Y_aload_n 66 rfl (pc2 := 197) rfl rfl ?_
  refine Y_aload_n 67 rfl (pc2 := 198) rfl rfl ?_
  refine Y_iload_n 68 rfl (pc2 := 199) rfl rfl ?_
  refine Y_iconst 69 rfl (pc2 := 200) rfl (v := nI 1) (by decide) ?_
  refine Y_iadd 70 rfl (pc2 := 201) rfl ?_
  refine Y_top (nI_add _ _) ?_
  refine Y_sald 71 rfl (pc2 := 202) rfl (z := 0) (by decide) rfl (by show _ < G.1; omega) (by show G.1 < _; omega) ?_
  refine Y_cV 72 rfl (pc2 := 205) rfl ok_mo_trim lk_la_22 vi_mo_trim ly_mo rfl (by decide) rfl (as := [.int _]) (rest := [.int _]) rfl rfl (T_mo_trim (hM.mono hfm) w) ?_
  rintro _ m2 ⟨rfl, hm, hfc⟩
  change Y _ _ _ _ _ [.int _, .int _] _ _
  refine Y_icmp_eq 73 rfl (pc2 := 208) rfl (tgt := 1076) (by decide) (fun h205 => ?_) (fun h205 => ?_)
  · exact HN m2 _ (hc.mono (fun a _ ha => hfc a ha)) hm (WF_st_trim w)
  · exact absurd rfl h205

set_option maxRecDepth 20000 in
set_option maxHeartbeats 400000 in
theorem LC_tune {G : Nat × (Nat → Int32)} {cap : Nat × Nat} (hL : G.1 ≤ 3072) {i : Nat} (hi : i + 6 ≤ G.1) {m S : Mm} (h : RC m S) (hM : RM m S) (w : WF S) (HN : ∀ m2 S2, RC m2 S2 → RM m2 S2 → WF S2 → Y G M_la_law cap 1076 [some (.ref 1000000), some (.ref 0), some (.ref 153), some (.int (nI i))] [] (LAY, m2) (qm_ LAY (fun v _ => v = some (.int (nI 1))))) : Y G M_la_law cap 210 [some (.ref 1000000), some (.ref 0), some (.ref 153), some (.int (nI i))] [] (LAY, m) (qm_ LAY (fun v _ => v = some (.int (nI 1)))) := by
  refine Y_aload_n 76 rfl (pc2 := 211) rfl rfl ?_
  refine Y_aload_n 77 rfl (pc2 := 212) rfl rfl ?_
  refine Y_iload_n 78 rfl (pc2 := 213) rfl rfl ?_
  refine Y_iconst 79 rfl (pc2 := 214) rfl (v := nI 1) (by decide) ?_
  refine Y_iadd 80 rfl (pc2 := 215) rfl ?_
  refine Y_top (nI_add _ _) ?_
  refine Y_sald 81 rfl (pc2 := 216) rfl (z := 0) (by decide) rfl (by show _ < G.1; omega) (by show G.1 < _; omega) ?_
  refine Y_cV 82 rfl (pc2 := 219) rfl ok_gh_tune lk_la_23 vi_gh_tune ly_gh rfl (by decide) rfl (as := [.int _]) (rest := []) rfl rfl (T_gh_tune h w) ?_
  rintro _ m1 ⟨rfl, hc, hfm⟩
  change Y _ _ _ _ _ [.int _] _ _
  refine Y_aload_n 83 rfl (pc2 := 220) rfl rfl ?_
  refine Y_aload_n 84 rfl (pc2 := 221) rfl rfl ?_
  refine Y_iload_n 85 rfl (pc2 := 222) rfl rfl ?_
  refine Y_iconst 86 rfl (pc2 := 223) rfl (v := nI 1) (by decide) ?_
  refine Y_iadd 87 rfl (pc2 := 224) rfl ?_
  refine Y_top (nI_add _ _) ?_
  refine Y_sald 88 rfl (pc2 := 225) rfl (z := 0) (by decide) rfl (by show _ < G.1; omega) (by show G.1 < _; omega) ?_
  refine Y_cV 89 rfl (pc2 := 228) rfl ok_mo_tune lk_la_26 vi_mo_tune ly_mo rfl (by decide) rfl (as := [.int _]) (rest := [.int _]) rfl rfl (T_mo_tune (hM.mono hfm) w) ?_
  rintro _ m2 ⟨rfl, hm, hfc⟩
  change Y _ _ _ _ _ [.int _, .int _] _ _
  refine Y_icmp_eq 90 rfl (pc2 := 231) rfl (tgt := 1076) (by decide) (fun h228 => ?_) (fun h228 => ?_)
  · exact HN m2 _ (hc.mono (fun a _ ha => hfc a ha)) hm (WF_st_tune w)
  · exact absurd rfl h228

set_option maxRecDepth 20000 in
set_option maxHeartbeats 400000 in
theorem LC_told {G : Nat × (Nat → Int32)} {cap : Nat × Nat} (hL : G.1 ≤ 3072) {i : Nat} (hi : i + 6 ≤ G.1) {m S : Mm} (h : RC m S) (hM : RM m S) (w : WF S) (HN : ∀ m2 S2, RC m2 S2 → RM m2 S2 → WF S2 → Y G M_la_law cap 1076 [some (.ref 1000000), some (.ref 0), some (.ref 153), some (.int (nI i))] [] (LAY, m2) (qm_ LAY (fun v _ => v = some (.int (nI 1))))) : Y G M_la_law cap 233 [some (.ref 1000000), some (.ref 0), some (.ref 153), some (.int (nI i))] [] (LAY, m) (qm_ LAY (fun v _ => v = some (.int (nI 1)))) := by
  refine Y_aload_n 93 rfl (pc2 := 234) rfl rfl ?_
  refine Y_aload_n 94 rfl (pc2 := 235) rfl rfl ?_
  refine Y_iload_n 95 rfl (pc2 := 236) rfl rfl ?_
  refine Y_iconst 96 rfl (pc2 := 237) rfl (v := nI 1) (by decide) ?_
  refine Y_iadd 97 rfl (pc2 := 238) rfl ?_
  refine Y_top (nI_add _ _) ?_
  refine Y_sald 98 rfl (pc2 := 239) rfl (z := 0) (by decide) rfl (by show _ < G.1; omega) (by show G.1 < _; omega) ?_
  refine Y_aload_n 99 rfl (pc2 := 240) rfl rfl ?_
  refine Y_iload_n 100 rfl (pc2 := 241) rfl rfl ?_
  refine Y_iconst 101 rfl (pc2 := 242) rfl (v := nI 2) (by decide) ?_
  refine Y_iadd 102 rfl (pc2 := 243) rfl ?_
  refine Y_top (nI_add _ _) ?_
  refine Y_sald 103 rfl (pc2 := 244) rfl (z := 0) (by decide) rfl (by show _ < G.1; omega) (by show G.1 < _; omega) ?_
  refine Y_aload_n 104 rfl (pc2 := 245) rfl rfl ?_
  refine Y_iload_n 105 rfl (pc2 := 246) rfl rfl ?_
  refine Y_iconst 106 rfl (pc2 := 247) rfl (v := nI 3) (by decide) ?_
  refine Y_iadd 107 rfl (pc2 := 248) rfl ?_
  refine Y_top (nI_add _ _) ?_
  refine Y_sald 108 rfl (pc2 := 249) rfl (z := 0) (by decide) rfl (by show _ < G.1; omega) (by show G.1 < _; omega) ?_
  refine Y_cV 109 rfl (pc2 := 252) rfl ok_gh_told lk_la_27 vi_gh_told ly_gh rfl (by decide) rfl (as := [.int _, .int _, .int _]) (rest := []) rfl rfl (T_gh_told h w) ?_
  rintro _ m1 ⟨rfl, hc, hfm⟩
  change Y _ _ _ _ _ [.int _] _ _
  refine Y_aload_n 110 rfl (pc2 := 253) rfl rfl ?_
  refine Y_aload_n 111 rfl (pc2 := 254) rfl rfl ?_
  refine Y_iload_n 112 rfl (pc2 := 255) rfl rfl ?_
  refine Y_iconst 113 rfl (pc2 := 256) rfl (v := nI 1) (by decide) ?_
  refine Y_iadd 114 rfl (pc2 := 257) rfl ?_
  refine Y_top (nI_add _ _) ?_
  refine Y_sald 115 rfl (pc2 := 258) rfl (z := 0) (by decide) rfl (by show _ < G.1; omega) (by show G.1 < _; omega) ?_
  refine Y_aload_n 116 rfl (pc2 := 259) rfl rfl ?_
  refine Y_iload_n 117 rfl (pc2 := 260) rfl rfl ?_
  refine Y_iconst 118 rfl (pc2 := 261) rfl (v := nI 2) (by decide) ?_
  refine Y_iadd 119 rfl (pc2 := 262) rfl ?_
  refine Y_top (nI_add _ _) ?_
  refine Y_sald 120 rfl (pc2 := 263) rfl (z := 0) (by decide) rfl (by show _ < G.1; omega) (by show G.1 < _; omega) ?_
  refine Y_aload_n 121 rfl (pc2 := 264) rfl rfl ?_
  refine Y_iload_n 122 rfl (pc2 := 265) rfl rfl ?_
  refine Y_iconst 123 rfl (pc2 := 266) rfl (v := nI 3) (by decide) ?_
  refine Y_iadd 124 rfl (pc2 := 267) rfl ?_
  refine Y_top (nI_add _ _) ?_
  refine Y_sald 125 rfl (pc2 := 268) rfl (z := 0) (by decide) rfl (by show _ < G.1; omega) (by show G.1 < _; omega) ?_
  refine Y_cV 126 rfl (pc2 := 271) rfl ok_mo_told lk_la_30 vi_mo_told ly_mo rfl (by decide) rfl (as := [.int _, .int _, .int _]) (rest := [.int _]) rfl rfl (T_mo_told (hM.mono hfm) w) ?_
  rintro _ m2 ⟨rfl, hm, hfc⟩
  change Y _ _ _ _ _ [.int _, .int _] _ _
  refine Y_icmp_eq 127 rfl (pc2 := 274) rfl (tgt := 1076) (by decide) (fun h271 => ?_) (fun h271 => ?_)
  · exact HN m2 _ (hc.mono (fun a _ ha => hfc a ha)) hm w
  · exact absurd rfl h271

set_option maxRecDepth 20000 in
set_option maxHeartbeats 400000 in
theorem LC_isOf {G : Nat × (Nat → Int32)} {cap : Nat × Nat} (hL : G.1 ≤ 3072) {i : Nat} (hi : i + 6 ≤ G.1) {m S : Mm} (h : RC m S) (hM : RM m S) (w : WF S) (HN : ∀ m2 S2, RC m2 S2 → RM m2 S2 → WF S2 → Y G M_la_law cap 1076 [some (.ref 1000000), some (.ref 0), some (.ref 153), some (.int (nI i))] [] (LAY, m2) (qm_ LAY (fun v _ => v = some (.int (nI 1))))) : Y G M_la_law cap 276 [some (.ref 1000000), some (.ref 0), some (.ref 153), some (.int (nI i))] [] (LAY, m) (qm_ LAY (fun v _ => v = some (.int (nI 1)))) := by
  refine Y_aload_n 130 rfl (pc2 := 277) rfl rfl ?_
  refine Y_aload_n 131 rfl (pc2 := 278) rfl rfl ?_
  refine Y_iload_n 132 rfl (pc2 := 279) rfl rfl ?_
  refine Y_iconst 133 rfl (pc2 := 280) rfl (v := nI 1) (by decide) ?_
  refine Y_iadd 134 rfl (pc2 := 281) rfl ?_
  refine Y_top (nI_add _ _) ?_
  refine Y_sald 135 rfl (pc2 := 282) rfl (z := 0) (by decide) rfl (by show _ < G.1; omega) (by show G.1 < _; omega) ?_
  refine Y_aload_n 136 rfl (pc2 := 283) rfl rfl ?_
  refine Y_iload_n 137 rfl (pc2 := 284) rfl rfl ?_
  refine Y_iconst 138 rfl (pc2 := 285) rfl (v := nI 2) (by decide) ?_
  refine Y_iadd 139 rfl (pc2 := 286) rfl ?_
  refine Y_top (nI_add _ _) ?_
  refine Y_sald 140 rfl (pc2 := 287) rfl (z := 0) (by decide) rfl (by show _ < G.1; omega) (by show G.1 < _; omega) ?_
  refine Y_aload_n 141 rfl (pc2 := 288) rfl rfl ?_
  refine Y_iload_n 142 rfl (pc2 := 289) rfl rfl ?_
  refine Y_iconst 143 rfl (pc2 := 290) rfl (v := nI 3) (by decide) ?_
  refine Y_iadd 144 rfl (pc2 := 291) rfl ?_
  refine Y_top (nI_add _ _) ?_
  refine Y_sald 145 rfl (pc2 := 292) rfl (z := 0) (by decide) rfl (by show _ < G.1; omega) (by show G.1 < _; omega) ?_
  refine Y_cV 146 rfl (pc2 := 295) rfl ok_gh_isOf lk_la_31 vi_gh_isOf ly_gh rfl (by decide) rfl (as := [.int _, .int _, .int _]) (rest := []) rfl rfl (T_gh_isOf h w) ?_
  rintro _ m1 ⟨rfl, hc, hfm⟩
  change Y _ _ _ _ _ [.int _] _ _
  refine Y_aload_n 147 rfl (pc2 := 296) rfl rfl ?_
  refine Y_aload_n 148 rfl (pc2 := 297) rfl rfl ?_
  refine Y_iload_n 149 rfl (pc2 := 298) rfl rfl ?_
  refine Y_iconst 150 rfl (pc2 := 299) rfl (v := nI 1) (by decide) ?_
  refine Y_iadd 151 rfl (pc2 := 300) rfl ?_
  refine Y_top (nI_add _ _) ?_
  refine Y_sald 152 rfl (pc2 := 301) rfl (z := 0) (by decide) rfl (by show _ < G.1; omega) (by show G.1 < _; omega) ?_
  refine Y_aload_n 153 rfl (pc2 := 302) rfl rfl ?_
  refine Y_iload_n 154 rfl (pc2 := 303) rfl rfl ?_
  refine Y_iconst 155 rfl (pc2 := 304) rfl (v := nI 2) (by decide) ?_
  refine Y_iadd 156 rfl (pc2 := 305) rfl ?_
  refine Y_top (nI_add _ _) ?_
  refine Y_sald 157 rfl (pc2 := 306) rfl (z := 0) (by decide) rfl (by show _ < G.1; omega) (by show G.1 < _; omega) ?_
  refine Y_aload_n 158 rfl (pc2 := 307) rfl rfl ?_
  refine Y_iload_n 159 rfl (pc2 := 308) rfl rfl ?_
  refine Y_iconst 160 rfl (pc2 := 309) rfl (v := nI 3) (by decide) ?_
  refine Y_iadd 161 rfl (pc2 := 310) rfl ?_
  refine Y_top (nI_add _ _) ?_
  refine Y_sald 162 rfl (pc2 := 311) rfl (z := 0) (by decide) rfl (by show _ < G.1; omega) (by show G.1 < _; omega) ?_
  refine Y_cV 163 rfl (pc2 := 314) rfl ok_mo_isOf lk_la_34 vi_mo_isOf ly_mo rfl (by decide) rfl (as := [.int _, .int _, .int _]) (rest := [.int _]) rfl rfl (T_mo_isOf (hM.mono hfm) w) ?_
  rintro _ m2 ⟨rfl, hm, hfc⟩
  change Y _ _ _ _ _ [.int _, .int _] _ _
  refine Y_icmp_eq 164 rfl (pc2 := 317) rfl (tgt := 1076) (by decide) (fun h314 => ?_) (fun h314 => ?_)
  · exact HN m2 _ (hc.mono (fun a _ ha => hfc a ha)) hm w
  · exact absurd rfl h314

set_option maxRecDepth 20000 in
set_option maxHeartbeats 400000 in
theorem LC_strike {G : Nat × (Nat → Int32)} {cap : Nat × Nat} (hL : G.1 ≤ 3072) {i : Nat} (hi : i + 6 ≤ G.1) {m S : Mm} (h : RC m S) (hM : RM m S) (w : WF S) (HN : ∀ m2 S2, RC m2 S2 → RM m2 S2 → WF S2 → Y G M_la_law cap 1076 [some (.ref 1000000), some (.ref 0), some (.ref 153), some (.int (nI i))] [] (LAY, m2) (qm_ LAY (fun v _ => v = some (.int (nI 1))))) : Y G M_la_law cap 319 [some (.ref 1000000), some (.ref 0), some (.ref 153), some (.int (nI i))] [] (LAY, m) (qm_ LAY (fun v _ => v = some (.int (nI 1)))) := by
  refine Y_aload_n 167 rfl (pc2 := 320) rfl rfl ?_
  refine Y_aload_n 168 rfl (pc2 := 321) rfl rfl ?_
  refine Y_iload_n 169 rfl (pc2 := 322) rfl rfl ?_
  refine Y_iconst 170 rfl (pc2 := 323) rfl (v := nI 1) (by decide) ?_
  refine Y_iadd 171 rfl (pc2 := 324) rfl ?_
  refine Y_top (nI_add _ _) ?_
  refine Y_sald 172 rfl (pc2 := 325) rfl (z := 0) (by decide) rfl (by show _ < G.1; omega) (by show G.1 < _; omega) ?_
  refine Y_aload_n 173 rfl (pc2 := 326) rfl rfl ?_
  refine Y_iload_n 174 rfl (pc2 := 327) rfl rfl ?_
  refine Y_iconst 175 rfl (pc2 := 328) rfl (v := nI 2) (by decide) ?_
  refine Y_iadd 176 rfl (pc2 := 329) rfl ?_
  refine Y_top (nI_add _ _) ?_
  refine Y_sald 177 rfl (pc2 := 330) rfl (z := 0) (by decide) rfl (by show _ < G.1; omega) (by show G.1 < _; omega) ?_
  refine Y_aload_n 178 rfl (pc2 := 331) rfl rfl ?_
  refine Y_iload_n 179 rfl (pc2 := 332) rfl rfl ?_
  refine Y_iconst 180 rfl (pc2 := 333) rfl (v := nI 3) (by decide) ?_
  refine Y_iadd 181 rfl (pc2 := 334) rfl ?_
  refine Y_top (nI_add _ _) ?_
  refine Y_sald 182 rfl (pc2 := 335) rfl (z := 0) (by decide) rfl (by show _ < G.1; omega) (by show G.1 < _; omega) ?_
  refine Y_aload_n 183 rfl (pc2 := 336) rfl rfl ?_
  refine Y_iload_n 184 rfl (pc2 := 337) rfl rfl ?_
  refine Y_iconst 185 rfl (pc2 := 338) rfl (v := nI 4) (by decide) ?_
  refine Y_iadd 186 rfl (pc2 := 339) rfl ?_
  refine Y_top (nI_add _ _) ?_
  refine Y_sald 187 rfl (pc2 := 340) rfl (z := 0) (by decide) rfl (by show _ < G.1; omega) (by show G.1 < _; omega) ?_
  refine Y_aload_n 188 rfl (pc2 := 341) rfl rfl ?_
  refine Y_iload_n 189 rfl (pc2 := 342) rfl rfl ?_
  refine Y_iconst 190 rfl (pc2 := 343) rfl (v := nI 5) (by decide) ?_
  refine Y_iadd 191 rfl (pc2 := 344) rfl ?_
  refine Y_top (nI_add _ _) ?_
  refine Y_sald 192 rfl (pc2 := 345) rfl (z := 0) (by decide) rfl (by show _ < G.1; omega) (by show G.1 < _; omega) ?_
  refine Y_cV 193 rfl (pc2 := 348) rfl ok_gh_strike lk_la_35 vi_gh_strike ly_gh rfl (by decide) rfl (as := [.int _, .int _, .int _, .int _, .int _]) (rest := []) rfl rfl (T_gh_strike h w) ?_
  rintro _ m1 ⟨rfl, hc, hfm⟩
  change Y _ _ _ _ _ [.int _] _ _
  refine Y_aload_n 194 rfl (pc2 := 349) rfl rfl ?_
  refine Y_aload_n 195 rfl (pc2 := 350) rfl rfl ?_
  refine Y_iload_n 196 rfl (pc2 := 351) rfl rfl ?_
  refine Y_iconst 197 rfl (pc2 := 352) rfl (v := nI 1) (by decide) ?_
  refine Y_iadd 198 rfl (pc2 := 353) rfl ?_
  refine Y_top (nI_add _ _) ?_
  refine Y_sald 199 rfl (pc2 := 354) rfl (z := 0) (by decide) rfl (by show _ < G.1; omega) (by show G.1 < _; omega) ?_
  refine Y_aload_n 200 rfl (pc2 := 355) rfl rfl ?_
  refine Y_iload_n 201 rfl (pc2 := 356) rfl rfl ?_
  refine Y_iconst 202 rfl (pc2 := 357) rfl (v := nI 2) (by decide) ?_
  refine Y_iadd 203 rfl (pc2 := 358) rfl ?_
  refine Y_top (nI_add _ _) ?_
  refine Y_sald 204 rfl (pc2 := 359) rfl (z := 0) (by decide) rfl (by show _ < G.1; omega) (by show G.1 < _; omega) ?_
  refine Y_aload_n 205 rfl (pc2 := 360) rfl rfl ?_
  refine Y_iload_n 206 rfl (pc2 := 361) rfl rfl ?_
  refine Y_iconst 207 rfl (pc2 := 362) rfl (v := nI 3) (by decide) ?_
  refine Y_iadd 208 rfl (pc2 := 363) rfl ?_
  refine Y_top (nI_add _ _) ?_
  refine Y_sald 209 rfl (pc2 := 364) rfl (z := 0) (by decide) rfl (by show _ < G.1; omega) (by show G.1 < _; omega) ?_
  refine Y_aload_n 210 rfl (pc2 := 365) rfl rfl ?_
  refine Y_iload_n 211 rfl (pc2 := 366) rfl rfl ?_
  refine Y_iconst 212 rfl (pc2 := 367) rfl (v := nI 4) (by decide) ?_
  refine Y_iadd 213 rfl (pc2 := 368) rfl ?_
  refine Y_top (nI_add _ _) ?_
  refine Y_sald 214 rfl (pc2 := 369) rfl (z := 0) (by decide) rfl (by show _ < G.1; omega) (by show G.1 < _; omega) ?_
  refine Y_aload_n 215 rfl (pc2 := 370) rfl rfl ?_
  refine Y_iload_n 216 rfl (pc2 := 371) rfl rfl ?_
  refine Y_iconst 217 rfl (pc2 := 372) rfl (v := nI 5) (by decide) ?_
  refine Y_iadd 218 rfl (pc2 := 373) rfl ?_
  refine Y_top (nI_add _ _) ?_
  refine Y_sald 219 rfl (pc2 := 374) rfl (z := 0) (by decide) rfl (by show _ < G.1; omega) (by show G.1 < _; omega) ?_
  refine Y_cV 220 rfl (pc2 := 377) rfl ok_mo_strike lk_la_39 vi_mo_strike ly_mo rfl (by decide) rfl (as := [.int _, .int _, .int _, .int _, .int _]) (rest := [.int _]) rfl rfl (T_mo_strike (hM.mono hfm) w) ?_
  rintro _ m2 ⟨rfl, hm, hfc⟩
  change Y _ _ _ _ _ [.int _, .int _] _ _
  refine Y_icmp_eq 221 rfl (pc2 := 380) rfl (tgt := 1076) (by decide) (fun h377 => ?_) (fun h377 => ?_)
  · exact HN m2 _ (hc.mono (fun a _ ha => hfc a ha)) hm (WF_st_strike w)
  · exact absurd rfl h377

set_option maxRecDepth 20000 in
set_option maxHeartbeats 400000 in
theorem LC_lay {G : Nat × (Nat → Int32)} {cap : Nat × Nat} (hL : G.1 ≤ 3072) {i : Nat} (hi : i + 6 ≤ G.1) {m S : Mm} (h : RC m S) (hM : RM m S) (w : WF S) (HN : ∀ m2 S2, RC m2 S2 → RM m2 S2 → WF S2 → Y G M_la_law cap 1076 [some (.ref 1000000), some (.ref 0), some (.ref 153), some (.int (nI i))] [] (LAY, m2) (qm_ LAY (fun v _ => v = some (.int (nI 1))))) : Y G M_la_law cap 382 [some (.ref 1000000), some (.ref 0), some (.ref 153), some (.int (nI i))] [] (LAY, m) (qm_ LAY (fun v _ => v = some (.int (nI 1)))) := by
  refine Y_aload_n 224 rfl (pc2 := 383) rfl rfl ?_
  refine Y_aload_n 225 rfl (pc2 := 384) rfl rfl ?_
  refine Y_iload_n 226 rfl (pc2 := 385) rfl rfl ?_
  refine Y_iconst 227 rfl (pc2 := 386) rfl (v := nI 1) (by decide) ?_
  refine Y_iadd 228 rfl (pc2 := 387) rfl ?_
  refine Y_top (nI_add _ _) ?_
  refine Y_sald 229 rfl (pc2 := 388) rfl (z := 0) (by decide) rfl (by show _ < G.1; omega) (by show G.1 < _; omega) ?_
  refine Y_aload_n 230 rfl (pc2 := 389) rfl rfl ?_
  refine Y_iload_n 231 rfl (pc2 := 390) rfl rfl ?_
  refine Y_iconst 232 rfl (pc2 := 391) rfl (v := nI 2) (by decide) ?_
  refine Y_iadd 233 rfl (pc2 := 392) rfl ?_
  refine Y_top (nI_add _ _) ?_
  refine Y_sald 234 rfl (pc2 := 393) rfl (z := 0) (by decide) rfl (by show _ < G.1; omega) (by show G.1 < _; omega) ?_
  refine Y_aload_n 235 rfl (pc2 := 394) rfl rfl ?_
  refine Y_iload_n 236 rfl (pc2 := 395) rfl rfl ?_
  refine Y_iconst 237 rfl (pc2 := 396) rfl (v := nI 3) (by decide) ?_
  refine Y_iadd 238 rfl (pc2 := 397) rfl ?_
  refine Y_top (nI_add _ _) ?_
  refine Y_sald 239 rfl (pc2 := 398) rfl (z := 0) (by decide) rfl (by show _ < G.1; omega) (by show G.1 < _; omega) ?_
  refine Y_aload_n 240 rfl (pc2 := 399) rfl rfl ?_
  refine Y_iload_n 241 rfl (pc2 := 400) rfl rfl ?_
  refine Y_iconst 242 rfl (pc2 := 401) rfl (v := nI 4) (by decide) ?_
  refine Y_iadd 243 rfl (pc2 := 402) rfl ?_
  refine Y_top (nI_add _ _) ?_
  refine Y_sald 244 rfl (pc2 := 403) rfl (z := 0) (by decide) rfl (by show _ < G.1; omega) (by show G.1 < _; omega) ?_
  refine Y_cV 245 rfl (pc2 := 406) rfl ok_gh_lay lk_la_40 vi_gh_lay ly_gh rfl (by decide) rfl (as := [.int _, .int _, .int _, .int _]) (rest := []) rfl rfl (T_gh_lay h w) ?_
  rintro _ m1 ⟨rfl, hc, hfm⟩
  change Y _ _ _ _ _ [.int _] _ _
  refine Y_aload_n 246 rfl (pc2 := 407) rfl rfl ?_
  refine Y_aload_n 247 rfl (pc2 := 408) rfl rfl ?_
  refine Y_iload_n 248 rfl (pc2 := 409) rfl rfl ?_
  refine Y_iconst 249 rfl (pc2 := 410) rfl (v := nI 1) (by decide) ?_
  refine Y_iadd 250 rfl (pc2 := 411) rfl ?_
  refine Y_top (nI_add _ _) ?_
  refine Y_sald 251 rfl (pc2 := 412) rfl (z := 0) (by decide) rfl (by show _ < G.1; omega) (by show G.1 < _; omega) ?_
  refine Y_aload_n 252 rfl (pc2 := 413) rfl rfl ?_
  refine Y_iload_n 253 rfl (pc2 := 414) rfl rfl ?_
  refine Y_iconst 254 rfl (pc2 := 415) rfl (v := nI 2) (by decide) ?_
  refine Y_iadd 255 rfl (pc2 := 416) rfl ?_
  refine Y_top (nI_add _ _) ?_
  refine Y_sald 256 rfl (pc2 := 417) rfl (z := 0) (by decide) rfl (by show _ < G.1; omega) (by show G.1 < _; omega) ?_
  refine Y_aload_n 257 rfl (pc2 := 418) rfl rfl ?_
  refine Y_iload_n 258 rfl (pc2 := 419) rfl rfl ?_
  refine Y_iconst 259 rfl (pc2 := 420) rfl (v := nI 3) (by decide) ?_
  refine Y_iadd 260 rfl (pc2 := 421) rfl ?_
  refine Y_top (nI_add _ _) ?_
  refine Y_sald 261 rfl (pc2 := 422) rfl (z := 0) (by decide) rfl (by show _ < G.1; omega) (by show G.1 < _; omega) ?_
  refine Y_aload_n 262 rfl (pc2 := 423) rfl rfl ?_
  refine Y_iload_n 263 rfl (pc2 := 424) rfl rfl ?_
  refine Y_iconst 264 rfl (pc2 := 425) rfl (v := nI 4) (by decide) ?_
  refine Y_iadd 265 rfl (pc2 := 426) rfl ?_
  refine Y_top (nI_add _ _) ?_
  refine Y_sald 266 rfl (pc2 := 427) rfl (z := 0) (by decide) rfl (by show _ < G.1; omega) (by show G.1 < _; omega) ?_
  refine Y_cV 267 rfl (pc2 := 430) rfl ok_mo_lay lk_la_44 vi_mo_lay ly_mo rfl (by decide) rfl (as := [.int _, .int _, .int _, .int _]) (rest := [.int _]) rfl rfl (T_mo_lay (hM.mono hfm) w) ?_
  rintro _ m2 ⟨rfl, hm, hfc⟩
  change Y _ _ _ _ _ [.int _, .int _] _ _
  refine Y_icmp_eq 268 rfl (pc2 := 433) rfl (tgt := 1076) (by decide) (fun h430 => ?_) (fun h430 => ?_)
  · exact HN m2 _ (hc.mono (fun a _ ha => hfc a ha)) hm (WF_st_lay w)
  · exact absurd rfl h430

set_option maxRecDepth 20000 in
set_option maxHeartbeats 400000 in
theorem LC_together {G : Nat × (Nat → Int32)} {cap : Nat × Nat} (hL : G.1 ≤ 3072) {i : Nat} (hi : i + 6 ≤ G.1) {m S : Mm} (h : RC m S) (hM : RM m S) (w : WF S) (HN : ∀ m2 S2, RC m2 S2 → RM m2 S2 → WF S2 → Y G M_la_law cap 1076 [some (.ref 1000000), some (.ref 0), some (.ref 153), some (.int (nI i))] [] (LAY, m2) (qm_ LAY (fun v _ => v = some (.int (nI 1))))) : Y G M_la_law cap 435 [some (.ref 1000000), some (.ref 0), some (.ref 153), some (.int (nI i))] [] (LAY, m) (qm_ LAY (fun v _ => v = some (.int (nI 1)))) := by
  refine Y_aload_n 271 rfl (pc2 := 436) rfl rfl ?_
  refine Y_aload_n 272 rfl (pc2 := 437) rfl rfl ?_
  refine Y_iload_n 273 rfl (pc2 := 438) rfl rfl ?_
  refine Y_iconst 274 rfl (pc2 := 439) rfl (v := nI 1) (by decide) ?_
  refine Y_iadd 275 rfl (pc2 := 440) rfl ?_
  refine Y_top (nI_add _ _) ?_
  refine Y_sald 276 rfl (pc2 := 441) rfl (z := 0) (by decide) rfl (by show _ < G.1; omega) (by show G.1 < _; omega) ?_
  refine Y_aload_n 277 rfl (pc2 := 442) rfl rfl ?_
  refine Y_iload_n 278 rfl (pc2 := 443) rfl rfl ?_
  refine Y_iconst 279 rfl (pc2 := 444) rfl (v := nI 2) (by decide) ?_
  refine Y_iadd 280 rfl (pc2 := 445) rfl ?_
  refine Y_top (nI_add _ _) ?_
  refine Y_sald 281 rfl (pc2 := 446) rfl (z := 0) (by decide) rfl (by show _ < G.1; omega) (by show G.1 < _; omega) ?_
  refine Y_aload_n 282 rfl (pc2 := 447) rfl rfl ?_
  refine Y_iload_n 283 rfl (pc2 := 448) rfl rfl ?_
  refine Y_iconst 284 rfl (pc2 := 449) rfl (v := nI 3) (by decide) ?_
  refine Y_iadd 285 rfl (pc2 := 450) rfl ?_
  refine Y_top (nI_add _ _) ?_
  refine Y_sald 286 rfl (pc2 := 451) rfl (z := 0) (by decide) rfl (by show _ < G.1; omega) (by show G.1 < _; omega) ?_
  refine Y_aload_n 287 rfl (pc2 := 452) rfl rfl ?_
  refine Y_iload_n 288 rfl (pc2 := 453) rfl rfl ?_
  refine Y_iconst 289 rfl (pc2 := 454) rfl (v := nI 4) (by decide) ?_
  refine Y_iadd 290 rfl (pc2 := 455) rfl ?_
  refine Y_top (nI_add _ _) ?_
  refine Y_sald 291 rfl (pc2 := 456) rfl (z := 0) (by decide) rfl (by show _ < G.1; omega) (by show G.1 < _; omega) ?_
  refine Y_cV 292 rfl (pc2 := 459) rfl ok_gh_together lk_la_45 vi_gh_together ly_gh rfl (by decide) rfl (as := [.int _, .int _, .int _, .int _]) (rest := []) rfl rfl (T_gh_together h w) ?_
  rintro _ m1 ⟨rfl, hc, hfm⟩
  change Y _ _ _ _ _ [.int _] _ _
  refine Y_aload_n 293 rfl (pc2 := 460) rfl rfl ?_
  refine Y_aload_n 294 rfl (pc2 := 461) rfl rfl ?_
  refine Y_iload_n 295 rfl (pc2 := 462) rfl rfl ?_
  refine Y_iconst 296 rfl (pc2 := 463) rfl (v := nI 1) (by decide) ?_
  refine Y_iadd 297 rfl (pc2 := 464) rfl ?_
  refine Y_top (nI_add _ _) ?_
  refine Y_sald 298 rfl (pc2 := 465) rfl (z := 0) (by decide) rfl (by show _ < G.1; omega) (by show G.1 < _; omega) ?_
  refine Y_aload_n 299 rfl (pc2 := 466) rfl rfl ?_
  refine Y_iload_n 300 rfl (pc2 := 467) rfl rfl ?_
  refine Y_iconst 301 rfl (pc2 := 468) rfl (v := nI 2) (by decide) ?_
  refine Y_iadd 302 rfl (pc2 := 469) rfl ?_
  refine Y_top (nI_add _ _) ?_
  refine Y_sald 303 rfl (pc2 := 470) rfl (z := 0) (by decide) rfl (by show _ < G.1; omega) (by show G.1 < _; omega) ?_
  refine Y_aload_n 304 rfl (pc2 := 471) rfl rfl ?_
  refine Y_iload_n 305 rfl (pc2 := 472) rfl rfl ?_
  refine Y_iconst 306 rfl (pc2 := 473) rfl (v := nI 3) (by decide) ?_
  refine Y_iadd 307 rfl (pc2 := 474) rfl ?_
  refine Y_top (nI_add _ _) ?_
  refine Y_sald 308 rfl (pc2 := 475) rfl (z := 0) (by decide) rfl (by show _ < G.1; omega) (by show G.1 < _; omega) ?_
  refine Y_aload_n 309 rfl (pc2 := 476) rfl rfl ?_
  refine Y_iload_n 310 rfl (pc2 := 477) rfl rfl ?_
  refine Y_iconst 311 rfl (pc2 := 478) rfl (v := nI 4) (by decide) ?_
  refine Y_iadd 312 rfl (pc2 := 479) rfl ?_
  refine Y_top (nI_add _ _) ?_
  refine Y_sald 313 rfl (pc2 := 480) rfl (z := 0) (by decide) rfl (by show _ < G.1; omega) (by show G.1 < _; omega) ?_
  refine Y_cV 314 rfl (pc2 := 483) rfl ok_mo_together lk_la_48 vi_mo_together ly_mo rfl (by decide) rfl (as := [.int _, .int _, .int _, .int _]) (rest := [.int _]) rfl rfl (T_mo_together (hM.mono hfm) w) ?_
  rintro _ m2 ⟨rfl, hm, hfc⟩
  change Y _ _ _ _ _ [.int _, .int _] _ _
  refine Y_icmp_eq 315 rfl (pc2 := 486) rfl (tgt := 1076) (by decide) (fun h483 => ?_) (fun h483 => ?_)
  · exact HN m2 _ (hc.mono (fun a _ ha => hfc a ha)) hm (WF_st_tog w)
  · exact absurd rfl h483

set_option maxRecDepth 20000 in
set_option maxHeartbeats 400000 in
theorem LC_wrong {G : Nat × (Nat → Int32)} {cap : Nat × Nat} (hL : G.1 ≤ 3072) {i : Nat} (hi : i + 6 ≤ G.1) {m S : Mm} (h : RC m S) (hM : RM m S) (w : WF S) (HN : ∀ m2 S2, RC m2 S2 → RM m2 S2 → WF S2 → Y G M_la_law cap 1076 [some (.ref 1000000), some (.ref 0), some (.ref 153), some (.int (nI i))] [] (LAY, m2) (qm_ LAY (fun v _ => v = some (.int (nI 1))))) : Y G M_la_law cap 488 [some (.ref 1000000), some (.ref 0), some (.ref 153), some (.int (nI i))] [] (LAY, m) (qm_ LAY (fun v _ => v = some (.int (nI 1)))) := by
  refine Y_aload_n 318 rfl (pc2 := 489) rfl rfl ?_
  refine Y_aload_n 319 rfl (pc2 := 490) rfl rfl ?_
  refine Y_iload_n 320 rfl (pc2 := 491) rfl rfl ?_
  refine Y_iconst 321 rfl (pc2 := 492) rfl (v := nI 1) (by decide) ?_
  refine Y_iadd 322 rfl (pc2 := 493) rfl ?_
  refine Y_top (nI_add _ _) ?_
  refine Y_sald 323 rfl (pc2 := 494) rfl (z := 0) (by decide) rfl (by show _ < G.1; omega) (by show G.1 < _; omega) ?_
  refine Y_aload_n 324 rfl (pc2 := 495) rfl rfl ?_
  refine Y_iload_n 325 rfl (pc2 := 496) rfl rfl ?_
  refine Y_iconst 326 rfl (pc2 := 497) rfl (v := nI 2) (by decide) ?_
  refine Y_iadd 327 rfl (pc2 := 498) rfl ?_
  refine Y_top (nI_add _ _) ?_
  refine Y_sald 328 rfl (pc2 := 499) rfl (z := 0) (by decide) rfl (by show _ < G.1; omega) (by show G.1 < _; omega) ?_
  refine Y_cV 329 rfl (pc2 := 502) rfl ok_gh_wrong lk_la_49 vi_gh_wrong ly_gh rfl (by decide) rfl (as := [.int _, .int _]) (rest := []) rfl rfl (T_gh_wrong h w) ?_
  rintro _ m1 ⟨rfl, hc, hfm⟩
  change Y _ _ _ _ _ [.int _] _ _
  refine Y_aload_n 330 rfl (pc2 := 503) rfl rfl ?_
  refine Y_aload_n 331 rfl (pc2 := 504) rfl rfl ?_
  refine Y_iload_n 332 rfl (pc2 := 505) rfl rfl ?_
  refine Y_iconst 333 rfl (pc2 := 506) rfl (v := nI 1) (by decide) ?_
  refine Y_iadd 334 rfl (pc2 := 507) rfl ?_
  refine Y_top (nI_add _ _) ?_
  refine Y_sald 335 rfl (pc2 := 508) rfl (z := 0) (by decide) rfl (by show _ < G.1; omega) (by show G.1 < _; omega) ?_
  refine Y_aload_n 336 rfl (pc2 := 509) rfl rfl ?_
  refine Y_iload_n 337 rfl (pc2 := 510) rfl rfl ?_
  refine Y_iconst 338 rfl (pc2 := 511) rfl (v := nI 2) (by decide) ?_
  refine Y_iadd 339 rfl (pc2 := 512) rfl ?_
  refine Y_top (nI_add _ _) ?_
  refine Y_sald 340 rfl (pc2 := 513) rfl (z := 0) (by decide) rfl (by show _ < G.1; omega) (by show G.1 < _; omega) ?_
  refine Y_cV 341 rfl (pc2 := 516) rfl ok_mo_wrong lk_la_53 vi_mo_wrong ly_mo rfl (by decide) rfl (as := [.int _, .int _]) (rest := [.int _]) rfl rfl (T_mo_wrong (hM.mono hfm) w) ?_
  rintro _ m2 ⟨rfl, hm, hfc⟩
  change Y _ _ _ _ _ [.int _, .int _] _ _
  refine Y_icmp_eq 342 rfl (pc2 := 519) rfl (tgt := 1076) (by decide) (fun h516 => ?_) (fun h516 => ?_)
  · exact HN m2 _ (hc.mono (fun a _ ha => hfc a ha)) hm w
  · exact absurd rfl h516

set_option maxRecDepth 20000 in
set_option maxHeartbeats 400000 in
theorem LC_use {G : Nat × (Nat → Int32)} {cap : Nat × Nat} (hL : G.1 ≤ 3072) {i : Nat} (hi : i + 6 ≤ G.1) {m S : Mm} (h : RC m S) (hM : RM m S) (w : WF S) (HN : ∀ m2 S2, RC m2 S2 → RM m2 S2 → WF S2 → Y G M_la_law cap 1076 [some (.ref 1000000), some (.ref 0), some (.ref 153), some (.int (nI i))] [] (LAY, m2) (qm_ LAY (fun v _ => v = some (.int (nI 1))))) : Y G M_la_law cap 521 [some (.ref 1000000), some (.ref 0), some (.ref 153), some (.int (nI i))] [] (LAY, m) (qm_ LAY (fun v _ => v = some (.int (nI 1)))) := by
  refine Y_aload_n 345 rfl (pc2 := 522) rfl rfl ?_
  refine Y_aload_n 346 rfl (pc2 := 523) rfl rfl ?_
  refine Y_iload_n 347 rfl (pc2 := 524) rfl rfl ?_
  refine Y_iconst 348 rfl (pc2 := 525) rfl (v := nI 1) (by decide) ?_
  refine Y_iadd 349 rfl (pc2 := 526) rfl ?_
  refine Y_top (nI_add _ _) ?_
  refine Y_sald 350 rfl (pc2 := 527) rfl (z := 0) (by decide) rfl (by show _ < G.1; omega) (by show G.1 < _; omega) ?_
  refine Y_aload_n 351 rfl (pc2 := 528) rfl rfl ?_
  refine Y_iload_n 352 rfl (pc2 := 529) rfl rfl ?_
  refine Y_iconst 353 rfl (pc2 := 530) rfl (v := nI 2) (by decide) ?_
  refine Y_iadd 354 rfl (pc2 := 531) rfl ?_
  refine Y_top (nI_add _ _) ?_
  refine Y_sald 355 rfl (pc2 := 532) rfl (z := 0) (by decide) rfl (by show _ < G.1; omega) (by show G.1 < _; omega) ?_
  refine Y_aload_n 356 rfl (pc2 := 533) rfl rfl ?_
  refine Y_iload_n 357 rfl (pc2 := 534) rfl rfl ?_
  refine Y_iconst 358 rfl (pc2 := 535) rfl (v := nI 3) (by decide) ?_
  refine Y_iadd 359 rfl (pc2 := 536) rfl ?_
  refine Y_top (nI_add _ _) ?_
  refine Y_sald 360 rfl (pc2 := 537) rfl (z := 0) (by decide) rfl (by show _ < G.1; omega) (by show G.1 < _; omega) ?_
  refine Y_cV 361 rfl (pc2 := 540) rfl ok_gh_use lk_la_54 vi_gh_use ly_gh rfl (by decide) rfl (as := [.int _, .int _, .int _]) (rest := []) rfl rfl (T_gh_use h w) ?_
  rintro _ m1 ⟨rfl, hc, hfm⟩
  change Y _ _ _ _ _ [.int _] _ _
  refine Y_aload_n 362 rfl (pc2 := 541) rfl rfl ?_
  refine Y_aload_n 363 rfl (pc2 := 542) rfl rfl ?_
  refine Y_iload_n 364 rfl (pc2 := 543) rfl rfl ?_
  refine Y_iconst 365 rfl (pc2 := 544) rfl (v := nI 1) (by decide) ?_
  refine Y_iadd 366 rfl (pc2 := 545) rfl ?_
  refine Y_top (nI_add _ _) ?_
  refine Y_sald 367 rfl (pc2 := 546) rfl (z := 0) (by decide) rfl (by show _ < G.1; omega) (by show G.1 < _; omega) ?_
  refine Y_aload_n 368 rfl (pc2 := 547) rfl rfl ?_
  refine Y_iload_n 369 rfl (pc2 := 548) rfl rfl ?_
  refine Y_iconst 370 rfl (pc2 := 549) rfl (v := nI 2) (by decide) ?_
  refine Y_iadd 371 rfl (pc2 := 550) rfl ?_
  refine Y_top (nI_add _ _) ?_
  refine Y_sald 372 rfl (pc2 := 551) rfl (z := 0) (by decide) rfl (by show _ < G.1; omega) (by show G.1 < _; omega) ?_
  refine Y_aload_n 373 rfl (pc2 := 552) rfl rfl ?_
  refine Y_iload_n 374 rfl (pc2 := 553) rfl rfl ?_
  refine Y_iconst 375 rfl (pc2 := 554) rfl (v := nI 3) (by decide) ?_
  refine Y_iadd 376 rfl (pc2 := 555) rfl ?_
  refine Y_top (nI_add _ _) ?_
  refine Y_sald 377 rfl (pc2 := 556) rfl (z := 0) (by decide) rfl (by show _ < G.1; omega) (by show G.1 < _; omega) ?_
  refine Y_cV 378 rfl (pc2 := 559) rfl ok_mo_use lk_la_57 vi_mo_use ly_mo rfl (by decide) rfl (as := [.int _, .int _, .int _]) (rest := [.int _]) rfl rfl (T_mo_use (hM.mono hfm) w) ?_
  rintro _ m2 ⟨rfl, hm, hfc⟩
  change Y _ _ _ _ _ [.int _, .int _] _ _
  refine Y_icmp_eq 379 rfl (pc2 := 562) rfl (tgt := 1076) (by decide) (fun h559 => ?_) (fun h559 => ?_)
  · exact HN m2 _ (hc.mono (fun a _ ha => hfc a ha)) hm (WF_st_use w)
  · exact absurd rfl h559

set_option maxRecDepth 20000 in
set_option maxHeartbeats 400000 in
theorem LC_part {G : Nat × (Nat → Int32)} {cap : Nat × Nat} (hL : G.1 ≤ 3072) {i : Nat} (hi : i + 6 ≤ G.1) {m S : Mm} (h : RC m S) (hM : RM m S) (w : WF S) (HN : ∀ m2 S2, RC m2 S2 → RM m2 S2 → WF S2 → Y G M_la_law cap 1076 [some (.ref 1000000), some (.ref 0), some (.ref 153), some (.int (nI i))] [] (LAY, m2) (qm_ LAY (fun v _ => v = some (.int (nI 1))))) : Y G M_la_law cap 564 [some (.ref 1000000), some (.ref 0), some (.ref 153), some (.int (nI i))] [] (LAY, m) (qm_ LAY (fun v _ => v = some (.int (nI 1)))) := by
  refine Y_aload_n 382 rfl (pc2 := 565) rfl rfl ?_
  refine Y_aload_n 383 rfl (pc2 := 566) rfl rfl ?_
  refine Y_iload_n 384 rfl (pc2 := 567) rfl rfl ?_
  refine Y_iconst 385 rfl (pc2 := 568) rfl (v := nI 1) (by decide) ?_
  refine Y_iadd 386 rfl (pc2 := 569) rfl ?_
  refine Y_top (nI_add _ _) ?_
  refine Y_sald 387 rfl (pc2 := 570) rfl (z := 0) (by decide) rfl (by show _ < G.1; omega) (by show G.1 < _; omega) ?_
  refine Y_aload_n 388 rfl (pc2 := 571) rfl rfl ?_
  refine Y_iload_n 389 rfl (pc2 := 572) rfl rfl ?_
  refine Y_iconst 390 rfl (pc2 := 573) rfl (v := nI 2) (by decide) ?_
  refine Y_iadd 391 rfl (pc2 := 574) rfl ?_
  refine Y_top (nI_add _ _) ?_
  refine Y_sald 392 rfl (pc2 := 575) rfl (z := 0) (by decide) rfl (by show _ < G.1; omega) (by show G.1 < _; omega) ?_
  refine Y_aload_n 393 rfl (pc2 := 576) rfl rfl ?_
  refine Y_iload_n 394 rfl (pc2 := 577) rfl rfl ?_
  refine Y_iconst 395 rfl (pc2 := 578) rfl (v := nI 3) (by decide) ?_
  refine Y_iadd 396 rfl (pc2 := 579) rfl ?_
  refine Y_top (nI_add _ _) ?_
  refine Y_sald 397 rfl (pc2 := 580) rfl (z := 0) (by decide) rfl (by show _ < G.1; omega) (by show G.1 < _; omega) ?_
  refine Y_cV 398 rfl (pc2 := 583) rfl ok_gh_part lk_la_58 vi_gh_part ly_gh rfl (by decide) rfl (as := [.int _, .int _, .int _]) (rest := []) rfl rfl (T_gh_part h w) ?_
  rintro _ m1 ⟨rfl, hc, hfm⟩
  change Y _ _ _ _ _ [.int _] _ _
  refine Y_aload_n 399 rfl (pc2 := 584) rfl rfl ?_
  refine Y_aload_n 400 rfl (pc2 := 585) rfl rfl ?_
  refine Y_iload_n 401 rfl (pc2 := 586) rfl rfl ?_
  refine Y_iconst 402 rfl (pc2 := 587) rfl (v := nI 1) (by decide) ?_
  refine Y_iadd 403 rfl (pc2 := 588) rfl ?_
  refine Y_top (nI_add _ _) ?_
  refine Y_sald 404 rfl (pc2 := 589) rfl (z := 0) (by decide) rfl (by show _ < G.1; omega) (by show G.1 < _; omega) ?_
  refine Y_aload_n 405 rfl (pc2 := 590) rfl rfl ?_
  refine Y_iload_n 406 rfl (pc2 := 591) rfl rfl ?_
  refine Y_iconst 407 rfl (pc2 := 592) rfl (v := nI 2) (by decide) ?_
  refine Y_iadd 408 rfl (pc2 := 593) rfl ?_
  refine Y_top (nI_add _ _) ?_
  refine Y_sald 409 rfl (pc2 := 594) rfl (z := 0) (by decide) rfl (by show _ < G.1; omega) (by show G.1 < _; omega) ?_
  refine Y_aload_n 410 rfl (pc2 := 595) rfl rfl ?_
  refine Y_iload_n 411 rfl (pc2 := 596) rfl rfl ?_
  refine Y_iconst 412 rfl (pc2 := 597) rfl (v := nI 3) (by decide) ?_
  refine Y_iadd 413 rfl (pc2 := 598) rfl ?_
  refine Y_top (nI_add _ _) ?_
  refine Y_sald 414 rfl (pc2 := 599) rfl (z := 0) (by decide) rfl (by show _ < G.1; omega) (by show G.1 < _; omega) ?_
  refine Y_cV 415 rfl (pc2 := 602) rfl ok_mo_part lk_la_61 vi_mo_part ly_mo rfl (by decide) rfl (as := [.int _, .int _, .int _]) (rest := [.int _]) rfl rfl (T_mo_part (hM.mono hfm) w) ?_
  rintro _ m2 ⟨rfl, hm, hfc⟩
  change Y _ _ _ _ _ [.int _, .int _] _ _
  refine Y_icmp_eq 416 rfl (pc2 := 605) rfl (tgt := 1076) (by decide) (fun h602 => ?_) (fun h602 => ?_)
  · exact HN m2 _ (hc.mono (fun a _ ha => hfc a ha)) hm (WF_st_part w)
  · exact absurd rfl h602

set_option maxRecDepth 20000 in
set_option maxHeartbeats 400000 in
theorem LC_signal {G : Nat × (Nat → Int32)} {cap : Nat × Nat} (hL : G.1 ≤ 3072) {i : Nat} (hi : i + 6 ≤ G.1) {m S : Mm} (h : RC m S) (hM : RM m S) (w : WF S) (HN : ∀ m2 S2, RC m2 S2 → RM m2 S2 → WF S2 → Y G M_la_law cap 1076 [some (.ref 1000000), some (.ref 0), some (.ref 153), some (.int (nI i))] [] (LAY, m2) (qm_ LAY (fun v _ => v = some (.int (nI 1))))) : Y G M_la_law cap 607 [some (.ref 1000000), some (.ref 0), some (.ref 153), some (.int (nI i))] [] (LAY, m) (qm_ LAY (fun v _ => v = some (.int (nI 1)))) := by
  refine Y_aload_n 419 rfl (pc2 := 608) rfl rfl ?_
  refine Y_aload_n 420 rfl (pc2 := 609) rfl rfl ?_
  refine Y_iload_n 421 rfl (pc2 := 610) rfl rfl ?_
  refine Y_iconst 422 rfl (pc2 := 611) rfl (v := nI 1) (by decide) ?_
  refine Y_iadd 423 rfl (pc2 := 612) rfl ?_
  refine Y_top (nI_add _ _) ?_
  refine Y_sald 424 rfl (pc2 := 613) rfl (z := 0) (by decide) rfl (by show _ < G.1; omega) (by show G.1 < _; omega) ?_
  refine Y_aload_n 425 rfl (pc2 := 614) rfl rfl ?_
  refine Y_iload_n 426 rfl (pc2 := 615) rfl rfl ?_
  refine Y_iconst 427 rfl (pc2 := 616) rfl (v := nI 2) (by decide) ?_
  refine Y_iadd 428 rfl (pc2 := 617) rfl ?_
  refine Y_top (nI_add _ _) ?_
  refine Y_sald 429 rfl (pc2 := 618) rfl (z := 0) (by decide) rfl (by show _ < G.1; omega) (by show G.1 < _; omega) ?_
  refine Y_cV 430 rfl (pc2 := 621) rfl ok_gh_signal lk_la_62 vi_gh_signal ly_gh rfl (by decide) rfl (as := [.int _, .int _]) (rest := []) rfl rfl (T_gh_signal h w) ?_
  rintro _ m1 ⟨rfl, hc, hfm⟩
  change Y _ _ _ _ _ [.int _] _ _
  refine Y_aload_n 431 rfl (pc2 := 622) rfl rfl ?_
  refine Y_aload_n 432 rfl (pc2 := 623) rfl rfl ?_
  refine Y_iload_n 433 rfl (pc2 := 624) rfl rfl ?_
  refine Y_iconst 434 rfl (pc2 := 625) rfl (v := nI 1) (by decide) ?_
  refine Y_iadd 435 rfl (pc2 := 626) rfl ?_
  refine Y_top (nI_add _ _) ?_
  refine Y_sald 436 rfl (pc2 := 627) rfl (z := 0) (by decide) rfl (by show _ < G.1; omega) (by show G.1 < _; omega) ?_
  refine Y_aload_n 437 rfl (pc2 := 628) rfl rfl ?_
  refine Y_iload_n 438 rfl (pc2 := 629) rfl rfl ?_
  refine Y_iconst 439 rfl (pc2 := 630) rfl (v := nI 2) (by decide) ?_
  refine Y_iadd 440 rfl (pc2 := 631) rfl ?_
  refine Y_top (nI_add _ _) ?_
  refine Y_sald 441 rfl (pc2 := 632) rfl (z := 0) (by decide) rfl (by show _ < G.1; omega) (by show G.1 < _; omega) ?_
  refine Y_cV 442 rfl (pc2 := 635) rfl ok_mo_signal lk_la_65 vi_mo_signal ly_mo rfl (by decide) rfl (as := [.int _, .int _]) (rest := [.int _]) rfl rfl (T_mo_signal (hM.mono hfm) w) ?_
  rintro _ m2 ⟨rfl, hm, hfc⟩
  change Y _ _ _ _ _ [.int _, .int _] _ _
  refine Y_icmp_eq 443 rfl (pc2 := 638) rfl (tgt := 1076) (by decide) (fun h635 => ?_) (fun h635 => ?_)
  · exact HN m2 _ (hc.mono (fun a _ ha => hfc a ha)) hm (WF_st_signal w)
  · exact absurd rfl h635

set_option maxRecDepth 20000 in
set_option maxHeartbeats 400000 in
theorem LC_drop {G : Nat × (Nat → Int32)} {cap : Nat × Nat} (hL : G.1 ≤ 3072) {i : Nat} (hi : i + 6 ≤ G.1) {m S : Mm} (h : RC m S) (hM : RM m S) (w : WF S) (HN : ∀ m2 S2, RC m2 S2 → RM m2 S2 → WF S2 → Y G M_la_law cap 1076 [some (.ref 1000000), some (.ref 0), some (.ref 153), some (.int (nI i))] [] (LAY, m2) (qm_ LAY (fun v _ => v = some (.int (nI 1))))) : Y G M_la_law cap 640 [some (.ref 1000000), some (.ref 0), some (.ref 153), some (.int (nI i))] [] (LAY, m) (qm_ LAY (fun v _ => v = some (.int (nI 1)))) := by
  refine Y_aload_n 446 rfl (pc2 := 641) rfl rfl ?_
  refine Y_cV 447 rfl (pc2 := 644) rfl ok_gh_drop lk_la_66 vi_gh_drop ly_gh rfl (by decide) rfl (as := []) (rest := []) rfl rfl (T_gh_drop h w) ?_
  rintro _ m1 ⟨rfl, hc, hfm⟩
  change Y _ _ _ _ _ [.int _] _ _
  refine Y_aload_n 448 rfl (pc2 := 645) rfl rfl ?_
  refine Y_cV 449 rfl (pc2 := 648) rfl ok_mo_drop lk_la_70 vi_mo_drop ly_mo rfl (by decide) rfl (as := []) (rest := [.int _]) rfl rfl (T_mo_drop (hM.mono hfm) w) ?_
  rintro _ m2 ⟨rfl, hm, hfc⟩
  change Y _ _ _ _ _ [.int _, .int _] _ _
  refine Y_icmp_eq 450 rfl (pc2 := 651) rfl (tgt := 1076) (by decide) (fun h648 => ?_) (fun h648 => ?_)
  · exact HN m2 _ (hc.mono (fun a _ ha => hfc a ha)) hm (WF_drop w)
  · exact absurd rfl h648

set_option maxRecDepth 20000 in
set_option maxHeartbeats 400000 in
theorem LC_round {G : Nat × (Nat → Int32)} {cap : Nat × Nat} (hL : G.1 ≤ 3072) {i : Nat} (hi : i + 6 ≤ G.1) {m S : Mm} (h : RC m S) (hM : RM m S) (w : WF S) (HN : ∀ m2 S2, RC m2 S2 → RM m2 S2 → WF S2 → Y G M_la_law cap 1076 [some (.ref 1000000), some (.ref 0), some (.ref 153), some (.int (nI i))] [] (LAY, m2) (qm_ LAY (fun v _ => v = some (.int (nI 1))))) : Y G M_la_law cap 653 [some (.ref 1000000), some (.ref 0), some (.ref 153), some (.int (nI i))] [] (LAY, m) (qm_ LAY (fun v _ => v = some (.int (nI 1)))) := by
  refine Y_aload_n 453 rfl (pc2 := 654) rfl rfl ?_
  refine Y_aload_n 454 rfl (pc2 := 655) rfl rfl ?_
  refine Y_iload_n 455 rfl (pc2 := 656) rfl rfl ?_
  refine Y_iconst 456 rfl (pc2 := 657) rfl (v := nI 1) (by decide) ?_
  refine Y_iadd 457 rfl (pc2 := 658) rfl ?_
  refine Y_top (nI_add _ _) ?_
  refine Y_sald 458 rfl (pc2 := 659) rfl (z := 0) (by decide) rfl (by show _ < G.1; omega) (by show G.1 < _; omega) ?_
  refine Y_aload_n 459 rfl (pc2 := 660) rfl rfl ?_
  refine Y_iload_n 460 rfl (pc2 := 661) rfl rfl ?_
  refine Y_iconst 461 rfl (pc2 := 662) rfl (v := nI 2) (by decide) ?_
  refine Y_iadd 462 rfl (pc2 := 663) rfl ?_
  refine Y_top (nI_add _ _) ?_
  refine Y_sald 463 rfl (pc2 := 664) rfl (z := 0) (by decide) rfl (by show _ < G.1; omega) (by show G.1 < _; omega) ?_
  refine Y_cV 464 rfl (pc2 := 667) rfl ok_gh_round lk_la_71 vi_gh_round ly_gh rfl (by decide) rfl (as := [.int _, .int _]) (rest := []) rfl rfl (T_gh_round h w) ?_
  rintro _ m1 ⟨rfl, hc, hfm⟩
  change Y _ _ _ _ _ [.int _] _ _
  refine Y_aload_n 465 rfl (pc2 := 668) rfl rfl ?_
  refine Y_aload_n 466 rfl (pc2 := 669) rfl rfl ?_
  refine Y_iload_n 467 rfl (pc2 := 670) rfl rfl ?_
  refine Y_iconst 468 rfl (pc2 := 671) rfl (v := nI 1) (by decide) ?_
  refine Y_iadd 469 rfl (pc2 := 672) rfl ?_
  refine Y_top (nI_add _ _) ?_
  refine Y_sald 470 rfl (pc2 := 673) rfl (z := 0) (by decide) rfl (by show _ < G.1; omega) (by show G.1 < _; omega) ?_
  refine Y_aload_n 471 rfl (pc2 := 674) rfl rfl ?_
  refine Y_iload_n 472 rfl (pc2 := 675) rfl rfl ?_
  refine Y_iconst 473 rfl (pc2 := 676) rfl (v := nI 2) (by decide) ?_
  refine Y_iadd 474 rfl (pc2 := 677) rfl ?_
  refine Y_top (nI_add _ _) ?_
  refine Y_sald 475 rfl (pc2 := 678) rfl (z := 0) (by decide) rfl (by show _ < G.1; omega) (by show G.1 < _; omega) ?_
  refine Y_cV 476 rfl (pc2 := 681) rfl ok_mo_round lk_la_74 vi_mo_round ly_mo rfl (by decide) rfl (as := [.int _, .int _]) (rest := [.int _]) rfl rfl (T_mo_round (hM.mono hfm) w) ?_
  rintro _ m2 ⟨rfl, hm, hfc⟩
  change Y _ _ _ _ _ [.int _, .int _] _ _
  refine Y_icmp_eq 477 rfl (pc2 := 684) rfl (tgt := 1076) (by decide) (fun h681 => ?_) (fun h681 => ?_)
  · exact HN m2 _ (hc.mono (fun a _ ha => hfc a ha)) hm w
  · exact absurd rfl h681

set_option maxRecDepth 20000 in
set_option maxHeartbeats 400000 in
theorem LC_plays {G : Nat × (Nat → Int32)} {cap : Nat × Nat} (hL : G.1 ≤ 3072) {i : Nat} (hi : i + 6 ≤ G.1) {m S : Mm} (h : RC m S) (hM : RM m S) (w : WF S) (HN : ∀ m2 S2, RC m2 S2 → RM m2 S2 → WF S2 → Y G M_la_law cap 1076 [some (.ref 1000000), some (.ref 0), some (.ref 153), some (.int (nI i))] [] (LAY, m2) (qm_ LAY (fun v _ => v = some (.int (nI 1))))) : Y G M_la_law cap 686 [some (.ref 1000000), some (.ref 0), some (.ref 153), some (.int (nI i))] [] (LAY, m) (qm_ LAY (fun v _ => v = some (.int (nI 1)))) := by
  refine Y_aload_n 480 rfl (pc2 := 687) rfl rfl ?_
  refine Y_aload_n 481 rfl (pc2 := 688) rfl rfl ?_
  refine Y_iload_n 482 rfl (pc2 := 689) rfl rfl ?_
  refine Y_iconst 483 rfl (pc2 := 690) rfl (v := nI 1) (by decide) ?_
  refine Y_iadd 484 rfl (pc2 := 691) rfl ?_
  refine Y_top (nI_add _ _) ?_
  refine Y_sald 485 rfl (pc2 := 692) rfl (z := 0) (by decide) rfl (by show _ < G.1; omega) (by show G.1 < _; omega) ?_
  refine Y_aload_n 486 rfl (pc2 := 693) rfl rfl ?_
  refine Y_iload_n 487 rfl (pc2 := 694) rfl rfl ?_
  refine Y_iconst 488 rfl (pc2 := 695) rfl (v := nI 2) (by decide) ?_
  refine Y_iadd 489 rfl (pc2 := 696) rfl ?_
  refine Y_top (nI_add _ _) ?_
  refine Y_sald 490 rfl (pc2 := 697) rfl (z := 0) (by decide) rfl (by show _ < G.1; omega) (by show G.1 < _; omega) ?_
  refine Y_aload_n 491 rfl (pc2 := 698) rfl rfl ?_
  refine Y_iload_n 492 rfl (pc2 := 699) rfl rfl ?_
  refine Y_iconst 493 rfl (pc2 := 700) rfl (v := nI 3) (by decide) ?_
  refine Y_iadd 494 rfl (pc2 := 701) rfl ?_
  refine Y_top (nI_add _ _) ?_
  refine Y_sald 495 rfl (pc2 := 702) rfl (z := 0) (by decide) rfl (by show _ < G.1; omega) (by show G.1 < _; omega) ?_
  refine Y_aload_n 496 rfl (pc2 := 703) rfl rfl ?_
  refine Y_iload_n 497 rfl (pc2 := 704) rfl rfl ?_
  refine Y_iconst 498 rfl (pc2 := 705) rfl (v := nI 4) (by decide) ?_
  refine Y_iadd 499 rfl (pc2 := 706) rfl ?_
  refine Y_top (nI_add _ _) ?_
  refine Y_sald 500 rfl (pc2 := 707) rfl (z := 0) (by decide) rfl (by show _ < G.1; omega) (by show G.1 < _; omega) ?_
  refine Y_cV 501 rfl (pc2 := 710) rfl ok_gh_plays lk_la_75 vi_gh_plays ly_gh rfl (by decide) rfl (as := [.int _, .int _, .int _, .int _]) (rest := []) rfl rfl (T_gh_plays h w) ?_
  rintro _ m1 ⟨rfl, hc, hfm⟩
  change Y _ _ _ _ _ [.int _] _ _
  refine Y_aload_n 502 rfl (pc2 := 711) rfl rfl ?_
  refine Y_aload_n 503 rfl (pc2 := 712) rfl rfl ?_
  refine Y_iload_n 504 rfl (pc2 := 713) rfl rfl ?_
  refine Y_iconst 505 rfl (pc2 := 714) rfl (v := nI 1) (by decide) ?_
  refine Y_iadd 506 rfl (pc2 := 715) rfl ?_
  refine Y_top (nI_add _ _) ?_
  refine Y_sald 507 rfl (pc2 := 716) rfl (z := 0) (by decide) rfl (by show _ < G.1; omega) (by show G.1 < _; omega) ?_
  refine Y_aload_n 508 rfl (pc2 := 717) rfl rfl ?_
  refine Y_iload_n 509 rfl (pc2 := 718) rfl rfl ?_
  refine Y_iconst 510 rfl (pc2 := 719) rfl (v := nI 2) (by decide) ?_
  refine Y_iadd 511 rfl (pc2 := 720) rfl ?_
  refine Y_top (nI_add _ _) ?_
  refine Y_sald 512 rfl (pc2 := 721) rfl (z := 0) (by decide) rfl (by show _ < G.1; omega) (by show G.1 < _; omega) ?_
  refine Y_aload_n 513 rfl (pc2 := 722) rfl rfl ?_
  refine Y_iload_n 514 rfl (pc2 := 723) rfl rfl ?_
  refine Y_iconst 515 rfl (pc2 := 724) rfl (v := nI 3) (by decide) ?_
  refine Y_iadd 516 rfl (pc2 := 725) rfl ?_
  refine Y_top (nI_add _ _) ?_
  refine Y_sald 517 rfl (pc2 := 726) rfl (z := 0) (by decide) rfl (by show _ < G.1; omega) (by show G.1 < _; omega) ?_
  refine Y_aload_n 518 rfl (pc2 := 727) rfl rfl ?_
  refine Y_iload_n 519 rfl (pc2 := 728) rfl rfl ?_
  refine Y_iconst 520 rfl (pc2 := 729) rfl (v := nI 4) (by decide) ?_
  refine Y_iadd 521 rfl (pc2 := 730) rfl ?_
  refine Y_top (nI_add _ _) ?_
  refine Y_sald 522 rfl (pc2 := 731) rfl (z := 0) (by decide) rfl (by show _ < G.1; omega) (by show G.1 < _; omega) ?_
  refine Y_cV 523 rfl (pc2 := 734) rfl ok_mo_plays lk_la_78 vi_mo_plays ly_mo rfl (by decide) rfl (as := [.int _, .int _, .int _, .int _]) (rest := [.int _]) rfl rfl (T_mo_plays (hM.mono hfm) w) ?_
  rintro _ m2 ⟨rfl, hm, hfc⟩
  change Y _ _ _ _ _ [.int _, .int _] _ _
  refine Y_icmp_eq 524 rfl (pc2 := 737) rfl (tgt := 1076) (by decide) (fun h734 => ?_) (fun h734 => ?_)
  · exact HN m2 _ (hc.mono (fun a _ ha => hfc a ha)) hm w
  · exact absurd rfl h734

set_option maxRecDepth 20000 in
set_option maxHeartbeats 400000 in
theorem LC_damps {G : Nat × (Nat → Int32)} {cap : Nat × Nat} (hL : G.1 ≤ 3072) {i : Nat} (hi : i + 6 ≤ G.1) {m S : Mm} (h : RC m S) (hM : RM m S) (w : WF S) (HN : ∀ m2 S2, RC m2 S2 → RM m2 S2 → WF S2 → Y G M_la_law cap 1076 [some (.ref 1000000), some (.ref 0), some (.ref 153), some (.int (nI i))] [] (LAY, m2) (qm_ LAY (fun v _ => v = some (.int (nI 1))))) : Y G M_la_law cap 739 [some (.ref 1000000), some (.ref 0), some (.ref 153), some (.int (nI i))] [] (LAY, m) (qm_ LAY (fun v _ => v = some (.int (nI 1)))) := by
  refine Y_aload_n 527 rfl (pc2 := 740) rfl rfl ?_
  refine Y_aload_n 528 rfl (pc2 := 741) rfl rfl ?_
  refine Y_iload_n 529 rfl (pc2 := 742) rfl rfl ?_
  refine Y_iconst 530 rfl (pc2 := 743) rfl (v := nI 1) (by decide) ?_
  refine Y_iadd 531 rfl (pc2 := 744) rfl ?_
  refine Y_top (nI_add _ _) ?_
  refine Y_sald 532 rfl (pc2 := 745) rfl (z := 0) (by decide) rfl (by show _ < G.1; omega) (by show G.1 < _; omega) ?_
  refine Y_aload_n 533 rfl (pc2 := 746) rfl rfl ?_
  refine Y_iload_n 534 rfl (pc2 := 747) rfl rfl ?_
  refine Y_iconst 535 rfl (pc2 := 748) rfl (v := nI 2) (by decide) ?_
  refine Y_iadd 536 rfl (pc2 := 749) rfl ?_
  refine Y_top (nI_add _ _) ?_
  refine Y_sald 537 rfl (pc2 := 750) rfl (z := 0) (by decide) rfl (by show _ < G.1; omega) (by show G.1 < _; omega) ?_
  refine Y_aload_n 538 rfl (pc2 := 751) rfl rfl ?_
  refine Y_iload_n 539 rfl (pc2 := 752) rfl rfl ?_
  refine Y_iconst 540 rfl (pc2 := 753) rfl (v := nI 3) (by decide) ?_
  refine Y_iadd 541 rfl (pc2 := 754) rfl ?_
  refine Y_top (nI_add _ _) ?_
  refine Y_sald 542 rfl (pc2 := 755) rfl (z := 0) (by decide) rfl (by show _ < G.1; omega) (by show G.1 < _; omega) ?_
  refine Y_aload_n 543 rfl (pc2 := 756) rfl rfl ?_
  refine Y_iload_n 544 rfl (pc2 := 757) rfl rfl ?_
  refine Y_iconst 545 rfl (pc2 := 758) rfl (v := nI 4) (by decide) ?_
  refine Y_iadd 546 rfl (pc2 := 759) rfl ?_
  refine Y_top (nI_add _ _) ?_
  refine Y_sald 547 rfl (pc2 := 760) rfl (z := 0) (by decide) rfl (by show _ < G.1; omega) (by show G.1 < _; omega) ?_
  refine Y_cV 548 rfl (pc2 := 763) rfl ok_gh_damps lk_la_79 vi_gh_damps ly_gh rfl (by decide) rfl (as := [.int _, .int _, .int _, .int _]) (rest := []) rfl rfl (T_gh_damps h w) ?_
  rintro _ m1 ⟨rfl, hc, hfm⟩
  change Y _ _ _ _ _ [.int _] _ _
  refine Y_aload_n 549 rfl (pc2 := 764) rfl rfl ?_
  refine Y_aload_n 550 rfl (pc2 := 765) rfl rfl ?_
  refine Y_iload_n 551 rfl (pc2 := 766) rfl rfl ?_
  refine Y_iconst 552 rfl (pc2 := 767) rfl (v := nI 1) (by decide) ?_
  refine Y_iadd 553 rfl (pc2 := 768) rfl ?_
  refine Y_top (nI_add _ _) ?_
  refine Y_sald 554 rfl (pc2 := 769) rfl (z := 0) (by decide) rfl (by show _ < G.1; omega) (by show G.1 < _; omega) ?_
  refine Y_aload_n 555 rfl (pc2 := 770) rfl rfl ?_
  refine Y_iload_n 556 rfl (pc2 := 771) rfl rfl ?_
  refine Y_iconst 557 rfl (pc2 := 772) rfl (v := nI 2) (by decide) ?_
  refine Y_iadd 558 rfl (pc2 := 773) rfl ?_
  refine Y_top (nI_add _ _) ?_
  refine Y_sald 559 rfl (pc2 := 774) rfl (z := 0) (by decide) rfl (by show _ < G.1; omega) (by show G.1 < _; omega) ?_
  refine Y_aload_n 560 rfl (pc2 := 775) rfl rfl ?_
  refine Y_iload_n 561 rfl (pc2 := 776) rfl rfl ?_
  refine Y_iconst 562 rfl (pc2 := 777) rfl (v := nI 3) (by decide) ?_
  refine Y_iadd 563 rfl (pc2 := 778) rfl ?_
  refine Y_top (nI_add _ _) ?_
  refine Y_sald 564 rfl (pc2 := 779) rfl (z := 0) (by decide) rfl (by show _ < G.1; omega) (by show G.1 < _; omega) ?_
  refine Y_aload_n 565 rfl (pc2 := 780) rfl rfl ?_
  refine Y_iload_n 566 rfl (pc2 := 781) rfl rfl ?_
  refine Y_iconst 567 rfl (pc2 := 782) rfl (v := nI 4) (by decide) ?_
  refine Y_iadd 568 rfl (pc2 := 783) rfl ?_
  refine Y_top (nI_add _ _) ?_
  refine Y_sald 569 rfl (pc2 := 784) rfl (z := 0) (by decide) rfl (by show _ < G.1; omega) (by show G.1 < _; omega) ?_
  refine Y_cV 570 rfl (pc2 := 787) rfl ok_mo_damps lk_la_82 vi_mo_damps ly_mo rfl (by decide) rfl (as := [.int _, .int _, .int _, .int _]) (rest := [.int _]) rfl rfl (T_mo_damps (hM.mono hfm) w) ?_
  rintro _ m2 ⟨rfl, hm, hfc⟩
  change Y _ _ _ _ _ [.int _, .int _] _ _
  refine Y_icmp_eq 571 rfl (pc2 := 790) rfl (tgt := 1076) (by decide) (fun h787 => ?_) (fun h787 => ?_)
  · exact HN m2 _ (hc.mono (fun a _ ha => hfc a ha)) hm w
  · exact absurd rfl h787

set_option maxRecDepth 20000 in
set_option maxHeartbeats 400000 in
theorem LC_strikes {G : Nat × (Nat → Int32)} {cap : Nat × Nat} (hL : G.1 ≤ 3072) {i : Nat} (hi : i + 6 ≤ G.1) {m S : Mm} (h : RC m S) (hM : RM m S) (w : WF S) (HN : ∀ m2 S2, RC m2 S2 → RM m2 S2 → WF S2 → Y G M_la_law cap 1076 [some (.ref 1000000), some (.ref 0), some (.ref 153), some (.int (nI i))] [] (LAY, m2) (qm_ LAY (fun v _ => v = some (.int (nI 1))))) : Y G M_la_law cap 792 [some (.ref 1000000), some (.ref 0), some (.ref 153), some (.int (nI i))] [] (LAY, m) (qm_ LAY (fun v _ => v = some (.int (nI 1)))) := by
  refine Y_aload_n 574 rfl (pc2 := 793) rfl rfl ?_
  refine Y_aload_n 575 rfl (pc2 := 794) rfl rfl ?_
  refine Y_iload_n 576 rfl (pc2 := 795) rfl rfl ?_
  refine Y_iconst 577 rfl (pc2 := 796) rfl (v := nI 1) (by decide) ?_
  refine Y_iadd 578 rfl (pc2 := 797) rfl ?_
  refine Y_top (nI_add _ _) ?_
  refine Y_sald 579 rfl (pc2 := 798) rfl (z := 0) (by decide) rfl (by show _ < G.1; omega) (by show G.1 < _; omega) ?_
  refine Y_aload_n 580 rfl (pc2 := 799) rfl rfl ?_
  refine Y_iload_n 581 rfl (pc2 := 800) rfl rfl ?_
  refine Y_iconst 582 rfl (pc2 := 801) rfl (v := nI 2) (by decide) ?_
  refine Y_iadd 583 rfl (pc2 := 802) rfl ?_
  refine Y_top (nI_add _ _) ?_
  refine Y_sald 584 rfl (pc2 := 803) rfl (z := 0) (by decide) rfl (by show _ < G.1; omega) (by show G.1 < _; omega) ?_
  refine Y_cV 585 rfl (pc2 := 806) rfl ok_gh_strikes lk_la_83 vi_gh_strikes ly_gh rfl (by decide) rfl (as := [.int _, .int _]) (rest := []) rfl rfl (T_gh_strikes h w) ?_
  rintro _ m1 ⟨rfl, hc, hfm⟩
  change Y _ _ _ _ _ [.int _] _ _
  refine Y_aload_n 586 rfl (pc2 := 807) rfl rfl ?_
  refine Y_aload_n 587 rfl (pc2 := 808) rfl rfl ?_
  refine Y_iload_n 588 rfl (pc2 := 809) rfl rfl ?_
  refine Y_iconst 589 rfl (pc2 := 810) rfl (v := nI 1) (by decide) ?_
  refine Y_iadd 590 rfl (pc2 := 811) rfl ?_
  refine Y_top (nI_add _ _) ?_
  refine Y_sald 591 rfl (pc2 := 812) rfl (z := 0) (by decide) rfl (by show _ < G.1; omega) (by show G.1 < _; omega) ?_
  refine Y_aload_n 592 rfl (pc2 := 813) rfl rfl ?_
  refine Y_iload_n 593 rfl (pc2 := 814) rfl rfl ?_
  refine Y_iconst 594 rfl (pc2 := 815) rfl (v := nI 2) (by decide) ?_
  refine Y_iadd 595 rfl (pc2 := 816) rfl ?_
  refine Y_top (nI_add _ _) ?_
  refine Y_sald 596 rfl (pc2 := 817) rfl (z := 0) (by decide) rfl (by show _ < G.1; omega) (by show G.1 < _; omega) ?_
  refine Y_cV 597 rfl (pc2 := 820) rfl ok_mo_strikes lk_la_86 vi_mo_strikes ly_mo rfl (by decide) rfl (as := [.int _, .int _]) (rest := [.int _]) rfl rfl (T_mo_strikes (hM.mono hfm) w) ?_
  rintro _ m2 ⟨rfl, hm, hfc⟩
  change Y _ _ _ _ _ [.int _, .int _] _ _
  refine Y_icmp_eq 598 rfl (pc2 := 823) rfl (tgt := 1076) (by decide) (fun h820 => ?_) (fun h820 => ?_)
  · exact HN m2 _ (hc.mono (fun a _ ha => hfc a ha)) hm w
  · exact absurd rfl h820

set_option maxRecDepth 20000 in
set_option maxHeartbeats 400000 in
theorem LC_ticks {G : Nat × (Nat → Int32)} {cap : Nat × Nat} (hL : G.1 ≤ 3072) {i : Nat} (hi : i + 6 ≤ G.1) {m S : Mm} (h : RC m S) (hM : RM m S) (w : WF S) (HN : ∀ m2 S2, RC m2 S2 → RM m2 S2 → WF S2 → Y G M_la_law cap 1076 [some (.ref 1000000), some (.ref 0), some (.ref 153), some (.int (nI i))] [] (LAY, m2) (qm_ LAY (fun v _ => v = some (.int (nI 1))))) : Y G M_la_law cap 825 [some (.ref 1000000), some (.ref 0), some (.ref 153), some (.int (nI i))] [] (LAY, m) (qm_ LAY (fun v _ => v = some (.int (nI 1)))) := by
  refine Y_aload_n 601 rfl (pc2 := 826) rfl rfl ?_
  refine Y_cV 602 rfl (pc2 := 829) rfl ok_gh_ticks lk_la_87 vi_gh_ticks ly_gh rfl (by decide) rfl (as := []) (rest := []) rfl rfl (T_gh_ticks h w) ?_
  rintro _ m1 ⟨rfl, hc, hfm⟩
  change Y _ _ _ _ _ [.int _] _ _
  refine Y_aload_n 603 rfl (pc2 := 830) rfl rfl ?_
  refine Y_cV 604 rfl (pc2 := 833) rfl ok_mo_ticks lk_la_90 vi_mo_ticks ly_mo rfl (by decide) rfl (as := []) (rest := [.int _]) rfl rfl (T_mo_ticks (hM.mono hfm) w) ?_
  rintro _ m2 ⟨rfl, hm, hfc⟩
  change Y _ _ _ _ _ [.int _, .int _] _ _
  refine Y_icmp_eq 605 rfl (pc2 := 836) rfl (tgt := 1076) (by decide) (fun h833 => ?_) (fun h833 => ?_)
  · exact HN m2 _ (hc.mono (fun a _ ha => hfc a ha)) hm w
  · exact absurd rfl h833

set_option maxRecDepth 20000 in
set_option maxHeartbeats 400000 in
theorem LC_leaps {G : Nat × (Nat → Int32)} {cap : Nat × Nat} (hL : G.1 ≤ 3072) {i : Nat} (hi : i + 6 ≤ G.1) {m S : Mm} (h : RC m S) (hM : RM m S) (w : WF S) (HN : ∀ m2 S2, RC m2 S2 → RM m2 S2 → WF S2 → Y G M_la_law cap 1076 [some (.ref 1000000), some (.ref 0), some (.ref 153), some (.int (nI i))] [] (LAY, m2) (qm_ LAY (fun v _ => v = some (.int (nI 1))))) : Y G M_la_law cap 838 [some (.ref 1000000), some (.ref 0), some (.ref 153), some (.int (nI i))] [] (LAY, m) (qm_ LAY (fun v _ => v = some (.int (nI 1)))) := by
  refine Y_aload_n 608 rfl (pc2 := 839) rfl rfl ?_
  refine Y_aload_n 609 rfl (pc2 := 840) rfl rfl ?_
  refine Y_iload_n 610 rfl (pc2 := 841) rfl rfl ?_
  refine Y_iconst 611 rfl (pc2 := 842) rfl (v := nI 1) (by decide) ?_
  refine Y_iadd 612 rfl (pc2 := 843) rfl ?_
  refine Y_top (nI_add _ _) ?_
  refine Y_sald 613 rfl (pc2 := 844) rfl (z := 0) (by decide) rfl (by show _ < G.1; omega) (by show G.1 < _; omega) ?_
  refine Y_aload_n 614 rfl (pc2 := 845) rfl rfl ?_
  refine Y_iload_n 615 rfl (pc2 := 846) rfl rfl ?_
  refine Y_iconst 616 rfl (pc2 := 847) rfl (v := nI 2) (by decide) ?_
  refine Y_iadd 617 rfl (pc2 := 848) rfl ?_
  refine Y_top (nI_add _ _) ?_
  refine Y_sald 618 rfl (pc2 := 849) rfl (z := 0) (by decide) rfl (by show _ < G.1; omega) (by show G.1 < _; omega) ?_
  refine Y_aload_n 619 rfl (pc2 := 850) rfl rfl ?_
  refine Y_iload_n 620 rfl (pc2 := 851) rfl rfl ?_
  refine Y_iconst 621 rfl (pc2 := 852) rfl (v := nI 3) (by decide) ?_
  refine Y_iadd 622 rfl (pc2 := 853) rfl ?_
  refine Y_top (nI_add _ _) ?_
  refine Y_sald 623 rfl (pc2 := 854) rfl (z := 0) (by decide) rfl (by show _ < G.1; omega) (by show G.1 < _; omega) ?_
  refine Y_cV 624 rfl (pc2 := 857) rfl ok_gh_leaps lk_la_91 vi_gh_leaps ly_gh rfl (by decide) rfl (as := [.int _, .int _, .int _]) (rest := []) rfl rfl (T_gh_leaps h w) ?_
  rintro _ m1 ⟨rfl, hc, hfm⟩
  change Y _ _ _ _ _ [.int _] _ _
  refine Y_aload_n 625 rfl (pc2 := 858) rfl rfl ?_
  refine Y_aload_n 626 rfl (pc2 := 859) rfl rfl ?_
  refine Y_iload_n 627 rfl (pc2 := 860) rfl rfl ?_
  refine Y_iconst 628 rfl (pc2 := 861) rfl (v := nI 1) (by decide) ?_
  refine Y_iadd 629 rfl (pc2 := 862) rfl ?_
  refine Y_top (nI_add _ _) ?_
  refine Y_sald 630 rfl (pc2 := 863) rfl (z := 0) (by decide) rfl (by show _ < G.1; omega) (by show G.1 < _; omega) ?_
  refine Y_aload_n 631 rfl (pc2 := 864) rfl rfl ?_
  refine Y_iload_n 632 rfl (pc2 := 865) rfl rfl ?_
  refine Y_iconst 633 rfl (pc2 := 866) rfl (v := nI 2) (by decide) ?_
  refine Y_iadd 634 rfl (pc2 := 867) rfl ?_
  refine Y_top (nI_add _ _) ?_
  refine Y_sald 635 rfl (pc2 := 868) rfl (z := 0) (by decide) rfl (by show _ < G.1; omega) (by show G.1 < _; omega) ?_
  refine Y_aload_n 636 rfl (pc2 := 869) rfl rfl ?_
  refine Y_iload_n 637 rfl (pc2 := 870) rfl rfl ?_
  refine Y_iconst 638 rfl (pc2 := 871) rfl (v := nI 3) (by decide) ?_
  refine Y_iadd 639 rfl (pc2 := 872) rfl ?_
  refine Y_top (nI_add _ _) ?_
  refine Y_sald 640 rfl (pc2 := 873) rfl (z := 0) (by decide) rfl (by show _ < G.1; omega) (by show G.1 < _; omega) ?_
  refine Y_cV 641 rfl (pc2 := 876) rfl ok_mo_leaps lk_la_94 vi_mo_leaps ly_mo rfl (by decide) rfl (as := [.int _, .int _, .int _]) (rest := [.int _]) rfl rfl (T_mo_leaps (hM.mono hfm) w) ?_
  rintro _ m2 ⟨rfl, hm, hfc⟩
  change Y _ _ _ _ _ [.int _, .int _] _ _
  refine Y_icmp_eq 642 rfl (pc2 := 879) rfl (tgt := 1076) (by decide) (fun h876 => ?_) (fun h876 => ?_)
  · exact HN m2 _ (hc.mono (fun a _ ha => hfc a ha)) hm w
  · exact absurd rfl h876

set_option maxRecDepth 20000 in
set_option maxHeartbeats 400000 in
theorem LC_choice {G : Nat × (Nat → Int32)} {cap : Nat × Nat} (hL : G.1 ≤ 3072) {i : Nat} (hi : i + 6 ≤ G.1) {m S : Mm} (h : RC m S) (hM : RM m S) (w : WF S) (HN : ∀ m2 S2, RC m2 S2 → RM m2 S2 → WF S2 → Y G M_la_law cap 1076 [some (.ref 1000000), some (.ref 0), some (.ref 153), some (.int (nI i))] [] (LAY, m2) (qm_ LAY (fun v _ => v = some (.int (nI 1))))) : Y G M_la_law cap 881 [some (.ref 1000000), some (.ref 0), some (.ref 153), some (.int (nI i))] [] (LAY, m) (qm_ LAY (fun v _ => v = some (.int (nI 1)))) := by
  refine Y_aload_n 645 rfl (pc2 := 882) rfl rfl ?_
  refine Y_aload_n 646 rfl (pc2 := 883) rfl rfl ?_
  refine Y_iload_n 647 rfl (pc2 := 884) rfl rfl ?_
  refine Y_iconst 648 rfl (pc2 := 885) rfl (v := nI 1) (by decide) ?_
  refine Y_iadd 649 rfl (pc2 := 886) rfl ?_
  refine Y_top (nI_add _ _) ?_
  refine Y_sald 650 rfl (pc2 := 887) rfl (z := 0) (by decide) rfl (by show _ < G.1; omega) (by show G.1 < _; omega) ?_
  refine Y_aload_n 651 rfl (pc2 := 888) rfl rfl ?_
  refine Y_iload_n 652 rfl (pc2 := 889) rfl rfl ?_
  refine Y_iconst 653 rfl (pc2 := 890) rfl (v := nI 2) (by decide) ?_
  refine Y_iadd 654 rfl (pc2 := 891) rfl ?_
  refine Y_top (nI_add _ _) ?_
  refine Y_sald 655 rfl (pc2 := 892) rfl (z := 0) (by decide) rfl (by show _ < G.1; omega) (by show G.1 < _; omega) ?_
  refine Y_cV 656 rfl (pc2 := 895) rfl ok_gh_choice lk_la_95 vi_gh_choice ly_gh rfl (by decide) rfl (as := [.int _, .int _]) (rest := []) rfl rfl (T_gh_choice h w) ?_
  rintro _ m1 ⟨rfl, hc, hfm⟩
  change Y _ _ _ _ _ [.int _] _ _
  refine Y_aload_n 657 rfl (pc2 := 896) rfl rfl ?_
  refine Y_aload_n 658 rfl (pc2 := 897) rfl rfl ?_
  refine Y_iload_n 659 rfl (pc2 := 898) rfl rfl ?_
  refine Y_iconst 660 rfl (pc2 := 899) rfl (v := nI 1) (by decide) ?_
  refine Y_iadd 661 rfl (pc2 := 900) rfl ?_
  refine Y_top (nI_add _ _) ?_
  refine Y_sald 662 rfl (pc2 := 901) rfl (z := 0) (by decide) rfl (by show _ < G.1; omega) (by show G.1 < _; omega) ?_
  refine Y_aload_n 663 rfl (pc2 := 902) rfl rfl ?_
  refine Y_iload_n 664 rfl (pc2 := 903) rfl rfl ?_
  refine Y_iconst 665 rfl (pc2 := 904) rfl (v := nI 2) (by decide) ?_
  refine Y_iadd 666 rfl (pc2 := 905) rfl ?_
  refine Y_top (nI_add _ _) ?_
  refine Y_sald 667 rfl (pc2 := 906) rfl (z := 0) (by decide) rfl (by show _ < G.1; omega) (by show G.1 < _; omega) ?_
  refine Y_cV 668 rfl (pc2 := 909) rfl ok_mo_choice lk_la_98 vi_mo_choice ly_mo rfl (by decide) rfl (as := [.int _, .int _]) (rest := [.int _]) rfl rfl (T_mo_choice (hM.mono hfm) w) ?_
  rintro _ m2 ⟨rfl, hm, hfc⟩
  change Y _ _ _ _ _ [.int _, .int _] _ _
  refine Y_icmp_eq 669 rfl (pc2 := 912) rfl (tgt := 1076) (by decide) (fun h909 => ?_) (fun h909 => ?_)
  · exact HN m2 _ (hc.mono (fun a _ ha => hfc a ha)) hm w
  · exact absurd rfl h909

set_option maxRecDepth 20000 in
set_option maxHeartbeats 400000 in
theorem LC_sheet {G : Nat × (Nat → Int32)} {cap : Nat × Nat} (hL : G.1 ≤ 3072) {i : Nat} (hi : i + 6 ≤ G.1) {m S : Mm} (h : RC m S) (hM : RM m S) (w : WF S) (HN : ∀ m2 S2, RC m2 S2 → RM m2 S2 → WF S2 → Y G M_la_law cap 1076 [some (.ref 1000000), some (.ref 0), some (.ref 153), some (.int (nI i))] [] (LAY, m2) (qm_ LAY (fun v _ => v = some (.int (nI 1))))) : Y G M_la_law cap 914 [some (.ref 1000000), some (.ref 0), some (.ref 153), some (.int (nI i))] [] (LAY, m) (qm_ LAY (fun v _ => v = some (.int (nI 1)))) := by
  refine Y_aload_n 672 rfl (pc2 := 915) rfl rfl ?_
  refine Y_aload_n 673 rfl (pc2 := 916) rfl rfl ?_
  refine Y_iload_n 674 rfl (pc2 := 917) rfl rfl ?_
  refine Y_iconst 675 rfl (pc2 := 918) rfl (v := nI 1) (by decide) ?_
  refine Y_iadd 676 rfl (pc2 := 919) rfl ?_
  refine Y_top (nI_add _ _) ?_
  refine Y_sald 677 rfl (pc2 := 920) rfl (z := 0) (by decide) rfl (by show _ < G.1; omega) (by show G.1 < _; omega) ?_
  refine Y_aload_n 678 rfl (pc2 := 921) rfl rfl ?_
  refine Y_iload_n 679 rfl (pc2 := 922) rfl rfl ?_
  refine Y_iconst 680 rfl (pc2 := 923) rfl (v := nI 2) (by decide) ?_
  refine Y_iadd 681 rfl (pc2 := 924) rfl ?_
  refine Y_top (nI_add _ _) ?_
  refine Y_sald 682 rfl (pc2 := 925) rfl (z := 0) (by decide) rfl (by show _ < G.1; omega) (by show G.1 < _; omega) ?_
  refine Y_cV 683 rfl (pc2 := 928) rfl ok_gh_sheet lk_la_99 vi_gh_sheet ly_gh rfl (by decide) rfl (as := [.int _, .int _]) (rest := []) rfl rfl (T_gh_sheet h w) ?_
  rintro _ m1 ⟨rfl, hc, hfm⟩
  change Y _ _ _ _ _ [.int _] _ _
  refine Y_aload_n 684 rfl (pc2 := 929) rfl rfl ?_
  refine Y_aload_n 685 rfl (pc2 := 930) rfl rfl ?_
  refine Y_iload_n 686 rfl (pc2 := 931) rfl rfl ?_
  refine Y_iconst 687 rfl (pc2 := 932) rfl (v := nI 1) (by decide) ?_
  refine Y_iadd 688 rfl (pc2 := 933) rfl ?_
  refine Y_top (nI_add _ _) ?_
  refine Y_sald 689 rfl (pc2 := 934) rfl (z := 0) (by decide) rfl (by show _ < G.1; omega) (by show G.1 < _; omega) ?_
  refine Y_aload_n 690 rfl (pc2 := 935) rfl rfl ?_
  refine Y_iload_n 691 rfl (pc2 := 936) rfl rfl ?_
  refine Y_iconst 692 rfl (pc2 := 937) rfl (v := nI 2) (by decide) ?_
  refine Y_iadd 693 rfl (pc2 := 938) rfl ?_
  refine Y_top (nI_add _ _) ?_
  refine Y_sald 694 rfl (pc2 := 939) rfl (z := 0) (by decide) rfl (by show _ < G.1; omega) (by show G.1 < _; omega) ?_
  refine Y_cV 695 rfl (pc2 := 942) rfl ok_mo_sheet lk_la_102 vi_mo_sheet ly_mo rfl (by decide) rfl (as := [.int _, .int _]) (rest := [.int _]) rfl rfl (T_mo_sheet (hM.mono hfm) w) ?_
  rintro _ m2 ⟨rfl, hm, hfc⟩
  change Y _ _ _ _ _ [.int _, .int _] _ _
  refine Y_icmp_eq 696 rfl (pc2 := 945) rfl (tgt := 1076) (by decide) (fun h942 => ?_) (fun h942 => ?_)
  · exact HN m2 _ (hc.mono (fun a _ ha => hfc a ha)) hm (WF_st_sheet w)
  · exact absurd rfl h942

set_option maxRecDepth 20000 in
set_option maxHeartbeats 400000 in
theorem LC_mark {G : Nat × (Nat → Int32)} {cap : Nat × Nat} (hL : G.1 ≤ 3072) {i : Nat} (hi : i + 6 ≤ G.1) {m S : Mm} (h : RC m S) (hM : RM m S) (w : WF S) (HN : ∀ m2 S2, RC m2 S2 → RM m2 S2 → WF S2 → Y G M_la_law cap 1076 [some (.ref 1000000), some (.ref 0), some (.ref 153), some (.int (nI i))] [] (LAY, m2) (qm_ LAY (fun v _ => v = some (.int (nI 1))))) : Y G M_la_law cap 947 [some (.ref 1000000), some (.ref 0), some (.ref 153), some (.int (nI i))] [] (LAY, m) (qm_ LAY (fun v _ => v = some (.int (nI 1)))) := by
  refine Y_aload_n 699 rfl (pc2 := 948) rfl rfl ?_
  refine Y_aload_n 700 rfl (pc2 := 949) rfl rfl ?_
  refine Y_iload_n 701 rfl (pc2 := 950) rfl rfl ?_
  refine Y_iconst 702 rfl (pc2 := 951) rfl (v := nI 1) (by decide) ?_
  refine Y_iadd 703 rfl (pc2 := 952) rfl ?_
  refine Y_top (nI_add _ _) ?_
  refine Y_sald 704 rfl (pc2 := 953) rfl (z := 0) (by decide) rfl (by show _ < G.1; omega) (by show G.1 < _; omega) ?_
  refine Y_aload_n 705 rfl (pc2 := 954) rfl rfl ?_
  refine Y_iload_n 706 rfl (pc2 := 955) rfl rfl ?_
  refine Y_iconst 707 rfl (pc2 := 956) rfl (v := nI 2) (by decide) ?_
  refine Y_iadd 708 rfl (pc2 := 957) rfl ?_
  refine Y_top (nI_add _ _) ?_
  refine Y_sald 709 rfl (pc2 := 958) rfl (z := 0) (by decide) rfl (by show _ < G.1; omega) (by show G.1 < _; omega) ?_
  refine Y_aload_n 710 rfl (pc2 := 959) rfl rfl ?_
  refine Y_iload_n 711 rfl (pc2 := 960) rfl rfl ?_
  refine Y_iconst 712 rfl (pc2 := 961) rfl (v := nI 3) (by decide) ?_
  refine Y_iadd 713 rfl (pc2 := 962) rfl ?_
  refine Y_top (nI_add _ _) ?_
  refine Y_sald 714 rfl (pc2 := 963) rfl (z := 0) (by decide) rfl (by show _ < G.1; omega) (by show G.1 < _; omega) ?_
  refine Y_cV 715 rfl (pc2 := 966) rfl ok_gh_mark lk_la_103 vi_gh_mark ly_gh rfl (by decide) rfl (as := [.int _, .int _, .int _]) (rest := []) rfl rfl (T_gh_mark h w) ?_
  rintro _ m1 ⟨rfl, hc, hfm⟩
  change Y _ _ _ _ _ [.int _] _ _
  refine Y_aload_n 716 rfl (pc2 := 967) rfl rfl ?_
  refine Y_aload_n 717 rfl (pc2 := 968) rfl rfl ?_
  refine Y_iload_n 718 rfl (pc2 := 969) rfl rfl ?_
  refine Y_iconst 719 rfl (pc2 := 970) rfl (v := nI 1) (by decide) ?_
  refine Y_iadd 720 rfl (pc2 := 971) rfl ?_
  refine Y_top (nI_add _ _) ?_
  refine Y_sald 721 rfl (pc2 := 972) rfl (z := 0) (by decide) rfl (by show _ < G.1; omega) (by show G.1 < _; omega) ?_
  refine Y_aload_n 722 rfl (pc2 := 973) rfl rfl ?_
  refine Y_iload_n 723 rfl (pc2 := 974) rfl rfl ?_
  refine Y_iconst 724 rfl (pc2 := 975) rfl (v := nI 2) (by decide) ?_
  refine Y_iadd 725 rfl (pc2 := 976) rfl ?_
  refine Y_top (nI_add _ _) ?_
  refine Y_sald 726 rfl (pc2 := 977) rfl (z := 0) (by decide) rfl (by show _ < G.1; omega) (by show G.1 < _; omega) ?_
  refine Y_aload_n 727 rfl (pc2 := 978) rfl rfl ?_
  refine Y_iload_n 728 rfl (pc2 := 979) rfl rfl ?_
  refine Y_iconst 729 rfl (pc2 := 980) rfl (v := nI 3) (by decide) ?_
  refine Y_iadd 730 rfl (pc2 := 981) rfl ?_
  refine Y_top (nI_add _ _) ?_
  refine Y_sald 731 rfl (pc2 := 982) rfl (z := 0) (by decide) rfl (by show _ < G.1; omega) (by show G.1 < _; omega) ?_
  refine Y_cV 732 rfl (pc2 := 985) rfl ok_mo_mark lk_la_106 vi_mo_mark ly_mo rfl (by decide) rfl (as := [.int _, .int _, .int _]) (rest := [.int _]) rfl rfl (T_mo_mark (hM.mono hfm) w) ?_
  rintro _ m2 ⟨rfl, hm, hfc⟩
  change Y _ _ _ _ _ [.int _, .int _] _ _
  refine Y_icmp_eq 733 rfl (pc2 := 988) rfl (tgt := 1076) (by decide) (fun h985 => ?_) (fun h985 => ?_)
  · exact HN m2 _ (hc.mono (fun a _ ha => hfc a ha)) hm (WF_st_mark w)
  · exact absurd rfl h985

set_option maxRecDepth 20000 in
set_option maxHeartbeats 400000 in
theorem LC_copy {G : Nat × (Nat → Int32)} {cap : Nat × Nat} (hL : G.1 ≤ 3072) {i : Nat} (hi : i + 6 ≤ G.1) {m S : Mm} (h : RC m S) (hM : RM m S) (w : WF S) (HN : ∀ m2 S2, RC m2 S2 → RM m2 S2 → WF S2 → Y G M_la_law cap 1076 [some (.ref 1000000), some (.ref 0), some (.ref 153), some (.int (nI i))] [] (LAY, m2) (qm_ LAY (fun v _ => v = some (.int (nI 1))))) : Y G M_la_law cap 990 [some (.ref 1000000), some (.ref 0), some (.ref 153), some (.int (nI i))] [] (LAY, m) (qm_ LAY (fun v _ => v = some (.int (nI 1)))) := by
  refine Y_aload_n 736 rfl (pc2 := 991) rfl rfl ?_
  refine Y_aload_n 737 rfl (pc2 := 992) rfl rfl ?_
  refine Y_iload_n 738 rfl (pc2 := 993) rfl rfl ?_
  refine Y_iconst 739 rfl (pc2 := 994) rfl (v := nI 1) (by decide) ?_
  refine Y_iadd 740 rfl (pc2 := 995) rfl ?_
  refine Y_top (nI_add _ _) ?_
  refine Y_sald 741 rfl (pc2 := 996) rfl (z := 0) (by decide) rfl (by show _ < G.1; omega) (by show G.1 < _; omega) ?_
  refine Y_aload_n 742 rfl (pc2 := 997) rfl rfl ?_
  refine Y_iload_n 743 rfl (pc2 := 998) rfl rfl ?_
  refine Y_iconst 744 rfl (pc2 := 999) rfl (v := nI 2) (by decide) ?_
  refine Y_iadd 745 rfl (pc2 := 1000) rfl ?_
  refine Y_top (nI_add _ _) ?_
  refine Y_sald 746 rfl (pc2 := 1001) rfl (z := 0) (by decide) rfl (by show _ < G.1; omega) (by show G.1 < _; omega) ?_
  refine Y_aload_n 747 rfl (pc2 := 1002) rfl rfl ?_
  refine Y_iload_n 748 rfl (pc2 := 1003) rfl rfl ?_
  refine Y_iconst 749 rfl (pc2 := 1004) rfl (v := nI 3) (by decide) ?_
  refine Y_iadd 750 rfl (pc2 := 1005) rfl ?_
  refine Y_top (nI_add _ _) ?_
  refine Y_sald 751 rfl (pc2 := 1006) rfl (z := 0) (by decide) rfl (by show _ < G.1; omega) (by show G.1 < _; omega) ?_
  refine Y_aload_n 752 rfl (pc2 := 1007) rfl rfl ?_
  refine Y_iload_n 753 rfl (pc2 := 1008) rfl rfl ?_
  refine Y_iconst 754 rfl (pc2 := 1009) rfl (v := nI 4) (by decide) ?_
  refine Y_iadd 755 rfl (pc2 := 1010) rfl ?_
  refine Y_top (nI_add _ _) ?_
  refine Y_sald 756 rfl (pc2 := 1011) rfl (z := 0) (by decide) rfl (by show _ < G.1; omega) (by show G.1 < _; omega) ?_
  refine Y_aload_n 757 rfl (pc2 := 1012) rfl rfl ?_
  refine Y_iload_n 758 rfl (pc2 := 1013) rfl rfl ?_
  refine Y_iconst 759 rfl (pc2 := 1014) rfl (v := nI 5) (by decide) ?_
  refine Y_iadd 760 rfl (pc2 := 1015) rfl ?_
  refine Y_top (nI_add _ _) ?_
  refine Y_sald 761 rfl (pc2 := 1016) rfl (z := 0) (by decide) rfl (by show _ < G.1; omega) (by show G.1 < _; omega) ?_
  refine Y_cV 762 rfl (pc2 := 1019) rfl ok_gh_copy lk_la_107 vi_gh_copy ly_gh rfl (by decide) rfl (as := [.int _, .int _, .int _, .int _, .int _]) (rest := []) rfl rfl (T_gh_copy h w) ?_
  rintro _ m1 ⟨rfl, hc, hfm⟩
  change Y _ _ _ _ _ [.int _] _ _
  refine Y_aload_n 763 rfl (pc2 := 1020) rfl rfl ?_
  refine Y_aload_n 764 rfl (pc2 := 1021) rfl rfl ?_
  refine Y_iload_n 765 rfl (pc2 := 1022) rfl rfl ?_
  refine Y_iconst 766 rfl (pc2 := 1023) rfl (v := nI 1) (by decide) ?_
  refine Y_iadd 767 rfl (pc2 := 1024) rfl ?_
  refine Y_top (nI_add _ _) ?_
  refine Y_sald 768 rfl (pc2 := 1025) rfl (z := 0) (by decide) rfl (by show _ < G.1; omega) (by show G.1 < _; omega) ?_
  refine Y_aload_n 769 rfl (pc2 := 1026) rfl rfl ?_
  refine Y_iload_n 770 rfl (pc2 := 1027) rfl rfl ?_
  refine Y_iconst 771 rfl (pc2 := 1028) rfl (v := nI 2) (by decide) ?_
  refine Y_iadd 772 rfl (pc2 := 1029) rfl ?_
  refine Y_top (nI_add _ _) ?_
  refine Y_sald 773 rfl (pc2 := 1030) rfl (z := 0) (by decide) rfl (by show _ < G.1; omega) (by show G.1 < _; omega) ?_
  refine Y_aload_n 774 rfl (pc2 := 1031) rfl rfl ?_
  refine Y_iload_n 775 rfl (pc2 := 1032) rfl rfl ?_
  refine Y_iconst 776 rfl (pc2 := 1033) rfl (v := nI 3) (by decide) ?_
  refine Y_iadd 777 rfl (pc2 := 1034) rfl ?_
  refine Y_top (nI_add _ _) ?_
  refine Y_sald 778 rfl (pc2 := 1035) rfl (z := 0) (by decide) rfl (by show _ < G.1; omega) (by show G.1 < _; omega) ?_
  refine Y_aload_n 779 rfl (pc2 := 1036) rfl rfl ?_
  refine Y_iload_n 780 rfl (pc2 := 1037) rfl rfl ?_
  refine Y_iconst 781 rfl (pc2 := 1038) rfl (v := nI 4) (by decide) ?_
  refine Y_iadd 782 rfl (pc2 := 1039) rfl ?_
  refine Y_top (nI_add _ _) ?_
  refine Y_sald 783 rfl (pc2 := 1040) rfl (z := 0) (by decide) rfl (by show _ < G.1; omega) (by show G.1 < _; omega) ?_
  refine Y_aload_n 784 rfl (pc2 := 1041) rfl rfl ?_
  refine Y_iload_n 785 rfl (pc2 := 1042) rfl rfl ?_
  refine Y_iconst 786 rfl (pc2 := 1043) rfl (v := nI 5) (by decide) ?_
  refine Y_iadd 787 rfl (pc2 := 1044) rfl ?_
  refine Y_top (nI_add _ _) ?_
  refine Y_sald 788 rfl (pc2 := 1045) rfl (z := 0) (by decide) rfl (by show _ < G.1; omega) (by show G.1 < _; omega) ?_
  refine Y_cV 789 rfl (pc2 := 1048) rfl ok_mo_copy lk_la_110 vi_mo_copy ly_mo rfl (by decide) rfl (as := [.int _, .int _, .int _, .int _, .int _]) (rest := [.int _]) rfl rfl (T_mo_copy (hM.mono hfm) w) ?_
  rintro _ m2 ⟨rfl, hm, hfc⟩
  change Y _ _ _ _ _ [.int _, .int _] _ _
  refine Y_icmp_eq 790 rfl (pc2 := 1051) rfl (tgt := 1076) (by decide) (fun h1048 => ?_) (fun h1048 => ?_)
  · exact HN m2 _ (hc.mono (fun a _ ha => hfc a ha)) hm (WF_st_copy w)
  · exact absurd rfl h1048

set_option maxRecDepth 20000 in
set_option maxHeartbeats 400000 in
theorem LC_count {G : Nat × (Nat → Int32)} {cap : Nat × Nat} (hL : G.1 ≤ 3072) {i : Nat} (hi : i + 6 ≤ G.1) {m S : Mm} (h : RC m S) (hM : RM m S) (w : WF S) (HN : ∀ m2 S2, RC m2 S2 → RM m2 S2 → WF S2 → Y G M_la_law cap 1076 [some (.ref 1000000), some (.ref 0), some (.ref 153), some (.int (nI i))] [] (LAY, m2) (qm_ LAY (fun v _ => v = some (.int (nI 1))))) : Y G M_la_law cap 1053 [some (.ref 1000000), some (.ref 0), some (.ref 153), some (.int (nI i))] [] (LAY, m) (qm_ LAY (fun v _ => v = some (.int (nI 1)))) := by
  refine Y_aload_n 793 rfl (pc2 := 1054) rfl rfl ?_
  refine Y_aload_n 794 rfl (pc2 := 1055) rfl rfl ?_
  refine Y_iload_n 795 rfl (pc2 := 1056) rfl rfl ?_
  refine Y_iconst 796 rfl (pc2 := 1057) rfl (v := nI 1) (by decide) ?_
  refine Y_iadd 797 rfl (pc2 := 1058) rfl ?_
  refine Y_top (nI_add _ _) ?_
  refine Y_sald 798 rfl (pc2 := 1059) rfl (z := 0) (by decide) rfl (by show _ < G.1; omega) (by show G.1 < _; omega) ?_
  refine Y_cV 799 rfl (pc2 := 1062) rfl ok_gh_count lk_la_111 vi_gh_count ly_gh rfl (by decide) rfl (as := [.int _]) (rest := []) rfl rfl (T_gh_count h w) ?_
  rintro _ m1 ⟨rfl, hc, hfm⟩
  change Y _ _ _ _ _ [.int _] _ _
  refine Y_aload_n 800 rfl (pc2 := 1063) rfl rfl ?_
  refine Y_aload_n 801 rfl (pc2 := 1064) rfl rfl ?_
  refine Y_iload_n 802 rfl (pc2 := 1065) rfl rfl ?_
  refine Y_iconst 803 rfl (pc2 := 1066) rfl (v := nI 1) (by decide) ?_
  refine Y_iadd 804 rfl (pc2 := 1067) rfl ?_
  refine Y_top (nI_add _ _) ?_
  refine Y_sald 805 rfl (pc2 := 1068) rfl (z := 0) (by decide) rfl (by show _ < G.1; omega) (by show G.1 < _; omega) ?_
  refine Y_cV 806 rfl (pc2 := 1071) rfl ok_mo_count lk_la_114 vi_mo_count ly_mo rfl (by decide) rfl (as := [.int _]) (rest := [.int _]) rfl rfl (T_mo_count (hM.mono hfm) w) ?_
  rintro _ m2 ⟨rfl, hm, hfc⟩
  change Y _ _ _ _ _ [.int _, .int _] _ _
  refine Y_icmp_eq 807 rfl (pc2 := 1074) rfl (tgt := 1076) (by decide) (fun h1071 => ?_) (fun h1071 => ?_)
  · exact HN m2 _ (hc.mono (fun a _ ha => hfc a ha)) hm w
  · exact absurd rfl h1071
