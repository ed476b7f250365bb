/-! the law's own rows, checked piece by piece -/
def zl_0 : List am_R := [(0, .new 7, 3, 10, 0, 0), (3, .dup, 1, 0, 0, 0), (4, .invokespecial 9, 3, 63, 1, 0), (7, .astore_n 1, 1, 0, 0, 0), (8, .new 10, 3, 11, 0, 0), (11, .dup, 1, 0, 0, 0), (12, .invokespecial 12, 3, 105, 1, 0), (15, .astore_n 2, 1, 0, 0, 0), (16, .iconst 0, 1, 0, 0, 0), (17, .istore_n 3, 1, 0, 0, 0), (18, .iload_n 3, 1, 0, 0, 0), (19, .aload_n 0, 1, 0, 0, 0), (20, .arraylength, 1, 0, 0, 0), (21, .iconst 4, 1, 0, 0, 0), (22, .isub, 1, 0, 0, 0), (23, .if_icmp .gt 999, 3, 1022, 0, 0), (26, .aload_n 0, 1, 0, 0, 0), (27, .iload_n 3, 1, 0, 0, 0), (28, .iaload, 1, 0, 0, 0), (29, .bipush 31, 2, 0, 0, 0), (31, .iand, 1, 0, 0, 0), (32, .tableswitch 984 0 28 #[132, 155, 168, 181, 194, 227, 260, 283, 296, 329, 352, 375, 388, 421, 460, 499, 522, 545, 608, 651, 664, 687, 736, 779, 838, 892, 915, 938, 961], 132, 0, 0, 0), (164, .aload_n 1, 1, 0, 0, 0), (165, .aload_n 0, 1, 0, 0, 0), (166, .iload_n 3, 1, 0, 0, 0), (167, .iconst 1, 1, 0, 0, 0), (168, .iadd, 1, 0, 0, 0), (169, .iaload, 1, 0, 0, 0), (170, .invokevirtual 13, 3, 64, 2, 10), (173, .aload_n 2, 1, 0, 0, 0), (174, .aload_n 0, 1, 0, 0, 0), (175, .iload_n 3, 1, 0, 0, 0), (176, .iconst 1, 1, 0, 0, 0), (177, .iadd, 1, 0, 0, 0), (178, .iaload, 1, 0, 0, 0), (179, .invokevirtual 17, 3, 109, 2, 11), (182, .if_icmp .eq 834, 3, 1016, 0, 0), (185, .iconst 0, 1, 0, 0, 0), (186, .ireturn, 1, 1, 0, 0), (187, .aload_n 1, 1, 0, 0, 0)]
def zl_1 : List am_R := [(188, .invokevirtual 18, 3, 65, 1, 10), (191, .aload_n 2, 1, 0, 0, 0), (192, .invokevirtual 22, 3, 110, 1, 11), (195, .if_icmp .eq 821, 3, 1016, 0, 0), (198, .iconst 0, 1, 0, 0, 0), (199, .ireturn, 1, 1, 0, 0), (200, .aload_n 1, 1, 0, 0, 0), (201, .invokevirtual 23, 3, 66, 1, 10), (204, .aload_n 2, 1, 0, 0, 0), (205, .invokevirtual 26, 3, 113, 1, 11), (208, .if_icmp .eq 808, 3, 1016, 0, 0), (211, .iconst 0, 1, 0, 0, 0), (212, .ireturn, 1, 1, 0, 0), (213, .aload_n 1, 1, 0, 0, 0), (214, .invokevirtual 27, 3, 67, 1, 10), (217, .aload_n 2, 1, 0, 0, 0), (218, .invokevirtual 30, 3, 114, 1, 11), (221, .if_icmp .eq 795, 3, 1016, 0, 0), (224, .iconst 0, 1, 0, 0, 0), (225, .ireturn, 1, 1, 0, 0), (226, .aload_n 1, 1, 0, 0, 0), (227, .aload_n 0, 1, 0, 0, 0), (228, .iload_n 3, 1, 0, 0, 0), (229, .iconst 1, 1, 0, 0, 0), (230, .iadd, 1, 0, 0, 0), (231, .iaload, 1, 0, 0, 0), (232, .aload_n 0, 1, 0, 0, 0), (233, .iload_n 3, 1, 0, 0, 0), (234, .iconst 2, 1, 0, 0, 0), (235, .iadd, 1, 0, 0, 0), (236, .iaload, 1, 0, 0, 0), (237, .invokevirtual 31, 3, 68, 3, 10), (240, .aload_n 2, 1, 0, 0, 0), (241, .aload_n 0, 1, 0, 0, 0), (242, .iload_n 3, 1, 0, 0, 0), (243, .iconst 1, 1, 0, 0, 0), (244, .iadd, 1, 0, 0, 0), (245, .iaload, 1, 0, 0, 0), (246, .aload_n 0, 1, 0, 0, 0), (247, .iload_n 3, 1, 0, 0, 0)]
def zl_2 : List am_R := [(248, .iconst 2, 1, 0, 0, 0), (249, .iadd, 1, 0, 0, 0), (250, .iaload, 1, 0, 0, 0), (251, .invokevirtual 35, 3, 124, 3, 11), (254, .if_icmp .eq 762, 3, 1016, 0, 0), (257, .iconst 0, 1, 0, 0, 0), (258, .ireturn, 1, 1, 0, 0), (259, .aload_n 1, 1, 0, 0, 0), (260, .aload_n 0, 1, 0, 0, 0), (261, .iload_n 3, 1, 0, 0, 0), (262, .iconst 1, 1, 0, 0, 0), (263, .iadd, 1, 0, 0, 0), (264, .iaload, 1, 0, 0, 0), (265, .aload_n 0, 1, 0, 0, 0), (266, .iload_n 3, 1, 0, 0, 0), (267, .iconst 2, 1, 0, 0, 0), (268, .iadd, 1, 0, 0, 0), (269, .iaload, 1, 0, 0, 0), (270, .invokevirtual 36, 3, 69, 3, 10), (273, .aload_n 2, 1, 0, 0, 0), (274, .aload_n 0, 1, 0, 0, 0), (275, .iload_n 3, 1, 0, 0, 0), (276, .iconst 1, 1, 0, 0, 0), (277, .iadd, 1, 0, 0, 0), (278, .iaload, 1, 0, 0, 0), (279, .aload_n 0, 1, 0, 0, 0), (280, .iload_n 3, 1, 0, 0, 0), (281, .iconst 2, 1, 0, 0, 0), (282, .iadd, 1, 0, 0, 0), (283, .iaload, 1, 0, 0, 0), (284, .invokevirtual 39, 3, 125, 3, 11), (287, .if_icmp .eq 729, 3, 1016, 0, 0), (290, .iconst 0, 1, 0, 0, 0), (291, .ireturn, 1, 1, 0, 0), (292, .aload_n 1, 1, 0, 0, 0), (293, .aload_n 0, 1, 0, 0, 0), (294, .iload_n 3, 1, 0, 0, 0), (295, .iconst 1, 1, 0, 0, 0), (296, .iadd, 1, 0, 0, 0), (297, .iaload, 1, 0, 0, 0)]
def zl_3 : List am_R := [(298, .invokevirtual 40, 3, 70, 2, 10), (301, .aload_n 2, 1, 0, 0, 0), (302, .aload_n 0, 1, 0, 0, 0), (303, .iload_n 3, 1, 0, 0, 0), (304, .iconst 1, 1, 0, 0, 0), (305, .iadd, 1, 0, 0, 0), (306, .iaload, 1, 0, 0, 0), (307, .invokevirtual 43, 3, 126, 2, 11), (310, .if_icmp .eq 706, 3, 1016, 0, 0), (313, .iconst 0, 1, 0, 0, 0), (314, .ireturn, 1, 1, 0, 0), (315, .aload_n 1, 1, 0, 0, 0), (316, .invokevirtual 44, 3, 71, 1, 10), (319, .aload_n 2, 1, 0, 0, 0), (320, .invokevirtual 47, 3, 128, 1, 11), (323, .if_icmp .eq 693, 3, 1016, 0, 0), (326, .iconst 0, 1, 0, 0, 0), (327, .ireturn, 1, 1, 0, 0), (328, .aload_n 1, 1, 0, 0, 0), (329, .aload_n 0, 1, 0, 0, 0), (330, .iload_n 3, 1, 0, 0, 0), (331, .iconst 1, 1, 0, 0, 0), (332, .iadd, 1, 0, 0, 0), (333, .iaload, 1, 0, 0, 0), (334, .aload_n 0, 1, 0, 0, 0), (335, .iload_n 3, 1, 0, 0, 0), (336, .iconst 2, 1, 0, 0, 0), (337, .iadd, 1, 0, 0, 0), (338, .iaload, 1, 0, 0, 0), (339, .invokevirtual 48, 3, 72, 3, 10), (342, .aload_n 2, 1, 0, 0, 0), (343, .aload_n 0, 1, 0, 0, 0), (344, .iload_n 3, 1, 0, 0, 0), (345, .iconst 1, 1, 0, 0, 0), (346, .iadd, 1, 0, 0, 0), (347, .iaload, 1, 0, 0, 0), (348, .aload_n 0, 1, 0, 0, 0), (349, .iload_n 3, 1, 0, 0, 0), (350, .iconst 2, 1, 0, 0, 0), (351, .iadd, 1, 0, 0, 0)]
def zl_4 : List am_R := [(352, .iaload, 1, 0, 0, 0), (353, .invokevirtual 51, 3, 130, 3, 11), (356, .if_icmp .eq 660, 3, 1016, 0, 0), (359, .iconst 0, 1, 0, 0, 0), (360, .ireturn, 1, 1, 0, 0), (361, .aload_n 1, 1, 0, 0, 0), (362, .aload_n 0, 1, 0, 0, 0), (363, .iload_n 3, 1, 0, 0, 0), (364, .iconst 1, 1, 0, 0, 0), (365, .iadd, 1, 0, 0, 0), (366, .iaload, 1, 0, 0, 0), (367, .invokevirtual 52, 3, 73, 2, 10), (370, .aload_n 2, 1, 0, 0, 0), (371, .aload_n 0, 1, 0, 0, 0), (372, .iload_n 3, 1, 0, 0, 0), (373, .iconst 1, 1, 0, 0, 0), (374, .iadd, 1, 0, 0, 0), (375, .iaload, 1, 0, 0, 0), (376, .invokevirtual 55, 3, 131, 2, 11), (379, .if_icmp .eq 637, 3, 1016, 0, 0), (382, .iconst 0, 1, 0, 0, 0), (383, .ireturn, 1, 1, 0, 0), (384, .aload_n 1, 1, 0, 0, 0), (385, .aload_n 0, 1, 0, 0, 0), (386, .iload_n 3, 1, 0, 0, 0), (387, .iconst 1, 1, 0, 0, 0), (388, .iadd, 1, 0, 0, 0), (389, .iaload, 1, 0, 0, 0), (390, .invokevirtual 56, 3, 74, 2, 10), (393, .aload_n 2, 1, 0, 0, 0), (394, .aload_n 0, 1, 0, 0, 0), (395, .iload_n 3, 1, 0, 0, 0), (396, .iconst 1, 1, 0, 0, 0), (397, .iadd, 1, 0, 0, 0), (398, .iaload, 1, 0, 0, 0), (399, .invokevirtual 59, 3, 132, 2, 11), (402, .if_icmp .eq 614, 3, 1016, 0, 0), (405, .iconst 0, 1, 0, 0, 0), (406, .ireturn, 1, 1, 0, 0), (407, .aload_n 1, 1, 0, 0, 0)]
def zl_5 : List am_R := [(408, .invokevirtual 60, 3, 75, 1, 10), (411, .aload_n 2, 1, 0, 0, 0), (412, .invokevirtual 63, 3, 133, 1, 11), (415, .if_icmp .eq 601, 3, 1016, 0, 0), (418, .iconst 0, 1, 0, 0, 0), (419, .ireturn, 1, 1, 0, 0), (420, .aload_n 1, 1, 0, 0, 0), (421, .aload_n 0, 1, 0, 0, 0), (422, .iload_n 3, 1, 0, 0, 0), (423, .iconst 1, 1, 0, 0, 0), (424, .iadd, 1, 0, 0, 0), (425, .iaload, 1, 0, 0, 0), (426, .aload_n 0, 1, 0, 0, 0), (427, .iload_n 3, 1, 0, 0, 0), (428, .iconst 2, 1, 0, 0, 0), (429, .iadd, 1, 0, 0, 0), (430, .iaload, 1, 0, 0, 0), (431, .invokevirtual 64, 3, 76, 3, 10), (434, .aload_n 2, 1, 0, 0, 0), (435, .aload_n 0, 1, 0, 0, 0), (436, .iload_n 3, 1, 0, 0, 0), (437, .iconst 1, 1, 0, 0, 0), (438, .iadd, 1, 0, 0, 0), (439, .iaload, 1, 0, 0, 0), (440, .aload_n 0, 1, 0, 0, 0), (441, .iload_n 3, 1, 0, 0, 0), (442, .iconst 2, 1, 0, 0, 0), (443, .iadd, 1, 0, 0, 0), (444, .iaload, 1, 0, 0, 0), (445, .invokevirtual 67, 3, 135, 3, 11), (448, .if_icmp .eq 568, 3, 1016, 0, 0), (451, .iconst 0, 1, 0, 0, 0), (452, .ireturn, 1, 1, 0, 0), (453, .aload_n 1, 1, 0, 0, 0), (454, .aload_n 0, 1, 0, 0, 0), (455, .iload_n 3, 1, 0, 0, 0), (456, .iconst 1, 1, 0, 0, 0), (457, .iadd, 1, 0, 0, 0), (458, .iaload, 1, 0, 0, 0), (459, .ifCond .eq 7, 3, 466, 0, 0)]
def zl_6 : List am_R := [(462, .iconst 1, 1, 0, 0, 0), (463, .goto 4, 3, 467, 0, 0), (466, .iconst 0, 1, 0, 0, 0), (467, .invokevirtual 68, 3, 77, 2, 10), (470, .aload_n 2, 1, 0, 0, 0), (471, .aload_n 0, 1, 0, 0, 0), (472, .iload_n 3, 1, 0, 0, 0), (473, .iconst 1, 1, 0, 0, 0), (474, .iadd, 1, 0, 0, 0), (475, .iaload, 1, 0, 0, 0), (476, .ifCond .eq 7, 3, 483, 0, 0), (479, .iconst 1, 1, 0, 0, 0), (480, .goto 4, 3, 484, 0, 0), (483, .iconst 0, 1, 0, 0, 0), (484, .invokevirtual 72, 3, 141, 2, 11), (487, .if_icmp .eq 529, 3, 1016, 0, 0), (490, .iconst 0, 1, 0, 0, 0), (491, .ireturn, 1, 1, 0, 0), (492, .aload_n 1, 1, 0, 0, 0), (493, .aload_n 0, 1, 0, 0, 0), (494, .iload_n 3, 1, 0, 0, 0), (495, .iconst 1, 1, 0, 0, 0), (496, .iadd, 1, 0, 0, 0), (497, .iaload, 1, 0, 0, 0), (498, .ifCond .eq 7, 3, 505, 0, 0), (501, .iconst 1, 1, 0, 0, 0), (502, .goto 4, 3, 506, 0, 0), (505, .iconst 0, 1, 0, 0, 0), (506, .invokevirtual 73, 3, 78, 2, 10), (509, .aload_n 2, 1, 0, 0, 0), (510, .aload_n 0, 1, 0, 0, 0), (511, .iload_n 3, 1, 0, 0, 0), (512, .iconst 1, 1, 0, 0, 0), (513, .iadd, 1, 0, 0, 0), (514, .iaload, 1, 0, 0, 0), (515, .ifCond .eq 7, 3, 522, 0, 0), (518, .iconst 1, 1, 0, 0, 0), (519, .goto 4, 3, 523, 0, 0), (522, .iconst 0, 1, 0, 0, 0), (523, .invokevirtual 76, 3, 142, 2, 11)]
def zl_7 : List am_R := [(526, .if_icmp .eq 490, 3, 1016, 0, 0), (529, .iconst 0, 1, 0, 0, 0), (530, .ireturn, 1, 1, 0, 0), (531, .aload_n 1, 1, 0, 0, 0), (532, .aload_n 0, 1, 0, 0, 0), (533, .iload_n 3, 1, 0, 0, 0), (534, .iconst 1, 1, 0, 0, 0), (535, .iadd, 1, 0, 0, 0), (536, .iaload, 1, 0, 0, 0), (537, .invokevirtual 77, 3, 79, 2, 10), (540, .aload_n 2, 1, 0, 0, 0), (541, .aload_n 0, 1, 0, 0, 0), (542, .iload_n 3, 1, 0, 0, 0), (543, .iconst 1, 1, 0, 0, 0), (544, .iadd, 1, 0, 0, 0), (545, .iaload, 1, 0, 0, 0), (546, .invokevirtual 80, 3, 143, 2, 11), (549, .if_icmp .eq 467, 3, 1016, 0, 0), (552, .iconst 0, 1, 0, 0, 0), (553, .ireturn, 1, 1, 0, 0), (554, .aload_n 1, 1, 0, 0, 0), (555, .aload_n 0, 1, 0, 0, 0), (556, .iload_n 3, 1, 0, 0, 0), (557, .iconst 1, 1, 0, 0, 0), (558, .iadd, 1, 0, 0, 0), (559, .iaload, 1, 0, 0, 0), (560, .invokevirtual 81, 3, 80, 2, 10), (563, .aload_n 2, 1, 0, 0, 0), (564, .aload_n 0, 1, 0, 0, 0), (565, .iload_n 3, 1, 0, 0, 0), (566, .iconst 1, 1, 0, 0, 0), (567, .iadd, 1, 0, 0, 0), (568, .iaload, 1, 0, 0, 0), (569, .invokevirtual 84, 3, 144, 2, 11), (572, .if_icmp .eq 444, 3, 1016, 0, 0), (575, .iconst 0, 1, 0, 0, 0), (576, .ireturn, 1, 1, 0, 0), (577, .aload_n 1, 1, 0, 0, 0), (578, .aload_n 0, 1, 0, 0, 0), (579, .iload_n 3, 1, 0, 0, 0)]
def zl_8 : List am_R := [(580, .iconst 1, 1, 0, 0, 0), (581, .iadd, 1, 0, 0, 0), (582, .iaload, 1, 0, 0, 0), (583, .aload_n 0, 1, 0, 0, 0), (584, .iload_n 3, 1, 0, 0, 0), (585, .iconst 2, 1, 0, 0, 0), (586, .iadd, 1, 0, 0, 0), (587, .iaload, 1, 0, 0, 0), (588, .i2l, 1, 0, 0, 0), (589, .bipush 32, 2, 0, 0, 0), (591, .lshl, 1, 0, 0, 0), (592, .aload_n 0, 1, 0, 0, 0), (593, .iload_n 3, 1, 0, 0, 0), (594, .iconst 3, 1, 0, 0, 0), (595, .iadd, 1, 0, 0, 0), (596, .iaload, 1, 0, 0, 0), (597, .i2l, 1, 0, 0, 0), (598, .ldc2_w 85, 3, 0, 0, 4294967295), (601, .land, 1, 0, 0, 0), (602, .lor, 1, 0, 0, 0), (603, .invokevirtual 87, 3, 81, 3, 10), (606, .aload_n 2, 1, 0, 0, 0), (607, .aload_n 0, 1, 0, 0, 0), (608, .iload_n 3, 1, 0, 0, 0), (609, .iconst 1, 1, 0, 0, 0), (610, .iadd, 1, 0, 0, 0), (611, .iaload, 1, 0, 0, 0), (612, .aload_n 0, 1, 0, 0, 0), (613, .iload_n 3, 1, 0, 0, 0), (614, .iconst 2, 1, 0, 0, 0), (615, .iadd, 1, 0, 0, 0), (616, .iaload, 1, 0, 0, 0), (617, .i2l, 1, 0, 0, 0), (618, .bipush 32, 2, 0, 0, 0), (620, .lshl, 1, 0, 0, 0), (621, .aload_n 0, 1, 0, 0, 0), (622, .iload_n 3, 1, 0, 0, 0), (623, .iconst 3, 1, 0, 0, 0), (624, .iadd, 1, 0, 0, 0), (625, .iaload, 1, 0, 0, 0)]
def zl_9 : List am_R := [(626, .i2l, 1, 0, 0, 0), (627, .ldc2_w 85, 3, 0, 0, 4294967295), (630, .land, 1, 0, 0, 0), (631, .lor, 1, 0, 0, 0), (632, .invokevirtual 91, 3, 147, 3, 11), (635, .if_icmp .eq 381, 3, 1016, 0, 0), (638, .iconst 0, 1, 0, 0, 0), (639, .ireturn, 1, 1, 0, 0), (640, .aload_n 1, 1, 0, 0, 0), (641, .aload_n 0, 1, 0, 0, 0), (642, .iload_n 3, 1, 0, 0, 0), (643, .iconst 1, 1, 0, 0, 0), (644, .iadd, 1, 0, 0, 0), (645, .iaload, 1, 0, 0, 0), (646, .aload_n 0, 1, 0, 0, 0), (647, .iload_n 3, 1, 0, 0, 0), (648, .iconst 2, 1, 0, 0, 0), (649, .iadd, 1, 0, 0, 0), (650, .iaload, 1, 0, 0, 0), (651, .aload_n 0, 1, 0, 0, 0), (652, .iload_n 3, 1, 0, 0, 0), (653, .iconst 3, 1, 0, 0, 0), (654, .iadd, 1, 0, 0, 0), (655, .iaload, 1, 0, 0, 0), (656, .invokevirtual 92, 3, 82, 4, 10), (659, .aload_n 2, 1, 0, 0, 0), (660, .aload_n 0, 1, 0, 0, 0), (661, .iload_n 3, 1, 0, 0, 0), (662, .iconst 1, 1, 0, 0, 0), (663, .iadd, 1, 0, 0, 0), (664, .iaload, 1, 0, 0, 0), (665, .aload_n 0, 1, 0, 0, 0), (666, .iload_n 3, 1, 0, 0, 0), (667, .iconst 2, 1, 0, 0, 0), (668, .iadd, 1, 0, 0, 0), (669, .iaload, 1, 0, 0, 0), (670, .aload_n 0, 1, 0, 0, 0), (671, .iload_n 3, 1, 0, 0, 0), (672, .iconst 3, 1, 0, 0, 0), (673, .iadd, 1, 0, 0, 0)]
def zl_10 : List am_R := [(674, .iaload, 1, 0, 0, 0), (675, .invokevirtual 96, 3, 148, 4, 11), (678, .if_icmp .eq 338, 3, 1016, 0, 0), (681, .iconst 0, 1, 0, 0, 0), (682, .ireturn, 1, 1, 0, 0), (683, .aload_n 1, 1, 0, 0, 0), (684, .invokevirtual 97, 3, 83, 1, 10), (687, .aload_n 2, 1, 0, 0, 0), (688, .invokevirtual 100, 3, 149, 1, 11), (691, .if_icmp .eq 325, 3, 1016, 0, 0), (694, .iconst 0, 1, 0, 0, 0), (695, .ireturn, 1, 1, 0, 0), (696, .aload_n 1, 1, 0, 0, 0), (697, .aload_n 0, 1, 0, 0, 0), (698, .iload_n 3, 1, 0, 0, 0), (699, .iconst 1, 1, 0, 0, 0), (700, .iadd, 1, 0, 0, 0), (701, .iaload, 1, 0, 0, 0), (702, .invokevirtual 101, 3, 84, 2, 10), (705, .aload_n 2, 1, 0, 0, 0), (706, .aload_n 0, 1, 0, 0, 0), (707, .iload_n 3, 1, 0, 0, 0), (708, .iconst 1, 1, 0, 0, 0), (709, .iadd, 1, 0, 0, 0), (710, .iaload, 1, 0, 0, 0), (711, .invokevirtual 104, 3, 150, 2, 11), (714, .if_icmp .eq 302, 3, 1016, 0, 0), (717, .iconst 0, 1, 0, 0, 0), (718, .ireturn, 1, 1, 0, 0), (719, .aload_n 1, 1, 0, 0, 0), (720, .aload_n 0, 1, 0, 0, 0), (721, .iload_n 3, 1, 0, 0, 0), (722, .iconst 1, 1, 0, 0, 0), (723, .iadd, 1, 0, 0, 0), (724, .iaload, 1, 0, 0, 0), (725, .aload_n 0, 1, 0, 0, 0), (726, .iload_n 3, 1, 0, 0, 0), (727, .iconst 2, 1, 0, 0, 0), (728, .iadd, 1, 0, 0, 0), (729, .iaload, 1, 0, 0, 0)]
def zl_11 : List am_R := [(730, .ifCond .eq 7, 3, 737, 0, 0), (733, .iconst 1, 1, 0, 0, 0), (734, .goto 4, 3, 738, 0, 0), (737, .iconst 0, 1, 0, 0, 0), (738, .invokevirtual 105, 3, 85, 3, 10), (741, .aload_n 2, 1, 0, 0, 0), (742, .aload_n 0, 1, 0, 0, 0), (743, .iload_n 3, 1, 0, 0, 0), (744, .iconst 1, 1, 0, 0, 0), (745, .iadd, 1, 0, 0, 0), (746, .iaload, 1, 0, 0, 0), (747, .aload_n 0, 1, 0, 0, 0), (748, .iload_n 3, 1, 0, 0, 0), (749, .iconst 2, 1, 0, 0, 0), (750, .iadd, 1, 0, 0, 0), (751, .iaload, 1, 0, 0, 0), (752, .ifCond .eq 7, 3, 759, 0, 0), (755, .iconst 1, 1, 0, 0, 0), (756, .goto 4, 3, 760, 0, 0), (759, .iconst 0, 1, 0, 0, 0), (760, .invokevirtual 109, 3, 154, 3, 11), (763, .if_icmp .eq 253, 3, 1016, 0, 0), (766, .iconst 0, 1, 0, 0, 0), (767, .ireturn, 1, 1, 0, 0), (768, .aload_n 1, 1, 0, 0, 0), (769, .aload_n 0, 1, 0, 0, 0), (770, .iload_n 3, 1, 0, 0, 0), (771, .iconst 1, 1, 0, 0, 0), (772, .iadd, 1, 0, 0, 0), (773, .iaload, 1, 0, 0, 0), (774, .aload_n 0, 1, 0, 0, 0), (775, .iload_n 3, 1, 0, 0, 0), (776, .iconst 2, 1, 0, 0, 0), (777, .iadd, 1, 0, 0, 0), (778, .iaload, 1, 0, 0, 0), (779, .aload_n 0, 1, 0, 0, 0), (780, .iload_n 3, 1, 0, 0, 0), (781, .iconst 3, 1, 0, 0, 0), (782, .iadd, 1, 0, 0, 0), (783, .iaload, 1, 0, 0, 0)]
def zl_12 : List am_R := [(784, .invokevirtual 110, 3, 86, 4, 10), (787, .aload_n 2, 1, 0, 0, 0), (788, .aload_n 0, 1, 0, 0, 0), (789, .iload_n 3, 1, 0, 0, 0), (790, .iconst 1, 1, 0, 0, 0), (791, .iadd, 1, 0, 0, 0), (792, .iaload, 1, 0, 0, 0), (793, .aload_n 0, 1, 0, 0, 0), (794, .iload_n 3, 1, 0, 0, 0), (795, .iconst 2, 1, 0, 0, 0), (796, .iadd, 1, 0, 0, 0), (797, .iaload, 1, 0, 0, 0), (798, .aload_n 0, 1, 0, 0, 0), (799, .iload_n 3, 1, 0, 0, 0), (800, .iconst 3, 1, 0, 0, 0), (801, .iadd, 1, 0, 0, 0), (802, .iaload, 1, 0, 0, 0), (803, .invokevirtual 113, 3, 156, 4, 11), (806, .if_icmp .eq 210, 3, 1016, 0, 0), (809, .iconst 0, 1, 0, 0, 0), (810, .ireturn, 1, 1, 0, 0), (811, .aload_n 1, 1, 0, 0, 0), (812, .aload_n 0, 1, 0, 0, 0), (813, .iload_n 3, 1, 0, 0, 0), (814, .iconst 1, 1, 0, 0, 0), (815, .iadd, 1, 0, 0, 0), (816, .iaload, 1, 0, 0, 0), (817, .aload_n 0, 1, 0, 0, 0), (818, .iload_n 3, 1, 0, 0, 0), (819, .iconst 2, 1, 0, 0, 0), (820, .iadd, 1, 0, 0, 0), (821, .iaload, 1, 0, 0, 0), (822, .aload_n 0, 1, 0, 0, 0), (823, .iload_n 3, 1, 0, 0, 0), (824, .iconst 3, 1, 0, 0, 0), (825, .iadd, 1, 0, 0, 0), (826, .iaload, 1, 0, 0, 0), (827, .ifCond .eq 7, 3, 834, 0, 0), (830, .iconst 1, 1, 0, 0, 0), (831, .goto 4, 3, 835, 0, 0)]
def zl_13 : List am_R := [(834, .iconst 0, 1, 0, 0, 0), (835, .invokevirtual 114, 3, 87, 4, 10), (838, .aload_n 2, 1, 0, 0, 0), (839, .aload_n 0, 1, 0, 0, 0), (840, .iload_n 3, 1, 0, 0, 0), (841, .iconst 1, 1, 0, 0, 0), (842, .iadd, 1, 0, 0, 0), (843, .iaload, 1, 0, 0, 0), (844, .aload_n 0, 1, 0, 0, 0), (845, .iload_n 3, 1, 0, 0, 0), (846, .iconst 2, 1, 0, 0, 0), (847, .iadd, 1, 0, 0, 0), (848, .iaload, 1, 0, 0, 0), (849, .aload_n 0, 1, 0, 0, 0), (850, .iload_n 3, 1, 0, 0, 0), (851, .iconst 3, 1, 0, 0, 0), (852, .iadd, 1, 0, 0, 0), (853, .iaload, 1, 0, 0, 0), (854, .ifCond .eq 7, 3, 861, 0, 0), (857, .iconst 1, 1, 0, 0, 0), (858, .goto 4, 3, 862, 0, 0), (861, .iconst 0, 1, 0, 0, 0), (862, .invokevirtual 118, 3, 157, 4, 11), (865, .if_icmp .eq 151, 3, 1016, 0, 0), (868, .iconst 0, 1, 0, 0, 0), (869, .ireturn, 1, 1, 0, 0), (870, .aload_n 1, 1, 0, 0, 0), (871, .aload_n 0, 1, 0, 0, 0), (872, .iload_n 3, 1, 0, 0, 0), (873, .iconst 1, 1, 0, 0, 0), (874, .iadd, 1, 0, 0, 0), (875, .iaload, 1, 0, 0, 0), (876, .i2l, 1, 0, 0, 0), (877, .bipush 32, 2, 0, 0, 0), (879, .lshl, 1, 0, 0, 0), (880, .aload_n 0, 1, 0, 0, 0), (881, .iload_n 3, 1, 0, 0, 0), (882, .iconst 2, 1, 0, 0, 0), (883, .iadd, 1, 0, 0, 0), (884, .iaload, 1, 0, 0, 0)]
def zl_14 : List am_R := [(885, .i2l, 1, 0, 0, 0), (886, .ldc2_w 85, 3, 0, 0, 4294967295), (889, .land, 1, 0, 0, 0), (890, .lor, 1, 0, 0, 0), (891, .invokevirtual 119, 3, 88, 2, 10), (894, .aload_n 2, 1, 0, 0, 0), (895, .aload_n 0, 1, 0, 0, 0), (896, .iload_n 3, 1, 0, 0, 0), (897, .iconst 1, 1, 0, 0, 0), (898, .iadd, 1, 0, 0, 0), (899, .iaload, 1, 0, 0, 0), (900, .i2l, 1, 0, 0, 0), (901, .bipush 32, 2, 0, 0, 0), (903, .lshl, 1, 0, 0, 0), (904, .aload_n 0, 1, 0, 0, 0), (905, .iload_n 3, 1, 0, 0, 0), (906, .iconst 2, 1, 0, 0, 0), (907, .iadd, 1, 0, 0, 0), (908, .iaload, 1, 0, 0, 0), (909, .i2l, 1, 0, 0, 0), (910, .ldc2_w 85, 3, 0, 0, 4294967295), (913, .land, 1, 0, 0, 0), (914, .lor, 1, 0, 0, 0), (915, .invokevirtual 123, 3, 158, 2, 11), (918, .lcmp, 1, 0, 0, 0), (919, .ifCond .eq 97, 3, 1016, 0, 0), (922, .iconst 0, 1, 0, 0, 0), (923, .ireturn, 1, 1, 0, 0), (924, .aload_n 1, 1, 0, 0, 0), (925, .aload_n 0, 1, 0, 0, 0), (926, .iload_n 3, 1, 0, 0, 0), (927, .iconst 1, 1, 0, 0, 0), (928, .iadd, 1, 0, 0, 0), (929, .iaload, 1, 0, 0, 0), (930, .invokevirtual 124, 3, 89, 2, 10), (933, .aload_n 2, 1, 0, 0, 0), (934, .aload_n 0, 1, 0, 0, 0), (935, .iload_n 3, 1, 0, 0, 0), (936, .iconst 1, 1, 0, 0, 0), (937, .iadd, 1, 0, 0, 0)]
def zl_15 : List am_R := [(938, .iaload, 1, 0, 0, 0), (939, .invokevirtual 127, 3, 159, 2, 11), (942, .if_icmp .eq 74, 3, 1016, 0, 0), (945, .iconst 0, 1, 0, 0, 0), (946, .ireturn, 1, 1, 0, 0), (947, .aload_n 1, 1, 0, 0, 0), (948, .aload_n 0, 1, 0, 0, 0), (949, .iload_n 3, 1, 0, 0, 0), (950, .iconst 1, 1, 0, 0, 0), (951, .iadd, 1, 0, 0, 0), (952, .iaload, 1, 0, 0, 0), (953, .invokevirtual 128, 3, 90, 2, 10), (956, .aload_n 2, 1, 0, 0, 0), (957, .aload_n 0, 1, 0, 0, 0), (958, .iload_n 3, 1, 0, 0, 0), (959, .iconst 1, 1, 0, 0, 0), (960, .iadd, 1, 0, 0, 0), (961, .iaload, 1, 0, 0, 0), (962, .invokevirtual 131, 3, 160, 2, 11), (965, .if_icmp .eq 51, 3, 1016, 0, 0), (968, .iconst 0, 1, 0, 0, 0), (969, .ireturn, 1, 1, 0, 0), (970, .aload_n 1, 1, 0, 0, 0), (971, .aload_n 0, 1, 0, 0, 0), (972, .iload_n 3, 1, 0, 0, 0), (973, .iconst 1, 1, 0, 0, 0), (974, .iadd, 1, 0, 0, 0), (975, .iaload, 1, 0, 0, 0), (976, .invokevirtual 132, 3, 91, 2, 10), (979, .aload_n 2, 1, 0, 0, 0), (980, .aload_n 0, 1, 0, 0, 0), (981, .iload_n 3, 1, 0, 0, 0), (982, .iconst 1, 1, 0, 0, 0), (983, .iadd, 1, 0, 0, 0), (984, .iaload, 1, 0, 0, 0), (985, .invokevirtual 135, 3, 161, 2, 11), (988, .if_icmp .eq 28, 3, 1016, 0, 0), (991, .iconst 0, 1, 0, 0, 0), (992, .ireturn, 1, 1, 0, 0), (993, .aload_n 1, 1, 0, 0, 0)]
def zl_16 : List am_R := [(994, .aload_n 0, 1, 0, 0, 0), (995, .iload_n 3, 1, 0, 0, 0), (996, .iconst 1, 1, 0, 0, 0), (997, .iadd, 1, 0, 0, 0), (998, .iaload, 1, 0, 0, 0), (999, .invokevirtual 136, 3, 92, 2, 10), (1002, .aload_n 2, 1, 0, 0, 0), (1003, .aload_n 0, 1, 0, 0, 0), (1004, .iload_n 3, 1, 0, 0, 0), (1005, .iconst 1, 1, 0, 0, 0), (1006, .iadd, 1, 0, 0, 0), (1007, .iaload, 1, 0, 0, 0), (1008, .invokevirtual 139, 3, 162, 2, 11), (1011, .if_icmp .eq 5, 3, 1016, 0, 0), (1014, .iconst 0, 1, 0, 0, 0), (1015, .ireturn, 1, 1, 0, 0), (1016, .iinc 3 4, 3, 0, 0, 0), (1019, .goto (-1001), 3, 18, 0, 0), (1022, .iconst 1, 1, 0, 0, 0), (1023, .ireturn, 1, 1, 0, 0)]
set_option maxRecDepth 100000 in
set_option maxHeartbeats 4000000 in
theorem zl_ok0 : zl_0.all (am_chk zi_L_law) = true := by decide +kernel
set_option maxRecDepth 100000 in
set_option maxHeartbeats 4000000 in
theorem zl_ok1 : zl_1.all (am_chk zi_L_law) = true := by decide +kernel
set_option maxRecDepth 100000 in
set_option maxHeartbeats 4000000 in
theorem zl_ok2 : zl_2.all (am_chk zi_L_law) = true := by decide +kernel
set_option maxRecDepth 100000 in
set_option maxHeartbeats 4000000 in
theorem zl_ok3 : zl_3.all (am_chk zi_L_law) = true := by decide +kernel
set_option maxRecDepth 100000 in
set_option maxHeartbeats 4000000 in
theorem zl_ok4 : zl_4.all (am_chk zi_L_law) = true := by decide +kernel
set_option maxRecDepth 100000 in
set_option maxHeartbeats 4000000 in
theorem zl_ok5 : zl_5.all (am_chk zi_L_law) = true := by decide +kernel
set_option maxRecDepth 100000 in
set_option maxHeartbeats 4000000 in
theorem zl_ok6 : zl_6.all (am_chk zi_L_law) = true := by decide +kernel
set_option maxRecDepth 100000 in
set_option maxHeartbeats 4000000 in
theorem zl_ok7 : zl_7.all (am_chk zi_L_law) = true := by decide +kernel
set_option maxRecDepth 100000 in
set_option maxHeartbeats 4000000 in
theorem zl_ok8 : zl_8.all (am_chk zi_L_law) = true := by decide +kernel
set_option maxRecDepth 100000 in
set_option maxHeartbeats 4000000 in
theorem zl_ok9 : zl_9.all (am_chk zi_L_law) = true := by decide +kernel
set_option maxRecDepth 100000 in
set_option maxHeartbeats 4000000 in
theorem zl_ok10 : zl_10.all (am_chk zi_L_law) = true := by decide +kernel
set_option maxRecDepth 100000 in
set_option maxHeartbeats 4000000 in
theorem zl_ok11 : zl_11.all (am_chk zi_L_law) = true := by decide +kernel
set_option maxRecDepth 100000 in
set_option maxHeartbeats 4000000 in
theorem zl_ok12 : zl_12.all (am_chk zi_L_law) = true := by decide +kernel
set_option maxRecDepth 100000 in
set_option maxHeartbeats 4000000 in
theorem zl_ok13 : zl_13.all (am_chk zi_L_law) = true := by decide +kernel
set_option maxRecDepth 100000 in
set_option maxHeartbeats 4000000 in
theorem zl_ok14 : zl_14.all (am_chk zi_L_law) = true := by decide +kernel
set_option maxRecDepth 100000 in
set_option maxHeartbeats 4000000 in
theorem zl_ok15 : zl_15.all (am_chk zi_L_law) = true := by decide +kernel
set_option maxRecDepth 100000 in
set_option maxHeartbeats 4000000 in
theorem zl_ok16 : zl_16.all (am_chk zi_L_law) = true := by decide +kernel
set_option maxRecDepth 100000 in
set_option maxHeartbeats 4000000 in
theorem zl_eq : zr_L_law = zl_0 ++ (zl_1 ++ (zl_2 ++ (zl_3 ++ (zl_4 ++ (zl_5 ++ (zl_6 ++ (zl_7 ++ (zl_8 ++ (zl_9 ++ (zl_10 ++ (zl_11 ++ (zl_12 ++ (zl_13 ++ (zl_14 ++ (zl_15 ++ (zl_16)))))))))))))))) := by rfl
set_option maxRecDepth 100000 in
set_option maxHeartbeats 4000000 in
theorem zl_all : zr_L_law.all (am_chk zi_L_law) = true := by
  rw [zl_eq]
  simp only [List.all_append, Bool.and_eq_true]
  exact ⟨zl_ok0, zl_ok1, zl_ok2, zl_ok3, zl_ok4, zl_ok5, zl_ok6, zl_ok7, zl_ok8, zl_ok9, zl_ok10, zl_ok11, zl_ok12, zl_ok13, zl_ok14, zl_ok15, zl_ok16⟩
theorem am_chunk {own : String} {rows : List am_R} (ps : List Nat) (h2 : rows.flatMap (am_wf own) = ps.filterMap (fun i => lw_tbl[i]?)) (h3 : (rows.flatMap (am_wf own)).all goodWord = true) : ∀ r ∈ rows, ∀ w ∈ am_wf own r, w ∈ lw_tbl ∧ goodWord w = true := by
  intro r hr w hw
  have hm : w ∈ rows.flatMap (am_wf own) := List.mem_flatMap.mpr ⟨r, hr, hw⟩
  refine ⟨?_, List.all_eq_true.mp h3 w hm⟩
  rw [h2] at hm
  obtain ⟨i, -, hi⟩ := List.mem_filterMap.mp hm
  exact List.mem_of_getElem? hi
theorem am_chunkN {own : String} {rows : List am_R} (h : (rows.filterMap (am_nest own)) = []) : ∀ r ∈ rows, ∀ w, am_nest own r = some w → w ∈ am_nests := by
  intro r hr w hw
  have hm : w ∈ rows.filterMap (am_nest own) := List.mem_filterMap.mpr ⟨r, hr, hw⟩
  rw [h] at hm
  cases hm
set_option maxRecDepth 100000 in
set_option maxHeartbeats 4000000 in
theorem zl_w0 : ∀ r ∈ zl_0, ∀ w ∈ am_wf zi_L_law.1.cls r, w ∈ lw_tbl ∧ goodWord w = true := am_chunk [52, 53, 37, 54, 55, 37, 56, 806, 807, 48, 808, 809, 48, 810, 385, 386, 387, 37, 388, 904, 905, 906, 48, 907] (by decide +kernel) (by decide +kernel)
set_option maxRecDepth 100000 in
set_option maxHeartbeats 4000000 in
theorem zl_n0 : ∀ r ∈ zl_0, ∀ w, am_nest zi_L_law.1.cls r = some w → w ∈ am_nests := am_chunkN (by decide +kernel)
set_option maxRecDepth 100000 in
set_option maxHeartbeats 4000000 in
theorem zl_w1 : ∀ r ∈ zl_1, ∀ w ∈ am_wf zi_L_law.1.cls r, w ∈ lw_tbl ∧ goodWord w = true := am_chunk [396, 397, 398, 37, 399, 912, 913, 914, 48, 915, 404, 405, 406, 37, 407, 916, 917, 918, 48, 919, 432, 433, 434, 37, 435, 928, 929, 930, 48, 931, 452, 453, 454, 37, 455] (by decide +kernel) (by decide +kernel)
set_option maxRecDepth 100000 in
set_option maxHeartbeats 4000000 in
theorem zl_n1 : ∀ r ∈ zl_1, ∀ w, am_nest zi_L_law.1.cls r = some w → w ∈ am_nests := am_chunkN (by decide +kernel)
set_option maxRecDepth 100000 in
set_option maxHeartbeats 4000000 in
theorem zl_w2 : ∀ r ∈ zl_2, ∀ w ∈ am_wf zi_L_law.1.cls r, w ∈ lw_tbl ∧ goodWord w = true := am_chunk [932, 933, 934, 48, 935, 472, 473, 474, 37, 475, 940, 941, 942, 48, 943] (by decide +kernel) (by decide +kernel)
set_option maxRecDepth 100000 in
set_option maxHeartbeats 4000000 in
theorem zl_n2 : ∀ r ∈ zl_2, ∀ w, am_nest zi_L_law.1.cls r = some w → w ∈ am_nests := am_chunkN (by decide +kernel)
set_option maxRecDepth 100000 in
set_option maxHeartbeats 4000000 in
theorem zl_w3 : ∀ r ∈ zl_3, ∀ w ∈ am_wf zi_L_law.1.cls r, w ∈ lw_tbl ∧ goodWord w = true := am_chunk [510, 511, 512, 37, 513, 963, 964, 965, 48, 966, 514, 515, 516, 37, 517, 967, 968, 969, 48, 970, 535, 536, 537, 37, 538] (by decide +kernel) (by decide +kernel)
set_option maxRecDepth 100000 in
set_option maxHeartbeats 4000000 in
theorem zl_n3 : ∀ r ∈ zl_3, ∀ w, am_nest zi_L_law.1.cls r = some w → w ∈ am_nests := am_chunkN (by decide +kernel)
set_option maxRecDepth 100000 in
set_option maxHeartbeats 4000000 in
theorem zl_w4 : ∀ r ∈ zl_4, ∀ w ∈ am_wf zi_L_law.1.cls r, w ∈ lw_tbl ∧ goodWord w = true := am_chunk [983, 984, 985, 48, 986, 543, 544, 545, 37, 546, 991, 992, 993, 48, 994, 551, 552, 553, 37, 554, 995, 996, 997, 48, 998] (by decide +kernel) (by decide +kernel)
set_option maxRecDepth 100000 in
set_option maxHeartbeats 4000000 in
theorem zl_n4 : ∀ r ∈ zl_4, ∀ w, am_nest zi_L_law.1.cls r = some w → w ∈ am_nests := am_chunkN (by decide +kernel)
set_option maxRecDepth 100000 in
set_option maxHeartbeats 4000000 in
theorem zl_w5 : ∀ r ∈ zl_5, ∀ w ∈ am_wf zi_L_law.1.cls r, w ∈ lw_tbl ∧ goodWord w = true := am_chunk [559, 560, 561, 37, 562, 999, 1000, 1001, 48, 1002, 567, 568, 569, 37, 570, 1003, 1004, 1005, 48, 1006] (by decide +kernel) (by decide +kernel)
set_option maxRecDepth 100000 in
set_option maxHeartbeats 4000000 in
theorem zl_n5 : ∀ r ∈ zl_5, ∀ w, am_nest zi_L_law.1.cls r = some w → w ∈ am_nests := am_chunkN (by decide +kernel)
set_option maxRecDepth 100000 in
set_option maxHeartbeats 4000000 in
theorem zl_w6 : ∀ r ∈ zl_6, ∀ w ∈ am_wf zi_L_law.1.cls r, w ∈ lw_tbl ∧ goodWord w = true := am_chunk [578, 579, 580, 37, 581, 1016, 1017, 1018, 48, 1019, 606, 607, 608, 37, 609, 1040, 1041, 1042, 48, 1043] (by decide +kernel) (by decide +kernel)
set_option maxRecDepth 100000 in
set_option maxHeartbeats 4000000 in
theorem zl_n6 : ∀ r ∈ zl_6, ∀ w, am_nest zi_L_law.1.cls r = some w → w ∈ am_nests := am_chunkN (by decide +kernel)
set_option maxRecDepth 100000 in
set_option maxHeartbeats 4000000 in
theorem zl_w7 : ∀ r ∈ zl_7, ∀ w ∈ am_wf zi_L_law.1.cls r, w ∈ lw_tbl ∧ goodWord w = true := am_chunk [610, 611, 612, 37, 613, 1044, 1045, 1046, 48, 1047, 625, 626, 627, 37, 628, 1055, 1056, 1057, 48, 1058] (by decide +kernel) (by decide +kernel)
set_option maxRecDepth 100000 in
set_option maxHeartbeats 4000000 in
theorem zl_n7 : ∀ r ∈ zl_7, ∀ w, am_nest zi_L_law.1.cls r = some w → w ∈ am_nests := am_chunkN (by decide +kernel)
set_option maxRecDepth 100000 in
set_option maxHeartbeats 4000000 in
theorem zl_w8 : ∀ r ∈ zl_8, ∀ w ∈ am_wf zi_L_law.1.cls r, w ∈ lw_tbl ∧ goodWord w = true := am_chunk [1137, 634, 635, 636, 37, 637] (by decide +kernel) (by decide +kernel)
set_option maxRecDepth 100000 in
set_option maxHeartbeats 4000000 in
theorem zl_n8 : ∀ r ∈ zl_8, ∀ w, am_nest zi_L_law.1.cls r = some w → w ∈ am_nests := am_chunkN (by decide +kernel)
set_option maxRecDepth 100000 in
set_option maxHeartbeats 4000000 in
theorem zl_w9 : ∀ r ∈ zl_9, ∀ w ∈ am_wf zi_L_law.1.cls r, w ∈ lw_tbl ∧ goodWord w = true := am_chunk [1137, 1059, 1060, 1061, 48, 1062, 664, 665, 666, 37, 667] (by decide +kernel) (by decide +kernel)
set_option maxRecDepth 100000 in
set_option maxHeartbeats 4000000 in
theorem zl_n9 : ∀ r ∈ zl_9, ∀ w, am_nest zi_L_law.1.cls r = some w → w ∈ am_nests := am_chunkN (by decide +kernel)
set_option maxRecDepth 100000 in
set_option maxHeartbeats 4000000 in
theorem zl_w10 : ∀ r ∈ zl_10, ∀ w ∈ am_wf zi_L_law.1.cls r, w ∈ lw_tbl ∧ goodWord w = true := am_chunk [1072, 1073, 1074, 48, 1075, 672, 673, 674, 37, 675, 1078, 1079, 1080, 48, 1081, 680, 681, 682, 37, 683, 1082, 1083, 1084, 48, 1085] (by decide +kernel) (by decide +kernel)
set_option maxRecDepth 100000 in
set_option maxHeartbeats 4000000 in
theorem zl_n10 : ∀ r ∈ zl_10, ∀ w, am_nest zi_L_law.1.cls r = some w → w ∈ am_nests := am_chunkN (by decide +kernel)
set_option maxRecDepth 100000 in
set_option maxHeartbeats 4000000 in
theorem zl_w11 : ∀ r ∈ zl_11, ∀ w ∈ am_wf zi_L_law.1.cls r, w ∈ lw_tbl ∧ goodWord w = true := am_chunk [694, 695, 696, 37, 697, 1086, 1087, 1088, 48, 1089] (by decide +kernel) (by decide +kernel)
set_option maxRecDepth 100000 in
set_option maxHeartbeats 4000000 in
theorem zl_n11 : ∀ r ∈ zl_11, ∀ w, am_nest zi_L_law.1.cls r = some w → w ∈ am_nests := am_chunkN (by decide +kernel)
set_option maxRecDepth 100000 in
set_option maxHeartbeats 4000000 in
theorem zl_w12 : ∀ r ∈ zl_12, ∀ w ∈ am_wf zi_L_law.1.cls r, w ∈ lw_tbl ∧ goodWord w = true := am_chunk [725, 726, 727, 37, 728, 1100, 1101, 1102, 48, 1103] (by decide +kernel) (by decide +kernel)
set_option maxRecDepth 100000 in
set_option maxHeartbeats 4000000 in
theorem zl_n12 : ∀ r ∈ zl_12, ∀ w, am_nest zi_L_law.1.cls r = some w → w ∈ am_nests := am_chunkN (by decide +kernel)
set_option maxRecDepth 100000 in
set_option maxHeartbeats 4000000 in
theorem zl_w13 : ∀ r ∈ zl_13, ∀ w ∈ am_wf zi_L_law.1.cls r, w ∈ lw_tbl ∧ goodWord w = true := am_chunk [738, 739, 740, 37, 741, 1108, 1109, 1110, 48, 1111] (by decide +kernel) (by decide +kernel)
set_option maxRecDepth 100000 in
set_option maxHeartbeats 4000000 in
theorem zl_n13 : ∀ r ∈ zl_13, ∀ w, am_nest zi_L_law.1.cls r = some w → w ∈ am_nests := am_chunkN (by decide +kernel)
set_option maxRecDepth 100000 in
set_option maxHeartbeats 4000000 in
theorem zl_w14 : ∀ r ∈ zl_14, ∀ w ∈ am_wf zi_L_law.1.cls r, w ∈ lw_tbl ∧ goodWord w = true := am_chunk [1137, 758, 759, 760, 37, 761, 1137, 1114, 1115, 1116, 48, 1117, 762, 763, 764, 37, 765] (by decide +kernel) (by decide +kernel)
set_option maxRecDepth 100000 in
set_option maxHeartbeats 4000000 in
theorem zl_n14 : ∀ r ∈ zl_14, ∀ w, am_nest zi_L_law.1.cls r = some w → w ∈ am_nests := am_chunkN (by decide +kernel)
set_option maxRecDepth 100000 in
set_option maxHeartbeats 4000000 in
theorem zl_w15 : ∀ r ∈ zl_15, ∀ w ∈ am_wf zi_L_law.1.cls r, w ∈ lw_tbl ∧ goodWord w = true := am_chunk [1118, 1119, 1120, 48, 1121, 780, 781, 782, 37, 783, 1125, 1126, 1127, 48, 1128, 789, 790, 791, 37, 792, 1129, 1130, 1131, 48, 1132] (by decide +kernel) (by decide +kernel)
set_option maxRecDepth 100000 in
set_option maxHeartbeats 4000000 in
theorem zl_n15 : ∀ r ∈ zl_15, ∀ w, am_nest zi_L_law.1.cls r = some w → w ∈ am_nests := am_chunkN (by decide +kernel)
set_option maxRecDepth 100000 in
set_option maxHeartbeats 4000000 in
theorem zl_w16 : ∀ r ∈ zl_16, ∀ w ∈ am_wf zi_L_law.1.cls r, w ∈ lw_tbl ∧ goodWord w = true := am_chunk [797, 798, 799, 37, 800, 1133, 1134, 1135, 48, 1136] (by decide +kernel) (by decide +kernel)
set_option maxRecDepth 100000 in
set_option maxHeartbeats 4000000 in
theorem zl_n16 : ∀ r ∈ zl_16, ∀ w, am_nest zi_L_law.1.cls r = some w → w ∈ am_nests := am_chunkN (by decide +kernel)
set_option maxRecDepth 100000 in
set_option maxHeartbeats 4000000 in
theorem zl_wall : ∀ r ∈ zr_L_law, ∀ w ∈ am_wf zi_L_law.1.cls r, w ∈ lw_tbl ∧ goodWord w = true := by
  rw [zl_eq]
  exact List.forall_mem_append.mpr ⟨zl_w0, List.forall_mem_append.mpr ⟨zl_w1, List.forall_mem_append.mpr ⟨zl_w2, List.forall_mem_append.mpr ⟨zl_w3, List.forall_mem_append.mpr ⟨zl_w4, List.forall_mem_append.mpr ⟨zl_w5, List.forall_mem_append.mpr ⟨zl_w6, List.forall_mem_append.mpr ⟨zl_w7, List.forall_mem_append.mpr ⟨zl_w8, List.forall_mem_append.mpr ⟨zl_w9, List.forall_mem_append.mpr ⟨zl_w10, List.forall_mem_append.mpr ⟨zl_w11, List.forall_mem_append.mpr ⟨zl_w12, List.forall_mem_append.mpr ⟨zl_w13, List.forall_mem_append.mpr ⟨zl_w14, List.forall_mem_append.mpr ⟨zl_w15, zl_w16⟩⟩⟩⟩⟩⟩⟩⟩⟩⟩⟩⟩⟩⟩⟩⟩
set_option maxRecDepth 100000 in
set_option maxHeartbeats 4000000 in
theorem zl_nall : ∀ r ∈ zr_L_law, ∀ w, am_nest zi_L_law.1.cls r = some w → w ∈ am_nests := by
  rw [zl_eq]
  exact List.forall_mem_append.mpr ⟨zl_n0, List.forall_mem_append.mpr ⟨zl_n1, List.forall_mem_append.mpr ⟨zl_n2, List.forall_mem_append.mpr ⟨zl_n3, List.forall_mem_append.mpr ⟨zl_n4, List.forall_mem_append.mpr ⟨zl_n5, List.forall_mem_append.mpr ⟨zl_n6, List.forall_mem_append.mpr ⟨zl_n7, List.forall_mem_append.mpr ⟨zl_n8, List.forall_mem_append.mpr ⟨zl_n9, List.forall_mem_append.mpr ⟨zl_n10, List.forall_mem_append.mpr ⟨zl_n11, List.forall_mem_append.mpr ⟨zl_n12, List.forall_mem_append.mpr ⟨zl_n13, List.forall_mem_append.mpr ⟨zl_n14, List.forall_mem_append.mpr ⟨zl_n15, zl_n16⟩⟩⟩⟩⟩⟩⟩⟩⟩⟩⟩⟩⟩⟩⟩⟩
set_option maxRecDepth 100000 in
set_option maxHeartbeats 4000000 in
theorem zk_L_law : am_okm (zm_L_law, zi_L_law) := ⟨zl_all, zl_wall, zl_nall, rfl, rfl, rfl, by decide +kernel, List.mem_cons_self⟩
