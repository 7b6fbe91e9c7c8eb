/-! rows of the tables of the law -/
def tbL_law_0 : List (Nat × gE) := [(0, (.new 8, 3, 9, 0, 0, 105)), (3, (.dup, 1, 0, 0, 0, 0)), (4, (.invokespecial 15, 3, 59, 0, 9, 107)), (7, (.astore_n 1, 1, 0, 0, 0, 0)), (8, (.new 16, 3, 10, 0, 0, 1024)), (11, (.dup, 1, 0, 0, 0, 0)), (12, (.invokespecial 18, 3, 102, 0, 10, 1026)), (15, (.astore_n 2, 1, 0, 0, 0, 0)), (16, (.iconst 1, 1, 1, 0, 0, 0)), (17, (.newarray .long, 2, 13, 0, 0, 1232)), (19, (.astore_n 3, 1, 0, 0, 0, 0)), (20, (.iconst 0, 1, 0, 0, 0, 0)), (21, (.istore 4, 2, 0, 0, 0, 0)), (23, (.iload 4, 2, 0, 0, 0, 0)), (25, (.aload_n 0, 1, 0, 0, 0, 0)), (27, (.bipush 7, 2, 7, 0, 0, 0)), (29, (.isub, 1, 0, 0, 0, 0)), (30, (.if_icmp .gt 1092, 3, 1122, 0, 0, 0)), (33, (.aload_n 0, 1, 0, 0, 0, 0)), (34, (.iload 4, 2, 0, 0, 0, 0)), (37, (.bipush 31, 2, 31, 0, 0, 0)), (39, (.iand, 1, 0, 0, 0, 0)), (148, (.aload_n 1, 1, 0, 0, 0, 0)), (149, (.aload_n 0, 1, 0, 0, 0, 0)), (150, (.iload 4, 2, 0, 0, 0, 0)), (152, (.iconst 1, 1, 1, 0, 0, 0)), (153, (.iadd, 1, 0, 0, 0, 0)), (155, (.invokevirtual 19, 3, 60, 1, 9, 231)), (158, (.aload_n 2, 1, 0, 0, 0, 0)), (159, (.aload_n 0, 1, 0, 0, 0, 0)), (160, (.iload 4, 2, 0, 0, 0, 0)), (162, (.iconst 1, 1, 1, 0, 0, 0)), (163, (.iadd, 1, 0, 0, 0, 0)), (165, (.invokevirtual 23, 3, 126, 1, 10, 1322)), (168, (.if_icmp .eq 948, 3, 1116, 0, 0, 0)), (171, (.iconst 0, 1, 0, 0, 0, 0)), (172, (.ireturn, 1, 1, 0, 0, 0)), (173, (.aload_n 1, 1, 0, 0, 0, 0)), (174, (.aload_n 0, 1, 0, 0, 0, 0)), (175, (.iload 4, 2, 0, 0, 0, 0))]
def tbL_law_1 : List (Nat × gE) := [(177, (.iconst 1, 1, 1, 0, 0, 0)), (178, (.iadd, 1, 0, 0, 0, 0)), (180, (.invokevirtual 24, 3, 61, 1, 9, 235)), (183, (.aload_n 2, 1, 0, 0, 0, 0)), (184, (.aload_n 0, 1, 0, 0, 0, 0)), (185, (.iload 4, 2, 0, 0, 0, 0)), (187, (.iconst 1, 1, 1, 0, 0, 0)), (188, (.iadd, 1, 0, 0, 0, 0)), (190, (.invokevirtual 27, 3, 128, 1, 10, 1326)), (193, (.if_icmp .eq 923, 3, 1116, 0, 0, 0)), (196, (.iconst 0, 1, 0, 0, 0, 0)), (197, (.ireturn, 1, 1, 0, 0, 0)), (198, (.aload_n 1, 1, 0, 0, 0, 0)), (199, (.aload_n 0, 1, 0, 0, 0, 0)), (200, (.iload 4, 2, 0, 0, 0, 0)), (202, (.iconst 1, 1, 1, 0, 0, 0)), (203, (.iadd, 1, 0, 0, 0, 0)), (205, (.invokevirtual 28, 3, 62, 1, 9, 243)), (208, (.aload_n 2, 1, 0, 0, 0, 0)), (209, (.aload_n 0, 1, 0, 0, 0, 0)), (210, (.iload 4, 2, 0, 0, 0, 0)), (212, (.iconst 1, 1, 1, 0, 0, 0)), (213, (.iadd, 1, 0, 0, 0, 0)), (215, (.invokevirtual 31, 3, 131, 1, 10, 1334)), (218, (.if_icmp .eq 898, 3, 1116, 0, 0, 0)), (221, (.iconst 0, 1, 0, 0, 0, 0)), (222, (.ireturn, 1, 1, 0, 0, 0)), (223, (.aload_n 1, 1, 0, 0, 0, 0)), (224, (.aload_n 0, 1, 0, 0, 0, 0)), (225, (.iload 4, 2, 0, 0, 0, 0)), (227, (.iconst 1, 1, 1, 0, 0, 0)), (228, (.iadd, 1, 0, 0, 0, 0)), (230, (.aload_n 0, 1, 0, 0, 0, 0)), (231, (.iload 4, 2, 0, 0, 0, 0)), (233, (.iconst 2, 1, 2, 0, 0, 0)), (234, (.iadd, 1, 0, 0, 0, 0)), (236, (.invokevirtual 32, 3, 63, 2, 9, 250)), (239, (.aload_n 2, 1, 0, 0, 0, 0)), (240, (.aload_n 0, 1, 0, 0, 0, 0)), (241, (.iload 4, 2, 0, 0, 0, 0))]
def tbL_law_2 : List (Nat × gE) := [(243, (.iconst 1, 1, 1, 0, 0, 0)), (244, (.iadd, 1, 0, 0, 0, 0)), (246, (.aload_n 0, 1, 0, 0, 0, 0)), (247, (.iload 4, 2, 0, 0, 0, 0)), (249, (.iconst 2, 1, 2, 0, 0, 0)), (250, (.iadd, 1, 0, 0, 0, 0)), (252, (.invokevirtual 35, 3, 134, 2, 10, 1341)), (255, (.if_icmp .eq 861, 3, 1116, 0, 0, 0)), (258, (.iconst 0, 1, 0, 0, 0, 0)), (259, (.ireturn, 1, 1, 0, 0, 0)), (260, (.aload_n 1, 1, 0, 0, 0, 0)), (261, (.aload_n 0, 1, 0, 0, 0, 0)), (262, (.iload 4, 2, 0, 0, 0, 0)), (264, (.iconst 1, 1, 1, 0, 0, 0)), (265, (.iadd, 1, 0, 0, 0, 0)), (267, (.invokevirtual 36, 3, 64, 1, 9, 455)), (270, (.aload_n 2, 1, 0, 0, 0, 0)), (271, (.aload_n 0, 1, 0, 0, 0, 0)), (272, (.iload 4, 2, 0, 0, 0, 0)), (274, (.iconst 1, 1, 1, 0, 0, 0)), (275, (.iadd, 1, 0, 0, 0, 0)), (277, (.invokevirtual 39, 3, 136, 1, 10, 1353)), (280, (.if_icmp .eq 836, 3, 1116, 0, 0, 0)), (283, (.iconst 0, 1, 0, 0, 0, 0)), (284, (.ireturn, 1, 1, 0, 0, 0)), (285, (.aload_n 1, 1, 0, 0, 0, 0)), (286, (.aload_n 0, 1, 0, 0, 0, 0)), (287, (.iload 4, 2, 0, 0, 0, 0)), (289, (.iconst 1, 1, 1, 0, 0, 0)), (290, (.iadd, 1, 0, 0, 0, 0)), (292, (.aload_n 0, 1, 0, 0, 0, 0)), (293, (.iload 4, 2, 0, 0, 0, 0)), (295, (.iconst 2, 1, 2, 0, 0, 0)), (296, (.iadd, 1, 0, 0, 0, 0)), (298, (.aload_n 0, 1, 0, 0, 0, 0)), (299, (.iload 4, 2, 0, 0, 0, 0)), (301, (.iconst 3, 1, 3, 0, 0, 0)), (302, (.iadd, 1, 0, 0, 0, 0)), (304, (.ifCond .eq 7, 3, 311, 0, 0, 0)), (307, (.iconst 1, 1, 1, 0, 0, 0))]
def tbL_law_3 : List (Nat × gE) := [(308, (.goto 4, 3, 312, 0, 0, 0)), (311, (.iconst 0, 1, 0, 0, 0, 0)), (312, (.invokevirtual 40, 3, 65, 3, 9, 463)), (315, (.aload_n 2, 1, 0, 0, 0, 0)), (316, (.aload_n 0, 1, 0, 0, 0, 0)), (317, (.iload 4, 2, 0, 0, 0, 0)), (319, (.iconst 1, 1, 1, 0, 0, 0)), (320, (.iadd, 1, 0, 0, 0, 0)), (322, (.aload_n 0, 1, 0, 0, 0, 0)), (323, (.iload 4, 2, 0, 0, 0, 0)), (325, (.iconst 2, 1, 2, 0, 0, 0)), (326, (.iadd, 1, 0, 0, 0, 0)), (328, (.aload_n 0, 1, 0, 0, 0, 0)), (329, (.iload 4, 2, 0, 0, 0, 0)), (331, (.iconst 3, 1, 3, 0, 0, 0)), (332, (.iadd, 1, 0, 0, 0, 0)), (334, (.ifCond .eq 7, 3, 341, 0, 0, 0)), (337, (.iconst 1, 1, 1, 0, 0, 0)), (338, (.goto 4, 3, 342, 0, 0, 0)), (341, (.iconst 0, 1, 0, 0, 0, 0)), (342, (.invokevirtual 44, 3, 138, 3, 10, 1361)), (345, (.if_icmp .eq 771, 3, 1116, 0, 0, 0)), (348, (.iconst 0, 1, 0, 0, 0, 0)), (349, (.ireturn, 1, 1, 0, 0, 0)), (350, (.aload_n 1, 1, 0, 0, 0, 0)), (351, (.aload_n 0, 1, 0, 0, 0, 0)), (352, (.iload 4, 2, 0, 0, 0, 0)), (354, (.iconst 1, 1, 1, 0, 0, 0)), (355, (.iadd, 1, 0, 0, 0, 0)), (357, (.invokevirtual 45, 3, 66, 1, 9, 470)), (360, (.aload_n 2, 1, 0, 0, 0, 0)), (361, (.aload_n 0, 1, 0, 0, 0, 0)), (362, (.iload 4, 2, 0, 0, 0, 0)), (364, (.iconst 1, 1, 1, 0, 0, 0)), (365, (.iadd, 1, 0, 0, 0, 0)), (367, (.invokevirtual 49, 3, 139, 1, 10, 1368)), (370, (.if_icmp .eq 746, 3, 1116, 0, 0, 0)), (373, (.iconst 0, 1, 0, 0, 0, 0)), (374, (.ireturn, 1, 1, 0, 0, 0)), (375, (.aload_n 1, 1, 0, 0, 0, 0))]
def tbL_law_4 : List (Nat × gE) := [(376, (.aload_n 0, 1, 0, 0, 0, 0)), (377, (.iload 4, 2, 0, 0, 0, 0)), (379, (.iconst 1, 1, 1, 0, 0, 0)), (380, (.iadd, 1, 0, 0, 0, 0)), (382, (.aload_n 0, 1, 0, 0, 0, 0)), (383, (.iload 4, 2, 0, 0, 0, 0)), (385, (.iconst 2, 1, 2, 0, 0, 0)), (386, (.iadd, 1, 0, 0, 0, 0)), (388, (.ifCond .eq 7, 3, 395, 0, 0, 0)), (391, (.iconst 1, 1, 1, 0, 0, 0)), (392, (.goto 4, 3, 396, 0, 0, 0)), (395, (.iconst 0, 1, 0, 0, 0, 0)), (396, (.invokevirtual 50, 3, 67, 2, 9, 474)), (399, (.aload_n 2, 1, 0, 0, 0, 0)), (400, (.aload_n 0, 1, 0, 0, 0, 0)), (401, (.iload 4, 2, 0, 0, 0, 0)), (403, (.iconst 1, 1, 1, 0, 0, 0)), (404, (.iadd, 1, 0, 0, 0, 0)), (406, (.aload_n 0, 1, 0, 0, 0, 0)), (407, (.iload 4, 2, 0, 0, 0, 0)), (409, (.iconst 2, 1, 2, 0, 0, 0)), (410, (.iadd, 1, 0, 0, 0, 0)), (412, (.ifCond .eq 7, 3, 419, 0, 0, 0)), (415, (.iconst 1, 1, 1, 0, 0, 0)), (416, (.goto 4, 3, 420, 0, 0, 0)), (419, (.iconst 0, 1, 0, 0, 0, 0)), (420, (.invokevirtual 54, 3, 141, 2, 10, 1372)), (423, (.if_icmp .eq 693, 3, 1116, 0, 0, 0)), (426, (.iconst 0, 1, 0, 0, 0, 0)), (427, (.ireturn, 1, 1, 0, 0, 0)), (428, (.aload_n 1, 1, 0, 0, 0, 0)), (429, (.aload_n 0, 1, 0, 0, 0, 0)), (430, (.iload 4, 2, 0, 0, 0, 0)), (432, (.iconst 1, 1, 1, 0, 0, 0)), (433, (.iadd, 1, 0, 0, 0, 0)), (435, (.aload_n 0, 1, 0, 0, 0, 0)), (436, (.iload 4, 2, 0, 0, 0, 0)), (438, (.iconst 2, 1, 2, 0, 0, 0)), (439, (.iadd, 1, 0, 0, 0, 0)), (441, (.aload_n 0, 1, 0, 0, 0, 0))]
def tbL_law_5 : List (Nat × gE) := [(442, (.iload 4, 2, 0, 0, 0, 0)), (444, (.iconst 3, 1, 3, 0, 0, 0)), (445, (.iadd, 1, 0, 0, 0, 0)), (447, (.aload_n 0, 1, 0, 0, 0, 0)), (448, (.iload 4, 2, 0, 0, 0, 0)), (450, (.iconst 4, 1, 4, 0, 0, 0)), (451, (.iadd, 1, 0, 0, 0, 0)), (453, (.invokevirtual 55, 3, 68, 4, 9, 482)), (456, (.aload_n 2, 1, 0, 0, 0, 0)), (457, (.aload_n 0, 1, 0, 0, 0, 0)), (458, (.iload 4, 2, 0, 0, 0, 0)), (460, (.iconst 1, 1, 1, 0, 0, 0)), (461, (.iadd, 1, 0, 0, 0, 0)), (463, (.aload_n 0, 1, 0, 0, 0, 0)), (464, (.iload 4, 2, 0, 0, 0, 0)), (466, (.iconst 2, 1, 2, 0, 0, 0)), (467, (.iadd, 1, 0, 0, 0, 0)), (469, (.aload_n 0, 1, 0, 0, 0, 0)), (470, (.iload 4, 2, 0, 0, 0, 0)), (472, (.iconst 3, 1, 3, 0, 0, 0)), (473, (.iadd, 1, 0, 0, 0, 0)), (475, (.aload_n 0, 1, 0, 0, 0, 0)), (476, (.iload 4, 2, 0, 0, 0, 0)), (478, (.iconst 4, 1, 4, 0, 0, 0)), (479, (.iadd, 1, 0, 0, 0, 0)), (481, (.invokevirtual 59, 3, 142, 4, 10, 1380)), (484, (.if_icmp .eq 632, 3, 1116, 0, 0, 0)), (487, (.iconst 0, 1, 0, 0, 0, 0)), (488, (.ireturn, 1, 1, 0, 0, 0)), (489, (.aload_n 1, 1, 0, 0, 0, 0)), (490, (.aload_n 0, 1, 0, 0, 0, 0)), (491, (.iload 4, 2, 0, 0, 0, 0)), (493, (.iconst 1, 1, 1, 0, 0, 0)), (494, (.iadd, 1, 0, 0, 0, 0)), (496, (.aload_n 0, 1, 0, 0, 0, 0)), (497, (.iload 4, 2, 0, 0, 0, 0)), (499, (.iconst 2, 1, 2, 0, 0, 0)), (500, (.iadd, 1, 0, 0, 0, 0)), (502, (.invokevirtual 60, 3, 69, 2, 9, 490)), (505, (.aload_n 2, 1, 0, 0, 0, 0))]
def tbL_law_6 : List (Nat × gE) := [(506, (.aload_n 0, 1, 0, 0, 0, 0)), (507, (.iload 4, 2, 0, 0, 0, 0)), (509, (.iconst 1, 1, 1, 0, 0, 0)), (510, (.iadd, 1, 0, 0, 0, 0)), (512, (.aload_n 0, 1, 0, 0, 0, 0)), (513, (.iload 4, 2, 0, 0, 0, 0)), (515, (.iconst 2, 1, 2, 0, 0, 0)), (516, (.iadd, 1, 0, 0, 0, 0)), (518, (.invokevirtual 64, 3, 143, 2, 10, 1384)), (521, (.if_icmp .eq 595, 3, 1116, 0, 0, 0)), (524, (.iconst 0, 1, 0, 0, 0, 0)), (525, (.ireturn, 1, 1, 0, 0, 0)), (526, (.aload_n 1, 1, 0, 0, 0, 0)), (527, (.aload_n 0, 1, 0, 0, 0, 0)), (528, (.iload 4, 2, 0, 0, 0, 0)), (530, (.iconst 1, 1, 1, 0, 0, 0)), (531, (.iadd, 1, 0, 0, 0, 0)), (533, (.i2l, 1, 0, 0, 0, 0)), (534, (.bipush 32, 2, 32, 0, 0, 0)), (536, (.lshl, 1, 0, 0, 0, 0)), (537, (.aload_n 0, 1, 0, 0, 0, 0)), (538, (.iload 4, 2, 0, 0, 0, 0)), (540, (.iconst 2, 1, 2, 0, 0, 0)), (541, (.iadd, 1, 0, 0, 0, 0)), (543, (.i2l, 1, 0, 0, 0, 0)), (544, (.ldc2_w 65, 3, 4294967295, 0, 0, 1515)), (547, (.land, 1, 0, 0, 0, 0)), (548, (.lor, 1, 0, 0, 0, 0)), (549, (.aload_n 0, 1, 0, 0, 0, 0)), (550, (.iload 4, 2, 0, 0, 0, 0)), (552, (.iconst 3, 1, 3, 0, 0, 0)), (553, (.iadd, 1, 0, 0, 0, 0)), (555, (.i2l, 1, 0, 0, 0, 0)), (556, (.bipush 32, 2, 32, 0, 0, 0)), (558, (.lshl, 1, 0, 0, 0, 0)), (559, (.aload_n 0, 1, 0, 0, 0, 0)), (560, (.iload 4, 2, 0, 0, 0, 0)), (562, (.iconst 4, 1, 4, 0, 0, 0)), (563, (.iadd, 1, 0, 0, 0, 0)), (565, (.i2l, 1, 0, 0, 0, 0))]
def tbL_law_7 : List (Nat × gE) := [(566, (.ldc2_w 65, 3, 4294967295, 0, 0, 1515)), (569, (.land, 1, 0, 0, 0, 0)), (570, (.lor, 1, 0, 0, 0, 0)), (571, (.aload_n 0, 1, 0, 0, 0, 0)), (572, (.iload 4, 2, 0, 0, 0, 0)), (574, (.iconst 5, 1, 5, 0, 0, 0)), (575, (.iadd, 1, 0, 0, 0, 0)), (577, (.i2l, 1, 0, 0, 0, 0)), (578, (.bipush 32, 2, 32, 0, 0, 0)), (580, (.lshl, 1, 0, 0, 0, 0)), (581, (.aload_n 0, 1, 0, 0, 0, 0)), (582, (.iload 4, 2, 0, 0, 0, 0)), (584, (.bipush 6, 2, 6, 0, 0, 0)), (586, (.iadd, 1, 0, 0, 0, 0)), (588, (.i2l, 1, 0, 0, 0, 0)), (589, (.ldc2_w 65, 3, 4294967295, 0, 0, 1515)), (592, (.land, 1, 0, 0, 0, 0)), (593, (.lor, 1, 0, 0, 0, 0)), (594, (.invokevirtual 67, 3, 70, 3, 9, 499)), (597, (.aload_n 2, 1, 0, 0, 0, 0)), (598, (.aload_n 0, 1, 0, 0, 0, 0)), (599, (.iload 4, 2, 0, 0, 0, 0)), (601, (.iconst 1, 1, 1, 0, 0, 0)), (602, (.iadd, 1, 0, 0, 0, 0)), (604, (.i2l, 1, 0, 0, 0, 0)), (605, (.bipush 32, 2, 32, 0, 0, 0)), (607, (.lshl, 1, 0, 0, 0, 0)), (608, (.aload_n 0, 1, 0, 0, 0, 0)), (609, (.iload 4, 2, 0, 0, 0, 0)), (611, (.iconst 2, 1, 2, 0, 0, 0)), (612, (.iadd, 1, 0, 0, 0, 0)), (614, (.i2l, 1, 0, 0, 0, 0)), (615, (.ldc2_w 65, 3, 4294967295, 0, 0, 1515)), (618, (.land, 1, 0, 0, 0, 0)), (619, (.lor, 1, 0, 0, 0, 0)), (620, (.aload_n 0, 1, 0, 0, 0, 0)), (621, (.iload 4, 2, 0, 0, 0, 0)), (623, (.iconst 3, 1, 3, 0, 0, 0)), (624, (.iadd, 1, 0, 0, 0, 0)), (626, (.i2l, 1, 0, 0, 0, 0))]
def tbL_law_8 : List (Nat × gE) := [(627, (.bipush 32, 2, 32, 0, 0, 0)), (629, (.lshl, 1, 0, 0, 0, 0)), (630, (.aload_n 0, 1, 0, 0, 0, 0)), (631, (.iload 4, 2, 0, 0, 0, 0)), (633, (.iconst 4, 1, 4, 0, 0, 0)), (634, (.iadd, 1, 0, 0, 0, 0)), (636, (.i2l, 1, 0, 0, 0, 0)), (637, (.ldc2_w 65, 3, 4294967295, 0, 0, 1515)), (640, (.land, 1, 0, 0, 0, 0)), (641, (.lor, 1, 0, 0, 0, 0)), (642, (.aload_n 0, 1, 0, 0, 0, 0)), (643, (.iload 4, 2, 0, 0, 0, 0)), (645, (.iconst 5, 1, 5, 0, 0, 0)), (646, (.iadd, 1, 0, 0, 0, 0)), (648, (.i2l, 1, 0, 0, 0, 0)), (649, (.bipush 32, 2, 32, 0, 0, 0)), (651, (.lshl, 1, 0, 0, 0, 0)), (652, (.aload_n 0, 1, 0, 0, 0, 0)), (653, (.iload 4, 2, 0, 0, 0, 0)), (655, (.bipush 6, 2, 6, 0, 0, 0)), (657, (.iadd, 1, 0, 0, 0, 0)), (659, (.i2l, 1, 0, 0, 0, 0)), (660, (.ldc2_w 65, 3, 4294967295, 0, 0, 1515)), (663, (.land, 1, 0, 0, 0, 0)), (664, (.lor, 1, 0, 0, 0, 0)), (665, (.invokevirtual 71, 3, 104, 3, 10, 1238)), (668, (.if_icmp .eq 448, 3, 1116, 0, 0, 0)), (671, (.iconst 0, 1, 0, 0, 0, 0)), (672, (.ireturn, 1, 1, 0, 0, 0)), (673, (.aload_n 1, 1, 0, 0, 0, 0)), (674, (.invokevirtual 72, 3, 71, 0, 9, 512)), (677, (.aload_n 2, 1, 0, 0, 0, 0)), (678, (.invokevirtual 76, 3, 119, 0, 10, 1246)), (681, (.if_icmp .eq 435, 3, 1116, 0, 0, 0)), (684, (.iconst 0, 1, 0, 0, 0, 0)), (685, (.ireturn, 1, 1, 0, 0, 0)), (686, (.aload_n 1, 1, 0, 0, 0, 0)), (687, (.aload_n 0, 1, 0, 0, 0, 0)), (688, (.iload 4, 2, 0, 0, 0, 0)), (690, (.iconst 1, 1, 1, 0, 0, 0))]
def tbL_law_9 : List (Nat × gE) := [(691, (.iadd, 1, 0, 0, 0, 0)), (693, (.aload_n 0, 1, 0, 0, 0, 0)), (694, (.iload 4, 2, 0, 0, 0, 0)), (696, (.iconst 2, 1, 2, 0, 0, 0)), (697, (.iadd, 1, 0, 0, 0, 0)), (699, (.aload_n 0, 1, 0, 0, 0, 0)), (700, (.iload 4, 2, 0, 0, 0, 0)), (702, (.iconst 3, 1, 3, 0, 0, 0)), (703, (.iadd, 1, 0, 0, 0, 0)), (705, (.invokevirtual 77, 3, 72, 3, 9, 693)), (708, (.aload_n 2, 1, 0, 0, 0, 0)), (709, (.aload_n 0, 1, 0, 0, 0, 0)), (710, (.iload 4, 2, 0, 0, 0, 0)), (712, (.iconst 1, 1, 1, 0, 0, 0)), (713, (.iadd, 1, 0, 0, 0, 0)), (715, (.aload_n 0, 1, 0, 0, 0, 0)), (716, (.iload 4, 2, 0, 0, 0, 0)), (718, (.iconst 2, 1, 2, 0, 0, 0)), (719, (.iadd, 1, 0, 0, 0, 0)), (721, (.aload_n 0, 1, 0, 0, 0, 0)), (722, (.iload 4, 2, 0, 0, 0, 0)), (724, (.iconst 3, 1, 3, 0, 0, 0)), (725, (.iadd, 1, 0, 0, 0, 0)), (727, (.invokevirtual 81, 3, 151, 3, 10, 1419)), (730, (.if_icmp .eq 386, 3, 1116, 0, 0, 0)), (733, (.iconst 0, 1, 0, 0, 0, 0)), (734, (.ireturn, 1, 1, 0, 0, 0)), (735, (.aload_n 1, 1, 0, 0, 0, 0)), (736, (.aload_n 0, 1, 0, 0, 0, 0)), (737, (.iload 4, 2, 0, 0, 0, 0)), (739, (.iconst 1, 1, 1, 0, 0, 0)), (740, (.iadd, 1, 0, 0, 0, 0)), (742, (.aload_n 0, 1, 0, 0, 0, 0)), (743, (.iload 4, 2, 0, 0, 0, 0)), (745, (.iconst 2, 1, 2, 0, 0, 0)), (746, (.iadd, 1, 0, 0, 0, 0)), (748, (.invokevirtual 82, 3, 73, 2, 9, 771)), (751, (.aload_n 2, 1, 0, 0, 0, 0)), (752, (.aload_n 0, 1, 0, 0, 0, 0)), (753, (.iload 4, 2, 0, 0, 0, 0))]
def tbL_law_10 : List (Nat × gE) := [(755, (.iconst 1, 1, 1, 0, 0, 0)), (756, (.iadd, 1, 0, 0, 0, 0)), (758, (.aload_n 0, 1, 0, 0, 0, 0)), (759, (.iload 4, 2, 0, 0, 0, 0)), (761, (.iconst 2, 1, 2, 0, 0, 0)), (762, (.iadd, 1, 0, 0, 0, 0)), (764, (.invokevirtual 85, 3, 160, 2, 10, 1459)), (767, (.if_icmp .eq 349, 3, 1116, 0, 0, 0)), (770, (.iconst 0, 1, 0, 0, 0, 0)), (771, (.ireturn, 1, 1, 0, 0, 0)), (772, (.aload_n 1, 1, 0, 0, 0, 0)), (773, (.aload_n 0, 1, 0, 0, 0, 0)), (774, (.iload 4, 2, 0, 0, 0, 0)), (776, (.iconst 1, 1, 1, 0, 0, 0)), (777, (.iadd, 1, 0, 0, 0, 0)), (779, (.aload_n 0, 1, 0, 0, 0, 0)), (780, (.iload 4, 2, 0, 0, 0, 0)), (782, (.iconst 2, 1, 2, 0, 0, 0)), (783, (.iadd, 1, 0, 0, 0, 0)), (785, (.ifCond .eq 7, 3, 792, 0, 0, 0)), (788, (.iconst 1, 1, 1, 0, 0, 0)), (789, (.goto 4, 3, 793, 0, 0, 0)), (792, (.iconst 0, 1, 0, 0, 0, 0)), (793, (.invokevirtual 86, 3, 74, 2, 9, 829)), (796, (.aload_n 2, 1, 0, 0, 0, 0)), (797, (.aload_n 0, 1, 0, 0, 0, 0)), (798, (.iload 4, 2, 0, 0, 0, 0)), (800, (.iconst 1, 1, 1, 0, 0, 0)), (801, (.iadd, 1, 0, 0, 0, 0)), (803, (.aload_n 0, 1, 0, 0, 0, 0)), (804, (.iload 4, 2, 0, 0, 0, 0)), (806, (.iconst 2, 1, 2, 0, 0, 0)), (807, (.iadd, 1, 0, 0, 0, 0)), (809, (.ifCond .eq 7, 3, 816, 0, 0, 0)), (812, (.iconst 1, 1, 1, 0, 0, 0)), (813, (.goto 4, 3, 817, 0, 0, 0)), (816, (.iconst 0, 1, 0, 0, 0, 0)), (817, (.invokevirtual 89, 3, 161, 2, 10, 1463)), (820, (.if_icmp .eq 296, 3, 1116, 0, 0, 0)), (823, (.iconst 0, 1, 0, 0, 0, 0))]
def tbL_law_11 : List (Nat × gE) := [(824, (.ireturn, 1, 1, 0, 0, 0)), (825, (.aload_n 1, 1, 0, 0, 0, 0)), (826, (.aload_n 0, 1, 0, 0, 0, 0)), (827, (.iload 4, 2, 0, 0, 0, 0)), (829, (.iconst 1, 1, 1, 0, 0, 0)), (830, (.iadd, 1, 0, 0, 0, 0)), (832, (.invokevirtual 90, 3, 75, 1, 9, 844)), (835, (.aload_n 2, 1, 0, 0, 0, 0)), (836, (.aload_n 0, 1, 0, 0, 0, 0)), (837, (.iload 4, 2, 0, 0, 0, 0)), (839, (.iconst 1, 1, 1, 0, 0, 0)), (840, (.iadd, 1, 0, 0, 0, 0)), (842, (.invokevirtual 93, 3, 163, 1, 10, 1467)), (845, (.if_icmp .eq 271, 3, 1116, 0, 0, 0)), (848, (.iconst 0, 1, 0, 0, 0, 0)), (849, (.ireturn, 1, 1, 0, 0, 0)), (850, (.aload_n 1, 1, 0, 0, 0, 0)), (851, (.aload_n 0, 1, 0, 0, 0, 0)), (852, (.iload 4, 2, 0, 0, 0, 0)), (854, (.iconst 1, 1, 1, 0, 0, 0)), (855, (.iadd, 1, 0, 0, 0, 0)), (857, (.invokevirtual 94, 3, 76, 1, 9, 852)), (860, (.aload_n 2, 1, 0, 0, 0, 0)), (861, (.aload_n 0, 1, 0, 0, 0, 0)), (862, (.iload 4, 2, 0, 0, 0, 0)), (864, (.iconst 1, 1, 1, 0, 0, 0)), (865, (.iadd, 1, 0, 0, 0, 0)), (867, (.invokevirtual 97, 3, 157, 1, 10, 1431)), (870, (.if_icmp .eq 246, 3, 1116, 0, 0, 0)), (873, (.iconst 0, 1, 0, 0, 0, 0)), (874, (.ireturn, 1, 1, 0, 0, 0)), (875, (.aload_n 1, 1, 0, 0, 0, 0)), (876, (.aload_n 0, 1, 0, 0, 0, 0)), (877, (.iload 4, 2, 0, 0, 0, 0)), (879, (.iconst 1, 1, 1, 0, 0, 0)), (880, (.iadd, 1, 0, 0, 0, 0)), (882, (.aload_n 0, 1, 0, 0, 0, 0)), (883, (.iload 4, 2, 0, 0, 0, 0)), (885, (.iconst 2, 1, 2, 0, 0, 0)), (886, (.iadd, 1, 0, 0, 0, 0))]
def tbL_law_12 : List (Nat × gE) := [(888, (.invokevirtual 98, 3, 77, 2, 9, 856)), (891, (.aload_n 2, 1, 0, 0, 0, 0)), (892, (.aload_n 0, 1, 0, 0, 0, 0)), (893, (.iload 4, 2, 0, 0, 0, 0)), (895, (.iconst 1, 1, 1, 0, 0, 0)), (896, (.iadd, 1, 0, 0, 0, 0)), (898, (.aload_n 0, 1, 0, 0, 0, 0)), (899, (.iload 4, 2, 0, 0, 0, 0)), (901, (.iconst 2, 1, 2, 0, 0, 0)), (902, (.iadd, 1, 0, 0, 0, 0)), (904, (.invokevirtual 101, 3, 159, 2, 10, 1455)), (907, (.if_icmp .eq 209, 3, 1116, 0, 0, 0)), (910, (.iconst 0, 1, 0, 0, 0, 0)), (911, (.ireturn, 1, 1, 0, 0, 0)), (912, (.aload_n 1, 1, 0, 0, 0, 0)), (913, (.aload_n 0, 1, 0, 0, 0, 0)), (914, (.iload 4, 2, 0, 0, 0, 0)), (916, (.iconst 1, 1, 1, 0, 0, 0)), (917, (.iadd, 1, 0, 0, 0, 0)), (919, (.aload_n 0, 1, 0, 0, 0, 0)), (920, (.iload 4, 2, 0, 0, 0, 0)), (922, (.iconst 2, 1, 2, 0, 0, 0)), (923, (.iadd, 1, 0, 0, 0, 0)), (925, (.invokevirtual 102, 3, 78, 2, 9, 860)), (928, (.aload_n 2, 1, 0, 0, 0, 0)), (929, (.aload_n 0, 1, 0, 0, 0, 0)), (930, (.iload 4, 2, 0, 0, 0, 0)), (932, (.iconst 1, 1, 1, 0, 0, 0)), (933, (.iadd, 1, 0, 0, 0, 0)), (935, (.aload_n 0, 1, 0, 0, 0, 0)), (936, (.iload 4, 2, 0, 0, 0, 0)), (938, (.iconst 2, 1, 2, 0, 0, 0)), (939, (.iadd, 1, 0, 0, 0, 0)), (941, (.invokevirtual 105, 3, 168, 2, 10, 1475)), (944, (.if_icmp .eq 172, 3, 1116, 0, 0, 0)), (947, (.iconst 0, 1, 0, 0, 0, 0)), (948, (.ireturn, 1, 1, 0, 0, 0)), (949, (.aload_n 1, 1, 0, 0, 0, 0)), (950, (.aload_n 0, 1, 0, 0, 0, 0)), (951, (.iload 4, 2, 0, 0, 0, 0))]
def tbL_law_13 : List (Nat × gE) := [(953, (.iconst 1, 1, 1, 0, 0, 0)), (954, (.iadd, 1, 0, 0, 0, 0)), (956, (.aload_n 0, 1, 0, 0, 0, 0)), (957, (.iload 4, 2, 0, 0, 0, 0)), (959, (.iconst 2, 1, 2, 0, 0, 0)), (960, (.iadd, 1, 0, 0, 0, 0)), (962, (.invokevirtual 106, 3, 79, 2, 9, 920)), (965, (.aload_n 2, 1, 0, 0, 0, 0)), (966, (.aload_n 0, 1, 0, 0, 0, 0)), (967, (.iload 4, 2, 0, 0, 0, 0)), (969, (.iconst 1, 1, 1, 0, 0, 0)), (970, (.iadd, 1, 0, 0, 0, 0)), (972, (.aload_n 0, 1, 0, 0, 0, 0)), (973, (.iload 4, 2, 0, 0, 0, 0)), (975, (.iconst 2, 1, 2, 0, 0, 0)), (976, (.iadd, 1, 0, 0, 0, 0)), (978, (.invokevirtual 109, 3, 169, 2, 10, 1495)), (981, (.if_icmp .eq 135, 3, 1116, 0, 0, 0)), (984, (.iconst 0, 1, 0, 0, 0, 0)), (985, (.ireturn, 1, 1, 0, 0, 0)), (986, (.aload_n 1, 1, 0, 0, 0, 0)), (987, (.aload_n 0, 1, 0, 0, 0, 0)), (988, (.iload 4, 2, 0, 0, 0, 0)), (990, (.iconst 1, 1, 1, 0, 0, 0)), (991, (.iadd, 1, 0, 0, 0, 0)), (993, (.aload_n 0, 1, 0, 0, 0, 0)), (994, (.iload 4, 2, 0, 0, 0, 0)), (996, (.iconst 2, 1, 2, 0, 0, 0)), (997, (.iadd, 1, 0, 0, 0, 0)), (999, (.aload_n 3, 1, 0, 0, 0, 0)), (1003, (.istore 5, 2, 0, 0, 0, 0)), (1005, (.aload_n 2, 1, 0, 0, 0, 0)), (1006, (.aload_n 0, 1, 0, 0, 0, 0)), (1007, (.iload 4, 2, 0, 0, 0, 0)), (1009, (.iconst 1, 1, 1, 0, 0, 0)), (1010, (.iadd, 1, 0, 0, 0, 0)), (1012, (.aload_n 0, 1, 0, 0, 0, 0)), (1013, (.iload 4, 2, 0, 0, 0, 0)), (1015, (.iconst 2, 1, 2, 0, 0, 0)), (1016, (.iadd, 1, 0, 0, 0, 0))]
def tbL_law_14 : List (Nat × gE) := [(1018, (.invokevirtual 115, 3, 172, 2, 10, 1499)), (1021, (.istore 6, 2, 0, 0, 0, 0)), (1023, (.aload_n 2, 1, 0, 0, 0, 0)), (1024, (.invokevirtual 116, 3, 103, 0, 10, 1234)), (1027, (.iload 5, 2, 0, 0, 0, 0)), (1029, (.if_icmp .eq 5, 3, 1034, 0, 0, 0)), (1032, (.iconst 0, 1, 0, 0, 0, 0)), (1033, (.ireturn, 1, 1, 0, 0, 0)), (1034, (.iload 5, 2, 0, 0, 0, 0)), (1036, (.ifCond .ne 15, 3, 1051, 0, 0, 0)), (1039, (.aload_n 3, 1, 0, 0, 0, 0)), (1040, (.iconst 0, 1, 0, 0, 0, 0)), (1041, (.laload, 1, 13, 0, 0, 0)), (1042, (.iload 6, 2, 0, 0, 0, 0)), (1044, (.i2l, 1, 0, 0, 0, 0)), (1045, (.lcmp, 1, 0, 0, 0, 0)), (1046, (.ifCond .eq 5, 3, 1051, 0, 0, 0)), (1049, (.iconst 0, 1, 0, 0, 0, 0)), (1050, (.ireturn, 1, 1, 0, 0, 0)), (1051, (.goto 65, 3, 1116, 0, 0, 0)), (1054, (.aload_n 1, 1, 0, 0, 0, 0)), (1055, (.aload_n 0, 1, 0, 0, 0, 0)), (1056, (.iload 4, 2, 0, 0, 0, 0)), (1058, (.iconst 1, 1, 1, 0, 0, 0)), (1059, (.iadd, 1, 0, 0, 0, 0)), (1061, (.aload_n 0, 1, 0, 0, 0, 0)), (1062, (.iload 4, 2, 0, 0, 0, 0)), (1064, (.iconst 2, 1, 2, 0, 0, 0)), (1065, (.iadd, 1, 0, 0, 0, 0)), (1067, (.invokevirtual 119, 3, 81, 2, 9, 927)), (1070, (.aload_n 2, 1, 0, 0, 0, 0)), (1071, (.aload_n 0, 1, 0, 0, 0, 0)), (1072, (.iload 4, 2, 0, 0, 0, 0)), (1074, (.iconst 1, 1, 1, 0, 0, 0)), (1075, (.iadd, 1, 0, 0, 0, 0)), (1077, (.aload_n 0, 1, 0, 0, 0, 0)), (1078, (.iload 4, 2, 0, 0, 0, 0)), (1080, (.iconst 2, 1, 2, 0, 0, 0)), (1081, (.iadd, 1, 0, 0, 0, 0)), (1083, (.invokevirtual 122, 3, 150, 2, 10, 1388))]
def tbL_law_15 : List (Nat × gE) := [(1086, (.if_icmp .eq 30, 3, 1116, 0, 0, 0)), (1089, (.iconst 0, 1, 0, 0, 0, 0)), (1090, (.ireturn, 1, 1, 0, 0, 0)), (1091, (.aload_n 1, 1, 0, 0, 0, 0)), (1092, (.aload_n 0, 1, 0, 0, 0, 0)), (1093, (.iload 4, 2, 0, 0, 0, 0)), (1095, (.iconst 1, 1, 1, 0, 0, 0)), (1096, (.iadd, 1, 0, 0, 0, 0)), (1098, (.invokevirtual 123, 3, 82, 1, 9, 933)), (1101, (.aload_n 2, 1, 0, 0, 0, 0)), (1102, (.aload_n 0, 1, 0, 0, 0, 0)), (1103, (.iload 4, 2, 0, 0, 0, 0)), (1105, (.iconst 1, 1, 1, 0, 0, 0)), (1106, (.iadd, 1, 0, 0, 0, 0)), (1108, (.invokevirtual 126, 3, 173, 1, 10, 1511)), (1111, (.if_icmp .eq 5, 3, 1116, 0, 0, 0)), (1114, (.iconst 0, 1, 0, 0, 0, 0)), (1115, (.ireturn, 1, 1, 0, 0, 0)), (1116, (.iinc 4 7, 3, 7, 0, 0, 0)), (1119, (.goto (-1096), 3, 23, 0, 0, 0)), (1122, (.iconst 1, 1, 1, 0, 0, 0)), (1123, (.ireturn, 1, 1, 0, 0, 0))]
def mL_law : gM := (yL_law, cL_law, 7, some .boolean, (1, 1, 0, 0, 0, 0, 0), tbL_law_0 ++ (tbL_law_1 ++ (tbL_law_2 ++ (tbL_law_3 ++ (tbL_law_4 ++ (tbL_law_5 ++ (tbL_law_6 ++ (tbL_law_7 ++ (tbL_law_8 ++ (tbL_law_9 ++ (tbL_law_10 ++ (tbL_law_11 ++ (tbL_law_12 ++ (tbL_law_13 ++ (tbL_law_14 ++ (tbL_law_15))))))))))))))))
set_option maxRecDepth 100000 in
theorem obL_law_0 : tbL_law_0.all (okE gF gNM mL_law) = true := by decide +kernel
set_option maxRecDepth 100000 in
theorem obL_law_1 : tbL_law_1.all (okE gF gNM mL_law) = true := by decide +kernel
set_option maxRecDepth 100000 in
theorem obL_law_2 : tbL_law_2.all (okE gF gNM mL_law) = true := by decide +kernel
set_option maxRecDepth 100000 in
theorem obL_law_3 : tbL_law_3.all (okE gF gNM mL_law) = true := by decide +kernel
set_option maxRecDepth 100000 in
theorem obL_law_4 : tbL_law_4.all (okE gF gNM mL_law) = true := by decide +kernel
set_option maxRecDepth 100000 in
theorem obL_law_5 : tbL_law_5.all (okE gF gNM mL_law) = true := by decide +kernel
set_option maxRecDepth 100000 in
theorem obL_law_6 : tbL_law_6.all (okE gF gNM mL_law) = true := by decide +kernel
set_option maxRecDepth 100000 in
theorem obL_law_7 : tbL_law_7.all (okE gF gNM mL_law) = true := by decide +kernel
set_option maxRecDepth 100000 in
theorem obL_law_8 : tbL_law_8.all (okE gF gNM mL_law) = true := by decide +kernel
set_option maxRecDepth 100000 in
theorem obL_law_9 : tbL_law_9.all (okE gF gNM mL_law) = true := by decide +kernel
set_option maxRecDepth 100000 in
theorem obL_law_10 : tbL_law_10.all (okE gF gNM mL_law) = true := by decide +kernel
set_option maxRecDepth 100000 in
theorem obL_law_11 : tbL_law_11.all (okE gF gNM mL_law) = true := by decide +kernel
set_option maxRecDepth 100000 in
theorem obL_law_12 : tbL_law_12.all (okE gF gNM mL_law) = true := by decide +kernel
set_option maxRecDepth 100000 in
theorem obL_law_13 : tbL_law_13.all (okE gF gNM mL_law) = true := by decide +kernel
set_option maxRecDepth 100000 in
theorem obL_law_14 : tbL_law_14.all (okE gF gNM mL_law) = true := by decide +kernel
set_option maxRecDepth 100000 in
theorem obL_law_15 : tbL_law_15.all (okE gF gNM mL_law) = true := by decide +kernel
theorem okL_law : (gTb mL_law).all (okE gF gNM mL_law) = true := by
  show (tbL_law_0 ++ (tbL_law_1 ++ (tbL_law_2 ++ (tbL_law_3 ++ (tbL_law_4 ++ (tbL_law_5 ++ (tbL_law_6 ++ (tbL_law_7 ++ (tbL_law_8 ++ (tbL_law_9 ++ (tbL_law_10 ++ (tbL_law_11 ++ (tbL_law_12 ++ (tbL_law_13 ++ (tbL_law_14 ++ (tbL_law_15)))))))))))))))).all (okE gF gNM mL_law) = true
  rw [List.all_append, obL_law_0, List.all_append, obL_law_1, List.all_append, obL_law_2, List.all_append, obL_law_3, List.all_append, obL_law_4, List.all_append, obL_law_5, List.all_append, obL_law_6, List.all_append, obL_law_7, List.all_append, obL_law_8, List.all_append, obL_law_9, List.all_append, obL_law_10, List.all_append, obL_law_11, List.all_append, obL_law_12, List.all_append, obL_law_13, List.all_append, obL_law_14, obL_law_15]
  rfl
theorem pnL_law : plainName (gY mL_law).cls = true := by decide +kernel
theorem eL_law_26 : decode (gCd mL_law) 26 = .ok (.arraylength, 1) := by decide +kernel
theorem eL_law_36 : decode (gCd mL_law) 36 = .ok (.iaload, 1) := by decide +kernel
theorem eL_law_40 : decode (gCd mL_law) 40 = .ok (.tableswitch 1076 0 22 #[108, 133, 158, 183, 220, 245, 310, 335, 388, 449, 486, 633, 646, 695, 732, 785, 810, 835, 872, 909, 946, 1014, 1051], 108) := by decide +kernel
theorem eL_law_154 : decode (gCd mL_law) 154 = .ok (.iaload, 1) := by decide +kernel
theorem eL_law_164 : decode (gCd mL_law) 164 = .ok (.iaload, 1) := by decide +kernel
theorem eL_law_179 : decode (gCd mL_law) 179 = .ok (.iaload, 1) := by decide +kernel
theorem eL_law_189 : decode (gCd mL_law) 189 = .ok (.iaload, 1) := by decide +kernel
theorem eL_law_204 : decode (gCd mL_law) 204 = .ok (.iaload, 1) := by decide +kernel
theorem eL_law_214 : decode (gCd mL_law) 214 = .ok (.iaload, 1) := by decide +kernel
theorem eL_law_229 : decode (gCd mL_law) 229 = .ok (.iaload, 1) := by decide +kernel
theorem eL_law_235 : decode (gCd mL_law) 235 = .ok (.iaload, 1) := by decide +kernel
theorem eL_law_245 : decode (gCd mL_law) 245 = .ok (.iaload, 1) := by decide +kernel
theorem eL_law_251 : decode (gCd mL_law) 251 = .ok (.iaload, 1) := by decide +kernel
theorem eL_law_266 : decode (gCd mL_law) 266 = .ok (.iaload, 1) := by decide +kernel
theorem eL_law_276 : decode (gCd mL_law) 276 = .ok (.iaload, 1) := by decide +kernel
theorem eL_law_291 : decode (gCd mL_law) 291 = .ok (.iaload, 1) := by decide +kernel
theorem eL_law_297 : decode (gCd mL_law) 297 = .ok (.iaload, 1) := by decide +kernel
theorem eL_law_303 : decode (gCd mL_law) 303 = .ok (.iaload, 1) := by decide +kernel
theorem eL_law_321 : decode (gCd mL_law) 321 = .ok (.iaload, 1) := by decide +kernel
theorem eL_law_327 : decode (gCd mL_law) 327 = .ok (.iaload, 1) := by decide +kernel
theorem eL_law_333 : decode (gCd mL_law) 333 = .ok (.iaload, 1) := by decide +kernel
theorem eL_law_356 : decode (gCd mL_law) 356 = .ok (.iaload, 1) := by decide +kernel
theorem eL_law_366 : decode (gCd mL_law) 366 = .ok (.iaload, 1) := by decide +kernel
theorem eL_law_381 : decode (gCd mL_law) 381 = .ok (.iaload, 1) := by decide +kernel
theorem eL_law_387 : decode (gCd mL_law) 387 = .ok (.iaload, 1) := by decide +kernel
theorem eL_law_405 : decode (gCd mL_law) 405 = .ok (.iaload, 1) := by decide +kernel
theorem eL_law_411 : decode (gCd mL_law) 411 = .ok (.iaload, 1) := by decide +kernel
theorem eL_law_434 : decode (gCd mL_law) 434 = .ok (.iaload, 1) := by decide +kernel
theorem eL_law_440 : decode (gCd mL_law) 440 = .ok (.iaload, 1) := by decide +kernel
theorem eL_law_446 : decode (gCd mL_law) 446 = .ok (.iaload, 1) := by decide +kernel
theorem eL_law_452 : decode (gCd mL_law) 452 = .ok (.iaload, 1) := by decide +kernel
theorem eL_law_462 : decode (gCd mL_law) 462 = .ok (.iaload, 1) := by decide +kernel
theorem eL_law_468 : decode (gCd mL_law) 468 = .ok (.iaload, 1) := by decide +kernel
theorem eL_law_474 : decode (gCd mL_law) 474 = .ok (.iaload, 1) := by decide +kernel
theorem eL_law_480 : decode (gCd mL_law) 480 = .ok (.iaload, 1) := by decide +kernel
theorem eL_law_495 : decode (gCd mL_law) 495 = .ok (.iaload, 1) := by decide +kernel
theorem eL_law_501 : decode (gCd mL_law) 501 = .ok (.iaload, 1) := by decide +kernel
theorem eL_law_511 : decode (gCd mL_law) 511 = .ok (.iaload, 1) := by decide +kernel
theorem eL_law_517 : decode (gCd mL_law) 517 = .ok (.iaload, 1) := by decide +kernel
theorem eL_law_532 : decode (gCd mL_law) 532 = .ok (.iaload, 1) := by decide +kernel
theorem eL_law_542 : decode (gCd mL_law) 542 = .ok (.iaload, 1) := by decide +kernel
theorem eL_law_554 : decode (gCd mL_law) 554 = .ok (.iaload, 1) := by decide +kernel
theorem eL_law_564 : decode (gCd mL_law) 564 = .ok (.iaload, 1) := by decide +kernel
theorem eL_law_576 : decode (gCd mL_law) 576 = .ok (.iaload, 1) := by decide +kernel
theorem eL_law_587 : decode (gCd mL_law) 587 = .ok (.iaload, 1) := by decide +kernel
theorem eL_law_603 : decode (gCd mL_law) 603 = .ok (.iaload, 1) := by decide +kernel
theorem eL_law_613 : decode (gCd mL_law) 613 = .ok (.iaload, 1) := by decide +kernel
theorem eL_law_625 : decode (gCd mL_law) 625 = .ok (.iaload, 1) := by decide +kernel
theorem eL_law_635 : decode (gCd mL_law) 635 = .ok (.iaload, 1) := by decide +kernel
theorem eL_law_647 : decode (gCd mL_law) 647 = .ok (.iaload, 1) := by decide +kernel
theorem eL_law_658 : decode (gCd mL_law) 658 = .ok (.iaload, 1) := by decide +kernel
theorem eL_law_692 : decode (gCd mL_law) 692 = .ok (.iaload, 1) := by decide +kernel
theorem eL_law_698 : decode (gCd mL_law) 698 = .ok (.iaload, 1) := by decide +kernel
theorem eL_law_704 : decode (gCd mL_law) 704 = .ok (.iaload, 1) := by decide +kernel
theorem eL_law_714 : decode (gCd mL_law) 714 = .ok (.iaload, 1) := by decide +kernel
theorem eL_law_720 : decode (gCd mL_law) 720 = .ok (.iaload, 1) := by decide +kernel
theorem eL_law_726 : decode (gCd mL_law) 726 = .ok (.iaload, 1) := by decide +kernel
theorem eL_law_741 : decode (gCd mL_law) 741 = .ok (.iaload, 1) := by decide +kernel
theorem eL_law_747 : decode (gCd mL_law) 747 = .ok (.iaload, 1) := by decide +kernel
theorem eL_law_757 : decode (gCd mL_law) 757 = .ok (.iaload, 1) := by decide +kernel
theorem eL_law_763 : decode (gCd mL_law) 763 = .ok (.iaload, 1) := by decide +kernel
theorem eL_law_778 : decode (gCd mL_law) 778 = .ok (.iaload, 1) := by decide +kernel
theorem eL_law_784 : decode (gCd mL_law) 784 = .ok (.iaload, 1) := by decide +kernel
theorem eL_law_802 : decode (gCd mL_law) 802 = .ok (.iaload, 1) := by decide +kernel
theorem eL_law_808 : decode (gCd mL_law) 808 = .ok (.iaload, 1) := by decide +kernel
theorem eL_law_831 : decode (gCd mL_law) 831 = .ok (.iaload, 1) := by decide +kernel
theorem eL_law_841 : decode (gCd mL_law) 841 = .ok (.iaload, 1) := by decide +kernel
theorem eL_law_856 : decode (gCd mL_law) 856 = .ok (.iaload, 1) := by decide +kernel
theorem eL_law_866 : decode (gCd mL_law) 866 = .ok (.iaload, 1) := by decide +kernel
theorem eL_law_881 : decode (gCd mL_law) 881 = .ok (.iaload, 1) := by decide +kernel
theorem eL_law_887 : decode (gCd mL_law) 887 = .ok (.iaload, 1) := by decide +kernel
theorem eL_law_897 : decode (gCd mL_law) 897 = .ok (.iaload, 1) := by decide +kernel
theorem eL_law_903 : decode (gCd mL_law) 903 = .ok (.iaload, 1) := by decide +kernel
theorem eL_law_918 : decode (gCd mL_law) 918 = .ok (.iaload, 1) := by decide +kernel
theorem eL_law_924 : decode (gCd mL_law) 924 = .ok (.iaload, 1) := by decide +kernel
theorem eL_law_934 : decode (gCd mL_law) 934 = .ok (.iaload, 1) := by decide +kernel
theorem eL_law_940 : decode (gCd mL_law) 940 = .ok (.iaload, 1) := by decide +kernel
theorem eL_law_955 : decode (gCd mL_law) 955 = .ok (.iaload, 1) := by decide +kernel
theorem eL_law_961 : decode (gCd mL_law) 961 = .ok (.iaload, 1) := by decide +kernel
theorem eL_law_971 : decode (gCd mL_law) 971 = .ok (.iaload, 1) := by decide +kernel
theorem eL_law_977 : decode (gCd mL_law) 977 = .ok (.iaload, 1) := by decide +kernel
theorem eL_law_992 : decode (gCd mL_law) 992 = .ok (.iaload, 1) := by decide +kernel
theorem eL_law_998 : decode (gCd mL_law) 998 = .ok (.iaload, 1) := by decide +kernel
theorem eL_law_1000 : decode (gCd mL_law) 1000 = .ok (.invokestatic 110, 3) := by decide +kernel
theorem eL_law_1011 : decode (gCd mL_law) 1011 = .ok (.iaload, 1) := by decide +kernel
theorem eL_law_1017 : decode (gCd mL_law) 1017 = .ok (.iaload, 1) := by decide +kernel
theorem eL_law_1060 : decode (gCd mL_law) 1060 = .ok (.iaload, 1) := by decide +kernel
theorem eL_law_1066 : decode (gCd mL_law) 1066 = .ok (.iaload, 1) := by decide +kernel
theorem eL_law_1076 : decode (gCd mL_law) 1076 = .ok (.iaload, 1) := by decide +kernel
theorem eL_law_1082 : decode (gCd mL_law) 1082 = .ok (.iaload, 1) := by decide +kernel
theorem eL_law_1097 : decode (gCd mL_law) 1097 = .ok (.iaload, 1) := by decide +kernel
theorem eL_law_1107 : decode (gCd mL_law) 1107 = .ok (.iaload, 1) := by decide +kernel
theorem tL_law_0 : gAt mL_law 0 = some (.new 8, 3, 9, 0, 0, 105) := by decide +kernel
theorem tL_law_3 : gAt mL_law 3 = some (.dup, 1, 0, 0, 0, 0) := by decide +kernel
theorem tL_law_4 : gAt mL_law 4 = some (.invokespecial 15, 3, 59, 0, 9, 107) := by decide +kernel
theorem tL_law_7 : gAt mL_law 7 = some (.astore_n 1, 1, 0, 0, 0, 0) := by decide +kernel
theorem tL_law_8 : gAt mL_law 8 = some (.new 16, 3, 10, 0, 0, 1024) := by decide +kernel
theorem tL_law_11 : gAt mL_law 11 = some (.dup, 1, 0, 0, 0, 0) := by decide +kernel
theorem tL_law_12 : gAt mL_law 12 = some (.invokespecial 18, 3, 102, 0, 10, 1026) := by decide +kernel
theorem tL_law_15 : gAt mL_law 15 = some (.astore_n 2, 1, 0, 0, 0, 0) := by decide +kernel
theorem tL_law_16 : gAt mL_law 16 = some (.iconst 1, 1, 1, 0, 0, 0) := by decide +kernel
theorem tL_law_17 : gAt mL_law 17 = some (.newarray .long, 2, 13, 0, 0, 1232) := by decide +kernel
theorem tL_law_19 : gAt mL_law 19 = some (.astore_n 3, 1, 0, 0, 0, 0) := by decide +kernel
theorem tL_law_20 : gAt mL_law 20 = some (.iconst 0, 1, 0, 0, 0, 0) := by decide +kernel
theorem tL_law_21 : gAt mL_law 21 = some (.istore 4, 2, 0, 0, 0, 0) := by decide +kernel
theorem tL_law_23 : gAt mL_law 23 = some (.iload 4, 2, 0, 0, 0, 0) := by decide +kernel
theorem tL_law_25 : gAt mL_law 25 = some (.aload_n 0, 1, 0, 0, 0, 0) := by decide +kernel
theorem tL_law_27 : gAt mL_law 27 = some (.bipush 7, 2, 7, 0, 0, 0) := by decide +kernel
theorem tL_law_29 : gAt mL_law 29 = some (.isub, 1, 0, 0, 0, 0) := by decide +kernel
theorem tL_law_30 : gAt mL_law 30 = some (.if_icmp .gt 1092, 3, 1122, 0, 0, 0) := by decide +kernel
theorem tL_law_33 : gAt mL_law 33 = some (.aload_n 0, 1, 0, 0, 0, 0) := by decide +kernel
theorem tL_law_34 : gAt mL_law 34 = some (.iload 4, 2, 0, 0, 0, 0) := by decide +kernel
theorem tL_law_37 : gAt mL_law 37 = some (.bipush 31, 2, 31, 0, 0, 0) := by decide +kernel
theorem tL_law_39 : gAt mL_law 39 = some (.iand, 1, 0, 0, 0, 0) := by decide +kernel
theorem tL_law_148 : gAt mL_law 148 = some (.aload_n 1, 1, 0, 0, 0, 0) := by decide +kernel
theorem tL_law_149 : gAt mL_law 149 = some (.aload_n 0, 1, 0, 0, 0, 0) := by decide +kernel
theorem tL_law_150 : gAt mL_law 150 = some (.iload 4, 2, 0, 0, 0, 0) := by decide +kernel
theorem tL_law_152 : gAt mL_law 152 = some (.iconst 1, 1, 1, 0, 0, 0) := by decide +kernel
theorem tL_law_153 : gAt mL_law 153 = some (.iadd, 1, 0, 0, 0, 0) := by decide +kernel
theorem tL_law_155 : gAt mL_law 155 = some (.invokevirtual 19, 3, 60, 1, 9, 231) := by decide +kernel
theorem tL_law_158 : gAt mL_law 158 = some (.aload_n 2, 1, 0, 0, 0, 0) := by decide +kernel
theorem tL_law_159 : gAt mL_law 159 = some (.aload_n 0, 1, 0, 0, 0, 0) := by decide +kernel
theorem tL_law_160 : gAt mL_law 160 = some (.iload 4, 2, 0, 0, 0, 0) := by decide +kernel
theorem tL_law_162 : gAt mL_law 162 = some (.iconst 1, 1, 1, 0, 0, 0) := by decide +kernel
theorem tL_law_163 : gAt mL_law 163 = some (.iadd, 1, 0, 0, 0, 0) := by decide +kernel
theorem tL_law_165 : gAt mL_law 165 = some (.invokevirtual 23, 3, 126, 1, 10, 1322) := by decide +kernel
theorem tL_law_168 : gAt mL_law 168 = some (.if_icmp .eq 948, 3, 1116, 0, 0, 0) := by decide +kernel
theorem tL_law_171 : gAt mL_law 171 = some (.iconst 0, 1, 0, 0, 0, 0) := by decide +kernel
theorem tL_law_172 : gAt mL_law 172 = some (.ireturn, 1, 1, 0, 0, 0) := by decide +kernel
theorem tL_law_173 : gAt mL_law 173 = some (.aload_n 1, 1, 0, 0, 0, 0) := by decide +kernel
theorem tL_law_174 : gAt mL_law 174 = some (.aload_n 0, 1, 0, 0, 0, 0) := by decide +kernel
theorem tL_law_175 : gAt mL_law 175 = some (.iload 4, 2, 0, 0, 0, 0) := by decide +kernel
theorem tL_law_177 : gAt mL_law 177 = some (.iconst 1, 1, 1, 0, 0, 0) := by decide +kernel
theorem tL_law_178 : gAt mL_law 178 = some (.iadd, 1, 0, 0, 0, 0) := by decide +kernel
theorem tL_law_180 : gAt mL_law 180 = some (.invokevirtual 24, 3, 61, 1, 9, 235) := by decide +kernel
theorem tL_law_183 : gAt mL_law 183 = some (.aload_n 2, 1, 0, 0, 0, 0) := by decide +kernel
theorem tL_law_184 : gAt mL_law 184 = some (.aload_n 0, 1, 0, 0, 0, 0) := by decide +kernel
theorem tL_law_185 : gAt mL_law 185 = some (.iload 4, 2, 0, 0, 0, 0) := by decide +kernel
theorem tL_law_187 : gAt mL_law 187 = some (.iconst 1, 1, 1, 0, 0, 0) := by decide +kernel
theorem tL_law_188 : gAt mL_law 188 = some (.iadd, 1, 0, 0, 0, 0) := by decide +kernel
theorem tL_law_190 : gAt mL_law 190 = some (.invokevirtual 27, 3, 128, 1, 10, 1326) := by decide +kernel
theorem tL_law_193 : gAt mL_law 193 = some (.if_icmp .eq 923, 3, 1116, 0, 0, 0) := by decide +kernel
theorem tL_law_196 : gAt mL_law 196 = some (.iconst 0, 1, 0, 0, 0, 0) := by decide +kernel
theorem tL_law_197 : gAt mL_law 197 = some (.ireturn, 1, 1, 0, 0, 0) := by decide +kernel
theorem tL_law_198 : gAt mL_law 198 = some (.aload_n 1, 1, 0, 0, 0, 0) := by decide +kernel
theorem tL_law_199 : gAt mL_law 199 = some (.aload_n 0, 1, 0, 0, 0, 0) := by decide +kernel
theorem tL_law_200 : gAt mL_law 200 = some (.iload 4, 2, 0, 0, 0, 0) := by decide +kernel
theorem tL_law_202 : gAt mL_law 202 = some (.iconst 1, 1, 1, 0, 0, 0) := by decide +kernel
theorem tL_law_203 : gAt mL_law 203 = some (.iadd, 1, 0, 0, 0, 0) := by decide +kernel
theorem tL_law_205 : gAt mL_law 205 = some (.invokevirtual 28, 3, 62, 1, 9, 243) := by decide +kernel
theorem tL_law_208 : gAt mL_law 208 = some (.aload_n 2, 1, 0, 0, 0, 0) := by decide +kernel
theorem tL_law_209 : gAt mL_law 209 = some (.aload_n 0, 1, 0, 0, 0, 0) := by decide +kernel
theorem tL_law_210 : gAt mL_law 210 = some (.iload 4, 2, 0, 0, 0, 0) := by decide +kernel
theorem tL_law_212 : gAt mL_law 212 = some (.iconst 1, 1, 1, 0, 0, 0) := by decide +kernel
theorem tL_law_213 : gAt mL_law 213 = some (.iadd, 1, 0, 0, 0, 0) := by decide +kernel
theorem tL_law_215 : gAt mL_law 215 = some (.invokevirtual 31, 3, 131, 1, 10, 1334) := by decide +kernel
theorem tL_law_218 : gAt mL_law 218 = some (.if_icmp .eq 898, 3, 1116, 0, 0, 0) := by decide +kernel
theorem tL_law_221 : gAt mL_law 221 = some (.iconst 0, 1, 0, 0, 0, 0) := by decide +kernel
theorem tL_law_222 : gAt mL_law 222 = some (.ireturn, 1, 1, 0, 0, 0) := by decide +kernel
theorem tL_law_223 : gAt mL_law 223 = some (.aload_n 1, 1, 0, 0, 0, 0) := by decide +kernel
theorem tL_law_224 : gAt mL_law 224 = some (.aload_n 0, 1, 0, 0, 0, 0) := by decide +kernel
theorem tL_law_225 : gAt mL_law 225 = some (.iload 4, 2, 0, 0, 0, 0) := by decide +kernel
theorem tL_law_227 : gAt mL_law 227 = some (.iconst 1, 1, 1, 0, 0, 0) := by decide +kernel
theorem tL_law_228 : gAt mL_law 228 = some (.iadd, 1, 0, 0, 0, 0) := by decide +kernel
theorem tL_law_230 : gAt mL_law 230 = some (.aload_n 0, 1, 0, 0, 0, 0) := by decide +kernel
theorem tL_law_231 : gAt mL_law 231 = some (.iload 4, 2, 0, 0, 0, 0) := by decide +kernel
theorem tL_law_233 : gAt mL_law 233 = some (.iconst 2, 1, 2, 0, 0, 0) := by decide +kernel
theorem tL_law_234 : gAt mL_law 234 = some (.iadd, 1, 0, 0, 0, 0) := by decide +kernel
theorem tL_law_236 : gAt mL_law 236 = some (.invokevirtual 32, 3, 63, 2, 9, 250) := by decide +kernel
theorem tL_law_239 : gAt mL_law 239 = some (.aload_n 2, 1, 0, 0, 0, 0) := by decide +kernel
theorem tL_law_240 : gAt mL_law 240 = some (.aload_n 0, 1, 0, 0, 0, 0) := by decide +kernel
theorem tL_law_241 : gAt mL_law 241 = some (.iload 4, 2, 0, 0, 0, 0) := by decide +kernel
theorem tL_law_243 : gAt mL_law 243 = some (.iconst 1, 1, 1, 0, 0, 0) := by decide +kernel
theorem tL_law_244 : gAt mL_law 244 = some (.iadd, 1, 0, 0, 0, 0) := by decide +kernel
theorem tL_law_246 : gAt mL_law 246 = some (.aload_n 0, 1, 0, 0, 0, 0) := by decide +kernel
theorem tL_law_247 : gAt mL_law 247 = some (.iload 4, 2, 0, 0, 0, 0) := by decide +kernel
theorem tL_law_249 : gAt mL_law 249 = some (.iconst 2, 1, 2, 0, 0, 0) := by decide +kernel
theorem tL_law_250 : gAt mL_law 250 = some (.iadd, 1, 0, 0, 0, 0) := by decide +kernel
theorem tL_law_252 : gAt mL_law 252 = some (.invokevirtual 35, 3, 134, 2, 10, 1341) := by decide +kernel
theorem tL_law_255 : gAt mL_law 255 = some (.if_icmp .eq 861, 3, 1116, 0, 0, 0) := by decide +kernel
theorem tL_law_258 : gAt mL_law 258 = some (.iconst 0, 1, 0, 0, 0, 0) := by decide +kernel
theorem tL_law_259 : gAt mL_law 259 = some (.ireturn, 1, 1, 0, 0, 0) := by decide +kernel
theorem tL_law_260 : gAt mL_law 260 = some (.aload_n 1, 1, 0, 0, 0, 0) := by decide +kernel
theorem tL_law_261 : gAt mL_law 261 = some (.aload_n 0, 1, 0, 0, 0, 0) := by decide +kernel
theorem tL_law_262 : gAt mL_law 262 = some (.iload 4, 2, 0, 0, 0, 0) := by decide +kernel
theorem tL_law_264 : gAt mL_law 264 = some (.iconst 1, 1, 1, 0, 0, 0) := by decide +kernel
theorem tL_law_265 : gAt mL_law 265 = some (.iadd, 1, 0, 0, 0, 0) := by decide +kernel
theorem tL_law_267 : gAt mL_law 267 = some (.invokevirtual 36, 3, 64, 1, 9, 455) := by decide +kernel
theorem tL_law_270 : gAt mL_law 270 = some (.aload_n 2, 1, 0, 0, 0, 0) := by decide +kernel
theorem tL_law_271 : gAt mL_law 271 = some (.aload_n 0, 1, 0, 0, 0, 0) := by decide +kernel
theorem tL_law_272 : gAt mL_law 272 = some (.iload 4, 2, 0, 0, 0, 0) := by decide +kernel
theorem tL_law_274 : gAt mL_law 274 = some (.iconst 1, 1, 1, 0, 0, 0) := by decide +kernel
theorem tL_law_275 : gAt mL_law 275 = some (.iadd, 1, 0, 0, 0, 0) := by decide +kernel
theorem tL_law_277 : gAt mL_law 277 = some (.invokevirtual 39, 3, 136, 1, 10, 1353) := by decide +kernel
theorem tL_law_280 : gAt mL_law 280 = some (.if_icmp .eq 836, 3, 1116, 0, 0, 0) := by decide +kernel
theorem tL_law_283 : gAt mL_law 283 = some (.iconst 0, 1, 0, 0, 0, 0) := by decide +kernel
theorem tL_law_284 : gAt mL_law 284 = some (.ireturn, 1, 1, 0, 0, 0) := by decide +kernel
theorem tL_law_285 : gAt mL_law 285 = some (.aload_n 1, 1, 0, 0, 0, 0) := by decide +kernel
theorem tL_law_286 : gAt mL_law 286 = some (.aload_n 0, 1, 0, 0, 0, 0) := by decide +kernel
theorem tL_law_287 : gAt mL_law 287 = some (.iload 4, 2, 0, 0, 0, 0) := by decide +kernel
theorem tL_law_289 : gAt mL_law 289 = some (.iconst 1, 1, 1, 0, 0, 0) := by decide +kernel
theorem tL_law_290 : gAt mL_law 290 = some (.iadd, 1, 0, 0, 0, 0) := by decide +kernel
theorem tL_law_292 : gAt mL_law 292 = some (.aload_n 0, 1, 0, 0, 0, 0) := by decide +kernel
theorem tL_law_293 : gAt mL_law 293 = some (.iload 4, 2, 0, 0, 0, 0) := by decide +kernel
theorem tL_law_295 : gAt mL_law 295 = some (.iconst 2, 1, 2, 0, 0, 0) := by decide +kernel
theorem tL_law_296 : gAt mL_law 296 = some (.iadd, 1, 0, 0, 0, 0) := by decide +kernel
theorem tL_law_298 : gAt mL_law 298 = some (.aload_n 0, 1, 0, 0, 0, 0) := by decide +kernel
theorem tL_law_299 : gAt mL_law 299 = some (.iload 4, 2, 0, 0, 0, 0) := by decide +kernel
theorem tL_law_301 : gAt mL_law 301 = some (.iconst 3, 1, 3, 0, 0, 0) := by decide +kernel
theorem tL_law_302 : gAt mL_law 302 = some (.iadd, 1, 0, 0, 0, 0) := by decide +kernel
theorem tL_law_304 : gAt mL_law 304 = some (.ifCond .eq 7, 3, 311, 0, 0, 0) := by decide +kernel
theorem tL_law_307 : gAt mL_law 307 = some (.iconst 1, 1, 1, 0, 0, 0) := by decide +kernel
theorem tL_law_308 : gAt mL_law 308 = some (.goto 4, 3, 312, 0, 0, 0) := by decide +kernel
theorem tL_law_311 : gAt mL_law 311 = some (.iconst 0, 1, 0, 0, 0, 0) := by decide +kernel
theorem tL_law_312 : gAt mL_law 312 = some (.invokevirtual 40, 3, 65, 3, 9, 463) := by decide +kernel
theorem tL_law_315 : gAt mL_law 315 = some (.aload_n 2, 1, 0, 0, 0, 0) := by decide +kernel
theorem tL_law_316 : gAt mL_law 316 = some (.aload_n 0, 1, 0, 0, 0, 0) := by decide +kernel
theorem tL_law_317 : gAt mL_law 317 = some (.iload 4, 2, 0, 0, 0, 0) := by decide +kernel
theorem tL_law_319 : gAt mL_law 319 = some (.iconst 1, 1, 1, 0, 0, 0) := by decide +kernel
theorem tL_law_320 : gAt mL_law 320 = some (.iadd, 1, 0, 0, 0, 0) := by decide +kernel
theorem tL_law_322 : gAt mL_law 322 = some (.aload_n 0, 1, 0, 0, 0, 0) := by decide +kernel
theorem tL_law_323 : gAt mL_law 323 = some (.iload 4, 2, 0, 0, 0, 0) := by decide +kernel
theorem tL_law_325 : gAt mL_law 325 = some (.iconst 2, 1, 2, 0, 0, 0) := by decide +kernel
theorem tL_law_326 : gAt mL_law 326 = some (.iadd, 1, 0, 0, 0, 0) := by decide +kernel
theorem tL_law_328 : gAt mL_law 328 = some (.aload_n 0, 1, 0, 0, 0, 0) := by decide +kernel
theorem tL_law_329 : gAt mL_law 329 = some (.iload 4, 2, 0, 0, 0, 0) := by decide +kernel
theorem tL_law_331 : gAt mL_law 331 = some (.iconst 3, 1, 3, 0, 0, 0) := by decide +kernel
theorem tL_law_332 : gAt mL_law 332 = some (.iadd, 1, 0, 0, 0, 0) := by decide +kernel
theorem tL_law_334 : gAt mL_law 334 = some (.ifCond .eq 7, 3, 341, 0, 0, 0) := by decide +kernel
theorem tL_law_337 : gAt mL_law 337 = some (.iconst 1, 1, 1, 0, 0, 0) := by decide +kernel
theorem tL_law_338 : gAt mL_law 338 = some (.goto 4, 3, 342, 0, 0, 0) := by decide +kernel
theorem tL_law_341 : gAt mL_law 341 = some (.iconst 0, 1, 0, 0, 0, 0) := by decide +kernel
theorem tL_law_342 : gAt mL_law 342 = some (.invokevirtual 44, 3, 138, 3, 10, 1361) := by decide +kernel
theorem tL_law_345 : gAt mL_law 345 = some (.if_icmp .eq 771, 3, 1116, 0, 0, 0) := by decide +kernel
theorem tL_law_348 : gAt mL_law 348 = some (.iconst 0, 1, 0, 0, 0, 0) := by decide +kernel
theorem tL_law_349 : gAt mL_law 349 = some (.ireturn, 1, 1, 0, 0, 0) := by decide +kernel
theorem tL_law_350 : gAt mL_law 350 = some (.aload_n 1, 1, 0, 0, 0, 0) := by decide +kernel
theorem tL_law_351 : gAt mL_law 351 = some (.aload_n 0, 1, 0, 0, 0, 0) := by decide +kernel
theorem tL_law_352 : gAt mL_law 352 = some (.iload 4, 2, 0, 0, 0, 0) := by decide +kernel
theorem tL_law_354 : gAt mL_law 354 = some (.iconst 1, 1, 1, 0, 0, 0) := by decide +kernel
theorem tL_law_355 : gAt mL_law 355 = some (.iadd, 1, 0, 0, 0, 0) := by decide +kernel
theorem tL_law_357 : gAt mL_law 357 = some (.invokevirtual 45, 3, 66, 1, 9, 470) := by decide +kernel
theorem tL_law_360 : gAt mL_law 360 = some (.aload_n 2, 1, 0, 0, 0, 0) := by decide +kernel
theorem tL_law_361 : gAt mL_law 361 = some (.aload_n 0, 1, 0, 0, 0, 0) := by decide +kernel
theorem tL_law_362 : gAt mL_law 362 = some (.iload 4, 2, 0, 0, 0, 0) := by decide +kernel
theorem tL_law_364 : gAt mL_law 364 = some (.iconst 1, 1, 1, 0, 0, 0) := by decide +kernel
theorem tL_law_365 : gAt mL_law 365 = some (.iadd, 1, 0, 0, 0, 0) := by decide +kernel
theorem tL_law_367 : gAt mL_law 367 = some (.invokevirtual 49, 3, 139, 1, 10, 1368) := by decide +kernel
theorem tL_law_370 : gAt mL_law 370 = some (.if_icmp .eq 746, 3, 1116, 0, 0, 0) := by decide +kernel
theorem tL_law_373 : gAt mL_law 373 = some (.iconst 0, 1, 0, 0, 0, 0) := by decide +kernel
theorem tL_law_374 : gAt mL_law 374 = some (.ireturn, 1, 1, 0, 0, 0) := by decide +kernel
theorem tL_law_375 : gAt mL_law 375 = some (.aload_n 1, 1, 0, 0, 0, 0) := by decide +kernel
theorem tL_law_376 : gAt mL_law 376 = some (.aload_n 0, 1, 0, 0, 0, 0) := by decide +kernel
theorem tL_law_377 : gAt mL_law 377 = some (.iload 4, 2, 0, 0, 0, 0) := by decide +kernel
theorem tL_law_379 : gAt mL_law 379 = some (.iconst 1, 1, 1, 0, 0, 0) := by decide +kernel
theorem tL_law_380 : gAt mL_law 380 = some (.iadd, 1, 0, 0, 0, 0) := by decide +kernel
theorem tL_law_382 : gAt mL_law 382 = some (.aload_n 0, 1, 0, 0, 0, 0) := by decide +kernel
theorem tL_law_383 : gAt mL_law 383 = some (.iload 4, 2, 0, 0, 0, 0) := by decide +kernel
theorem tL_law_385 : gAt mL_law 385 = some (.iconst 2, 1, 2, 0, 0, 0) := by decide +kernel
theorem tL_law_386 : gAt mL_law 386 = some (.iadd, 1, 0, 0, 0, 0) := by decide +kernel
theorem tL_law_388 : gAt mL_law 388 = some (.ifCond .eq 7, 3, 395, 0, 0, 0) := by decide +kernel
theorem tL_law_391 : gAt mL_law 391 = some (.iconst 1, 1, 1, 0, 0, 0) := by decide +kernel
theorem tL_law_392 : gAt mL_law 392 = some (.goto 4, 3, 396, 0, 0, 0) := by decide +kernel
theorem tL_law_395 : gAt mL_law 395 = some (.iconst 0, 1, 0, 0, 0, 0) := by decide +kernel
theorem tL_law_396 : gAt mL_law 396 = some (.invokevirtual 50, 3, 67, 2, 9, 474) := by decide +kernel
theorem tL_law_399 : gAt mL_law 399 = some (.aload_n 2, 1, 0, 0, 0, 0) := by decide +kernel
theorem tL_law_400 : gAt mL_law 400 = some (.aload_n 0, 1, 0, 0, 0, 0) := by decide +kernel
theorem tL_law_401 : gAt mL_law 401 = some (.iload 4, 2, 0, 0, 0, 0) := by decide +kernel
theorem tL_law_403 : gAt mL_law 403 = some (.iconst 1, 1, 1, 0, 0, 0) := by decide +kernel
theorem tL_law_404 : gAt mL_law 404 = some (.iadd, 1, 0, 0, 0, 0) := by decide +kernel
theorem tL_law_406 : gAt mL_law 406 = some (.aload_n 0, 1, 0, 0, 0, 0) := by decide +kernel
theorem tL_law_407 : gAt mL_law 407 = some (.iload 4, 2, 0, 0, 0, 0) := by decide +kernel
theorem tL_law_409 : gAt mL_law 409 = some (.iconst 2, 1, 2, 0, 0, 0) := by decide +kernel
theorem tL_law_410 : gAt mL_law 410 = some (.iadd, 1, 0, 0, 0, 0) := by decide +kernel
theorem tL_law_412 : gAt mL_law 412 = some (.ifCond .eq 7, 3, 419, 0, 0, 0) := by decide +kernel
theorem tL_law_415 : gAt mL_law 415 = some (.iconst 1, 1, 1, 0, 0, 0) := by decide +kernel
theorem tL_law_416 : gAt mL_law 416 = some (.goto 4, 3, 420, 0, 0, 0) := by decide +kernel
theorem tL_law_419 : gAt mL_law 419 = some (.iconst 0, 1, 0, 0, 0, 0) := by decide +kernel
theorem tL_law_420 : gAt mL_law 420 = some (.invokevirtual 54, 3, 141, 2, 10, 1372) := by decide +kernel
theorem tL_law_423 : gAt mL_law 423 = some (.if_icmp .eq 693, 3, 1116, 0, 0, 0) := by decide +kernel
theorem tL_law_426 : gAt mL_law 426 = some (.iconst 0, 1, 0, 0, 0, 0) := by decide +kernel
theorem tL_law_427 : gAt mL_law 427 = some (.ireturn, 1, 1, 0, 0, 0) := by decide +kernel
theorem tL_law_428 : gAt mL_law 428 = some (.aload_n 1, 1, 0, 0, 0, 0) := by decide +kernel
theorem tL_law_429 : gAt mL_law 429 = some (.aload_n 0, 1, 0, 0, 0, 0) := by decide +kernel
theorem tL_law_430 : gAt mL_law 430 = some (.iload 4, 2, 0, 0, 0, 0) := by decide +kernel
theorem tL_law_432 : gAt mL_law 432 = some (.iconst 1, 1, 1, 0, 0, 0) := by decide +kernel
theorem tL_law_433 : gAt mL_law 433 = some (.iadd, 1, 0, 0, 0, 0) := by decide +kernel
theorem tL_law_435 : gAt mL_law 435 = some (.aload_n 0, 1, 0, 0, 0, 0) := by decide +kernel
theorem tL_law_436 : gAt mL_law 436 = some (.iload 4, 2, 0, 0, 0, 0) := by decide +kernel
theorem tL_law_438 : gAt mL_law 438 = some (.iconst 2, 1, 2, 0, 0, 0) := by decide +kernel
theorem tL_law_439 : gAt mL_law 439 = some (.iadd, 1, 0, 0, 0, 0) := by decide +kernel
theorem tL_law_441 : gAt mL_law 441 = some (.aload_n 0, 1, 0, 0, 0, 0) := by decide +kernel
theorem tL_law_442 : gAt mL_law 442 = some (.iload 4, 2, 0, 0, 0, 0) := by decide +kernel
theorem tL_law_444 : gAt mL_law 444 = some (.iconst 3, 1, 3, 0, 0, 0) := by decide +kernel
theorem tL_law_445 : gAt mL_law 445 = some (.iadd, 1, 0, 0, 0, 0) := by decide +kernel
theorem tL_law_447 : gAt mL_law 447 = some (.aload_n 0, 1, 0, 0, 0, 0) := by decide +kernel
theorem tL_law_448 : gAt mL_law 448 = some (.iload 4, 2, 0, 0, 0, 0) := by decide +kernel
theorem tL_law_450 : gAt mL_law 450 = some (.iconst 4, 1, 4, 0, 0, 0) := by decide +kernel
theorem tL_law_451 : gAt mL_law 451 = some (.iadd, 1, 0, 0, 0, 0) := by decide +kernel
theorem tL_law_453 : gAt mL_law 453 = some (.invokevirtual 55, 3, 68, 4, 9, 482) := by decide +kernel
theorem tL_law_456 : gAt mL_law 456 = some (.aload_n 2, 1, 0, 0, 0, 0) := by decide +kernel
theorem tL_law_457 : gAt mL_law 457 = some (.aload_n 0, 1, 0, 0, 0, 0) := by decide +kernel
theorem tL_law_458 : gAt mL_law 458 = some (.iload 4, 2, 0, 0, 0, 0) := by decide +kernel
theorem tL_law_460 : gAt mL_law 460 = some (.iconst 1, 1, 1, 0, 0, 0) := by decide +kernel
theorem tL_law_461 : gAt mL_law 461 = some (.iadd, 1, 0, 0, 0, 0) := by decide +kernel
theorem tL_law_463 : gAt mL_law 463 = some (.aload_n 0, 1, 0, 0, 0, 0) := by decide +kernel
theorem tL_law_464 : gAt mL_law 464 = some (.iload 4, 2, 0, 0, 0, 0) := by decide +kernel
theorem tL_law_466 : gAt mL_law 466 = some (.iconst 2, 1, 2, 0, 0, 0) := by decide +kernel
theorem tL_law_467 : gAt mL_law 467 = some (.iadd, 1, 0, 0, 0, 0) := by decide +kernel
theorem tL_law_469 : gAt mL_law 469 = some (.aload_n 0, 1, 0, 0, 0, 0) := by decide +kernel
theorem tL_law_470 : gAt mL_law 470 = some (.iload 4, 2, 0, 0, 0, 0) := by decide +kernel
theorem tL_law_472 : gAt mL_law 472 = some (.iconst 3, 1, 3, 0, 0, 0) := by decide +kernel
theorem tL_law_473 : gAt mL_law 473 = some (.iadd, 1, 0, 0, 0, 0) := by decide +kernel
theorem tL_law_475 : gAt mL_law 475 = some (.aload_n 0, 1, 0, 0, 0, 0) := by decide +kernel
theorem tL_law_476 : gAt mL_law 476 = some (.iload 4, 2, 0, 0, 0, 0) := by decide +kernel
theorem tL_law_478 : gAt mL_law 478 = some (.iconst 4, 1, 4, 0, 0, 0) := by decide +kernel
theorem tL_law_479 : gAt mL_law 479 = some (.iadd, 1, 0, 0, 0, 0) := by decide +kernel
theorem tL_law_481 : gAt mL_law 481 = some (.invokevirtual 59, 3, 142, 4, 10, 1380) := by decide +kernel
theorem tL_law_484 : gAt mL_law 484 = some (.if_icmp .eq 632, 3, 1116, 0, 0, 0) := by decide +kernel
theorem tL_law_487 : gAt mL_law 487 = some (.iconst 0, 1, 0, 0, 0, 0) := by decide +kernel
theorem tL_law_488 : gAt mL_law 488 = some (.ireturn, 1, 1, 0, 0, 0) := by decide +kernel
theorem tL_law_489 : gAt mL_law 489 = some (.aload_n 1, 1, 0, 0, 0, 0) := by decide +kernel
theorem tL_law_490 : gAt mL_law 490 = some (.aload_n 0, 1, 0, 0, 0, 0) := by decide +kernel
theorem tL_law_491 : gAt mL_law 491 = some (.iload 4, 2, 0, 0, 0, 0) := by decide +kernel
theorem tL_law_493 : gAt mL_law 493 = some (.iconst 1, 1, 1, 0, 0, 0) := by decide +kernel
theorem tL_law_494 : gAt mL_law 494 = some (.iadd, 1, 0, 0, 0, 0) := by decide +kernel
theorem tL_law_496 : gAt mL_law 496 = some (.aload_n 0, 1, 0, 0, 0, 0) := by decide +kernel
theorem tL_law_497 : gAt mL_law 497 = some (.iload 4, 2, 0, 0, 0, 0) := by decide +kernel
theorem tL_law_499 : gAt mL_law 499 = some (.iconst 2, 1, 2, 0, 0, 0) := by decide +kernel
theorem tL_law_500 : gAt mL_law 500 = some (.iadd, 1, 0, 0, 0, 0) := by decide +kernel
theorem tL_law_502 : gAt mL_law 502 = some (.invokevirtual 60, 3, 69, 2, 9, 490) := by decide +kernel
theorem tL_law_505 : gAt mL_law 505 = some (.aload_n 2, 1, 0, 0, 0, 0) := by decide +kernel
theorem tL_law_506 : gAt mL_law 506 = some (.aload_n 0, 1, 0, 0, 0, 0) := by decide +kernel
theorem tL_law_507 : gAt mL_law 507 = some (.iload 4, 2, 0, 0, 0, 0) := by decide +kernel
theorem tL_law_509 : gAt mL_law 509 = some (.iconst 1, 1, 1, 0, 0, 0) := by decide +kernel
theorem tL_law_510 : gAt mL_law 510 = some (.iadd, 1, 0, 0, 0, 0) := by decide +kernel
theorem tL_law_512 : gAt mL_law 512 = some (.aload_n 0, 1, 0, 0, 0, 0) := by decide +kernel
theorem tL_law_513 : gAt mL_law 513 = some (.iload 4, 2, 0, 0, 0, 0) := by decide +kernel
theorem tL_law_515 : gAt mL_law 515 = some (.iconst 2, 1, 2, 0, 0, 0) := by decide +kernel
theorem tL_law_516 : gAt mL_law 516 = some (.iadd, 1, 0, 0, 0, 0) := by decide +kernel
theorem tL_law_518 : gAt mL_law 518 = some (.invokevirtual 64, 3, 143, 2, 10, 1384) := by decide +kernel
theorem tL_law_521 : gAt mL_law 521 = some (.if_icmp .eq 595, 3, 1116, 0, 0, 0) := by decide +kernel
theorem tL_law_524 : gAt mL_law 524 = some (.iconst 0, 1, 0, 0, 0, 0) := by decide +kernel
theorem tL_law_525 : gAt mL_law 525 = some (.ireturn, 1, 1, 0, 0, 0) := by decide +kernel
theorem tL_law_526 : gAt mL_law 526 = some (.aload_n 1, 1, 0, 0, 0, 0) := by decide +kernel
theorem tL_law_527 : gAt mL_law 527 = some (.aload_n 0, 1, 0, 0, 0, 0) := by decide +kernel
theorem tL_law_528 : gAt mL_law 528 = some (.iload 4, 2, 0, 0, 0, 0) := by decide +kernel
theorem tL_law_530 : gAt mL_law 530 = some (.iconst 1, 1, 1, 0, 0, 0) := by decide +kernel
theorem tL_law_531 : gAt mL_law 531 = some (.iadd, 1, 0, 0, 0, 0) := by decide +kernel
theorem tL_law_533 : gAt mL_law 533 = some (.i2l, 1, 0, 0, 0, 0) := by decide +kernel
theorem tL_law_534 : gAt mL_law 534 = some (.bipush 32, 2, 32, 0, 0, 0) := by decide +kernel
theorem tL_law_536 : gAt mL_law 536 = some (.lshl, 1, 0, 0, 0, 0) := by decide +kernel
theorem tL_law_537 : gAt mL_law 537 = some (.aload_n 0, 1, 0, 0, 0, 0) := by decide +kernel
theorem tL_law_538 : gAt mL_law 538 = some (.iload 4, 2, 0, 0, 0, 0) := by decide +kernel
theorem tL_law_540 : gAt mL_law 540 = some (.iconst 2, 1, 2, 0, 0, 0) := by decide +kernel
theorem tL_law_541 : gAt mL_law 541 = some (.iadd, 1, 0, 0, 0, 0) := by decide +kernel
theorem tL_law_543 : gAt mL_law 543 = some (.i2l, 1, 0, 0, 0, 0) := by decide +kernel
theorem tL_law_544 : gAt mL_law 544 = some (.ldc2_w 65, 3, 4294967295, 0, 0, 1515) := by decide +kernel
theorem tL_law_547 : gAt mL_law 547 = some (.land, 1, 0, 0, 0, 0) := by decide +kernel
theorem tL_law_548 : gAt mL_law 548 = some (.lor, 1, 0, 0, 0, 0) := by decide +kernel
theorem tL_law_549 : gAt mL_law 549 = some (.aload_n 0, 1, 0, 0, 0, 0) := by decide +kernel
theorem tL_law_550 : gAt mL_law 550 = some (.iload 4, 2, 0, 0, 0, 0) := by decide +kernel
theorem tL_law_552 : gAt mL_law 552 = some (.iconst 3, 1, 3, 0, 0, 0) := by decide +kernel
theorem tL_law_553 : gAt mL_law 553 = some (.iadd, 1, 0, 0, 0, 0) := by decide +kernel
theorem tL_law_555 : gAt mL_law 555 = some (.i2l, 1, 0, 0, 0, 0) := by decide +kernel
theorem tL_law_556 : gAt mL_law 556 = some (.bipush 32, 2, 32, 0, 0, 0) := by decide +kernel
theorem tL_law_558 : gAt mL_law 558 = some (.lshl, 1, 0, 0, 0, 0) := by decide +kernel
theorem tL_law_559 : gAt mL_law 559 = some (.aload_n 0, 1, 0, 0, 0, 0) := by decide +kernel
theorem tL_law_560 : gAt mL_law 560 = some (.iload 4, 2, 0, 0, 0, 0) := by decide +kernel
theorem tL_law_562 : gAt mL_law 562 = some (.iconst 4, 1, 4, 0, 0, 0) := by decide +kernel
theorem tL_law_563 : gAt mL_law 563 = some (.iadd, 1, 0, 0, 0, 0) := by decide +kernel
theorem tL_law_565 : gAt mL_law 565 = some (.i2l, 1, 0, 0, 0, 0) := by decide +kernel
theorem tL_law_566 : gAt mL_law 566 = some (.ldc2_w 65, 3, 4294967295, 0, 0, 1515) := by decide +kernel
theorem tL_law_569 : gAt mL_law 569 = some (.land, 1, 0, 0, 0, 0) := by decide +kernel
theorem tL_law_570 : gAt mL_law 570 = some (.lor, 1, 0, 0, 0, 0) := by decide +kernel
theorem tL_law_571 : gAt mL_law 571 = some (.aload_n 0, 1, 0, 0, 0, 0) := by decide +kernel
theorem tL_law_572 : gAt mL_law 572 = some (.iload 4, 2, 0, 0, 0, 0) := by decide +kernel
theorem tL_law_574 : gAt mL_law 574 = some (.iconst 5, 1, 5, 0, 0, 0) := by decide +kernel
theorem tL_law_575 : gAt mL_law 575 = some (.iadd, 1, 0, 0, 0, 0) := by decide +kernel
theorem tL_law_577 : gAt mL_law 577 = some (.i2l, 1, 0, 0, 0, 0) := by decide +kernel
theorem tL_law_578 : gAt mL_law 578 = some (.bipush 32, 2, 32, 0, 0, 0) := by decide +kernel
theorem tL_law_580 : gAt mL_law 580 = some (.lshl, 1, 0, 0, 0, 0) := by decide +kernel
theorem tL_law_581 : gAt mL_law 581 = some (.aload_n 0, 1, 0, 0, 0, 0) := by decide +kernel
theorem tL_law_582 : gAt mL_law 582 = some (.iload 4, 2, 0, 0, 0, 0) := by decide +kernel
theorem tL_law_584 : gAt mL_law 584 = some (.bipush 6, 2, 6, 0, 0, 0) := by decide +kernel
theorem tL_law_586 : gAt mL_law 586 = some (.iadd, 1, 0, 0, 0, 0) := by decide +kernel
theorem tL_law_588 : gAt mL_law 588 = some (.i2l, 1, 0, 0, 0, 0) := by decide +kernel
theorem tL_law_589 : gAt mL_law 589 = some (.ldc2_w 65, 3, 4294967295, 0, 0, 1515) := by decide +kernel
theorem tL_law_592 : gAt mL_law 592 = some (.land, 1, 0, 0, 0, 0) := by decide +kernel
theorem tL_law_593 : gAt mL_law 593 = some (.lor, 1, 0, 0, 0, 0) := by decide +kernel
theorem tL_law_594 : gAt mL_law 594 = some (.invokevirtual 67, 3, 70, 3, 9, 499) := by decide +kernel
theorem tL_law_597 : gAt mL_law 597 = some (.aload_n 2, 1, 0, 0, 0, 0) := by decide +kernel
theorem tL_law_598 : gAt mL_law 598 = some (.aload_n 0, 1, 0, 0, 0, 0) := by decide +kernel
theorem tL_law_599 : gAt mL_law 599 = some (.iload 4, 2, 0, 0, 0, 0) := by decide +kernel
theorem tL_law_601 : gAt mL_law 601 = some (.iconst 1, 1, 1, 0, 0, 0) := by decide +kernel
theorem tL_law_602 : gAt mL_law 602 = some (.iadd, 1, 0, 0, 0, 0) := by decide +kernel
theorem tL_law_604 : gAt mL_law 604 = some (.i2l, 1, 0, 0, 0, 0) := by decide +kernel
theorem tL_law_605 : gAt mL_law 605 = some (.bipush 32, 2, 32, 0, 0, 0) := by decide +kernel
theorem tL_law_607 : gAt mL_law 607 = some (.lshl, 1, 0, 0, 0, 0) := by decide +kernel
theorem tL_law_608 : gAt mL_law 608 = some (.aload_n 0, 1, 0, 0, 0, 0) := by decide +kernel
theorem tL_law_609 : gAt mL_law 609 = some (.iload 4, 2, 0, 0, 0, 0) := by decide +kernel
theorem tL_law_611 : gAt mL_law 611 = some (.iconst 2, 1, 2, 0, 0, 0) := by decide +kernel
theorem tL_law_612 : gAt mL_law 612 = some (.iadd, 1, 0, 0, 0, 0) := by decide +kernel
theorem tL_law_614 : gAt mL_law 614 = some (.i2l, 1, 0, 0, 0, 0) := by decide +kernel
theorem tL_law_615 : gAt mL_law 615 = some (.ldc2_w 65, 3, 4294967295, 0, 0, 1515) := by decide +kernel
theorem tL_law_618 : gAt mL_law 618 = some (.land, 1, 0, 0, 0, 0) := by decide +kernel
theorem tL_law_619 : gAt mL_law 619 = some (.lor, 1, 0, 0, 0, 0) := by decide +kernel
theorem tL_law_620 : gAt mL_law 620 = some (.aload_n 0, 1, 0, 0, 0, 0) := by decide +kernel
theorem tL_law_621 : gAt mL_law 621 = some (.iload 4, 2, 0, 0, 0, 0) := by decide +kernel
theorem tL_law_623 : gAt mL_law 623 = some (.iconst 3, 1, 3, 0, 0, 0) := by decide +kernel
theorem tL_law_624 : gAt mL_law 624 = some (.iadd, 1, 0, 0, 0, 0) := by decide +kernel
theorem tL_law_626 : gAt mL_law 626 = some (.i2l, 1, 0, 0, 0, 0) := by decide +kernel
theorem tL_law_627 : gAt mL_law 627 = some (.bipush 32, 2, 32, 0, 0, 0) := by decide +kernel
theorem tL_law_629 : gAt mL_law 629 = some (.lshl, 1, 0, 0, 0, 0) := by decide +kernel
theorem tL_law_630 : gAt mL_law 630 = some (.aload_n 0, 1, 0, 0, 0, 0) := by decide +kernel
theorem tL_law_631 : gAt mL_law 631 = some (.iload 4, 2, 0, 0, 0, 0) := by decide +kernel
theorem tL_law_633 : gAt mL_law 633 = some (.iconst 4, 1, 4, 0, 0, 0) := by decide +kernel
theorem tL_law_634 : gAt mL_law 634 = some (.iadd, 1, 0, 0, 0, 0) := by decide +kernel
theorem tL_law_636 : gAt mL_law 636 = some (.i2l, 1, 0, 0, 0, 0) := by decide +kernel
theorem tL_law_637 : gAt mL_law 637 = some (.ldc2_w 65, 3, 4294967295, 0, 0, 1515) := by decide +kernel
theorem tL_law_640 : gAt mL_law 640 = some (.land, 1, 0, 0, 0, 0) := by decide +kernel
theorem tL_law_641 : gAt mL_law 641 = some (.lor, 1, 0, 0, 0, 0) := by decide +kernel
theorem tL_law_642 : gAt mL_law 642 = some (.aload_n 0, 1, 0, 0, 0, 0) := by decide +kernel
theorem tL_law_643 : gAt mL_law 643 = some (.iload 4, 2, 0, 0, 0, 0) := by decide +kernel
theorem tL_law_645 : gAt mL_law 645 = some (.iconst 5, 1, 5, 0, 0, 0) := by decide +kernel
theorem tL_law_646 : gAt mL_law 646 = some (.iadd, 1, 0, 0, 0, 0) := by decide +kernel
theorem tL_law_648 : gAt mL_law 648 = some (.i2l, 1, 0, 0, 0, 0) := by decide +kernel
theorem tL_law_649 : gAt mL_law 649 = some (.bipush 32, 2, 32, 0, 0, 0) := by decide +kernel
theorem tL_law_651 : gAt mL_law 651 = some (.lshl, 1, 0, 0, 0, 0) := by decide +kernel
theorem tL_law_652 : gAt mL_law 652 = some (.aload_n 0, 1, 0, 0, 0, 0) := by decide +kernel
theorem tL_law_653 : gAt mL_law 653 = some (.iload 4, 2, 0, 0, 0, 0) := by decide +kernel
theorem tL_law_655 : gAt mL_law 655 = some (.bipush 6, 2, 6, 0, 0, 0) := by decide +kernel
theorem tL_law_657 : gAt mL_law 657 = some (.iadd, 1, 0, 0, 0, 0) := by decide +kernel
theorem tL_law_659 : gAt mL_law 659 = some (.i2l, 1, 0, 0, 0, 0) := by decide +kernel
theorem tL_law_660 : gAt mL_law 660 = some (.ldc2_w 65, 3, 4294967295, 0, 0, 1515) := by decide +kernel
theorem tL_law_663 : gAt mL_law 663 = some (.land, 1, 0, 0, 0, 0) := by decide +kernel
theorem tL_law_664 : gAt mL_law 664 = some (.lor, 1, 0, 0, 0, 0) := by decide +kernel
theorem tL_law_665 : gAt mL_law 665 = some (.invokevirtual 71, 3, 104, 3, 10, 1238) := by decide +kernel
theorem tL_law_668 : gAt mL_law 668 = some (.if_icmp .eq 448, 3, 1116, 0, 0, 0) := by decide +kernel
theorem tL_law_671 : gAt mL_law 671 = some (.iconst 0, 1, 0, 0, 0, 0) := by decide +kernel
theorem tL_law_672 : gAt mL_law 672 = some (.ireturn, 1, 1, 0, 0, 0) := by decide +kernel
theorem tL_law_673 : gAt mL_law 673 = some (.aload_n 1, 1, 0, 0, 0, 0) := by decide +kernel
theorem tL_law_674 : gAt mL_law 674 = some (.invokevirtual 72, 3, 71, 0, 9, 512) := by decide +kernel
theorem tL_law_677 : gAt mL_law 677 = some (.aload_n 2, 1, 0, 0, 0, 0) := by decide +kernel
theorem tL_law_678 : gAt mL_law 678 = some (.invokevirtual 76, 3, 119, 0, 10, 1246) := by decide +kernel
theorem tL_law_681 : gAt mL_law 681 = some (.if_icmp .eq 435, 3, 1116, 0, 0, 0) := by decide +kernel
theorem tL_law_684 : gAt mL_law 684 = some (.iconst 0, 1, 0, 0, 0, 0) := by decide +kernel
theorem tL_law_685 : gAt mL_law 685 = some (.ireturn, 1, 1, 0, 0, 0) := by decide +kernel
theorem tL_law_686 : gAt mL_law 686 = some (.aload_n 1, 1, 0, 0, 0, 0) := by decide +kernel
theorem tL_law_687 : gAt mL_law 687 = some (.aload_n 0, 1, 0, 0, 0, 0) := by decide +kernel
theorem tL_law_688 : gAt mL_law 688 = some (.iload 4, 2, 0, 0, 0, 0) := by decide +kernel
theorem tL_law_690 : gAt mL_law 690 = some (.iconst 1, 1, 1, 0, 0, 0) := by decide +kernel
theorem tL_law_691 : gAt mL_law 691 = some (.iadd, 1, 0, 0, 0, 0) := by decide +kernel
theorem tL_law_693 : gAt mL_law 693 = some (.aload_n 0, 1, 0, 0, 0, 0) := by decide +kernel
theorem tL_law_694 : gAt mL_law 694 = some (.iload 4, 2, 0, 0, 0, 0) := by decide +kernel
theorem tL_law_696 : gAt mL_law 696 = some (.iconst 2, 1, 2, 0, 0, 0) := by decide +kernel
theorem tL_law_697 : gAt mL_law 697 = some (.iadd, 1, 0, 0, 0, 0) := by decide +kernel
theorem tL_law_699 : gAt mL_law 699 = some (.aload_n 0, 1, 0, 0, 0, 0) := by decide +kernel
theorem tL_law_700 : gAt mL_law 700 = some (.iload 4, 2, 0, 0, 0, 0) := by decide +kernel
theorem tL_law_702 : gAt mL_law 702 = some (.iconst 3, 1, 3, 0, 0, 0) := by decide +kernel
theorem tL_law_703 : gAt mL_law 703 = some (.iadd, 1, 0, 0, 0, 0) := by decide +kernel
theorem tL_law_705 : gAt mL_law 705 = some (.invokevirtual 77, 3, 72, 3, 9, 693) := by decide +kernel
theorem tL_law_708 : gAt mL_law 708 = some (.aload_n 2, 1, 0, 0, 0, 0) := by decide +kernel
theorem tL_law_709 : gAt mL_law 709 = some (.aload_n 0, 1, 0, 0, 0, 0) := by decide +kernel
theorem tL_law_710 : gAt mL_law 710 = some (.iload 4, 2, 0, 0, 0, 0) := by decide +kernel
theorem tL_law_712 : gAt mL_law 712 = some (.iconst 1, 1, 1, 0, 0, 0) := by decide +kernel
theorem tL_law_713 : gAt mL_law 713 = some (.iadd, 1, 0, 0, 0, 0) := by decide +kernel
theorem tL_law_715 : gAt mL_law 715 = some (.aload_n 0, 1, 0, 0, 0, 0) := by decide +kernel
theorem tL_law_716 : gAt mL_law 716 = some (.iload 4, 2, 0, 0, 0, 0) := by decide +kernel
theorem tL_law_718 : gAt mL_law 718 = some (.iconst 2, 1, 2, 0, 0, 0) := by decide +kernel
theorem tL_law_719 : gAt mL_law 719 = some (.iadd, 1, 0, 0, 0, 0) := by decide +kernel
theorem tL_law_721 : gAt mL_law 721 = some (.aload_n 0, 1, 0, 0, 0, 0) := by decide +kernel
theorem tL_law_722 : gAt mL_law 722 = some (.iload 4, 2, 0, 0, 0, 0) := by decide +kernel
theorem tL_law_724 : gAt mL_law 724 = some (.iconst 3, 1, 3, 0, 0, 0) := by decide +kernel
theorem tL_law_725 : gAt mL_law 725 = some (.iadd, 1, 0, 0, 0, 0) := by decide +kernel
theorem tL_law_727 : gAt mL_law 727 = some (.invokevirtual 81, 3, 151, 3, 10, 1419) := by decide +kernel
theorem tL_law_730 : gAt mL_law 730 = some (.if_icmp .eq 386, 3, 1116, 0, 0, 0) := by decide +kernel
theorem tL_law_733 : gAt mL_law 733 = some (.iconst 0, 1, 0, 0, 0, 0) := by decide +kernel
theorem tL_law_734 : gAt mL_law 734 = some (.ireturn, 1, 1, 0, 0, 0) := by decide +kernel
theorem tL_law_735 : gAt mL_law 735 = some (.aload_n 1, 1, 0, 0, 0, 0) := by decide +kernel
theorem tL_law_736 : gAt mL_law 736 = some (.aload_n 0, 1, 0, 0, 0, 0) := by decide +kernel
theorem tL_law_737 : gAt mL_law 737 = some (.iload 4, 2, 0, 0, 0, 0) := by decide +kernel
theorem tL_law_739 : gAt mL_law 739 = some (.iconst 1, 1, 1, 0, 0, 0) := by decide +kernel
theorem tL_law_740 : gAt mL_law 740 = some (.iadd, 1, 0, 0, 0, 0) := by decide +kernel
theorem tL_law_742 : gAt mL_law 742 = some (.aload_n 0, 1, 0, 0, 0, 0) := by decide +kernel
theorem tL_law_743 : gAt mL_law 743 = some (.iload 4, 2, 0, 0, 0, 0) := by decide +kernel
theorem tL_law_745 : gAt mL_law 745 = some (.iconst 2, 1, 2, 0, 0, 0) := by decide +kernel
theorem tL_law_746 : gAt mL_law 746 = some (.iadd, 1, 0, 0, 0, 0) := by decide +kernel
theorem tL_law_748 : gAt mL_law 748 = some (.invokevirtual 82, 3, 73, 2, 9, 771) := by decide +kernel
theorem tL_law_751 : gAt mL_law 751 = some (.aload_n 2, 1, 0, 0, 0, 0) := by decide +kernel
theorem tL_law_752 : gAt mL_law 752 = some (.aload_n 0, 1, 0, 0, 0, 0) := by decide +kernel
theorem tL_law_753 : gAt mL_law 753 = some (.iload 4, 2, 0, 0, 0, 0) := by decide +kernel
theorem tL_law_755 : gAt mL_law 755 = some (.iconst 1, 1, 1, 0, 0, 0) := by decide +kernel
theorem tL_law_756 : gAt mL_law 756 = some (.iadd, 1, 0, 0, 0, 0) := by decide +kernel
theorem tL_law_758 : gAt mL_law 758 = some (.aload_n 0, 1, 0, 0, 0, 0) := by decide +kernel
theorem tL_law_759 : gAt mL_law 759 = some (.iload 4, 2, 0, 0, 0, 0) := by decide +kernel
theorem tL_law_761 : gAt mL_law 761 = some (.iconst 2, 1, 2, 0, 0, 0) := by decide +kernel
theorem tL_law_762 : gAt mL_law 762 = some (.iadd, 1, 0, 0, 0, 0) := by decide +kernel
theorem tL_law_764 : gAt mL_law 764 = some (.invokevirtual 85, 3, 160, 2, 10, 1459) := by decide +kernel
theorem tL_law_767 : gAt mL_law 767 = some (.if_icmp .eq 349, 3, 1116, 0, 0, 0) := by decide +kernel
theorem tL_law_770 : gAt mL_law 770 = some (.iconst 0, 1, 0, 0, 0, 0) := by decide +kernel
theorem tL_law_771 : gAt mL_law 771 = some (.ireturn, 1, 1, 0, 0, 0) := by decide +kernel
theorem tL_law_772 : gAt mL_law 772 = some (.aload_n 1, 1, 0, 0, 0, 0) := by decide +kernel
theorem tL_law_773 : gAt mL_law 773 = some (.aload_n 0, 1, 0, 0, 0, 0) := by decide +kernel
theorem tL_law_774 : gAt mL_law 774 = some (.iload 4, 2, 0, 0, 0, 0) := by decide +kernel
theorem tL_law_776 : gAt mL_law 776 = some (.iconst 1, 1, 1, 0, 0, 0) := by decide +kernel
theorem tL_law_777 : gAt mL_law 777 = some (.iadd, 1, 0, 0, 0, 0) := by decide +kernel
theorem tL_law_779 : gAt mL_law 779 = some (.aload_n 0, 1, 0, 0, 0, 0) := by decide +kernel
theorem tL_law_780 : gAt mL_law 780 = some (.iload 4, 2, 0, 0, 0, 0) := by decide +kernel
theorem tL_law_782 : gAt mL_law 782 = some (.iconst 2, 1, 2, 0, 0, 0) := by decide +kernel
theorem tL_law_783 : gAt mL_law 783 = some (.iadd, 1, 0, 0, 0, 0) := by decide +kernel
theorem tL_law_785 : gAt mL_law 785 = some (.ifCond .eq 7, 3, 792, 0, 0, 0) := by decide +kernel
theorem tL_law_788 : gAt mL_law 788 = some (.iconst 1, 1, 1, 0, 0, 0) := by decide +kernel
theorem tL_law_789 : gAt mL_law 789 = some (.goto 4, 3, 793, 0, 0, 0) := by decide +kernel
theorem tL_law_792 : gAt mL_law 792 = some (.iconst 0, 1, 0, 0, 0, 0) := by decide +kernel
theorem tL_law_793 : gAt mL_law 793 = some (.invokevirtual 86, 3, 74, 2, 9, 829) := by decide +kernel
theorem tL_law_796 : gAt mL_law 796 = some (.aload_n 2, 1, 0, 0, 0, 0) := by decide +kernel
theorem tL_law_797 : gAt mL_law 797 = some (.aload_n 0, 1, 0, 0, 0, 0) := by decide +kernel
theorem tL_law_798 : gAt mL_law 798 = some (.iload 4, 2, 0, 0, 0, 0) := by decide +kernel
theorem tL_law_800 : gAt mL_law 800 = some (.iconst 1, 1, 1, 0, 0, 0) := by decide +kernel
theorem tL_law_801 : gAt mL_law 801 = some (.iadd, 1, 0, 0, 0, 0) := by decide +kernel
theorem tL_law_803 : gAt mL_law 803 = some (.aload_n 0, 1, 0, 0, 0, 0) := by decide +kernel
theorem tL_law_804 : gAt mL_law 804 = some (.iload 4, 2, 0, 0, 0, 0) := by decide +kernel
theorem tL_law_806 : gAt mL_law 806 = some (.iconst 2, 1, 2, 0, 0, 0) := by decide +kernel
theorem tL_law_807 : gAt mL_law 807 = some (.iadd, 1, 0, 0, 0, 0) := by decide +kernel
theorem tL_law_809 : gAt mL_law 809 = some (.ifCond .eq 7, 3, 816, 0, 0, 0) := by decide +kernel
theorem tL_law_812 : gAt mL_law 812 = some (.iconst 1, 1, 1, 0, 0, 0) := by decide +kernel
theorem tL_law_813 : gAt mL_law 813 = some (.goto 4, 3, 817, 0, 0, 0) := by decide +kernel
theorem tL_law_816 : gAt mL_law 816 = some (.iconst 0, 1, 0, 0, 0, 0) := by decide +kernel
theorem tL_law_817 : gAt mL_law 817 = some (.invokevirtual 89, 3, 161, 2, 10, 1463) := by decide +kernel
theorem tL_law_820 : gAt mL_law 820 = some (.if_icmp .eq 296, 3, 1116, 0, 0, 0) := by decide +kernel
theorem tL_law_823 : gAt mL_law 823 = some (.iconst 0, 1, 0, 0, 0, 0) := by decide +kernel
theorem tL_law_824 : gAt mL_law 824 = some (.ireturn, 1, 1, 0, 0, 0) := by decide +kernel
theorem tL_law_825 : gAt mL_law 825 = some (.aload_n 1, 1, 0, 0, 0, 0) := by decide +kernel
theorem tL_law_826 : gAt mL_law 826 = some (.aload_n 0, 1, 0, 0, 0, 0) := by decide +kernel
theorem tL_law_827 : gAt mL_law 827 = some (.iload 4, 2, 0, 0, 0, 0) := by decide +kernel
theorem tL_law_829 : gAt mL_law 829 = some (.iconst 1, 1, 1, 0, 0, 0) := by decide +kernel
theorem tL_law_830 : gAt mL_law 830 = some (.iadd, 1, 0, 0, 0, 0) := by decide +kernel
theorem tL_law_832 : gAt mL_law 832 = some (.invokevirtual 90, 3, 75, 1, 9, 844) := by decide +kernel
theorem tL_law_835 : gAt mL_law 835 = some (.aload_n 2, 1, 0, 0, 0, 0) := by decide +kernel
theorem tL_law_836 : gAt mL_law 836 = some (.aload_n 0, 1, 0, 0, 0, 0) := by decide +kernel
theorem tL_law_837 : gAt mL_law 837 = some (.iload 4, 2, 0, 0, 0, 0) := by decide +kernel
theorem tL_law_839 : gAt mL_law 839 = some (.iconst 1, 1, 1, 0, 0, 0) := by decide +kernel
theorem tL_law_840 : gAt mL_law 840 = some (.iadd, 1, 0, 0, 0, 0) := by decide +kernel
theorem tL_law_842 : gAt mL_law 842 = some (.invokevirtual 93, 3, 163, 1, 10, 1467) := by decide +kernel
theorem tL_law_845 : gAt mL_law 845 = some (.if_icmp .eq 271, 3, 1116, 0, 0, 0) := by decide +kernel
theorem tL_law_848 : gAt mL_law 848 = some (.iconst 0, 1, 0, 0, 0, 0) := by decide +kernel
theorem tL_law_849 : gAt mL_law 849 = some (.ireturn, 1, 1, 0, 0, 0) := by decide +kernel
theorem tL_law_850 : gAt mL_law 850 = some (.aload_n 1, 1, 0, 0, 0, 0) := by decide +kernel
theorem tL_law_851 : gAt mL_law 851 = some (.aload_n 0, 1, 0, 0, 0, 0) := by decide +kernel
theorem tL_law_852 : gAt mL_law 852 = some (.iload 4, 2, 0, 0, 0, 0) := by decide +kernel
theorem tL_law_854 : gAt mL_law 854 = some (.iconst 1, 1, 1, 0, 0, 0) := by decide +kernel
theorem tL_law_855 : gAt mL_law 855 = some (.iadd, 1, 0, 0, 0, 0) := by decide +kernel
theorem tL_law_857 : gAt mL_law 857 = some (.invokevirtual 94, 3, 76, 1, 9, 852) := by decide +kernel
theorem tL_law_860 : gAt mL_law 860 = some (.aload_n 2, 1, 0, 0, 0, 0) := by decide +kernel
theorem tL_law_861 : gAt mL_law 861 = some (.aload_n 0, 1, 0, 0, 0, 0) := by decide +kernel
theorem tL_law_862 : gAt mL_law 862 = some (.iload 4, 2, 0, 0, 0, 0) := by decide +kernel
theorem tL_law_864 : gAt mL_law 864 = some (.iconst 1, 1, 1, 0, 0, 0) := by decide +kernel
theorem tL_law_865 : gAt mL_law 865 = some (.iadd, 1, 0, 0, 0, 0) := by decide +kernel
theorem tL_law_867 : gAt mL_law 867 = some (.invokevirtual 97, 3, 157, 1, 10, 1431) := by decide +kernel
theorem tL_law_870 : gAt mL_law 870 = some (.if_icmp .eq 246, 3, 1116, 0, 0, 0) := by decide +kernel
theorem tL_law_873 : gAt mL_law 873 = some (.iconst 0, 1, 0, 0, 0, 0) := by decide +kernel
theorem tL_law_874 : gAt mL_law 874 = some (.ireturn, 1, 1, 0, 0, 0) := by decide +kernel
theorem tL_law_875 : gAt mL_law 875 = some (.aload_n 1, 1, 0, 0, 0, 0) := by decide +kernel
theorem tL_law_876 : gAt mL_law 876 = some (.aload_n 0, 1, 0, 0, 0, 0) := by decide +kernel
theorem tL_law_877 : gAt mL_law 877 = some (.iload 4, 2, 0, 0, 0, 0) := by decide +kernel
theorem tL_law_879 : gAt mL_law 879 = some (.iconst 1, 1, 1, 0, 0, 0) := by decide +kernel
theorem tL_law_880 : gAt mL_law 880 = some (.iadd, 1, 0, 0, 0, 0) := by decide +kernel
theorem tL_law_882 : gAt mL_law 882 = some (.aload_n 0, 1, 0, 0, 0, 0) := by decide +kernel
theorem tL_law_883 : gAt mL_law 883 = some (.iload 4, 2, 0, 0, 0, 0) := by decide +kernel
theorem tL_law_885 : gAt mL_law 885 = some (.iconst 2, 1, 2, 0, 0, 0) := by decide +kernel
theorem tL_law_886 : gAt mL_law 886 = some (.iadd, 1, 0, 0, 0, 0) := by decide +kernel
theorem tL_law_888 : gAt mL_law 888 = some (.invokevirtual 98, 3, 77, 2, 9, 856) := by decide +kernel
theorem tL_law_891 : gAt mL_law 891 = some (.aload_n 2, 1, 0, 0, 0, 0) := by decide +kernel
theorem tL_law_892 : gAt mL_law 892 = some (.aload_n 0, 1, 0, 0, 0, 0) := by decide +kernel
theorem tL_law_893 : gAt mL_law 893 = some (.iload 4, 2, 0, 0, 0, 0) := by decide +kernel
theorem tL_law_895 : gAt mL_law 895 = some (.iconst 1, 1, 1, 0, 0, 0) := by decide +kernel
theorem tL_law_896 : gAt mL_law 896 = some (.iadd, 1, 0, 0, 0, 0) := by decide +kernel
theorem tL_law_898 : gAt mL_law 898 = some (.aload_n 0, 1, 0, 0, 0, 0) := by decide +kernel
theorem tL_law_899 : gAt mL_law 899 = some (.iload 4, 2, 0, 0, 0, 0) := by decide +kernel
theorem tL_law_901 : gAt mL_law 901 = some (.iconst 2, 1, 2, 0, 0, 0) := by decide +kernel
theorem tL_law_902 : gAt mL_law 902 = some (.iadd, 1, 0, 0, 0, 0) := by decide +kernel
theorem tL_law_904 : gAt mL_law 904 = some (.invokevirtual 101, 3, 159, 2, 10, 1455) := by decide +kernel
theorem tL_law_907 : gAt mL_law 907 = some (.if_icmp .eq 209, 3, 1116, 0, 0, 0) := by decide +kernel
theorem tL_law_910 : gAt mL_law 910 = some (.iconst 0, 1, 0, 0, 0, 0) := by decide +kernel
theorem tL_law_911 : gAt mL_law 911 = some (.ireturn, 1, 1, 0, 0, 0) := by decide +kernel
theorem tL_law_912 : gAt mL_law 912 = some (.aload_n 1, 1, 0, 0, 0, 0) := by decide +kernel
theorem tL_law_913 : gAt mL_law 913 = some (.aload_n 0, 1, 0, 0, 0, 0) := by decide +kernel
theorem tL_law_914 : gAt mL_law 914 = some (.iload 4, 2, 0, 0, 0, 0) := by decide +kernel
theorem tL_law_916 : gAt mL_law 916 = some (.iconst 1, 1, 1, 0, 0, 0) := by decide +kernel
theorem tL_law_917 : gAt mL_law 917 = some (.iadd, 1, 0, 0, 0, 0) := by decide +kernel
theorem tL_law_919 : gAt mL_law 919 = some (.aload_n 0, 1, 0, 0, 0, 0) := by decide +kernel
theorem tL_law_920 : gAt mL_law 920 = some (.iload 4, 2, 0, 0, 0, 0) := by decide +kernel
theorem tL_law_922 : gAt mL_law 922 = some (.iconst 2, 1, 2, 0, 0, 0) := by decide +kernel
theorem tL_law_923 : gAt mL_law 923 = some (.iadd, 1, 0, 0, 0, 0) := by decide +kernel
theorem tL_law_925 : gAt mL_law 925 = some (.invokevirtual 102, 3, 78, 2, 9, 860) := by decide +kernel
theorem tL_law_928 : gAt mL_law 928 = some (.aload_n 2, 1, 0, 0, 0, 0) := by decide +kernel
theorem tL_law_929 : gAt mL_law 929 = some (.aload_n 0, 1, 0, 0, 0, 0) := by decide +kernel
theorem tL_law_930 : gAt mL_law 930 = some (.iload 4, 2, 0, 0, 0, 0) := by decide +kernel
theorem tL_law_932 : gAt mL_law 932 = some (.iconst 1, 1, 1, 0, 0, 0) := by decide +kernel
theorem tL_law_933 : gAt mL_law 933 = some (.iadd, 1, 0, 0, 0, 0) := by decide +kernel
theorem tL_law_935 : gAt mL_law 935 = some (.aload_n 0, 1, 0, 0, 0, 0) := by decide +kernel
theorem tL_law_936 : gAt mL_law 936 = some (.iload 4, 2, 0, 0, 0, 0) := by decide +kernel
theorem tL_law_938 : gAt mL_law 938 = some (.iconst 2, 1, 2, 0, 0, 0) := by decide +kernel
theorem tL_law_939 : gAt mL_law 939 = some (.iadd, 1, 0, 0, 0, 0) := by decide +kernel
theorem tL_law_941 : gAt mL_law 941 = some (.invokevirtual 105, 3, 168, 2, 10, 1475) := by decide +kernel
theorem tL_law_944 : gAt mL_law 944 = some (.if_icmp .eq 172, 3, 1116, 0, 0, 0) := by decide +kernel
theorem tL_law_947 : gAt mL_law 947 = some (.iconst 0, 1, 0, 0, 0, 0) := by decide +kernel
theorem tL_law_948 : gAt mL_law 948 = some (.ireturn, 1, 1, 0, 0, 0) := by decide +kernel
theorem tL_law_949 : gAt mL_law 949 = some (.aload_n 1, 1, 0, 0, 0, 0) := by decide +kernel
theorem tL_law_950 : gAt mL_law 950 = some (.aload_n 0, 1, 0, 0, 0, 0) := by decide +kernel
theorem tL_law_951 : gAt mL_law 951 = some (.iload 4, 2, 0, 0, 0, 0) := by decide +kernel
theorem tL_law_953 : gAt mL_law 953 = some (.iconst 1, 1, 1, 0, 0, 0) := by decide +kernel
theorem tL_law_954 : gAt mL_law 954 = some (.iadd, 1, 0, 0, 0, 0) := by decide +kernel
theorem tL_law_956 : gAt mL_law 956 = some (.aload_n 0, 1, 0, 0, 0, 0) := by decide +kernel
theorem tL_law_957 : gAt mL_law 957 = some (.iload 4, 2, 0, 0, 0, 0) := by decide +kernel
theorem tL_law_959 : gAt mL_law 959 = some (.iconst 2, 1, 2, 0, 0, 0) := by decide +kernel
theorem tL_law_960 : gAt mL_law 960 = some (.iadd, 1, 0, 0, 0, 0) := by decide +kernel
theorem tL_law_962 : gAt mL_law 962 = some (.invokevirtual 106, 3, 79, 2, 9, 920) := by decide +kernel
theorem tL_law_965 : gAt mL_law 965 = some (.aload_n 2, 1, 0, 0, 0, 0) := by decide +kernel
theorem tL_law_966 : gAt mL_law 966 = some (.aload_n 0, 1, 0, 0, 0, 0) := by decide +kernel
theorem tL_law_967 : gAt mL_law 967 = some (.iload 4, 2, 0, 0, 0, 0) := by decide +kernel
theorem tL_law_969 : gAt mL_law 969 = some (.iconst 1, 1, 1, 0, 0, 0) := by decide +kernel
theorem tL_law_970 : gAt mL_law 970 = some (.iadd, 1, 0, 0, 0, 0) := by decide +kernel
theorem tL_law_972 : gAt mL_law 972 = some (.aload_n 0, 1, 0, 0, 0, 0) := by decide +kernel
theorem tL_law_973 : gAt mL_law 973 = some (.iload 4, 2, 0, 0, 0, 0) := by decide +kernel
theorem tL_law_975 : gAt mL_law 975 = some (.iconst 2, 1, 2, 0, 0, 0) := by decide +kernel
theorem tL_law_976 : gAt mL_law 976 = some (.iadd, 1, 0, 0, 0, 0) := by decide +kernel
theorem tL_law_978 : gAt mL_law 978 = some (.invokevirtual 109, 3, 169, 2, 10, 1495) := by decide +kernel
theorem tL_law_981 : gAt mL_law 981 = some (.if_icmp .eq 135, 3, 1116, 0, 0, 0) := by decide +kernel
theorem tL_law_984 : gAt mL_law 984 = some (.iconst 0, 1, 0, 0, 0, 0) := by decide +kernel
theorem tL_law_985 : gAt mL_law 985 = some (.ireturn, 1, 1, 0, 0, 0) := by decide +kernel
theorem tL_law_986 : gAt mL_law 986 = some (.aload_n 1, 1, 0, 0, 0, 0) := by decide +kernel
theorem tL_law_987 : gAt mL_law 987 = some (.aload_n 0, 1, 0, 0, 0, 0) := by decide +kernel
theorem tL_law_988 : gAt mL_law 988 = some (.iload 4, 2, 0, 0, 0, 0) := by decide +kernel
theorem tL_law_990 : gAt mL_law 990 = some (.iconst 1, 1, 1, 0, 0, 0) := by decide +kernel
theorem tL_law_991 : gAt mL_law 991 = some (.iadd, 1, 0, 0, 0, 0) := by decide +kernel
theorem tL_law_993 : gAt mL_law 993 = some (.aload_n 0, 1, 0, 0, 0, 0) := by decide +kernel
theorem tL_law_994 : gAt mL_law 994 = some (.iload 4, 2, 0, 0, 0, 0) := by decide +kernel
theorem tL_law_996 : gAt mL_law 996 = some (.iconst 2, 1, 2, 0, 0, 0) := by decide +kernel
theorem tL_law_997 : gAt mL_law 997 = some (.iadd, 1, 0, 0, 0, 0) := by decide +kernel
theorem tL_law_999 : gAt mL_law 999 = some (.aload_n 3, 1, 0, 0, 0, 0) := by decide +kernel
theorem tL_law_1003 : gAt mL_law 1003 = some (.istore 5, 2, 0, 0, 0, 0) := by decide +kernel
theorem tL_law_1005 : gAt mL_law 1005 = some (.aload_n 2, 1, 0, 0, 0, 0) := by decide +kernel
theorem tL_law_1006 : gAt mL_law 1006 = some (.aload_n 0, 1, 0, 0, 0, 0) := by decide +kernel
theorem tL_law_1007 : gAt mL_law 1007 = some (.iload 4, 2, 0, 0, 0, 0) := by decide +kernel
theorem tL_law_1009 : gAt mL_law 1009 = some (.iconst 1, 1, 1, 0, 0, 0) := by decide +kernel
theorem tL_law_1010 : gAt mL_law 1010 = some (.iadd, 1, 0, 0, 0, 0) := by decide +kernel
theorem tL_law_1012 : gAt mL_law 1012 = some (.aload_n 0, 1, 0, 0, 0, 0) := by decide +kernel
theorem tL_law_1013 : gAt mL_law 1013 = some (.iload 4, 2, 0, 0, 0, 0) := by decide +kernel
theorem tL_law_1015 : gAt mL_law 1015 = some (.iconst 2, 1, 2, 0, 0, 0) := by decide +kernel
theorem tL_law_1016 : gAt mL_law 1016 = some (.iadd, 1, 0, 0, 0, 0) := by decide +kernel
theorem tL_law_1018 : gAt mL_law 1018 = some (.invokevirtual 115, 3, 172, 2, 10, 1499) := by decide +kernel
theorem tL_law_1021 : gAt mL_law 1021 = some (.istore 6, 2, 0, 0, 0, 0) := by decide +kernel
theorem tL_law_1023 : gAt mL_law 1023 = some (.aload_n 2, 1, 0, 0, 0, 0) := by decide +kernel
theorem tL_law_1024 : gAt mL_law 1024 = some (.invokevirtual 116, 3, 103, 0, 10, 1234) := by decide +kernel
theorem tL_law_1027 : gAt mL_law 1027 = some (.iload 5, 2, 0, 0, 0, 0) := by decide +kernel
theorem tL_law_1029 : gAt mL_law 1029 = some (.if_icmp .eq 5, 3, 1034, 0, 0, 0) := by decide +kernel
theorem tL_law_1032 : gAt mL_law 1032 = some (.iconst 0, 1, 0, 0, 0, 0) := by decide +kernel
theorem tL_law_1033 : gAt mL_law 1033 = some (.ireturn, 1, 1, 0, 0, 0) := by decide +kernel
theorem tL_law_1034 : gAt mL_law 1034 = some (.iload 5, 2, 0, 0, 0, 0) := by decide +kernel
theorem tL_law_1036 : gAt mL_law 1036 = some (.ifCond .ne 15, 3, 1051, 0, 0, 0) := by decide +kernel
theorem tL_law_1039 : gAt mL_law 1039 = some (.aload_n 3, 1, 0, 0, 0, 0) := by decide +kernel
theorem tL_law_1040 : gAt mL_law 1040 = some (.iconst 0, 1, 0, 0, 0, 0) := by decide +kernel
theorem tL_law_1041 : gAt mL_law 1041 = some (.laload, 1, 13, 0, 0, 0) := by decide +kernel
theorem tL_law_1042 : gAt mL_law 1042 = some (.iload 6, 2, 0, 0, 0, 0) := by decide +kernel
theorem tL_law_1044 : gAt mL_law 1044 = some (.i2l, 1, 0, 0, 0, 0) := by decide +kernel
theorem tL_law_1045 : gAt mL_law 1045 = some (.lcmp, 1, 0, 0, 0, 0) := by decide +kernel
theorem tL_law_1046 : gAt mL_law 1046 = some (.ifCond .eq 5, 3, 1051, 0, 0, 0) := by decide +kernel
theorem tL_law_1049 : gAt mL_law 1049 = some (.iconst 0, 1, 0, 0, 0, 0) := by decide +kernel
theorem tL_law_1050 : gAt mL_law 1050 = some (.ireturn, 1, 1, 0, 0, 0) := by decide +kernel
theorem tL_law_1051 : gAt mL_law 1051 = some (.goto 65, 3, 1116, 0, 0, 0) := by decide +kernel
theorem tL_law_1054 : gAt mL_law 1054 = some (.aload_n 1, 1, 0, 0, 0, 0) := by decide +kernel
theorem tL_law_1055 : gAt mL_law 1055 = some (.aload_n 0, 1, 0, 0, 0, 0) := by decide +kernel
theorem tL_law_1056 : gAt mL_law 1056 = some (.iload 4, 2, 0, 0, 0, 0) := by decide +kernel
theorem tL_law_1058 : gAt mL_law 1058 = some (.iconst 1, 1, 1, 0, 0, 0) := by decide +kernel
theorem tL_law_1059 : gAt mL_law 1059 = some (.iadd, 1, 0, 0, 0, 0) := by decide +kernel
theorem tL_law_1061 : gAt mL_law 1061 = some (.aload_n 0, 1, 0, 0, 0, 0) := by decide +kernel
theorem tL_law_1062 : gAt mL_law 1062 = some (.iload 4, 2, 0, 0, 0, 0) := by decide +kernel
theorem tL_law_1064 : gAt mL_law 1064 = some (.iconst 2, 1, 2, 0, 0, 0) := by decide +kernel
theorem tL_law_1065 : gAt mL_law 1065 = some (.iadd, 1, 0, 0, 0, 0) := by decide +kernel
theorem tL_law_1067 : gAt mL_law 1067 = some (.invokevirtual 119, 3, 81, 2, 9, 927) := by decide +kernel
theorem tL_law_1070 : gAt mL_law 1070 = some (.aload_n 2, 1, 0, 0, 0, 0) := by decide +kernel
theorem tL_law_1071 : gAt mL_law 1071 = some (.aload_n 0, 1, 0, 0, 0, 0) := by decide +kernel
theorem tL_law_1072 : gAt mL_law 1072 = some (.iload 4, 2, 0, 0, 0, 0) := by decide +kernel
theorem tL_law_1074 : gAt mL_law 1074 = some (.iconst 1, 1, 1, 0, 0, 0) := by decide +kernel
theorem tL_law_1075 : gAt mL_law 1075 = some (.iadd, 1, 0, 0, 0, 0) := by decide +kernel
theorem tL_law_1077 : gAt mL_law 1077 = some (.aload_n 0, 1, 0, 0, 0, 0) := by decide +kernel
theorem tL_law_1078 : gAt mL_law 1078 = some (.iload 4, 2, 0, 0, 0, 0) := by decide +kernel
theorem tL_law_1080 : gAt mL_law 1080 = some (.iconst 2, 1, 2, 0, 0, 0) := by decide +kernel
theorem tL_law_1081 : gAt mL_law 1081 = some (.iadd, 1, 0, 0, 0, 0) := by decide +kernel
theorem tL_law_1083 : gAt mL_law 1083 = some (.invokevirtual 122, 3, 150, 2, 10, 1388) := by decide +kernel
theorem tL_law_1086 : gAt mL_law 1086 = some (.if_icmp .eq 30, 3, 1116, 0, 0, 0) := by decide +kernel
theorem tL_law_1089 : gAt mL_law 1089 = some (.iconst 0, 1, 0, 0, 0, 0) := by decide +kernel
theorem tL_law_1090 : gAt mL_law 1090 = some (.ireturn, 1, 1, 0, 0, 0) := by decide +kernel
theorem tL_law_1091 : gAt mL_law 1091 = some (.aload_n 1, 1, 0, 0, 0, 0) := by decide +kernel
theorem tL_law_1092 : gAt mL_law 1092 = some (.aload_n 0, 1, 0, 0, 0, 0) := by decide +kernel
theorem tL_law_1093 : gAt mL_law 1093 = some (.iload 4, 2, 0, 0, 0, 0) := by decide +kernel
theorem tL_law_1095 : gAt mL_law 1095 = some (.iconst 1, 1, 1, 0, 0, 0) := by decide +kernel
theorem tL_law_1096 : gAt mL_law 1096 = some (.iadd, 1, 0, 0, 0, 0) := by decide +kernel
theorem tL_law_1098 : gAt mL_law 1098 = some (.invokevirtual 123, 3, 82, 1, 9, 933) := by decide +kernel
theorem tL_law_1101 : gAt mL_law 1101 = some (.aload_n 2, 1, 0, 0, 0, 0) := by decide +kernel
theorem tL_law_1102 : gAt mL_law 1102 = some (.aload_n 0, 1, 0, 0, 0, 0) := by decide +kernel
theorem tL_law_1103 : gAt mL_law 1103 = some (.iload 4, 2, 0, 0, 0, 0) := by decide +kernel
theorem tL_law_1105 : gAt mL_law 1105 = some (.iconst 1, 1, 1, 0, 0, 0) := by decide +kernel
theorem tL_law_1106 : gAt mL_law 1106 = some (.iadd, 1, 0, 0, 0, 0) := by decide +kernel
theorem tL_law_1108 : gAt mL_law 1108 = some (.invokevirtual 126, 3, 173, 1, 10, 1511) := by decide +kernel
theorem tL_law_1111 : gAt mL_law 1111 = some (.if_icmp .eq 5, 3, 1116, 0, 0, 0) := by decide +kernel
theorem tL_law_1114 : gAt mL_law 1114 = some (.iconst 0, 1, 0, 0, 0, 0) := by decide +kernel
theorem tL_law_1115 : gAt mL_law 1115 = some (.ireturn, 1, 1, 0, 0, 0) := by decide +kernel
theorem tL_law_1116 : gAt mL_law 1116 = some (.iinc 4 7, 3, 7, 0, 0, 0) := by decide +kernel
theorem tL_law_1119 : gAt mL_law 1119 = some (.goto (-1096), 3, 23, 0, 0, 0) := by decide +kernel
theorem tL_law_1122 : gAt mL_law 1122 = some (.iconst 1, 1, 1, 0, 0, 0) := by decide +kernel
theorem tL_law_1123 : gAt mL_law 1123 = some (.ireturn, 1, 1, 0, 0, 0) := by decide +kernel
def tbL_look_0 : List (Nat × gE) := [(0, (.aload_n 3, 1, 0, 0, 0, 0)), (1, (.iconst 0, 1, 0, 0, 0, 0)), (2, (.aload_n 0, 1, 0, 0, 0, 0)), (3, (.iload_n 1, 1, 0, 0, 0, 0)), (4, (.iload_n 2, 1, 0, 0, 0, 0)), (5, (.invokevirtual 7, 3, 80, 2, 9, 945)), (8, (.i2l, 1, 0, 0, 0, 0)), (9, (.lastore, 1, 13, 0, 0, 0)), (10, (.goto 7, 3, 17, 0, 0, 0)), (13, (.astore 4, 2, 0, 0, 0, 0)), (15, (.iconst 1, 1, 1, 0, 0, 0)), (16, (.ireturn, 1, 0, 0, 0, 0)), (17, (.iconst 0, 1, 0, 0, 0, 0)), (18, (.ireturn, 1, 0, 0, 0, 0))]
def mL_look : gM := (yL_look, cL_look, 5, some .int, (1, 4, 0, 0, 0, 0, 0), tbL_look_0)
set_option maxRecDepth 100000 in
theorem obL_look_0 : tbL_look_0.all (okE gF gNM mL_look) = true := by decide +kernel
theorem okL_look : (gTb mL_look).all (okE gF gNM mL_look) = true := by
  show (tbL_look_0).all (okE gF gNM mL_look) = true
  rw [obL_look_0]
theorem pnL_look : plainName (gY mL_look).cls = true := by decide +kernel
theorem tL_look_0 : gAt mL_look 0 = some (.aload_n 3, 1, 0, 0, 0, 0) := by decide +kernel
theorem tL_look_1 : gAt mL_look 1 = some (.iconst 0, 1, 0, 0, 0, 0) := by decide +kernel
theorem tL_look_2 : gAt mL_look 2 = some (.aload_n 0, 1, 0, 0, 0, 0) := by decide +kernel
theorem tL_look_3 : gAt mL_look 3 = some (.iload_n 1, 1, 0, 0, 0, 0) := by decide +kernel
theorem tL_look_4 : gAt mL_look 4 = some (.iload_n 2, 1, 0, 0, 0, 0) := by decide +kernel
theorem tL_look_5 : gAt mL_look 5 = some (.invokevirtual 7, 3, 80, 2, 9, 945) := by decide +kernel
theorem tL_look_8 : gAt mL_look 8 = some (.i2l, 1, 0, 0, 0, 0) := by decide +kernel
theorem tL_look_9 : gAt mL_look 9 = some (.lastore, 1, 13, 0, 0, 0) := by decide +kernel
theorem tL_look_10 : gAt mL_look 10 = some (.goto 7, 3, 17, 0, 0, 0) := by decide +kernel
theorem tL_look_13 : gAt mL_look 13 = some (.astore 4, 2, 0, 0, 0, 0) := by decide +kernel
theorem tL_look_15 : gAt mL_look 15 = some (.iconst 1, 1, 1, 0, 0, 0) := by decide +kernel
theorem tL_look_16 : gAt mL_look 16 = some (.ireturn, 1, 0, 0, 0, 0) := by decide +kernel
theorem tL_look_17 : gAt mL_look 17 = some (.iconst 0, 1, 0, 0, 0, 0) := by decide +kernel
theorem tL_look_18 : gAt mL_look 18 = some (.ireturn, 1, 0, 0, 0, 0) := by decide +kernel
