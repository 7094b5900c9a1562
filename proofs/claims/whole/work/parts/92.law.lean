/-! the law's own walks -/
abbrev YL_law : pt_Y := (8, cL_law, 7, (some .boolean), room_1)
theorem nL_law : (plainFor yL_law && decide (yL_law.cls = pt_own YL_law.1)) = true := by decide +kernel
def tC_23 : pt_B := [
  [(16, .iconst 1, 1, 0), (19, .astore_n 3, 1, 0), (20, .iconst 0, 1, 0), (21, .istore 4, 2, 0), (23, .iload 4, 2, 0), (25, .aload_n 0, 1, 0), (26, .arraylength, 1, 0), (27, .bipush 6, 2, 0), (29, .isub, 1, 0), (30, .if_icmp .gt 1258, 3, 1288)],
  [(33, .aload_n 0, 1, 0), (34, .iload 4, 2, 0), (36, .iaload, 1, 0), (37, .bipush 31, 2, 0), (39, .iand, 1, 0)]]
set_option maxRecDepth 100000 in
theorem tC_23_ok : pt_ok YL_law.2.1 tC_23 = true := by decide +kernel
def tC_1282 : pt_B := [
  [(1280, .iconst 0, 1, 0), (1281, .ireturn, 1, 0), (1282, .iinc 4 6, 3, 0), (1285, .goto (-1262), 3, 23), (1288, .iconst 1, 1, 0), (1289, .ireturn, 1, 0)]]
set_option maxRecDepth 100000 in
theorem tC_1282_ok : pt_ok YL_law.2.1 tC_1282 = true := by decide +kernel
def tC_168 : pt_B := [
  [(168, .aload_n 1, 1, 0), (169, .aload_n 0, 1, 0), (170, .iload 4, 2, 0), (172, .iconst 1, 1, 0), (173, .iadd, 1, 0), (174, .iaload, 1, 0), (175, .aload_n 0, 1, 0)],
  [(176, .iload 4, 2, 0), (178, .iconst 2, 1, 0), (179, .iadd, 1, 0), (180, .iaload, 1, 0), (181, .aload_n 0, 1, 0), (182, .iload 4, 2, 0), (184, .iconst 3, 1, 0), (185, .iadd, 1, 0), (186, .iaload, 1, 0), (187, .aload_n 0, 1, 0), (188, .iload 4, 2, 0), (190, .iconst 4, 1, 0), (191, .iadd, 1, 0)],
  [(192, .iaload, 1, 0), (193, .aload_n 0, 1, 0), (194, .iload 4, 2, 0), (196, .iconst 5, 1, 0), (197, .iadd, 1, 0), (198, .iaload, 1, 0), (199, .invokevirtual 23, 3, 0), (202, .aload_n 2, 1, 0), (203, .aload_n 0, 1, 0), (204, .iload 4, 2, 0), (206, .iconst 1, 1, 0), (207, .iadd, 1, 0)],
  [(208, .iaload, 1, 0), (209, .aload_n 0, 1, 0), (210, .iload 4, 2, 0), (212, .iconst 2, 1, 0), (213, .iadd, 1, 0), (214, .iaload, 1, 0), (215, .aload_n 0, 1, 0), (216, .iload 4, 2, 0), (218, .iconst 3, 1, 0), (219, .iadd, 1, 0), (220, .iaload, 1, 0), (221, .aload_n 0, 1, 0), (222, .iload 4, 2, 0)],
  [(224, .iconst 4, 1, 0), (225, .iadd, 1, 0), (226, .iaload, 1, 0), (227, .aload_n 0, 1, 0), (228, .iload 4, 2, 0), (230, .iconst 5, 1, 0), (231, .iadd, 1, 0), (232, .iaload, 1, 0), (233, .invokevirtual 27, 3, 0), (236, .if_icmp .eq 1046, 3, 1282), (239, .iconst 0, 1, 0)],
  [(240, .ireturn, 1, 0), (241, .aload_n 1, 1, 0), (242, .aload_n 0, 1, 0), (243, .iload 4, 2, 0), (245, .iconst 1, 1, 0), (246, .iadd, 1, 0), (247, .iaload, 1, 0), (248, .invokevirtual 28, 3, 0), (251, .aload_n 2, 1, 0), (252, .aload_n 0, 1, 0), (253, .iload 4, 2, 0), (255, .iconst 1, 1, 0)]]
set_option maxRecDepth 100000 in
theorem tC_168_ok : pt_ok YL_law.2.1 tC_168 = true := by decide +kernel
def tC_241 : pt_B := [
  [(240, .ireturn, 1, 0), (241, .aload_n 1, 1, 0), (242, .aload_n 0, 1, 0), (243, .iload 4, 2, 0), (245, .iconst 1, 1, 0), (246, .iadd, 1, 0), (247, .iaload, 1, 0), (248, .invokevirtual 28, 3, 0), (251, .aload_n 2, 1, 0), (252, .aload_n 0, 1, 0), (253, .iload 4, 2, 0), (255, .iconst 1, 1, 0)],
  [(256, .iadd, 1, 0), (257, .iaload, 1, 0), (258, .invokevirtual 32, 3, 0), (261, .if_icmp .eq 1021, 3, 1282), (264, .iconst 0, 1, 0), (265, .ireturn, 1, 0), (266, .aload_n 1, 1, 0), (267, .aload_n 0, 1, 0), (268, .iload 4, 2, 0), (270, .iconst 1, 1, 0), (271, .iadd, 1, 0)]]
set_option maxRecDepth 100000 in
theorem tC_241_ok : pt_ok YL_law.2.1 tC_241 = true := by decide +kernel
def tC_266 : pt_B := [
  [(256, .iadd, 1, 0), (257, .iaload, 1, 0), (258, .invokevirtual 32, 3, 0), (261, .if_icmp .eq 1021, 3, 1282), (264, .iconst 0, 1, 0), (265, .ireturn, 1, 0), (266, .aload_n 1, 1, 0), (267, .aload_n 0, 1, 0), (268, .iload 4, 2, 0), (270, .iconst 1, 1, 0), (271, .iadd, 1, 0)],
  [(272, .iaload, 1, 0), (273, .invokevirtual 33, 3, 0), (276, .aload_n 2, 1, 0), (277, .aload_n 0, 1, 0), (278, .iload 4, 2, 0), (280, .iconst 1, 1, 0), (281, .iadd, 1, 0), (282, .iaload, 1, 0), (283, .invokevirtual 36, 3, 0), (286, .if_icmp .eq 996, 3, 1282)],
  [(289, .iconst 0, 1, 0), (290, .ireturn, 1, 0), (291, .aload_n 1, 1, 0), (292, .invokevirtual 37, 3, 0), (295, .aload_n 2, 1, 0), (296, .invokevirtual 41, 3, 0), (299, .if_icmp .eq 983, 3, 1282), (302, .iconst 0, 1, 0), (303, .ireturn, 1, 0)]]
set_option maxRecDepth 100000 in
theorem tC_266_ok : pt_ok YL_law.2.1 tC_266 = true := by decide +kernel
def tC_291 : pt_B := [
  [(289, .iconst 0, 1, 0), (290, .ireturn, 1, 0), (291, .aload_n 1, 1, 0), (292, .invokevirtual 37, 3, 0), (295, .aload_n 2, 1, 0), (296, .invokevirtual 41, 3, 0), (299, .if_icmp .eq 983, 3, 1282), (302, .iconst 0, 1, 0), (303, .ireturn, 1, 0)]]
set_option maxRecDepth 100000 in
theorem tC_291_ok : pt_ok YL_law.2.1 tC_291 = true := by decide +kernel
def tC_304 : pt_B := [
  [(304, .aload_n 1, 1, 0), (305, .aload_n 0, 1, 0), (306, .iload 4, 2, 0), (308, .iconst 1, 1, 0), (309, .iadd, 1, 0), (310, .iaload, 1, 0), (311, .aload_n 0, 1, 0), (312, .iload 4, 2, 0), (314, .iconst 2, 1, 0), (315, .iadd, 1, 0), (316, .iaload, 1, 0), (317, .invokevirtual 42, 3, 0)],
  [(320, .aload_n 2, 1, 0), (321, .aload_n 0, 1, 0), (322, .iload 4, 2, 0), (324, .iconst 1, 1, 0), (325, .iadd, 1, 0), (326, .iaload, 1, 0), (327, .aload_n 0, 1, 0), (328, .iload 4, 2, 0), (330, .iconst 2, 1, 0), (331, .iadd, 1, 0), (332, .iaload, 1, 0), (333, .invokevirtual 46, 3, 0)],
  [(336, .if_icmp .eq 946, 3, 1282), (339, .iconst 0, 1, 0), (340, .ireturn, 1, 0), (341, .aload_n 1, 1, 0), (342, .aload_n 0, 1, 0), (343, .iload 4, 2, 0), (345, .iconst 1, 1, 0), (346, .iadd, 1, 0), (347, .iaload, 1, 0), (348, .aload_n 0, 1, 0), (349, .iload 4, 2, 0), (351, .iconst 2, 1, 0)]]
set_option maxRecDepth 100000 in
theorem tC_304_ok : pt_ok YL_law.2.1 tC_304 = true := by decide +kernel
def tC_341 : pt_B := [
  [(336, .if_icmp .eq 946, 3, 1282), (339, .iconst 0, 1, 0), (340, .ireturn, 1, 0), (341, .aload_n 1, 1, 0), (342, .aload_n 0, 1, 0), (343, .iload 4, 2, 0), (345, .iconst 1, 1, 0), (346, .iadd, 1, 0), (347, .iaload, 1, 0), (348, .aload_n 0, 1, 0), (349, .iload 4, 2, 0), (351, .iconst 2, 1, 0)],
  [(352, .iadd, 1, 0), (353, .iaload, 1, 0), (354, .aload_n 0, 1, 0), (355, .iload 4, 2, 0), (357, .iconst 3, 1, 0), (358, .iadd, 1, 0), (359, .iaload, 1, 0), (360, .aload_n 0, 1, 0), (361, .iload 4, 2, 0), (363, .iconst 4, 1, 0), (364, .iadd, 1, 0), (365, .iaload, 1, 0), (366, .invokevirtual 47, 3, 0)],
  [(369, .aload_n 2, 1, 0), (370, .aload_n 0, 1, 0), (371, .iload 4, 2, 0), (373, .iconst 1, 1, 0), (374, .iadd, 1, 0), (375, .iaload, 1, 0), (376, .aload_n 0, 1, 0), (377, .iload 4, 2, 0), (379, .iconst 2, 1, 0), (380, .iadd, 1, 0), (381, .iaload, 1, 0), (382, .aload_n 0, 1, 0), (383, .iload 4, 2, 0)],
  [(385, .iconst 3, 1, 0), (386, .iadd, 1, 0), (387, .iaload, 1, 0), (388, .aload_n 0, 1, 0), (389, .iload 4, 2, 0), (391, .iconst 4, 1, 0), (392, .iadd, 1, 0), (393, .iaload, 1, 0), (394, .invokevirtual 51, 3, 0), (397, .if_icmp .eq 885, 3, 1282)],
  [(400, .iconst 0, 1, 0), (401, .ireturn, 1, 0), (402, .aload_n 1, 1, 0), (403, .aload_n 0, 1, 0), (404, .iload 4, 2, 0), (406, .iconst 1, 1, 0), (407, .iadd, 1, 0), (408, .iaload, 1, 0), (409, .aload_n 0, 1, 0), (410, .iload 4, 2, 0), (412, .iconst 2, 1, 0), (413, .iadd, 1, 0), (414, .iaload, 1, 0), (415, .aload_n 0, 1, 0)]]
set_option maxRecDepth 100000 in
theorem tC_341_ok : pt_ok YL_law.2.1 tC_341 = true := by decide +kernel
def tC_402 : pt_B := [
  [(400, .iconst 0, 1, 0), (401, .ireturn, 1, 0), (402, .aload_n 1, 1, 0), (403, .aload_n 0, 1, 0), (404, .iload 4, 2, 0), (406, .iconst 1, 1, 0), (407, .iadd, 1, 0), (408, .iaload, 1, 0), (409, .aload_n 0, 1, 0), (410, .iload 4, 2, 0), (412, .iconst 2, 1, 0), (413, .iadd, 1, 0), (414, .iaload, 1, 0), (415, .aload_n 0, 1, 0)],
  [(416, .iload 4, 2, 0), (418, .iconst 3, 1, 0), (419, .iadd, 1, 0), (420, .iaload, 1, 0), (421, .aload_n 0, 1, 0), (422, .iload 4, 2, 0), (424, .iconst 4, 1, 0), (425, .iadd, 1, 0), (426, .iaload, 1, 0), (427, .invokevirtual 52, 3, 0), (430, .aload_n 2, 1, 0), (431, .aload_n 0, 1, 0)],
  [(432, .iload 4, 2, 0), (434, .iconst 1, 1, 0), (435, .iadd, 1, 0), (436, .iaload, 1, 0), (437, .aload_n 0, 1, 0), (438, .iload 4, 2, 0), (440, .iconst 2, 1, 0), (441, .iadd, 1, 0), (442, .iaload, 1, 0), (443, .aload_n 0, 1, 0), (444, .iload 4, 2, 0), (446, .iconst 3, 1, 0), (447, .iadd, 1, 0)],
  [(448, .iaload, 1, 0), (449, .aload_n 0, 1, 0), (450, .iload 4, 2, 0), (452, .iconst 4, 1, 0), (453, .iadd, 1, 0), (454, .iaload, 1, 0), (455, .invokevirtual 56, 3, 0), (458, .if_icmp .eq 824, 3, 1282), (461, .iconst 0, 1, 0), (462, .ireturn, 1, 0), (463, .aload_n 1, 1, 0)]]
set_option maxRecDepth 100000 in
theorem tC_402_ok : pt_ok YL_law.2.1 tC_402 = true := by decide +kernel
def tC_463 : pt_B := [
  [(448, .iaload, 1, 0), (449, .aload_n 0, 1, 0), (450, .iload 4, 2, 0), (452, .iconst 4, 1, 0), (453, .iadd, 1, 0), (454, .iaload, 1, 0), (455, .invokevirtual 56, 3, 0), (458, .if_icmp .eq 824, 3, 1282), (461, .iconst 0, 1, 0), (462, .ireturn, 1, 0), (463, .aload_n 1, 1, 0)],
  [(464, .aload_n 0, 1, 0), (465, .iload 4, 2, 0), (467, .iconst 1, 1, 0), (468, .iadd, 1, 0), (469, .iaload, 1, 0), (470, .aload_n 0, 1, 0), (471, .iload 4, 2, 0), (473, .iconst 2, 1, 0), (474, .iadd, 1, 0), (475, .iaload, 1, 0), (476, .invokevirtual 57, 3, 0), (479, .aload_n 2, 1, 0)],
  [(480, .aload_n 0, 1, 0), (481, .iload 4, 2, 0), (483, .iconst 1, 1, 0), (484, .iadd, 1, 0), (485, .iaload, 1, 0), (486, .aload_n 0, 1, 0), (487, .iload 4, 2, 0), (489, .iconst 2, 1, 0), (490, .iadd, 1, 0), (491, .iaload, 1, 0), (492, .invokevirtual 60, 3, 0), (495, .if_icmp .eq 787, 3, 1282)],
  [(498, .iconst 0, 1, 0), (499, .ireturn, 1, 0), (500, .aload_n 1, 1, 0), (501, .aload_n 0, 1, 0), (502, .iload 4, 2, 0), (504, .iconst 1, 1, 0), (505, .iadd, 1, 0), (506, .iaload, 1, 0), (507, .aload_n 0, 1, 0), (508, .iload 4, 2, 0), (510, .iconst 2, 1, 0), (511, .iadd, 1, 0)]]
set_option maxRecDepth 100000 in
theorem tC_463_ok : pt_ok YL_law.2.1 tC_463 = true := by decide +kernel
def tC_500 : pt_B := [
  [(498, .iconst 0, 1, 0), (499, .ireturn, 1, 0), (500, .aload_n 1, 1, 0), (501, .aload_n 0, 1, 0), (502, .iload 4, 2, 0), (504, .iconst 1, 1, 0), (505, .iadd, 1, 0), (506, .iaload, 1, 0), (507, .aload_n 0, 1, 0), (508, .iload 4, 2, 0), (510, .iconst 2, 1, 0), (511, .iadd, 1, 0)],
  [(512, .iaload, 1, 0), (513, .invokevirtual 61, 3, 0), (516, .aload_n 2, 1, 0), (517, .aload_n 0, 1, 0), (518, .iload 4, 2, 0), (520, .iconst 1, 1, 0), (521, .iadd, 1, 0), (522, .iaload, 1, 0), (523, .aload_n 0, 1, 0), (524, .iload 4, 2, 0), (526, .iconst 2, 1, 0), (527, .iadd, 1, 0)],
  [(528, .iaload, 1, 0), (529, .invokevirtual 64, 3, 0), (532, .if_icmp .eq 750, 3, 1282), (535, .iconst 0, 1, 0), (536, .ireturn, 1, 0), (537, .aload_n 1, 1, 0), (538, .aload_n 0, 1, 0), (539, .iload 4, 2, 0), (541, .iconst 1, 1, 0), (542, .iadd, 1, 0), (543, .iaload, 1, 0)]]
set_option maxRecDepth 100000 in
theorem tC_500_ok : pt_ok YL_law.2.1 tC_500 = true := by decide +kernel
def tC_537 : pt_B := [
  [(528, .iaload, 1, 0), (529, .invokevirtual 64, 3, 0), (532, .if_icmp .eq 750, 3, 1282), (535, .iconst 0, 1, 0), (536, .ireturn, 1, 0), (537, .aload_n 1, 1, 0), (538, .aload_n 0, 1, 0), (539, .iload 4, 2, 0), (541, .iconst 1, 1, 0), (542, .iadd, 1, 0), (543, .iaload, 1, 0)],
  [(544, .aload_n 0, 1, 0), (545, .iload 4, 2, 0), (547, .iconst 2, 1, 0), (548, .iadd, 1, 0), (549, .iaload, 1, 0), (550, .aload_n 0, 1, 0), (551, .iload 4, 2, 0), (553, .iconst 3, 1, 0), (554, .iadd, 1, 0), (555, .iaload, 1, 0), (556, .invokevirtual 65, 3, 0), (559, .aload_n 2, 1, 0)],
  [(560, .aload_n 0, 1, 0), (561, .iload 4, 2, 0), (563, .iconst 1, 1, 0), (564, .iadd, 1, 0), (565, .iaload, 1, 0), (566, .aload_n 0, 1, 0), (567, .iload 4, 2, 0), (569, .iconst 2, 1, 0), (570, .iadd, 1, 0), (571, .iaload, 1, 0), (572, .aload_n 0, 1, 0), (573, .iload 4, 2, 0), (575, .iconst 3, 1, 0)],
  [(576, .iadd, 1, 0), (577, .iaload, 1, 0), (578, .invokevirtual 69, 3, 0), (581, .if_icmp .eq 701, 3, 1282), (584, .iconst 0, 1, 0), (585, .ireturn, 1, 0), (586, .aload_n 1, 1, 0), (587, .aload_n 0, 1, 0), (588, .iload 4, 2, 0), (590, .iconst 1, 1, 0), (591, .iadd, 1, 0)]]
set_option maxRecDepth 100000 in
theorem tC_537_ok : pt_ok YL_law.2.1 tC_537 = true := by decide +kernel
def tC_586 : pt_B := [
  [(576, .iadd, 1, 0), (577, .iaload, 1, 0), (578, .invokevirtual 69, 3, 0), (581, .if_icmp .eq 701, 3, 1282), (584, .iconst 0, 1, 0), (585, .ireturn, 1, 0), (586, .aload_n 1, 1, 0), (587, .aload_n 0, 1, 0), (588, .iload 4, 2, 0), (590, .iconst 1, 1, 0), (591, .iadd, 1, 0)],
  [(592, .iaload, 1, 0), (593, .invokevirtual 70, 3, 0), (596, .aload_n 2, 1, 0), (597, .aload_n 0, 1, 0), (598, .iload 4, 2, 0), (600, .iconst 1, 1, 0), (601, .iadd, 1, 0), (602, .iaload, 1, 0), (603, .invokevirtual 73, 3, 0), (606, .if_icmp .eq 676, 3, 1282)],
  [(609, .iconst 0, 1, 0), (610, .ireturn, 1, 0), (611, .aload_n 1, 1, 0), (612, .aload_n 0, 1, 0), (613, .iload 4, 2, 0), (615, .iconst 1, 1, 0), (616, .iadd, 1, 0), (617, .iaload, 1, 0), (618, .invokevirtual 74, 3, 0), (621, .aload_n 2, 1, 0), (622, .aload_n 0, 1, 0), (623, .iload 4, 2, 0)]]
set_option maxRecDepth 100000 in
theorem tC_586_ok : pt_ok YL_law.2.1 tC_586 = true := by decide +kernel
def tC_611 : pt_B := [
  [(609, .iconst 0, 1, 0), (610, .ireturn, 1, 0), (611, .aload_n 1, 1, 0), (612, .aload_n 0, 1, 0), (613, .iload 4, 2, 0), (615, .iconst 1, 1, 0), (616, .iadd, 1, 0), (617, .iaload, 1, 0), (618, .invokevirtual 74, 3, 0), (621, .aload_n 2, 1, 0), (622, .aload_n 0, 1, 0), (623, .iload 4, 2, 0)],
  [(625, .iconst 1, 1, 0), (626, .iadd, 1, 0), (627, .iaload, 1, 0), (628, .invokevirtual 77, 3, 0), (631, .if_icmp .eq 651, 3, 1282), (634, .iconst 0, 1, 0), (635, .ireturn, 1, 0), (636, .aload_n 1, 1, 0), (637, .aload_n 0, 1, 0), (638, .iload 4, 2, 0)]]
set_option maxRecDepth 100000 in
theorem tC_611_ok : pt_ok YL_law.2.1 tC_611 = true := by decide +kernel
def tC_636 : pt_B := [
  [(625, .iconst 1, 1, 0), (626, .iadd, 1, 0), (627, .iaload, 1, 0), (628, .invokevirtual 77, 3, 0), (631, .if_icmp .eq 651, 3, 1282), (634, .iconst 0, 1, 0), (635, .ireturn, 1, 0), (636, .aload_n 1, 1, 0), (637, .aload_n 0, 1, 0), (638, .iload 4, 2, 0)],
  [(640, .iconst 1, 1, 0), (641, .iadd, 1, 0), (642, .iaload, 1, 0), (643, .invokevirtual 78, 3, 0), (646, .aload_n 2, 1, 0), (647, .aload_n 0, 1, 0), (648, .iload 4, 2, 0), (650, .iconst 1, 1, 0), (651, .iadd, 1, 0), (652, .iaload, 1, 0), (653, .invokevirtual 81, 3, 0)],
  [(656, .if_icmp .eq 626, 3, 1282), (659, .iconst 0, 1, 0), (660, .ireturn, 1, 0), (661, .aload_n 1, 1, 0), (662, .aload_n 0, 1, 0), (663, .iload 4, 2, 0), (665, .iconst 1, 1, 0), (666, .iadd, 1, 0), (667, .iaload, 1, 0), (668, .aload_n 0, 1, 0), (669, .iload 4, 2, 0), (671, .iconst 2, 1, 0)]]
set_option maxRecDepth 100000 in
theorem tC_636_ok : pt_ok YL_law.2.1 tC_636 = true := by decide +kernel
def tC_661 : pt_B := [
  [(656, .if_icmp .eq 626, 3, 1282), (659, .iconst 0, 1, 0), (660, .ireturn, 1, 0), (661, .aload_n 1, 1, 0), (662, .aload_n 0, 1, 0), (663, .iload 4, 2, 0), (665, .iconst 1, 1, 0), (666, .iadd, 1, 0), (667, .iaload, 1, 0), (668, .aload_n 0, 1, 0), (669, .iload 4, 2, 0), (671, .iconst 2, 1, 0)],
  [(672, .iadd, 1, 0), (673, .iaload, 1, 0), (674, .aload_n 3, 1, 0), (675, .invokestatic 82, 3, 0), (678, .istore 5, 2, 0), (680, .aload_n 2, 1, 0), (681, .aload_n 0, 1, 0), (682, .iload 4, 2, 0), (684, .iconst 1, 1, 0), (685, .iadd, 1, 0), (686, .iaload, 1, 0), (687, .aload_n 0, 1, 0)],
  [(688, .iload 4, 2, 0), (690, .iconst 2, 1, 0), (691, .iadd, 1, 0), (692, .iaload, 1, 0), (693, .invokevirtual 87, 3, 0), (696, .istore 6, 2, 0), (698, .aload_n 2, 1, 0), (699, .invokevirtual 88, 3, 0), (702, .iload 5, 2, 0)],
  [(704, .if_icmp .eq 5, 3, 709), (707, .iconst 0, 1, 0), (708, .ireturn, 1, 0), (709, .iload 5, 2, 0), (711, .ifCond .ne 15, 3, 726), (714, .aload_n 3, 1, 0), (715, .iconst 0, 1, 0), (716, .laload, 1, 0), (717, .iload 6, 2, 0), (719, .i2l, 1, 0)],
  [(720, .lcmp, 1, 0), (721, .ifCond .eq 5, 3, 726), (724, .iconst 0, 1, 0), (725, .ireturn, 1, 0), (726, .goto 556, 3, 1282), (729, .aload_n 1, 1, 0), (730, .aload_n 0, 1, 0), (731, .iload 4, 2, 0), (733, .iconst 1, 1, 0), (734, .iadd, 1, 0), (735, .iaload, 1, 0)]]
set_option maxRecDepth 100000 in
theorem tC_661_ok : pt_ok YL_law.2.1 tC_661 = true := by decide +kernel
def tC_729 : pt_B := [
  [(720, .lcmp, 1, 0), (721, .ifCond .eq 5, 3, 726), (724, .iconst 0, 1, 0), (725, .ireturn, 1, 0), (726, .goto 556, 3, 1282), (729, .aload_n 1, 1, 0), (730, .aload_n 0, 1, 0), (731, .iload 4, 2, 0), (733, .iconst 1, 1, 0), (734, .iadd, 1, 0), (735, .iaload, 1, 0)],
  [(736, .aload_n 0, 1, 0), (737, .iload 4, 2, 0), (739, .iconst 2, 1, 0), (740, .iadd, 1, 0), (741, .iaload, 1, 0), (742, .invokevirtual 91, 3, 0), (745, .aload_n 2, 1, 0), (746, .aload_n 0, 1, 0), (747, .iload 4, 2, 0), (749, .iconst 1, 1, 0), (750, .iadd, 1, 0), (751, .iaload, 1, 0)],
  [(752, .aload_n 0, 1, 0), (753, .iload 4, 2, 0), (755, .iconst 2, 1, 0), (756, .iadd, 1, 0), (757, .iaload, 1, 0), (758, .invokevirtual 94, 3, 0), (761, .if_icmp .eq 521, 3, 1282), (764, .iconst 0, 1, 0), (765, .ireturn, 1, 0), (766, .aload_n 1, 1, 0), (767, .aload_n 0, 1, 0)]]
set_option maxRecDepth 100000 in
theorem tC_729_ok : pt_ok YL_law.2.1 tC_729 = true := by decide +kernel
def tC_766 : pt_B := [
  [(752, .aload_n 0, 1, 0), (753, .iload 4, 2, 0), (755, .iconst 2, 1, 0), (756, .iadd, 1, 0), (757, .iaload, 1, 0), (758, .invokevirtual 94, 3, 0), (761, .if_icmp .eq 521, 3, 1282), (764, .iconst 0, 1, 0), (765, .ireturn, 1, 0), (766, .aload_n 1, 1, 0), (767, .aload_n 0, 1, 0)],
  [(768, .iload 4, 2, 0), (770, .iconst 1, 1, 0), (771, .iadd, 1, 0), (772, .iaload, 1, 0), (773, .invokevirtual 95, 3, 0), (776, .aload_n 2, 1, 0), (777, .aload_n 0, 1, 0), (778, .iload 4, 2, 0), (780, .iconst 1, 1, 0), (781, .iadd, 1, 0), (782, .iaload, 1, 0), (783, .invokevirtual 98, 3, 0)],
  [(786, .if_icmp .eq 496, 3, 1282), (789, .iconst 0, 1, 0), (790, .ireturn, 1, 0), (791, .aload_n 1, 1, 0), (792, .aload_n 0, 1, 0), (793, .iload 4, 2, 0), (795, .iconst 1, 1, 0), (796, .iadd, 1, 0), (797, .iaload, 1, 0), (798, .aload_n 0, 1, 0), (799, .iload 4, 2, 0)]]
set_option maxRecDepth 100000 in
theorem tC_766_ok : pt_ok YL_law.2.1 tC_766 = true := by decide +kernel
def tC_791 : pt_B := [
  [(786, .if_icmp .eq 496, 3, 1282), (789, .iconst 0, 1, 0), (790, .ireturn, 1, 0), (791, .aload_n 1, 1, 0), (792, .aload_n 0, 1, 0), (793, .iload 4, 2, 0), (795, .iconst 1, 1, 0), (796, .iadd, 1, 0), (797, .iaload, 1, 0), (798, .aload_n 0, 1, 0), (799, .iload 4, 2, 0)],
  [(801, .iconst 2, 1, 0), (802, .iadd, 1, 0), (803, .iaload, 1, 0), (804, .invokevirtual 99, 3, 0), (807, .aload_n 2, 1, 0), (808, .aload_n 0, 1, 0), (809, .iload 4, 2, 0), (811, .iconst 1, 1, 0), (812, .iadd, 1, 0), (813, .iaload, 1, 0), (814, .aload_n 0, 1, 0), (815, .iload 4, 2, 0)],
  [(817, .iconst 2, 1, 0), (818, .iadd, 1, 0), (819, .iaload, 1, 0), (820, .invokevirtual 102, 3, 0), (823, .if_icmp .eq 459, 3, 1282), (826, .iconst 0, 1, 0), (827, .ireturn, 1, 0), (828, .aload_n 1, 1, 0), (829, .aload_n 0, 1, 0), (830, .iload 4, 2, 0)]]
set_option maxRecDepth 100000 in
theorem tC_791_ok : pt_ok YL_law.2.1 tC_791 = true := by decide +kernel
def tC_828 : pt_B := [
  [(817, .iconst 2, 1, 0), (818, .iadd, 1, 0), (819, .iaload, 1, 0), (820, .invokevirtual 102, 3, 0), (823, .if_icmp .eq 459, 3, 1282), (826, .iconst 0, 1, 0), (827, .ireturn, 1, 0), (828, .aload_n 1, 1, 0), (829, .aload_n 0, 1, 0), (830, .iload 4, 2, 0)],
  [(832, .iconst 1, 1, 0), (833, .iadd, 1, 0), (834, .iaload, 1, 0), (835, .aload_n 0, 1, 0), (836, .iload 4, 2, 0), (838, .iconst 2, 1, 0), (839, .iadd, 1, 0), (840, .iaload, 1, 0), (841, .invokevirtual 103, 3, 0), (844, .aload_n 2, 1, 0), (845, .aload_n 0, 1, 0), (846, .iload 4, 2, 0)],
  [(848, .iconst 1, 1, 0), (849, .iadd, 1, 0), (850, .iaload, 1, 0), (851, .aload_n 0, 1, 0), (852, .iload 4, 2, 0), (854, .iconst 2, 1, 0), (855, .iadd, 1, 0), (856, .iaload, 1, 0), (857, .invokevirtual 106, 3, 0), (860, .if_icmp .eq 422, 3, 1282), (863, .iconst 0, 1, 0)],
  [(864, .ireturn, 1, 0), (865, .aload_n 1, 1, 0), (866, .aload_n 0, 1, 0), (867, .iload 4, 2, 0), (869, .iconst 1, 1, 0), (870, .iadd, 1, 0), (871, .iaload, 1, 0), (872, .aload_n 0, 1, 0), (873, .iload 4, 2, 0), (875, .iconst 2, 1, 0), (876, .iadd, 1, 0), (877, .iaload, 1, 0), (878, .invokevirtual 107, 3, 0)]]
set_option maxRecDepth 100000 in
theorem tC_828_ok : pt_ok YL_law.2.1 tC_828 = true := by decide +kernel
def tC_865 : pt_B := [
  [(864, .ireturn, 1, 0), (865, .aload_n 1, 1, 0), (866, .aload_n 0, 1, 0), (867, .iload 4, 2, 0), (869, .iconst 1, 1, 0), (870, .iadd, 1, 0), (871, .iaload, 1, 0), (872, .aload_n 0, 1, 0), (873, .iload 4, 2, 0), (875, .iconst 2, 1, 0), (876, .iadd, 1, 0), (877, .iaload, 1, 0), (878, .invokevirtual 107, 3, 0)],
  [(881, .aload_n 2, 1, 0), (882, .aload_n 0, 1, 0), (883, .iload 4, 2, 0), (885, .iconst 1, 1, 0), (886, .iadd, 1, 0), (887, .iaload, 1, 0), (888, .aload_n 0, 1, 0), (889, .iload 4, 2, 0), (891, .iconst 2, 1, 0), (892, .iadd, 1, 0), (893, .iaload, 1, 0), (894, .invokevirtual 110, 3, 0)],
  [(897, .if_icmp .eq 385, 3, 1282), (900, .iconst 0, 1, 0), (901, .ireturn, 1, 0), (902, .aload_n 1, 1, 0), (903, .aload_n 0, 1, 0), (904, .iload 4, 2, 0), (906, .iconst 1, 1, 0), (907, .iadd, 1, 0), (908, .iaload, 1, 0), (909, .invokevirtual 111, 3, 0)]]
set_option maxRecDepth 100000 in
theorem tC_865_ok : pt_ok YL_law.2.1 tC_865 = true := by decide +kernel
def tC_902 : pt_B := [
  [(897, .if_icmp .eq 385, 3, 1282), (900, .iconst 0, 1, 0), (901, .ireturn, 1, 0), (902, .aload_n 1, 1, 0), (903, .aload_n 0, 1, 0), (904, .iload 4, 2, 0), (906, .iconst 1, 1, 0), (907, .iadd, 1, 0), (908, .iaload, 1, 0), (909, .invokevirtual 111, 3, 0)],
  [(912, .aload_n 2, 1, 0), (913, .aload_n 0, 1, 0), (914, .iload 4, 2, 0), (916, .iconst 1, 1, 0), (917, .iadd, 1, 0), (918, .iaload, 1, 0), (919, .invokevirtual 114, 3, 0), (922, .if_icmp .eq 360, 3, 1282), (925, .iconst 0, 1, 0), (926, .ireturn, 1, 0), (927, .aload_n 1, 1, 0)]]
set_option maxRecDepth 100000 in
theorem tC_902_ok : pt_ok YL_law.2.1 tC_902 = true := by decide +kernel
def tC_927 : pt_B := [
  [(912, .aload_n 2, 1, 0), (913, .aload_n 0, 1, 0), (914, .iload 4, 2, 0), (916, .iconst 1, 1, 0), (917, .iadd, 1, 0), (918, .iaload, 1, 0), (919, .invokevirtual 114, 3, 0), (922, .if_icmp .eq 360, 3, 1282), (925, .iconst 0, 1, 0), (926, .ireturn, 1, 0), (927, .aload_n 1, 1, 0)],
  [(928, .aload_n 0, 1, 0), (929, .iload 4, 2, 0), (931, .iconst 1, 1, 0), (932, .iadd, 1, 0), (933, .iaload, 1, 0), (934, .aload_n 3, 1, 0), (935, .invokestatic 115, 3, 0), (938, .istore 5, 2, 0), (940, .aload_n 2, 1, 0), (941, .aload_n 0, 1, 0), (942, .iload 4, 2, 0)],
  [(944, .iconst 1, 1, 0), (945, .iadd, 1, 0), (946, .iaload, 1, 0), (947, .invokevirtual 118, 3, 0), (950, .istore 6, 2, 0), (952, .aload_n 2, 1, 0), (953, .invokevirtual 88, 3, 0), (956, .iload 5, 2, 0), (958, .if_icmp .eq 5, 3, 963)],
  [(961, .iconst 0, 1, 0), (962, .ireturn, 1, 0), (963, .iload 5, 2, 0), (965, .ifCond .ne 15, 3, 980), (968, .aload_n 3, 1, 0), (969, .iconst 0, 1, 0), (970, .laload, 1, 0), (971, .iload 6, 2, 0), (973, .i2l, 1, 0), (974, .lcmp, 1, 0), (975, .ifCond .eq 5, 3, 980)],
  [(978, .iconst 0, 1, 0), (979, .ireturn, 1, 0), (980, .goto 302, 3, 1282), (983, .aload_n 1, 1, 0), (984, .aload_n 0, 1, 0), (985, .iload 4, 2, 0), (987, .iconst 1, 1, 0), (988, .iadd, 1, 0), (989, .iaload, 1, 0), (990, .aload_n 0, 1, 0), (991, .iload 4, 2, 0)]]
set_option maxRecDepth 100000 in
theorem tC_927_ok : pt_ok YL_law.2.1 tC_927 = true := by decide +kernel
def tC_983 : pt_B := [
  [(978, .iconst 0, 1, 0), (979, .ireturn, 1, 0), (980, .goto 302, 3, 1282), (983, .aload_n 1, 1, 0), (984, .aload_n 0, 1, 0), (985, .iload 4, 2, 0), (987, .iconst 1, 1, 0), (988, .iadd, 1, 0), (989, .iaload, 1, 0), (990, .aload_n 0, 1, 0), (991, .iload 4, 2, 0)],
  [(993, .iconst 2, 1, 0), (994, .iadd, 1, 0), (995, .iaload, 1, 0), (996, .aload_n 0, 1, 0), (997, .iload 4, 2, 0), (999, .iconst 3, 1, 0), (1000, .iadd, 1, 0), (1001, .iaload, 1, 0), (1002, .ifCond .eq 7, 3, 1009), (1005, .iconst 1, 1, 0), (1006, .goto 4, 3, 1010)],
  [(1009, .iconst 0, 1, 0), (1010, .invokevirtual 119, 3, 0), (1013, .aload_n 2, 1, 0), (1014, .aload_n 0, 1, 0), (1015, .iload 4, 2, 0), (1017, .iconst 1, 1, 0), (1018, .iadd, 1, 0), (1019, .iaload, 1, 0), (1020, .aload_n 0, 1, 0), (1021, .iload 4, 2, 0), (1023, .iconst 2, 1, 0)],
  [(1024, .iadd, 1, 0), (1025, .iaload, 1, 0), (1026, .aload_n 0, 1, 0), (1027, .iload 4, 2, 0), (1029, .iconst 3, 1, 0), (1030, .iadd, 1, 0), (1031, .iaload, 1, 0), (1032, .ifCond .eq 7, 3, 1039), (1035, .iconst 1, 1, 0), (1036, .goto 4, 3, 1040), (1039, .iconst 0, 1, 0)],
  [(1040, .invokevirtual 123, 3, 0), (1043, .if_icmp .eq 239, 3, 1282), (1046, .iconst 0, 1, 0), (1047, .ireturn, 1, 0), (1048, .aload_n 1, 1, 0), (1049, .aload_n 0, 1, 0), (1050, .iload 4, 2, 0), (1052, .iconst 1, 1, 0), (1053, .iadd, 1, 0), (1054, .iaload, 1, 0), (1055, .aload_n 0, 1, 0)]]
set_option maxRecDepth 100000 in
theorem tC_983_ok : pt_ok YL_law.2.1 tC_983 = true := by decide +kernel
def tC_1048 : pt_B := [
  [(1040, .invokevirtual 123, 3, 0), (1043, .if_icmp .eq 239, 3, 1282), (1046, .iconst 0, 1, 0), (1047, .ireturn, 1, 0), (1048, .aload_n 1, 1, 0), (1049, .aload_n 0, 1, 0), (1050, .iload 4, 2, 0), (1052, .iconst 1, 1, 0), (1053, .iadd, 1, 0), (1054, .iaload, 1, 0), (1055, .aload_n 0, 1, 0)],
  [(1056, .iload 4, 2, 0), (1058, .iconst 2, 1, 0), (1059, .iadd, 1, 0), (1060, .iaload, 1, 0), (1061, .invokevirtual 124, 3, 0), (1064, .aload_n 2, 1, 0), (1065, .aload_n 0, 1, 0), (1066, .iload 4, 2, 0), (1068, .iconst 1, 1, 0), (1069, .iadd, 1, 0), (1070, .iaload, 1, 0), (1071, .aload_n 0, 1, 0)],
  [(1072, .iload 4, 2, 0), (1074, .iconst 2, 1, 0), (1075, .iadd, 1, 0), (1076, .iaload, 1, 0), (1077, .invokevirtual 127, 3, 0), (1080, .if_icmp .eq 202, 3, 1282), (1083, .iconst 0, 1, 0), (1084, .ireturn, 1, 0), (1085, .aload_n 1, 1, 0), (1086, .aload_n 0, 1, 0), (1087, .iload 4, 2, 0)]]
set_option maxRecDepth 100000 in
theorem tC_1048_ok : pt_ok YL_law.2.1 tC_1048 = true := by decide +kernel
def tC_1085 : pt_B := [
  [(1072, .iload 4, 2, 0), (1074, .iconst 2, 1, 0), (1075, .iadd, 1, 0), (1076, .iaload, 1, 0), (1077, .invokevirtual 127, 3, 0), (1080, .if_icmp .eq 202, 3, 1282), (1083, .iconst 0, 1, 0), (1084, .ireturn, 1, 0), (1085, .aload_n 1, 1, 0), (1086, .aload_n 0, 1, 0), (1087, .iload 4, 2, 0)],
  [(1089, .iconst 1, 1, 0), (1090, .iadd, 1, 0), (1091, .iaload, 1, 0), (1092, .aload_n 0, 1, 0), (1093, .iload 4, 2, 0), (1095, .iconst 2, 1, 0), (1096, .iadd, 1, 0), (1097, .iaload, 1, 0), (1098, .aload_n 0, 1, 0), (1099, .iload 4, 2, 0), (1101, .iconst 3, 1, 0), (1102, .iadd, 1, 0), (1103, .iaload, 1, 0)],
  [(1104, .aload_n 0, 1, 0), (1105, .iload 4, 2, 0), (1107, .iconst 4, 1, 0), (1108, .iadd, 1, 0), (1109, .iaload, 1, 0), (1110, .aload_n 0, 1, 0), (1111, .iload 4, 2, 0), (1113, .iconst 5, 1, 0), (1114, .iadd, 1, 0), (1115, .iaload, 1, 0), (1116, .invokevirtual 128, 3, 0), (1119, .aload_n 2, 1, 0)],
  [(1120, .aload_n 0, 1, 0), (1121, .iload 4, 2, 0), (1123, .iconst 1, 1, 0), (1124, .iadd, 1, 0), (1125, .iaload, 1, 0), (1126, .aload_n 0, 1, 0), (1127, .iload 4, 2, 0), (1129, .iconst 2, 1, 0), (1130, .iadd, 1, 0), (1131, .iaload, 1, 0), (1132, .aload_n 0, 1, 0), (1133, .iload 4, 2, 0), (1135, .iconst 3, 1, 0)],
  [(1136, .iadd, 1, 0), (1137, .iaload, 1, 0), (1138, .aload_n 0, 1, 0), (1139, .iload 4, 2, 0), (1141, .iconst 4, 1, 0), (1142, .iadd, 1, 0), (1143, .iaload, 1, 0), (1144, .aload_n 0, 1, 0), (1145, .iload 4, 2, 0), (1147, .iconst 5, 1, 0), (1148, .iadd, 1, 0), (1149, .iaload, 1, 0), (1150, .invokevirtual 131, 3, 0)],
  [(1153, .if_icmp .eq 129, 3, 1282), (1156, .iconst 0, 1, 0), (1157, .ireturn, 1, 0), (1158, .aload_n 1, 1, 0), (1159, .aload_n 0, 1, 0), (1160, .iload 4, 2, 0), (1162, .iconst 1, 1, 0), (1163, .iadd, 1, 0), (1164, .iaload, 1, 0), (1165, .invokevirtual 132, 3, 0)]]
set_option maxRecDepth 100000 in
theorem tC_1085_ok : pt_ok YL_law.2.1 tC_1085 = true := by decide +kernel
def tC_1158 : pt_B := [
  [(1153, .if_icmp .eq 129, 3, 1282), (1156, .iconst 0, 1, 0), (1157, .ireturn, 1, 0), (1158, .aload_n 1, 1, 0), (1159, .aload_n 0, 1, 0), (1160, .iload 4, 2, 0), (1162, .iconst 1, 1, 0), (1163, .iadd, 1, 0), (1164, .iaload, 1, 0), (1165, .invokevirtual 132, 3, 0)],
  [(1168, .aload_n 2, 1, 0), (1169, .aload_n 0, 1, 0), (1170, .iload 4, 2, 0), (1172, .iconst 1, 1, 0), (1173, .iadd, 1, 0), (1174, .iaload, 1, 0), (1175, .invokevirtual 135, 3, 0), (1178, .if_icmp .eq 104, 3, 1282), (1181, .iconst 0, 1, 0), (1182, .ireturn, 1, 0), (1183, .aload_n 1, 1, 0)]]
set_option maxRecDepth 100000 in
theorem tC_1158_ok : pt_ok YL_law.2.1 tC_1158 = true := by decide +kernel
def tC_1183 : pt_B := [
  [(1168, .aload_n 2, 1, 0), (1169, .aload_n 0, 1, 0), (1170, .iload 4, 2, 0), (1172, .iconst 1, 1, 0), (1173, .iadd, 1, 0), (1174, .iaload, 1, 0), (1175, .invokevirtual 135, 3, 0), (1178, .if_icmp .eq 104, 3, 1282), (1181, .iconst 0, 1, 0), (1182, .ireturn, 1, 0), (1183, .aload_n 1, 1, 0)],
  [(1184, .aload_n 0, 1, 0), (1185, .iload 4, 2, 0), (1187, .iconst 1, 1, 0), (1188, .iadd, 1, 0), (1189, .iaload, 1, 0), (1190, .aload_n 0, 1, 0), (1191, .iload 4, 2, 0), (1193, .iconst 2, 1, 0), (1194, .iadd, 1, 0), (1195, .iaload, 1, 0), (1196, .aload_n 0, 1, 0), (1197, .iload 4, 2, 0), (1199, .iconst 3, 1, 0)],
  [(1200, .iadd, 1, 0), (1201, .iaload, 1, 0), (1202, .invokevirtual 136, 3, 0), (1205, .aload_n 2, 1, 0), (1206, .aload_n 0, 1, 0), (1207, .iload 4, 2, 0), (1209, .iconst 1, 1, 0), (1210, .iadd, 1, 0), (1211, .iaload, 1, 0), (1212, .aload_n 0, 1, 0), (1213, .iload 4, 2, 0), (1215, .iconst 2, 1, 0)],
  [(1216, .iadd, 1, 0), (1217, .iaload, 1, 0), (1218, .aload_n 0, 1, 0), (1219, .iload 4, 2, 0), (1221, .iconst 3, 1, 0), (1222, .iadd, 1, 0), (1223, .iaload, 1, 0), (1224, .invokevirtual 139, 3, 0), (1227, .if_icmp .eq 55, 3, 1282), (1230, .iconst 0, 1, 0), (1231, .ireturn, 1, 0)]]
set_option maxRecDepth 100000 in
theorem tC_1183_ok : pt_ok YL_law.2.1 tC_1183 = true := by decide +kernel
def tC_1232 : pt_B := [
  [(1232, .aload_n 1, 1, 0), (1233, .aload_n 0, 1, 0), (1234, .iload 4, 2, 0), (1236, .iconst 1, 1, 0), (1237, .iadd, 1, 0), (1238, .iaload, 1, 0), (1239, .invokevirtual 140, 3, 0), (1242, .aload_n 2, 1, 0), (1243, .aload_n 0, 1, 0), (1244, .iload 4, 2, 0), (1246, .iconst 1, 1, 0), (1247, .iadd, 1, 0)],
  [(1248, .iaload, 1, 0), (1249, .invokevirtual 143, 3, 0), (1252, .if_icmp .eq 30, 3, 1282), (1255, .iconst 0, 1, 0), (1256, .ireturn, 1, 0), (1257, .aload_n 1, 1, 0), (1258, .aload_n 0, 1, 0), (1259, .iload 4, 2, 0), (1261, .iconst 1, 1, 0), (1262, .iadd, 1, 0), (1263, .iaload, 1, 0)]]
set_option maxRecDepth 100000 in
theorem tC_1232_ok : pt_ok YL_law.2.1 tC_1232 = true := by decide +kernel
def tC_1257 : pt_B := [
  [(1248, .iaload, 1, 0), (1249, .invokevirtual 143, 3, 0), (1252, .if_icmp .eq 30, 3, 1282), (1255, .iconst 0, 1, 0), (1256, .ireturn, 1, 0), (1257, .aload_n 1, 1, 0), (1258, .aload_n 0, 1, 0), (1259, .iload 4, 2, 0), (1261, .iconst 1, 1, 0), (1262, .iadd, 1, 0), (1263, .iaload, 1, 0)],
  [(1264, .invokevirtual 144, 3, 0), (1267, .aload_n 2, 1, 0), (1268, .aload_n 0, 1, 0), (1269, .iload 4, 2, 0), (1271, .iconst 1, 1, 0), (1272, .iadd, 1, 0), (1273, .iaload, 1, 0), (1274, .invokevirtual 147, 3, 0), (1277, .if_icmp .eq 5, 3, 1282)],
  [(1280, .iconst 0, 1, 0), (1281, .ireturn, 1, 0), (1282, .iinc 4 6, 3, 0), (1285, .goto (-1262), 3, 23), (1288, .iconst 1, 1, 0), (1289, .ireturn, 1, 0)]]
set_option maxRecDepth 100000 in
theorem tC_1257_ok : pt_ok YL_law.2.1 tC_1257 = true := by decide +kernel
