def kL_0 : Ci_t := [(0, .new 7, 3), (3, .dup, 1), (4, .invokespecial 9, 3), (7, .astore_n 1, 1), (8, .new 10, 3), (11, .dup, 1), (12, .invokespecial 12, 3), (15, .astore_n 2, 1), (16, .iconst 0, 1), (17, .istore_n 3, 1), (18, .iload_n 3, 1), (19, .aload_n 0, 1), (20, .arraylength, 1), (21, .bipush 6, 2), (23, .isub, 1), (24, .if_icmp .gt 2788, 3), (27, .aload_n 0, 1), (28, .iload_n 3, 1), (29, .iaload, 1), (30, .bipush 63, 2), (32, .iand, 1), (33, .tableswitch 2773 0 60 #[259, 322, 345, 358, 381, 414, 457, 490, 523, 566, 619, 652, 685, 708, 741, 784, 827, 870, 923, 986, 1009, 1052, 1075, 1108, 1171, 1235, 1288, 1341, 1364, 1397, 1420, 1443, 1486, 1539, 1592, 1635, 1678, 1701, 1734, 1747, 1790, 1843, 1886, 1939, 1992, 2045, 2108, 2171, 2224, 2277, 2330, 2373, 2396, 2409, 2462, 2525, 2548, 2571, 2594, 2637, 2710], 259)]
set_option maxRecDepth 1000000 in
theorem eL_0 : ∀ q ∈ kL_0, decode cL_law q.1 = .ok q.2 := by decide +kernel
set_option maxRecDepth 1000000 in
theorem oL_0 : ck_ knL kL_0 = true := by decide +kernel
def kL_1 : Ci_t := [(292, .aload_n 1, 1), (293, .aload_n 0, 1), (294, .iload_n 3, 1), (295, .iconst 1, 1), (296, .iadd, 1), (297, .iaload, 1), (298, .aload_n 0, 1), (299, .iload_n 3, 1), (300, .iconst 2, 1), (301, .iadd, 1), (302, .iaload, 1), (303, .aload_n 0, 1), (304, .iload_n 3, 1), (305, .iconst 3, 1), (306, .iadd, 1), (307, .iaload, 1), (308, .aload_n 0, 1), (309, .iload_n 3, 1), (310, .iconst 4, 1), (311, .iadd, 1), (312, .iaload, 1), (313, .aload_n 0, 1), (314, .iload_n 3, 1), (315, .iconst 5, 1), (316, .iadd, 1), (317, .iaload, 1), (318, .invokevirtual 13, 3), (321, .aload_n 2, 1), (322, .aload_n 0, 1), (323, .iload_n 3, 1), (324, .iconst 1, 1), (325, .iadd, 1), (326, .iaload, 1), (327, .aload_n 0, 1), (328, .iload_n 3, 1), (329, .iconst 2, 1), (330, .iadd, 1), (331, .iaload, 1), (332, .aload_n 0, 1), (333, .iload_n 3, 1), (334, .iconst 3, 1), (335, .iadd, 1), (336, .iaload, 1), (337, .aload_n 0, 1), (338, .iload_n 3, 1), (339, .iconst 4, 1), (340, .iadd, 1), (341, .iaload, 1), (342, .aload_n 0, 1), (343, .iload_n 3, 1), (344, .iconst 5, 1), (345, .iadd, 1), (346, .iaload, 1), (347, .invokevirtual 17, 3), (350, .if_icmp .eq 2456, 3), (353, .iconst 0, 1), (354, .ireturn, 1)]
set_option maxRecDepth 1000000 in
theorem eL_1 : ∀ q ∈ kL_1, decode cL_law q.1 = .ok q.2 := by decide +kernel
set_option maxRecDepth 1000000 in
theorem oL_1 : ck_ knL kL_1 = true := by decide +kernel
def kL_2 : Ci_t := [(355, .aload_n 1, 1), (356, .aload_n 0, 1), (357, .iload_n 3, 1), (358, .iconst 1, 1), (359, .iadd, 1), (360, .iaload, 1), (361, .invokevirtual 18, 3), (364, .aload_n 2, 1), (365, .aload_n 0, 1), (366, .iload_n 3, 1), (367, .iconst 1, 1), (368, .iadd, 1), (369, .iaload, 1), (370, .invokevirtual 22, 3), (373, .if_icmp .eq 2433, 3), (376, .iconst 0, 1), (377, .ireturn, 1)]
set_option maxRecDepth 1000000 in
theorem eL_2 : ∀ q ∈ kL_2, decode cL_law q.1 = .ok q.2 := by decide +kernel
set_option maxRecDepth 1000000 in
theorem oL_2 : ck_ knL kL_2 = true := by decide +kernel
def kL_3 : Ci_t := [(378, .aload_n 1, 1), (379, .invokevirtual 23, 3), (382, .aload_n 2, 1), (383, .invokevirtual 27, 3), (386, .if_icmp .eq 2420, 3), (389, .iconst 0, 1), (390, .ireturn, 1)]
set_option maxRecDepth 1000000 in
theorem eL_3 : ∀ q ∈ kL_3, decode cL_law q.1 = .ok q.2 := by decide +kernel
set_option maxRecDepth 1000000 in
theorem oL_3 : ck_ knL kL_3 = true := by decide +kernel
def kL_4 : Ci_t := [(391, .aload_n 1, 1), (392, .aload_n 0, 1), (393, .iload_n 3, 1), (394, .iconst 1, 1), (395, .iadd, 1), (396, .iaload, 1), (397, .invokevirtual 28, 3), (400, .aload_n 2, 1), (401, .aload_n 0, 1), (402, .iload_n 3, 1), (403, .iconst 1, 1), (404, .iadd, 1), (405, .iaload, 1), (406, .invokevirtual 31, 3), (409, .if_icmp .eq 2397, 3), (412, .iconst 0, 1), (413, .ireturn, 1)]
set_option maxRecDepth 1000000 in
theorem eL_4 : ∀ q ∈ kL_4, decode cL_law q.1 = .ok q.2 := by decide +kernel
set_option maxRecDepth 1000000 in
theorem oL_4 : ck_ knL kL_4 = true := by decide +kernel
def kL_5 : Ci_t := [(414, .aload_n 1, 1), (415, .aload_n 0, 1), (416, .iload_n 3, 1), (417, .iconst 1, 1), (418, .iadd, 1), (419, .iaload, 1), (420, .aload_n 0, 1), (421, .iload_n 3, 1), (422, .iconst 2, 1), (423, .iadd, 1), (424, .iaload, 1), (425, .invokevirtual 32, 3), (428, .aload_n 2, 1), (429, .aload_n 0, 1), (430, .iload_n 3, 1), (431, .iconst 1, 1), (432, .iadd, 1), (433, .iaload, 1), (434, .aload_n 0, 1), (435, .iload_n 3, 1), (436, .iconst 2, 1), (437, .iadd, 1), (438, .iaload, 1), (439, .invokevirtual 36, 3), (442, .if_icmp .eq 2364, 3), (445, .iconst 0, 1), (446, .ireturn, 1)]
set_option maxRecDepth 1000000 in
theorem eL_5 : ∀ q ∈ kL_5, decode cL_law q.1 = .ok q.2 := by decide +kernel
set_option maxRecDepth 1000000 in
theorem oL_5 : ck_ knL kL_5 = true := by decide +kernel
def kL_6 : Ci_t := [(447, .aload_n 1, 1), (448, .aload_n 0, 1), (449, .iload_n 3, 1), (450, .iconst 1, 1), (451, .iadd, 1), (452, .iaload, 1), (453, .aload_n 0, 1), (454, .iload_n 3, 1), (455, .iconst 2, 1), (456, .iadd, 1), (457, .iaload, 1), (458, .aload_n 0, 1), (459, .iload_n 3, 1), (460, .iconst 3, 1), (461, .iadd, 1), (462, .iaload, 1), (463, .invokevirtual 37, 3), (466, .aload_n 2, 1), (467, .aload_n 0, 1), (468, .iload_n 3, 1), (469, .iconst 1, 1), (470, .iadd, 1), (471, .iaload, 1), (472, .aload_n 0, 1), (473, .iload_n 3, 1), (474, .iconst 2, 1), (475, .iadd, 1), (476, .iaload, 1), (477, .aload_n 0, 1), (478, .iload_n 3, 1), (479, .iconst 3, 1), (480, .iadd, 1), (481, .iaload, 1), (482, .invokevirtual 41, 3), (485, .if_icmp .eq 2321, 3), (488, .iconst 0, 1), (489, .ireturn, 1)]
set_option maxRecDepth 1000000 in
theorem eL_6 : ∀ q ∈ kL_6, decode cL_law q.1 = .ok q.2 := by decide +kernel
set_option maxRecDepth 1000000 in
theorem oL_6 : ck_ knL kL_6 = true := by decide +kernel
def kL_7 : Ci_t := [(490, .aload_n 1, 1), (491, .aload_n 0, 1), (492, .iload_n 3, 1), (493, .iconst 1, 1), (494, .iadd, 1), (495, .iaload, 1), (496, .aload_n 0, 1), (497, .iload_n 3, 1), (498, .iconst 2, 1), (499, .iadd, 1), (500, .iaload, 1), (501, .invokevirtual 42, 3), (504, .aload_n 2, 1), (505, .aload_n 0, 1), (506, .iload_n 3, 1), (507, .iconst 1, 1), (508, .iadd, 1), (509, .iaload, 1), (510, .aload_n 0, 1), (511, .iload_n 3, 1), (512, .iconst 2, 1), (513, .iadd, 1), (514, .iaload, 1), (515, .invokevirtual 45, 3), (518, .if_icmp .eq 2288, 3), (521, .iconst 0, 1), (522, .ireturn, 1)]
set_option maxRecDepth 1000000 in
theorem eL_7 : ∀ q ∈ kL_7, decode cL_law q.1 = .ok q.2 := by decide +kernel
set_option maxRecDepth 1000000 in
theorem oL_7 : ck_ knL kL_7 = true := by decide +kernel
def kL_8 : Ci_t := [(523, .aload_n 1, 1), (524, .aload_n 0, 1), (525, .iload_n 3, 1), (526, .iconst 1, 1), (527, .iadd, 1), (528, .iaload, 1), (529, .aload_n 0, 1), (530, .iload_n 3, 1), (531, .iconst 2, 1), (532, .iadd, 1), (533, .iaload, 1), (534, .invokevirtual 46, 3), (537, .aload_n 2, 1), (538, .aload_n 0, 1), (539, .iload_n 3, 1), (540, .iconst 1, 1), (541, .iadd, 1), (542, .iaload, 1), (543, .aload_n 0, 1), (544, .iload_n 3, 1), (545, .iconst 2, 1), (546, .iadd, 1), (547, .iaload, 1), (548, .invokevirtual 49, 3), (551, .if_icmp .eq 2255, 3), (554, .iconst 0, 1), (555, .ireturn, 1)]
set_option maxRecDepth 1000000 in
theorem eL_8 : ∀ q ∈ kL_8, decode cL_law q.1 = .ok q.2 := by decide +kernel
set_option maxRecDepth 1000000 in
theorem oL_8 : ck_ knL kL_8 = true := by decide +kernel
def kL_9 : Ci_t := [(556, .aload_n 1, 1), (557, .aload_n 0, 1), (558, .iload_n 3, 1), (559, .iconst 1, 1), (560, .iadd, 1), (561, .iaload, 1), (562, .aload_n 0, 1), (563, .iload_n 3, 1), (564, .iconst 2, 1), (565, .iadd, 1), (566, .iaload, 1), (567, .aload_n 0, 1), (568, .iload_n 3, 1), (569, .iconst 3, 1), (570, .iadd, 1), (571, .iaload, 1), (572, .invokevirtual 50, 3), (575, .aload_n 2, 1), (576, .aload_n 0, 1), (577, .iload_n 3, 1), (578, .iconst 1, 1), (579, .iadd, 1), (580, .iaload, 1), (581, .aload_n 0, 1), (582, .iload_n 3, 1), (583, .iconst 2, 1), (584, .iadd, 1), (585, .iaload, 1), (586, .aload_n 0, 1), (587, .iload_n 3, 1), (588, .iconst 3, 1), (589, .iadd, 1), (590, .iaload, 1), (591, .invokevirtual 53, 3), (594, .if_icmp .eq 2212, 3), (597, .iconst 0, 1), (598, .ireturn, 1)]
set_option maxRecDepth 1000000 in
theorem eL_9 : ∀ q ∈ kL_9, decode cL_law q.1 = .ok q.2 := by decide +kernel
set_option maxRecDepth 1000000 in
theorem oL_9 : ck_ knL kL_9 = true := by decide +kernel
def kL_10 : Ci_t := [(599, .aload_n 1, 1), (600, .aload_n 0, 1), (601, .iload_n 3, 1), (602, .iconst 1, 1), (603, .iadd, 1), (604, .iaload, 1), (605, .aload_n 0, 1), (606, .iload_n 3, 1), (607, .iconst 2, 1), (608, .iadd, 1), (609, .iaload, 1), (610, .aload_n 0, 1), (611, .iload_n 3, 1), (612, .iconst 3, 1), (613, .iadd, 1), (614, .iaload, 1), (615, .aload_n 0, 1), (616, .iload_n 3, 1), (617, .iconst 4, 1), (618, .iadd, 1), (619, .iaload, 1), (620, .invokevirtual 54, 3), (623, .aload_n 2, 1), (624, .aload_n 0, 1), (625, .iload_n 3, 1), (626, .iconst 1, 1), (627, .iadd, 1), (628, .iaload, 1), (629, .aload_n 0, 1), (630, .iload_n 3, 1), (631, .iconst 2, 1), (632, .iadd, 1), (633, .iaload, 1), (634, .aload_n 0, 1), (635, .iload_n 3, 1), (636, .iconst 3, 1), (637, .iadd, 1), (638, .iaload, 1), (639, .aload_n 0, 1), (640, .iload_n 3, 1), (641, .iconst 4, 1), (642, .iadd, 1), (643, .iaload, 1), (644, .invokevirtual 58, 3), (647, .if_icmp .eq 2159, 3), (650, .iconst 0, 1), (651, .ireturn, 1)]
set_option maxRecDepth 1000000 in
theorem eL_10 : ∀ q ∈ kL_10, decode cL_law q.1 = .ok q.2 := by decide +kernel
set_option maxRecDepth 1000000 in
theorem oL_10 : ck_ knL kL_10 = true := by decide +kernel
def kL_11 : Ci_t := [(652, .aload_n 1, 1), (653, .aload_n 0, 1), (654, .iload_n 3, 1), (655, .iconst 1, 1), (656, .iadd, 1), (657, .iaload, 1), (658, .aload_n 0, 1), (659, .iload_n 3, 1), (660, .iconst 2, 1), (661, .iadd, 1), (662, .iaload, 1), (663, .invokevirtual 59, 3), (666, .aload_n 2, 1), (667, .aload_n 0, 1), (668, .iload_n 3, 1), (669, .iconst 1, 1), (670, .iadd, 1), (671, .iaload, 1), (672, .aload_n 0, 1), (673, .iload_n 3, 1), (674, .iconst 2, 1), (675, .iadd, 1), (676, .iaload, 1), (677, .invokevirtual 62, 3), (680, .if_icmp .eq 2126, 3), (683, .iconst 0, 1), (684, .ireturn, 1)]
set_option maxRecDepth 1000000 in
theorem eL_11 : ∀ q ∈ kL_11, decode cL_law q.1 = .ok q.2 := by decide +kernel
set_option maxRecDepth 1000000 in
theorem oL_11 : ck_ knL kL_11 = true := by decide +kernel
def kL_12 : Ci_t := [(685, .aload_n 1, 1), (686, .aload_n 0, 1), (687, .iload_n 3, 1), (688, .iconst 1, 1), (689, .iadd, 1), (690, .iaload, 1), (691, .aload_n 0, 1), (692, .iload_n 3, 1), (693, .iconst 2, 1), (694, .iadd, 1), (695, .iaload, 1), (696, .invokevirtual 63, 3), (699, .aload_n 2, 1), (700, .aload_n 0, 1), (701, .iload_n 3, 1), (702, .iconst 1, 1), (703, .iadd, 1), (704, .iaload, 1), (705, .aload_n 0, 1), (706, .iload_n 3, 1), (707, .iconst 2, 1), (708, .iadd, 1), (709, .iaload, 1), (710, .invokevirtual 66, 3), (713, .if_icmp .eq 2093, 3), (716, .iconst 0, 1), (717, .ireturn, 1)]
set_option maxRecDepth 1000000 in
theorem eL_12 : ∀ q ∈ kL_12, decode cL_law q.1 = .ok q.2 := by decide +kernel
set_option maxRecDepth 1000000 in
theorem oL_12 : ck_ knL kL_12 = true := by decide +kernel
def kL_13 : Ci_t := [(718, .aload_n 1, 1), (719, .aload_n 0, 1), (720, .iload_n 3, 1), (721, .iconst 1, 1), (722, .iadd, 1), (723, .iaload, 1), (724, .invokevirtual 67, 3), (727, .aload_n 2, 1), (728, .aload_n 0, 1), (729, .iload_n 3, 1), (730, .iconst 1, 1), (731, .iadd, 1), (732, .iaload, 1), (733, .invokevirtual 70, 3), (736, .if_icmp .eq 2070, 3), (739, .iconst 0, 1), (740, .ireturn, 1)]
set_option maxRecDepth 1000000 in
theorem eL_13 : ∀ q ∈ kL_13, decode cL_law q.1 = .ok q.2 := by decide +kernel
set_option maxRecDepth 1000000 in
theorem oL_13 : ck_ knL kL_13 = true := by decide +kernel
def kL_14 : Ci_t := [(741, .aload_n 1, 1), (742, .aload_n 0, 1), (743, .iload_n 3, 1), (744, .iconst 1, 1), (745, .iadd, 1), (746, .iaload, 1), (747, .aload_n 0, 1), (748, .iload_n 3, 1), (749, .iconst 2, 1), (750, .iadd, 1), (751, .iaload, 1), (752, .invokevirtual 71, 3), (755, .aload_n 2, 1), (756, .aload_n 0, 1), (757, .iload_n 3, 1), (758, .iconst 1, 1), (759, .iadd, 1), (760, .iaload, 1), (761, .aload_n 0, 1), (762, .iload_n 3, 1), (763, .iconst 2, 1), (764, .iadd, 1), (765, .iaload, 1), (766, .invokevirtual 74, 3), (769, .if_icmp .eq 2037, 3), (772, .iconst 0, 1), (773, .ireturn, 1)]
set_option maxRecDepth 1000000 in
theorem eL_14 : ∀ q ∈ kL_14, decode cL_law q.1 = .ok q.2 := by decide +kernel
set_option maxRecDepth 1000000 in
theorem oL_14 : ck_ knL kL_14 = true := by decide +kernel
def kL_15 : Ci_t := [(774, .aload_n 1, 1), (775, .aload_n 0, 1), (776, .iload_n 3, 1), (777, .iconst 1, 1), (778, .iadd, 1), (779, .iaload, 1), (780, .aload_n 0, 1), (781, .iload_n 3, 1), (782, .iconst 2, 1), (783, .iadd, 1), (784, .iaload, 1), (785, .aload_n 0, 1), (786, .iload_n 3, 1), (787, .iconst 3, 1), (788, .iadd, 1), (789, .iaload, 1), (790, .invokevirtual 75, 3), (793, .aload_n 2, 1), (794, .aload_n 0, 1), (795, .iload_n 3, 1), (796, .iconst 1, 1), (797, .iadd, 1), (798, .iaload, 1), (799, .aload_n 0, 1), (800, .iload_n 3, 1), (801, .iconst 2, 1), (802, .iadd, 1), (803, .iaload, 1), (804, .aload_n 0, 1), (805, .iload_n 3, 1), (806, .iconst 3, 1), (807, .iadd, 1), (808, .iaload, 1), (809, .invokevirtual 78, 3), (812, .if_icmp .eq 1994, 3), (815, .iconst 0, 1), (816, .ireturn, 1)]
set_option maxRecDepth 1000000 in
theorem eL_15 : ∀ q ∈ kL_15, decode cL_law q.1 = .ok q.2 := by decide +kernel
set_option maxRecDepth 1000000 in
theorem oL_15 : ck_ knL kL_15 = true := by decide +kernel
