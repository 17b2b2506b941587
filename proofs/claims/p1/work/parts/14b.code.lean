def kX10_init : Ci_t := [(0, .aload_n 0, 1), (1, .invokespecial 1, 3), (4, .aload_n 0, 1), (5, .new 7, 3), (8, .dup, 1), (9, .invokespecial 9, 3), (12, .putfield 10, 3), (15, .aload_n 0, 1), (16, .new 16, 3), (19, .dup, 1), (20, .invokespecial 18, 3), (23, .putfield 19, 3), (26, .aload_n 0, 1), (27, .new 23, 3), (30, .dup, 1), (31, .invokespecial 25, 3), (34, .putfield 26, 3), (37, .aload_n 0, 1), (38, .new 23, 3), (41, .dup, 1), (42, .invokespecial 25, 3), (45, .putfield 30, 3), (48, .aload_n 0, 1), (49, .iconst 3, 1), (50, .anewarray 23, 3), (53, .putfield 33, 3), (56, .aload_n 0, 1), (57, .iconst 3, 1), (58, .newarray .boolean, 2), (60, .putfield 37, 3), (63, .aload_n 0, 1), (64, .iconst 4, 1), (65, .anewarray 41, 3), (68, .putfield 43, 3), (71, .aload_n 0, 1), (72, .new 47, 3), (75, .dup, 1), (76, .invokespecial 49, 3), (79, .putfield 50, 3), (82, .aload_n 0, 1), (83, .new 54, 3), (86, .dup, 1), (87, .invokespecial 56, 3), (90, .putfield 57, 3), (93, .aload_n 0, 1), (94, .new 61, 3), (97, .dup, 1), (98, .invokespecial 63, 3), (101, .putfield 64, 3), (104, .aload_n 0, 1), (105, .new 68, 3), (108, .dup, 1), (109, .invokespecial 70, 3), (112, .putfield 71, 3), (115, .aload_n 0, 1), (116, .new 75, 3), (119, .dup, 1), (120, .invokespecial 77, 3), (123, .putfield 78, 3), (126, .aload_n 0, 1), (127, .iconst 0, 1), (128, .putfield 82, 3), (131, .aload_n 0, 1), (132, .iconst (-1), 1), (133, .putfield 86, 3), (136, .iconst 0, 1), (137, .istore_n 1, 1), (138, .iload_n 1, 1), (139, .iconst 3, 1), (140, .if_icmp .ge 22, 3), (143, .aload_n 0, 1), (144, .getfield 33, 3), (147, .iload_n 1, 1), (148, .new 23, 3), (151, .dup, 1), (152, .invokespecial 25, 3), (155, .aastore, 1), (156, .iinc 1 1, 3), (159, .goto (-21), 3), (162, .iconst 0, 1), (163, .istore_n 1, 1), (164, .iload_n 1, 1), (165, .iconst 4, 1), (166, .if_icmp .ge 22, 3), (169, .aload_n 0, 1), (170, .getfield 43, 3), (173, .iload_n 1, 1), (174, .new 41, 3), (177, .dup, 1), (178, .invokespecial 89, 3), (181, .aastore, 1), (182, .iinc 1 1, 3), (185, .goto (-21), 3), (188, .return_, 1)]
set_option maxRecDepth 1000000 in
theorem eX10_init : ∀ q ∈ kX10_init, decode cX10_init q.1 = .ok q.2 := by decide +kernel
set_option maxRecDepth 1000000 in
theorem oX10_init : ck_ knX10 kX10_init = true := by decide +kernel
def kX10_feed : Ci_t := [(0, .aload_n 0, 1), (1, .getfield 10, 3), (4, .getfield 90, 3), (7, .bipush 20, 2), (9, .iadd, 1), (10, .sipush 1200, 3), (13, .if_icmp .le 5, 3), (16, .iconst (-1), 1), (17, .ireturn, 1), (18, .aload_n 0, 1), (19, .getfield 10, 3), (22, .iload_n 1, 1), (23, .invokevirtual 93, 3), (26, .aload_n 0, 1), (27, .getfield 10, 3), (30, .iload_n 2, 1), (31, .invokevirtual 93, 3), (34, .aload_n 0, 1), (35, .getfield 10, 3), (38, .iload_n 3, 1), (39, .invokevirtual 93, 3), (42, .aload_n 0, 1), (43, .getfield 10, 3), (46, .iload 4, 2), (48, .invokevirtual 93, 3), (51, .aload_n 0, 1), (52, .getfield 10, 3), (55, .iload 5, 2), (57, .invokevirtual 93, 3), (60, .aload_n 0, 1), (61, .getfield 10, 3), (64, .getfield 90, 3), (67, .ireturn, 1)]
set_option maxRecDepth 1000000 in
theorem eX10_feed : ∀ q ∈ kX10_feed, decode cX10_feed q.1 = .ok q.2 := by decide +kernel
set_option maxRecDepth 1000000 in
theorem oX10_feed : ck_ knX10 kX10_feed = true := by decide +kernel
def kX10_end : Ci_t := [(0, .iload_n 1, 1), (1, .ifCond .lt 14, 3), (4, .iload_n 1, 1), (5, .aload_n 0, 1), (6, .getfield 10, 3), (9, .getfield 90, 3), (12, .if_icmp .le 5, 3), (15, .iconst (-1), 1), (16, .ireturn, 1), (17, .aload_n 0, 1), (18, .getfield 10, 3), (21, .iload_n 1, 1), (22, .putfield 90, 3), (25, .iload_n 1, 1), (26, .ireturn, 1)]
set_option maxRecDepth 1000000 in
theorem eX10_end : ∀ q ∈ kX10_end, decode cX10_end q.1 = .ok q.2 := by decide +kernel
set_option maxRecDepth 1000000 in
theorem oX10_end : ck_ knX10 kX10_end = true := by decide +kernel
def kX10_war : Ci_t := [(0, .aload_n 0, 1), (1, .getfield 19, 3), (4, .aload_n 0, 1), (5, .getfield 10, 3), (8, .aload_n 0, 1), (9, .getfield 30, 3), (12, .invokevirtual 97, 3), (15, .aload_n 0, 1), (16, .aload_n 0, 1), (17, .getfield 19, 3), (20, .getfield 101, 3), (23, .putfield 82, 3), (26, .aload_n 0, 1), (27, .aload_n 0, 1), (28, .getfield 19, 3), (31, .getfield 104, 3), (34, .putfield 86, 3), (37, .aload_n 0, 1), (38, .getfield 82, 3), (41, .ifCond .eq 6, 3), (44, .bipush (-4), 2), (46, .ireturn, 1), (47, .aload_n 0, 1), (48, .getfield 26, 3), (51, .astore_n 1, 1), (52, .aload_n 0, 1), (53, .aload_n 0, 1), (54, .getfield 30, 3), (57, .putfield 26, 3), (60, .aload_n 0, 1), (61, .aload_n 1, 1), (62, .putfield 30, 3), (65, .aload_n 0, 1), (66, .getfield 10, 3), (69, .iconst 0, 1), (70, .putfield 90, 3), (73, .aload_n 0, 1), (74, .getfield 50, 3), (77, .invokevirtual 107, 3), (80, .aload_n 0, 1), (81, .getfield 26, 3), (84, .getfield 110, 3), (87, .ireturn, 1)]
set_option maxRecDepth 1000000 in
theorem eX10_war : ∀ q ∈ kX10_war, decode cX10_war q.1 = .ok q.2 := by decide +kernel
set_option maxRecDepth 1000000 in
theorem oX10_war : ck_ knX10 kX10_war = true := by decide +kernel
def kX10_fault : Ci_t := [(0, .iload_n 1, 1), (1, .ifCond .ne 8, 3), (4, .aload_n 0, 1), (5, .getfield 82, 3), (8, .ireturn, 1), (9, .iload_n 1, 1), (10, .iconst 1, 1), (11, .if_icmp .ne 10, 3), (14, .aload_n 0, 1), (15, .getfield 86, 3), (18, .goto 4, 3), (21, .iconst (-1), 1), (22, .ireturn, 1)]
set_option maxRecDepth 1000000 in
theorem eX10_fault : ∀ q ∈ kX10_fault, decode cX10_fault q.1 = .ok q.2 := by decide +kernel
set_option maxRecDepth 1000000 in
theorem oX10_fault : ck_ knX10 kX10_fault = true := by decide +kernel
def kX10_land : Ci_t := [(0, .aload_n 0, 1), (1, .getfield 26, 3), (4, .iload_n 1, 1), (5, .invokevirtual 113, 3), (8, .ifCond .ne 6, 3), (11, .bipush (-2), 2), (13, .ireturn, 1), (14, .aload_n 0, 1), (15, .getfield 26, 3), (18, .getfield 117, 3), (21, .iload_n 1, 1), (22, .aaload, 1), (23, .astore_n 3, 1), (24, .iload_n 2, 1), (25, .tableswitch 78 0 6 #[43, 48, 53, 58, 63, 68, 73], 43), (68, .aload_n 3, 1), (69, .getfield 121, 3), (72, .ireturn, 1), (73, .aload_n 3, 1), (74, .getfield 126, 3), (77, .ireturn, 1), (78, .aload_n 3, 1), (79, .getfield 129, 3), (82, .ireturn, 1), (83, .aload_n 3, 1), (84, .getfield 132, 3), (87, .ireturn, 1), (88, .aload_n 3, 1), (89, .getfield 135, 3), (92, .ireturn, 1), (93, .aload_n 3, 1), (94, .getfield 138, 3), (97, .ireturn, 1), (98, .aload_n 3, 1), (99, .getfield 141, 3), (102, .ireturn, 1), (103, .bipush (-2), 2), (105, .ireturn, 1)]
set_option maxRecDepth 1000000 in
theorem eX10_land : ∀ q ∈ kX10_land, decode cX10_land q.1 = .ok q.2 := by decide +kernel
set_option maxRecDepth 1000000 in
theorem oX10_land : ck_ knX10 kX10_land = true := by decide +kernel
def kX10_month : Ci_t := [(0, .aload_n 0, 1), (1, .getfield 26, 3), (4, .iload_n 1, 1), (5, .iload_n 2, 1), (6, .invokevirtual 144, 3), (9, .ifCond .eq 10, 3), (12, .iload_n 3, 1), (13, .invokestatic 148, 3), (16, .ifCond .ne 6, 3), (19, .bipush (-2), 2), (21, .ireturn, 1), (22, .aload_n 0, 1), (23, .getfield 26, 3), (26, .getfield 117, 3), (29, .iload_n 1, 1), (30, .aaload, 1), (31, .iload_n 2, 1), (32, .iload_n 3, 1), (33, .invokevirtual 151, 3), (36, .ireturn, 1)]
set_option maxRecDepth 1000000 in
theorem eX10_month : ∀ q ∈ kX10_month, decode cX10_month q.1 = .ok q.2 := by decide +kernel
set_option maxRecDepth 1000000 in
theorem oX10_month : ck_ knX10 kX10_month = true := by decide +kernel
def kX10_feast : Ci_t := [(0, .iload_n 1, 1), (1, .ifCond .lt 23, 3), (4, .iload_n 1, 1), (5, .aload_n 0, 1), (6, .getfield 26, 3), (9, .getfield 155, 3), (12, .if_icmp .ge 12, 3), (15, .iload_n 2, 1), (16, .ifCond .lt 8, 3), (19, .iload_n 2, 1), (20, .iconst 4, 1), (21, .if_icmp .lt 6, 3), (24, .bipush (-2), 2), (26, .ireturn, 1), (27, .aload_n 0, 1), (28, .getfield 26, 3), (31, .getfield 158, 3), (34, .iload_n 1, 1), (35, .iconst 4, 1), (36, .imul, 1), (37, .iload_n 2, 1), (38, .iadd, 1), (39, .iaload, 1), (40, .ireturn, 1)]
set_option maxRecDepth 1000000 in
theorem eX10_feast : ∀ q ∈ kX10_feast, decode cX10_feast q.1 = .ok q.2 := by decide +kernel
set_option maxRecDepth 1000000 in
theorem oX10_feast : ck_ knX10 kX10_feast = true := by decide +kernel
def kX10_truce : Ci_t := [(0, .iload_n 1, 1), (1, .ifCond .lt 23, 3), (4, .iload_n 1, 1), (5, .aload_n 0, 1), (6, .getfield 26, 3), (9, .getfield 162, 3), (12, .if_icmp .ge 12, 3), (15, .iload_n 2, 1), (16, .ifCond .lt 8, 3), (19, .iload_n 2, 1), (20, .iconst 3, 1), (21, .if_icmp .lt 6, 3), (24, .bipush (-2), 2), (26, .ireturn, 1), (27, .aload_n 0, 1), (28, .getfield 26, 3), (31, .getfield 165, 3), (34, .iload_n 1, 1), (35, .iconst 3, 1), (36, .imul, 1), (37, .iload_n 2, 1), (38, .iadd, 1), (39, .iaload, 1), (40, .ireturn, 1)]
set_option maxRecDepth 1000000 in
theorem eX10_truce : ∀ q ∈ kX10_truce, decode cX10_truce q.1 = .ok q.2 := by decide +kernel
set_option maxRecDepth 1000000 in
theorem oX10_truce : ck_ knX10 kX10_truce = true := by decide +kernel
def kX10_date : Ci_t := [(0, .aload_n 0, 1), (1, .iload_n 1, 1), (2, .iload_n 2, 1), (3, .invokevirtual 168, 3), (6, .ifCond .eq 12, 3), (9, .iload_n 3, 1), (10, .ifCond .lt 8, 3), (13, .iload_n 3, 1), (14, .iconst 3, 1), (15, .if_icmp .le 6, 3), (18, .bipush (-2), 2), (20, .ireturn, 1), (21, .aload_n 0, 1), (22, .invokevirtual 171, 3), (25, .iload_n 1, 1), (26, .iload_n 2, 1), (27, .iload_n 3, 1), (28, .invokevirtual 175, 3), (31, .ireturn, 1)]
set_option maxRecDepth 1000000 in
theorem eX10_date : ∀ q ∈ kX10_date, decode cX10_date q.1 = .ok q.2 := by decide +kernel
set_option maxRecDepth 1000000 in
theorem oX10_date : ck_ knX10 kX10_date = true := by decide +kernel
def kX10_day : Ci_t := [(0, .aload_n 0, 1), (1, .getfield 26, 3), (4, .iload_n 1, 1), (5, .iload_n 2, 1), (6, .iload_n 3, 1), (7, .iload 4, 2), (9, .invokevirtual 179, 3), (12, .ireturn, 1)]
set_option maxRecDepth 1000000 in
theorem eX10_day : ∀ q ∈ kX10_day, decode cX10_day q.1 = .ok q.2 := by decide +kernel
set_option maxRecDepth 1000000 in
theorem oX10_day : ck_ knX10 kX10_day = true := by decide +kernel
def kX10_may : Ci_t := [(0, .aload_n 0, 1), (1, .iload_n 1, 1), (2, .iload_n 2, 1), (3, .invokevirtual 168, 3), (6, .ifCond .ne 6, 3), (9, .bipush (-2), 2), (11, .ireturn, 1), (12, .aload_n 0, 1), (13, .invokevirtual 171, 3), (16, .iload_n 1, 1), (17, .iload_n 2, 1), (18, .iconst 4, 1), (19, .invokevirtual 175, 3), (22, .ireturn, 1)]
set_option maxRecDepth 1000000 in
theorem eX10_may : ∀ q ∈ kX10_may, decode cX10_may q.1 = .ok q.2 := by decide +kernel
set_option maxRecDepth 1000000 in
theorem oX10_may : ck_ knX10 kX10_may = true := by decide +kernel
def kX10_why : Ci_t := [(0, .aload_n 0, 1), (1, .iload_n 1, 1), (2, .iload_n 2, 1), (3, .invokevirtual 168, 3), (6, .ifCond .ne 6, 3), (9, .bipush (-2), 2), (11, .ireturn, 1), (12, .aload_n 0, 1), (13, .invokevirtual 171, 3), (16, .iload_n 1, 1), (17, .iload_n 2, 1), (18, .invokevirtual 183, 3), (21, .ireturn, 1)]
set_option maxRecDepth 1000000 in
theorem eX10_why : ∀ q ∈ kX10_why, decode cX10_why q.1 = .ok q.2 := by decide +kernel
set_option maxRecDepth 1000000 in
theorem oX10_why : ck_ knX10 kX10_why = true := by decide +kernel
def kX10_who : Ci_t := [(0, .aload_n 0, 1), (1, .iload_n 1, 1), (2, .invokevirtual 186, 3), (5, .ifCond .ne 6, 3), (8, .bipush (-2), 2), (10, .ireturn, 1), (11, .aload_n 0, 1), (12, .invokevirtual 171, 3), (15, .getfield 189, 3), (18, .iload_n 1, 1), (19, .baload, 1), (20, .ireturn, 1)]
set_option maxRecDepth 1000000 in
theorem eX10_who : ∀ q ∈ kX10_who, decode cX10_who q.1 = .ok q.2 := by decide +kernel
set_option maxRecDepth 1000000 in
theorem oX10_who : ck_ knX10 kX10_who = true := by decide +kernel
def kX10_next : Ci_t := [(0, .aload_n 0, 1), (1, .iload_n 1, 1), (2, .iload_n 2, 1), (3, .iload_n 2, 1), (4, .invokevirtual 193, 3), (7, .ifCond .ne 6, 3), (10, .bipush (-2), 2), (12, .ireturn, 1), (13, .aload_n 0, 1), (14, .invokevirtual 171, 3), (17, .astore_n 3, 1), (18, .iload_n 2, 1), (19, .istore 4, 2), (21, .iload 4, 2), (23, .sipush 2000, 3), (26, .if_icmp .ge 22, 3), (29, .aload_n 3, 1), (30, .iload_n 1, 1), (31, .iload 4, 2), (33, .invokevirtual 197, 3), (36, .ifCond .eq 6, 3), (39, .iload 4, 2), (41, .ireturn, 1), (42, .iinc 4 1, 3), (45, .goto (-24), 3), (48, .iconst (-1), 1), (49, .ireturn, 1)]
set_option maxRecDepth 1000000 in
theorem eX10_next : ∀ q ∈ kX10_next, decode cX10_next q.1 = .ok q.2 := by decide +kernel
set_option maxRecDepth 1000000 in
theorem oX10_next : ck_ knX10 kX10_next = true := by decide +kernel
def kX10_many : Ci_t := [(0, .aload_n 0, 1), (1, .iload_n 1, 1), (2, .iload_n 2, 1), (3, .iload_n 3, 1), (4, .invokevirtual 193, 3), (7, .ifCond .ne 6, 3), (10, .bipush (-2), 2), (12, .ireturn, 1), (13, .aload_n 0, 1), (14, .invokevirtual 171, 3), (17, .iload_n 1, 1), (18, .iload_n 2, 1), (19, .iload_n 3, 1), (20, .invokevirtual 200, 3), (23, .ireturn, 1)]
set_option maxRecDepth 1000000 in
theorem eX10_many : ∀ q ∈ kX10_many, decode cX10_many q.1 = .ok q.2 := by decide +kernel
set_option maxRecDepth 1000000 in
theorem oX10_many : ck_ knX10 kX10_many = true := by decide +kernel
def kX10_waits : Ci_t := [(0, .aload_n 0, 1), (1, .iload_n 1, 1), (2, .iload_n 2, 1), (3, .iload_n 3, 1), (4, .invokevirtual 193, 3), (7, .ifCond .ne 6, 3), (10, .bipush (-2), 2), (12, .ireturn, 1), (13, .aload_n 0, 1), (14, .invokevirtual 171, 3), (17, .iload_n 1, 1), (18, .iload_n 2, 1), (19, .iload_n 3, 1), (20, .iconst 0, 1), (21, .invokevirtual 203, 3), (24, .aload_n 0, 1), (25, .getfield 50, 3), (28, .getfield 207, 3), (31, .ireturn, 1)]
set_option maxRecDepth 1000000 in
theorem eX10_waits : ∀ q ∈ kX10_waits, decode cX10_waits q.1 = .ok q.2 := by decide +kernel
set_option maxRecDepth 1000000 in
theorem oX10_waits : ck_ knX10 kX10_waits = true := by decide +kernel
def kX10_waiting : Ci_t := [(0, .aload_n 0, 1), (1, .iload_n 1, 1), (2, .iload_n 2, 1), (3, .iload_n 3, 1), (4, .invokevirtual 193, 3), (7, .ifCond .ne 6, 3), (10, .bipush (-2), 2), (12, .ireturn, 1), (13, .aload_n 0, 1), (14, .invokevirtual 171, 3), (17, .iload_n 1, 1), (18, .iload_n 2, 1), (19, .iload_n 3, 1), (20, .iconst 0, 1), (21, .invokevirtual 203, 3), (24, .aload_n 0, 1), (25, .getfield 50, 3), (28, .getfield 210, 3), (31, .ireturn, 1)]
set_option maxRecDepth 1000000 in
theorem eX10_waiting : ∀ q ∈ kX10_waiting, decode cX10_waiting q.1 = .ok q.2 := by decide +kernel
set_option maxRecDepth 1000000 in
theorem oX10_waiting : ck_ knX10 kX10_waiting = true := by decide +kernel
def kX10_share : Ci_t := [(0, .aload_n 0, 1), (1, .iload_n 1, 1), (2, .iload_n 2, 1), (3, .iload_n 3, 1), (4, .invokevirtual 193, 3), (7, .ifCond .eq 14, 3), (10, .iload 4, 2), (12, .ifCond .lt 9, 3), (15, .iload 4, 2), (17, .iconst 1, 1), (18, .if_icmp .le 6, 3), (21, .bipush (-2), 2), (23, .ireturn, 1), (24, .aload_n 0, 1), (25, .invokevirtual 171, 3), (28, .iload_n 1, 1), (29, .iload_n 2, 1), (30, .iload_n 3, 1), (31, .invokevirtual 200, 3), (34, .istore 5, 2), (36, .iload_n 3, 1), (37, .iload_n 2, 1), (38, .isub, 1), (39, .iconst 1, 1), (40, .iadd, 1), (41, .istore 6, 2), (43, .iload 5, 2), (45, .iload 6, 2), (47, .invokestatic 213, 3), (50, .istore 7, 2), (52, .iload 4, 2), (54, .ifCond .ne 11, 3), (57, .iload 5, 2), (59, .iload 7, 2), (61, .idiv, 1), (62, .goto 8, 3), (65, .iload 6, 2), (67, .iload 7, 2), (69, .idiv, 1), (70, .ireturn, 1)]
set_option maxRecDepth 1000000 in
theorem eX10_share : ∀ q ∈ kX10_share, decode cX10_share q.1 = .ok q.2 := by decide +kernel
set_option maxRecDepth 1000000 in
theorem oX10_share : ck_ knX10 kX10_share = true := by decide +kernel
def kX10_meets : Ci_t := [(0, .aload_n 0, 1), (1, .iload_n 1, 1), (2, .iload_n 3, 1), (3, .iload 5, 2), (5, .invokevirtual 216, 3), (8, .ifCond .ne 6, 3), (11, .bipush (-2), 2), (13, .ireturn, 1), (14, .aload_n 0, 1), (15, .getfield 26, 3), (18, .getfield 117, 3), (21, .iload_n 1, 1), (22, .aaload, 1), (23, .iload_n 2, 1), (24, .invokevirtual 219, 3), (27, .ifCond .eq 20, 3), (30, .aload_n 0, 1), (31, .getfield 26, 3), (34, .getfield 117, 3), (37, .iload_n 3, 1), (38, .aaload, 1), (39, .iload 4, 2), (41, .invokevirtual 219, 3), (44, .ifCond .ne 6, 3), (47, .bipush (-2), 2), (49, .ireturn, 1), (50, .aload_n 0, 1), (51, .invokevirtual 171, 3), (54, .astore 6, 2), (56, .iload 5, 2), (58, .istore 7, 2), (60, .iload 7, 2), (62, .sipush 2000, 3), (65, .if_icmp .ge 39, 3), (68, .aload 6, 2), (70, .iload_n 1, 1), (71, .iload 7, 2), (73, .iconst 3, 1), (74, .invokevirtual 175, 3), (77, .iload_n 2, 1), (78, .if_icmp .ne 20, 3), (81, .aload 6, 2), (83, .iload_n 3, 1), (84, .iload 7, 2), (86, .iconst 3, 1), (87, .invokevirtual 175, 3), (90, .iload 4, 2), (92, .if_icmp .ne 6, 3), (95, .iload 7, 2), (97, .ireturn, 1), (98, .iinc 7 1, 3), (101, .goto (-41), 3), (104, .iconst (-1), 1), (105, .ireturn, 1)]
set_option maxRecDepth 1000000 in
theorem eX10_meets : ∀ q ∈ kX10_meets, decode cX10_meets q.1 = .ok q.2 := by decide +kernel
set_option maxRecDepth 1000000 in
theorem oX10_meets : ck_ knX10 kX10_meets = true := by decide +kernel
def kX10_period : Ci_t := [(0, .aload_n 0, 1), (1, .getfield 26, 3), (4, .iload_n 1, 1), (5, .invokevirtual 113, 3), (8, .ifCond .ne 6, 3), (11, .bipush (-2), 2), (13, .ireturn, 1), (14, .aload_n 0, 1), (15, .getfield 26, 3), (18, .getfield 117, 3), (21, .iload_n 1, 1), (22, .aaload, 1), (23, .invokevirtual 222, 3), (26, .istore_n 2, 1), (27, .aload_n 0, 1), (28, .getfield 26, 3), (31, .getfield 117, 3), (34, .iload_n 1, 1), (35, .aaload, 1), (36, .getfield 126, 3), (39, .istore_n 3, 1), (40, .iload_n 2, 1), (41, .iload_n 2, 1), (42, .iload_n 3, 1), (43, .invokestatic 213, 3), (46, .idiv, 1), (47, .iload_n 3, 1), (48, .imul, 1), (49, .ireturn, 1)]
set_option maxRecDepth 1000000 in
theorem eX10_period : ∀ q ∈ kX10_period, decode cX10_period q.1 = .ok q.2 := by decide +kernel
set_option maxRecDepth 1000000 in
theorem oX10_period : ck_ knX10 kX10_period = true := by decide +kernel
def kX10_alike : Ci_t := [(0, .aload_n 0, 1), (1, .iload_n 1, 1), (2, .iload_n 2, 1), (3, .iload_n 3, 1), (4, .invokevirtual 216, 3), (7, .ifCond .ne 6, 3), (10, .bipush (-2), 2), (12, .ireturn, 1), (13, .aload_n 0, 1), (14, .invokevirtual 171, 3), (17, .astore 4, 2), (19, .iload_n 3, 1), (20, .istore 5, 2), (22, .iload 5, 2), (24, .sipush 2000, 3), (27, .if_icmp .ge 41, 3), (30, .aload 4, 2), (32, .iload_n 1, 1), (33, .iload 5, 2), (35, .invokevirtual 226, 3), (38, .istore 6, 2), (40, .iload 6, 2), (42, .iconst (-1), 1), (43, .if_icmp .eq 19, 3), (46, .iload 6, 2), (48, .aload 4, 2), (50, .iload_n 2, 1), (51, .iload 5, 2), (53, .invokevirtual 226, 3), (56, .if_icmp .ne 6, 3), (59, .iload 5, 2), (61, .ireturn, 1), (62, .iinc 5 1, 3), (65, .goto (-43), 3), (68, .iconst (-1), 1), (69, .ireturn, 1)]
set_option maxRecDepth 1000000 in
theorem eX10_alike : ∀ q ∈ kX10_alike, decode cX10_alike q.1 = .ok q.2 := by decide +kernel
set_option maxRecDepth 1000000 in
theorem oX10_alike : ck_ knX10 kX10_alike = true := by decide +kernel
def kX10_years : Ci_t := [(0, .aload_n 0, 1), (1, .iload_n 1, 1), (2, .invokevirtual 186, 3), (5, .ifCond .ne 6, 3), (8, .bipush (-2), 2), (10, .ireturn, 1), (11, .aload_n 0, 1), (12, .invokevirtual 171, 3), (15, .astore_n 2, 1), (16, .iconst 0, 1), (17, .istore_n 3, 1), (18, .iconst 0, 1), (19, .istore 4, 2), (21, .iload 4, 2), (23, .aload_n 0, 1), (24, .getfield 26, 3), (27, .getfield 229, 3), (30, .if_icmp .ge 26, 3), (33, .aload_n 2, 1), (34, .iload 4, 2), (36, .iload_n 1, 1), (37, .invokevirtual 226, 3), (40, .ifCond .ne 10, 3), (43, .iload_n 3, 1), (44, .iconst 1, 1), (45, .iload 4, 2), (47, .ishl, 1), (48, .ior, 1), (49, .istore_n 3, 1), (50, .iinc 4 1, 3), (53, .goto (-32), 3), (56, .iload_n 3, 1), (57, .ireturn, 1)]
set_option maxRecDepth 1000000 in
theorem eX10_years : ∀ q ∈ kX10_years, decode cX10_years q.1 = .ok q.2 := by decide +kernel
set_option maxRecDepth 1000000 in
theorem oX10_years : ck_ knX10 kX10_years = true := by decide +kernel
def kX10_comes : Ci_t := [(0, .aload_n 0, 1), (1, .iload_n 1, 1), (2, .iload_n 2, 1), (3, .invokevirtual 168, 3), (6, .ifCond .ne 6, 3), (9, .bipush (-2), 2), (11, .ireturn, 1), (12, .aload_n 0, 1), (13, .invokevirtual 171, 3), (16, .astore_n 3, 1), (17, .aload_n 3, 1), (18, .iload_n 1, 1), (19, .iload_n 2, 1), (20, .invokevirtual 226, 3), (23, .istore 4, 2), (25, .iload 4, 2), (27, .iconst (-1), 1), (28, .if_icmp .ne 5, 3), (31, .iconst (-1), 1), (32, .ireturn, 1), (33, .aload_n 3, 1), (34, .iload_n 1, 1), (35, .iload_n 2, 1), (36, .iconst 3, 1), (37, .invokevirtual 175, 3), (40, .istore 5, 2), (42, .iload_n 2, 1), (43, .iconst 1, 1), (44, .iadd, 1), (45, .istore 6, 2), (47, .iload 6, 2), (49, .sipush 2000, 3), (52, .if_icmp .ge 37, 3), (55, .aload_n 3, 1), (56, .iload_n 1, 1), (57, .iload 6, 2), (59, .invokevirtual 226, 3), (62, .iload 4, 2), (64, .if_icmp .ne 19, 3), (67, .aload_n 3, 1), (68, .iload_n 1, 1), (69, .iload 6, 2), (71, .iconst 3, 1), (72, .invokevirtual 175, 3), (75, .iload 5, 2), (77, .if_icmp .ne 6, 3), (80, .iload 6, 2), (82, .ireturn, 1), (83, .iinc 6 1, 3), (86, .goto (-39), 3), (89, .iconst (-1), 1), (90, .ireturn, 1)]
set_option maxRecDepth 1000000 in
theorem eX10_comes : ∀ q ∈ kX10_comes, decode cX10_comes q.1 = .ok q.2 := by decide +kernel
set_option maxRecDepth 1000000 in
theorem oX10_comes : ck_ knX10 kX10_comes = true := by decide +kernel
def kX10_saints : Ci_t := [(0, .aload_n 0, 1), (1, .iload_n 1, 1), (2, .iload_n 2, 1), (3, .iload_n 3, 1), (4, .iload 4, 2), (6, .iload 5, 2), (8, .invokevirtual 232, 3), (11, .ifCond .ne 6, 3), (14, .bipush (-2), 2), (16, .ireturn, 1), (17, .aload_n 0, 1), (18, .getfield 57, 3), (21, .aload_n 0, 1), (22, .getfield 26, 3), (25, .getfield 117, 3), (28, .iload_n 1, 1), (29, .aaload, 1), (30, .aload_n 0, 1), (31, .invokevirtual 171, 3), (34, .iload_n 1, 1), (35, .iload_n 2, 1), (36, .iload_n 3, 1), (37, .iload 4, 2), (39, .iload 5, 2), (41, .invokevirtual 236, 3), (44, .aload_n 0, 1), (45, .getfield 57, 3), (48, .getfield 240, 3), (51, .ireturn, 1)]
set_option maxRecDepth 1000000 in
theorem eX10_saints : ∀ q ∈ kX10_saints, decode cX10_saints q.1 = .ok q.2 := by decide +kernel
set_option maxRecDepth 1000000 in
theorem oX10_saints : ck_ knX10 kX10_saints = true := by decide +kernel
def kX10_founded : Ci_t := [(0, .aload_n 0, 1), (1, .iload_n 1, 1), (2, .iload_n 2, 1), (3, .iload_n 3, 1), (4, .iload 4, 2), (6, .iload 5, 2), (8, .invokevirtual 232, 3), (11, .ifCond .ne 7, 3), (14, .ldc2_w 243, 3), (17, .lreturn, 1), (18, .aload_n 0, 1), (19, .getfield 57, 3), (22, .aload_n 0, 1), (23, .getfield 26, 3), (26, .getfield 117, 3), (29, .iload_n 1, 1), (30, .aaload, 1), (31, .aload_n 0, 1), (32, .invokevirtual 171, 3), (35, .iload_n 1, 1), (36, .iload_n 2, 1), (37, .iload_n 3, 1), (38, .iload 4, 2), (40, .iload 5, 2), (42, .invokevirtual 236, 3), (45, .aload_n 0, 1), (46, .getfield 57, 3), (49, .getfield 245, 3), (52, .lreturn, 1)]
set_option maxRecDepth 1000000 in
theorem eX10_founded : ∀ q ∈ kX10_founded, decode cX10_founded q.1 = .ok q.2 := by decide +kernel
set_option maxRecDepth 1000000 in
theorem oX10_founded : ck_ knX10 kX10_founded = true := by decide +kernel
def kX10_bridge : Ci_t := [(0, .aload_n 0, 1), (1, .getfield 26, 3), (4, .iload_n 1, 1), (5, .invokevirtual 113, 3), (8, .ifCond .eq 23, 3), (11, .iload_n 2, 1), (12, .iload_n 3, 1), (13, .invokestatic 249, 3), (16, .ifCond .eq 15, 3), (19, .iload 4, 2), (21, .ifCond .lt 10, 3), (24, .iload 4, 2), (26, .bipush 9, 2), (28, .if_icmp .le 6, 3), (31, .bipush (-2), 2), (33, .ireturn, 1), (34, .aload_n 0, 1), (35, .invokevirtual 171, 3), (38, .iconst 1, 1), (39, .iload_n 1, 1), (40, .ishl, 1), (41, .iload_n 2, 1), (42, .iload_n 3, 1), (43, .iload 4, 2), (45, .invokevirtual 203, 3), (48, .aload_n 0, 1), (49, .getfield 50, 3), (52, .getfield 207, 3), (55, .ireturn, 1)]
set_option maxRecDepth 1000000 in
theorem eX10_bridge : ∀ q ∈ kX10_bridge, decode cX10_bridge q.1 = .ok q.2 := by decide +kernel
set_option maxRecDepth 1000000 in
theorem oX10_bridge : ck_ knX10 kX10_bridge = true := by decide +kernel
def kX10_bridged : Ci_t := [(0, .aload_n 0, 1), (1, .getfield 26, 3), (4, .iload_n 1, 1), (5, .invokevirtual 113, 3), (8, .ifCond .eq 23, 3), (11, .iload_n 2, 1), (12, .iload_n 3, 1), (13, .invokestatic 249, 3), (16, .ifCond .eq 15, 3), (19, .iload 4, 2), (21, .ifCond .lt 10, 3), (24, .iload 4, 2), (26, .bipush 9, 2), (28, .if_icmp .le 6, 3), (31, .bipush (-2), 2), (33, .ireturn, 1), (34, .aload_n 0, 1), (35, .invokevirtual 171, 3), (38, .iconst 1, 1), (39, .iload_n 1, 1), (40, .ishl, 1), (41, .iload_n 2, 1), (42, .iload_n 3, 1), (43, .iload 4, 2), (45, .invokevirtual 203, 3), (48, .aload_n 0, 1), (49, .getfield 50, 3), (52, .getfield 210, 3), (55, .ireturn, 1)]
set_option maxRecDepth 1000000 in
theorem eX10_bridged : ∀ q ∈ kX10_bridged, decode cX10_bridged q.1 = .ok q.2 := by decide +kernel
set_option maxRecDepth 1000000 in
theorem oX10_bridged : ck_ knX10 kX10_bridged = true := by decide +kernel
def kX10_oldest : Ci_t := [(0, .aload_n 0, 1), (1, .iload_n 1, 1), (2, .invokevirtual 252, 3), (5, .istore_n 2, 1), (6, .iload_n 2, 1), (7, .ifCond .ge 7, 3), (10, .iload_n 2, 1), (11, .goto 10, 3), (14, .aload_n 0, 1), (15, .getfield 64, 3), (18, .invokevirtual 256, 3), (21, .ireturn, 1)]
set_option maxRecDepth 1000000 in
theorem eX10_oldest : ∀ q ∈ kX10_oldest, decode cX10_oldest q.1 = .ok q.2 := by decide +kernel
set_option maxRecDepth 1000000 in
theorem oX10_oldest : ck_ knX10 kX10_oldest = true := by decide +kernel
def kX10_older : Ci_t := [(0, .aload_n 0, 1), (1, .iload_n 1, 1), (2, .invokevirtual 252, 3), (5, .istore_n 3, 1), (6, .iload_n 3, 1), (7, .ifCond .ge 5, 3), (10, .iload_n 3, 1), (11, .ireturn, 1), (12, .iload_n 2, 1), (13, .ifCond .lt 14, 3), (16, .iload_n 2, 1), (17, .aload_n 0, 1), (18, .getfield 64, 3), (21, .getfield 259, 3), (24, .if_icmp .lt 7, 3), (27, .iconst (-1), 1), (28, .goto 11, 3), (31, .aload_n 0, 1), (32, .getfield 64, 3), (35, .iload_n 2, 1), (36, .invokevirtual 260, 3), (39, .ireturn, 1)]
set_option maxRecDepth 1000000 in
theorem eX10_older : ∀ q ∈ kX10_older, decode cX10_older q.1 = .ok q.2 := by decide +kernel
set_option maxRecDepth 1000000 in
theorem oX10_older : ck_ knX10 kX10_older = true := by decide +kernel
def kX10_apart : Ci_t := [(0, .aload_n 0, 1), (1, .iload_n 1, 1), (2, .invokevirtual 252, 3), (5, .istore_n 2, 1), (6, .iload_n 2, 1), (7, .ifCond .ge 7, 3), (10, .iload_n 2, 1), (11, .goto 10, 3), (14, .aload_n 0, 1), (15, .getfield 64, 3), (18, .invokevirtual 263, 3), (21, .ireturn, 1)]
set_option maxRecDepth 1000000 in
theorem eX10_apart : ∀ q ∈ kX10_apart, decode cX10_apart q.1 = .ok q.2 := by decide +kernel
set_option maxRecDepth 1000000 in
theorem oX10_apart : ck_ knX10 kX10_apart = true := by decide +kernel
def kX10_idle : Ci_t := [(0, .aload_n 0, 1), (1, .iload_n 1, 1), (2, .invokevirtual 252, 3), (5, .istore_n 2, 1), (6, .iload_n 2, 1), (7, .ifCond .ge 7, 3), (10, .iload_n 2, 1), (11, .goto 14, 3), (14, .aload_n 0, 1), (15, .getfield 64, 3), (18, .aload_n 0, 1), (19, .invokevirtual 171, 3), (22, .invokevirtual 266, 3), (25, .ireturn, 1)]
set_option maxRecDepth 1000000 in
theorem eX10_idle : ∀ q ∈ kX10_idle, decode cX10_idle q.1 = .ok q.2 := by decide +kernel
set_option maxRecDepth 1000000 in
theorem oX10_idle : ck_ knX10 kX10_idle = true := by decide +kernel
def kX10_fits : Ci_t := [(0, .aload_n 0, 1), (1, .iload_n 1, 1), (2, .iload_n 2, 1), (3, .iload_n 3, 1), (4, .invokevirtual 270, 3), (7, .istore 4, 2), (9, .iload 4, 2), (11, .ifCond .ge 8, 3), (14, .iload 4, 2), (16, .goto 10, 3), (19, .aload_n 0, 1), (20, .getfield 71, 3), (23, .getfield 273, 3), (26, .ireturn, 1)]
set_option maxRecDepth 1000000 in
theorem eX10_fits : ∀ q ∈ kX10_fits, decode cX10_fits q.1 = .ok q.2 := by decide +kernel
set_option maxRecDepth 1000000 in
theorem oX10_fits : ck_ knX10 kX10_fits = true := by decide +kernel
def kX10_fit : Ci_t := [(0, .aload_n 0, 1), (1, .iload_n 1, 1), (2, .iload_n 2, 1), (3, .iload_n 3, 1), (4, .invokevirtual 270, 3), (7, .istore 5, 2), (9, .iload 5, 2), (11, .ifCond .ge 6, 3), (14, .iload 5, 2), (16, .ireturn, 1), (17, .iload 4, 2), (19, .ifCond .lt 15, 3), (22, .iload 4, 2), (24, .aload_n 0, 1), (25, .getfield 71, 3), (28, .getfield 273, 3), (31, .if_icmp .lt 7, 3), (34, .iconst (-1), 1), (35, .goto 13, 3), (38, .aload_n 0, 1), (39, .getfield 71, 3), (42, .getfield 274, 3), (45, .iload 4, 2), (47, .iaload, 1), (48, .ireturn, 1)]
set_option maxRecDepth 1000000 in
theorem eX10_fit : ∀ q ∈ kX10_fit, decode cX10_fit q.1 = .ok q.2 := by decide +kernel
set_option maxRecDepth 1000000 in
theorem oX10_fit : ck_ knX10 kX10_fit = true := by decide +kernel
def kX10_sure : Ci_t := [(0, .iload 4, 2), (2, .ifCond .lt 9, 3), (5, .iload 4, 2), (7, .iconst 1, 1), (8, .if_icmp .le 6, 3), (11, .bipush (-2), 2), (13, .ireturn, 1), (14, .aload_n 0, 1), (15, .iload_n 1, 1), (16, .iload_n 2, 1), (17, .iload_n 3, 1), (18, .invokevirtual 270, 3), (21, .istore 5, 2), (23, .iload 5, 2), (25, .ifCond .ge 6, 3), (28, .iload 5, 2), (30, .ireturn, 1), (31, .iload 4, 2), (33, .ifCond .ne 17, 3), (36, .aload_n 0, 1), (37, .getfield 71, 3), (40, .aload_n 0, 1), (41, .invokevirtual 171, 3), (44, .invokevirtual 277, 3), (47, .goto 14, 3), (50, .aload_n 0, 1), (51, .getfield 71, 3), (54, .aload_n 0, 1), (55, .invokevirtual 171, 3), (58, .invokevirtual 280, 3), (61, .ireturn, 1)]
set_option maxRecDepth 1000000 in
theorem eX10_sure : ∀ q ∈ kX10_sure, decode cX10_sure q.1 = .ok q.2 := by decide +kernel
set_option maxRecDepth 1000000 in
theorem oX10_sure : ck_ knX10 kX10_sure = true := by decide +kernel
def kX10_ask : Ci_t := [(0, .aload_n 0, 1), (1, .iload_n 1, 1), (2, .iload_n 2, 1), (3, .iload_n 3, 1), (4, .invokevirtual 270, 3), (7, .istore 4, 2), (9, .iload 4, 2), (11, .ifCond .ge 6, 3), (14, .iload 4, 2), (16, .ireturn, 1), (17, .aload_n 0, 1), (18, .getfield 71, 3), (21, .aload_n 0, 1), (22, .invokevirtual 171, 3), (25, .aload_n 0, 1), (26, .getfield 26, 3), (29, .getfield 229, 3), (32, .invokevirtual 283, 3), (35, .aload_n 0, 1), (36, .getfield 71, 3), (39, .getfield 287, 3), (42, .ireturn, 1)]
set_option maxRecDepth 1000000 in
theorem eX10_ask : ∀ q ∈ kX10_ask, decode cX10_ask q.1 = .ok q.2 := by decide +kernel
set_option maxRecDepth 1000000 in
theorem oX10_ask : ck_ knX10 kX10_ask = true := by decide +kernel
def kX10_leaves : Ci_t := [(0, .aload_n 0, 1), (1, .iload_n 1, 1), (2, .iload_n 2, 1), (3, .iload_n 3, 1), (4, .invokevirtual 270, 3), (7, .istore 4, 2), (9, .iload 4, 2), (11, .ifCond .ge 6, 3), (14, .iload 4, 2), (16, .ireturn, 1), (17, .aload_n 0, 1), (18, .getfield 71, 3), (21, .aload_n 0, 1), (22, .invokevirtual 171, 3), (25, .aload_n 0, 1), (26, .getfield 26, 3), (29, .getfield 229, 3), (32, .invokevirtual 283, 3), (35, .aload_n 0, 1), (36, .getfield 71, 3), (39, .getfield 290, 3), (42, .ireturn, 1)]
set_option maxRecDepth 1000000 in
theorem eX10_leaves : ∀ q ∈ kX10_leaves, decode cX10_leaves q.1 = .ok q.2 := by decide +kernel
set_option maxRecDepth 1000000 in
theorem oX10_leaves : ck_ knX10 kX10_leaves = true := by decide +kernel
def kX10_holds : Ci_t := [(0, .aload_n 0, 1), (1, .iload_n 1, 1), (2, .invokevirtual 186, 3), (5, .ifCond .eq 14, 3), (8, .aload_n 0, 1), (9, .getfield 26, 3), (12, .iload_n 1, 1), (13, .invokevirtual 293, 3), (16, .goto 5, 3), (19, .bipush (-2), 2), (21, .ireturn, 1)]
set_option maxRecDepth 1000000 in
theorem eX10_holds : ∀ q ∈ kX10_holds, decode cX10_holds q.1 = .ok q.2 := by decide +kernel
set_option maxRecDepth 1000000 in
theorem oX10_holds : ck_ knX10 kX10_holds = true := by decide +kernel
def kX10_overlap : Ci_t := [(0, .iload_n 1, 1), (1, .iconst 1, 1), (2, .if_icmp .lt 11, 3), (5, .aload_n 0, 1), (6, .iload_n 2, 1), (7, .invokevirtual 186, 3), (10, .ifCond .ne 6, 3), (13, .bipush (-2), 2), (15, .ireturn, 1), (16, .iload_n 1, 1), (17, .aload_n 0, 1), (18, .getfield 26, 3), (21, .getfield 162, 3), (24, .if_icmp .le 5, 3), (27, .iconst (-1), 1), (28, .ireturn, 1), (29, .iload_n 2, 1), (30, .istore_n 3, 1), (31, .iload_n 3, 1), (32, .sipush 2000, 3), (35, .if_icmp .ge 23, 3), (38, .aload_n 0, 1), (39, .getfield 26, 3), (42, .iload_n 3, 1), (43, .invokevirtual 293, 3), (46, .iload_n 1, 1), (47, .if_icmp .lt 5, 3), (50, .iload_n 3, 1), (51, .ireturn, 1), (52, .iinc 3 1, 3), (55, .goto (-24), 3), (58, .iconst (-1), 1), (59, .ireturn, 1)]
set_option maxRecDepth 1000000 in
theorem eX10_overlap : ∀ q ∈ kX10_overlap, decode cX10_overlap q.1 = .ok q.2 := by decide +kernel
set_option maxRecDepth 1000000 in
theorem oX10_overlap : ck_ knX10 kX10_overlap = true := by decide +kernel
def kX10_most : Ci_t := [(0, .aload_n 0, 1), (1, .getfield 26, 3), (4, .getfield 110, 3), (7, .ifCond .ne 6, 3), (10, .bipush (-2), 2), (12, .ireturn, 1), (13, .iconst 0, 1), (14, .istore_n 1, 1), (15, .iconst 0, 1), (16, .istore_n 2, 1), (17, .iload_n 2, 1), (18, .aload_n 0, 1), (19, .getfield 26, 3), (22, .getfield 162, 3), (25, .if_icmp .ge 36, 3), (28, .aload_n 0, 1), (29, .getfield 26, 3), (32, .getfield 165, 3), (35, .iload_n 2, 1), (36, .iconst 3, 1), (37, .imul, 1), (38, .iconst 1, 1), (39, .iadd, 1), (40, .iaload, 1), (41, .istore_n 3, 1), (42, .iload_n 1, 1), (43, .aload_n 0, 1), (44, .getfield 26, 3), (47, .iload_n 3, 1), (48, .invokevirtual 293, 3), (51, .invokestatic 296, 3), (54, .istore_n 1, 1), (55, .iinc 2 1, 3), (58, .goto (-41), 3), (61, .iload_n 1, 1), (62, .ireturn, 1)]
set_option maxRecDepth 1000000 in
theorem eX10_most : ∀ q ∈ kX10_most, decode cX10_most q.1 = .ok q.2 := by decide +kernel
set_option maxRecDepth 1000000 in
theorem oX10_most : ck_ knX10 kX10_most = true := by decide +kernel
def kX10_age : Ci_t := [(0, .aload_n 0, 1), (1, .iload_n 1, 1), (2, .iload_n 2, 1), (3, .invokevirtual 168, 3), (6, .ifCond .eq 10, 3), (9, .iload_n 3, 1), (10, .invokestatic 301, 3), (13, .ifCond .ne 6, 3), (16, .bipush (-2), 2), (18, .ireturn, 1), (19, .aload_n 0, 1), (20, .invokevirtual 171, 3), (23, .iload_n 1, 1), (24, .iload_n 2, 1), (25, .iload_n 3, 1), (26, .invokevirtual 304, 3), (29, .ireturn, 1)]
set_option maxRecDepth 1000000 in
theorem eX10_age : ∀ q ∈ kX10_age, decode cX10_age q.1 = .ok q.2 := by decide +kernel
set_option maxRecDepth 1000000 in
theorem oX10_age : ck_ knX10 kX10_age = true := by decide +kernel
def kX10_gains : Ci_t := [(0, .aload_n 0, 1), (1, .iload_n 1, 1), (2, .iload_n 2, 1), (3, .iload_n 3, 1), (4, .invokevirtual 216, 3), (7, .ifCond .eq 11, 3), (10, .iload 4, 2), (12, .invokestatic 301, 3), (15, .ifCond .ne 7, 3), (18, .sipush (-2000), 3), (21, .ireturn, 1), (22, .aload_n 0, 1), (23, .invokevirtual 171, 3), (26, .iload_n 1, 1), (27, .iload_n 3, 1), (28, .iload 4, 2), (30, .invokevirtual 304, 3), (33, .istore 5, 2), (35, .aload_n 0, 1), (36, .invokevirtual 171, 3), (39, .iload_n 2, 1), (40, .iload_n 3, 1), (41, .iload 4, 2), (43, .invokevirtual 304, 3), (46, .istore 6, 2), (48, .iload 5, 2), (50, .iconst (-1), 1), (51, .if_icmp .eq 9, 3), (54, .iload 6, 2), (56, .iconst (-1), 1), (57, .if_icmp .ne 9, 3), (60, .sipush (-1000), 3), (63, .goto 8, 3), (66, .iload 5, 2), (68, .iload 6, 2), (70, .isub, 1), (71, .ireturn, 1)]
set_option maxRecDepth 1000000 in
theorem eX10_gains : ∀ q ∈ kX10_gains, decode cX10_gains q.1 = .ok q.2 := by decide +kernel
set_option maxRecDepth 1000000 in
theorem oX10_gains : ck_ knX10 kX10_gains = true := by decide +kernel
def kX10_march : Ci_t := [(0, .aload_n 0, 1), (1, .iload_n 1, 1), (2, .iload_n 2, 1), (3, .invokevirtual 168, 3), (6, .ifCond .eq 8, 3), (9, .iload_n 3, 1), (10, .iconst 1, 1), (11, .if_icmp .ge 6, 3), (14, .bipush (-2), 2), (16, .ireturn, 1), (17, .aload_n 0, 1), (18, .invokevirtual 171, 3), (21, .astore 4, 2), (23, .iconst 0, 1), (24, .istore 5, 2), (26, .iload_n 2, 1), (27, .istore 6, 2), (29, .iload 6, 2), (31, .sipush 2000, 3), (34, .if_icmp .ge 32, 3), (37, .iload 5, 2), (39, .aload 4, 2), (41, .iload_n 1, 1), (42, .iload 6, 2), (44, .iconst 4, 1), (45, .invokevirtual 175, 3), (48, .iadd, 1), (49, .istore 5, 2), (51, .iload 5, 2), (53, .iload_n 3, 1), (54, .if_icmp .ne 6, 3), (57, .iload 6, 2), (59, .ireturn, 1), (60, .iinc 6 1, 3), (63, .goto (-34), 3), (66, .iconst (-1), 1), (67, .ireturn, 1)]
set_option maxRecDepth 1000000 in
theorem eX10_march : ∀ q ∈ kX10_march, decode cX10_march q.1 = .ok q.2 := by decide +kernel
set_option maxRecDepth 1000000 in
theorem oX10_march : ck_ knX10 kX10_march = true := by decide +kernel
def kX10_clash : Ci_t := [(0, .aload_n 0, 1), (1, .iload_n 1, 1), (2, .iload_n 2, 1), (3, .iload_n 3, 1), (4, .invokevirtual 216, 3), (7, .ifCond .eq 9, 3), (10, .iload 4, 2), (12, .iconst 1, 1), (13, .if_icmp .ge 6, 3), (16, .bipush (-2), 2), (18, .ireturn, 1), (19, .aload_n 0, 1), (20, .invokevirtual 171, 3), (23, .iload_n 1, 1), (24, .iload_n 2, 1), (25, .iload_n 3, 1), (26, .iload 4, 2), (28, .invokevirtual 307, 3), (31, .ireturn, 1)]
set_option maxRecDepth 1000000 in
theorem eX10_clash : ∀ q ∈ kX10_clash, decode cX10_clash q.1 = .ok q.2 := by decide +kernel
set_option maxRecDepth 1000000 in
theorem oX10_clash : ck_ knX10 kX10_clash = true := by decide +kernel
def kX10_place : Ci_t := [(0, .aload_n 0, 1), (1, .iload_n 1, 1), (2, .iload_n 2, 1), (3, .iload_n 3, 1), (4, .invokevirtual 216, 3), (7, .ifCond .eq 9, 3), (10, .iload 4, 2), (12, .iconst 1, 1), (13, .if_icmp .ge 6, 3), (16, .bipush (-2), 2), (18, .ireturn, 1), (19, .aload_n 0, 1), (20, .invokevirtual 171, 3), (23, .astore 5, 2), (25, .aload 5, 2), (27, .iload_n 1, 1), (28, .iload_n 2, 1), (29, .iload_n 3, 1), (30, .iload 4, 2), (32, .invokevirtual 307, 3), (35, .istore 6, 2), (37, .iload 6, 2), (39, .iconst (-1), 1), (40, .if_icmp .ne 5, 3), (43, .iconst (-1), 1), (44, .ireturn, 1), (45, .aload 5, 2), (47, .iconst 1, 1), (48, .iload_n 1, 1), (49, .ishl, 1), (50, .iload_n 3, 1), (51, .iload 6, 2), (53, .invokevirtual 200, 3), (56, .istore 7, 2), (58, .iload 7, 2), (60, .aload 5, 2), (62, .iconst 1, 1), (63, .iload_n 2, 1), (64, .ishl, 1), (65, .iload_n 3, 1), (66, .iload 6, 2), (68, .invokevirtual 200, 3), (71, .iadd, 1), (72, .istore 8, 2), (74, .iload 8, 2), (76, .iload 4, 2), (78, .if_icmp .le 15, 3), (81, .iload_n 1, 1), (82, .iload_n 2, 1), (83, .if_icmp .le 10, 3), (86, .iload 7, 2), (88, .iconst 1, 1), (89, .isub, 1), (90, .goto 5, 3), (93, .iload 7, 2), (95, .ireturn, 1)]
set_option maxRecDepth 1000000 in
theorem eX10_place : ∀ q ∈ kX10_place, decode cX10_place q.1 = .ok q.2 := by decide +kernel
set_option maxRecDepth 1000000 in
theorem oX10_place : ck_ knX10 kX10_place = true := by decide +kernel
def kX10_alone : Ci_t := [(0, .aload_n 0, 1), (1, .iload_n 1, 1), (2, .iload_n 2, 1), (3, .invokevirtual 310, 3), (6, .ifCond .eq 12, 3), (9, .iload_n 3, 1), (10, .iload 4, 2), (12, .invokestatic 249, 3), (15, .ifCond .ne 6, 3), (18, .bipush (-2), 2), (20, .ireturn, 1), (21, .aload_n 0, 1), (22, .invokevirtual 171, 3), (25, .iload_n 1, 1), (26, .iload_n 2, 1), (27, .iload_n 3, 1), (28, .iload 4, 2), (30, .invokevirtual 313, 3), (33, .ireturn, 1)]
set_option maxRecDepth 1000000 in
theorem eX10_alone : ∀ q ∈ kX10_alone, decode cX10_alone q.1 = .ok q.2 := by decide +kernel
set_option maxRecDepth 1000000 in
theorem oX10_alone : ck_ knX10 kX10_alone = true := by decide +kernel
def kX10_begin : Ci_t := [(0, .aload_n 0, 1), (1, .iload_n 1, 1), (2, .iload_n 2, 1), (3, .invokevirtual 310, 3), (6, .ifCond .eq 26, 3), (9, .iload_n 3, 1), (10, .iload 4, 2), (12, .invokestatic 249, 3), (15, .ifCond .eq 17, 3), (18, .iload 5, 2), (20, .iconst 1, 1), (21, .if_icmp .lt 11, 3), (24, .iload 5, 2), (26, .sipush 200, 3), (29, .if_icmp .le 6, 3), (32, .bipush (-2), 2), (34, .ireturn, 1), (35, .aload_n 0, 1), (36, .invokevirtual 171, 3), (39, .iload_n 1, 1), (40, .iload_n 2, 1), (41, .iload_n 3, 1), (42, .iload 4, 2), (44, .iload 5, 2), (46, .invokevirtual 316, 3), (49, .aload_n 0, 1), (50, .getfield 50, 3), (53, .getfield 320, 3), (56, .ireturn, 1)]
set_option maxRecDepth 1000000 in
theorem eX10_begin : ∀ q ∈ kX10_begin, decode cX10_begin q.1 = .ok q.2 := by decide +kernel
set_option maxRecDepth 1000000 in
theorem oX10_begin : ck_ knX10 kX10_begin = true := by decide +kernel
def kX10_begins : Ci_t := [(0, .aload_n 0, 1), (1, .iload_n 1, 1), (2, .iload_n 2, 1), (3, .invokevirtual 310, 3), (6, .ifCond .eq 26, 3), (9, .iload_n 3, 1), (10, .iload 4, 2), (12, .invokestatic 249, 3), (15, .ifCond .eq 17, 3), (18, .iload 5, 2), (20, .iconst 1, 1), (21, .if_icmp .lt 11, 3), (24, .iload 5, 2), (26, .sipush 200, 3), (29, .if_icmp .le 6, 3), (32, .bipush (-2), 2), (34, .ireturn, 1), (35, .aload_n 0, 1), (36, .invokevirtual 171, 3), (39, .iload_n 1, 1), (40, .iload_n 2, 1), (41, .iload_n 3, 1), (42, .iload 4, 2), (44, .iload 5, 2), (46, .invokevirtual 316, 3), (49, .aload_n 0, 1), (50, .getfield 50, 3), (53, .getfield 323, 3), (56, .ireturn, 1)]
set_option maxRecDepth 1000000 in
theorem eX10_begins : ∀ q ∈ kX10_begins, decode cX10_begins q.1 = .ok q.2 := by decide +kernel
set_option maxRecDepth 1000000 in
theorem oX10_begins : ck_ knX10 kX10_begins = true := by decide +kernel
def kX10_game : Ci_t := [(0, .aload_n 0, 1), (1, .iload_n 1, 1), (2, .iload_n 2, 1), (3, .iload_n 3, 1), (4, .invokevirtual 216, 3), (7, .ifCond .eq 16, 3), (10, .iload 4, 2), (12, .iconst 1, 1), (13, .if_icmp .lt 10, 3), (16, .iload 4, 2), (18, .bipush 40, 2), (20, .if_icmp .le 6, 3), (23, .bipush (-2), 2), (25, .ireturn, 1), (26, .aload_n 0, 1), (27, .getfield 78, 3), (30, .aload_n 0, 1), (31, .invokevirtual 171, 3), (34, .iload_n 1, 1), (35, .iload_n 2, 1), (36, .invokestatic 326, 3), (39, .iload_n 1, 1), (40, .iload_n 2, 1), (41, .invokestatic 296, 3), (44, .iload_n 3, 1), (45, .iload 4, 2), (47, .invokevirtual 329, 3), (50, .aload_n 0, 1), (51, .getfield 78, 3), (54, .getfield 333, 3), (57, .ireturn, 1)]
set_option maxRecDepth 1000000 in
theorem eX10_game : ∀ q ∈ kX10_game, decode cX10_game q.1 = .ok q.2 := by decide +kernel
set_option maxRecDepth 1000000 in
theorem oX10_game : ck_ knX10 kX10_game = true := by decide +kernel
def kX10_takes : Ci_t := [(0, .aload_n 0, 1), (1, .iload_n 1, 1), (2, .iload_n 2, 1), (3, .iload_n 3, 1), (4, .invokevirtual 216, 3), (7, .ifCond .eq 16, 3), (10, .iload 4, 2), (12, .iconst 1, 1), (13, .if_icmp .lt 10, 3), (16, .iload 4, 2), (18, .bipush 40, 2), (20, .if_icmp .le 6, 3), (23, .bipush (-2), 2), (25, .ireturn, 1), (26, .aload_n 0, 1), (27, .getfield 78, 3), (30, .aload_n 0, 1), (31, .invokevirtual 171, 3), (34, .iload_n 1, 1), (35, .iload_n 2, 1), (36, .invokestatic 326, 3), (39, .iload_n 1, 1), (40, .iload_n 2, 1), (41, .invokestatic 296, 3), (44, .iload_n 3, 1), (45, .iload 4, 2), (47, .invokevirtual 329, 3), (50, .aload_n 0, 1), (51, .getfield 78, 3), (54, .getfield 336, 3), (57, .ireturn, 1)]
set_option maxRecDepth 1000000 in
theorem eX10_takes : ∀ q ∈ kX10_takes, decode cX10_takes q.1 = .ok q.2 := by decide +kernel
set_option maxRecDepth 1000000 in
theorem oX10_takes : ck_ knX10 kX10_takes = true := by decide +kernel
def kX10_found : Ci_t := [(0, .aload_n 0, 1), (1, .getfield 26, 3), (4, .iload_n 1, 1), (5, .iload_n 2, 1), (6, .iload_n 3, 1), (7, .invokevirtual 339, 3), (10, .ifCond .eq 16, 3), (13, .iload 4, 2), (15, .iconst 1, 1), (16, .if_icmp .lt 10, 3), (19, .iload 4, 2), (21, .bipush 9, 2), (23, .if_icmp .le 6, 3), (26, .bipush (-2), 2), (28, .ireturn, 1), (29, .aload_n 0, 1), (30, .getfield 26, 3), (33, .getfield 155, 3), (36, .bipush 12, 2), (38, .if_icmp .ge 15, 3), (41, .aload_n 0, 1), (42, .getfield 26, 3), (45, .getfield 342, 3), (48, .bipush 60, 2), (50, .if_icmp .lt 6, 3), (53, .bipush (-3), 2), (55, .ireturn, 1), (56, .aload_n 0, 1), (57, .getfield 26, 3), (60, .aload_n 0, 1), (61, .getfield 26, 3), (64, .getfield 155, 3), (67, .iload_n 1, 1), (68, .iload_n 2, 1), (69, .iload_n 3, 1), (70, .iload 4, 2), (72, .invokevirtual 345, 3), (75, .aload_n 0, 1), (76, .getfield 26, 3), (79, .invokevirtual 348, 3), (82, .aload_n 0, 1), (83, .getfield 50, 3), (86, .iload_n 1, 1), (87, .invokevirtual 351, 3), (90, .aload_n 0, 1), (91, .getfield 26, 3), (94, .getfield 155, 3), (97, .iconst 1, 1), (98, .isub, 1), (99, .ireturn, 1)]
set_option maxRecDepth 1000000 in
theorem eX10_found : ∀ q ∈ kX10_found, decode cX10_found q.1 = .ok q.2 := by decide +kernel
set_option maxRecDepth 1000000 in
theorem oX10_found : ck_ knX10 kX10_found = true := by decide +kernel
def kX10_grant : Ci_t := [(0, .aload_n 0, 1), (1, .getfield 26, 3), (4, .iload_n 1, 1), (5, .invokevirtual 113, 3), (8, .ifCond .eq 11, 3), (11, .iload_n 2, 1), (12, .iload_n 3, 1), (13, .invokestatic 249, 3), (16, .ifCond .ne 6, 3), (19, .bipush (-2), 2), (21, .ireturn, 1), (22, .aload_n 0, 1), (23, .getfield 26, 3), (26, .getfield 162, 3), (29, .bipush 12, 2), (31, .if_icmp .ge 15, 3), (34, .aload_n 0, 1), (35, .getfield 26, 3), (38, .getfield 342, 3), (41, .bipush 60, 2), (43, .if_icmp .lt 6, 3), (46, .bipush (-3), 2), (48, .ireturn, 1), (49, .aload_n 0, 1), (50, .getfield 26, 3), (53, .iload_n 1, 1), (54, .iload_n 2, 1), (55, .iload_n 3, 1), (56, .invokevirtual 354, 3), (59, .aload_n 0, 1), (60, .getfield 26, 3), (63, .invokevirtual 358, 3), (66, .aload_n 0, 1), (67, .getfield 50, 3), (70, .iload_n 1, 1), (71, .invokevirtual 351, 3), (74, .aload_n 0, 1), (75, .getfield 26, 3), (78, .getfield 162, 3), (81, .iconst 1, 1), (82, .isub, 1), (83, .ireturn, 1)]
set_option maxRecDepth 1000000 in
theorem eX10_grant : ∀ q ∈ kX10_grant, decode cX10_grant q.1 = .ok q.2 := by decide +kernel
set_option maxRecDepth 1000000 in
theorem oX10_grant : ck_ knX10 kX10_grant = true := by decide +kernel
def kX10_ends : Ci_t := [(0, .aload_n 0, 1), (1, .getfield 26, 3), (4, .iload_n 1, 1), (5, .invokevirtual 113, 3), (8, .ifCond .ne 6, 3), (11, .bipush (-2), 2), (13, .ireturn, 1), (14, .aload_n 0, 1), (15, .getfield 26, 3), (18, .iload_n 1, 1), (19, .invokevirtual 361, 3), (22, .istore_n 2, 1), (23, .iload_n 2, 1), (24, .iconst (-1), 1), (25, .if_icmp .ne 6, 3), (28, .bipush (-5), 2), (30, .ireturn, 1), (31, .aload_n 0, 1), (32, .getfield 26, 3), (35, .getfield 342, 3), (38, .bipush 60, 2), (40, .if_icmp .lt 6, 3), (43, .bipush (-3), 2), (45, .ireturn, 1), (46, .aload_n 0, 1), (47, .getfield 26, 3), (50, .iload_n 2, 1), (51, .invokevirtual 364, 3), (54, .aload_n 0, 1), (55, .getfield 26, 3), (58, .iload_n 2, 1), (59, .invokevirtual 367, 3), (62, .aload_n 0, 1), (63, .getfield 50, 3), (66, .iload_n 1, 1), (67, .invokevirtual 351, 3), (70, .iload_n 2, 1), (71, .ireturn, 1)]
set_option maxRecDepth 1000000 in
theorem eX10_ends : ∀ q ∈ kX10_ends, decode cX10_ends q.1 = .ok q.2 := by decide +kernel
set_option maxRecDepth 1000000 in
theorem oX10_ends : ck_ knX10 kX10_ends = true := by decide +kernel
def kX10_undo : Ci_t := [(0, .aload_n 0, 1), (1, .getfield 26, 3), (4, .getfield 110, 3), (7, .ifCond .ne 6, 3), (10, .bipush (-2), 2), (12, .ireturn, 1), (13, .aload_n 0, 1), (14, .getfield 26, 3), (17, .getfield 342, 3), (20, .ifCond .ne 6, 3), (23, .bipush (-5), 2), (25, .ireturn, 1), (26, .aload_n 0, 1), (27, .getfield 50, 3), (30, .aload_n 0, 1), (31, .getfield 26, 3), (34, .invokevirtual 370, 3), (37, .invokevirtual 351, 3), (40, .aload_n 0, 1), (41, .getfield 26, 3), (44, .getfield 342, 3), (47, .ireturn, 1)]
set_option maxRecDepth 1000000 in
theorem eX10_undo : ∀ q ∈ kX10_undo, decode cX10_undo q.1 = .ok q.2 := by decide +kernel
set_option maxRecDepth 1000000 in
theorem oX10_undo : ck_ knX10 kX10_undo = true := by decide +kernel
def kX10_drawn : Ci_t := [(0, .aload_n 0, 1), (1, .getfield 26, 3), (4, .getfield 110, 3), (7, .ifCond .eq 23, 3), (10, .iload_n 1, 1), (11, .iload_n 2, 1), (12, .iload_n 3, 1), (13, .invokestatic 373, 3), (16, .ifCond .eq 14, 3), (19, .iload 4, 2), (21, .ifCond .lt 9, 3), (24, .iload 4, 2), (26, .iconst 1, 1), (27, .if_icmp .le 6, 3), (30, .bipush (-2), 2), (32, .ireturn, 1), (33, .iconst 1, 1), (34, .aload_n 0, 1), (35, .getfield 26, 3), (38, .getfield 229, 3), (41, .ishl, 1), (42, .iconst 1, 1), (43, .isub, 1), (44, .istore 5, 2), (46, .sipush 2000, 3), (49, .iload_n 2, 1), (50, .iload_n 3, 1), (51, .iadd, 1), (52, .invokestatic 326, 3), (55, .istore 6, 2), (57, .aload_n 0, 1), (58, .invokevirtual 171, 3), (61, .astore 7, 2), (63, .iload_n 1, 1), (64, .i2l, 1), (65, .lstore 8, 2), (67, .iconst 0, 1), (68, .istore 10, 2), (70, .iload_n 2, 1), (71, .istore 11, 2), (73, .iload 11, 2), (75, .iload 6, 2), (77, .if_icmp .ge 63, 3), (80, .lload 8, 2), (82, .invokestatic 376, 3), (85, .lstore 8, 2), (87, .lload 8, 2), (89, .aload_n 0, 1), (90, .getfield 26, 3), (93, .getfield 380, 3), (96, .invokestatic 383, 3), (99, .istore 12, 2), (101, .iload 4, 2), (103, .ifCond .ne 11, 3), (106, .iload 12, 2), (108, .ifCond .eq 26, 3), (111, .goto 20, 3), (114, .iload 12, 2), (116, .ifCond .ne 18, 3), (119, .aload 7, 2), (121, .iload 5, 2), (123, .iload 11, 2), (125, .invokevirtual 197, 3), (128, .ifCond .eq 6, 3), (131, .iinc 10 1, 3), (134, .iinc 11 1, 3), (137, .goto (-64), 3), (140, .iload 10, 2), (142, .ireturn, 1)]
set_option maxRecDepth 1000000 in
theorem eX10_drawn : ∀ q ∈ kX10_drawn, decode cX10_drawn q.1 = .ok q.2 := by decide +kernel
set_option maxRecDepth 1000000 in
theorem oX10_drawn : ck_ knX10 kX10_drawn = true := by decide +kernel
def kX10_luck : Ci_t := [(0, .aload_n 0, 1), (1, .getfield 26, 3), (4, .iload_n 3, 1), (5, .invokevirtual 113, 3), (8, .ifCond .eq 25, 3), (11, .iload_n 1, 1), (12, .iload 4, 2), (14, .iload 5, 2), (16, .invokestatic 373, 3), (19, .ifCond .eq 14, 3), (22, .iload_n 2, 1), (23, .iconst 1, 1), (24, .if_icmp .lt 9, 3), (27, .iload_n 2, 1), (28, .bipush 20, 2), (30, .if_icmp .le 6, 3), (33, .bipush (-2), 2), (35, .ireturn, 1), (36, .aload_n 0, 1), (37, .invokevirtual 171, 3), (40, .astore 6, 2), (42, .iconst 0, 1), (43, .istore 7, 2), (45, .iconst 0, 1), (46, .istore 8, 2), (48, .iload 8, 2), (50, .iload_n 2, 1), (51, .if_icmp .ge 32, 3), (54, .aload_n 0, 1), (55, .aload 6, 2), (57, .iload_n 1, 1), (58, .i2l, 1), (59, .iload 8, 2), (61, .i2l, 1), (62, .ladd, 1), (63, .iload_n 3, 1), (64, .iload 4, 2), (66, .iload 5, 2), (68, .invokevirtual 387, 3), (71, .ifCond .ne 6, 3), (74, .iinc 7 1, 3), (77, .iinc 8 1, 3), (80, .goto (-32), 3), (83, .iload 7, 2), (85, .ireturn, 1)]
set_option maxRecDepth 1000000 in
theorem eX10_luck : ∀ q ∈ kX10_luck, decode cX10_luck q.1 = .ok q.2 := by decide +kernel
set_option maxRecDepth 1000000 in
theorem oX10_luck : ck_ knX10 kX10_luck = true := by decide +kernel
def kX10_count : Ci_t := [(0, .iload_n 1, 1), (1, .tableswitch 108 0 7 #[47, 55, 63, 71, 79, 87, 95, 103], 47), (48, .aload_n 0, 1), (49, .getfield 26, 3), (52, .getfield 229, 3), (55, .ireturn, 1), (56, .aload_n 0, 1), (57, .getfield 26, 3), (60, .getfield 155, 3), (63, .ireturn, 1), (64, .aload_n 0, 1), (65, .getfield 26, 3), (68, .getfield 162, 3), (71, .ireturn, 1), (72, .aload_n 0, 1), (73, .getfield 26, 3), (76, .getfield 380, 3), (79, .ireturn, 1), (80, .aload_n 0, 1), (81, .getfield 26, 3), (84, .getfield 110, 3), (87, .ireturn, 1), (88, .aload_n 0, 1), (89, .getfield 10, 3), (92, .getfield 90, 3), (95, .ireturn, 1), (96, .aload_n 0, 1), (97, .getfield 26, 3), (100, .getfield 342, 3), (103, .ireturn, 1), (104, .aload_n 0, 1), (105, .invokevirtual 391, 3), (108, .ireturn, 1), (109, .iconst (-1), 1), (110, .ireturn, 1)]
set_option maxRecDepth 1000000 in
theorem eX10_count : ∀ q ∈ kX10_count, decode cX10_count q.1 = .ok q.2 := by decide +kernel
set_option maxRecDepth 1000000 in
theorem oX10_count : ck_ knX10 kX10_count = true := by decide +kernel
def kX10_image : Ci_t := [(0, .iload_n 1, 1), (1, .ifCond .lt 8, 3), (4, .iload_n 1, 1), (5, .iconst 3, 1), (6, .if_icmp .lt 6, 3), (9, .bipush (-2), 2), (11, .ireturn, 1), (12, .aload_n 0, 1), (13, .getfield 33, 3), (16, .iload_n 1, 1), (17, .aaload, 1), (18, .aload_n 0, 1), (19, .getfield 26, 3), (22, .invokevirtual 394, 3), (25, .aload_n 0, 1), (26, .getfield 37, 3), (29, .iload_n 1, 1), (30, .iconst 1, 1), (31, .bastore, 1), (32, .iconst 0, 1), (33, .ireturn, 1)]
set_option maxRecDepth 1000000 in
theorem eX10_image : ∀ q ∈ kX10_image, decode cX10_image q.1 = .ok q.2 := by decide +kernel
set_option maxRecDepth 1000000 in
theorem oX10_image : ck_ knX10 kX10_image = true := by decide +kernel
def kX10_back : Ci_t := [(0, .iload_n 1, 1), (1, .ifCond .lt 8, 3), (4, .iload_n 1, 1), (5, .iconst 3, 1), (6, .if_icmp .lt 6, 3), (9, .bipush (-2), 2), (11, .ireturn, 1), (12, .aload_n 0, 1), (13, .getfield 37, 3), (16, .iload_n 1, 1), (17, .baload, 1), (18, .ifCond .ne 6, 3), (21, .bipush (-6), 2), (23, .ireturn, 1), (24, .aload_n 0, 1), (25, .getfield 26, 3), (28, .aload_n 0, 1), (29, .getfield 33, 3), (32, .iload_n 1, 1), (33, .aaload, 1), (34, .invokevirtual 394, 3), (37, .aload_n 0, 1), (38, .getfield 50, 3), (41, .invokevirtual 107, 3), (44, .iconst 0, 1), (45, .ireturn, 1)]
set_option maxRecDepth 1000000 in
theorem eX10_back : ∀ q ∈ kX10_back, decode cX10_back q.1 = .ok q.2 := by decide +kernel
set_option maxRecDepth 1000000 in
theorem oX10_back : ck_ knX10 kX10_back = true := by decide +kernel
def kX10_row : Ci_t := [(0, .iload_n 1, 1), (1, .invokestatic 398, 3), (4, .ifCond .eq 18, 3), (7, .iload_n 2, 1), (8, .ifCond .lt 14, 3), (11, .iload_n 2, 1), (12, .iconst 4, 1), (13, .if_icmp .ge 9, 3), (16, .iload_n 3, 1), (17, .bipush 60, 2), (19, .if_icmp .le 6, 3), (22, .bipush (-2), 2), (24, .ireturn, 1), (25, .iload_n 3, 1), (26, .ifCond .ge 6, 3), (29, .bipush (-3), 2), (31, .ireturn, 1), (32, .aload_n 0, 1), (33, .getfield 43, 3), (36, .iload_n 1, 1), (37, .aaload, 1), (38, .iload_n 2, 1), (39, .iload_n 3, 1), (40, .invokevirtual 401, 3), (43, .iconst 0, 1), (44, .ireturn, 1)]
set_option maxRecDepth 1000000 in
theorem eX10_row : ∀ q ∈ kX10_row, decode cX10_row q.1 = .ok q.2 := by decide +kernel
set_option maxRecDepth 1000000 in
theorem oX10_row : ck_ knX10 kX10_row = true := by decide +kernel
def kX10_write : Ci_t := [(0, .iload_n 1, 1), (1, .invokestatic 398, 3), (4, .ifCond .ne 6, 3), (7, .bipush (-2), 2), (9, .ireturn, 1), (10, .aload_n 0, 1), (11, .getfield 43, 3), (14, .iload_n 1, 1), (15, .aaload, 1), (16, .astore 5, 2), (18, .aload 5, 2), (20, .getfield 405, 3), (23, .ifCond .ne 6, 3), (26, .bipush (-6), 2), (28, .ireturn, 1), (29, .iload_n 2, 1), (30, .ifCond .lt 12, 3), (33, .iload_n 2, 1), (34, .aload 5, 2), (36, .getfield 409, 3), (39, .if_icmp .lt 6, 3), (42, .bipush (-7), 2), (44, .ireturn, 1), (45, .aload 5, 2), (47, .getfield 410, 3), (50, .iload_n 2, 1), (51, .aload 5, 2), (53, .lload_n 3, 1), (54, .invokevirtual 414, 3), (57, .lastore, 1), (58, .iconst 0, 1), (59, .ireturn, 1)]
set_option maxRecDepth 1000000 in
theorem eX10_write : ∀ q ∈ kX10_write, decode cX10_write q.1 = .ok q.2 := by decide +kernel
set_option maxRecDepth 1000000 in
theorem oX10_write : ck_ knX10 kX10_write = true := by decide +kernel
def kX10_paste : Ci_t := [(0, .iload_n 1, 1), (1, .invokestatic 398, 3), (4, .ifCond .eq 10, 3), (7, .iload_n 3, 1), (8, .invokestatic 398, 3), (11, .ifCond .ne 6, 3), (14, .bipush (-2), 2), (16, .ireturn, 1), (17, .aload_n 0, 1), (18, .getfield 43, 3), (21, .iload_n 1, 1), (22, .aaload, 1), (23, .astore 6, 2), (25, .aload_n 0, 1), (26, .getfield 43, 3), (29, .iload_n 3, 1), (30, .aaload, 1), (31, .astore 7, 2), (33, .aload 6, 2), (35, .getfield 405, 3), (38, .ifCond .eq 11, 3), (41, .aload 7, 2), (43, .getfield 405, 3), (46, .ifCond .ne 6, 3), (49, .bipush (-6), 2), (51, .ireturn, 1), (52, .aload 6, 2), (54, .getfield 417, 3), (57, .aload 7, 2), (59, .getfield 417, 3), (62, .if_icmp .eq 6, 3), (65, .bipush (-8), 2), (67, .ireturn, 1), (68, .aload 6, 2), (70, .iload_n 2, 1), (71, .iload 5, 2), (73, .invokevirtual 420, 3), (76, .ifCond .eq 15, 3), (79, .aload 7, 2), (81, .iload 4, 2), (83, .iload 5, 2), (85, .invokevirtual 420, 3), (88, .ifCond .ne 6, 3), (91, .bipush (-7), 2), (93, .ireturn, 1), (94, .aload 6, 2), (96, .getfield 410, 3), (99, .iload_n 2, 1), (100, .aload 7, 2), (102, .getfield 410, 3), (105, .iload 4, 2), (107, .iload 5, 2), (109, .invokestatic 423, 3), (112, .iconst 0, 1), (113, .ireturn, 1)]
set_option maxRecDepth 1000000 in
theorem eX10_paste : ∀ q ∈ kX10_paste, decode cX10_paste q.1 = .ok q.2 := by decide +kernel
set_option maxRecDepth 1000000 in
theorem oX10_paste : ck_ knX10 kX10_paste = true := by decide +kernel
def kX10_isDay : Ci_t := [(0, .iload_n 0, 1), (1, .ifCond .lt 14, 3), (4, .iload_n 0, 1), (5, .sipush 2000, 3), (8, .if_icmp .ge 7, 3), (11, .iconst 1, 1), (12, .goto 4, 3), (15, .iconst 0, 1), (16, .ireturn, 1)]
set_option maxRecDepth 1000000 in
theorem eX10_isDay : ∀ q ∈ kX10_isDay, decode cX10_isDay q.1 = .ok q.2 := by decide +kernel
set_option maxRecDepth 1000000 in
theorem oX10_isDay : ck_ knX10 kX10_isDay = true := by decide +kernel
def kX10_isYear : Ci_t := [(0, .iload_n 0, 1), (1, .ifCond .lt 14, 3), (4, .iload_n 0, 1), (5, .sipush 2000, 3), (8, .if_icmp .ge 7, 3), (11, .iconst 1, 1), (12, .goto 4, 3), (15, .iconst 0, 1), (16, .ireturn, 1)]
set_option maxRecDepth 1000000 in
theorem eX10_isYear : ∀ q ∈ kX10_isYear, decode cX10_isYear q.1 = .ok q.2 := by decide +kernel
set_option maxRecDepth 1000000 in
theorem oX10_isYear : ck_ knX10 kX10_isYear = true := by decide +kernel
def kX10_isSpan : Ci_t := [(0, .iload_n 0, 1), (1, .invokestatic 301, 3), (4, .ifCond .eq 19, 3), (7, .iload_n 1, 1), (8, .invokestatic 301, 3), (11, .ifCond .eq 12, 3), (14, .iload_n 0, 1), (15, .iload_n 1, 1), (16, .if_icmp .gt 7, 3), (19, .iconst 1, 1), (20, .goto 4, 3), (23, .iconst 0, 1), (24, .ireturn, 1)]
set_option maxRecDepth 1000000 in
theorem eX10_isSpan : ∀ q ∈ kX10_isSpan, decode cX10_isSpan q.1 = .ok q.2 := by decide +kernel
set_option maxRecDepth 1000000 in
theorem oX10_isSpan : ck_ knX10 kX10_isSpan = true := by decide +kernel
def kX10_isSlot : Ci_t := [(0, .iload_n 0, 1), (1, .ifCond .lt 12, 3), (4, .iload_n 0, 1), (5, .iconst 4, 1), (6, .if_icmp .ge 7, 3), (9, .iconst 1, 1), (10, .goto 4, 3), (13, .iconst 0, 1), (14, .ireturn, 1)]
set_option maxRecDepth 1000000 in
theorem eX10_isSlot : ∀ q ∈ kX10_isSlot, decode cX10_isSlot q.1 = .ok q.2 := by decide +kernel
set_option maxRecDepth 1000000 in
theorem oX10_isSlot : ck_ knX10 kX10_isSlot = true := by decide +kernel
def kX10_isRain : Ci_t := [(0, .iload_n 0, 1), (1, .ifCond .lt 32, 3), (4, .iload_n 0, 1), (5, .ldc_w 429, 3), (8, .if_icmp .gt 25, 3), (11, .iload_n 1, 1), (12, .invokestatic 301, 3), (15, .ifCond .eq 18, 3), (18, .iload_n 2, 1), (19, .iconst 1, 1), (20, .if_icmp .lt 13, 3), (23, .iload_n 2, 1), (24, .bipush 100, 2), (26, .if_icmp .gt 7, 3), (29, .iconst 1, 1), (30, .goto 4, 3), (33, .iconst 0, 1), (34, .ireturn, 1)]
set_option maxRecDepth 1000000 in
theorem eX10_isRain : ∀ q ∈ kX10_isRain, decode cX10_isRain q.1 = .ok q.2 := by decide +kernel
set_option maxRecDepth 1000000 in
theorem oX10_isRain : ck_ knX10 kX10_isRain = true := by decide +kernel
def kX10_isDayOfWar : Ci_t := [(0, .aload_n 0, 1), (1, .getfield 26, 3), (4, .getfield 110, 3), (7, .ifCond .le 14, 3), (10, .iload_n 1, 1), (11, .invokestatic 301, 3), (14, .ifCond .eq 7, 3), (17, .iconst 1, 1), (18, .goto 4, 3), (21, .iconst 0, 1), (22, .ireturn, 1)]
set_option maxRecDepth 1000000 in
theorem eX10_isDayOfWar : ∀ q ∈ kX10_isDayOfWar, decode cX10_isDayOfWar q.1 = .ok q.2 := by decide +kernel
set_option maxRecDepth 1000000 in
theorem oX10_isDayOfWar : ck_ knX10 kX10_isDayOfWar = true := by decide +kernel
def kX10_isLandAndDay : Ci_t := [(0, .aload_n 0, 1), (1, .getfield 26, 3), (4, .iload_n 1, 1), (5, .invokevirtual 113, 3), (8, .ifCond .eq 14, 3), (11, .iload_n 2, 1), (12, .invokestatic 301, 3), (15, .ifCond .eq 7, 3), (18, .iconst 1, 1), (19, .goto 4, 3), (22, .iconst 0, 1), (23, .ireturn, 1)]
set_option maxRecDepth 1000000 in
theorem eX10_isLandAndDay : ∀ q ∈ kX10_isLandAndDay, decode cX10_isLandAndDay q.1 = .ok q.2 := by decide +kernel
set_option maxRecDepth 1000000 in
theorem oX10_isLandAndDay : ck_ knX10 kX10_isLandAndDay = true := by decide +kernel
def kX10_isPair : Ci_t := [(0, .aload_n 0, 1), (1, .getfield 26, 3), (4, .iload_n 1, 1), (5, .invokevirtual 113, 3), (8, .ifCond .eq 23, 3), (11, .aload_n 0, 1), (12, .getfield 26, 3), (15, .iload_n 2, 1), (16, .invokevirtual 113, 3), (19, .ifCond .eq 12, 3), (22, .iload_n 1, 1), (23, .iload_n 2, 1), (24, .if_icmp .eq 7, 3), (27, .iconst 1, 1), (28, .goto 4, 3), (31, .iconst 0, 1), (32, .ireturn, 1)]
set_option maxRecDepth 1000000 in
theorem eX10_isPair : ∀ q ∈ kX10_isPair, decode cX10_isPair q.1 = .ok q.2 := by decide +kernel
set_option maxRecDepth 1000000 in
theorem oX10_isPair : ck_ knX10 kX10_isPair = true := by decide +kernel
def kX10_isPairAndDay : Ci_t := [(0, .aload_n 0, 1), (1, .iload_n 1, 1), (2, .iload_n 2, 1), (3, .invokevirtual 310, 3), (6, .ifCond .eq 14, 3), (9, .iload_n 3, 1), (10, .invokestatic 301, 3), (13, .ifCond .eq 7, 3), (16, .iconst 1, 1), (17, .goto 4, 3), (20, .iconst 0, 1), (21, .ireturn, 1)]
set_option maxRecDepth 1000000 in
theorem eX10_isPairAndDay : ∀ q ∈ kX10_isPairAndDay, decode cX10_isPairAndDay q.1 = .ok q.2 := by decide +kernel
set_option maxRecDepth 1000000 in
theorem oX10_isPairAndDay : ck_ knX10 kX10_isPairAndDay = true := by decide +kernel
def kX10_isSetInSpan : Ci_t := [(0, .aload_n 0, 1), (1, .getfield 26, 3), (4, .getfield 110, 3), (7, .ifCond .le 32, 3), (10, .iload_n 1, 1), (11, .ifCond .lt 28, 3), (14, .iload_n 1, 1), (15, .iconst 1, 1), (16, .aload_n 0, 1), (17, .getfield 26, 3), (20, .getfield 229, 3), (23, .ishl, 1), (24, .if_icmp .ge 15, 3), (27, .iload_n 2, 1), (28, .iload_n 3, 1), (29, .invokestatic 249, 3), (32, .ifCond .eq 7, 3), (35, .iconst 1, 1), (36, .goto 4, 3), (39, .iconst 0, 1), (40, .ireturn, 1)]
set_option maxRecDepth 1000000 in
theorem eX10_isSetInSpan : ∀ q ∈ kX10_isSetInSpan, decode cX10_isSetInSpan q.1 = .ok q.2 := by decide +kernel
set_option maxRecDepth 1000000 in
theorem oX10_isSetInSpan : ck_ knX10 kX10_isSetInSpan = true := by decide +kernel
def kX10_isSaintly : Ci_t := [(0, .aload_n 0, 1), (1, .getfield 26, 3), (4, .iload_n 1, 1), (5, .iload_n 2, 1), (6, .invokevirtual 144, 3), (9, .ifCond .eq 40, 3), (12, .iload_n 3, 1), (13, .invokestatic 148, 3), (16, .ifCond .eq 33, 3), (19, .iload 4, 2), (21, .iconst 1, 1), (22, .if_icmp .lt 27, 3), (25, .iload 4, 2), (27, .bipush 20, 2), (29, .if_icmp .gt 20, 3), (32, .iload 5, 2), (34, .iconst 1, 1), (35, .if_icmp .lt 14, 3), (38, .iload 5, 2), (40, .bipush 9, 2), (42, .if_icmp .gt 7, 3), (45, .iconst 1, 1), (46, .goto 4, 3), (49, .iconst 0, 1), (50, .ireturn, 1)]
set_option maxRecDepth 1000000 in
theorem eX10_isSaintly : ∀ q ∈ kX10_isSaintly, decode cX10_isSaintly q.1 = .ok q.2 := by decide +kernel
set_option maxRecDepth 1000000 in
theorem oX10_isSaintly : ck_ knX10 kX10_isSaintly = true := by decide +kernel
def kX10_commonDivisor : Ci_t := [(0, .iload_n 0, 1), (1, .istore_n 2, 1), (2, .iload_n 1, 1), (3, .istore_n 3, 1), (4, .iconst 0, 1), (5, .istore 4, 2), (7, .iload 4, 2), (9, .bipush 100, 2), (11, .if_icmp .ge 23, 3), (14, .iload_n 3, 1), (15, .ifCond .eq 19, 3), (18, .iload_n 2, 1), (19, .iload_n 3, 1), (20, .irem, 1), (21, .istore 5, 2), (23, .iload_n 3, 1), (24, .istore_n 2, 1), (25, .iload 5, 2), (27, .istore_n 3, 1), (28, .iinc 4 1, 3), (31, .goto (-24), 3), (34, .iload_n 2, 1), (35, .ifCond .ne 7, 3), (38, .iconst 1, 1), (39, .goto 4, 3), (42, .iload_n 2, 1), (43, .ireturn, 1)]
set_option maxRecDepth 1000000 in
theorem eX10_commonDivisor : ∀ q ∈ kX10_commonDivisor, decode cX10_commonDivisor q.1 = .ok q.2 := by decide +kernel
set_option maxRecDepth 1000000 in
theorem oX10_commonDivisor : ck_ knX10 kX10_commonDivisor = true := by decide +kernel
def kX10_nextDraw : Ci_t := [(0, .ldc2_w 430, 3), (3, .lload_n 0, 1), (4, .lmul, 1), (5, .ldc2_w 432, 3), (8, .ladd, 1), (9, .ldc2_w 434, 3), (12, .lrem, 1), (13, .lreturn, 1)]
set_option maxRecDepth 1000000 in
theorem eX10_nextDraw : ∀ q ∈ kX10_nextDraw, decode cX10_nextDraw q.1 = .ok q.2 := by decide +kernel
set_option maxRecDepth 1000000 in
theorem oX10_nextDraw : ck_ knX10 kX10_nextDraw = true := by decide +kernel
def kX10_isWet : Ci_t := [(0, .lload_n 0, 1), (1, .ldc2_w 436, 3), (4, .ldiv, 1), (5, .ldc2_w 438, 3), (8, .lrem, 1), (9, .iload_n 2, 1), (10, .i2l, 1), (11, .lcmp, 1), (12, .ifCond .ge 7, 3), (15, .iconst 1, 1), (16, .goto 4, 3), (19, .iconst 0, 1), (20, .ireturn, 1)]
set_option maxRecDepth 1000000 in
theorem eX10_isWet : ∀ q ∈ kX10_isWet, decode cX10_isWet q.1 = .ok q.2 := by decide +kernel
set_option maxRecDepth 1000000 in
theorem oX10_isWet : ck_ knX10 kX10_isWet = true := by decide +kernel
def kX10_fightsInRain : Ci_t := [(0, .sipush 2000, 3), (3, .iload 5, 2), (5, .iload 6, 2), (7, .iadd, 1), (8, .invokestatic 326, 3), (11, .istore 7, 2), (13, .lload_n 2, 1), (14, .lstore 8, 2), (16, .iload 5, 2), (18, .istore 10, 2), (20, .iload 10, 2), (22, .iload 7, 2), (24, .if_icmp .ge 46, 3), (27, .lload 8, 2), (29, .invokestatic 376, 3), (32, .lstore 8, 2), (34, .lload 8, 2), (36, .aload_n 0, 1), (37, .getfield 26, 3), (40, .getfield 380, 3), (43, .invokestatic 383, 3), (46, .ifCond .ne 18, 3), (49, .aload_n 1, 1), (50, .iload 4, 2), (52, .iload 10, 2), (54, .iconst 4, 1), (55, .invokevirtual 175, 3), (58, .iconst 1, 1), (59, .if_icmp .ne 5, 3), (62, .iconst 1, 1), (63, .ireturn, 1), (64, .iinc 10 1, 3), (67, .goto (-47), 3), (70, .iconst 0, 1), (71, .ireturn, 1)]
set_option maxRecDepth 1000000 in
theorem eX10_fightsInRain : ∀ q ∈ kX10_fightsInRain, decode cX10_fightsInRain q.1 = .ok q.2 := by decide +kernel
set_option maxRecDepth 1000000 in
theorem oX10_fightsInRain : ck_ knX10 kX10_fightsInRain = true := by decide +kernel
def kX10_told : Ci_t := [(0, .aload_n 0, 1), (1, .getfield 50, 3), (4, .aload_n 0, 1), (5, .getfield 26, 3), (8, .invokevirtual 440, 3), (11, .aload_n 0, 1), (12, .getfield 50, 3), (15, .areturn, 1)]
set_option maxRecDepth 1000000 in
theorem eX10_told : ∀ q ∈ kX10_told, decode cX10_told q.1 = .ok q.2 := by decide +kernel
set_option maxRecDepth 1000000 in
theorem oX10_told : ck_ knX10 kX10_told = true := by decide +kernel
def kX10_slotsWithRow : Ci_t := [(0, .iconst 0, 1), (1, .istore_n 1, 1), (2, .iconst 0, 1), (3, .istore_n 2, 1), (4, .iload_n 2, 1), (5, .iconst 4, 1), (6, .if_icmp .ge 24, 3), (9, .aload_n 0, 1), (10, .getfield 43, 3), (13, .iload_n 2, 1), (14, .aaload, 1), (15, .getfield 405, 3), (18, .ifCond .eq 6, 3), (21, .iinc 1 1, 3), (24, .iinc 2 1, 3), (27, .goto (-23), 3), (30, .iload_n 1, 1), (31, .ireturn, 1)]
set_option maxRecDepth 1000000 in
theorem eX10_slotsWithRow : ∀ q ∈ kX10_slotsWithRow, decode cX10_slotsWithRow q.1 = .ok q.2 := by decide +kernel
set_option maxRecDepth 1000000 in
theorem oX10_slotsWithRow : ck_ knX10 kX10_slotsWithRow = true := by decide +kernel
def kX10_readOrders : Ci_t := [(0, .iload_n 1, 1), (1, .invokestatic 398, 3), (4, .ifCond .eq 13, 3), (7, .aload_n 0, 1), (8, .getfield 26, 3), (11, .getfield 110, 3), (14, .ifCond .ne 6, 3), (17, .bipush (-2), 2), (19, .ireturn, 1), (20, .aload_n 0, 1), (21, .getfield 43, 3), (24, .iload_n 1, 1), (25, .aaload, 1), (26, .getfield 405, 3), (29, .ifCond .ne 6, 3), (32, .bipush (-6), 2), (34, .ireturn, 1), (35, .aload_n 0, 1), (36, .getfield 64, 3), (39, .aload_n 0, 1), (40, .getfield 43, 3), (43, .iload_n 1, 1), (44, .aaload, 1), (45, .aload_n 0, 1), (46, .getfield 26, 3), (49, .invokevirtual 443, 3), (52, .ifCond .eq 7, 3), (55, .iconst 0, 1), (56, .goto 5, 3), (59, .bipush (-2), 2), (61, .ireturn, 1)]
set_option maxRecDepth 1000000 in
theorem eX10_readOrders : ∀ q ∈ kX10_readOrders, decode cX10_readOrders q.1 = .ok q.2 := by decide +kernel
set_option maxRecDepth 1000000 in
theorem oX10_readOrders : ck_ knX10 kX10_readOrders = true := by decide +kernel
def kX10_readSights : Ci_t := [(0, .iload_n 1, 1), (1, .invokestatic 398, 3), (4, .ifCond .eq 21, 3), (7, .iload_n 2, 1), (8, .iload_n 3, 1), (9, .invokestatic 249, 3), (12, .ifCond .eq 13, 3), (15, .aload_n 0, 1), (16, .getfield 26, 3), (19, .getfield 110, 3), (22, .ifCond .ne 6, 3), (25, .bipush (-2), 2), (27, .ireturn, 1), (28, .aload_n 0, 1), (29, .getfield 43, 3), (32, .iload_n 1, 1), (33, .aaload, 1), (34, .astore 4, 2), (36, .aload 4, 2), (38, .getfield 405, 3), (41, .ifCond .ne 6, 3), (44, .bipush (-6), 2), (46, .ireturn, 1), (47, .aload_n 0, 1), (48, .getfield 71, 3), (51, .aload 4, 2), (53, .aload_n 0, 1), (54, .getfield 26, 3), (57, .getfield 229, 3), (60, .invokevirtual 446, 3), (63, .ifCond .ne 6, 3), (66, .bipush (-2), 2), (68, .ireturn, 1), (69, .aload_n 0, 1), (70, .getfield 50, 3), (73, .aload_n 0, 1), (74, .getfield 26, 3), (77, .invokevirtual 440, 3), (80, .aload_n 0, 1), (81, .getfield 71, 3), (84, .aload 4, 2), (86, .aload_n 0, 1), (87, .getfield 50, 3), (90, .iload_n 2, 1), (91, .iload_n 3, 1), (92, .invokevirtual 450, 3), (95, .iconst 0, 1), (96, .ireturn, 1)]
set_option maxRecDepth 1000000 in
theorem eX10_readSights : ∀ q ∈ kX10_readSights, decode cX10_readSights q.1 = .ok q.2 := by decide +kernel
set_option maxRecDepth 1000000 in
theorem oX10_readSights : ck_ knX10 kX10_readSights = true := by decide +kernel
