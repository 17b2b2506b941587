def kJ0_length_8abf5 : Ci_t := [(0, .aload_n 0, 1), (1, .getfield 9, 3), (4, .arraylength, 1), (5, .aload_n 0, 1), (6, .invokevirtual 335, 3), (9, .ishr, 1), (10, .ireturn, 1)]
set_option maxRecDepth 100000 in
theorem eJ0_length_8abf5 : ∀ q ∈ kJ0_length_8abf5, decode cJ0_length_8abf5 q.1 = .ok q.2 := by decide +kernel
def kJ0_charAt_5068e : Ci_t := [(0, .aload_n 0, 1), (1, .invokevirtual 492, 3), (4, .ifCond .eq 12, 3), (7, .aload_n 0, 1), (8, .getfield 9, 3), (11, .iload_n 1, 1), (12, .invokestatic 495, 3), (15, .ireturn, 1), (16, .aload_n 0, 1), (17, .getfield 9, 3), (20, .iload_n 1, 1), (21, .invokestatic 498, 3), (24, .ireturn, 1)]
set_option maxRecDepth 100000 in
theorem eJ0_charAt_5068e : ∀ q ∈ kJ0_charAt_5068e, decode cJ0_charAt_5068e q.1 = .ok q.2 := by decide +kernel
def kJ0_coder_7d493 : Ci_t := [(0, .getstatic 38, 3), (3, .ifCond .eq 10, 3), (6, .aload_n 0, 1), (7, .getfield 15, 3), (10, .goto 4, 3), (13, .iconst 1, 1), (14, .ireturn, 1)]
set_option maxRecDepth 100000 in
theorem eJ0_coder_7d493 : ∀ q ∈ kJ0_coder_7d493, decode cJ0_coder_7d493 q.1 = .ok q.2 := by decide +kernel
def kJ0_isLatin1_aae02 : Ci_t := [(0, .getstatic 38, 3), (3, .ifCond .eq 14, 3), (6, .aload_n 0, 1), (7, .getfield 15, 3), (10, .ifCond .ne 7, 3), (13, .iconst 1, 1), (14, .goto 4, 3), (17, .iconst 0, 1), (18, .ireturn, 1)]
set_option maxRecDepth 100000 in
theorem eJ0_isLatin1_aae02 : ∀ q ∈ kJ0_isLatin1_aae02, decode cJ0_isLatin1_aae02 q.1 = .ok q.2 := by decide +kernel
def kJ0_checkIndex_df160 : Ci_t := [(0, .iload_n 0, 1), (1, .iload_n 1, 1), (2, .getstatic 1053, 3), (5, .invokestatic 1059, 3), (8, .pop, 1), (9, .return_, 1)]
set_option maxRecDepth 100000 in
theorem eJ0_checkIndex_df160 : ∀ q ∈ kJ0_checkIndex_df160, decode cJ0_checkIndex_df160 q.1 = .ok q.2 := by decide +kernel
def kJ1_charAt_3b067 : Ci_t := [(0, .iload_n 1, 1), (1, .aload_n 0, 1), (2, .arraylength, 1), (3, .invokestatic 9, 3), (6, .aload_n 0, 1), (7, .iload_n 1, 1), (8, .baload, 1), (9, .sipush 255, 3), (12, .iand, 1), (13, .i2c, 1), (14, .ireturn, 1)]
set_option maxRecDepth 100000 in
theorem eJ1_charAt_3b067 : ∀ q ∈ kJ1_charAt_3b067, decode cJ1_charAt_3b067 q.1 = .ok q.2 := by decide +kernel
def kJ3_checkIndex_8e157 : Ci_t := [(0, .iload_n 0, 1), (1, .ifCond .lt 8, 3), (4, .iload_n 0, 1), (5, .iload_n 1, 1), (6, .if_icmp .lt 10, 3), (9, .aload_n 2, 1), (10, .iload_n 0, 1), (11, .iload_n 1, 1), (12, .invokestatic 95, 3), (15, .athrow, 1), (16, .iload_n 0, 1), (17, .ireturn, 1)]
set_option maxRecDepth 100000 in
theorem eJ3_checkIndex_8e157 : ∀ q ∈ kJ3_checkIndex_8e157, decode cJ3_checkIndex_8e157 q.1 = .ok q.2 := by decide +kernel
set_option maxRecDepth 100000 in
theorem wfs_38 : Cond.fieldLink RJ0 38 "java/lang/String" "COMPACT_STRINGS" "Z" ∈ gl_ := wg_ 516 (by decide +kernel) rfl
set_option maxRecDepth 100000 in
theorem wfs_1053 : Cond.fieldLink RJ0 1053 "jdk/internal/util/Preconditions" "SIOOBE_FORMATTER" "Ljava/util/function/BiFunction;" ∈ gl_ := wg_ 532 (by decide +kernel) rfl
set_option maxRecDepth 100000 in
theorem wfs_9 : Cond.fieldLink RJ0 9 "java/lang/String" "value" "[B" ∈ gl_ := wg_ 1941 (by decide +kernel) rfl
set_option maxRecDepth 100000 in
theorem wfs_15 : Cond.fieldLink RJ0 15 "java/lang/String" "coder" "B" ∈ gl_ := wg_ 1942 (by decide +kernel) rfl
