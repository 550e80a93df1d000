/-! THE JDK'S TEXTS: decoded code, links -/
def tJ5_init_d00df_0 : List (Nat × Instr × Nat) := [(0, .aload_n 0, 1), (1, .invokespecial 3, 3), (4, .getstatic 18, 3), (7, .ifCond .eq 18, 3), (10, .aload_n 0, 1), (11, .iload_n 1, 1), (12, .newarray .byte, 2), (14, .putfield 15, 3), (17, .aload_n 0, 1), (18, .iconst 0, 1), (19, .putfield 22, 3), (22, .goto 16, 3), (25, .aload_n 0, 1), (26, .iload_n 1, 1), (27, .invokestatic 26, 3), (30, .putfield 15, 3), (33, .aload_n 0, 1), (34, .iconst 1, 1), (35, .putfield 22, 3), (38, .return_, 1)]
theorem ktJ5_init_d00df_0 : dk cJ5_init_d00df tJ5_init_d00df_0 = true := by decide +kernel
def tJ5_length_8abf5_0 : List (Nat × Instr × Nat) := [(0, .aload_n 0, 1), (1, .getfield 79, 3), (4, .ireturn, 1)]
theorem ktJ5_length_8abf5_0 : dk cJ5_length_8abf5 tJ5_length_8abf5_0 = true := by decide +kernel
def tJ5_ensureCapacityInternal_d00df_0 : List (Nat × Instr × Nat) := [(0, .aload_n 0, 1), (1, .getfield 15, 3), (4, .arraylength, 1), (5, .aload_n 0, 1), (6, .getfield 22, 3), (9, .ishr, 1), (10, .istore_n 2, 1), (11, .iload_n 1, 1), (12, .iload_n 2, 1), (13, .isub, 1), (14, .ifCond .le 24, 3), (17, .aload_n 0, 1), (18, .aload_n 0, 1), (19, .getfield 15, 3), (22, .aload_n 0, 1), (23, .iload_n 1, 1), (24, .invokevirtual 104, 3), (27, .aload_n 0, 1), (28, .getfield 22, 3), (31, .ishl, 1), (32, .invokestatic 108, 3), (35, .putfield 15, 3), (38, .return_, 1)]
theorem ktJ5_ensureCapacityInternal_d00df_0 : dk cJ5_ensureCapacityInternal_d00df tJ5_ensureCapacityInternal_d00df_0 = true := by decide +kernel
def tJ5_newCapacity_0f7a4_0 : List (Nat × Instr × Nat) := [(0, .aload_n 0, 1), (1, .getfield 15, 3), (4, .arraylength, 1), (5, .istore_n 2, 1), (6, .iload_n 1, 1), (7, .aload_n 0, 1), (8, .getfield 22, 3), (11, .ishl, 1), (12, .istore_n 3, 1), (13, .iload_n 3, 1), (14, .iload_n 2, 1), (15, .isub, 1), (16, .istore 4, 2), (18, .iload_n 2, 1), (19, .iload 4, 2), (21, .iload_n 2, 1), (22, .iconst 2, 1), (23, .aload_n 0, 1), (24, .getfield 22, 3), (27, .ishl, 1), (28, .iadd, 1), (29, .invokestatic 114, 3), (32, .istore 5, 2), (34, .iload 5, 2), (36, .ldc 39, 2), (38, .if_icmp .ne 13, 3), (41, .new 120, 3), (44, .dup, 1), (45, .ldc 122, 2), (47, .invokespecial 124, 3), (50, .athrow, 1), (51, .iload 5, 2), (53, .aload_n 0, 1), (54, .getfield 22, 3), (57, .ishr, 1), (58, .ireturn, 1)]
theorem ktJ5_newCapacity_0f7a4_0 : dk cJ5_newCapacity_0f7a4 tJ5_newCapacity_0f7a4_0 = true := by decide +kernel
def tJ5_append_cf1ce_0 : List (Nat × Instr × Nat) := [(0, .aload_n 1, 1), (1, .ifnonnull 8, 3), (4, .aload_n 0, 1), (5, .invokevirtual 204, 3), (8, .areturn, 1), (9, .aload_n 1, 1), (10, .invokevirtual 32, 3), (13, .istore_n 2, 1), (14, .aload_n 0, 1), (15, .aload_n 0, 1), (16, .getfield 79, 3), (19, .iload_n 2, 1), (20, .iadd, 1), (21, .invokevirtual 100, 3), (24, .aload_n 0, 1), (25, .aload_n 0, 1), (26, .getfield 79, 3), (29, .aload_n 1, 1), (30, .invokevirtual 208, 3), (33, .aload_n 0, 1), (34, .dup, 1), (35, .getfield 79, 3), (38, .iload_n 2, 1), (39, .iadd, 1), (40, .putfield 79, 3), (43, .aload_n 0, 1), (44, .areturn, 1)]
theorem ktJ5_append_cf1ce_0 : dk cJ5_append_cf1ce tJ5_append_cf1ce_0 = true := by decide +kernel
def tJ5_appendNull_278bc_0 : List (Nat × Instr × Nat) := [(0, .aload_n 0, 1), (1, .aload_n 0, 1), (2, .getfield 79, 3), (5, .iconst 4, 1), (6, .iadd, 1), (7, .invokevirtual 100, 3), (10, .aload_n 0, 1), (11, .getfield 79, 3), (14, .istore_n 1, 1), (15, .aload_n 0, 1), (16, .getfield 15, 3), (19, .astore_n 2, 1), (20, .aload_n 0, 1), (21, .invokevirtual 83, 3), (24, .ifCond .eq 38, 3), (27, .aload_n 2, 1), (28, .iload_n 1, 1), (29, .iinc 1 1, 3), (32, .bipush 110, 2), (34, .bastore, 1), (35, .aload_n 2, 1), (36, .iload_n 1, 1), (37, .iinc 1 1, 3), (40, .bipush 117, 2), (42, .bastore, 1), (43, .aload_n 2, 1), (44, .iload_n 1, 1), (45, .iinc 1 1, 3), (48, .bipush 108, 2), (50, .bastore, 1), (51, .aload_n 2, 1), (52, .iload_n 1, 1), (53, .iinc 1 1, 3), (56, .bipush 108, 2), (58, .bastore, 1), (59, .goto 17, 3), (62, .aload_n 2, 1), (63, .iload_n 1, 1), (64, .bipush 110, 2), (66, .bipush 117, 2), (68, .bipush 108, 2), (70, .bipush 108, 2), (72, .invokestatic 226, 3), (75, .istore_n 1, 1), (76, .aload_n 0, 1), (77, .iload_n 1, 1), (78, .putfield 79, 3), (81, .aload_n 0, 1), (82, .areturn, 1)]
theorem ktJ5_appendNull_278bc_0 : dk cJ5_appendNull_278bc tJ5_appendNull_278bc_0 = true := by decide +kernel
def tJ5_append_c97b9_0 : List (Nat × Instr × Nat) := [(0, .aload_n 0, 1), (1, .getfield 79, 3), (4, .istore_n 2, 1), (5, .iload_n 2, 1), (6, .iload_n 1, 1), (7, .invokestatic 245, 3), (10, .iadd, 1), (11, .istore_n 3, 1), (12, .aload_n 0, 1), (13, .iload_n 3, 1), (14, .invokevirtual 100, 3), (17, .aload_n 0, 1), (18, .invokevirtual 83, 3), (21, .ifCond .eq 16, 3), (24, .iload_n 1, 1), (25, .iload_n 3, 1), (26, .aload_n 0, 1), (27, .getfield 15, 3), (30, .invokestatic 248, 3), (33, .pop, 1), (34, .goto 14, 3), (37, .iload_n 1, 1), (38, .iload_n 2, 1), (39, .iload_n 3, 1), (40, .aload_n 0, 1), (41, .getfield 15, 3), (44, .invokestatic 251, 3), (47, .pop, 1), (48, .aload_n 0, 1), (49, .iload_n 3, 1), (50, .putfield 79, 3), (53, .aload_n 0, 1), (54, .areturn, 1)]
theorem ktJ5_append_c97b9_0 : dk cJ5_append_c97b9 tJ5_append_c97b9_0 = true := by decide +kernel
def tJ5_getValue_6d5f1_0 : List (Nat × Instr × Nat) := [(0, .aload_n 0, 1), (1, .getfield 15, 3), (4, .areturn, 1)]
theorem ktJ5_getValue_6d5f1_0 : dk cJ5_getValue_6d5f1 tJ5_getValue_6d5f1_0 = true := by decide +kernel
def tJ5_isLatin1_aae02_0 : List (Nat × Instr × Nat) := [(0, .getstatic 18, 3), (3, .ifCond .eq 14, 3), (6, .aload_n 0, 1), (7, .getfield 22, 3), (10, .ifCond .ne 7, 3), (13, .iconst 1, 1), (14, .goto 4, 3), (17, .iconst 0, 1), (18, .ireturn, 1)]
theorem ktJ5_isLatin1_aae02_0 : dk cJ5_isLatin1_aae02 tJ5_isLatin1_aae02_0 = true := by decide +kernel
def tJ5_inflateIfNeededFor_a7421_0 : List (Nat × Instr × Nat) := [(0, .getstatic 18, 3), (3, .ifCond .eq 18, 3), (6, .aload_n 0, 1), (7, .getfield 22, 3), (10, .aload_n 1, 1), (11, .invokevirtual 40, 3), (14, .if_icmp .eq 7, 3), (17, .aload_n 0, 1), (18, .invokevirtual 195, 3), (21, .return_, 1)]
theorem ktJ5_inflateIfNeededFor_a7421_0 : dk cJ5_inflateIfNeededFor_a7421 tJ5_inflateIfNeededFor_a7421_0 = true := by decide +kernel
def tJ5_putStringAt_47b60_0 : List (Nat × Instr × Nat) := [(0, .aload_n 0, 1), (1, .aload_n 2, 1), (2, .invokevirtual 397, 3), (5, .aload_n 2, 1), (6, .aload_n 0, 1), (7, .getfield 15, 3), (10, .iload_n 1, 1), (11, .aload_n 0, 1), (12, .getfield 22, 3), (15, .invokevirtual 399, 3), (18, .return_, 1)]
theorem ktJ5_putStringAt_47b60_0 : dk cJ5_putStringAt_47b60 tJ5_putStringAt_47b60_0 = true := by decide +kernel
def tJ6_getChars_ba4f3_0 : List (Nat × Instr × Nat) := [(0, .iload_n 1, 1), (1, .istore 5, 2), (3, .iload_n 0, 1), (4, .ifCond .ge 7, 3), (7, .iconst 1, 1), (8, .goto 4, 3), (11, .iconst 0, 1), (12, .istore 6, 2), (14, .iload 6, 2), (16, .ifCond .ne 6, 3), (19, .iload_n 0, 1), (20, .ineg, 1), (21, .istore_n 0, 1), (22, .iload_n 0, 1), (23, .bipush (-100), 2), (25, .if_icmp .gt 47, 3), (28, .iload_n 0, 1), (29, .bipush 100, 2), (31, .idiv, 1), (32, .istore_n 3, 1), (33, .iload_n 3, 1), (34, .bipush 100, 2), (36, .imul, 1), (37, .iload_n 0, 1), (38, .isub, 1), (39, .istore 4, 2), (41, .iload_n 3, 1), (42, .istore_n 0, 1), (43, .aload_n 2, 1), (44, .iinc 5 (-1), 3), (47, .iload 5, 2), (49, .getstatic 83, 3), (52, .iload 4, 2), (54, .baload, 1), (55, .bastore, 1), (56, .aload_n 2, 1), (57, .iinc 5 (-1), 3), (60, .iload 5, 2), (62, .getstatic 87, 3), (65, .iload 4, 2), (67, .baload, 1), (68, .bastore, 1), (69, .goto (-47), 3), (72, .aload_n 2, 1), (73, .iinc 5 (-1), 3), (76, .iload 5, 2), (78, .getstatic 83, 3), (81, .iload_n 0, 1), (82, .ineg, 1), (83, .baload, 1), (84, .bastore, 1), (85, .iload_n 0, 1), (86, .bipush (-9), 2), (88, .if_icmp .ge 16, 3), (91, .aload_n 2, 1), (92, .iinc 5 (-1), 3), (95, .iload 5, 2), (97, .getstatic 87, 3), (100, .iload_n 0, 1), (101, .ineg, 1)]
theorem ktJ6_getChars_ba4f3_0 : dk cJ6_getChars_ba4f3 tJ6_getChars_ba4f3_0 = true := by decide +kernel
def tJ6_getChars_ba4f3_1 : List (Nat × Instr × Nat) := [(102, .baload, 1), (103, .bastore, 1), (104, .iload 6, 2), (106, .ifCond .eq 12, 3), (109, .aload_n 2, 1), (110, .iinc 5 (-1), 3), (113, .iload 5, 2), (115, .bipush 45, 2), (117, .bastore, 1), (118, .iload 5, 2), (120, .ireturn, 1)]
theorem ktJ6_getChars_ba4f3_1 : dk cJ6_getChars_ba4f3 tJ6_getChars_ba4f3_1 = true := by decide +kernel
def tJ6_stringSize_0f7a4_0 : List (Nat × Instr × Nat) := [(0, .iconst 1, 1), (1, .istore_n 1, 1), (2, .iload_n 0, 1), (3, .ifCond .lt 8, 3), (6, .iconst 0, 1), (7, .istore_n 1, 1), (8, .iload_n 0, 1), (9, .ineg, 1), (10, .istore_n 0, 1), (11, .bipush (-10), 2), (13, .istore_n 2, 1), (14, .iconst 1, 1), (15, .istore_n 3, 1), (16, .iload_n 3, 1), (17, .bipush 10, 2), (19, .if_icmp .ge 23, 3), (22, .iload_n 0, 1), (23, .iload_n 2, 1), (24, .if_icmp .le 7, 3), (27, .iload_n 3, 1), (28, .iload_n 1, 1), (29, .iadd, 1), (30, .ireturn, 1), (31, .bipush 10, 2), (33, .iload_n 2, 1), (34, .imul, 1), (35, .istore_n 2, 1), (36, .iinc 3 1, 3), (39, .goto (-23), 3), (42, .bipush 10, 2), (44, .iload_n 1, 1), (45, .iadd, 1), (46, .ireturn, 1)]
theorem ktJ6_stringSize_0f7a4_0 : dk cJ6_stringSize_0f7a4 tJ6_stringSize_0f7a4_0 = true := by decide +kernel
def tJ0_init_81219_0 : List (Nat × Instr × Nat) := [(0, .aload_n 0, 1), (1, .aload_n 1, 1), (2, .aconst_null, 1), (3, .invokespecial 489, 3), (6, .return_, 1)]
theorem ktJ0_init_81219_0 : dk cJ0_init_81219 tJ0_init_81219_0 = true := by decide +kernel
def tJ0_getBytes_840e7_0 : List (Nat × Instr × Nat) := [(0, .aload_n 0, 1), (1, .invokevirtual 335, 3), (4, .iload_n 3, 1), (5, .if_icmp .ne 23, 3), (8, .aload_n 0, 1), (9, .getfield 9, 3), (12, .iconst 0, 1), (13, .aload_n 1, 1), (14, .iload_n 2, 1), (15, .iload_n 3, 1), (16, .ishl, 1), (17, .aload_n 0, 1), (18, .getfield 9, 3), (21, .arraylength, 1), (22, .invokestatic 212, 3), (25, .goto 18, 3), (28, .aload_n 0, 1), (29, .getfield 9, 3), (32, .iconst 0, 1), (33, .aload_n 1, 1), (34, .iload_n 2, 1), (35, .aload_n 0, 1), (36, .getfield 9, 3), (39, .arraylength, 1), (40, .invokestatic 106, 3), (43, .return_, 1)]
theorem ktJ0_getBytes_840e7_0 : dk cJ0_getBytes_840e7 tJ0_getBytes_840e7_0 = true := by decide +kernel
def tJ0_init_db425_0 : List (Nat × Instr × Nat) := [(0, .aload_n 0, 1), (1, .invokespecial 1, 3), (4, .aload_n 1, 1), (5, .invokevirtual 552, 3), (8, .astore_n 3, 1), (9, .aload_n 1, 1), (10, .invokevirtual 549, 3), (13, .istore 4, 2), (15, .aload_n 1, 1), (16, .invokevirtual 1047, 3), (19, .ifCond .eq 22, 3), (22, .aload_n 0, 1), (23, .iconst 0, 1), (24, .putfield 15, 3), (27, .aload_n 0, 1), (28, .aload_n 3, 1), (29, .iconst 0, 1), (30, .iload 4, 2), (32, .invokestatic 54, 3), (35, .putfield 9, 3), (38, .goto 59, 3), (41, .getstatic 38, 3), (44, .ifCond .eq 35, 3), (47, .aload_n 1, 1), (48, .getfield 1048, 3), (51, .ifCond .eq 28, 3), (54, .aload_n 0, 1), (55, .aload_n 3, 1), (56, .iconst 0, 1), (57, .iload 4, 2), (59, .invokestatic 1051, 3), (62, .putfield 9, 3), (65, .aload_n 0, 1), (66, .aload_n 0, 1), (67, .getfield 9, 3), (70, .iload 4, 2), (72, .invokestatic 47, 3), (75, .putfield 15, 3), (78, .return_, 1), (79, .aload_n 0, 1), (80, .iconst 1, 1), (81, .putfield 15, 3), (84, .aload_n 0, 1), (85, .aload_n 3, 1), (86, .iconst 0, 1), (87, .iload 4, 2), (89, .iconst 1, 1), (90, .ishl, 1), (91, .invokestatic 54, 3), (94, .putfield 9, 3), (97, .return_, 1)]
theorem ktJ0_init_db425_0 : dk cJ0_init_db425 tJ0_init_db425_0 = true := by decide +kernel
def tJ4_init_da8c8_0 : List (Nat × Instr × Nat) := [(0, .aload_n 0, 1), (1, .bipush 16, 2), (3, .invokespecial 1, 3), (6, .return_, 1)]
theorem ktJ4_init_da8c8_0 : dk cJ4_init_da8c8 tJ4_init_da8c8_0 = true := by decide +kernel
def tJ4_append_15ec4_0 : List (Nat × Instr × Nat) := [(0, .aload_n 0, 1), (1, .aload_n 1, 1), (2, .invokespecial 29, 3), (5, .pop, 1), (6, .aload_n 0, 1), (7, .areturn, 1)]
theorem ktJ4_append_15ec4_0 : dk cJ4_append_15ec4 tJ4_append_15ec4_0 = true := by decide +kernel
def tJ4_append_bf812_0 : List (Nat × Instr × Nat) := [(0, .aload_n 0, 1), (1, .iload_n 1, 1), (2, .invokespecial 53, 3), (5, .pop, 1), (6, .aload_n 0, 1), (7, .areturn, 1)]
theorem ktJ4_append_bf812_0 : dk cJ4_append_bf812 tJ4_append_bf812_0 = true := by decide +kernel
def tJ4_toString_0e30d_0 : List (Nat × Instr × Nat) := [(0, .new 18, 3), (3, .dup, 1), (4, .aload_n 0, 1), (5, .invokespecial 137, 3), (8, .areturn, 1)]
theorem ktJ4_toString_0e30d_0 : dk cJ4_toString_0e30d tJ4_toString_0e30d_0 = true := by decide +kernel
def tJ4_length_8abf5_0 : List (Nat × Instr × Nat) := [(0, .aload_n 0, 1), (1, .invokespecial 343, 3), (4, .ireturn, 1)]
theorem ktJ4_length_8abf5_0 : dk cJ4_length_8abf5 tJ4_length_8abf5_0 = true := by decide +kernel
def tJ7_copyOf_9075b_0 : List (Nat × Instr × Nat) := [(0, .iload_n 1, 1), (1, .aload_n 0, 1), (2, .arraylength, 1), (3, .if_icmp .ne 11, 3), (6, .aload_n 0, 1), (7, .invokevirtual 310, 3), (10, .checkcast 311, 3), (13, .areturn, 1), (14, .iload_n 1, 1), (15, .newarray .byte, 2), (17, .astore_n 2, 1), (18, .aload_n 0, 1), (19, .iconst 0, 1), (20, .aload_n 2, 1), (21, .iconst 0, 1), (22, .aload_n 0, 1), (23, .arraylength, 1), (24, .iload_n 1, 1), (25, .invokestatic 304, 3), (28, .invokestatic 150, 3), (31, .aload_n 2, 1), (32, .areturn, 1)]
theorem ktJ7_copyOf_9075b_0 : dk cJ7_copyOf_9075b tJ7_copyOf_9075b_0 = true := by decide +kernel
def tJ7_checkLength_df160_0 : List (Nat × Instr × Nat) := [(0, .iload_n 1, 1), (1, .iload_n 0, 1), (2, .if_icmp .ge 35, 3), (5, .new 43, 3), (8, .dup, 1), (9, .new 45, 3), (12, .dup, 1), (13, .invokespecial 47, 3), (16, .iload_n 0, 1), (17, .invokevirtual 54, 3), (20, .ldc_w 337, 3), (23, .invokevirtual 50, 3), (26, .iload_n 1, 1), (27, .invokevirtual 54, 3), (30, .invokevirtual 61, 3), (33, .invokespecial 65, 3), (36, .athrow, 1), (37, .return_, 1)]
theorem ktJ7_checkLength_df160_0 : dk cJ7_checkLength_df160 tJ7_checkLength_df160_0 = true := by decide +kernel
def tJ7_copyOfRange_39247_0 : List (Nat × Instr × Nat) := [(0, .iload_n 1, 1), (1, .ifCond .ne 9, 3), (4, .iload_n 2, 1), (5, .aload_n 0, 1), (6, .arraylength, 1), (7, .if_icmp .eq 10, 3), (10, .aload_n 0, 1), (11, .iload_n 1, 1), (12, .iload_n 2, 1), (13, .invokestatic 339, 3), (16, .areturn, 1), (17, .aload_n 0, 1), (18, .invokevirtual 310, 3), (21, .checkcast 311, 3), (24, .areturn, 1)]
theorem ktJ7_copyOfRange_39247_0 : dk cJ7_copyOfRange_39247 tJ7_copyOfRange_39247_0 = true := by decide +kernel
def tJ7_copyOfRangeByte_39247_0 : List (Nat × Instr × Nat) := [(0, .iload_n 1, 1), (1, .iload_n 2, 1), (2, .invokestatic 343, 3), (5, .iload_n 2, 1), (6, .iload_n 1, 1), (7, .isub, 1), (8, .istore_n 3, 1), (9, .iload_n 3, 1), (10, .newarray .byte, 2), (12, .astore 4, 2), (14, .aload_n 0, 1), (15, .iload_n 1, 1), (16, .aload 4, 2), (18, .iconst 0, 1), (19, .aload_n 0, 1), (20, .arraylength, 1), (21, .iload_n 1, 1), (22, .isub, 1), (23, .iload_n 3, 1), (24, .invokestatic 304, 3), (27, .invokestatic 150, 3), (30, .aload 4, 2), (32, .areturn, 1)]
theorem ktJ7_copyOfRangeByte_39247_0 : dk cJ7_copyOfRangeByte_39247 tJ7_copyOfRangeByte_39247_0 = true := by decide +kernel
def tJ8_newLength_cabcc_0 : List (Nat × Instr × Nat) := [(0, .iload_n 0, 1), (1, .iload_n 1, 1), (2, .iload_n 2, 1), (3, .invokestatic 194, 3), (6, .iadd, 1), (7, .istore_n 3, 1), (8, .iconst 0, 1), (9, .iload_n 3, 1), (10, .if_icmp .ge 11, 3), (13, .iload_n 3, 1), (14, .ldc 200, 2), (16, .if_icmp .gt 5, 3), (19, .iload_n 3, 1), (20, .ireturn, 1), (21, .iload_n 0, 1), (22, .iload_n 1, 1), (23, .invokestatic 201, 3), (26, .ireturn, 1)]
theorem ktJ8_newLength_cabcc_0 : dk cJ8_newLength_cabcc tJ8_newLength_cabcc_0 = true := by decide +kernel
theorem lay_J4_0 : u_lay RJ4 TJ4 0 ∈ TT := TT_of (tb5 (List.mem_of_getElem? (i := 85) rfl)) rfl
theorem lay_J4_1 : u_lay RJ4 TJ4 1 ∈ TT := TT_of (tb5 (List.mem_of_getElem? (i := 87) rfl)) rfl
theorem lay_J4_2 : u_lay RJ4 TJ4 2 ∈ TT := TT_of (tb5 (List.mem_of_getElem? (i := 89) rfl)) rfl
theorem lay_J4_3 : u_lay RJ4 TJ4 3 ∈ TT := TT_of (tb5 (List.mem_of_getElem? (i := 91) rfl)) rfl
theorem lay_J4 : ∀ w ∈ u_ws RJ4 TJ4 4, w ∈ TT := by
  intro w hw
  obtain ⟨k, hk, rfl⟩ := List.mem_map.mp hw
  have hk := List.mem_range.mp hk
  match k, hk with
  | 0, _ => exact lay_J4_0
  | 1, _ => exact lay_J4_1
  | 2, _ => exact lay_J4_2
  | 3, _ => exact lay_J4_3
  | k + 4, hk => exact absurd hk (by omega)
theorem fw_J4_0 : fw 1 0 TJ4 4 := ⟨tyJ4_ok, nmJ4, rfl⟩
theorem fw_J4_1 : fw 1 1 TJ4 4 := ⟨tyJ4_ok, nmJ4, rfl⟩
theorem fw_J4_2 : fw 1 2 TJ4 4 := ⟨tyJ4_ok, nmJ4, rfl⟩
theorem fw_J4_3 : fw 1 3 TJ4 4 := ⟨tyJ4_ok, nmJ4, rfl⟩
theorem lay_J0_0 : u_lay RJ0 TJ0 0 ∈ TT := TT_of (tb6 (List.mem_of_getElem? (i := 22) rfl)) rfl
theorem lay_J0_1 : u_lay RJ0 TJ0 1 ∈ TT := TT_of (tb6 (List.mem_of_getElem? (i := 24) rfl)) rfl
theorem lay_J0_2 : u_lay RJ0 TJ0 2 ∈ TT := TT_of (tb6 (List.mem_of_getElem? (i := 26) rfl)) rfl
theorem lay_J0_3 : u_lay RJ0 TJ0 3 ∈ TT := TT_of (tb6 (List.mem_of_getElem? (i := 28) rfl)) rfl
theorem lay_J0 : ∀ w ∈ u_ws RJ0 TJ0 4, w ∈ TT := by
  intro w hw
  obtain ⟨k, hk, rfl⟩ := List.mem_map.mp hw
  have hk := List.mem_range.mp hk
  match k, hk with
  | 0, _ => exact lay_J0_0
  | 1, _ => exact lay_J0_1
  | 2, _ => exact lay_J0_2
  | 3, _ => exact lay_J0_3
  | k + 4, hk => exact absurd hk (by omega)
theorem fw_J0_2 : fw 0 2 TJ0 4 := ⟨tyJ0_ok, nmJ0, rfl⟩
theorem fw_J0_3 : fw 0 3 TJ0 4 := ⟨tyJ0_ok, nmJ0, rfl⟩
theorem f2_J5_15 : fl2 RJ5 15 1 0 RJ4 TJ4 4 := ⟨rfl, by decide, TT_of (tb5 (List.mem_of_getElem? (i := 81) rfl)) rfl, lay_J4⟩
theorem f2_J5_22 : fl2 RJ5 22 1 1 RJ4 TJ4 4 := ⟨rfl, by decide, TT_of (tb5 (List.mem_of_getElem? (i := 82) rfl)) rfl, lay_J4⟩
theorem f2_J5_79 : fl2 RJ5 79 1 3 RJ4 TJ4 4 := ⟨rfl, by decide, TT_of (tb5 (List.mem_of_getElem? (i := 84) rfl)) rfl, lay_J4⟩
theorem f2_J0_9 : fl2 RJ0 9 0 0 RJ0 TJ0 4 := ⟨rfl, by decide, TT_of (tb6 (List.mem_of_getElem? (i := 20) rfl)) rfl, lay_J0⟩
theorem f2_J0_15 : fl2 RJ0 15 0 1 RJ0 TJ0 4 := ⟨rfl, by decide, TT_of (tb6 (List.mem_of_getElem? (i := 21) rfl)) rfl, lay_J0⟩
theorem fg_J5_18 : Cond.fieldLink RJ5 18 RJ0 "COMPACT_STRINGS" "Z" ∈ TT := TT_of (tb5 (List.mem_of_getElem? (i := 73) rfl)) rfl
theorem fg_J0_38 : Cond.fieldLink RJ0 38 RJ0 "COMPACT_STRINGS" "Z" ∈ TT := TT_of (tb2 (List.mem_of_getElem? (i := 194) rfl)) rfl
theorem fg_J6_83 : Cond.fieldLink RJ6 83 RJ6 "DigitOnes" "[B" ∈ TT := TT_of (tb5 (List.mem_of_getElem? (i := 202) rfl)) rfl
theorem fg_J6_87 : Cond.fieldLink RJ6 87 RJ6 "DigitTens" "[B" ∈ TT := TT_of (tb5 (List.mem_of_getElem? (i := 204) rfl)) rfl
theorem fc_J0_9 : Cond.fieldLink RJ0 9 RJ0 "value" "[B" ∈ TT := TT_of (tb6 (List.mem_of_getElem? (i := 20) rfl)) rfl
theorem fc_J0_15 : Cond.fieldLink RJ0 15 RJ0 "coder" "B" ∈ TT := TT_of (tb6 (List.mem_of_getElem? (i := 21) rfl)) rfl
theorem qcl_L_208 : Cond.classLink RL 208 RJ4 ∈ TT := TT_of (tb5 (List.mem_of_getElem? (i := 64) rfl)) rfl
theorem qcl_L_25 : Cond.classLink RL 25 RX6 ∈ TT := TT_of (tb1 (List.mem_of_getElem? (i := 25) rfl)) rfl
theorem qcl_J4_18 : Cond.classLink RJ4 18 RJ0 ∈ TT := TT_of (tb5 (List.mem_of_getElem? (i := 218) rfl)) rfl
theorem qin_J0s : Cond.instantiable RJ0 4 ∈ TT := TT_of (tb5 (List.mem_of_getElem? (i := 219) rfl)) rfl
theorem qac_byt : Cond.arrayClass FieldType.byte ∈ TT := TT_of (tb1 (List.mem_of_getElem? (i := 100) rfl)) rfl
theorem qsup_J4 : Cond.superclass RJ4 RJ5 ∈ TT := TT_of (tb5 (List.mem_of_getElem? (i := 93) rfl)) rfl
theorem sv_J5_ensureCapacityInternal_d00df : Cond.selects RJ4 yJ5_ensureCapacityInternal_d00df yJ5_ensureCapacityInternal_d00df ∈ nestW := List.mem_of_getElem? (i := 6) rfl
theorem tp_J5_ensureCapacityInternal_d00df : Cond.privateMethod yJ5_ensureCapacityInternal_d00df ∈ tables_1 := tb5 (List.mem_of_getElem? (i := 106) rfl)
theorem sv_J5_newCapacity_0f7a4 : Cond.selects RJ4 yJ5_newCapacity_0f7a4 yJ5_newCapacity_0f7a4 ∈ nestW := List.mem_of_getElem? (i := 7) rfl
theorem tp_J5_newCapacity_0f7a4 : Cond.privateMethod yJ5_newCapacity_0f7a4 ∈ tables_1 := tb5 (List.mem_of_getElem? (i := 110) rfl)
theorem sv_J5_putStringAt_47b60 : Cond.selects RJ4 yJ5_putStringAt_47b60 yJ5_putStringAt_47b60 ∈ nestW := List.mem_of_getElem? (i := 8) rfl
theorem tp_J5_putStringAt_47b60 : Cond.privateMethod yJ5_putStringAt_47b60 ∈ tables_1 := tb5 (List.mem_of_getElem? (i := 156) rfl)
theorem sv_J5_inflateIfNeededFor_a7421 : Cond.selects RJ4 yJ5_inflateIfNeededFor_a7421 yJ5_inflateIfNeededFor_a7421 ∈ nestW := List.mem_of_getElem? (i := 9) rfl
theorem tp_J5_inflateIfNeededFor_a7421 : Cond.privateMethod yJ5_inflateIfNeededFor_a7421 ∈ tables_1 := tb5 (List.mem_of_getElem? (i := 160) rfl)
theorem cs_J4_29 : cwSU RJ4 29 yJ5_append_cf1ce cJ5_append_cf1ce 3 (some (FieldType.object "java/lang/AbstractStringBuilder")) 1 := by
  refine ⟨qc_J5_append_cf1ce, fun w hw => ?_, by decide +kernel, by decide +kernel⟩
  simp only [va_wsSU, List.append_nil, List.mem_cons, List.not_mem_nil, or_false] at hw
  rcases hw with rfl | rfl | rfl | rfl | rfl
  · exact qm_J4_29
  · exact TT_of (tb6 (List.mem_of_getElem? (i := 36) rfl)) rfl
  · exact qsup_J4
  · exact qi_J5_append_cf1ce
  · exact qn_java_lang_AbstractStringBuilder
theorem cs_J4_53 : cwSU RJ4 53 yJ5_append_c97b9 cJ5_append_c97b9 4 (some (FieldType.object "java/lang/AbstractStringBuilder")) 1 := by
  refine ⟨qc_J5_append_c97b9, fun w hw => ?_, by decide +kernel, by decide +kernel⟩
  simp only [va_wsSU, List.append_nil, List.mem_cons, List.not_mem_nil, or_false] at hw
  rcases hw with rfl | rfl | rfl | rfl | rfl
  · exact qm_J4_53
  · exact TT_of (tb6 (List.mem_of_getElem? (i := 43) rfl)) rfl
  · exact qsup_J4
  · exact qi_J5_append_c97b9
  · exact qn_java_lang_AbstractStringBuilder
theorem cs_J4_343 : cwSU RJ4 343 yJ5_length_8abf5 cJ5_length_8abf5 1 (some FieldType.int) 0 := by
  refine ⟨qc_J5_length_8abf5, fun w hw => ?_, by decide +kernel, by decide +kernel⟩
  simp only [va_wsSU, List.append_nil, List.mem_cons, List.not_mem_nil, or_false] at hw
  rcases hw with rfl | rfl | rfl | rfl | rfl
  · exact qm_J4_343
  · exact TT_of (tb5 (List.mem_of_getElem? (i := 234) rfl)) rfl
  · exact qsup_J4
  · exact qi_J5_length_8abf5
  · exact qn_java_lang_AbstractStringBuilder
theorem qo_len : Cond.selects RJ4 yJ5_length_8abf5 yJ4_length_8abf5 ∈ TT := TT_of (tb5 (List.mem_of_getElem? (i := 235) rfl)) rfl
theorem qsm_len : Cond.sameMethod RJ5 RJ5 "length" "()I" ∈ TT := TT_of (tb5 (List.mem_of_getElem? (i := 234) rfl)) rfl
