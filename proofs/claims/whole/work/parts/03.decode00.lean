/-! decode rows; written by wip/whole/gen/methods.py -/
theorem d_FR_firstStackCell_0 : decode c_FR_firstStackCell 0 = .ok (.aload_n 0, 1) := by decide +kernel
theorem d_FR_firstStackCell_1 : decode c_FR_firstStackCell 1 = .ok (.getfield 7, 3) := by decide +kernel
theorem d_FR_firstStackCell_4 : decode c_FR_firstStackCell 4 = .ok (.aload_n 0, 1) := by decide +kernel
theorem d_FR_firstStackCell_5 : decode c_FR_firstStackCell 5 = .ok (.getfield 13, 3) := by decide +kernel
theorem d_FR_firstStackCell_8 : decode c_FR_firstStackCell 8 = .ok (.getfield 17, 3) := by decide +kernel
theorem d_FR_firstStackCell_11 : decode c_FR_firstStackCell 11 = .ok (.iadd, 1) := by decide +kernel
theorem d_FR_firstStackCell_12 : decode c_FR_firstStackCell 12 = .ok (.ireturn, 1) := by decide +kernel
theorem d_ME_end_0 : decode c_ME_end 0 = .ok (.aload_n 0, 1) := by decide +kernel
theorem d_ME_end_1 : decode c_ME_end 1 = .ok (.getfield 22, 3) := by decide +kernel
theorem d_ME_end_4 : decode c_ME_end 4 = .ok (.aload_n 0, 1) := by decide +kernel
theorem d_ME_end_5 : decode c_ME_end 5 = .ok (.getfield 25, 3) := by decide +kernel
theorem d_ME_end_8 : decode c_ME_end 8 = .ok (.iadd, 1) := by decide +kernel
theorem d_ME_end_9 : decode c_ME_end 9 = .ok (.ireturn, 1) := by decide +kernel
theorem d_ME_cellsNeeded_0 : decode c_ME_cellsNeeded 0 = .ok (.aload_n 0, 1) := by decide +kernel
theorem d_ME_cellsNeeded_1 : decode c_ME_cellsNeeded 1 = .ok (.getfield 28, 3) := by decide +kernel
theorem d_ME_cellsNeeded_4 : decode c_ME_cellsNeeded 4 = .ok (.aload_n 0, 1) := by decide +kernel
theorem d_ME_cellsNeeded_5 : decode c_ME_cellsNeeded 5 = .ok (.getfield 31, 3) := by decide +kernel
theorem d_ME_cellsNeeded_8 : decode c_ME_cellsNeeded 8 = .ok (.iadd, 1) := by decide +kernel
theorem d_ME_cellsNeeded_9 : decode c_ME_cellsNeeded 9 = .ok (.iconst 1, 1) := by decide +kernel
theorem d_ME_cellsNeeded_10 : decode c_ME_cellsNeeded 10 = .ok (.iadd, 1) := by decide +kernel
theorem d_ME_cellsNeeded_11 : decode c_ME_cellsNeeded 11 = .ok (.ireturn, 1) := by decide +kernel
theorem d_HA_covers_0 : decode c_HA_covers 0 = .ok (.aload_n 0, 1) := by decide +kernel
theorem d_HA_covers_1 : decode c_HA_covers 1 = .ok (.getfield 7, 3) := by decide +kernel
theorem d_HA_covers_4 : decode c_HA_covers 4 = .ok (.iload_n 1, 1) := by decide +kernel
theorem d_HA_covers_5 : decode c_HA_covers 5 = .ok (.if_icmp .gt 15, 3) := by decide +kernel
theorem d_HA_covers_8 : decode c_HA_covers 8 = .ok (.iload_n 1, 1) := by decide +kernel
theorem d_HA_covers_9 : decode c_HA_covers 9 = .ok (.aload_n 0, 1) := by decide +kernel
theorem d_HA_covers_10 : decode c_HA_covers 10 = .ok (.getfield 13, 3) := by decide +kernel
theorem d_HA_covers_13 : decode c_HA_covers 13 = .ok (.if_icmp .ge 7, 3) := by decide +kernel
theorem d_HA_covers_16 : decode c_HA_covers 16 = .ok (.iconst 1, 1) := by decide +kernel
theorem d_HA_covers_17 : decode c_HA_covers 17 = .ok (.goto 4, 3) := by decide +kernel
theorem d_HA_covers_20 : decode c_HA_covers 20 = .ok (.iconst 0, 1) := by decide +kernel
theorem d_HA_covers_21 : decode c_HA_covers 21 = .ok (.ireturn, 1) := by decide +kernel
theorem d_ME_findTarget_0 : decode c_ME_findTarget 0 = .ok (.iconst 0, 1) := by decide +kernel
theorem d_ME_findTarget_1 : decode c_ME_findTarget 1 = .ok (.istore_n 3, 1) := by decide +kernel
theorem d_ME_findTarget_2 : decode c_ME_findTarget 2 = .ok (.iload_n 3, 1) := by decide +kernel
theorem d_ME_findTarget_3 : decode c_ME_findTarget 3 = .ok (.aload_n 0, 1) := by decide +kernel
theorem d_ME_findTarget_4 : decode c_ME_findTarget 4 = .ok (.getfield 34, 3) := by decide +kernel
theorem d_ME_findTarget_7 : decode c_ME_findTarget 7 = .ok (.if_icmp .ge 49, 3) := by decide +kernel
theorem d_ME_findTarget_10 : decode c_ME_findTarget 10 = .ok (.aload_n 0, 1) := by decide +kernel
theorem d_ME_findTarget_11 : decode c_ME_findTarget 11 = .ok (.getfield 17, 3) := by decide +kernel
theorem d_ME_findTarget_14 : decode c_ME_findTarget 14 = .ok (.iload_n 3, 1) := by decide +kernel
theorem d_ME_findTarget_15 : decode c_ME_findTarget 15 = .ok (.aaload, 1) := by decide +kernel
theorem d_ME_findTarget_16 : decode c_ME_findTarget 16 = .ok (.astore 4, 2) := by decide +kernel
theorem d_ME_findTarget_18 : decode c_ME_findTarget 18 = .ok (.aload 4, 2) := by decide +kernel
theorem d_ME_findTarget_20 : decode c_ME_findTarget 20 = .ok (.iload_n 1, 1) := by decide +kernel
theorem d_ME_findTarget_21 : decode c_ME_findTarget 21 = .ok (.invokevirtual 37, 3) := by decide +kernel
theorem d_ME_findTarget_24 : decode c_ME_findTarget 24 = .ok (.ifCond .eq 26, 3) := by decide +kernel
theorem d_ME_findTarget_27 : decode c_ME_findTarget 27 = .ok (.aload 4, 2) := by decide +kernel
theorem d_ME_findTarget_29 : decode c_ME_findTarget 29 = .ok (.getfield 41, 3) := by decide +kernel
theorem d_ME_findTarget_32 : decode c_ME_findTarget 32 = .ok (.ifCond .eq 12, 3) := by decide +kernel
theorem d_ME_findTarget_35 : decode c_ME_findTarget 35 = .ok (.aload 4, 2) := by decide +kernel
theorem d_ME_findTarget_37 : decode c_ME_findTarget 37 = .ok (.getfield 41, 3) := by decide +kernel
theorem d_ME_findTarget_40 : decode c_ME_findTarget 40 = .ok (.iload_n 2, 1) := by decide +kernel
theorem d_ME_findTarget_41 : decode c_ME_findTarget 41 = .ok (.if_icmp .ne 9, 3) := by decide +kernel
theorem d_ME_findTarget_44 : decode c_ME_findTarget 44 = .ok (.aload 4, 2) := by decide +kernel
theorem d_ME_findTarget_46 : decode c_ME_findTarget 46 = .ok (.getfield 44, 3) := by decide +kernel
theorem d_ME_findTarget_49 : decode c_ME_findTarget 49 = .ok (.ireturn, 1) := by decide +kernel
theorem d_ME_findTarget_50 : decode c_ME_findTarget 50 = .ok (.iinc 3 1, 3) := by decide +kernel
theorem d_ME_findTarget_53 : decode c_ME_findTarget 53 = .ok (.goto (-51), 3) := by decide +kernel
theorem d_ME_findTarget_56 : decode c_ME_findTarget 56 = .ok (.iconst (-1), 1) := by decide +kernel
theorem d_ME_findTarget_57 : decode c_ME_findTarget 57 = .ok (.ireturn, 1) := by decide +kernel
theorem d_CO_byteAt_0 : decode c_CO_byteAt 0 = .ok (.iload_n 1, 1) := by decide +kernel
theorem d_CO_byteAt_1 : decode c_CO_byteAt 1 = .ok (.ifCond .lt 20, 3) := by decide +kernel
theorem d_CO_byteAt_4 : decode c_CO_byteAt 4 = .ok (.iload_n 1, 1) := by decide +kernel
theorem d_CO_byteAt_5 : decode c_CO_byteAt 5 = .ok (.aload_n 0, 1) := by decide +kernel
theorem d_CO_byteAt_6 : decode c_CO_byteAt 6 = .ok (.getfield 22, 3) := by decide +kernel
theorem d_CO_byteAt_9 : decode c_CO_byteAt 9 = .ok (.if_icmp .ge 12, 3) := by decide +kernel
theorem d_CO_byteAt_12 : decode c_CO_byteAt 12 = .ok (.aload_n 0, 1) := by decide +kernel
theorem d_CO_byteAt_13 : decode c_CO_byteAt 13 = .ok (.getfield 9, 3) := by decide +kernel
theorem d_CO_byteAt_16 : decode c_CO_byteAt 16 = .ok (.iload_n 1, 1) := by decide +kernel
theorem d_CO_byteAt_17 : decode c_CO_byteAt 17 = .ok (.iaload, 1) := by decide +kernel
theorem d_CO_byteAt_18 : decode c_CO_byteAt 18 = .ok (.goto 4, 3) := by decide +kernel
theorem d_CO_byteAt_21 : decode c_CO_byteAt 21 = .ok (.iconst 0, 1) := by decide +kernel
theorem d_CO_byteAt_22 : decode c_CO_byteAt 22 = .ok (.ireturn, 1) := by decide +kernel
theorem d_OP_isSmallPush_0 : decode c_OP_isSmallPush 0 = .ok (.iload_n 0, 1) := by decide +kernel
theorem d_OP_isSmallPush_1 : decode c_OP_isSmallPush 1 = .ok (.iconst 2, 1) := by decide +kernel
theorem d_OP_isSmallPush_2 : decode c_OP_isSmallPush 2 = .ok (.if_icmp .lt 13, 3) := by decide +kernel
theorem d_OP_isSmallPush_5 : decode c_OP_isSmallPush 5 = .ok (.iload_n 0, 1) := by decide +kernel
theorem d_OP_isSmallPush_6 : decode c_OP_isSmallPush 6 = .ok (.bipush 8, 2) := by decide +kernel
theorem d_OP_isSmallPush_8 : decode c_OP_isSmallPush 8 = .ok (.if_icmp .gt 7, 3) := by decide +kernel
theorem d_OP_isSmallPush_11 : decode c_OP_isSmallPush 11 = .ok (.iconst 1, 1) := by decide +kernel
theorem d_OP_isSmallPush_12 : decode c_OP_isSmallPush 12 = .ok (.goto 4, 3) := by decide +kernel
theorem d_OP_isSmallPush_15 : decode c_OP_isSmallPush 15 = .ok (.iconst 0, 1) := by decide +kernel
theorem d_OP_isSmallPush_16 : decode c_OP_isSmallPush 16 = .ok (.ireturn, 1) := by decide +kernel
theorem d_IN_keep_0 : decode c_IN_keep 0 = .ok (.aload_n 0, 1) := by decide +kernel
theorem d_IN_keep_1 : decode c_IN_keep 1 = .ok (.iload_n 1, 1) := by decide +kernel
theorem d_IN_keep_2 : decode c_IN_keep 2 = .ok (.putfield 46, 3) := by decide +kernel
theorem d_IN_keep_5 : decode c_IN_keep 5 = .ok (.aload_n 0, 1) := by decide +kernel
theorem d_IN_keep_6 : decode c_IN_keep 6 = .ok (.iload_n 2, 1) := by decide +kernel
theorem d_IN_keep_7 : decode c_IN_keep 7 = .ok (.putfield 49, 3) := by decide +kernel
theorem d_IN_keep_10 : decode c_IN_keep 10 = .ok (.aload_n 0, 1) := by decide +kernel
theorem d_IN_keep_11 : decode c_IN_keep 11 = .ok (.iload_n 3, 1) := by decide +kernel
theorem d_IN_keep_12 : decode c_IN_keep 12 = .ok (.putfield 52, 3) := by decide +kernel
theorem d_IN_keep_15 : decode c_IN_keep 15 = .ok (.return_, 1) := by decide +kernel
theorem d_IN_readPush_0 : decode c_IN_readPush 0 = .ok (.iload_n 1, 1) := by decide +kernel
theorem d_IN_readPush_1 : decode c_IN_readPush 1 = .ok (.invokestatic 29, 3) := by decide +kernel
theorem d_IN_readPush_4 : decode c_IN_readPush 4 = .ok (.ifCond .eq 17, 3) := by decide +kernel
theorem d_IN_readPush_7 : decode c_IN_readPush 7 = .ok (.aload_n 0, 1) := by decide +kernel
theorem d_IN_readPush_8 : decode c_IN_readPush 8 = .ok (.bipush 17, 2) := by decide +kernel
theorem d_IN_readPush_10 : decode c_IN_readPush 10 = .ok (.iload_n 1, 1) := by decide +kernel
theorem d_IN_readPush_11 : decode c_IN_readPush 11 = .ok (.iconst 2, 1) := by decide +kernel
theorem d_IN_readPush_12 : decode c_IN_readPush 12 = .ok (.isub, 1) := by decide +kernel
theorem d_IN_readPush_13 : decode c_IN_readPush 13 = .ok (.iconst 1, 1) := by decide +kernel
theorem d_IN_readPush_14 : decode c_IN_readPush 14 = .ok (.isub, 1) := by decide +kernel
theorem d_IN_readPush_15 : decode c_IN_readPush 15 = .ok (.iconst 1, 1) := by decide +kernel
theorem d_IN_readPush_16 : decode c_IN_readPush 16 = .ok (.invokevirtual 33, 3) := by decide +kernel
theorem d_IN_readPush_19 : decode c_IN_readPush 19 = .ok (.iconst 1, 1) := by decide +kernel
theorem d_IN_readPush_20 : decode c_IN_readPush 20 = .ok (.ireturn, 1) := by decide +kernel
theorem d_IN_readPush_21 : decode c_IN_readPush 21 = .ok (.iload_n 1, 1) := by decide +kernel
theorem d_IN_readPush_22 : decode c_IN_readPush 22 = .ok (.bipush 16, 2) := by decide +kernel
theorem d_IN_readPush_24 : decode c_IN_readPush 24 = .ok (.if_icmp .ne 14, 3) := by decide +kernel
theorem d_IN_readPush_27 : decode c_IN_readPush 27 = .ok (.aload_n 0, 1) := by decide +kernel
theorem d_IN_readPush_28 : decode c_IN_readPush 28 = .ok (.bipush 17, 2) := by decide +kernel
theorem d_IN_readPush_30 : decode c_IN_readPush 30 = .ok (.iload_n 2, 1) := by decide +kernel
theorem d_IN_readPush_31 : decode c_IN_readPush 31 = .ok (.i2b, 1) := by decide +kernel
theorem d_IN_readPush_32 : decode c_IN_readPush 32 = .ok (.iconst 2, 1) := by decide +kernel
theorem d_IN_readPush_33 : decode c_IN_readPush 33 = .ok (.invokevirtual 33, 3) := by decide +kernel
theorem d_IN_readPush_36 : decode c_IN_readPush 36 = .ok (.iconst 1, 1) := by decide +kernel
theorem d_IN_readPush_37 : decode c_IN_readPush 37 = .ok (.ireturn, 1) := by decide +kernel
theorem d_IN_readPush_38 : decode c_IN_readPush 38 = .ok (.iconst 0, 1) := by decide +kernel
theorem d_IN_readPush_39 : decode c_IN_readPush 39 = .ok (.ireturn, 1) := by decide +kernel
theorem d_OP_isShort_0 : decode c_OP_isShort 0 = .ok (.iload_n 0, 1) := by decide +kernel
theorem d_OP_isShort_1 : decode c_OP_isShort 1 = .ok (.iload_n 1, 1) := by decide +kernel
theorem d_OP_isShort_2 : decode c_OP_isShort 2 = .ok (.if_icmp .lt 14, 3) := by decide +kernel
theorem d_OP_isShort_5 : decode c_OP_isShort 5 = .ok (.iload_n 0, 1) := by decide +kernel
theorem d_OP_isShort_6 : decode c_OP_isShort 6 = .ok (.iload_n 1, 1) := by decide +kernel
theorem d_OP_isShort_7 : decode c_OP_isShort 7 = .ok (.iconst 4, 1) := by decide +kernel
theorem d_OP_isShort_8 : decode c_OP_isShort 8 = .ok (.iadd, 1) := by decide +kernel
theorem d_OP_isShort_9 : decode c_OP_isShort 9 = .ok (.if_icmp .ge 7, 3) := by decide +kernel
theorem d_OP_isShort_12 : decode c_OP_isShort 12 = .ok (.iconst 1, 1) := by decide +kernel
theorem d_OP_isShort_13 : decode c_OP_isShort 13 = .ok (.goto 4, 3) := by decide +kernel
theorem d_OP_isShort_16 : decode c_OP_isShort 16 = .ok (.iconst 0, 1) := by decide +kernel
theorem d_OP_isShort_17 : decode c_OP_isShort 17 = .ok (.ireturn, 1) := by decide +kernel
theorem d_IN_readShort_0 : decode c_IN_readShort 0 = .ok (.iload_n 1, 1) := by decide +kernel
theorem d_IN_readShort_1 : decode c_IN_readShort 1 = .ok (.iload_n 2, 1) := by decide +kernel
theorem d_IN_readShort_2 : decode c_IN_readShort 2 = .ok (.invokestatic 36, 3) := by decide +kernel
theorem d_IN_readShort_5 : decode c_IN_readShort 5 = .ok (.ifCond .ne 5, 3) := by decide +kernel
theorem d_IN_readShort_8 : decode c_IN_readShort 8 = .ok (.iconst 0, 1) := by decide +kernel
theorem d_IN_readShort_9 : decode c_IN_readShort 9 = .ok (.ireturn, 1) := by decide +kernel
theorem d_IN_readShort_10 : decode c_IN_readShort 10 = .ok (.aload_n 0, 1) := by decide +kernel
theorem d_IN_readShort_11 : decode c_IN_readShort 11 = .ok (.iload_n 3, 1) := by decide +kernel
theorem d_IN_readShort_12 : decode c_IN_readShort 12 = .ok (.iload_n 1, 1) := by decide +kernel
theorem d_IN_readShort_13 : decode c_IN_readShort 13 = .ok (.iload_n 2, 1) := by decide +kernel
theorem d_IN_readShort_14 : decode c_IN_readShort 14 = .ok (.isub, 1) := by decide +kernel
theorem d_IN_readShort_15 : decode c_IN_readShort 15 = .ok (.iconst 1, 1) := by decide +kernel
theorem d_IN_readShort_16 : decode c_IN_readShort 16 = .ok (.invokevirtual 33, 3) := by decide +kernel
theorem d_IN_readShort_19 : decode c_IN_readShort 19 = .ok (.iconst 1, 1) := by decide +kernel
theorem d_IN_readShort_20 : decode c_IN_readShort 20 = .ok (.ireturn, 1) := by decide +kernel
theorem d_OP_isJump_0 : decode c_OP_isJump 0 = .ok (.iload_n 0, 1) := by decide +kernel
theorem d_OP_isJump_1 : decode c_OP_isJump 1 = .ok (.sipush 153, 3) := by decide +kernel
theorem d_OP_isJump_4 : decode c_OP_isJump 4 = .ok (.if_icmp .lt 10, 3) := by decide +kernel
theorem d_OP_isJump_7 : decode c_OP_isJump 7 = .ok (.iload_n 0, 1) := by decide +kernel
theorem d_OP_isJump_8 : decode c_OP_isJump 8 = .ok (.sipush 167, 3) := by decide +kernel
theorem d_OP_isJump_11 : decode c_OP_isJump 11 = .ok (.if_icmp .le 17, 3) := by decide +kernel
theorem d_OP_isJump_14 : decode c_OP_isJump 14 = .ok (.iload_n 0, 1) := by decide +kernel
theorem d_OP_isJump_15 : decode c_OP_isJump 15 = .ok (.sipush 198, 3) := by decide +kernel
theorem d_OP_isJump_18 : decode c_OP_isJump 18 = .ok (.if_icmp .eq 10, 3) := by decide +kernel
theorem d_OP_isJump_21 : decode c_OP_isJump 21 = .ok (.iload_n 0, 1) := by decide +kernel
theorem d_OP_isJump_22 : decode c_OP_isJump 22 = .ok (.sipush 199, 3) := by decide +kernel
theorem d_OP_isJump_25 : decode c_OP_isJump 25 = .ok (.if_icmp .ne 7, 3) := by decide +kernel
theorem d_OP_isJump_28 : decode c_OP_isJump 28 = .ok (.iconst 1, 1) := by decide +kernel
theorem d_OP_isJump_29 : decode c_OP_isJump 29 = .ok (.goto 4, 3) := by decide +kernel
theorem d_OP_isJump_32 : decode c_OP_isJump 32 = .ok (.iconst 0, 1) := by decide +kernel
theorem d_OP_isJump_33 : decode c_OP_isJump 33 = .ok (.ireturn, 1) := by decide +kernel
theorem d_OP_isCalculation_0 : decode c_OP_isCalculation 0 = .ok (.iload_n 0, 1) := by decide +kernel
theorem d_OP_isCalculation_1 : decode c_OP_isCalculation 1 = .ok (.tableswitch 157 96 130 #[155, 157, 157, 157, 155, 157, 157, 157, 155, 157, 157, 157, 155, 157, 157, 157, 155, 157, 157, 157, 157, 157, 157, 157, 155, 157, 155, 157, 155, 157, 155, 157, 155, 157, 155], 155) := by decide +kernel
theorem d_OP_isCalculation_156 : decode c_OP_isCalculation 156 = .ok (.iconst 1, 1) := by decide +kernel
theorem d_OP_isCalculation_157 : decode c_OP_isCalculation 157 = .ok (.ireturn, 1) := by decide +kernel
theorem d_OP_isCalculation_158 : decode c_OP_isCalculation 158 = .ok (.iconst 0, 1) := by decide +kernel
theorem d_OP_isCalculation_159 : decode c_OP_isCalculation 159 = .ok (.ireturn, 1) := by decide +kernel
theorem d_OP_sizeOf_0 : decode c_OP_sizeOf 0 = .ok (.iload_n 0, 1) := by decide +kernel
theorem d_OP_sizeOf_1 : decode c_OP_sizeOf 1 = .ok (.invokestatic 9, 3) := by decide +kernel
theorem d_OP_sizeOf_4 : decode c_OP_sizeOf 4 = .ok (.ifCond .eq 5, 3) := by decide +kernel
theorem d_OP_sizeOf_7 : decode c_OP_sizeOf 7 = .ok (.iconst 3, 1) := by decide +kernel
theorem d_OP_sizeOf_8 : decode c_OP_sizeOf 8 = .ok (.ireturn, 1) := by decide +kernel
theorem d_OP_sizeOf_9 : decode c_OP_sizeOf 9 = .ok (.iload_n 0, 1) := by decide +kernel
theorem d_OP_sizeOf_10 : decode c_OP_sizeOf 10 = .ok (.invokestatic 13, 3) := by decide +kernel
theorem d_OP_sizeOf_13 : decode c_OP_sizeOf 13 = .ok (.ifCond .eq 5, 3) := by decide +kernel
theorem d_OP_sizeOf_16 : decode c_OP_sizeOf 16 = .ok (.iconst 1, 1) := by decide +kernel
theorem d_OP_sizeOf_17 : decode c_OP_sizeOf 17 = .ok (.ireturn, 1) := by decide +kernel
theorem d_OP_sizeOf_18 : decode c_OP_sizeOf 18 = .ok (.iload_n 0, 1) := by decide +kernel
theorem d_OP_sizeOf_19 : decode c_OP_sizeOf 19 = .ok (.lookupswitch 175 #[(1, 169), (17, 173), (21, 171), (25, 171), (46, 169), (54, 171), (58, 171), (79, 169), (87, 169), (89, 169), (95, 169), (116, 169), (132, 173), (172, 169), (177, 169), (178, 173), (179, 173), (184, 173), (188, 171), (190, 169)], 169) := by decide +kernel
theorem d_OP_sizeOf_188 : decode c_OP_sizeOf 188 = .ok (.iconst 1, 1) := by decide +kernel
theorem d_OP_sizeOf_189 : decode c_OP_sizeOf 189 = .ok (.ireturn, 1) := by decide +kernel
theorem d_OP_sizeOf_190 : decode c_OP_sizeOf 190 = .ok (.iconst 2, 1) := by decide +kernel
theorem d_OP_sizeOf_191 : decode c_OP_sizeOf 191 = .ok (.ireturn, 1) := by decide +kernel
theorem d_OP_sizeOf_192 : decode c_OP_sizeOf 192 = .ok (.iconst 3, 1) := by decide +kernel
theorem d_OP_sizeOf_193 : decode c_OP_sizeOf 193 = .ok (.ireturn, 1) := by decide +kernel
theorem d_OP_sizeOf_194 : decode c_OP_sizeOf 194 = .ok (.iconst 0, 1) := by decide +kernel
theorem d_OP_sizeOf_195 : decode c_OP_sizeOf 195 = .ok (.ireturn, 1) := by decide +kernel
theorem d_IN_readLong_0 : decode c_IN_readLong 0 = .ok (.iload_n 1, 1) := by decide +kernel
theorem d_IN_readLong_1 : decode c_IN_readLong 1 = .ok (.invokestatic 39, 3) := by decide +kernel
theorem d_IN_readLong_4 : decode c_IN_readLong 4 = .ok (.istore 4, 2) := by decide +kernel
theorem d_IN_readLong_6 : decode c_IN_readLong 6 = .ok (.iload 4, 2) := by decide +kernel
theorem d_IN_readLong_8 : decode c_IN_readLong 8 = .ok (.iconst 3, 1) := by decide +kernel
theorem d_IN_readLong_9 : decode c_IN_readLong 9 = .ok (.if_icmp .ne 14, 3) := by decide +kernel
theorem d_IN_readLong_12 : decode c_IN_readLong 12 = .ok (.iload_n 1, 1) := by decide +kernel
theorem d_IN_readLong_13 : decode c_IN_readLong 13 = .ok (.sipush 132, 3) := by decide +kernel
theorem d_IN_readLong_16 : decode c_IN_readLong 16 = .ok (.if_icmp .eq 7, 3) := by decide +kernel
theorem d_IN_readLong_19 : decode c_IN_readLong 19 = .ok (.iconst 1, 1) := by decide +kernel
theorem d_IN_readLong_20 : decode c_IN_readLong 20 = .ok (.goto 4, 3) := by decide +kernel
theorem d_IN_readLong_23 : decode c_IN_readLong 23 = .ok (.iconst 0, 1) := by decide +kernel
theorem d_IN_readLong_24 : decode c_IN_readLong 24 = .ok (.istore 5, 2) := by decide +kernel
theorem d_IN_readLong_26 : decode c_IN_readLong 26 = .ok (.aload_n 0, 1) := by decide +kernel
theorem d_IN_readLong_27 : decode c_IN_readLong 27 = .ok (.iload_n 1, 1) := by decide +kernel
theorem d_IN_readLong_28 : decode c_IN_readLong 28 = .ok (.iload 5, 2) := by decide +kernel
theorem d_IN_readLong_30 : decode c_IN_readLong 30 = .ok (.ifCond .eq 13, 3) := by decide +kernel
theorem d_IN_readLong_33 : decode c_IN_readLong 33 = .ok (.iload_n 2, 1) := by decide +kernel
theorem d_IN_readLong_34 : decode c_IN_readLong 34 = .ok (.bipush 8, 2) := by decide +kernel
theorem d_IN_readLong_36 : decode c_IN_readLong 36 = .ok (.ishl, 1) := by decide +kernel
theorem d_IN_readLong_37 : decode c_IN_readLong 37 = .ok (.iload_n 3, 1) := by decide +kernel
theorem d_IN_readLong_38 : decode c_IN_readLong 38 = .ok (.ior, 1) := by decide +kernel
theorem d_IN_readLong_39 : decode c_IN_readLong 39 = .ok (.i2s, 1) := by decide +kernel
theorem d_IN_readLong_40 : decode c_IN_readLong 40 = .ok (.goto 4, 3) := by decide +kernel
theorem d_IN_readLong_43 : decode c_IN_readLong 43 = .ok (.iload_n 2, 1) := by decide +kernel
theorem d_IN_readLong_44 : decode c_IN_readLong 44 = .ok (.iload 4, 2) := by decide +kernel
theorem d_IN_readLong_46 : decode c_IN_readLong 46 = .ok (.invokevirtual 33, 3) := by decide +kernel
theorem d_IN_readLong_49 : decode c_IN_readLong 49 = .ok (.aload_n 0, 1) := by decide +kernel
theorem d_IN_readLong_50 : decode c_IN_readLong 50 = .ok (.iload_n 3, 1) := by decide +kernel
theorem d_IN_readLong_51 : decode c_IN_readLong 51 = .ok (.i2b, 1) := by decide +kernel
theorem d_IN_readLong_52 : decode c_IN_readLong 52 = .ok (.putfield 42, 3) := by decide +kernel
theorem d_IN_readLong_55 : decode c_IN_readLong 55 = .ok (.return_, 1) := by decide +kernel
theorem d_IN_read_0 : decode c_IN_read 0 = .ok (.aload_n 1, 1) := by decide +kernel
theorem d_IN_read_1 : decode c_IN_read 1 = .ok (.iload_n 2, 1) := by decide +kernel
theorem d_IN_read_2 : decode c_IN_read 2 = .ok (.invokevirtual 7, 3) := by decide +kernel
theorem d_IN_read_5 : decode c_IN_read 5 = .ok (.istore_n 3, 1) := by decide +kernel
theorem d_IN_read_6 : decode c_IN_read 6 = .ok (.aload_n 1, 1) := by decide +kernel
theorem d_IN_read_7 : decode c_IN_read 7 = .ok (.iload_n 2, 1) := by decide +kernel
theorem d_IN_read_8 : decode c_IN_read 8 = .ok (.iconst 1, 1) := by decide +kernel
theorem d_IN_read_9 : decode c_IN_read 9 = .ok (.iadd, 1) := by decide +kernel
theorem d_IN_read_10 : decode c_IN_read 10 = .ok (.invokevirtual 7, 3) := by decide +kernel
theorem d_IN_read_13 : decode c_IN_read 13 = .ok (.istore 4, 2) := by decide +kernel
theorem d_IN_read_15 : decode c_IN_read 15 = .ok (.aload_n 0, 1) := by decide +kernel
theorem d_IN_read_16 : decode c_IN_read 16 = .ok (.iload_n 3, 1) := by decide +kernel
theorem d_IN_read_17 : decode c_IN_read 17 = .ok (.iload 4, 2) := by decide +kernel
theorem d_IN_read_19 : decode c_IN_read 19 = .ok (.invokevirtual 13, 3) := by decide +kernel
theorem d_IN_read_22 : decode c_IN_read 22 = .ok (.ifCond .ne 51, 3) := by decide +kernel
theorem d_IN_read_25 : decode c_IN_read 25 = .ok (.aload_n 0, 1) := by decide +kernel
theorem d_IN_read_26 : decode c_IN_read 26 = .ok (.iload_n 3, 1) := by decide +kernel
theorem d_IN_read_27 : decode c_IN_read 27 = .ok (.bipush 26, 2) := by decide +kernel
theorem d_IN_read_29 : decode c_IN_read 29 = .ok (.bipush 21, 2) := by decide +kernel
theorem d_IN_read_31 : decode c_IN_read 31 = .ok (.invokevirtual 21, 3) := by decide +kernel
theorem d_IN_read_34 : decode c_IN_read 34 = .ok (.ifCond .ne 39, 3) := by decide +kernel
theorem d_IN_read_37 : decode c_IN_read 37 = .ok (.aload_n 0, 1) := by decide +kernel
theorem d_IN_read_38 : decode c_IN_read 38 = .ok (.iload_n 3, 1) := by decide +kernel
theorem d_IN_read_39 : decode c_IN_read 39 = .ok (.bipush 42, 2) := by decide +kernel
theorem d_IN_read_41 : decode c_IN_read 41 = .ok (.bipush 25, 2) := by decide +kernel
theorem d_IN_read_43 : decode c_IN_read 43 = .ok (.invokevirtual 21, 3) := by decide +kernel
theorem d_IN_read_46 : decode c_IN_read 46 = .ok (.ifCond .ne 27, 3) := by decide +kernel
theorem d_IN_read_49 : decode c_IN_read 49 = .ok (.aload_n 0, 1) := by decide +kernel
theorem d_IN_read_50 : decode c_IN_read 50 = .ok (.iload_n 3, 1) := by decide +kernel
theorem d_IN_read_51 : decode c_IN_read 51 = .ok (.bipush 59, 2) := by decide +kernel
theorem d_IN_read_53 : decode c_IN_read 53 = .ok (.bipush 54, 2) := by decide +kernel
theorem d_IN_read_55 : decode c_IN_read 55 = .ok (.invokevirtual 21, 3) := by decide +kernel
theorem d_IN_read_58 : decode c_IN_read 58 = .ok (.ifCond .ne 15, 3) := by decide +kernel
theorem d_IN_read_61 : decode c_IN_read 61 = .ok (.aload_n 0, 1) := by decide +kernel
theorem d_IN_read_62 : decode c_IN_read 62 = .ok (.iload_n 3, 1) := by decide +kernel
theorem d_IN_read_63 : decode c_IN_read 63 = .ok (.bipush 75, 2) := by decide +kernel
theorem d_IN_read_65 : decode c_IN_read 65 = .ok (.bipush 58, 2) := by decide +kernel
theorem d_IN_read_67 : decode c_IN_read 67 = .ok (.invokevirtual 21, 3) := by decide +kernel
theorem d_IN_read_70 : decode c_IN_read 70 = .ok (.ifCond .eq 4, 3) := by decide +kernel
theorem d_IN_read_73 : decode c_IN_read 73 = .ok (.return_, 1) := by decide +kernel
theorem d_IN_read_74 : decode c_IN_read 74 = .ok (.aload_n 0, 1) := by decide +kernel
theorem d_IN_read_75 : decode c_IN_read 75 = .ok (.iload_n 3, 1) := by decide +kernel
theorem d_IN_read_76 : decode c_IN_read 76 = .ok (.iload 4, 2) := by decide +kernel
theorem d_IN_read_78 : decode c_IN_read 78 = .ok (.aload_n 1, 1) := by decide +kernel
theorem d_IN_read_79 : decode c_IN_read 79 = .ok (.iload_n 2, 1) := by decide +kernel
theorem d_IN_read_80 : decode c_IN_read 80 = .ok (.iconst 2, 1) := by decide +kernel
theorem d_IN_read_81 : decode c_IN_read 81 = .ok (.iadd, 1) := by decide +kernel
theorem d_IN_read_82 : decode c_IN_read 82 = .ok (.invokevirtual 7, 3) := by decide +kernel
theorem d_IN_read_85 : decode c_IN_read 85 = .ok (.invokevirtual 25, 3) := by decide +kernel
theorem d_IN_read_88 : decode c_IN_read 88 = .ok (.return_, 1) := by decide +kernel
theorem d_CO_addByte_0 : decode c_CO_addByte 0 = .ok (.aload_n 0, 1) := by decide +kernel
theorem d_CO_addByte_1 : decode c_CO_addByte 1 = .ok (.getfield 22, 3) := by decide +kernel
theorem d_CO_addByte_4 : decode c_CO_addByte 4 = .ok (.sipush 200, 3) := by decide +kernel
theorem d_CO_addByte_7 : decode c_CO_addByte 7 = .ok (.if_icmp .lt 5, 3) := by decide +kernel
theorem d_CO_addByte_10 : decode c_CO_addByte 10 = .ok (.iconst 0, 1) := by decide +kernel
theorem d_CO_addByte_11 : decode c_CO_addByte 11 = .ok (.ireturn, 1) := by decide +kernel
theorem d_CO_addByte_12 : decode c_CO_addByte 12 = .ok (.aload_n 0, 1) := by decide +kernel
theorem d_CO_addByte_13 : decode c_CO_addByte 13 = .ok (.getfield 9, 3) := by decide +kernel
theorem d_CO_addByte_16 : decode c_CO_addByte 16 = .ok (.aload_n 0, 1) := by decide +kernel
theorem d_CO_addByte_17 : decode c_CO_addByte 17 = .ok (.getfield 22, 3) := by decide +kernel
theorem d_CO_addByte_20 : decode c_CO_addByte 20 = .ok (.iload_n 1, 1) := by decide +kernel
theorem d_CO_addByte_21 : decode c_CO_addByte 21 = .ok (.sipush 255, 3) := by decide +kernel
theorem d_CO_addByte_24 : decode c_CO_addByte 24 = .ok (.iand, 1) := by decide +kernel
theorem d_CO_addByte_25 : decode c_CO_addByte 25 = .ok (.iastore, 1) := by decide +kernel
theorem d_CO_addByte_26 : decode c_CO_addByte 26 = .ok (.aload_n 0, 1) := by decide +kernel
theorem d_CO_addByte_27 : decode c_CO_addByte 27 = .ok (.dup, 1) := by decide +kernel
theorem d_CO_addByte_28 : decode c_CO_addByte 28 = .ok (.getfield 22, 3) := by decide +kernel
theorem d_CO_addByte_31 : decode c_CO_addByte 31 = .ok (.iconst 1, 1) := by decide +kernel
theorem d_CO_addByte_32 : decode c_CO_addByte 32 = .ok (.iadd, 1) := by decide +kernel
theorem d_CO_addByte_33 : decode c_CO_addByte 33 = .ok (.putfield 22, 3) := by decide +kernel
theorem d_CO_addByte_36 : decode c_CO_addByte 36 = .ok (.iconst 1, 1) := by decide +kernel
theorem d_CO_addByte_37 : decode c_CO_addByte 37 = .ok (.ireturn, 1) := by decide +kernel
theorem d_FW_feed_0 : decode c_FW_feed 0 = .ok (.aload_n 0, 1) := by decide +kernel
theorem d_FW_feed_1 : decode c_FW_feed 1 = .ok (.getfield 47, 3) := by decide +kernel
theorem d_FW_feed_4 : decode c_FW_feed 4 = .ok (.ifCond .ne 14, 3) := by decide +kernel
theorem d_FW_feed_7 : decode c_FW_feed 7 = .ok (.aload_n 0, 1) := by decide +kernel
theorem d_FW_feed_8 : decode c_FW_feed 8 = .ok (.getfield 10, 3) := by decide +kernel
theorem d_FW_feed_11 : decode c_FW_feed 11 = .ok (.iload_n 1, 1) := by decide +kernel
theorem d_FW_feed_12 : decode c_FW_feed 12 = .ok (.invokevirtual 54, 3) := by decide +kernel
theorem d_FW_feed_15 : decode c_FW_feed 15 = .ok (.ifCond .ne 11, 3) := by decide +kernel
theorem d_FW_feed_18 : decode c_FW_feed 18 = .ok (.new 58, 3) := by decide +kernel
theorem d_FW_feed_21 : decode c_FW_feed 21 = .ok (.dup, 1) := by decide +kernel
theorem d_FW_feed_22 : decode c_FW_feed 22 = .ok (.invokespecial 60, 3) := by decide +kernel
theorem d_FW_feed_25 : decode c_FW_feed 25 = .ok (.athrow, 1) := by decide +kernel
theorem d_FW_feed_26 : decode c_FW_feed 26 = .ok (.aload_n 0, 1) := by decide +kernel
theorem d_FW_feed_27 : decode c_FW_feed 27 = .ok (.getfield 10, 3) := by decide +kernel
theorem d_FW_feed_30 : decode c_FW_feed 30 = .ok (.getfield 61, 3) := by decide +kernel
theorem d_FW_feed_33 : decode c_FW_feed 33 = .ok (.ireturn, 1) := by decide +kernel
theorem d_FW_areMethodNumbers_0 : decode c_FW_areMethodNumbers 0 = .ok (.iload_n 0, 1) := by decide +kernel
theorem d_FW_areMethodNumbers_1 : decode c_FW_areMethodNumbers 1 = .ok (.ifCond .lt 33, 3) := by decide +kernel
theorem d_FW_areMethodNumbers_4 : decode c_FW_areMethodNumbers 4 = .ok (.iload_n 0, 1) := by decide +kernel
theorem d_FW_areMethodNumbers_5 : decode c_FW_areMethodNumbers 5 = .ok (.iconst 4, 1) := by decide +kernel
theorem d_FW_areMethodNumbers_6 : decode c_FW_areMethodNumbers 6 = .ok (.if_icmp .gt 28, 3) := by decide +kernel
theorem d_FW_areMethodNumbers_9 : decode c_FW_areMethodNumbers 9 = .ok (.iload_n 1, 1) := by decide +kernel
theorem d_FW_areMethodNumbers_10 : decode c_FW_areMethodNumbers 10 = .ok (.iload_n 0, 1) := by decide +kernel
theorem d_FW_areMethodNumbers_11 : decode c_FW_areMethodNumbers 11 = .ok (.if_icmp .lt 23, 3) := by decide +kernel
theorem d_FW_areMethodNumbers_14 : decode c_FW_areMethodNumbers 14 = .ok (.iload_n 1, 1) := by decide +kernel
theorem d_FW_areMethodNumbers_15 : decode c_FW_areMethodNumbers 15 = .ok (.bipush 8, 2) := by decide +kernel
theorem d_FW_areMethodNumbers_17 : decode c_FW_areMethodNumbers 17 = .ok (.if_icmp .gt 17, 3) := by decide +kernel
theorem d_FW_areMethodNumbers_20 : decode c_FW_areMethodNumbers 20 = .ok (.iload_n 2, 1) := by decide +kernel
theorem d_FW_areMethodNumbers_21 : decode c_FW_areMethodNumbers 21 = .ok (.ifCond .lt 13, 3) := by decide +kernel
theorem d_FW_areMethodNumbers_24 : decode c_FW_areMethodNumbers 24 = .ok (.iload_n 2, 1) := by decide +kernel
theorem d_FW_areMethodNumbers_25 : decode c_FW_areMethodNumbers 25 = .ok (.bipush 8, 2) := by decide +kernel
theorem d_FW_areMethodNumbers_27 : decode c_FW_areMethodNumbers 27 = .ok (.if_icmp .gt 7, 3) := by decide +kernel
theorem d_FW_areMethodNumbers_30 : decode c_FW_areMethodNumbers 30 = .ok (.iconst 1, 1) := by decide +kernel
theorem d_FW_areMethodNumbers_31 : decode c_FW_areMethodNumbers 31 = .ok (.goto 4, 3) := by decide +kernel
theorem d_FW_areMethodNumbers_34 : decode c_FW_areMethodNumbers 34 = .ok (.iconst 0, 1) := by decide +kernel
theorem d_FW_areMethodNumbers_35 : decode c_FW_areMethodNumbers 35 = .ok (.ireturn, 1) := by decide +kernel
theorem d_CO_methodsEnd_0 : decode c_CO_methodsEnd 0 = .ok (.aload_n 0, 1) := by decide +kernel
theorem d_CO_methodsEnd_1 : decode c_CO_methodsEnd 1 = .ok (.getfield 26, 3) := by decide +kernel
theorem d_CO_methodsEnd_4 : decode c_CO_methodsEnd 4 = .ok (.ifCond .ne 7, 3) := by decide +kernel
theorem d_CO_methodsEnd_7 : decode c_CO_methodsEnd 7 = .ok (.iconst 0, 1) := by decide +kernel
theorem d_CO_methodsEnd_8 : decode c_CO_methodsEnd 8 = .ok (.goto 17, 3) := by decide +kernel
theorem d_CO_methodsEnd_11 : decode c_CO_methodsEnd 11 = .ok (.aload_n 0, 1) := by decide +kernel
theorem d_CO_methodsEnd_12 : decode c_CO_methodsEnd 12 = .ok (.getfield 15, 3) := by decide +kernel
theorem d_CO_methodsEnd_15 : decode c_CO_methodsEnd 15 = .ok (.aload_n 0, 1) := by decide +kernel
theorem d_CO_methodsEnd_16 : decode c_CO_methodsEnd 16 = .ok (.getfield 26, 3) := by decide +kernel
theorem d_CO_methodsEnd_19 : decode c_CO_methodsEnd 19 = .ok (.iconst 1, 1) := by decide +kernel
theorem d_CO_methodsEnd_20 : decode c_CO_methodsEnd 20 = .ok (.isub, 1) := by decide +kernel
theorem d_CO_methodsEnd_21 : decode c_CO_methodsEnd 21 = .ok (.aaload, 1) := by decide +kernel
theorem d_CO_methodsEnd_22 : decode c_CO_methodsEnd 22 = .ok (.invokevirtual 76, 3) := by decide +kernel
theorem d_CO_methodsEnd_25 : decode c_CO_methodsEnd 25 = .ok (.ireturn, 1) := by decide +kernel
theorem d_CO_bytesLeft_0 : decode c_CO_bytesLeft 0 = .ok (.aload_n 0, 1) := by decide +kernel
theorem d_CO_bytesLeft_1 : decode c_CO_bytesLeft 1 = .ok (.getfield 22, 3) := by decide +kernel
theorem d_CO_bytesLeft_4 : decode c_CO_bytesLeft 4 = .ok (.aload_n 0, 1) := by decide +kernel
theorem d_CO_bytesLeft_5 : decode c_CO_bytesLeft 5 = .ok (.invokevirtual 29, 3) := by decide +kernel
theorem d_CO_bytesLeft_8 : decode c_CO_bytesLeft 8 = .ok (.isub, 1) := by decide +kernel
theorem d_CO_bytesLeft_9 : decode c_CO_bytesLeft 9 = .ok (.ireturn, 1) := by decide +kernel
theorem d_CO_addMethod_0 : decode c_CO_addMethod 0 = .ok (.aload_n 0, 1) := by decide +kernel
theorem d_CO_addMethod_1 : decode c_CO_addMethod 1 = .ok (.getfield 15, 3) := by decide +kernel
theorem d_CO_addMethod_4 : decode c_CO_addMethod 4 = .ok (.aload_n 0, 1) := by decide +kernel
theorem d_CO_addMethod_5 : decode c_CO_addMethod 5 = .ok (.getfield 26, 3) := by decide +kernel
theorem d_CO_addMethod_8 : decode c_CO_addMethod 8 = .ok (.aaload, 1) := by decide +kernel
theorem d_CO_addMethod_9 : decode c_CO_addMethod 9 = .ok (.astore 6, 2) := by decide +kernel
theorem d_CO_addMethod_11 : decode c_CO_addMethod 11 = .ok (.aload 6, 2) := by decide +kernel
theorem d_CO_addMethod_13 : decode c_CO_addMethod 13 = .ok (.aload_n 0, 1) := by decide +kernel
theorem d_CO_addMethod_14 : decode c_CO_addMethod 14 = .ok (.invokevirtual 29, 3) := by decide +kernel
theorem d_CO_addMethod_17 : decode c_CO_addMethod 17 = .ok (.putfield 33, 3) := by decide +kernel
theorem d_CO_addMethod_20 : decode c_CO_addMethod 20 = .ok (.aload 6, 2) := by decide +kernel
theorem d_CO_addMethod_22 : decode c_CO_addMethod 22 = .ok (.iload_n 1, 1) := by decide +kernel
theorem d_CO_addMethod_23 : decode c_CO_addMethod 23 = .ok (.putfield 36, 3) := by decide +kernel
theorem d_CO_addMethod_26 : decode c_CO_addMethod 26 = .ok (.aload 6, 2) := by decide +kernel
theorem d_CO_addMethod_28 : decode c_CO_addMethod 28 = .ok (.iload_n 2, 1) := by decide +kernel
theorem d_CO_addMethod_29 : decode c_CO_addMethod 29 = .ok (.putfield 39, 3) := by decide +kernel
theorem d_CO_addMethod_32 : decode c_CO_addMethod 32 = .ok (.aload 6, 2) := by decide +kernel
theorem d_CO_addMethod_34 : decode c_CO_addMethod 34 = .ok (.iload_n 3, 1) := by decide +kernel
theorem d_CO_addMethod_35 : decode c_CO_addMethod 35 = .ok (.putfield 42, 3) := by decide +kernel
theorem d_CO_addMethod_38 : decode c_CO_addMethod 38 = .ok (.aload 6, 2) := by decide +kernel
theorem d_CO_addMethod_40 : decode c_CO_addMethod 40 = .ok (.iload 4, 2) := by decide +kernel
theorem d_CO_addMethod_42 : decode c_CO_addMethod 42 = .ok (.putfield 45, 3) := by decide +kernel
theorem d_CO_addMethod_45 : decode c_CO_addMethod 45 = .ok (.aload 6, 2) := by decide +kernel
theorem d_CO_addMethod_47 : decode c_CO_addMethod 47 = .ok (.iload 5, 2) := by decide +kernel
theorem d_CO_addMethod_49 : decode c_CO_addMethod 49 = .ok (.putfield 48, 3) := by decide +kernel
theorem d_CO_addMethod_52 : decode c_CO_addMethod 52 = .ok (.aload 6, 2) := by decide +kernel
theorem d_CO_addMethod_54 : decode c_CO_addMethod 54 = .ok (.iconst 0, 1) := by decide +kernel
theorem d_CO_addMethod_55 : decode c_CO_addMethod 55 = .ok (.putfield 52, 3) := by decide +kernel
theorem d_CO_addMethod_58 : decode c_CO_addMethod 58 = .ok (.aload_n 0, 1) := by decide +kernel
theorem d_CO_addMethod_59 : decode c_CO_addMethod 59 = .ok (.dup, 1) := by decide +kernel
theorem d_CO_addMethod_60 : decode c_CO_addMethod 60 = .ok (.getfield 26, 3) := by decide +kernel
theorem d_CO_addMethod_63 : decode c_CO_addMethod 63 = .ok (.iconst 1, 1) := by decide +kernel
theorem d_CO_addMethod_64 : decode c_CO_addMethod 64 = .ok (.iadd, 1) := by decide +kernel
theorem d_CO_addMethod_65 : decode c_CO_addMethod 65 = .ok (.putfield 26, 3) := by decide +kernel
theorem d_CO_addMethod_68 : decode c_CO_addMethod 68 = .ok (.aload 6, 2) := by decide +kernel
theorem d_CO_addMethod_70 : decode c_CO_addMethod 70 = .ok (.getfield 55, 3) := by decide +kernel
theorem d_CO_addMethod_73 : decode c_CO_addMethod 73 = .ok (.ireturn, 1) := by decide +kernel
theorem d_FW_method_0 : decode c_FW_method 0 = .ok (.iload_n 2, 1) := by decide +kernel
theorem d_FW_method_1 : decode c_FW_method 1 = .ok (.iload_n 3, 1) := by decide +kernel
theorem d_FW_method_2 : decode c_FW_method 2 = .ok (.iload 4, 2) := by decide +kernel
theorem d_FW_method_4 : decode c_FW_method 4 = .ok (.invokestatic 64, 3) := by decide +kernel
theorem d_FW_method_7 : decode c_FW_method 7 = .ok (.ifCond .eq 19, 3) := by decide +kernel
theorem d_FW_method_10 : decode c_FW_method 10 = .ok (.iload_n 1, 1) := by decide +kernel
theorem d_FW_method_11 : decode c_FW_method 11 = .ok (.iconst 1, 1) := by decide +kernel
theorem d_FW_method_12 : decode c_FW_method 12 = .ok (.if_icmp .lt 14, 3) := by decide +kernel
theorem d_FW_method_15 : decode c_FW_method 15 = .ok (.iload_n 1, 1) := by decide +kernel
theorem d_FW_method_16 : decode c_FW_method 16 = .ok (.aload_n 0, 1) := by decide +kernel
theorem d_FW_method_17 : decode c_FW_method 17 = .ok (.getfield 10, 3) := by decide +kernel
theorem d_FW_method_20 : decode c_FW_method 20 = .ok (.invokevirtual 68, 3) := by decide +kernel
theorem d_FW_method_23 : decode c_FW_method 23 = .ok (.if_icmp .le 11, 3) := by decide +kernel
theorem d_FW_method_26 : decode c_FW_method 26 = .ok (.new 72, 3) := by decide +kernel
theorem d_FW_method_29 : decode c_FW_method 29 = .ok (.dup, 1) := by decide +kernel
theorem d_FW_method_30 : decode c_FW_method 30 = .ok (.invokespecial 74, 3) := by decide +kernel
theorem d_FW_method_33 : decode c_FW_method 33 = .ok (.athrow, 1) := by decide +kernel
theorem d_FW_method_34 : decode c_FW_method 34 = .ok (.aload_n 0, 1) := by decide +kernel
theorem d_FW_method_35 : decode c_FW_method 35 = .ok (.getfield 47, 3) := by decide +kernel
theorem d_FW_method_38 : decode c_FW_method 38 = .ok (.ifCond .ne 15, 3) := by decide +kernel
theorem d_FW_method_41 : decode c_FW_method 41 = .ok (.aload_n 0, 1) := by decide +kernel
theorem d_FW_method_42 : decode c_FW_method 42 = .ok (.getfield 10, 3) := by decide +kernel
theorem d_FW_method_45 : decode c_FW_method 45 = .ok (.getfield 75, 3) := by decide +kernel
theorem d_FW_method_48 : decode c_FW_method 48 = .ok (.bipush 8, 2) := by decide +kernel
theorem d_FW_method_50 : decode c_FW_method 50 = .ok (.if_icmp .lt 11, 3) := by decide +kernel
theorem d_FW_method_53 : decode c_FW_method 53 = .ok (.new 58, 3) := by decide +kernel
theorem d_FW_method_56 : decode c_FW_method 56 = .ok (.dup, 1) := by decide +kernel
theorem d_FW_method_57 : decode c_FW_method 57 = .ok (.invokespecial 60, 3) := by decide +kernel
theorem d_FW_method_60 : decode c_FW_method 60 = .ok (.athrow, 1) := by decide +kernel
theorem d_FW_method_61 : decode c_FW_method 61 = .ok (.aload_n 0, 1) := by decide +kernel
theorem d_FW_method_62 : decode c_FW_method 62 = .ok (.getfield 10, 3) := by decide +kernel
theorem d_FW_method_65 : decode c_FW_method 65 = .ok (.iload_n 1, 1) := by decide +kernel
theorem d_FW_method_66 : decode c_FW_method 66 = .ok (.iload_n 2, 1) := by decide +kernel
theorem d_FW_method_67 : decode c_FW_method 67 = .ok (.iload_n 3, 1) := by decide +kernel
theorem d_FW_method_68 : decode c_FW_method 68 = .ok (.iload 4, 2) := by decide +kernel
theorem d_FW_method_70 : decode c_FW_method 70 = .ok (.iload 5, 2) := by decide +kernel
theorem d_FW_method_72 : decode c_FW_method 72 = .ok (.invokevirtual 78, 3) := by decide +kernel
theorem d_FW_method_75 : decode c_FW_method 75 = .ok (.ireturn, 1) := by decide +kernel
theorem d_CO_addHandler_0 : decode c_CO_addHandler 0 = .ok (.aload_n 0, 1) := by decide +kernel
theorem d_CO_addHandler_1 : decode c_CO_addHandler 1 = .ok (.getfield 26, 3) := by decide +kernel
theorem d_CO_addHandler_4 : decode c_CO_addHandler 4 = .ok (.ifCond .ne 5, 3) := by decide +kernel
theorem d_CO_addHandler_7 : decode c_CO_addHandler 7 = .ok (.iconst 0, 1) := by decide +kernel
theorem d_CO_addHandler_8 : decode c_CO_addHandler 8 = .ok (.ireturn, 1) := by decide +kernel
theorem d_CO_addHandler_9 : decode c_CO_addHandler 9 = .ok (.aload_n 0, 1) := by decide +kernel
theorem d_CO_addHandler_10 : decode c_CO_addHandler 10 = .ok (.getfield 15, 3) := by decide +kernel
theorem d_CO_addHandler_13 : decode c_CO_addHandler 13 = .ok (.aload_n 0, 1) := by decide +kernel
theorem d_CO_addHandler_14 : decode c_CO_addHandler 14 = .ok (.getfield 26, 3) := by decide +kernel
theorem d_CO_addHandler_17 : decode c_CO_addHandler 17 = .ok (.iconst 1, 1) := by decide +kernel
theorem d_CO_addHandler_18 : decode c_CO_addHandler 18 = .ok (.isub, 1) := by decide +kernel
theorem d_CO_addHandler_19 : decode c_CO_addHandler 19 = .ok (.aaload, 1) := by decide +kernel
theorem d_CO_addHandler_20 : decode c_CO_addHandler 20 = .ok (.astore 5, 2) := by decide +kernel
theorem d_CO_addHandler_22 : decode c_CO_addHandler 22 = .ok (.aload 5, 2) := by decide +kernel
theorem d_CO_addHandler_24 : decode c_CO_addHandler 24 = .ok (.getfield 52, 3) := by decide +kernel
theorem d_CO_addHandler_27 : decode c_CO_addHandler 27 = .ok (.iconst 4, 1) := by decide +kernel
theorem d_CO_addHandler_28 : decode c_CO_addHandler 28 = .ok (.if_icmp .lt 5, 3) := by decide +kernel
theorem d_CO_addHandler_31 : decode c_CO_addHandler 31 = .ok (.iconst 0, 1) := by decide +kernel
theorem d_CO_addHandler_32 : decode c_CO_addHandler 32 = .ok (.ireturn, 1) := by decide +kernel
theorem d_CO_addHandler_33 : decode c_CO_addHandler 33 = .ok (.aload 5, 2) := by decide +kernel
theorem d_CO_addHandler_35 : decode c_CO_addHandler 35 = .ok (.getfield 58, 3) := by decide +kernel
theorem d_CO_addHandler_38 : decode c_CO_addHandler 38 = .ok (.aload 5, 2) := by decide +kernel
theorem d_CO_addHandler_40 : decode c_CO_addHandler 40 = .ok (.getfield 52, 3) := by decide +kernel
theorem d_CO_addHandler_43 : decode c_CO_addHandler 43 = .ok (.aaload, 1) := by decide +kernel
theorem d_CO_addHandler_44 : decode c_CO_addHandler 44 = .ok (.astore 6, 2) := by decide +kernel
theorem d_CO_addHandler_46 : decode c_CO_addHandler 46 = .ok (.aload 6, 2) := by decide +kernel
theorem d_CO_addHandler_48 : decode c_CO_addHandler 48 = .ok (.iload_n 1, 1) := by decide +kernel
theorem d_CO_addHandler_49 : decode c_CO_addHandler 49 = .ok (.putfield 62, 3) := by decide +kernel
theorem d_CO_addHandler_52 : decode c_CO_addHandler 52 = .ok (.aload 6, 2) := by decide +kernel
theorem d_CO_addHandler_54 : decode c_CO_addHandler 54 = .ok (.iload_n 2, 1) := by decide +kernel
theorem d_CO_addHandler_55 : decode c_CO_addHandler 55 = .ok (.putfield 67, 3) := by decide +kernel
theorem d_CO_addHandler_58 : decode c_CO_addHandler 58 = .ok (.aload 6, 2) := by decide +kernel
theorem d_CO_addHandler_60 : decode c_CO_addHandler 60 = .ok (.iload_n 3, 1) := by decide +kernel
theorem d_CO_addHandler_61 : decode c_CO_addHandler 61 = .ok (.putfield 70, 3) := by decide +kernel
theorem d_CO_addHandler_64 : decode c_CO_addHandler 64 = .ok (.aload 6, 2) := by decide +kernel
theorem d_CO_addHandler_66 : decode c_CO_addHandler 66 = .ok (.iload 4, 2) := by decide +kernel
theorem d_CO_addHandler_68 : decode c_CO_addHandler 68 = .ok (.putfield 73, 3) := by decide +kernel
theorem d_CO_addHandler_71 : decode c_CO_addHandler 71 = .ok (.aload 5, 2) := by decide +kernel
theorem d_CO_addHandler_73 : decode c_CO_addHandler 73 = .ok (.dup, 1) := by decide +kernel
theorem d_CO_addHandler_74 : decode c_CO_addHandler 74 = .ok (.getfield 52, 3) := by decide +kernel
theorem d_CO_addHandler_77 : decode c_CO_addHandler 77 = .ok (.iconst 1, 1) := by decide +kernel
theorem d_CO_addHandler_78 : decode c_CO_addHandler 78 = .ok (.iadd, 1) := by decide +kernel
theorem d_CO_addHandler_79 : decode c_CO_addHandler 79 = .ok (.putfield 52, 3) := by decide +kernel
theorem d_CO_addHandler_82 : decode c_CO_addHandler 82 = .ok (.iconst 1, 1) := by decide +kernel
theorem d_CO_addHandler_83 : decode c_CO_addHandler 83 = .ok (.ireturn, 1) := by decide +kernel
theorem d_FW_handler_0 : decode c_FW_handler 0 = .ok (.aload_n 0, 1) := by decide +kernel
theorem d_FW_handler_1 : decode c_FW_handler 1 = .ok (.getfield 47, 3) := by decide +kernel
theorem d_FW_handler_4 : decode c_FW_handler 4 = .ok (.ifCond .ne 22, 3) := by decide +kernel
theorem d_FW_handler_7 : decode c_FW_handler 7 = .ok (.aload_n 0, 1) := by decide +kernel
theorem d_FW_handler_8 : decode c_FW_handler 8 = .ok (.getfield 10, 3) := by decide +kernel
theorem d_FW_handler_11 : decode c_FW_handler 11 = .ok (.iload_n 1, 1) := by decide +kernel
theorem d_FW_handler_12 : decode c_FW_handler 12 = .ok (.iload_n 2, 1) := by decide +kernel
theorem d_FW_handler_13 : decode c_FW_handler 13 = .ok (.iload_n 3, 1) := by decide +kernel
theorem d_FW_handler_14 : decode c_FW_handler 14 = .ok (.iload 4, 2) := by decide +kernel
theorem d_FW_handler_16 : decode c_FW_handler 16 = .ok (.invokevirtual 82, 3) := by decide +kernel
theorem d_FW_handler_19 : decode c_FW_handler 19 = .ok (.ifCond .eq 7, 3) := by decide +kernel
theorem d_FW_handler_22 : decode c_FW_handler 22 = .ok (.iconst 1, 1) := by decide +kernel
theorem d_FW_handler_23 : decode c_FW_handler 23 = .ok (.goto 4, 3) := by decide +kernel
theorem d_FW_handler_26 : decode c_FW_handler 26 = .ok (.iconst 0, 1) := by decide +kernel
theorem d_FW_handler_27 : decode c_FW_handler 27 = .ok (.ireturn, 1) := by decide +kernel
theorem d_OP_usesLocal_0 : decode c_OP_usesLocal 0 = .ok (.iload_n 0, 1) := by decide +kernel
theorem d_OP_usesLocal_1 : decode c_OP_usesLocal 1 = .ok (.bipush 21, 2) := by decide +kernel
theorem d_OP_usesLocal_3 : decode c_OP_usesLocal 3 = .ok (.if_icmp .eq 28, 3) := by decide +kernel
theorem d_OP_usesLocal_6 : decode c_OP_usesLocal 6 = .ok (.iload_n 0, 1) := by decide +kernel
theorem d_OP_usesLocal_7 : decode c_OP_usesLocal 7 = .ok (.bipush 25, 2) := by decide +kernel
theorem d_OP_usesLocal_9 : decode c_OP_usesLocal 9 = .ok (.if_icmp .eq 22, 3) := by decide +kernel
theorem d_OP_usesLocal_12 : decode c_OP_usesLocal 12 = .ok (.iload_n 0, 1) := by decide +kernel
theorem d_OP_usesLocal_13 : decode c_OP_usesLocal 13 = .ok (.bipush 54, 2) := by decide +kernel
theorem d_OP_usesLocal_15 : decode c_OP_usesLocal 15 = .ok (.if_icmp .eq 16, 3) := by decide +kernel
theorem d_OP_usesLocal_18 : decode c_OP_usesLocal 18 = .ok (.iload_n 0, 1) := by decide +kernel
theorem d_OP_usesLocal_19 : decode c_OP_usesLocal 19 = .ok (.bipush 58, 2) := by decide +kernel
theorem d_OP_usesLocal_21 : decode c_OP_usesLocal 21 = .ok (.if_icmp .eq 10, 3) := by decide +kernel
theorem d_OP_usesLocal_24 : decode c_OP_usesLocal 24 = .ok (.iload_n 0, 1) := by decide +kernel
theorem d_OP_usesLocal_25 : decode c_OP_usesLocal 25 = .ok (.sipush 132, 3) := by decide +kernel
theorem d_OP_usesLocal_28 : decode c_OP_usesLocal 28 = .ok (.if_icmp .ne 7, 3) := by decide +kernel
theorem d_OP_usesLocal_31 : decode c_OP_usesLocal 31 = .ok (.iconst 1, 1) := by decide +kernel
theorem d_OP_usesLocal_32 : decode c_OP_usesLocal 32 = .ok (.goto 4, 3) := by decide +kernel
theorem d_OP_usesLocal_35 : decode c_OP_usesLocal 35 = .ok (.iconst 0, 1) := by decide +kernel
theorem d_OP_usesLocal_36 : decode c_OP_usesLocal 36 = .ok (.ireturn, 1) := by decide +kernel
theorem d_CO_hasMethod_0 : decode c_CO_hasMethod 0 = .ok (.iload_n 1, 1) := by decide +kernel
theorem d_CO_hasMethod_1 : decode c_CO_hasMethod 1 = .ok (.ifCond .lt 15, 3) := by decide +kernel
theorem d_CO_hasMethod_4 : decode c_CO_hasMethod 4 = .ok (.iload_n 1, 1) := by decide +kernel
theorem d_CO_hasMethod_5 : decode c_CO_hasMethod 5 = .ok (.aload_n 0, 1) := by decide +kernel
theorem d_CO_hasMethod_6 : decode c_CO_hasMethod 6 = .ok (.getfield 26, 3) := by decide +kernel
theorem d_CO_hasMethod_9 : decode c_CO_hasMethod 9 = .ok (.if_icmp .ge 7, 3) := by decide +kernel
theorem d_CO_hasMethod_12 : decode c_CO_hasMethod 12 = .ok (.iconst 1, 1) := by decide +kernel
theorem d_CO_hasMethod_13 : decode c_CO_hasMethod 13 = .ok (.goto 4, 3) := by decide +kernel
theorem d_CO_hasMethod_16 : decode c_CO_hasMethod 16 = .ok (.iconst 0, 1) := by decide +kernel
theorem d_CO_hasMethod_17 : decode c_CO_hasMethod 17 = .ok (.ireturn, 1) := by decide +kernel
theorem d_SH_operandsHold_0 : decode c_SH_operandsHold 0 = .ok (.aload_n 0, 1) := by decide +kernel
theorem d_SH_operandsHold_1 : decode c_SH_operandsHold 1 = .ok (.getfield 16, 3) := by decide +kernel
theorem d_SH_operandsHold_4 : decode c_SH_operandsHold 4 = .ok (.getfield 56, 3) := by decide +kernel
theorem d_SH_operandsHold_7 : decode c_SH_operandsHold 7 = .ok (.invokestatic 59, 3) := by decide +kernel
theorem d_SH_operandsHold_10 : decode c_SH_operandsHold 10 = .ok (.ifCond .eq 23, 3) := by decide +kernel
theorem d_SH_operandsHold_13 : decode c_SH_operandsHold 13 = .ok (.aload_n 0, 1) := by decide +kernel
theorem d_SH_operandsHold_14 : decode c_SH_operandsHold 14 = .ok (.getfield 16, 3) := by decide +kernel
theorem d_SH_operandsHold_17 : decode c_SH_operandsHold 17 = .ok (.getfield 65, 3) := by decide +kernel
theorem d_SH_operandsHold_20 : decode c_SH_operandsHold 20 = .ok (.aload_n 1, 1) := by decide +kernel
theorem d_SH_operandsHold_21 : decode c_SH_operandsHold 21 = .ok (.getfield 68, 3) := by decide +kernel
theorem d_SH_operandsHold_24 : decode c_SH_operandsHold 24 = .ok (.if_icmp .ge 7, 3) := by decide +kernel
theorem d_SH_operandsHold_27 : decode c_SH_operandsHold 27 = .ok (.iconst 1, 1) := by decide +kernel
theorem d_SH_operandsHold_28 : decode c_SH_operandsHold 28 = .ok (.goto 4, 3) := by decide +kernel
theorem d_SH_operandsHold_31 : decode c_SH_operandsHold 31 = .ok (.iconst 0, 1) := by decide +kernel
theorem d_SH_operandsHold_32 : decode c_SH_operandsHold 32 = .ok (.ireturn, 1) := by decide +kernel
theorem d_SH_operandsHold_33 : decode c_SH_operandsHold 33 = .ok (.aload_n 0, 1) := by decide +kernel
theorem d_SH_operandsHold_34 : decode c_SH_operandsHold 34 = .ok (.getfield 16, 3) := by decide +kernel
theorem d_SH_operandsHold_37 : decode c_SH_operandsHold 37 = .ok (.getfield 56, 3) := by decide +kernel
theorem d_SH_operandsHold_40 : decode c_SH_operandsHold 40 = .ok (.lookupswitch 105 #[(178, 44), (179, 44), (184, 72), (188, 87)], 44) := by decide +kernel
theorem d_SH_operandsHold_84 : decode c_SH_operandsHold 84 = .ok (.aload_n 0, 1) := by decide +kernel
theorem d_SH_operandsHold_85 : decode c_SH_operandsHold 85 = .ok (.getfield 16, 3) := by decide +kernel
theorem d_SH_operandsHold_88 : decode c_SH_operandsHold 88 = .ok (.getfield 65, 3) := by decide +kernel
theorem d_SH_operandsHold_91 : decode c_SH_operandsHold 91 = .ok (.ifCond .lt 19, 3) := by decide +kernel
theorem d_SH_operandsHold_94 : decode c_SH_operandsHold 94 = .ok (.aload_n 0, 1) := by decide +kernel
theorem d_SH_operandsHold_95 : decode c_SH_operandsHold 95 = .ok (.getfield 16, 3) := by decide +kernel
theorem d_SH_operandsHold_98 : decode c_SH_operandsHold 98 = .ok (.getfield 65, 3) := by decide +kernel
theorem d_SH_operandsHold_101 : decode c_SH_operandsHold 101 = .ok (.bipush 8, 2) := by decide +kernel
theorem d_SH_operandsHold_103 : decode c_SH_operandsHold 103 = .ok (.if_icmp .ge 7, 3) := by decide +kernel
theorem d_SH_operandsHold_106 : decode c_SH_operandsHold 106 = .ok (.iconst 1, 1) := by decide +kernel
theorem d_SH_operandsHold_107 : decode c_SH_operandsHold 107 = .ok (.goto 4, 3) := by decide +kernel
theorem d_SH_operandsHold_110 : decode c_SH_operandsHold 110 = .ok (.iconst 0, 1) := by decide +kernel
theorem d_SH_operandsHold_111 : decode c_SH_operandsHold 111 = .ok (.ireturn, 1) := by decide +kernel
theorem d_SH_operandsHold_112 : decode c_SH_operandsHold 112 = .ok (.aload_n 0, 1) := by decide +kernel
theorem d_SH_operandsHold_113 : decode c_SH_operandsHold 113 = .ok (.getfield 7, 3) := by decide +kernel
theorem d_SH_operandsHold_116 : decode c_SH_operandsHold 116 = .ok (.aload_n 0, 1) := by decide +kernel
theorem d_SH_operandsHold_117 : decode c_SH_operandsHold 117 = .ok (.getfield 16, 3) := by decide +kernel
theorem d_SH_operandsHold_120 : decode c_SH_operandsHold 120 = .ok (.getfield 65, 3) := by decide +kernel
theorem d_SH_operandsHold_123 : decode c_SH_operandsHold 123 = .ok (.invokevirtual 73, 3) := by decide +kernel
theorem d_SH_operandsHold_126 : decode c_SH_operandsHold 126 = .ok (.ireturn, 1) := by decide +kernel
theorem d_SH_operandsHold_127 : decode c_SH_operandsHold 127 = .ok (.aload_n 0, 1) := by decide +kernel
theorem d_SH_operandsHold_128 : decode c_SH_operandsHold 128 = .ok (.getfield 16, 3) := by decide +kernel
theorem d_SH_operandsHold_131 : decode c_SH_operandsHold 131 = .ok (.getfield 65, 3) := by decide +kernel
theorem d_SH_operandsHold_134 : decode c_SH_operandsHold 134 = .ok (.bipush 10, 2) := by decide +kernel
theorem d_SH_operandsHold_136 : decode c_SH_operandsHold 136 = .ok (.if_icmp .ne 7, 3) := by decide +kernel
theorem d_SH_operandsHold_139 : decode c_SH_operandsHold 139 = .ok (.iconst 1, 1) := by decide +kernel
theorem d_SH_operandsHold_140 : decode c_SH_operandsHold 140 = .ok (.goto 4, 3) := by decide +kernel
theorem d_SH_operandsHold_143 : decode c_SH_operandsHold 143 = .ok (.iconst 0, 1) := by decide +kernel
theorem d_SH_operandsHold_144 : decode c_SH_operandsHold 144 = .ok (.ireturn, 1) := by decide +kernel
theorem d_SH_operandsHold_145 : decode c_SH_operandsHold 145 = .ok (.iconst 1, 1) := by decide +kernel
theorem d_SH_operandsHold_146 : decode c_SH_operandsHold 146 = .ok (.ireturn, 1) := by decide +kernel
theorem d_SH_findBeginnings_0 : decode c_SH_findBeginnings 0 = .ok (.aload_n 1, 1) := by decide +kernel
theorem d_SH_findBeginnings_1 : decode c_SH_findBeginnings 1 = .ok (.getfield 36, 3) := by decide +kernel
theorem d_SH_findBeginnings_4 : decode c_SH_findBeginnings 4 = .ok (.istore_n 2, 1) := by decide +kernel
theorem d_SH_findBeginnings_5 : decode c_SH_findBeginnings 5 = .ok (.aload_n 1, 1) := by decide +kernel
theorem d_SH_findBeginnings_6 : decode c_SH_findBeginnings 6 = .ok (.getfield 36, 3) := by decide +kernel
theorem d_SH_findBeginnings_9 : decode c_SH_findBeginnings 9 = .ok (.istore_n 3, 1) := by decide +kernel
theorem d_SH_findBeginnings_10 : decode c_SH_findBeginnings 10 = .ok (.iload_n 3, 1) := by decide +kernel
theorem d_SH_findBeginnings_11 : decode c_SH_findBeginnings 11 = .ok (.aload_n 1, 1) := by decide +kernel
theorem d_SH_findBeginnings_12 : decode c_SH_findBeginnings 12 = .ok (.invokevirtual 42, 3) := by decide +kernel
theorem d_SH_findBeginnings_15 : decode c_SH_findBeginnings 15 = .ok (.if_icmp .ge 84, 3) := by decide +kernel
theorem d_SH_findBeginnings_18 : decode c_SH_findBeginnings 18 = .ok (.aload_n 0, 1) := by decide +kernel
theorem d_SH_findBeginnings_19 : decode c_SH_findBeginnings 19 = .ok (.getfield 22, 3) := by decide +kernel
theorem d_SH_findBeginnings_22 : decode c_SH_findBeginnings 22 = .ok (.iload_n 3, 1) := by decide +kernel
theorem d_SH_findBeginnings_23 : decode c_SH_findBeginnings 23 = .ok (.iload_n 3, 1) := by decide +kernel
theorem d_SH_findBeginnings_24 : decode c_SH_findBeginnings 24 = .ok (.iload_n 2, 1) := by decide +kernel
theorem d_SH_findBeginnings_25 : decode c_SH_findBeginnings 25 = .ok (.if_icmp .ne 7, 3) := by decide +kernel
theorem d_SH_findBeginnings_28 : decode c_SH_findBeginnings 28 = .ok (.iconst 1, 1) := by decide +kernel
theorem d_SH_findBeginnings_29 : decode c_SH_findBeginnings 29 = .ok (.goto 4, 3) := by decide +kernel
theorem d_SH_findBeginnings_32 : decode c_SH_findBeginnings 32 = .ok (.iconst 0, 1) := by decide +kernel
theorem d_SH_findBeginnings_33 : decode c_SH_findBeginnings 33 = .ok (.bastore, 1) := by decide +kernel
theorem d_SH_findBeginnings_34 : decode c_SH_findBeginnings 34 = .ok (.aload_n 0, 1) := by decide +kernel
theorem d_SH_findBeginnings_35 : decode c_SH_findBeginnings 35 = .ok (.getfield 22, 3) := by decide +kernel
theorem d_SH_findBeginnings_38 : decode c_SH_findBeginnings 38 = .ok (.iload_n 3, 1) := by decide +kernel
theorem d_SH_findBeginnings_39 : decode c_SH_findBeginnings 39 = .ok (.baload, 1) := by decide +kernel
theorem d_SH_findBeginnings_40 : decode c_SH_findBeginnings 40 = .ok (.ifCond .eq 53, 3) := by decide +kernel
theorem d_SH_findBeginnings_43 : decode c_SH_findBeginnings 43 = .ok (.aload_n 0, 1) := by decide +kernel
theorem d_SH_findBeginnings_44 : decode c_SH_findBeginnings 44 = .ok (.getfield 16, 3) := by decide +kernel
theorem d_SH_findBeginnings_47 : decode c_SH_findBeginnings 47 = .ok (.aload_n 0, 1) := by decide +kernel
theorem d_SH_findBeginnings_48 : decode c_SH_findBeginnings 48 = .ok (.getfield 7, 3) := by decide +kernel
theorem d_SH_findBeginnings_51 : decode c_SH_findBeginnings 51 = .ok (.iload_n 3, 1) := by decide +kernel
theorem d_SH_findBeginnings_52 : decode c_SH_findBeginnings 52 = .ok (.invokevirtual 46, 3) := by decide +kernel
theorem d_SH_findBeginnings_55 : decode c_SH_findBeginnings 55 = .ok (.iload_n 3, 1) := by decide +kernel
theorem d_SH_findBeginnings_56 : decode c_SH_findBeginnings 56 = .ok (.aload_n 0, 1) := by decide +kernel
theorem d_SH_findBeginnings_57 : decode c_SH_findBeginnings 57 = .ok (.getfield 16, 3) := by decide +kernel
theorem d_SH_findBeginnings_60 : decode c_SH_findBeginnings 60 = .ok (.getfield 50, 3) := by decide +kernel
theorem d_SH_findBeginnings_63 : decode c_SH_findBeginnings 63 = .ok (.iadd, 1) := by decide +kernel
theorem d_SH_findBeginnings_64 : decode c_SH_findBeginnings 64 = .ok (.istore_n 2, 1) := by decide +kernel
theorem d_SH_findBeginnings_65 : decode c_SH_findBeginnings 65 = .ok (.aload_n 0, 1) := by decide +kernel
theorem d_SH_findBeginnings_66 : decode c_SH_findBeginnings 66 = .ok (.getfield 16, 3) := by decide +kernel
theorem d_SH_findBeginnings_69 : decode c_SH_findBeginnings 69 = .ok (.getfield 50, 3) := by decide +kernel
theorem d_SH_findBeginnings_72 : decode c_SH_findBeginnings 72 = .ok (.ifCond .eq 19, 3) := by decide +kernel
theorem d_SH_findBeginnings_75 : decode c_SH_findBeginnings 75 = .ok (.iload_n 2, 1) := by decide +kernel
theorem d_SH_findBeginnings_76 : decode c_SH_findBeginnings 76 = .ok (.aload_n 1, 1) := by decide +kernel
theorem d_SH_findBeginnings_77 : decode c_SH_findBeginnings 77 = .ok (.invokevirtual 42, 3) := by decide +kernel
theorem d_SH_findBeginnings_80 : decode c_SH_findBeginnings 80 = .ok (.if_icmp .gt 11, 3) := by decide +kernel
theorem d_SH_findBeginnings_83 : decode c_SH_findBeginnings 83 = .ok (.aload_n 0, 1) := by decide +kernel
theorem d_SH_findBeginnings_84 : decode c_SH_findBeginnings 84 = .ok (.aload_n 1, 1) := by decide +kernel
theorem d_SH_findBeginnings_85 : decode c_SH_findBeginnings 85 = .ok (.invokevirtual 53, 3) := by decide +kernel
theorem d_SH_findBeginnings_88 : decode c_SH_findBeginnings 88 = .ok (.ifCond .ne 5, 3) := by decide +kernel
theorem d_SH_findBeginnings_91 : decode c_SH_findBeginnings 91 = .ok (.iconst 0, 1) := by decide +kernel
theorem d_SH_findBeginnings_92 : decode c_SH_findBeginnings 92 = .ok (.ireturn, 1) := by decide +kernel
theorem d_SH_findBeginnings_93 : decode c_SH_findBeginnings 93 = .ok (.iinc 3 1, 3) := by decide +kernel
theorem d_SH_findBeginnings_96 : decode c_SH_findBeginnings 96 = .ok (.goto (-86), 3) := by decide +kernel
theorem d_SH_findBeginnings_99 : decode c_SH_findBeginnings 99 = .ok (.iconst 1, 1) := by decide +kernel
theorem d_SH_findBeginnings_100 : decode c_SH_findBeginnings 100 = .ok (.ireturn, 1) := by decide +kernel
theorem d_SH_isBeginning_0 : decode c_SH_isBeginning 0 = .ok (.iload_n 2, 1) := by decide +kernel
theorem d_SH_isBeginning_1 : decode c_SH_isBeginning 1 = .ok (.ifCond .lt 29, 3) := by decide +kernel
theorem d_SH_isBeginning_4 : decode c_SH_isBeginning 4 = .ok (.iload_n 2, 1) := by decide +kernel
theorem d_SH_isBeginning_5 : decode c_SH_isBeginning 5 = .ok (.aload_n 1, 1) := by decide +kernel
theorem d_SH_isBeginning_6 : decode c_SH_isBeginning 6 = .ok (.getfield 76, 3) := by decide +kernel
theorem d_SH_isBeginning_9 : decode c_SH_isBeginning 9 = .ok (.if_icmp .ge 21, 3) := by decide +kernel
theorem d_SH_isBeginning_12 : decode c_SH_isBeginning 12 = .ok (.aload_n 0, 1) := by decide +kernel
theorem d_SH_isBeginning_13 : decode c_SH_isBeginning 13 = .ok (.getfield 22, 3) := by decide +kernel
theorem d_SH_isBeginning_16 : decode c_SH_isBeginning 16 = .ok (.aload_n 1, 1) := by decide +kernel
theorem d_SH_isBeginning_17 : decode c_SH_isBeginning 17 = .ok (.getfield 36, 3) := by decide +kernel
theorem d_SH_isBeginning_20 : decode c_SH_isBeginning 20 = .ok (.iload_n 2, 1) := by decide +kernel
theorem d_SH_isBeginning_21 : decode c_SH_isBeginning 21 = .ok (.iadd, 1) := by decide +kernel
theorem d_SH_isBeginning_22 : decode c_SH_isBeginning 22 = .ok (.baload, 1) := by decide +kernel
theorem d_SH_isBeginning_23 : decode c_SH_isBeginning 23 = .ok (.ifCond .eq 7, 3) := by decide +kernel
theorem d_SH_isBeginning_26 : decode c_SH_isBeginning 26 = .ok (.iconst 1, 1) := by decide +kernel
theorem d_SH_isBeginning_27 : decode c_SH_isBeginning 27 = .ok (.goto 4, 3) := by decide +kernel
theorem d_SH_isBeginning_30 : decode c_SH_isBeginning 30 = .ok (.iconst 0, 1) := by decide +kernel
theorem d_SH_isBeginning_31 : decode c_SH_isBeginning 31 = .ok (.ireturn, 1) := by decide +kernel
theorem d_SH_jumpsHold_0 : decode c_SH_jumpsHold 0 = .ok (.iconst 0, 1) := by decide +kernel
theorem d_SH_jumpsHold_1 : decode c_SH_jumpsHold 1 = .ok (.istore_n 2, 1) := by decide +kernel
theorem d_SH_jumpsHold_2 : decode c_SH_jumpsHold 2 = .ok (.iload_n 2, 1) := by decide +kernel
theorem d_SH_jumpsHold_3 : decode c_SH_jumpsHold 3 = .ok (.aload_n 1, 1) := by decide +kernel
theorem d_SH_jumpsHold_4 : decode c_SH_jumpsHold 4 = .ok (.getfield 76, 3) := by decide +kernel
theorem d_SH_jumpsHold_7 : decode c_SH_jumpsHold 7 = .ok (.if_icmp .ge 67, 3) := by decide +kernel
theorem d_SH_jumpsHold_10 : decode c_SH_jumpsHold 10 = .ok (.aload_n 0, 1) := by decide +kernel
theorem d_SH_jumpsHold_11 : decode c_SH_jumpsHold 11 = .ok (.aload_n 1, 1) := by decide +kernel
theorem d_SH_jumpsHold_12 : decode c_SH_jumpsHold 12 = .ok (.iload_n 2, 1) := by decide +kernel
theorem d_SH_jumpsHold_13 : decode c_SH_jumpsHold 13 = .ok (.invokevirtual 79, 3) := by decide +kernel
theorem d_SH_jumpsHold_16 : decode c_SH_jumpsHold 16 = .ok (.ifCond .eq 52, 3) := by decide +kernel
theorem d_SH_jumpsHold_19 : decode c_SH_jumpsHold 19 = .ok (.aload_n 0, 1) := by decide +kernel
theorem d_SH_jumpsHold_20 : decode c_SH_jumpsHold 20 = .ok (.getfield 16, 3) := by decide +kernel
theorem d_SH_jumpsHold_23 : decode c_SH_jumpsHold 23 = .ok (.aload_n 0, 1) := by decide +kernel
theorem d_SH_jumpsHold_24 : decode c_SH_jumpsHold 24 = .ok (.getfield 7, 3) := by decide +kernel
theorem d_SH_jumpsHold_27 : decode c_SH_jumpsHold 27 = .ok (.aload_n 1, 1) := by decide +kernel
theorem d_SH_jumpsHold_28 : decode c_SH_jumpsHold 28 = .ok (.getfield 36, 3) := by decide +kernel
theorem d_SH_jumpsHold_31 : decode c_SH_jumpsHold 31 = .ok (.iload_n 2, 1) := by decide +kernel
theorem d_SH_jumpsHold_32 : decode c_SH_jumpsHold 32 = .ok (.iadd, 1) := by decide +kernel
theorem d_SH_jumpsHold_33 : decode c_SH_jumpsHold 33 = .ok (.invokevirtual 46, 3) := by decide +kernel
theorem d_SH_jumpsHold_36 : decode c_SH_jumpsHold 36 = .ok (.aload_n 0, 1) := by decide +kernel
theorem d_SH_jumpsHold_37 : decode c_SH_jumpsHold 37 = .ok (.getfield 16, 3) := by decide +kernel
theorem d_SH_jumpsHold_40 : decode c_SH_jumpsHold 40 = .ok (.getfield 56, 3) := by decide +kernel
theorem d_SH_jumpsHold_43 : decode c_SH_jumpsHold 43 = .ok (.invokestatic 83, 3) := by decide +kernel
theorem d_SH_jumpsHold_46 : decode c_SH_jumpsHold 46 = .ok (.ifCond .eq 22, 3) := by decide +kernel
theorem d_SH_jumpsHold_49 : decode c_SH_jumpsHold 49 = .ok (.aload_n 0, 1) := by decide +kernel
theorem d_SH_jumpsHold_50 : decode c_SH_jumpsHold 50 = .ok (.aload_n 1, 1) := by decide +kernel
theorem d_SH_jumpsHold_51 : decode c_SH_jumpsHold 51 = .ok (.iload_n 2, 1) := by decide +kernel
theorem d_SH_jumpsHold_52 : decode c_SH_jumpsHold 52 = .ok (.aload_n 0, 1) := by decide +kernel
theorem d_SH_jumpsHold_53 : decode c_SH_jumpsHold 53 = .ok (.getfield 16, 3) := by decide +kernel
theorem d_SH_jumpsHold_56 : decode c_SH_jumpsHold 56 = .ok (.getfield 65, 3) := by decide +kernel
theorem d_SH_jumpsHold_59 : decode c_SH_jumpsHold 59 = .ok (.iadd, 1) := by decide +kernel
theorem d_SH_jumpsHold_60 : decode c_SH_jumpsHold 60 = .ok (.invokevirtual 79, 3) := by decide +kernel
theorem d_SH_jumpsHold_63 : decode c_SH_jumpsHold 63 = .ok (.ifCond .ne 5, 3) := by decide +kernel
theorem d_SH_jumpsHold_66 : decode c_SH_jumpsHold 66 = .ok (.iconst 0, 1) := by decide +kernel
theorem d_SH_jumpsHold_67 : decode c_SH_jumpsHold 67 = .ok (.ireturn, 1) := by decide +kernel
theorem d_SH_jumpsHold_68 : decode c_SH_jumpsHold 68 = .ok (.iinc 2 1, 3) := by decide +kernel
theorem d_SH_jumpsHold_71 : decode c_SH_jumpsHold 71 = .ok (.goto (-69), 3) := by decide +kernel
theorem d_SH_jumpsHold_74 : decode c_SH_jumpsHold 74 = .ok (.iconst 1, 1) := by decide +kernel
theorem d_SH_jumpsHold_75 : decode c_SH_jumpsHold 75 = .ok (.ireturn, 1) := by decide +kernel
theorem d_SH_handlerHolds_0 : decode c_SH_handlerHolds 0 = .ok (.aload_n 2, 1) := by decide +kernel
theorem d_SH_handlerHolds_1 : decode c_SH_handlerHolds 1 = .ok (.getfield 97, 3) := by decide +kernel
theorem d_SH_handlerHolds_4 : decode c_SH_handlerHolds 4 = .ok (.aload_n 2, 1) := by decide +kernel
theorem d_SH_handlerHolds_5 : decode c_SH_handlerHolds 5 = .ok (.getfield 102, 3) := by decide +kernel
theorem d_SH_handlerHolds_8 : decode c_SH_handlerHolds 8 = .ok (.if_icmp .ge 69, 3) := by decide +kernel
theorem d_SH_handlerHolds_11 : decode c_SH_handlerHolds 11 = .ok (.aload_n 0, 1) := by decide +kernel
theorem d_SH_handlerHolds_12 : decode c_SH_handlerHolds 12 = .ok (.aload_n 1, 1) := by decide +kernel
theorem d_SH_handlerHolds_13 : decode c_SH_handlerHolds 13 = .ok (.aload_n 2, 1) := by decide +kernel
theorem d_SH_handlerHolds_14 : decode c_SH_handlerHolds 14 = .ok (.getfield 97, 3) := by decide +kernel
theorem d_SH_handlerHolds_17 : decode c_SH_handlerHolds 17 = .ok (.invokevirtual 79, 3) := by decide +kernel
theorem d_SH_handlerHolds_20 : decode c_SH_handlerHolds 20 = .ok (.ifCond .eq 57, 3) := by decide +kernel
theorem d_SH_handlerHolds_23 : decode c_SH_handlerHolds 23 = .ok (.aload_n 2, 1) := by decide +kernel
theorem d_SH_handlerHolds_24 : decode c_SH_handlerHolds 24 = .ok (.getfield 102, 3) := by decide +kernel
theorem d_SH_handlerHolds_27 : decode c_SH_handlerHolds 27 = .ok (.aload_n 1, 1) := by decide +kernel
theorem d_SH_handlerHolds_28 : decode c_SH_handlerHolds 28 = .ok (.getfield 76, 3) := by decide +kernel
theorem d_SH_handlerHolds_31 : decode c_SH_handlerHolds 31 = .ok (.if_icmp .eq 15, 3) := by decide +kernel
theorem d_SH_handlerHolds_34 : decode c_SH_handlerHolds 34 = .ok (.aload_n 0, 1) := by decide +kernel
theorem d_SH_handlerHolds_35 : decode c_SH_handlerHolds 35 = .ok (.aload_n 1, 1) := by decide +kernel
theorem d_SH_handlerHolds_36 : decode c_SH_handlerHolds 36 = .ok (.aload_n 2, 1) := by decide +kernel
theorem d_SH_handlerHolds_37 : decode c_SH_handlerHolds 37 = .ok (.getfield 102, 3) := by decide +kernel
theorem d_SH_handlerHolds_40 : decode c_SH_handlerHolds 40 = .ok (.invokevirtual 79, 3) := by decide +kernel
theorem d_SH_handlerHolds_43 : decode c_SH_handlerHolds 43 = .ok (.ifCond .eq 34, 3) := by decide +kernel
theorem d_SH_handlerHolds_46 : decode c_SH_handlerHolds 46 = .ok (.aload_n 0, 1) := by decide +kernel
theorem d_SH_handlerHolds_47 : decode c_SH_handlerHolds 47 = .ok (.aload_n 1, 1) := by decide +kernel
theorem d_SH_handlerHolds_48 : decode c_SH_handlerHolds 48 = .ok (.aload_n 2, 1) := by decide +kernel
theorem d_SH_handlerHolds_49 : decode c_SH_handlerHolds 49 = .ok (.getfield 105, 3) := by decide +kernel
theorem d_SH_handlerHolds_52 : decode c_SH_handlerHolds 52 = .ok (.invokevirtual 79, 3) := by decide +kernel
theorem d_SH_handlerHolds_55 : decode c_SH_handlerHolds 55 = .ok (.ifCond .eq 22, 3) := by decide +kernel
theorem d_SH_handlerHolds_58 : decode c_SH_handlerHolds 58 = .ok (.aload_n 2, 1) := by decide +kernel
theorem d_SH_handlerHolds_59 : decode c_SH_handlerHolds 59 = .ok (.getfield 108, 3) := by decide +kernel
theorem d_SH_handlerHolds_62 : decode c_SH_handlerHolds 62 = .ok (.ifCond .lt 15, 3) := by decide +kernel
theorem d_SH_handlerHolds_65 : decode c_SH_handlerHolds 65 = .ok (.aload_n 2, 1) := by decide +kernel
theorem d_SH_handlerHolds_66 : decode c_SH_handlerHolds 66 = .ok (.getfield 108, 3) := by decide +kernel
theorem d_SH_handlerHolds_69 : decode c_SH_handlerHolds 69 = .ok (.iconst 4, 1) := by decide +kernel
theorem d_SH_handlerHolds_70 : decode c_SH_handlerHolds 70 = .ok (.if_icmp .gt 7, 3) := by decide +kernel
theorem d_SH_handlerHolds_73 : decode c_SH_handlerHolds 73 = .ok (.iconst 1, 1) := by decide +kernel
theorem d_SH_handlerHolds_74 : decode c_SH_handlerHolds 74 = .ok (.goto 4, 3) := by decide +kernel
theorem d_SH_handlerHolds_77 : decode c_SH_handlerHolds 77 = .ok (.iconst 0, 1) := by decide +kernel
theorem d_SH_handlerHolds_78 : decode c_SH_handlerHolds 78 = .ok (.ireturn, 1) := by decide +kernel
theorem d_SH_handlersHold_0 : decode c_SH_handlersHold 0 = .ok (.iconst 0, 1) := by decide +kernel
theorem d_SH_handlersHold_1 : decode c_SH_handlersHold 1 = .ok (.istore_n 2, 1) := by decide +kernel
theorem d_SH_handlersHold_2 : decode c_SH_handlersHold 2 = .ok (.iload_n 2, 1) := by decide +kernel
theorem d_SH_handlersHold_3 : decode c_SH_handlersHold 3 = .ok (.aload_n 1, 1) := by decide +kernel
theorem d_SH_handlersHold_4 : decode c_SH_handlersHold 4 = .ok (.getfield 86, 3) := by decide +kernel
theorem d_SH_handlersHold_7 : decode c_SH_handlersHold 7 = .ok (.if_icmp .ge 25, 3) := by decide +kernel
theorem d_SH_handlersHold_10 : decode c_SH_handlersHold 10 = .ok (.aload_n 0, 1) := by decide +kernel
theorem d_SH_handlersHold_11 : decode c_SH_handlersHold 11 = .ok (.aload_n 1, 1) := by decide +kernel
theorem d_SH_handlersHold_12 : decode c_SH_handlersHold 12 = .ok (.aload_n 1, 1) := by decide +kernel
theorem d_SH_handlersHold_13 : decode c_SH_handlersHold 13 = .ok (.getfield 89, 3) := by decide +kernel
theorem d_SH_handlersHold_16 : decode c_SH_handlersHold 16 = .ok (.iload_n 2, 1) := by decide +kernel
theorem d_SH_handlersHold_17 : decode c_SH_handlersHold 17 = .ok (.aaload, 1) := by decide +kernel
theorem d_SH_handlersHold_18 : decode c_SH_handlersHold 18 = .ok (.invokevirtual 93, 3) := by decide +kernel
theorem d_SH_handlersHold_21 : decode c_SH_handlersHold 21 = .ok (.ifCond .ne 5, 3) := by decide +kernel
theorem d_SH_handlersHold_24 : decode c_SH_handlersHold 24 = .ok (.iconst 0, 1) := by decide +kernel
theorem d_SH_handlersHold_25 : decode c_SH_handlersHold 25 = .ok (.ireturn, 1) := by decide +kernel
theorem d_SH_handlersHold_26 : decode c_SH_handlersHold 26 = .ok (.iinc 2 1, 3) := by decide +kernel
theorem d_SH_handlersHold_29 : decode c_SH_handlersHold 29 = .ok (.goto (-27), 3) := by decide +kernel
theorem d_SH_handlersHold_32 : decode c_SH_handlersHold 32 = .ok (.iconst 1, 1) := by decide +kernel
theorem d_SH_handlersHold_33 : decode c_SH_handlersHold 33 = .ok (.ireturn, 1) := by decide +kernel
theorem d_SH_holdsFor_0 : decode c_SH_holdsFor 0 = .ok (.aload_n 0, 1) := by decide +kernel
theorem d_SH_holdsFor_1 : decode c_SH_holdsFor 1 = .ok (.aload_n 1, 1) := by decide +kernel
theorem d_SH_holdsFor_2 : decode c_SH_holdsFor 2 = .ok (.invokevirtual 26, 3) := by decide +kernel
theorem d_SH_holdsFor_5 : decode c_SH_holdsFor 5 = .ok (.ifCond .eq 23, 3) := by decide +kernel
theorem d_SH_holdsFor_8 : decode c_SH_holdsFor 8 = .ok (.aload_n 0, 1) := by decide +kernel
theorem d_SH_holdsFor_9 : decode c_SH_holdsFor 9 = .ok (.aload_n 1, 1) := by decide +kernel
theorem d_SH_holdsFor_10 : decode c_SH_holdsFor 10 = .ok (.invokevirtual 30, 3) := by decide +kernel
theorem d_SH_holdsFor_13 : decode c_SH_holdsFor 13 = .ok (.ifCond .eq 15, 3) := by decide +kernel
theorem d_SH_holdsFor_16 : decode c_SH_holdsFor 16 = .ok (.aload_n 0, 1) := by decide +kernel
theorem d_SH_holdsFor_17 : decode c_SH_holdsFor 17 = .ok (.aload_n 1, 1) := by decide +kernel
theorem d_SH_holdsFor_18 : decode c_SH_holdsFor 18 = .ok (.invokevirtual 33, 3) := by decide +kernel
theorem d_SH_holdsFor_21 : decode c_SH_holdsFor 21 = .ok (.ifCond .eq 7, 3) := by decide +kernel
theorem d_SH_holdsFor_24 : decode c_SH_holdsFor 24 = .ok (.iconst 1, 1) := by decide +kernel
theorem d_SH_holdsFor_25 : decode c_SH_holdsFor 25 = .ok (.goto 4, 3) := by decide +kernel
theorem d_SH_holdsFor_28 : decode c_SH_holdsFor 28 = .ok (.iconst 0, 1) := by decide +kernel
theorem d_SH_holdsFor_29 : decode c_SH_holdsFor 29 = .ok (.ireturn, 1) := by decide +kernel
theorem d_FL_forgetStates_0 : decode c_FL_forgetStates 0 = .ok (.aload_n 1, 1) := by decide +kernel
theorem d_FL_forgetStates_1 : decode c_FL_forgetStates 1 = .ok (.getfield 57, 3) := by decide +kernel
theorem d_FL_forgetStates_4 : decode c_FL_forgetStates 4 = .ok (.istore_n 2, 1) := by decide +kernel
theorem d_FL_forgetStates_5 : decode c_FL_forgetStates 5 = .ok (.iload_n 2, 1) := by decide +kernel
theorem d_FL_forgetStates_6 : decode c_FL_forgetStates 6 = .ok (.aload_n 1, 1) := by decide +kernel
theorem d_FL_forgetStates_7 : decode c_FL_forgetStates 7 = .ok (.invokevirtual 66, 3) := by decide +kernel
theorem d_FL_forgetStates_10 : decode c_FL_forgetStates 10 = .ok (.if_icmp .ge 23, 3) := by decide +kernel
theorem d_FL_forgetStates_13 : decode c_FL_forgetStates 13 = .ok (.aload_n 0, 1) := by decide +kernel
theorem d_FL_forgetStates_14 : decode c_FL_forgetStates 14 = .ok (.getfield 31, 3) := by decide +kernel
theorem d_FL_forgetStates_17 : decode c_FL_forgetStates 17 = .ok (.iload_n 2, 1) := by decide +kernel
theorem d_FL_forgetStates_18 : decode c_FL_forgetStates 18 = .ok (.iconst (-1), 1) := by decide +kernel
theorem d_FL_forgetStates_19 : decode c_FL_forgetStates 19 = .ok (.iastore, 1) := by decide +kernel
theorem d_FL_forgetStates_20 : decode c_FL_forgetStates 20 = .ok (.aload_n 0, 1) := by decide +kernel
theorem d_FL_forgetStates_21 : decode c_FL_forgetStates 21 = .ok (.getfield 37, 3) := by decide +kernel
theorem d_FL_forgetStates_24 : decode c_FL_forgetStates 24 = .ok (.iload_n 2, 1) := by decide +kernel
theorem d_FL_forgetStates_25 : decode c_FL_forgetStates 25 = .ok (.iconst 0, 1) := by decide +kernel
theorem d_FL_forgetStates_26 : decode c_FL_forgetStates 26 = .ok (.bastore, 1) := by decide +kernel
theorem d_FL_forgetStates_27 : decode c_FL_forgetStates 27 = .ok (.iinc 2 1, 3) := by decide +kernel
theorem d_FL_forgetStates_30 : decode c_FL_forgetStates 30 = .ok (.goto (-25), 3) := by decide +kernel
theorem d_FL_forgetStates_33 : decode c_FL_forgetStates 33 = .ok (.aload_n 0, 1) := by decide +kernel
theorem d_FL_forgetStates_34 : decode c_FL_forgetStates 34 = .ok (.iconst 0, 1) := by decide +kernel
theorem d_FL_forgetStates_35 : decode c_FL_forgetStates 35 = .ok (.putfield 53, 3) := by decide +kernel
theorem d_FL_forgetStates_38 : decode c_FL_forgetStates 38 = .ok (.return_, 1) := by decide +kernel
theorem d_TY_with_0 : decode c_TY_with 0 = .ok (.iload_n 0, 1) := by decide +kernel
theorem d_TY_with_1 : decode c_TY_with 1 = .ok (.iconst 3, 1) := by decide +kernel
theorem d_TY_with_2 : decode c_TY_with 2 = .ok (.iconst 2, 1) := by decide +kernel
theorem d_TY_with_3 : decode c_TY_with 3 = .ok (.iload_n 1, 1) := by decide +kernel
theorem d_TY_with_4 : decode c_TY_with 4 = .ok (.imul, 1) := by decide +kernel
theorem d_TY_with_5 : decode c_TY_with 5 = .ok (.ishl, 1) := by decide +kernel
theorem d_TY_with_6 : decode c_TY_with 6 = .ok (.iconst (-1), 1) := by decide +kernel
theorem d_TY_with_7 : decode c_TY_with 7 = .ok (.ixor, 1) := by decide +kernel
theorem d_TY_with_8 : decode c_TY_with 8 = .ok (.iand, 1) := by decide +kernel
theorem d_TY_with_9 : decode c_TY_with 9 = .ok (.iload_n 2, 1) := by decide +kernel
theorem d_TY_with_10 : decode c_TY_with 10 = .ok (.iconst 2, 1) := by decide +kernel
theorem d_TY_with_11 : decode c_TY_with 11 = .ok (.iload_n 1, 1) := by decide +kernel
theorem d_TY_with_12 : decode c_TY_with 12 = .ok (.imul, 1) := by decide +kernel
theorem d_TY_with_13 : decode c_TY_with 13 = .ok (.ishl, 1) := by decide +kernel
theorem d_TY_with_14 : decode c_TY_with 14 = .ok (.ior, 1) := by decide +kernel
theorem d_TY_with_15 : decode c_TY_with 15 = .ok (.ireturn, 1) := by decide +kernel
theorem d_FL_argumentTypes_0 : decode c_FL_argumentTypes 0 = .ok (.iconst 0, 1) := by decide +kernel
theorem d_FL_argumentTypes_1 : decode c_FL_argumentTypes 1 = .ok (.istore_n 1, 1) := by decide +kernel
theorem d_FL_argumentTypes_2 : decode c_FL_argumentTypes 2 = .ok (.iconst 0, 1) := by decide +kernel
theorem d_FL_argumentTypes_3 : decode c_FL_argumentTypes 3 = .ok (.istore_n 2, 1) := by decide +kernel
theorem d_FL_argumentTypes_4 : decode c_FL_argumentTypes 4 = .ok (.iload_n 2, 1) := by decide +kernel
theorem d_FL_argumentTypes_5 : decode c_FL_argumentTypes 5 = .ok (.aload_n 0, 1) := by decide +kernel
theorem d_FL_argumentTypes_6 : decode c_FL_argumentTypes 6 = .ok (.getfield 70, 3) := by decide +kernel
theorem d_FL_argumentTypes_9 : decode c_FL_argumentTypes 9 = .ok (.if_icmp .ge 16, 3) := by decide +kernel
theorem d_FL_argumentTypes_12 : decode c_FL_argumentTypes 12 = .ok (.iload_n 1, 1) := by decide +kernel
theorem d_FL_argumentTypes_13 : decode c_FL_argumentTypes 13 = .ok (.iload_n 2, 1) := by decide +kernel
theorem d_FL_argumentTypes_14 : decode c_FL_argumentTypes 14 = .ok (.iconst 1, 1) := by decide +kernel
theorem d_FL_argumentTypes_15 : decode c_FL_argumentTypes 15 = .ok (.invokestatic 75, 3) := by decide +kernel
theorem d_FL_argumentTypes_18 : decode c_FL_argumentTypes 18 = .ok (.istore_n 1, 1) := by decide +kernel
theorem d_FL_argumentTypes_19 : decode c_FL_argumentTypes 19 = .ok (.iinc 2 1, 3) := by decide +kernel
theorem d_FL_argumentTypes_22 : decode c_FL_argumentTypes 22 = .ok (.goto (-18), 3) := by decide +kernel
theorem d_FL_argumentTypes_25 : decode c_FL_argumentTypes 25 = .ok (.iload_n 1, 1) := by decide +kernel
theorem d_FL_argumentTypes_26 : decode c_FL_argumentTypes 26 = .ok (.ireturn, 1) := by decide +kernel
theorem d_FL_awaitVisit_0 : decode c_FL_awaitVisit 0 = .ok (.aload_n 1, 1) := by decide +kernel
theorem d_FL_awaitVisit_1 : decode c_FL_awaitVisit 1 = .ok (.getfield 57, 3) := by decide +kernel
theorem d_FL_awaitVisit_4 : decode c_FL_awaitVisit 4 = .ok (.iload_n 2, 1) := by decide +kernel
theorem d_FL_awaitVisit_5 : decode c_FL_awaitVisit 5 = .ok (.iadd, 1) := by decide +kernel
theorem d_FL_awaitVisit_6 : decode c_FL_awaitVisit 6 = .ok (.istore_n 3, 1) := by decide +kernel
theorem d_FL_awaitVisit_7 : decode c_FL_awaitVisit 7 = .ok (.aload_n 0, 1) := by decide +kernel
theorem d_FL_awaitVisit_8 : decode c_FL_awaitVisit 8 = .ok (.getfield 37, 3) := by decide +kernel
theorem d_FL_awaitVisit_11 : decode c_FL_awaitVisit 11 = .ok (.iload_n 3, 1) := by decide +kernel
theorem d_FL_awaitVisit_12 : decode c_FL_awaitVisit 12 = .ok (.baload, 1) := by decide +kernel
theorem d_FL_awaitVisit_13 : decode c_FL_awaitVisit 13 = .ok (.ifCond .ne 42, 3) := by decide +kernel
theorem d_FL_awaitVisit_16 : decode c_FL_awaitVisit 16 = .ok (.aload_n 0, 1) := by decide +kernel
theorem d_FL_awaitVisit_17 : decode c_FL_awaitVisit 17 = .ok (.getfield 53, 3) := by decide +kernel
theorem d_FL_awaitVisit_20 : decode c_FL_awaitVisit 20 = .ok (.aload_n 0, 1) := by decide +kernel
theorem d_FL_awaitVisit_21 : decode c_FL_awaitVisit 21 = .ok (.getfield 34, 3) := by decide +kernel
theorem d_FL_awaitVisit_24 : decode c_FL_awaitVisit 24 = .ok (.arraylength, 1) := by decide +kernel
theorem d_FL_awaitVisit_25 : decode c_FL_awaitVisit 25 = .ok (.if_icmp .ge 30, 3) := by decide +kernel
theorem d_FL_awaitVisit_28 : decode c_FL_awaitVisit 28 = .ok (.aload_n 0, 1) := by decide +kernel
theorem d_FL_awaitVisit_29 : decode c_FL_awaitVisit 29 = .ok (.getfield 37, 3) := by decide +kernel
theorem d_FL_awaitVisit_32 : decode c_FL_awaitVisit 32 = .ok (.iload_n 3, 1) := by decide +kernel
theorem d_FL_awaitVisit_33 : decode c_FL_awaitVisit 33 = .ok (.iconst 1, 1) := by decide +kernel
theorem d_FL_awaitVisit_34 : decode c_FL_awaitVisit 34 = .ok (.bastore, 1) := by decide +kernel
theorem d_FL_awaitVisit_35 : decode c_FL_awaitVisit 35 = .ok (.aload_n 0, 1) := by decide +kernel
theorem d_FL_awaitVisit_36 : decode c_FL_awaitVisit 36 = .ok (.getfield 34, 3) := by decide +kernel
theorem d_FL_awaitVisit_39 : decode c_FL_awaitVisit 39 = .ok (.aload_n 0, 1) := by decide +kernel
theorem d_FL_awaitVisit_40 : decode c_FL_awaitVisit 40 = .ok (.getfield 53, 3) := by decide +kernel
theorem d_FL_awaitVisit_43 : decode c_FL_awaitVisit 43 = .ok (.iload_n 2, 1) := by decide +kernel
theorem d_FL_awaitVisit_44 : decode c_FL_awaitVisit 44 = .ok (.iastore, 1) := by decide +kernel
theorem d_FL_awaitVisit_45 : decode c_FL_awaitVisit 45 = .ok (.aload_n 0, 1) := by decide +kernel
theorem d_FL_awaitVisit_46 : decode c_FL_awaitVisit 46 = .ok (.dup, 1) := by decide +kernel
theorem d_FL_awaitVisit_47 : decode c_FL_awaitVisit 47 = .ok (.getfield 53, 3) := by decide +kernel
theorem d_FL_awaitVisit_50 : decode c_FL_awaitVisit 50 = .ok (.iconst 1, 1) := by decide +kernel
theorem d_FL_awaitVisit_51 : decode c_FL_awaitVisit 51 = .ok (.iadd, 1) := by decide +kernel
theorem d_FL_awaitVisit_52 : decode c_FL_awaitVisit 52 = .ok (.putfield 53, 3) := by decide +kernel
theorem d_FL_awaitVisit_55 : decode c_FL_awaitVisit 55 = .ok (.return_, 1) := by decide +kernel
theorem d_TY_common_0 : decode c_TY_common 0 = .ok (.iload_n 0, 1) := by decide +kernel
theorem d_TY_common_1 : decode c_TY_common 1 = .ok (.iload_n 1, 1) := by decide +kernel
theorem d_TY_common_2 : decode c_TY_common 2 = .ok (.ixor, 1) := by decide +kernel
theorem d_TY_common_3 : decode c_TY_common 3 = .ok (.istore_n 2, 1) := by decide +kernel
theorem d_TY_common_4 : decode c_TY_common 4 = .ok (.iload_n 2, 1) := by decide +kernel
theorem d_TY_common_5 : decode c_TY_common 5 = .ok (.iload_n 2, 1) := by decide +kernel
theorem d_TY_common_6 : decode c_TY_common 6 = .ok (.iconst 1, 1) := by decide +kernel
theorem d_TY_common_7 : decode c_TY_common 7 = .ok (.ishr, 1) := by decide +kernel
theorem d_TY_common_8 : decode c_TY_common 8 = .ok (.ior, 1) := by decide +kernel
theorem d_TY_common_9 : decode c_TY_common 9 = .ok (.sipush 21845, 3) := by decide +kernel
theorem d_TY_common_12 : decode c_TY_common 12 = .ok (.iand, 1) := by decide +kernel
theorem d_TY_common_13 : decode c_TY_common 13 = .ok (.istore_n 3, 1) := by decide +kernel
theorem d_TY_common_14 : decode c_TY_common 14 = .ok (.iload_n 0, 1) := by decide +kernel
theorem d_TY_common_15 : decode c_TY_common 15 = .ok (.iload_n 3, 1) := by decide +kernel
theorem d_TY_common_16 : decode c_TY_common 16 = .ok (.iload_n 3, 1) := by decide +kernel
theorem d_TY_common_17 : decode c_TY_common 17 = .ok (.iconst 1, 1) := by decide +kernel
theorem d_TY_common_18 : decode c_TY_common 18 = .ok (.ishl, 1) := by decide +kernel
theorem d_TY_common_19 : decode c_TY_common 19 = .ok (.ior, 1) := by decide +kernel
theorem d_TY_common_20 : decode c_TY_common 20 = .ok (.iconst (-1), 1) := by decide +kernel
theorem d_TY_common_21 : decode c_TY_common 21 = .ok (.ixor, 1) := by decide +kernel
theorem d_TY_common_22 : decode c_TY_common 22 = .ok (.iand, 1) := by decide +kernel
theorem d_TY_common_23 : decode c_TY_common 23 = .ok (.ireturn, 1) := by decide +kernel
theorem d_FL_comeTo_0 : decode c_FL_comeTo 0 = .ok (.iload_n 2, 1) := by decide +kernel
theorem d_FL_comeTo_1 : decode c_FL_comeTo 1 = .ok (.ifCond .lt 11, 3) := by decide +kernel
theorem d_FL_comeTo_4 : decode c_FL_comeTo 4 = .ok (.iload_n 2, 1) := by decide +kernel
theorem d_FL_comeTo_5 : decode c_FL_comeTo 5 = .ok (.aload_n 1, 1) := by decide +kernel
theorem d_FL_comeTo_6 : decode c_FL_comeTo 6 = .ok (.getfield 79, 3) := by decide +kernel
theorem d_FL_comeTo_9 : decode c_FL_comeTo 9 = .ok (.if_icmp .lt 5, 3) := by decide +kernel
theorem d_FL_comeTo_12 : decode c_FL_comeTo 12 = .ok (.iconst 0, 1) := by decide +kernel
theorem d_FL_comeTo_13 : decode c_FL_comeTo 13 = .ok (.ireturn, 1) := by decide +kernel
theorem d_FL_comeTo_14 : decode c_FL_comeTo 14 = .ok (.aload_n 1, 1) := by decide +kernel
theorem d_FL_comeTo_15 : decode c_FL_comeTo 15 = .ok (.getfield 57, 3) := by decide +kernel
theorem d_FL_comeTo_18 : decode c_FL_comeTo 18 = .ok (.iload_n 2, 1) := by decide +kernel
theorem d_FL_comeTo_19 : decode c_FL_comeTo 19 = .ok (.iadd, 1) := by decide +kernel
theorem d_FL_comeTo_20 : decode c_FL_comeTo 20 = .ok (.istore 6, 2) := by decide +kernel
theorem d_FL_comeTo_22 : decode c_FL_comeTo 22 = .ok (.aload_n 0, 1) := by decide +kernel
theorem d_FL_comeTo_23 : decode c_FL_comeTo 23 = .ok (.getfield 31, 3) := by decide +kernel
theorem d_FL_comeTo_26 : decode c_FL_comeTo 26 = .ok (.iload 6, 2) := by decide +kernel
theorem d_FL_comeTo_28 : decode c_FL_comeTo 28 = .ok (.iaload, 1) := by decide +kernel
theorem d_FL_comeTo_29 : decode c_FL_comeTo 29 = .ok (.iconst (-1), 1) := by decide +kernel
theorem d_FL_comeTo_30 : decode c_FL_comeTo 30 = .ok (.if_icmp .ne 37, 3) := by decide +kernel
theorem d_FL_comeTo_33 : decode c_FL_comeTo 33 = .ok (.aload_n 0, 1) := by decide +kernel
theorem d_FL_comeTo_34 : decode c_FL_comeTo 34 = .ok (.getfield 24, 3) := by decide +kernel
theorem d_FL_comeTo_37 : decode c_FL_comeTo 37 = .ok (.iload 6, 2) := by decide +kernel
theorem d_FL_comeTo_39 : decode c_FL_comeTo 39 = .ok (.iload_n 3, 1) := by decide +kernel
theorem d_FL_comeTo_40 : decode c_FL_comeTo 40 = .ok (.iastore, 1) := by decide +kernel
theorem d_FL_comeTo_41 : decode c_FL_comeTo 41 = .ok (.aload_n 0, 1) := by decide +kernel
theorem d_FL_comeTo_42 : decode c_FL_comeTo 42 = .ok (.getfield 28, 3) := by decide +kernel
theorem d_FL_comeTo_45 : decode c_FL_comeTo 45 = .ok (.iload 6, 2) := by decide +kernel
theorem d_FL_comeTo_47 : decode c_FL_comeTo 47 = .ok (.iload 4, 2) := by decide +kernel
theorem d_FL_comeTo_49 : decode c_FL_comeTo 49 = .ok (.iastore, 1) := by decide +kernel
theorem d_FL_comeTo_50 : decode c_FL_comeTo 50 = .ok (.aload_n 0, 1) := by decide +kernel
theorem d_FL_comeTo_51 : decode c_FL_comeTo 51 = .ok (.getfield 31, 3) := by decide +kernel
theorem d_FL_comeTo_54 : decode c_FL_comeTo 54 = .ok (.iload 6, 2) := by decide +kernel
theorem d_FL_comeTo_56 : decode c_FL_comeTo 56 = .ok (.iload 5, 2) := by decide +kernel
theorem d_FL_comeTo_58 : decode c_FL_comeTo 58 = .ok (.iastore, 1) := by decide +kernel
theorem d_FL_comeTo_59 : decode c_FL_comeTo 59 = .ok (.aload_n 0, 1) := by decide +kernel
theorem d_FL_comeTo_60 : decode c_FL_comeTo 60 = .ok (.aload_n 1, 1) := by decide +kernel
theorem d_FL_comeTo_61 : decode c_FL_comeTo 61 = .ok (.iload_n 2, 1) := by decide +kernel
theorem d_FL_comeTo_62 : decode c_FL_comeTo 62 = .ok (.invokevirtual 82, 3) := by decide +kernel
theorem d_FL_comeTo_65 : decode c_FL_comeTo 65 = .ok (.iconst 1, 1) := by decide +kernel
theorem d_FL_comeTo_66 : decode c_FL_comeTo 66 = .ok (.ireturn, 1) := by decide +kernel
theorem d_FL_comeTo_67 : decode c_FL_comeTo 67 = .ok (.aload_n 0, 1) := by decide +kernel
theorem d_FL_comeTo_68 : decode c_FL_comeTo 68 = .ok (.getfield 31, 3) := by decide +kernel
theorem d_FL_comeTo_71 : decode c_FL_comeTo 71 = .ok (.iload 6, 2) := by decide +kernel
theorem d_FL_comeTo_73 : decode c_FL_comeTo 73 = .ok (.iaload, 1) := by decide +kernel
theorem d_FL_comeTo_74 : decode c_FL_comeTo 74 = .ok (.iload 5, 2) := by decide +kernel
theorem d_FL_comeTo_76 : decode c_FL_comeTo 76 = .ok (.if_icmp .ne 15, 3) := by decide +kernel
theorem d_FL_comeTo_79 : decode c_FL_comeTo 79 = .ok (.aload_n 0, 1) := by decide +kernel
theorem d_FL_comeTo_80 : decode c_FL_comeTo 80 = .ok (.getfield 28, 3) := by decide +kernel
theorem d_FL_comeTo_83 : decode c_FL_comeTo 83 = .ok (.iload 6, 2) := by decide +kernel
theorem d_FL_comeTo_85 : decode c_FL_comeTo 85 = .ok (.iaload, 1) := by decide +kernel
theorem d_FL_comeTo_86 : decode c_FL_comeTo 86 = .ok (.iload 4, 2) := by decide +kernel
theorem d_FL_comeTo_88 : decode c_FL_comeTo 88 = .ok (.if_icmp .eq 5, 3) := by decide +kernel
theorem d_FL_comeTo_91 : decode c_FL_comeTo 91 = .ok (.iconst 0, 1) := by decide +kernel
theorem d_FL_comeTo_92 : decode c_FL_comeTo 92 = .ok (.ireturn, 1) := by decide +kernel
theorem d_FL_comeTo_93 : decode c_FL_comeTo 93 = .ok (.aload_n 0, 1) := by decide +kernel
theorem d_FL_comeTo_94 : decode c_FL_comeTo 94 = .ok (.getfield 24, 3) := by decide +kernel
theorem d_FL_comeTo_97 : decode c_FL_comeTo 97 = .ok (.iload 6, 2) := by decide +kernel
theorem d_FL_comeTo_99 : decode c_FL_comeTo 99 = .ok (.iaload, 1) := by decide +kernel
theorem d_FL_comeTo_100 : decode c_FL_comeTo 100 = .ok (.iload_n 3, 1) := by decide +kernel
theorem d_FL_comeTo_101 : decode c_FL_comeTo 101 = .ok (.invokestatic 86, 3) := by decide +kernel
theorem d_FL_comeTo_104 : decode c_FL_comeTo 104 = .ok (.istore 7, 2) := by decide +kernel
theorem d_FL_comeTo_106 : decode c_FL_comeTo 106 = .ok (.iload 7, 2) := by decide +kernel
theorem d_FL_comeTo_108 : decode c_FL_comeTo 108 = .ok (.aload_n 0, 1) := by decide +kernel
theorem d_FL_comeTo_109 : decode c_FL_comeTo 109 = .ok (.getfield 24, 3) := by decide +kernel
theorem d_FL_comeTo_112 : decode c_FL_comeTo 112 = .ok (.iload 6, 2) := by decide +kernel
theorem d_FL_comeTo_114 : decode c_FL_comeTo 114 = .ok (.iaload, 1) := by decide +kernel
theorem d_FL_comeTo_115 : decode c_FL_comeTo 115 = .ok (.if_icmp .eq 18, 3) := by decide +kernel
theorem d_FL_comeTo_118 : decode c_FL_comeTo 118 = .ok (.aload_n 0, 1) := by decide +kernel
theorem d_FL_comeTo_119 : decode c_FL_comeTo 119 = .ok (.getfield 24, 3) := by decide +kernel
theorem d_FL_comeTo_122 : decode c_FL_comeTo 122 = .ok (.iload 6, 2) := by decide +kernel
theorem d_FL_comeTo_124 : decode c_FL_comeTo 124 = .ok (.iload 7, 2) := by decide +kernel
theorem d_FL_comeTo_126 : decode c_FL_comeTo 126 = .ok (.iastore, 1) := by decide +kernel
theorem d_FL_comeTo_127 : decode c_FL_comeTo 127 = .ok (.aload_n 0, 1) := by decide +kernel
theorem d_FL_comeTo_128 : decode c_FL_comeTo 128 = .ok (.aload_n 1, 1) := by decide +kernel
theorem d_FL_comeTo_129 : decode c_FL_comeTo 129 = .ok (.iload_n 2, 1) := by decide +kernel
theorem d_FL_comeTo_130 : decode c_FL_comeTo 130 = .ok (.invokevirtual 82, 3) := by decide +kernel
theorem d_FL_comeTo_133 : decode c_FL_comeTo 133 = .ok (.iconst 1, 1) := by decide +kernel
theorem d_FL_comeTo_134 : decode c_FL_comeTo 134 = .ok (.ireturn, 1) := by decide +kernel
theorem d_FL_comeToHandlers_0 : decode c_FL_comeToHandlers 0 = .ok (.iconst 0, 1) := by decide +kernel
theorem d_FL_comeToHandlers_1 : decode c_FL_comeToHandlers 1 = .ok (.istore_n 3, 1) := by decide +kernel
theorem d_FL_comeToHandlers_2 : decode c_FL_comeToHandlers 2 = .ok (.iload_n 3, 1) := by decide +kernel
theorem d_FL_comeToHandlers_3 : decode c_FL_comeToHandlers 3 = .ok (.aload_n 1, 1) := by decide +kernel
theorem d_FL_comeToHandlers_4 : decode c_FL_comeToHandlers 4 = .ok (.getfield 114, 3) := by decide +kernel
theorem d_FL_comeToHandlers_7 : decode c_FL_comeToHandlers 7 = .ok (.if_icmp .ge 55, 3) := by decide +kernel
theorem d_FL_comeToHandlers_10 : decode c_FL_comeToHandlers 10 = .ok (.aload_n 1, 1) := by decide +kernel
theorem d_FL_comeToHandlers_11 : decode c_FL_comeToHandlers 11 = .ok (.getfield 117, 3) := by decide +kernel
theorem d_FL_comeToHandlers_14 : decode c_FL_comeToHandlers 14 = .ok (.iload_n 3, 1) := by decide +kernel
theorem d_FL_comeToHandlers_15 : decode c_FL_comeToHandlers 15 = .ok (.aaload, 1) := by decide +kernel
theorem d_FL_comeToHandlers_16 : decode c_FL_comeToHandlers 16 = .ok (.astore 4, 2) := by decide +kernel
theorem d_FL_comeToHandlers_18 : decode c_FL_comeToHandlers 18 = .ok (.aload 4, 2) := by decide +kernel
theorem d_FL_comeToHandlers_20 : decode c_FL_comeToHandlers 20 = .ok (.iload_n 2, 1) := by decide +kernel
theorem d_FL_comeToHandlers_21 : decode c_FL_comeToHandlers 21 = .ok (.invokevirtual 121, 3) := by decide +kernel
theorem d_FL_comeToHandlers_24 : decode c_FL_comeToHandlers 24 = .ok (.ifCond .eq 32, 3) := by decide +kernel
theorem d_FL_comeToHandlers_27 : decode c_FL_comeToHandlers 27 = .ok (.aload_n 1, 1) := by decide +kernel
theorem d_FL_comeToHandlers_28 : decode c_FL_comeToHandlers 28 = .ok (.getfield 110, 3) := by decide +kernel
theorem d_FL_comeToHandlers_31 : decode c_FL_comeToHandlers 31 = .ok (.iconst 1, 1) := by decide +kernel
theorem d_FL_comeToHandlers_32 : decode c_FL_comeToHandlers 32 = .ok (.if_icmp .lt 22, 3) := by decide +kernel
theorem d_FL_comeToHandlers_35 : decode c_FL_comeToHandlers 35 = .ok (.aload_n 0, 1) := by decide +kernel
theorem d_FL_comeToHandlers_36 : decode c_FL_comeToHandlers 36 = .ok (.aload_n 1, 1) := by decide +kernel
theorem d_FL_comeToHandlers_37 : decode c_FL_comeToHandlers 37 = .ok (.aload 4, 2) := by decide +kernel
theorem d_FL_comeToHandlers_39 : decode c_FL_comeToHandlers 39 = .ok (.getfield 127, 3) := by decide +kernel
theorem d_FL_comeToHandlers_42 : decode c_FL_comeToHandlers 42 = .ok (.aload_n 0, 1) := by decide +kernel
theorem d_FL_comeToHandlers_43 : decode c_FL_comeToHandlers 43 = .ok (.getfield 90, 3) := by decide +kernel
theorem d_FL_comeToHandlers_46 : decode c_FL_comeToHandlers 46 = .ok (.iconst 1, 1) := by decide +kernel
theorem d_FL_comeToHandlers_47 : decode c_FL_comeToHandlers 47 = .ok (.iconst 1, 1) := by decide +kernel
theorem d_FL_comeToHandlers_48 : decode c_FL_comeToHandlers 48 = .ok (.invokevirtual 49, 3) := by decide +kernel
theorem d_FL_comeToHandlers_51 : decode c_FL_comeToHandlers 51 = .ok (.ifCond .ne 5, 3) := by decide +kernel
theorem d_FL_comeToHandlers_54 : decode c_FL_comeToHandlers 54 = .ok (.iconst 0, 1) := by decide +kernel
theorem d_FL_comeToHandlers_55 : decode c_FL_comeToHandlers 55 = .ok (.ireturn, 1) := by decide +kernel
theorem d_FL_comeToHandlers_56 : decode c_FL_comeToHandlers 56 = .ok (.iinc 3 1, 3) := by decide +kernel
theorem d_FL_comeToHandlers_59 : decode c_FL_comeToHandlers 59 = .ok (.goto (-57), 3) := by decide +kernel
theorem d_FL_comeToHandlers_62 : decode c_FL_comeToHandlers 62 = .ok (.iconst 1, 1) := by decide +kernel
theorem d_FL_comeToHandlers_63 : decode c_FL_comeToHandlers 63 = .ok (.ireturn, 1) := by decide +kernel
theorem d_TY_at_0 : decode c_TY_at 0 = .ok (.iload_n 0, 1) := by decide +kernel
theorem d_TY_at_1 : decode c_TY_at 1 = .ok (.iconst 2, 1) := by decide +kernel
theorem d_TY_at_2 : decode c_TY_at 2 = .ok (.iload_n 1, 1) := by decide +kernel
theorem d_TY_at_3 : decode c_TY_at 3 = .ok (.imul, 1) := by decide +kernel
theorem d_TY_at_4 : decode c_TY_at 4 = .ok (.ishr, 1) := by decide +kernel
theorem d_TY_at_5 : decode c_TY_at 5 = .ok (.iconst 3, 1) := by decide +kernel
theorem d_TY_at_6 : decode c_TY_at 6 = .ok (.iand, 1) := by decide +kernel
theorem d_TY_at_7 : decode c_TY_at 7 = .ok (.ireturn, 1) := by decide +kernel
theorem d_FL_takeAny_0 : decode c_FL_takeAny 0 = .ok (.aload_n 0, 1) := by decide +kernel
theorem d_FL_takeAny_1 : decode c_FL_takeAny 1 = .ok (.getfield 96, 3) := by decide +kernel
theorem d_FL_takeAny_4 : decode c_FL_takeAny 4 = .ok (.ifCond .ne 5, 3) := by decide +kernel
theorem d_FL_takeAny_7 : decode c_FL_takeAny 7 = .ok (.iconst 0, 1) := by decide +kernel
theorem d_FL_takeAny_8 : decode c_FL_takeAny 8 = .ok (.ireturn, 1) := by decide +kernel
theorem d_FL_takeAny_9 : decode c_FL_takeAny 9 = .ok (.aload_n 0, 1) := by decide +kernel
theorem d_FL_takeAny_10 : decode c_FL_takeAny 10 = .ok (.dup, 1) := by decide +kernel
theorem d_FL_takeAny_11 : decode c_FL_takeAny 11 = .ok (.getfield 96, 3) := by decide +kernel
theorem d_FL_takeAny_14 : decode c_FL_takeAny 14 = .ok (.iconst 1, 1) := by decide +kernel
theorem d_FL_takeAny_15 : decode c_FL_takeAny 15 = .ok (.isub, 1) := by decide +kernel
theorem d_FL_takeAny_16 : decode c_FL_takeAny 16 = .ok (.putfield 96, 3) := by decide +kernel
theorem d_FL_takeAny_19 : decode c_FL_takeAny 19 = .ok (.aload_n 0, 1) := by decide +kernel
theorem d_FL_takeAny_20 : decode c_FL_takeAny 20 = .ok (.getfield 93, 3) := by decide +kernel
theorem d_FL_takeAny_23 : decode c_FL_takeAny 23 = .ok (.aload_n 0, 1) := by decide +kernel
theorem d_FL_takeAny_24 : decode c_FL_takeAny 24 = .ok (.getfield 96, 3) := by decide +kernel
theorem d_FL_takeAny_27 : decode c_FL_takeAny 27 = .ok (.invokestatic 179, 3) := by decide +kernel
theorem d_FL_takeAny_30 : decode c_FL_takeAny 30 = .ok (.istore_n 1, 1) := by decide +kernel
theorem d_FL_takeAny_31 : decode c_FL_takeAny 31 = .ok (.aload_n 0, 1) := by decide +kernel
theorem d_FL_takeAny_32 : decode c_FL_takeAny 32 = .ok (.aload_n 0, 1) := by decide +kernel
theorem d_FL_takeAny_33 : decode c_FL_takeAny 33 = .ok (.getfield 93, 3) := by decide +kernel
theorem d_FL_takeAny_36 : decode c_FL_takeAny 36 = .ok (.aload_n 0, 1) := by decide +kernel
theorem d_FL_takeAny_37 : decode c_FL_takeAny 37 = .ok (.getfield 96, 3) := by decide +kernel
theorem d_FL_takeAny_40 : decode c_FL_takeAny 40 = .ok (.iconst 0, 1) := by decide +kernel
theorem d_FL_takeAny_41 : decode c_FL_takeAny 41 = .ok (.invokestatic 75, 3) := by decide +kernel
theorem d_FL_takeAny_44 : decode c_FL_takeAny 44 = .ok (.putfield 93, 3) := by decide +kernel
theorem d_FL_takeAny_47 : decode c_FL_takeAny 47 = .ok (.iload_n 1, 1) := by decide +kernel
theorem d_FL_takeAny_48 : decode c_FL_takeAny 48 = .ok (.ireturn, 1) := by decide +kernel
theorem d_FL_put_0 : decode c_FL_put 0 = .ok (.iload_n 1, 1) := by decide +kernel
theorem d_FL_put_1 : decode c_FL_put 1 = .ok (.ifCond .eq 29, 3) := by decide +kernel
theorem d_FL_put_4 : decode c_FL_put 4 = .ok (.aload_n 0, 1) := by decide +kernel
theorem d_FL_put_5 : decode c_FL_put 5 = .ok (.aload_n 0, 1) := by decide +kernel
theorem d_FL_put_6 : decode c_FL_put 6 = .ok (.getfield 93, 3) := by decide +kernel
theorem d_FL_put_9 : decode c_FL_put 9 = .ok (.aload_n 0, 1) := by decide +kernel
theorem d_FL_put_10 : decode c_FL_put 10 = .ok (.getfield 96, 3) := by decide +kernel
theorem d_FL_put_13 : decode c_FL_put 13 = .ok (.iload_n 1, 1) := by decide +kernel
theorem d_FL_put_14 : decode c_FL_put 14 = .ok (.invokestatic 75, 3) := by decide +kernel
theorem d_FL_put_17 : decode c_FL_put 17 = .ok (.putfield 93, 3) := by decide +kernel
theorem d_FL_put_20 : decode c_FL_put 20 = .ok (.aload_n 0, 1) := by decide +kernel
theorem d_FL_put_21 : decode c_FL_put 21 = .ok (.dup, 1) := by decide +kernel
theorem d_FL_put_22 : decode c_FL_put 22 = .ok (.getfield 96, 3) := by decide +kernel
theorem d_FL_put_25 : decode c_FL_put 25 = .ok (.iconst 1, 1) := by decide +kernel
theorem d_FL_put_26 : decode c_FL_put 26 = .ok (.iadd, 1) := by decide +kernel
theorem d_FL_put_27 : decode c_FL_put 27 = .ok (.putfield 96, 3) := by decide +kernel
theorem d_FL_put_30 : decode c_FL_put 30 = .ok (.return_, 1) := by decide +kernel
theorem d_FL_applyDup_0 : decode c_FL_applyDup 0 = .ok (.aload_n 0, 1) := by decide +kernel
theorem d_FL_applyDup_1 : decode c_FL_applyDup 1 = .ok (.invokevirtual 144, 3) := by decide +kernel
theorem d_FL_applyDup_4 : decode c_FL_applyDup 4 = .ok (.istore_n 1, 1) := by decide +kernel
theorem d_FL_applyDup_5 : decode c_FL_applyDup 5 = .ok (.aload_n 0, 1) := by decide +kernel
theorem d_FL_applyDup_6 : decode c_FL_applyDup 6 = .ok (.iload_n 1, 1) := by decide +kernel
theorem d_FL_applyDup_7 : decode c_FL_applyDup 7 = .ok (.invokevirtual 164, 3) := by decide +kernel
theorem d_FL_applyDup_10 : decode c_FL_applyDup 10 = .ok (.aload_n 0, 1) := by decide +kernel
theorem d_FL_applyDup_11 : decode c_FL_applyDup 11 = .ok (.iload_n 1, 1) := by decide +kernel
theorem d_FL_applyDup_12 : decode c_FL_applyDup 12 = .ok (.invokevirtual 164, 3) := by decide +kernel
theorem d_FL_applyDup_15 : decode c_FL_applyDup 15 = .ok (.iload_n 1, 1) := by decide +kernel
theorem d_FL_applyDup_16 : decode c_FL_applyDup 16 = .ok (.ifCond .eq 7, 3) := by decide +kernel
theorem d_FL_applyDup_19 : decode c_FL_applyDup 19 = .ok (.iconst 1, 1) := by decide +kernel
theorem d_FL_applyDup_20 : decode c_FL_applyDup 20 = .ok (.goto 4, 3) := by decide +kernel
theorem d_FL_applyDup_23 : decode c_FL_applyDup 23 = .ok (.iconst 0, 1) := by decide +kernel
theorem d_FL_applyDup_24 : decode c_FL_applyDup 24 = .ok (.ireturn, 1) := by decide +kernel
theorem d_FL_applySwap_0 : decode c_FL_applySwap 0 = .ok (.aload_n 0, 1) := by decide +kernel
theorem d_FL_applySwap_1 : decode c_FL_applySwap 1 = .ok (.invokevirtual 144, 3) := by decide +kernel
theorem d_FL_applySwap_4 : decode c_FL_applySwap 4 = .ok (.istore_n 1, 1) := by decide +kernel
theorem d_FL_applySwap_5 : decode c_FL_applySwap 5 = .ok (.aload_n 0, 1) := by decide +kernel
theorem d_FL_applySwap_6 : decode c_FL_applySwap 6 = .ok (.invokevirtual 144, 3) := by decide +kernel
theorem d_FL_applySwap_9 : decode c_FL_applySwap 9 = .ok (.istore_n 2, 1) := by decide +kernel
theorem d_FL_applySwap_10 : decode c_FL_applySwap 10 = .ok (.aload_n 0, 1) := by decide +kernel
theorem d_FL_applySwap_11 : decode c_FL_applySwap 11 = .ok (.iload_n 1, 1) := by decide +kernel
theorem d_FL_applySwap_12 : decode c_FL_applySwap 12 = .ok (.invokevirtual 164, 3) := by decide +kernel
theorem d_FL_applySwap_15 : decode c_FL_applySwap 15 = .ok (.aload_n 0, 1) := by decide +kernel
theorem d_FL_applySwap_16 : decode c_FL_applySwap 16 = .ok (.iload_n 2, 1) := by decide +kernel
theorem d_FL_applySwap_17 : decode c_FL_applySwap 17 = .ok (.invokevirtual 164, 3) := by decide +kernel
theorem d_FL_applySwap_20 : decode c_FL_applySwap 20 = .ok (.iload_n 1, 1) := by decide +kernel
theorem d_FL_applySwap_21 : decode c_FL_applySwap 21 = .ok (.ifCond .eq 11, 3) := by decide +kernel
theorem d_FL_applySwap_24 : decode c_FL_applySwap 24 = .ok (.iload_n 2, 1) := by decide +kernel
theorem d_FL_applySwap_25 : decode c_FL_applySwap 25 = .ok (.ifCond .eq 7, 3) := by decide +kernel
theorem d_FL_applySwap_28 : decode c_FL_applySwap 28 = .ok (.iconst 1, 1) := by decide +kernel
theorem d_FL_applySwap_29 : decode c_FL_applySwap 29 = .ok (.goto 4, 3) := by decide +kernel
theorem d_FL_applySwap_32 : decode c_FL_applySwap 32 = .ok (.iconst 0, 1) := by decide +kernel
theorem d_FL_applySwap_33 : decode c_FL_applySwap 33 = .ok (.ireturn, 1) := by decide +kernel
theorem d_FL_applyCall_0 : decode c_FL_applyCall 0 = .ok (.aload_n 0, 1) := by decide +kernel
theorem d_FL_applyCall_1 : decode c_FL_applyCall 1 = .ok (.getfield 11, 3) := by decide +kernel
theorem d_FL_applyCall_4 : decode c_FL_applyCall 4 = .ok (.aload_n 0, 1) := by decide +kernel
theorem d_FL_applyCall_5 : decode c_FL_applyCall 5 = .ok (.getfield 20, 3) := by decide +kernel
theorem d_FL_applyCall_8 : decode c_FL_applyCall 8 = .ok (.getfield 138, 3) := by decide +kernel
theorem d_FL_applyCall_11 : decode c_FL_applyCall 11 = .ok (.invokevirtual 168, 3) := by decide +kernel
theorem d_FL_applyCall_14 : decode c_FL_applyCall 14 = .ok (.ifCond .ne 5, 3) := by decide +kernel
theorem d_FL_applyCall_17 : decode c_FL_applyCall 17 = .ok (.iconst 0, 1) := by decide +kernel
theorem d_FL_applyCall_18 : decode c_FL_applyCall 18 = .ok (.ireturn, 1) := by decide +kernel
theorem d_FL_applyCall_19 : decode c_FL_applyCall 19 = .ok (.aload_n 0, 1) := by decide +kernel
theorem d_FL_applyCall_20 : decode c_FL_applyCall 20 = .ok (.getfield 11, 3) := by decide +kernel
theorem d_FL_applyCall_23 : decode c_FL_applyCall 23 = .ok (.getfield 171, 3) := by decide +kernel
theorem d_FL_applyCall_26 : decode c_FL_applyCall 26 = .ok (.aload_n 0, 1) := by decide +kernel
theorem d_FL_applyCall_27 : decode c_FL_applyCall 27 = .ok (.getfield 20, 3) := by decide +kernel
theorem d_FL_applyCall_30 : decode c_FL_applyCall 30 = .ok (.getfield 138, 3) := by decide +kernel
theorem d_FL_applyCall_33 : decode c_FL_applyCall 33 = .ok (.aaload, 1) := by decide +kernel
theorem d_FL_applyCall_34 : decode c_FL_applyCall 34 = .ok (.astore_n 1, 1) := by decide +kernel
theorem d_FL_applyCall_35 : decode c_FL_applyCall 35 = .ok (.iconst 0, 1) := by decide +kernel
theorem d_FL_applyCall_36 : decode c_FL_applyCall 36 = .ok (.istore_n 2, 1) := by decide +kernel
theorem d_FL_applyCall_37 : decode c_FL_applyCall 37 = .ok (.iload_n 2, 1) := by decide +kernel
theorem d_FL_applyCall_38 : decode c_FL_applyCall 38 = .ok (.aload_n 1, 1) := by decide +kernel
theorem d_FL_applyCall_39 : decode c_FL_applyCall 39 = .ok (.getfield 70, 3) := by decide +kernel
theorem d_FL_applyCall_42 : decode c_FL_applyCall 42 = .ok (.if_icmp .ge 19, 3) := by decide +kernel
theorem d_FL_applyCall_45 : decode c_FL_applyCall 45 = .ok (.aload_n 0, 1) := by decide +kernel
theorem d_FL_applyCall_46 : decode c_FL_applyCall 46 = .ok (.invokevirtual 144, 3) := by decide +kernel
theorem d_FL_applyCall_49 : decode c_FL_applyCall 49 = .ok (.iconst 1, 1) := by decide +kernel
theorem d_FL_applyCall_50 : decode c_FL_applyCall 50 = .ok (.if_icmp .eq 5, 3) := by decide +kernel
theorem d_FL_applyCall_53 : decode c_FL_applyCall 53 = .ok (.iconst 0, 1) := by decide +kernel
theorem d_FL_applyCall_54 : decode c_FL_applyCall 54 = .ok (.ireturn, 1) := by decide +kernel
theorem d_FL_applyCall_55 : decode c_FL_applyCall 55 = .ok (.iinc 2 1, 3) := by decide +kernel
theorem d_FL_applyCall_58 : decode c_FL_applyCall 58 = .ok (.goto (-21), 3) := by decide +kernel
theorem d_FL_applyCall_61 : decode c_FL_applyCall 61 = .ok (.aload_n 1, 1) := by decide +kernel
theorem d_FL_applyCall_62 : decode c_FL_applyCall 62 = .ok (.getfield 157, 3) := by decide +kernel
theorem d_FL_applyCall_65 : decode c_FL_applyCall 65 = .ok (.ifCond .eq 8, 3) := by decide +kernel
theorem d_FL_applyCall_68 : decode c_FL_applyCall 68 = .ok (.aload_n 0, 1) := by decide +kernel
theorem d_FL_applyCall_69 : decode c_FL_applyCall 69 = .ok (.iconst 1, 1) := by decide +kernel
theorem d_FL_applyCall_70 : decode c_FL_applyCall 70 = .ok (.invokevirtual 164, 3) := by decide +kernel
theorem d_FL_applyCall_73 : decode c_FL_applyCall 73 = .ok (.iconst 1, 1) := by decide +kernel
theorem d_FL_applyCall_74 : decode c_FL_applyCall 74 = .ok (.ireturn, 1) := by decide +kernel
theorem d_TY_readFromLocal_0 : decode c_TY_readFromLocal 0 = .ok (.iload_n 0, 1) := by decide +kernel
theorem d_TY_readFromLocal_1 : decode c_TY_readFromLocal 1 = .ok (.lookupswitch 39 #[(21, 35), (25, 37), (132, 35)], 35) := by decide +kernel
theorem d_TY_readFromLocal_36 : decode c_TY_readFromLocal 36 = .ok (.iconst 1, 1) := by decide +kernel
theorem d_TY_readFromLocal_37 : decode c_TY_readFromLocal 37 = .ok (.ireturn, 1) := by decide +kernel
theorem d_TY_readFromLocal_38 : decode c_TY_readFromLocal 38 = .ok (.iconst 2, 1) := by decide +kernel
theorem d_TY_readFromLocal_39 : decode c_TY_readFromLocal 39 = .ok (.ireturn, 1) := by decide +kernel
theorem d_TY_readFromLocal_40 : decode c_TY_readFromLocal 40 = .ok (.iconst 0, 1) := by decide +kernel
theorem d_TY_readFromLocal_41 : decode c_TY_readFromLocal 41 = .ok (.ireturn, 1) := by decide +kernel
theorem d_TY_taken_0 : decode c_TY_taken 0 = .ok (.iload_n 0, 1) := by decide +kernel
theorem d_TY_taken_1 : decode c_TY_taken 1 = .ok (.invokestatic 9, 3) := by decide +kernel
theorem d_TY_taken_4 : decode c_TY_taken 4 = .ok (.ifCond .ne 17, 3) := by decide +kernel
theorem d_TY_taken_7 : decode c_TY_taken 7 = .ok (.iload_n 0, 1) := by decide +kernel
theorem d_TY_taken_8 : decode c_TY_taken 8 = .ok (.sipush 159, 3) := by decide +kernel
theorem d_TY_taken_11 : decode c_TY_taken 11 = .ok (.if_icmp .lt 12, 3) := by decide +kernel
theorem d_TY_taken_14 : decode c_TY_taken 14 = .ok (.iload_n 0, 1) := by decide +kernel
theorem d_TY_taken_15 : decode c_TY_taken 15 = .ok (.sipush 165, 3) := by decide +kernel
theorem d_TY_taken_18 : decode c_TY_taken 18 = .ok (.if_icmp .ge 5, 3) := by decide +kernel
theorem d_TY_taken_21 : decode c_TY_taken 21 = .ok (.iconst 5, 1) := by decide +kernel
theorem d_TY_taken_22 : decode c_TY_taken 22 = .ok (.ireturn, 1) := by decide +kernel
theorem d_TY_taken_23 : decode c_TY_taken 23 = .ok (.iload_n 0, 1) := by decide +kernel
theorem d_TY_taken_24 : decode c_TY_taken 24 = .ok (.sipush 153, 3) := by decide +kernel
theorem d_TY_taken_27 : decode c_TY_taken 27 = .ok (.if_icmp .lt 12, 3) := by decide +kernel
theorem d_TY_taken_30 : decode c_TY_taken 30 = .ok (.iload_n 0, 1) := by decide +kernel
theorem d_TY_taken_31 : decode c_TY_taken 31 = .ok (.sipush 159, 3) := by decide +kernel
theorem d_TY_taken_34 : decode c_TY_taken 34 = .ok (.if_icmp .ge 5, 3) := by decide +kernel
theorem d_TY_taken_37 : decode c_TY_taken 37 = .ok (.iconst 1, 1) := by decide +kernel
theorem d_TY_taken_38 : decode c_TY_taken 38 = .ok (.ireturn, 1) := by decide +kernel
theorem d_TY_taken_39 : decode c_TY_taken 39 = .ok (.iload_n 0, 1) := by decide +kernel
theorem d_TY_taken_40 : decode c_TY_taken 40 = .ok (.sipush 165, 3) := by decide +kernel
theorem d_TY_taken_43 : decode c_TY_taken 43 = .ok (.if_icmp .lt 13, 3) := by decide +kernel
theorem d_TY_taken_46 : decode c_TY_taken 46 = .ok (.iload_n 0, 1) := by decide +kernel
theorem d_TY_taken_47 : decode c_TY_taken 47 = .ok (.sipush 167, 3) := by decide +kernel
theorem d_TY_taken_50 : decode c_TY_taken 50 = .ok (.if_icmp .ge 6, 3) := by decide +kernel
theorem d_TY_taken_53 : decode c_TY_taken 53 = .ok (.bipush 10, 2) := by decide +kernel
theorem d_TY_taken_55 : decode c_TY_taken 55 = .ok (.ireturn, 1) := by decide +kernel
theorem d_TY_taken_56 : decode c_TY_taken 56 = .ok (.iload_n 0, 1) := by decide +kernel
theorem d_TY_taken_57 : decode c_TY_taken 57 = .ok (.lookupswitch 109 #[(46, 103), (54, 99), (58, 101), (79, 106), (116, 99), (172, 99), (179, 99), (188, 99), (190, 101), (198, 101), (199, 101)], 99) := by decide +kernel
theorem d_TY_taken_156 : decode c_TY_taken 156 = .ok (.iconst 1, 1) := by decide +kernel
theorem d_TY_taken_157 : decode c_TY_taken 157 = .ok (.ireturn, 1) := by decide +kernel
theorem d_TY_taken_158 : decode c_TY_taken 158 = .ok (.iconst 2, 1) := by decide +kernel
theorem d_TY_taken_159 : decode c_TY_taken 159 = .ok (.ireturn, 1) := by decide +kernel
theorem d_TY_taken_160 : decode c_TY_taken 160 = .ok (.bipush 9, 2) := by decide +kernel
theorem d_TY_taken_162 : decode c_TY_taken 162 = .ok (.ireturn, 1) := by decide +kernel
theorem d_TY_taken_163 : decode c_TY_taken 163 = .ok (.bipush 37, 2) := by decide +kernel
theorem d_TY_taken_165 : decode c_TY_taken 165 = .ok (.ireturn, 1) := by decide +kernel
theorem d_TY_taken_166 : decode c_TY_taken 166 = .ok (.iconst 0, 1) := by decide +kernel
theorem d_TY_taken_167 : decode c_TY_taken 167 = .ok (.ireturn, 1) := by decide +kernel
theorem d_TY_writtenToLocal_0 : decode c_TY_writtenToLocal 0 = .ok (.iload_n 0, 1) := by decide +kernel
theorem d_TY_writtenToLocal_1 : decode c_TY_writtenToLocal 1 = .ok (.lookupswitch 31 #[(54, 27), (58, 29)], 27) := by decide +kernel
theorem d_TY_writtenToLocal_28 : decode c_TY_writtenToLocal 28 = .ok (.iconst 1, 1) := by decide +kernel
theorem d_TY_writtenToLocal_29 : decode c_TY_writtenToLocal 29 = .ok (.ireturn, 1) := by decide +kernel
theorem d_TY_writtenToLocal_30 : decode c_TY_writtenToLocal 30 = .ok (.iconst 2, 1) := by decide +kernel
theorem d_TY_writtenToLocal_31 : decode c_TY_writtenToLocal 31 = .ok (.ireturn, 1) := by decide +kernel
theorem d_TY_writtenToLocal_32 : decode c_TY_writtenToLocal 32 = .ok (.iconst 0, 1) := by decide +kernel
theorem d_TY_writtenToLocal_33 : decode c_TY_writtenToLocal 33 = .ok (.ireturn, 1) := by decide +kernel
theorem d_TY_put_0 : decode c_TY_put 0 = .ok (.iload_n 0, 1) := by decide +kernel
theorem d_TY_put_1 : decode c_TY_put 1 = .ok (.invokestatic 9, 3) := by decide +kernel
theorem d_TY_put_4 : decode c_TY_put 4 = .ok (.ifCond .eq 5, 3) := by decide +kernel
theorem d_TY_put_7 : decode c_TY_put 7 = .ok (.iconst 1, 1) := by decide +kernel
theorem d_TY_put_8 : decode c_TY_put 8 = .ok (.ireturn, 1) := by decide +kernel
theorem d_TY_put_9 : decode c_TY_put 9 = .ok (.iload_n 0, 1) := by decide +kernel
theorem d_TY_put_10 : decode c_TY_put 10 = .ok (.lookupswitch 86 #[(1, 84), (17, 82), (21, 82), (25, 84), (46, 82), (116, 82), (178, 82), (188, 84), (190, 82)], 82) := by decide +kernel
theorem d_TY_put_92 : decode c_TY_put 92 = .ok (.iconst 1, 1) := by decide +kernel
theorem d_TY_put_93 : decode c_TY_put 93 = .ok (.ireturn, 1) := by decide +kernel
theorem d_TY_put_94 : decode c_TY_put 94 = .ok (.iconst 2, 1) := by decide +kernel
theorem d_TY_put_95 : decode c_TY_put 95 = .ok (.ireturn, 1) := by decide +kernel
theorem d_TY_put_96 : decode c_TY_put 96 = .ok (.iconst 0, 1) := by decide +kernel
theorem d_TY_put_97 : decode c_TY_put 97 = .ok (.ireturn, 1) := by decide +kernel
theorem d_FL_applyPlain_0 : decode c_FL_applyPlain 0 = .ok (.aload_n 0, 1) := by decide +kernel
theorem d_FL_applyPlain_1 : decode c_FL_applyPlain 1 = .ok (.getfield 20, 3) := by decide +kernel
theorem d_FL_applyPlain_4 : decode c_FL_applyPlain 4 = .ok (.getfield 130, 3) := by decide +kernel
theorem d_FL_applyPlain_7 : decode c_FL_applyPlain 7 = .ok (.invokestatic 175, 3) := by decide +kernel
theorem d_FL_applyPlain_10 : decode c_FL_applyPlain 10 = .ok (.istore_n 1, 1) := by decide +kernel
theorem d_FL_applyPlain_11 : decode c_FL_applyPlain 11 = .ok (.iload_n 1, 1) := by decide +kernel
theorem d_FL_applyPlain_12 : decode c_FL_applyPlain 12 = .ok (.ifCond .eq 23, 3) := by decide +kernel
theorem d_FL_applyPlain_15 : decode c_FL_applyPlain 15 = .ok (.aload_n 0, 1) := by decide +kernel
theorem d_FL_applyPlain_16 : decode c_FL_applyPlain 16 = .ok (.getfield 90, 3) := by decide +kernel
theorem d_FL_applyPlain_19 : decode c_FL_applyPlain 19 = .ok (.aload_n 0, 1) := by decide +kernel
theorem d_FL_applyPlain_20 : decode c_FL_applyPlain 20 = .ok (.getfield 20, 3) := by decide +kernel
theorem d_FL_applyPlain_23 : decode c_FL_applyPlain 23 = .ok (.getfield 138, 3) := by decide +kernel
theorem d_FL_applyPlain_26 : decode c_FL_applyPlain 26 = .ok (.invokestatic 179, 3) := by decide +kernel
theorem d_FL_applyPlain_29 : decode c_FL_applyPlain 29 = .ok (.iload_n 1, 1) := by decide +kernel
theorem d_FL_applyPlain_30 : decode c_FL_applyPlain 30 = .ok (.if_icmp .eq 5, 3) := by decide +kernel
theorem d_FL_applyPlain_33 : decode c_FL_applyPlain 33 = .ok (.iconst 0, 1) := by decide +kernel
theorem d_FL_applyPlain_34 : decode c_FL_applyPlain 34 = .ok (.ireturn, 1) := by decide +kernel
theorem d_FL_applyPlain_35 : decode c_FL_applyPlain 35 = .ok (.aload_n 0, 1) := by decide +kernel
theorem d_FL_applyPlain_36 : decode c_FL_applyPlain 36 = .ok (.getfield 20, 3) := by decide +kernel
theorem d_FL_applyPlain_39 : decode c_FL_applyPlain 39 = .ok (.getfield 130, 3) := by decide +kernel
theorem d_FL_applyPlain_42 : decode c_FL_applyPlain 42 = .ok (.invokestatic 182, 3) := by decide +kernel
theorem d_FL_applyPlain_45 : decode c_FL_applyPlain 45 = .ok (.istore_n 2, 1) := by decide +kernel
theorem d_FL_applyPlain_46 : decode c_FL_applyPlain 46 = .ok (.iconst 0, 1) := by decide +kernel
theorem d_FL_applyPlain_47 : decode c_FL_applyPlain 47 = .ok (.istore_n 3, 1) := by decide +kernel
theorem d_FL_applyPlain_48 : decode c_FL_applyPlain 48 = .ok (.iload_n 3, 1) := by decide +kernel
theorem d_FL_applyPlain_49 : decode c_FL_applyPlain 49 = .ok (.iconst 3, 1) := by decide +kernel
theorem d_FL_applyPlain_50 : decode c_FL_applyPlain 50 = .ok (.if_icmp .ge 32, 3) := by decide +kernel
theorem d_FL_applyPlain_53 : decode c_FL_applyPlain 53 = .ok (.iload_n 2, 1) := by decide +kernel
theorem d_FL_applyPlain_54 : decode c_FL_applyPlain 54 = .ok (.iload_n 3, 1) := by decide +kernel
theorem d_FL_applyPlain_55 : decode c_FL_applyPlain 55 = .ok (.invokestatic 179, 3) := by decide +kernel
theorem d_FL_applyPlain_58 : decode c_FL_applyPlain 58 = .ok (.istore 4, 2) := by decide +kernel
theorem d_FL_applyPlain_60 : decode c_FL_applyPlain 60 = .ok (.iload 4, 2) := by decide +kernel
theorem d_FL_applyPlain_62 : decode c_FL_applyPlain 62 = .ok (.ifCond .eq 14, 3) := by decide +kernel
theorem d_FL_applyPlain_65 : decode c_FL_applyPlain 65 = .ok (.aload_n 0, 1) := by decide +kernel
theorem d_FL_applyPlain_66 : decode c_FL_applyPlain 66 = .ok (.invokevirtual 144, 3) := by decide +kernel
theorem d_FL_applyPlain_69 : decode c_FL_applyPlain 69 = .ok (.iload 4, 2) := by decide +kernel
theorem d_FL_applyPlain_71 : decode c_FL_applyPlain 71 = .ok (.if_icmp .eq 5, 3) := by decide +kernel
theorem d_FL_applyPlain_74 : decode c_FL_applyPlain 74 = .ok (.iconst 0, 1) := by decide +kernel
theorem d_FL_applyPlain_75 : decode c_FL_applyPlain 75 = .ok (.ireturn, 1) := by decide +kernel
theorem d_FL_applyPlain_76 : decode c_FL_applyPlain 76 = .ok (.iinc 3 1, 3) := by decide +kernel
theorem d_FL_applyPlain_79 : decode c_FL_applyPlain 79 = .ok (.goto (-31), 3) := by decide +kernel
theorem d_FL_applyPlain_82 : decode c_FL_applyPlain 82 = .ok (.aload_n 0, 1) := by decide +kernel
theorem d_FL_applyPlain_83 : decode c_FL_applyPlain 83 = .ok (.getfield 20, 3) := by decide +kernel
theorem d_FL_applyPlain_86 : decode c_FL_applyPlain 86 = .ok (.getfield 130, 3) := by decide +kernel
theorem d_FL_applyPlain_89 : decode c_FL_applyPlain 89 = .ok (.invokestatic 185, 3) := by decide +kernel
theorem d_FL_applyPlain_92 : decode c_FL_applyPlain 92 = .ok (.istore_n 3, 1) := by decide +kernel
theorem d_FL_applyPlain_93 : decode c_FL_applyPlain 93 = .ok (.iload_n 3, 1) := by decide +kernel
theorem d_FL_applyPlain_94 : decode c_FL_applyPlain 94 = .ok (.ifCond .eq 22, 3) := by decide +kernel
theorem d_FL_applyPlain_97 : decode c_FL_applyPlain 97 = .ok (.aload_n 0, 1) := by decide +kernel
theorem d_FL_applyPlain_98 : decode c_FL_applyPlain 98 = .ok (.aload_n 0, 1) := by decide +kernel
theorem d_FL_applyPlain_99 : decode c_FL_applyPlain 99 = .ok (.getfield 90, 3) := by decide +kernel
theorem d_FL_applyPlain_102 : decode c_FL_applyPlain 102 = .ok (.aload_n 0, 1) := by decide +kernel
theorem d_FL_applyPlain_103 : decode c_FL_applyPlain 103 = .ok (.getfield 20, 3) := by decide +kernel
theorem d_FL_applyPlain_106 : decode c_FL_applyPlain 106 = .ok (.getfield 138, 3) := by decide +kernel
theorem d_FL_applyPlain_109 : decode c_FL_applyPlain 109 = .ok (.iload_n 3, 1) := by decide +kernel
theorem d_FL_applyPlain_110 : decode c_FL_applyPlain 110 = .ok (.invokestatic 75, 3) := by decide +kernel
theorem d_FL_applyPlain_113 : decode c_FL_applyPlain 113 = .ok (.putfield 90, 3) := by decide +kernel
theorem d_FL_applyPlain_116 : decode c_FL_applyPlain 116 = .ok (.aload_n 0, 1) := by decide +kernel
theorem d_FL_applyPlain_117 : decode c_FL_applyPlain 117 = .ok (.aload_n 0, 1) := by decide +kernel
theorem d_FL_applyPlain_118 : decode c_FL_applyPlain 118 = .ok (.getfield 20, 3) := by decide +kernel
theorem d_FL_applyPlain_121 : decode c_FL_applyPlain 121 = .ok (.getfield 130, 3) := by decide +kernel
theorem d_FL_applyPlain_124 : decode c_FL_applyPlain 124 = .ok (.invokestatic 188, 3) := by decide +kernel
theorem d_FL_applyPlain_127 : decode c_FL_applyPlain 127 = .ok (.invokevirtual 164, 3) := by decide +kernel
theorem d_FL_applyPlain_130 : decode c_FL_applyPlain 130 = .ok (.iconst 1, 1) := by decide +kernel
theorem d_FL_applyPlain_131 : decode c_FL_applyPlain 131 = .ok (.ireturn, 1) := by decide +kernel
