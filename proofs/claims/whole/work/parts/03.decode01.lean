/-! decode rows; written by wip/whole/gen/methods.py -/
theorem d_FL_applyInstruction_0 : decode c_FL_applyInstruction 0 = .ok (.aload_n 0, 1) := by decide +kernel
theorem d_FL_applyInstruction_1 : decode c_FL_applyInstruction 1 = .ok (.getfield 20, 3) := by decide +kernel
theorem d_FL_applyInstruction_4 : decode c_FL_applyInstruction 4 = .ok (.getfield 130, 3) := by decide +kernel
theorem d_FL_applyInstruction_7 : decode c_FL_applyInstruction 7 = .ok (.lookupswitch 118 #[(87, 57), (89, 70), (95, 75), (172, 85), (177, 105), (184, 80)], 57) := by decide +kernel
theorem d_FL_applyInstruction_64 : decode c_FL_applyInstruction 64 = .ok (.aload_n 0, 1) := by decide +kernel
theorem d_FL_applyInstruction_65 : decode c_FL_applyInstruction 65 = .ok (.invokevirtual 144, 3) := by decide +kernel
theorem d_FL_applyInstruction_68 : decode c_FL_applyInstruction 68 = .ok (.ifCond .eq 7, 3) := by decide +kernel
theorem d_FL_applyInstruction_71 : decode c_FL_applyInstruction 71 = .ok (.iconst 1, 1) := by decide +kernel
theorem d_FL_applyInstruction_72 : decode c_FL_applyInstruction 72 = .ok (.goto 4, 3) := by decide +kernel
theorem d_FL_applyInstruction_75 : decode c_FL_applyInstruction 75 = .ok (.iconst 0, 1) := by decide +kernel
theorem d_FL_applyInstruction_76 : decode c_FL_applyInstruction 76 = .ok (.ireturn, 1) := by decide +kernel
theorem d_FL_applyInstruction_77 : decode c_FL_applyInstruction 77 = .ok (.aload_n 0, 1) := by decide +kernel
theorem d_FL_applyInstruction_78 : decode c_FL_applyInstruction 78 = .ok (.invokevirtual 147, 3) := by decide +kernel
theorem d_FL_applyInstruction_81 : decode c_FL_applyInstruction 81 = .ok (.ireturn, 1) := by decide +kernel
theorem d_FL_applyInstruction_82 : decode c_FL_applyInstruction 82 = .ok (.aload_n 0, 1) := by decide +kernel
theorem d_FL_applyInstruction_83 : decode c_FL_applyInstruction 83 = .ok (.invokevirtual 151, 3) := by decide +kernel
theorem d_FL_applyInstruction_86 : decode c_FL_applyInstruction 86 = .ok (.ireturn, 1) := by decide +kernel
theorem d_FL_applyInstruction_87 : decode c_FL_applyInstruction 87 = .ok (.aload_n 0, 1) := by decide +kernel
theorem d_FL_applyInstruction_88 : decode c_FL_applyInstruction 88 = .ok (.invokevirtual 154, 3) := by decide +kernel
theorem d_FL_applyInstruction_91 : decode c_FL_applyInstruction 91 = .ok (.ireturn, 1) := by decide +kernel
theorem d_FL_applyInstruction_92 : decode c_FL_applyInstruction 92 = .ok (.aload_n 1, 1) := by decide +kernel
theorem d_FL_applyInstruction_93 : decode c_FL_applyInstruction 93 = .ok (.getfield 157, 3) := by decide +kernel
theorem d_FL_applyInstruction_96 : decode c_FL_applyInstruction 96 = .ok (.ifCond .eq 14, 3) := by decide +kernel
theorem d_FL_applyInstruction_99 : decode c_FL_applyInstruction 99 = .ok (.aload_n 0, 1) := by decide +kernel
theorem d_FL_applyInstruction_100 : decode c_FL_applyInstruction 100 = .ok (.invokevirtual 161, 3) := by decide +kernel
theorem d_FL_applyInstruction_103 : decode c_FL_applyInstruction 103 = .ok (.ifCond .eq 7, 3) := by decide +kernel
theorem d_FL_applyInstruction_106 : decode c_FL_applyInstruction 106 = .ok (.iconst 1, 1) := by decide +kernel
theorem d_FL_applyInstruction_107 : decode c_FL_applyInstruction 107 = .ok (.goto 4, 3) := by decide +kernel
theorem d_FL_applyInstruction_110 : decode c_FL_applyInstruction 110 = .ok (.iconst 0, 1) := by decide +kernel
theorem d_FL_applyInstruction_111 : decode c_FL_applyInstruction 111 = .ok (.ireturn, 1) := by decide +kernel
theorem d_FL_applyInstruction_112 : decode c_FL_applyInstruction 112 = .ok (.aload_n 1, 1) := by decide +kernel
theorem d_FL_applyInstruction_113 : decode c_FL_applyInstruction 113 = .ok (.getfield 157, 3) := by decide +kernel
theorem d_FL_applyInstruction_116 : decode c_FL_applyInstruction 116 = .ok (.ifCond .ne 7, 3) := by decide +kernel
theorem d_FL_applyInstruction_119 : decode c_FL_applyInstruction 119 = .ok (.iconst 1, 1) := by decide +kernel
theorem d_FL_applyInstruction_120 : decode c_FL_applyInstruction 120 = .ok (.goto 4, 3) := by decide +kernel
theorem d_FL_applyInstruction_123 : decode c_FL_applyInstruction 123 = .ok (.iconst 0, 1) := by decide +kernel
theorem d_FL_applyInstruction_124 : decode c_FL_applyInstruction 124 = .ok (.ireturn, 1) := by decide +kernel
theorem d_FL_applyInstruction_125 : decode c_FL_applyInstruction 125 = .ok (.aload_n 0, 1) := by decide +kernel
theorem d_FL_applyInstruction_126 : decode c_FL_applyInstruction 126 = .ok (.invokevirtual 161, 3) := by decide +kernel
theorem d_FL_applyInstruction_129 : decode c_FL_applyInstruction 129 = .ok (.ireturn, 1) := by decide +kernel
theorem d_FL_comeToFollowers_0 : decode c_FL_comeToFollowers 0 = .ok (.aload_n 0, 1) := by decide +kernel
theorem d_FL_comeToFollowers_1 : decode c_FL_comeToFollowers 1 = .ok (.getfield 20, 3) := by decide +kernel
theorem d_FL_comeToFollowers_4 : decode c_FL_comeToFollowers 4 = .ok (.getfield 130, 3) := by decide +kernel
theorem d_FL_comeToFollowers_7 : decode c_FL_comeToFollowers 7 = .ok (.istore_n 3, 1) := by decide +kernel
theorem d_FL_comeToFollowers_8 : decode c_FL_comeToFollowers 8 = .ok (.iload_n 3, 1) := by decide +kernel
theorem d_FL_comeToFollowers_9 : decode c_FL_comeToFollowers 9 = .ok (.sipush 172, 3) := by decide +kernel
theorem d_FL_comeToFollowers_12 : decode c_FL_comeToFollowers 12 = .ok (.if_icmp .eq 10, 3) := by decide +kernel
theorem d_FL_comeToFollowers_15 : decode c_FL_comeToFollowers 15 = .ok (.iload_n 3, 1) := by decide +kernel
theorem d_FL_comeToFollowers_16 : decode c_FL_comeToFollowers 16 = .ok (.sipush 177, 3) := by decide +kernel
theorem d_FL_comeToFollowers_19 : decode c_FL_comeToFollowers 19 = .ok (.if_icmp .ne 5, 3) := by decide +kernel
theorem d_FL_comeToFollowers_22 : decode c_FL_comeToFollowers 22 = .ok (.iconst 1, 1) := by decide +kernel
theorem d_FL_comeToFollowers_23 : decode c_FL_comeToFollowers 23 = .ok (.ireturn, 1) := by decide +kernel
theorem d_FL_comeToFollowers_24 : decode c_FL_comeToFollowers 24 = .ok (.iload_n 3, 1) := by decide +kernel
theorem d_FL_comeToFollowers_25 : decode c_FL_comeToFollowers 25 = .ok (.invokestatic 135, 3) := by decide +kernel
theorem d_FL_comeToFollowers_28 : decode c_FL_comeToFollowers 28 = .ok (.ifCond .eq 34, 3) := by decide +kernel
theorem d_FL_comeToFollowers_31 : decode c_FL_comeToFollowers 31 = .ok (.aload_n 0, 1) := by decide +kernel
theorem d_FL_comeToFollowers_32 : decode c_FL_comeToFollowers 32 = .ok (.aload_n 1, 1) := by decide +kernel
theorem d_FL_comeToFollowers_33 : decode c_FL_comeToFollowers 33 = .ok (.iload_n 2, 1) := by decide +kernel
theorem d_FL_comeToFollowers_34 : decode c_FL_comeToFollowers 34 = .ok (.aload_n 0, 1) := by decide +kernel
theorem d_FL_comeToFollowers_35 : decode c_FL_comeToFollowers 35 = .ok (.getfield 20, 3) := by decide +kernel
theorem d_FL_comeToFollowers_38 : decode c_FL_comeToFollowers 38 = .ok (.getfield 138, 3) := by decide +kernel
theorem d_FL_comeToFollowers_41 : decode c_FL_comeToFollowers 41 = .ok (.iadd, 1) := by decide +kernel
theorem d_FL_comeToFollowers_42 : decode c_FL_comeToFollowers 42 = .ok (.aload_n 0, 1) := by decide +kernel
theorem d_FL_comeToFollowers_43 : decode c_FL_comeToFollowers 43 = .ok (.getfield 90, 3) := by decide +kernel
theorem d_FL_comeToFollowers_46 : decode c_FL_comeToFollowers 46 = .ok (.aload_n 0, 1) := by decide +kernel
theorem d_FL_comeToFollowers_47 : decode c_FL_comeToFollowers 47 = .ok (.getfield 93, 3) := by decide +kernel
theorem d_FL_comeToFollowers_50 : decode c_FL_comeToFollowers 50 = .ok (.aload_n 0, 1) := by decide +kernel
theorem d_FL_comeToFollowers_51 : decode c_FL_comeToFollowers 51 = .ok (.getfield 96, 3) := by decide +kernel
theorem d_FL_comeToFollowers_54 : decode c_FL_comeToFollowers 54 = .ok (.invokevirtual 49, 3) := by decide +kernel
theorem d_FL_comeToFollowers_57 : decode c_FL_comeToFollowers 57 = .ok (.ifCond .ne 5, 3) := by decide +kernel
theorem d_FL_comeToFollowers_60 : decode c_FL_comeToFollowers 60 = .ok (.iconst 0, 1) := by decide +kernel
theorem d_FL_comeToFollowers_61 : decode c_FL_comeToFollowers 61 = .ok (.ireturn, 1) := by decide +kernel
theorem d_FL_comeToFollowers_62 : decode c_FL_comeToFollowers 62 = .ok (.iload_n 3, 1) := by decide +kernel
theorem d_FL_comeToFollowers_63 : decode c_FL_comeToFollowers 63 = .ok (.sipush 167, 3) := by decide +kernel
theorem d_FL_comeToFollowers_66 : decode c_FL_comeToFollowers 66 = .ok (.if_icmp .eq 32, 3) := by decide +kernel
theorem d_FL_comeToFollowers_69 : decode c_FL_comeToFollowers 69 = .ok (.aload_n 0, 1) := by decide +kernel
theorem d_FL_comeToFollowers_70 : decode c_FL_comeToFollowers 70 = .ok (.aload_n 1, 1) := by decide +kernel
theorem d_FL_comeToFollowers_71 : decode c_FL_comeToFollowers 71 = .ok (.iload_n 2, 1) := by decide +kernel
theorem d_FL_comeToFollowers_72 : decode c_FL_comeToFollowers 72 = .ok (.aload_n 0, 1) := by decide +kernel
theorem d_FL_comeToFollowers_73 : decode c_FL_comeToFollowers 73 = .ok (.getfield 20, 3) := by decide +kernel
theorem d_FL_comeToFollowers_76 : decode c_FL_comeToFollowers 76 = .ok (.getfield 141, 3) := by decide +kernel
theorem d_FL_comeToFollowers_79 : decode c_FL_comeToFollowers 79 = .ok (.iadd, 1) := by decide +kernel
theorem d_FL_comeToFollowers_80 : decode c_FL_comeToFollowers 80 = .ok (.aload_n 0, 1) := by decide +kernel
theorem d_FL_comeToFollowers_81 : decode c_FL_comeToFollowers 81 = .ok (.getfield 90, 3) := by decide +kernel
theorem d_FL_comeToFollowers_84 : decode c_FL_comeToFollowers 84 = .ok (.aload_n 0, 1) := by decide +kernel
theorem d_FL_comeToFollowers_85 : decode c_FL_comeToFollowers 85 = .ok (.getfield 93, 3) := by decide +kernel
theorem d_FL_comeToFollowers_88 : decode c_FL_comeToFollowers 88 = .ok (.aload_n 0, 1) := by decide +kernel
theorem d_FL_comeToFollowers_89 : decode c_FL_comeToFollowers 89 = .ok (.getfield 96, 3) := by decide +kernel
theorem d_FL_comeToFollowers_92 : decode c_FL_comeToFollowers 92 = .ok (.invokevirtual 49, 3) := by decide +kernel
theorem d_FL_comeToFollowers_95 : decode c_FL_comeToFollowers 95 = .ok (.ifCond .eq 7, 3) := by decide +kernel
theorem d_FL_comeToFollowers_98 : decode c_FL_comeToFollowers 98 = .ok (.iconst 1, 1) := by decide +kernel
theorem d_FL_comeToFollowers_99 : decode c_FL_comeToFollowers 99 = .ok (.goto 4, 3) := by decide +kernel
theorem d_FL_comeToFollowers_102 : decode c_FL_comeToFollowers 102 = .ok (.iconst 0, 1) := by decide +kernel
theorem d_FL_comeToFollowers_103 : decode c_FL_comeToFollowers 103 = .ok (.ireturn, 1) := by decide +kernel
theorem d_FL_visit_0 : decode c_FL_visit 0 = .ok (.aload_n 1, 1) := by decide +kernel
theorem d_FL_visit_1 : decode c_FL_visit 1 = .ok (.getfield 57, 3) := by decide +kernel
theorem d_FL_visit_4 : decode c_FL_visit 4 = .ok (.iload_n 2, 1) := by decide +kernel
theorem d_FL_visit_5 : decode c_FL_visit 5 = .ok (.iadd, 1) := by decide +kernel
theorem d_FL_visit_6 : decode c_FL_visit 6 = .ok (.istore_n 3, 1) := by decide +kernel
theorem d_FL_visit_7 : decode c_FL_visit 7 = .ok (.aload_n 0, 1) := by decide +kernel
theorem d_FL_visit_8 : decode c_FL_visit 8 = .ok (.aload_n 0, 1) := by decide +kernel
theorem d_FL_visit_9 : decode c_FL_visit 9 = .ok (.getfield 24, 3) := by decide +kernel
theorem d_FL_visit_12 : decode c_FL_visit 12 = .ok (.iload_n 3, 1) := by decide +kernel
theorem d_FL_visit_13 : decode c_FL_visit 13 = .ok (.iaload, 1) := by decide +kernel
theorem d_FL_visit_14 : decode c_FL_visit 14 = .ok (.putfield 90, 3) := by decide +kernel
theorem d_FL_visit_17 : decode c_FL_visit 17 = .ok (.aload_n 0, 1) := by decide +kernel
theorem d_FL_visit_18 : decode c_FL_visit 18 = .ok (.aload_n 0, 1) := by decide +kernel
theorem d_FL_visit_19 : decode c_FL_visit 19 = .ok (.getfield 28, 3) := by decide +kernel
theorem d_FL_visit_22 : decode c_FL_visit 22 = .ok (.iload_n 3, 1) := by decide +kernel
theorem d_FL_visit_23 : decode c_FL_visit 23 = .ok (.iaload, 1) := by decide +kernel
theorem d_FL_visit_24 : decode c_FL_visit 24 = .ok (.putfield 93, 3) := by decide +kernel
theorem d_FL_visit_27 : decode c_FL_visit 27 = .ok (.aload_n 0, 1) := by decide +kernel
theorem d_FL_visit_28 : decode c_FL_visit 28 = .ok (.aload_n 0, 1) := by decide +kernel
theorem d_FL_visit_29 : decode c_FL_visit 29 = .ok (.getfield 31, 3) := by decide +kernel
theorem d_FL_visit_32 : decode c_FL_visit 32 = .ok (.iload_n 3, 1) := by decide +kernel
theorem d_FL_visit_33 : decode c_FL_visit 33 = .ok (.iaload, 1) := by decide +kernel
theorem d_FL_visit_34 : decode c_FL_visit 34 = .ok (.putfield 96, 3) := by decide +kernel
theorem d_FL_visit_37 : decode c_FL_visit 37 = .ok (.aload_n 0, 1) := by decide +kernel
theorem d_FL_visit_38 : decode c_FL_visit 38 = .ok (.getfield 20, 3) := by decide +kernel
theorem d_FL_visit_41 : decode c_FL_visit 41 = .ok (.aload_n 0, 1) := by decide +kernel
theorem d_FL_visit_42 : decode c_FL_visit 42 = .ok (.getfield 11, 3) := by decide +kernel
theorem d_FL_visit_45 : decode c_FL_visit 45 = .ok (.iload_n 3, 1) := by decide +kernel
theorem d_FL_visit_46 : decode c_FL_visit 46 = .ok (.invokevirtual 99, 3) := by decide +kernel
theorem d_FL_visit_49 : decode c_FL_visit 49 = .ok (.aload_n 0, 1) := by decide +kernel
theorem d_FL_visit_50 : decode c_FL_visit 50 = .ok (.aload_n 1, 1) := by decide +kernel
theorem d_FL_visit_51 : decode c_FL_visit 51 = .ok (.iload_n 2, 1) := by decide +kernel
theorem d_FL_visit_52 : decode c_FL_visit 52 = .ok (.invokevirtual 103, 3) := by decide +kernel
theorem d_FL_visit_55 : decode c_FL_visit 55 = .ok (.ifCond .eq 44, 3) := by decide +kernel
theorem d_FL_visit_58 : decode c_FL_visit 58 = .ok (.aload_n 0, 1) := by decide +kernel
theorem d_FL_visit_59 : decode c_FL_visit 59 = .ok (.aload_n 1, 1) := by decide +kernel
theorem d_FL_visit_60 : decode c_FL_visit 60 = .ok (.invokevirtual 106, 3) := by decide +kernel
theorem d_FL_visit_63 : decode c_FL_visit 63 = .ok (.ifCond .eq 36, 3) := by decide +kernel
theorem d_FL_visit_66 : decode c_FL_visit 66 = .ok (.aload_n 0, 1) := by decide +kernel
theorem d_FL_visit_67 : decode c_FL_visit 67 = .ok (.getfield 96, 3) := by decide +kernel
theorem d_FL_visit_70 : decode c_FL_visit 70 = .ok (.aload_n 1, 1) := by decide +kernel
theorem d_FL_visit_71 : decode c_FL_visit 71 = .ok (.getfield 110, 3) := by decide +kernel
theorem d_FL_visit_74 : decode c_FL_visit 74 = .ok (.if_icmp .gt 25, 3) := by decide +kernel
theorem d_FL_visit_77 : decode c_FL_visit 77 = .ok (.aload_n 0, 1) := by decide +kernel
theorem d_FL_visit_78 : decode c_FL_visit 78 = .ok (.aload_n 1, 1) := by decide +kernel
theorem d_FL_visit_79 : decode c_FL_visit 79 = .ok (.iload_n 2, 1) := by decide +kernel
theorem d_FL_visit_80 : decode c_FL_visit 80 = .ok (.invokevirtual 103, 3) := by decide +kernel
theorem d_FL_visit_83 : decode c_FL_visit 83 = .ok (.ifCond .eq 16, 3) := by decide +kernel
theorem d_FL_visit_86 : decode c_FL_visit 86 = .ok (.aload_n 0, 1) := by decide +kernel
theorem d_FL_visit_87 : decode c_FL_visit 87 = .ok (.aload_n 1, 1) := by decide +kernel
theorem d_FL_visit_88 : decode c_FL_visit 88 = .ok (.iload_n 2, 1) := by decide +kernel
theorem d_FL_visit_89 : decode c_FL_visit 89 = .ok (.invokevirtual 111, 3) := by decide +kernel
theorem d_FL_visit_92 : decode c_FL_visit 92 = .ok (.ifCond .eq 7, 3) := by decide +kernel
theorem d_FL_visit_95 : decode c_FL_visit 95 = .ok (.iconst 1, 1) := by decide +kernel
theorem d_FL_visit_96 : decode c_FL_visit 96 = .ok (.goto 4, 3) := by decide +kernel
theorem d_FL_visit_99 : decode c_FL_visit 99 = .ok (.iconst 0, 1) := by decide +kernel
theorem d_FL_visit_100 : decode c_FL_visit 100 = .ok (.ireturn, 1) := by decide +kernel
theorem d_FL_holdsFor_0 : decode c_FL_holdsFor 0 = .ok (.aload_n 0, 1) := by decide +kernel
theorem d_FL_holdsFor_1 : decode c_FL_holdsFor 1 = .ok (.aload_n 1, 1) := by decide +kernel
theorem d_FL_holdsFor_2 : decode c_FL_holdsFor 2 = .ok (.invokevirtual 41, 3) := by decide +kernel
theorem d_FL_holdsFor_5 : decode c_FL_holdsFor 5 = .ok (.aload_n 0, 1) := by decide +kernel
theorem d_FL_holdsFor_6 : decode c_FL_holdsFor 6 = .ok (.aload_n 1, 1) := by decide +kernel
theorem d_FL_holdsFor_7 : decode c_FL_holdsFor 7 = .ok (.iconst 0, 1) := by decide +kernel
theorem d_FL_holdsFor_8 : decode c_FL_holdsFor 8 = .ok (.aload_n 1, 1) := by decide +kernel
theorem d_FL_holdsFor_9 : decode c_FL_holdsFor 9 = .ok (.invokestatic 45, 3) := by decide +kernel
theorem d_FL_holdsFor_12 : decode c_FL_holdsFor 12 = .ok (.iconst 0, 1) := by decide +kernel
theorem d_FL_holdsFor_13 : decode c_FL_holdsFor 13 = .ok (.iconst 0, 1) := by decide +kernel
theorem d_FL_holdsFor_14 : decode c_FL_holdsFor 14 = .ok (.invokevirtual 49, 3) := by decide +kernel
theorem d_FL_holdsFor_17 : decode c_FL_holdsFor 17 = .ok (.ifCond .ne 5, 3) := by decide +kernel
theorem d_FL_holdsFor_20 : decode c_FL_holdsFor 20 = .ok (.iconst 0, 1) := by decide +kernel
theorem d_FL_holdsFor_21 : decode c_FL_holdsFor 21 = .ok (.ireturn, 1) := by decide +kernel
theorem d_FL_holdsFor_22 : decode c_FL_holdsFor 22 = .ok (.iconst 0, 1) := by decide +kernel
theorem d_FL_holdsFor_23 : decode c_FL_holdsFor 23 = .ok (.istore_n 2, 1) := by decide +kernel
theorem d_FL_holdsFor_24 : decode c_FL_holdsFor 24 = .ok (.iload_n 2, 1) := by decide +kernel
theorem d_FL_holdsFor_25 : decode c_FL_holdsFor 25 = .ok (.sipush 1800, 3) := by decide +kernel
theorem d_FL_holdsFor_28 : decode c_FL_holdsFor 28 = .ok (.if_icmp .ge 59, 3) := by decide +kernel
theorem d_FL_holdsFor_31 : decode c_FL_holdsFor 31 = .ok (.aload_n 0, 1) := by decide +kernel
theorem d_FL_holdsFor_32 : decode c_FL_holdsFor 32 = .ok (.getfield 53, 3) := by decide +kernel
theorem d_FL_holdsFor_35 : decode c_FL_holdsFor 35 = .ok (.ifCond .le 52, 3) := by decide +kernel
theorem d_FL_holdsFor_38 : decode c_FL_holdsFor 38 = .ok (.aload_n 0, 1) := by decide +kernel
theorem d_FL_holdsFor_39 : decode c_FL_holdsFor 39 = .ok (.dup, 1) := by decide +kernel
theorem d_FL_holdsFor_40 : decode c_FL_holdsFor 40 = .ok (.getfield 53, 3) := by decide +kernel
theorem d_FL_holdsFor_43 : decode c_FL_holdsFor 43 = .ok (.iconst 1, 1) := by decide +kernel
theorem d_FL_holdsFor_44 : decode c_FL_holdsFor 44 = .ok (.isub, 1) := by decide +kernel
theorem d_FL_holdsFor_45 : decode c_FL_holdsFor 45 = .ok (.putfield 53, 3) := by decide +kernel
theorem d_FL_holdsFor_48 : decode c_FL_holdsFor 48 = .ok (.aload_n 0, 1) := by decide +kernel
theorem d_FL_holdsFor_49 : decode c_FL_holdsFor 49 = .ok (.getfield 34, 3) := by decide +kernel
theorem d_FL_holdsFor_52 : decode c_FL_holdsFor 52 = .ok (.aload_n 0, 1) := by decide +kernel
theorem d_FL_holdsFor_53 : decode c_FL_holdsFor 53 = .ok (.getfield 53, 3) := by decide +kernel
theorem d_FL_holdsFor_56 : decode c_FL_holdsFor 56 = .ok (.iaload, 1) := by decide +kernel
theorem d_FL_holdsFor_57 : decode c_FL_holdsFor 57 = .ok (.istore_n 3, 1) := by decide +kernel
theorem d_FL_holdsFor_58 : decode c_FL_holdsFor 58 = .ok (.aload_n 0, 1) := by decide +kernel
theorem d_FL_holdsFor_59 : decode c_FL_holdsFor 59 = .ok (.getfield 37, 3) := by decide +kernel
theorem d_FL_holdsFor_62 : decode c_FL_holdsFor 62 = .ok (.aload_n 1, 1) := by decide +kernel
theorem d_FL_holdsFor_63 : decode c_FL_holdsFor 63 = .ok (.getfield 57, 3) := by decide +kernel
theorem d_FL_holdsFor_66 : decode c_FL_holdsFor 66 = .ok (.iload_n 3, 1) := by decide +kernel
theorem d_FL_holdsFor_67 : decode c_FL_holdsFor 67 = .ok (.iadd, 1) := by decide +kernel
theorem d_FL_holdsFor_68 : decode c_FL_holdsFor 68 = .ok (.iconst 0, 1) := by decide +kernel
theorem d_FL_holdsFor_69 : decode c_FL_holdsFor 69 = .ok (.bastore, 1) := by decide +kernel
theorem d_FL_holdsFor_70 : decode c_FL_holdsFor 70 = .ok (.aload_n 0, 1) := by decide +kernel
theorem d_FL_holdsFor_71 : decode c_FL_holdsFor 71 = .ok (.aload_n 1, 1) := by decide +kernel
theorem d_FL_holdsFor_72 : decode c_FL_holdsFor 72 = .ok (.iload_n 3, 1) := by decide +kernel
theorem d_FL_holdsFor_73 : decode c_FL_holdsFor 73 = .ok (.invokevirtual 62, 3) := by decide +kernel
theorem d_FL_holdsFor_76 : decode c_FL_holdsFor 76 = .ok (.ifCond .ne 5, 3) := by decide +kernel
theorem d_FL_holdsFor_79 : decode c_FL_holdsFor 79 = .ok (.iconst 0, 1) := by decide +kernel
theorem d_FL_holdsFor_80 : decode c_FL_holdsFor 80 = .ok (.ireturn, 1) := by decide +kernel
theorem d_FL_holdsFor_81 : decode c_FL_holdsFor 81 = .ok (.iinc 2 1, 3) := by decide +kernel
theorem d_FL_holdsFor_84 : decode c_FL_holdsFor 84 = .ok (.goto (-60), 3) := by decide +kernel
theorem d_FL_holdsFor_87 : decode c_FL_holdsFor 87 = .ok (.iconst 1, 1) := by decide +kernel
theorem d_FL_holdsFor_88 : decode c_FL_holdsFor 88 = .ok (.ireturn, 1) := by decide +kernel
theorem d_FL_countStates_0 : decode c_FL_countStates 0 = .ok (.iconst 0, 1) := by decide +kernel
theorem d_FL_countStates_1 : decode c_FL_countStates 1 = .ok (.istore_n 1, 1) := by decide +kernel
theorem d_FL_countStates_2 : decode c_FL_countStates 2 = .ok (.iconst 0, 1) := by decide +kernel
theorem d_FL_countStates_3 : decode c_FL_countStates 3 = .ok (.istore_n 2, 1) := by decide +kernel
theorem d_FL_countStates_4 : decode c_FL_countStates 4 = .ok (.iload_n 2, 1) := by decide +kernel
theorem d_FL_countStates_5 : decode c_FL_countStates 5 = .ok (.aload_n 0, 1) := by decide +kernel
theorem d_FL_countStates_6 : decode c_FL_countStates 6 = .ok (.getfield 11, 3) := by decide +kernel
theorem d_FL_countStates_9 : decode c_FL_countStates 9 = .ok (.invokevirtual 190, 3) := by decide +kernel
theorem d_FL_countStates_12 : decode c_FL_countStates 12 = .ok (.if_icmp .ge 22, 3) := by decide +kernel
theorem d_FL_countStates_15 : decode c_FL_countStates 15 = .ok (.aload_n 0, 1) := by decide +kernel
theorem d_FL_countStates_16 : decode c_FL_countStates 16 = .ok (.getfield 31, 3) := by decide +kernel
theorem d_FL_countStates_19 : decode c_FL_countStates 19 = .ok (.iload_n 2, 1) := by decide +kernel
theorem d_FL_countStates_20 : decode c_FL_countStates 20 = .ok (.iaload, 1) := by decide +kernel
theorem d_FL_countStates_21 : decode c_FL_countStates 21 = .ok (.iconst (-1), 1) := by decide +kernel
theorem d_FL_countStates_22 : decode c_FL_countStates 22 = .ok (.if_icmp .eq 6, 3) := by decide +kernel
theorem d_FL_countStates_25 : decode c_FL_countStates 25 = .ok (.iinc 1 1, 3) := by decide +kernel
theorem d_FL_countStates_28 : decode c_FL_countStates 28 = .ok (.iinc 2 1, 3) := by decide +kernel
theorem d_FL_countStates_31 : decode c_FL_countStates 31 = .ok (.goto (-27), 3) := by decide +kernel
theorem d_FL_countStates_34 : decode c_FL_countStates 34 = .ok (.iload_n 1, 1) := by decide +kernel
theorem d_FL_countStates_35 : decode c_FL_countStates 35 = .ok (.ireturn, 1) := by decide +kernel
theorem d_FW_verify_0 : decode c_FW_verify 0 = .ok (.aload_n 0, 1) := by decide +kernel
theorem d_FW_verify_1 : decode c_FW_verify 1 = .ok (.getfield 47, 3) := by decide +kernel
theorem d_FW_verify_4 : decode c_FW_verify 4 = .ok (.ifCond .ne 13, 3) := by decide +kernel
theorem d_FW_verify_7 : decode c_FW_verify 7 = .ok (.aload_n 0, 1) := by decide +kernel
theorem d_FW_verify_8 : decode c_FW_verify 8 = .ok (.getfield 10, 3) := by decide +kernel
theorem d_FW_verify_11 : decode c_FW_verify 11 = .ok (.getfield 75, 3) := by decide +kernel
theorem d_FW_verify_14 : decode c_FW_verify 14 = .ok (.ifCond .ne 11, 3) := by decide +kernel
theorem d_FW_verify_17 : decode c_FW_verify 17 = .ok (.new 58, 3) := by decide +kernel
theorem d_FW_verify_20 : decode c_FW_verify 20 = .ok (.dup, 1) := by decide +kernel
theorem d_FW_verify_21 : decode c_FW_verify 21 = .ok (.invokespecial 60, 3) := by decide +kernel
theorem d_FW_verify_24 : decode c_FW_verify 24 = .ok (.athrow, 1) := by decide +kernel
theorem d_FW_verify_25 : decode c_FW_verify 25 = .ok (.aload_n 0, 1) := by decide +kernel
theorem d_FW_verify_26 : decode c_FW_verify 26 = .ok (.iconst (-1), 1) := by decide +kernel
theorem d_FW_verify_27 : decode c_FW_verify 27 = .ok (.putfield 51, 3) := by decide +kernel
theorem d_FW_verify_30 : decode c_FW_verify 30 = .ok (.iconst 0, 1) := by decide +kernel
theorem d_FW_verify_31 : decode c_FW_verify 31 = .ok (.istore_n 1, 1) := by decide +kernel
theorem d_FW_verify_32 : decode c_FW_verify 32 = .ok (.iload_n 1, 1) := by decide +kernel
theorem d_FW_verify_33 : decode c_FW_verify 33 = .ok (.aload_n 0, 1) := by decide +kernel
theorem d_FW_verify_34 : decode c_FW_verify 34 = .ok (.getfield 10, 3) := by decide +kernel
theorem d_FW_verify_37 : decode c_FW_verify 37 = .ok (.getfield 75, 3) := by decide +kernel
theorem d_FW_verify_40 : decode c_FW_verify 40 = .ok (.if_icmp .ge 76, 3) := by decide +kernel
theorem d_FW_verify_43 : decode c_FW_verify 43 = .ok (.aload_n 0, 1) := by decide +kernel
theorem d_FW_verify_44 : decode c_FW_verify 44 = .ok (.getfield 51, 3) := by decide +kernel
theorem d_FW_verify_47 : decode c_FW_verify 47 = .ok (.iconst (-1), 1) := by decide +kernel
theorem d_FW_verify_48 : decode c_FW_verify 48 = .ok (.if_icmp .ne 68, 3) := by decide +kernel
theorem d_FW_verify_51 : decode c_FW_verify 51 = .ok (.aload_n 0, 1) := by decide +kernel
theorem d_FW_verify_52 : decode c_FW_verify 52 = .ok (.getfield 21, 3) := by decide +kernel
theorem d_FW_verify_55 : decode c_FW_verify 55 = .ok (.aload_n 0, 1) := by decide +kernel
theorem d_FW_verify_56 : decode c_FW_verify 56 = .ok (.getfield 10, 3) := by decide +kernel
theorem d_FW_verify_59 : decode c_FW_verify 59 = .ok (.getfield 86, 3) := by decide +kernel
theorem d_FW_verify_62 : decode c_FW_verify 62 = .ok (.iload_n 1, 1) := by decide +kernel
theorem d_FW_verify_63 : decode c_FW_verify 63 = .ok (.aaload, 1) := by decide +kernel
theorem d_FW_verify_64 : decode c_FW_verify 64 = .ok (.invokevirtual 90, 3) := by decide +kernel
theorem d_FW_verify_67 : decode c_FW_verify 67 = .ok (.istore_n 2, 1) := by decide +kernel
theorem d_FW_verify_68 : decode c_FW_verify 68 = .ok (.iload_n 2, 1) := by decide +kernel
theorem d_FW_verify_69 : decode c_FW_verify 69 = .ok (.ifCond .eq 22, 3) := by decide +kernel
theorem d_FW_verify_72 : decode c_FW_verify 72 = .ok (.aload_n 0, 1) := by decide +kernel
theorem d_FW_verify_73 : decode c_FW_verify 73 = .ok (.getfield 28, 3) := by decide +kernel
theorem d_FW_verify_76 : decode c_FW_verify 76 = .ok (.aload_n 0, 1) := by decide +kernel
theorem d_FW_verify_77 : decode c_FW_verify 77 = .ok (.getfield 10, 3) := by decide +kernel
theorem d_FW_verify_80 : decode c_FW_verify 80 = .ok (.getfield 86, 3) := by decide +kernel
theorem d_FW_verify_83 : decode c_FW_verify 83 = .ok (.iload_n 1, 1) := by decide +kernel
theorem d_FW_verify_84 : decode c_FW_verify 84 = .ok (.aaload, 1) := by decide +kernel
theorem d_FW_verify_85 : decode c_FW_verify 85 = .ok (.invokevirtual 94, 3) := by decide +kernel
theorem d_FW_verify_88 : decode c_FW_verify 88 = .ok (.ifCond .ne 22, 3) := by decide +kernel
theorem d_FW_verify_91 : decode c_FW_verify 91 = .ok (.aload_n 0, 1) := by decide +kernel
theorem d_FW_verify_92 : decode c_FW_verify 92 = .ok (.iload_n 2, 1) := by decide +kernel
theorem d_FW_verify_93 : decode c_FW_verify 93 = .ok (.ifCond .eq 11, 3) := by decide +kernel
theorem d_FW_verify_96 : decode c_FW_verify 96 = .ok (.iconst 2, 1) := by decide +kernel
theorem d_FW_verify_97 : decode c_FW_verify 97 = .ok (.iload_n 1, 1) := by decide +kernel
theorem d_FW_verify_98 : decode c_FW_verify 98 = .ok (.imul, 1) := by decide +kernel
theorem d_FW_verify_99 : decode c_FW_verify 99 = .ok (.iconst 1, 1) := by decide +kernel
theorem d_FW_verify_100 : decode c_FW_verify 100 = .ok (.iadd, 1) := by decide +kernel
theorem d_FW_verify_101 : decode c_FW_verify 101 = .ok (.goto 6, 3) := by decide +kernel
theorem d_FW_verify_104 : decode c_FW_verify 104 = .ok (.iconst 2, 1) := by decide +kernel
theorem d_FW_verify_105 : decode c_FW_verify 105 = .ok (.iload_n 1, 1) := by decide +kernel
theorem d_FW_verify_106 : decode c_FW_verify 106 = .ok (.imul, 1) := by decide +kernel
theorem d_FW_verify_107 : decode c_FW_verify 107 = .ok (.putfield 51, 3) := by decide +kernel
theorem d_FW_verify_110 : decode c_FW_verify 110 = .ok (.iinc 1 1, 3) := by decide +kernel
theorem d_FW_verify_113 : decode c_FW_verify 113 = .ok (.goto (-81), 3) := by decide +kernel
theorem d_FW_verify_116 : decode c_FW_verify 116 = .ok (.aload_n 0, 1) := by decide +kernel
theorem d_FW_verify_117 : decode c_FW_verify 117 = .ok (.getfield 51, 3) := by decide +kernel
theorem d_FW_verify_120 : decode c_FW_verify 120 = .ok (.iconst (-1), 1) := by decide +kernel
theorem d_FW_verify_121 : decode c_FW_verify 121 = .ok (.if_icmp .eq 11, 3) := by decide +kernel
theorem d_FW_verify_124 : decode c_FW_verify 124 = .ok (.new 72, 3) := by decide +kernel
theorem d_FW_verify_127 : decode c_FW_verify 127 = .ok (.dup, 1) := by decide +kernel
theorem d_FW_verify_128 : decode c_FW_verify 128 = .ok (.invokespecial 74, 3) := by decide +kernel
theorem d_FW_verify_131 : decode c_FW_verify 131 = .ok (.athrow, 1) := by decide +kernel
theorem d_FW_verify_132 : decode c_FW_verify 132 = .ok (.aload_n 0, 1) := by decide +kernel
theorem d_FW_verify_133 : decode c_FW_verify 133 = .ok (.iconst 1, 1) := by decide +kernel
theorem d_FW_verify_134 : decode c_FW_verify 134 = .ok (.putfield 47, 3) := by decide +kernel
theorem d_FW_verify_137 : decode c_FW_verify 137 = .ok (.aload_n 0, 1) := by decide +kernel
theorem d_FW_verify_138 : decode c_FW_verify 138 = .ok (.getfield 28, 3) := by decide +kernel
theorem d_FW_verify_141 : decode c_FW_verify 141 = .ok (.invokevirtual 95, 3) := by decide +kernel
theorem d_FW_verify_144 : decode c_FW_verify 144 = .ok (.ireturn, 1) := by decide +kernel
theorem d_FW_fault_0 : decode c_FW_fault 0 = .ok (.aload_n 0, 1) := by decide +kernel
theorem d_FW_fault_1 : decode c_FW_fault 1 = .ok (.getfield 51, 3) := by decide +kernel
theorem d_FW_fault_4 : decode c_FW_fault 4 = .ok (.ireturn, 1) := by decide +kernel
theorem d_CO_forget_0 : decode c_CO_forget 0 = .ok (.aload_n 0, 1) := by decide +kernel
theorem d_CO_forget_1 : decode c_CO_forget 1 = .ok (.iconst 0, 1) := by decide +kernel
theorem d_CO_forget_2 : decode c_CO_forget 2 = .ok (.putfield 22, 3) := by decide +kernel
theorem d_CO_forget_5 : decode c_CO_forget 5 = .ok (.aload_n 0, 1) := by decide +kernel
theorem d_CO_forget_6 : decode c_CO_forget 6 = .ok (.iconst 0, 1) := by decide +kernel
theorem d_CO_forget_7 : decode c_CO_forget 7 = .ok (.putfield 26, 3) := by decide +kernel
theorem d_CO_forget_10 : decode c_CO_forget 10 = .ok (.return_, 1) := by decide +kernel
theorem d_MA_end_0 : decode c_MA_end 0 = .ok (.aload_n 0, 1) := by decide +kernel
theorem d_MA_end_1 : decode c_MA_end 1 = .ok (.iload_n 1, 1) := by decide +kernel
theorem d_MA_end_2 : decode c_MA_end 2 = .ok (.putfield 53, 3) := by decide +kernel
theorem d_MA_end_5 : decode c_MA_end 5 = .ok (.aload_n 0, 1) := by decide +kernel
theorem d_MA_end_6 : decode c_MA_end 6 = .ok (.iconst 0, 1) := by decide +kernel
theorem d_MA_end_7 : decode c_MA_end 7 = .ok (.putfield 79, 3) := by decide +kernel
theorem d_MA_end_10 : decode c_MA_end 10 = .ok (.aload_n 0, 1) := by decide +kernel
theorem d_MA_end_11 : decode c_MA_end 11 = .ok (.iconst 0, 1) := by decide +kernel
theorem d_MA_end_12 : decode c_MA_end 12 = .ok (.putfield 82, 3) := by decide +kernel
theorem d_MA_end_15 : decode c_MA_end 15 = .ok (.return_, 1) := by decide +kernel
theorem d_MA_emptyStaticsAndHeap_0 : decode c_MA_emptyStaticsAndHeap 0 = .ok (.iconst 0, 1) := by decide +kernel
theorem d_MA_emptyStaticsAndHeap_1 : decode c_MA_emptyStaticsAndHeap 1 = .ok (.istore_n 1, 1) := by decide +kernel
theorem d_MA_emptyStaticsAndHeap_2 : decode c_MA_emptyStaticsAndHeap 2 = .ok (.iload_n 1, 1) := by decide +kernel
theorem d_MA_emptyStaticsAndHeap_3 : decode c_MA_emptyStaticsAndHeap 3 = .ok (.bipush 8, 2) := by decide +kernel
theorem d_MA_emptyStaticsAndHeap_5 : decode c_MA_emptyStaticsAndHeap 5 = .ok (.if_icmp .ge 16, 3) := by decide +kernel
theorem d_MA_emptyStaticsAndHeap_8 : decode c_MA_emptyStaticsAndHeap 8 = .ok (.aload_n 0, 1) := by decide +kernel
theorem d_MA_emptyStaticsAndHeap_9 : decode c_MA_emptyStaticsAndHeap 9 = .ok (.getfield 47, 3) := by decide +kernel
theorem d_MA_emptyStaticsAndHeap_12 : decode c_MA_emptyStaticsAndHeap 12 = .ok (.iload_n 1, 1) := by decide +kernel
theorem d_MA_emptyStaticsAndHeap_13 : decode c_MA_emptyStaticsAndHeap 13 = .ok (.iconst 0, 1) := by decide +kernel
theorem d_MA_emptyStaticsAndHeap_14 : decode c_MA_emptyStaticsAndHeap 14 = .ok (.iastore, 1) := by decide +kernel
theorem d_MA_emptyStaticsAndHeap_15 : decode c_MA_emptyStaticsAndHeap 15 = .ok (.iinc 1 1, 3) := by decide +kernel
theorem d_MA_emptyStaticsAndHeap_18 : decode c_MA_emptyStaticsAndHeap 18 = .ok (.goto (-16), 3) := by decide +kernel
theorem d_MA_emptyStaticsAndHeap_21 : decode c_MA_emptyStaticsAndHeap 21 = .ok (.aload_n 0, 1) := by decide +kernel
theorem d_MA_emptyStaticsAndHeap_22 : decode c_MA_emptyStaticsAndHeap 22 = .ok (.iconst 0, 1) := by decide +kernel
theorem d_MA_emptyStaticsAndHeap_23 : decode c_MA_emptyStaticsAndHeap 23 = .ok (.putfield 64, 3) := by decide +kernel
theorem d_MA_emptyStaticsAndHeap_26 : decode c_MA_emptyStaticsAndHeap 26 = .ok (.return_, 1) := by decide +kernel
theorem d_MA_forget_0 : decode c_MA_forget 0 = .ok (.aload_n 0, 1) := by decide +kernel
theorem d_MA_forget_1 : decode c_MA_forget 1 = .ok (.iconst 0, 1) := by decide +kernel
theorem d_MA_forget_2 : decode c_MA_forget 2 = .ok (.invokevirtual 57, 3) := by decide +kernel
theorem d_MA_forget_5 : decode c_MA_forget 5 = .ok (.aload_n 0, 1) := by decide +kernel
theorem d_MA_forget_6 : decode c_MA_forget 6 = .ok (.invokevirtual 61, 3) := by decide +kernel
theorem d_MA_forget_9 : decode c_MA_forget 9 = .ok (.return_, 1) := by decide +kernel
theorem d_FW_clear_0 : decode c_FW_clear 0 = .ok (.aload_n 0, 1) := by decide +kernel
theorem d_FW_clear_1 : decode c_FW_clear 1 = .ok (.getfield 10, 3) := by decide +kernel
theorem d_FW_clear_4 : decode c_FW_clear 4 = .ok (.invokevirtual 98, 3) := by decide +kernel
theorem d_FW_clear_7 : decode c_FW_clear 7 = .ok (.aload_n 0, 1) := by decide +kernel
theorem d_FW_clear_8 : decode c_FW_clear 8 = .ok (.getfield 35, 3) := by decide +kernel
theorem d_FW_clear_11 : decode c_FW_clear 11 = .ok (.invokevirtual 101, 3) := by decide +kernel
theorem d_FW_clear_14 : decode c_FW_clear 14 = .ok (.aload_n 0, 1) := by decide +kernel
theorem d_FW_clear_15 : decode c_FW_clear 15 = .ok (.iconst 0, 1) := by decide +kernel
theorem d_FW_clear_16 : decode c_FW_clear 16 = .ok (.putfield 43, 3) := by decide +kernel
theorem d_FW_clear_19 : decode c_FW_clear 19 = .ok (.aload_n 0, 1) := by decide +kernel
theorem d_FW_clear_20 : decode c_FW_clear 20 = .ok (.iconst 0, 1) := by decide +kernel
theorem d_FW_clear_21 : decode c_FW_clear 21 = .ok (.putfield 47, 3) := by decide +kernel
theorem d_FW_clear_24 : decode c_FW_clear 24 = .ok (.aload_n 0, 1) := by decide +kernel
theorem d_FW_clear_25 : decode c_FW_clear 25 = .ok (.iconst (-1), 1) := by decide +kernel
theorem d_FW_clear_26 : decode c_FW_clear 26 = .ok (.putfield 51, 3) := by decide +kernel
theorem d_FW_clear_29 : decode c_FW_clear 29 = .ok (.return_, 1) := by decide +kernel
theorem d_FW_argument_0 : decode c_FW_argument 0 = .ok (.aload_n 0, 1) := by decide +kernel
theorem d_FW_argument_1 : decode c_FW_argument 1 = .ok (.getfield 43, 3) := by decide +kernel
theorem d_FW_argument_4 : decode c_FW_argument 4 = .ok (.iconst 4, 1) := by decide +kernel
theorem d_FW_argument_5 : decode c_FW_argument 5 = .ok (.if_icmp .lt 5, 3) := by decide +kernel
theorem d_FW_argument_8 : decode c_FW_argument 8 = .ok (.iconst 0, 1) := by decide +kernel
theorem d_FW_argument_9 : decode c_FW_argument 9 = .ok (.ireturn, 1) := by decide +kernel
theorem d_FW_argument_10 : decode c_FW_argument 10 = .ok (.aload_n 0, 1) := by decide +kernel
theorem d_FW_argument_11 : decode c_FW_argument 11 = .ok (.getfield 39, 3) := by decide +kernel
theorem d_FW_argument_14 : decode c_FW_argument 14 = .ok (.aload_n 0, 1) := by decide +kernel
theorem d_FW_argument_15 : decode c_FW_argument 15 = .ok (.getfield 43, 3) := by decide +kernel
theorem d_FW_argument_18 : decode c_FW_argument 18 = .ok (.iload_n 1, 1) := by decide +kernel
theorem d_FW_argument_19 : decode c_FW_argument 19 = .ok (.iastore, 1) := by decide +kernel
theorem d_FW_argument_20 : decode c_FW_argument 20 = .ok (.aload_n 0, 1) := by decide +kernel
theorem d_FW_argument_21 : decode c_FW_argument 21 = .ok (.dup, 1) := by decide +kernel
theorem d_FW_argument_22 : decode c_FW_argument 22 = .ok (.getfield 43, 3) := by decide +kernel
theorem d_FW_argument_25 : decode c_FW_argument 25 = .ok (.iconst 1, 1) := by decide +kernel
theorem d_FW_argument_26 : decode c_FW_argument 26 = .ok (.iadd, 1) := by decide +kernel
theorem d_FW_argument_27 : decode c_FW_argument 27 = .ok (.putfield 43, 3) := by decide +kernel
theorem d_FW_argument_30 : decode c_FW_argument 30 = .ok (.iconst 1, 1) := by decide +kernel
theorem d_FW_argument_31 : decode c_FW_argument 31 = .ok (.ireturn, 1) := by decide +kernel
theorem d_MA_cellsTaken_0 : decode c_MA_cellsTaken 0 = .ok (.aload_n 0, 1) := by decide +kernel
theorem d_MA_cellsTaken_1 : decode c_MA_cellsTaken 1 = .ok (.getfield 82, 3) := by decide +kernel
theorem d_MA_cellsTaken_4 : decode c_MA_cellsTaken 4 = .ok (.ifCond .ne 7, 3) := by decide +kernel
theorem d_MA_cellsTaken_7 : decode c_MA_cellsTaken 7 = .ok (.iconst 0, 1) := by decide +kernel
theorem d_MA_cellsTaken_8 : decode c_MA_cellsTaken 8 = .ok (.goto 21, 3) := by decide +kernel
theorem d_MA_cellsTaken_11 : decode c_MA_cellsTaken 11 = .ok (.aload_n 0, 1) := by decide +kernel
theorem d_MA_cellsTaken_12 : decode c_MA_cellsTaken 12 = .ok (.getfield 43, 3) := by decide +kernel
theorem d_MA_cellsTaken_15 : decode c_MA_cellsTaken 15 = .ok (.getfield 76, 3) := by decide +kernel
theorem d_MA_cellsTaken_18 : decode c_MA_cellsTaken 18 = .ok (.aload_n 0, 1) := by decide +kernel
theorem d_MA_cellsTaken_19 : decode c_MA_cellsTaken 19 = .ok (.getfield 43, 3) := by decide +kernel
theorem d_MA_cellsTaken_22 : decode c_MA_cellsTaken 22 = .ok (.getfield 39, 3) := by decide +kernel
theorem d_MA_cellsTaken_25 : decode c_MA_cellsTaken 25 = .ok (.invokevirtual 85, 3) := by decide +kernel
theorem d_MA_cellsTaken_28 : decode c_MA_cellsTaken 28 = .ok (.iadd, 1) := by decide +kernel
theorem d_MA_cellsTaken_29 : decode c_MA_cellsTaken 29 = .ok (.ireturn, 1) := by decide +kernel
theorem d_MA_openFrame_0 : decode c_MA_openFrame 0 = .ok (.aload_n 0, 1) := by decide +kernel
theorem d_MA_openFrame_1 : decode c_MA_openFrame 1 = .ok (.invokevirtual 89, 3) := by decide +kernel
theorem d_MA_openFrame_4 : decode c_MA_openFrame 4 = .ok (.istore_n 2, 1) := by decide +kernel
theorem d_MA_openFrame_5 : decode c_MA_openFrame 5 = .ok (.aload_n 0, 1) := by decide +kernel
theorem d_MA_openFrame_6 : decode c_MA_openFrame 6 = .ok (.aload_n 0, 1) := by decide +kernel
theorem d_MA_openFrame_7 : decode c_MA_openFrame 7 = .ok (.getfield 28, 3) := by decide +kernel
theorem d_MA_openFrame_10 : decode c_MA_openFrame 10 = .ok (.aload_n 0, 1) := by decide +kernel
theorem d_MA_openFrame_11 : decode c_MA_openFrame 11 = .ok (.getfield 82, 3) := by decide +kernel
theorem d_MA_openFrame_14 : decode c_MA_openFrame 14 = .ok (.aaload, 1) := by decide +kernel
theorem d_MA_openFrame_15 : decode c_MA_openFrame 15 = .ok (.putfield 43, 3) := by decide +kernel
theorem d_MA_openFrame_18 : decode c_MA_openFrame 18 = .ok (.aload_n 0, 1) := by decide +kernel
theorem d_MA_openFrame_19 : decode c_MA_openFrame 19 = .ok (.dup, 1) := by decide +kernel
theorem d_MA_openFrame_20 : decode c_MA_openFrame 20 = .ok (.getfield 82, 3) := by decide +kernel
theorem d_MA_openFrame_23 : decode c_MA_openFrame 23 = .ok (.iconst 1, 1) := by decide +kernel
theorem d_MA_openFrame_24 : decode c_MA_openFrame 24 = .ok (.iadd, 1) := by decide +kernel
theorem d_MA_openFrame_25 : decode c_MA_openFrame 25 = .ok (.putfield 82, 3) := by decide +kernel
theorem d_MA_openFrame_28 : decode c_MA_openFrame 28 = .ok (.aload_n 0, 1) := by decide +kernel
theorem d_MA_openFrame_29 : decode c_MA_openFrame 29 = .ok (.getfield 43, 3) := by decide +kernel
theorem d_MA_openFrame_32 : decode c_MA_openFrame 32 = .ok (.aload_n 1, 1) := by decide +kernel
theorem d_MA_openFrame_33 : decode c_MA_openFrame 33 = .ok (.putfield 39, 3) := by decide +kernel
theorem d_MA_openFrame_36 : decode c_MA_openFrame 36 = .ok (.aload_n 0, 1) := by decide +kernel
theorem d_MA_openFrame_37 : decode c_MA_openFrame 37 = .ok (.getfield 43, 3) := by decide +kernel
theorem d_MA_openFrame_40 : decode c_MA_openFrame 40 = .ok (.iconst 0, 1) := by decide +kernel
theorem d_MA_openFrame_41 : decode c_MA_openFrame 41 = .ok (.putfield 92, 3) := by decide +kernel
theorem d_MA_openFrame_44 : decode c_MA_openFrame 44 = .ok (.aload_n 0, 1) := by decide +kernel
theorem d_MA_openFrame_45 : decode c_MA_openFrame 45 = .ok (.getfield 43, 3) := by decide +kernel
theorem d_MA_openFrame_48 : decode c_MA_openFrame 48 = .ok (.iload_n 2, 1) := by decide +kernel
theorem d_MA_openFrame_49 : decode c_MA_openFrame 49 = .ok (.putfield 76, 3) := by decide +kernel
theorem d_MA_openFrame_52 : decode c_MA_openFrame 52 = .ok (.aload_n 0, 1) := by decide +kernel
theorem d_MA_openFrame_53 : decode c_MA_openFrame 53 = .ok (.getfield 43, 3) := by decide +kernel
theorem d_MA_openFrame_56 : decode c_MA_openFrame 56 = .ok (.iconst 0, 1) := by decide +kernel
theorem d_MA_openFrame_57 : decode c_MA_openFrame 57 = .ok (.putfield 95, 3) := by decide +kernel
theorem d_MA_openFrame_60 : decode c_MA_openFrame 60 = .ok (.iconst 0, 1) := by decide +kernel
theorem d_MA_openFrame_61 : decode c_MA_openFrame 61 = .ok (.istore_n 3, 1) := by decide +kernel
theorem d_MA_openFrame_62 : decode c_MA_openFrame 62 = .ok (.iload_n 3, 1) := by decide +kernel
theorem d_MA_openFrame_63 : decode c_MA_openFrame 63 = .ok (.aload_n 1, 1) := by decide +kernel
theorem d_MA_openFrame_64 : decode c_MA_openFrame 64 = .ok (.getfield 98, 3) := by decide +kernel
theorem d_MA_openFrame_67 : decode c_MA_openFrame 67 = .ok (.if_icmp .ge 18, 3) := by decide +kernel
theorem d_MA_openFrame_70 : decode c_MA_openFrame 70 = .ok (.aload_n 0, 1) := by decide +kernel
theorem d_MA_openFrame_71 : decode c_MA_openFrame 71 = .ok (.getfield 22, 3) := by decide +kernel
theorem d_MA_openFrame_74 : decode c_MA_openFrame 74 = .ok (.iload_n 2, 1) := by decide +kernel
theorem d_MA_openFrame_75 : decode c_MA_openFrame 75 = .ok (.iload_n 3, 1) := by decide +kernel
theorem d_MA_openFrame_76 : decode c_MA_openFrame 76 = .ok (.iadd, 1) := by decide +kernel
theorem d_MA_openFrame_77 : decode c_MA_openFrame 77 = .ok (.iconst 0, 1) := by decide +kernel
theorem d_MA_openFrame_78 : decode c_MA_openFrame 78 = .ok (.iastore, 1) := by decide +kernel
theorem d_MA_openFrame_79 : decode c_MA_openFrame 79 = .ok (.iinc 3 1, 3) := by decide +kernel
theorem d_MA_openFrame_82 : decode c_MA_openFrame 82 = .ok (.goto (-20), 3) := by decide +kernel
theorem d_MA_openFrame_85 : decode c_MA_openFrame 85 = .ok (.return_, 1) := by decide +kernel
theorem d_MA_begin_0 : decode c_MA_begin 0 = .ok (.aload_n 0, 1) := by decide +kernel
theorem d_MA_begin_1 : decode c_MA_begin 1 = .ok (.iconst 1, 1) := by decide +kernel
theorem d_MA_begin_2 : decode c_MA_begin 2 = .ok (.invokevirtual 57, 3) := by decide +kernel
theorem d_MA_begin_5 : decode c_MA_begin 5 = .ok (.aload_n 0, 1) := by decide +kernel
theorem d_MA_begin_6 : decode c_MA_begin 6 = .ok (.invokevirtual 61, 3) := by decide +kernel
theorem d_MA_begin_9 : decode c_MA_begin 9 = .ok (.aload_n 0, 1) := by decide +kernel
theorem d_MA_begin_10 : decode c_MA_begin 10 = .ok (.aload_n 0, 1) := by decide +kernel
theorem d_MA_begin_11 : decode c_MA_begin 11 = .ok (.getfield 9, 3) := by decide +kernel
theorem d_MA_begin_14 : decode c_MA_begin 14 = .ok (.getfield 33, 3) := by decide +kernel
theorem d_MA_begin_17 : decode c_MA_begin 17 = .ok (.iload_n 1, 1) := by decide +kernel
theorem d_MA_begin_18 : decode c_MA_begin 18 = .ok (.aaload, 1) := by decide +kernel
theorem d_MA_begin_19 : decode c_MA_begin 19 = .ok (.invokevirtual 67, 3) := by decide +kernel
theorem d_MA_begin_22 : decode c_MA_begin 22 = .ok (.iconst 0, 1) := by decide +kernel
theorem d_MA_begin_23 : decode c_MA_begin 23 = .ok (.istore_n 3, 1) := by decide +kernel
theorem d_MA_begin_24 : decode c_MA_begin 24 = .ok (.iload_n 3, 1) := by decide +kernel
theorem d_MA_begin_25 : decode c_MA_begin 25 = .ok (.aload_n 0, 1) := by decide +kernel
theorem d_MA_begin_26 : decode c_MA_begin 26 = .ok (.getfield 43, 3) := by decide +kernel
theorem d_MA_begin_29 : decode c_MA_begin 29 = .ok (.getfield 39, 3) := by decide +kernel
theorem d_MA_begin_32 : decode c_MA_begin 32 = .ok (.getfield 71, 3) := by decide +kernel
theorem d_MA_begin_35 : decode c_MA_begin 35 = .ok (.if_icmp .ge 26, 3) := by decide +kernel
theorem d_MA_begin_38 : decode c_MA_begin 38 = .ok (.aload_n 0, 1) := by decide +kernel
theorem d_MA_begin_39 : decode c_MA_begin 39 = .ok (.getfield 22, 3) := by decide +kernel
theorem d_MA_begin_42 : decode c_MA_begin 42 = .ok (.aload_n 0, 1) := by decide +kernel
theorem d_MA_begin_43 : decode c_MA_begin 43 = .ok (.getfield 43, 3) := by decide +kernel
theorem d_MA_begin_46 : decode c_MA_begin 46 = .ok (.getfield 76, 3) := by decide +kernel
theorem d_MA_begin_49 : decode c_MA_begin 49 = .ok (.iload_n 3, 1) := by decide +kernel
theorem d_MA_begin_50 : decode c_MA_begin 50 = .ok (.iadd, 1) := by decide +kernel
theorem d_MA_begin_51 : decode c_MA_begin 51 = .ok (.aload_n 2, 1) := by decide +kernel
theorem d_MA_begin_52 : decode c_MA_begin 52 = .ok (.iload_n 3, 1) := by decide +kernel
theorem d_MA_begin_53 : decode c_MA_begin 53 = .ok (.iaload, 1) := by decide +kernel
theorem d_MA_begin_54 : decode c_MA_begin 54 = .ok (.iastore, 1) := by decide +kernel
theorem d_MA_begin_55 : decode c_MA_begin 55 = .ok (.iinc 3 1, 3) := by decide +kernel
theorem d_MA_begin_58 : decode c_MA_begin 58 = .ok (.goto (-34), 3) := by decide +kernel
theorem d_MA_begin_61 : decode c_MA_begin 61 = .ok (.return_, 1) := by decide +kernel
theorem d_FW_start_0 : decode c_FW_start 0 = .ok (.aload_n 0, 1) := by decide +kernel
theorem d_FW_start_1 : decode c_FW_start 1 = .ok (.getfield 10, 3) := by decide +kernel
theorem d_FW_start_4 : decode c_FW_start 4 = .ok (.iload_n 1, 1) := by decide +kernel
theorem d_FW_start_5 : decode c_FW_start 5 = .ok (.invokevirtual 102, 3) := by decide +kernel
theorem d_FW_start_8 : decode c_FW_start 8 = .ok (.ifCond .eq 22, 3) := by decide +kernel
theorem d_FW_start_11 : decode c_FW_start 11 = .ok (.aload_n 0, 1) := by decide +kernel
theorem d_FW_start_12 : decode c_FW_start 12 = .ok (.getfield 10, 3) := by decide +kernel
theorem d_FW_start_15 : decode c_FW_start 15 = .ok (.getfield 86, 3) := by decide +kernel
theorem d_FW_start_18 : decode c_FW_start 18 = .ok (.iload_n 1, 1) := by decide +kernel
theorem d_FW_start_19 : decode c_FW_start 19 = .ok (.aaload, 1) := by decide +kernel
theorem d_FW_start_20 : decode c_FW_start 20 = .ok (.getfield 105, 3) := by decide +kernel
theorem d_FW_start_23 : decode c_FW_start 23 = .ok (.aload_n 0, 1) := by decide +kernel
theorem d_FW_start_24 : decode c_FW_start 24 = .ok (.getfield 43, 3) := by decide +kernel
theorem d_FW_start_27 : decode c_FW_start 27 = .ok (.if_icmp .eq 11, 3) := by decide +kernel
theorem d_FW_start_30 : decode c_FW_start 30 = .ok (.new 72, 3) := by decide +kernel
theorem d_FW_start_33 : decode c_FW_start 33 = .ok (.dup, 1) := by decide +kernel
theorem d_FW_start_34 : decode c_FW_start 34 = .ok (.invokespecial 74, 3) := by decide +kernel
theorem d_FW_start_37 : decode c_FW_start 37 = .ok (.athrow, 1) := by decide +kernel
theorem d_FW_start_38 : decode c_FW_start 38 = .ok (.aload_n 0, 1) := by decide +kernel
theorem d_FW_start_39 : decode c_FW_start 39 = .ok (.getfield 47, 3) := by decide +kernel
theorem d_FW_start_42 : decode c_FW_start 42 = .ok (.ifCond .ne 11, 3) := by decide +kernel
theorem d_FW_start_45 : decode c_FW_start 45 = .ok (.new 58, 3) := by decide +kernel
theorem d_FW_start_48 : decode c_FW_start 48 = .ok (.dup, 1) := by decide +kernel
theorem d_FW_start_49 : decode c_FW_start 49 = .ok (.invokespecial 60, 3) := by decide +kernel
theorem d_FW_start_52 : decode c_FW_start 52 = .ok (.athrow, 1) := by decide +kernel
theorem d_FW_start_53 : decode c_FW_start 53 = .ok (.aload_n 0, 1) := by decide +kernel
theorem d_FW_start_54 : decode c_FW_start 54 = .ok (.getfield 35, 3) := by decide +kernel
theorem d_FW_start_57 : decode c_FW_start 57 = .ok (.iload_n 1, 1) := by decide +kernel
theorem d_FW_start_58 : decode c_FW_start 58 = .ok (.aload_n 0, 1) := by decide +kernel
theorem d_FW_start_59 : decode c_FW_start 59 = .ok (.getfield 39, 3) := by decide +kernel
theorem d_FW_start_62 : decode c_FW_start 62 = .ok (.invokevirtual 110, 3) := by decide +kernel
theorem d_FW_start_65 : decode c_FW_start 65 = .ok (.aload_n 0, 1) := by decide +kernel
theorem d_FW_start_66 : decode c_FW_start 66 = .ok (.iconst 0, 1) := by decide +kernel
theorem d_FW_start_67 : decode c_FW_start 67 = .ok (.putfield 43, 3) := by decide +kernel
theorem d_FW_start_70 : decode c_FW_start 70 = .ok (.iconst 1, 1) := by decide +kernel
theorem d_FW_start_71 : decode c_FW_start 71 = .ok (.ireturn, 1) := by decide +kernel
theorem d_MA_isRunning_0 : decode c_MA_isRunning 0 = .ok (.aload_n 0, 1) := by decide +kernel
theorem d_MA_isRunning_1 : decode c_MA_isRunning 1 = .ok (.getfield 53, 3) := by decide +kernel
theorem d_MA_isRunning_4 : decode c_MA_isRunning 4 = .ok (.iconst 1, 1) := by decide +kernel
theorem d_MA_isRunning_5 : decode c_MA_isRunning 5 = .ok (.if_icmp .ne 7, 3) := by decide +kernel
theorem d_MA_isRunning_8 : decode c_MA_isRunning 8 = .ok (.iconst 1, 1) := by decide +kernel
theorem d_MA_isRunning_9 : decode c_MA_isRunning 9 = .ok (.goto 4, 3) := by decide +kernel
theorem d_MA_isRunning_12 : decode c_MA_isRunning 12 = .ok (.iconst 0, 1) := by decide +kernel
theorem d_MA_isRunning_13 : decode c_MA_isRunning 13 = .ok (.ireturn, 1) := by decide +kernel
theorem d_MA_pop_0 : decode c_MA_pop 0 = .ok (.aload_n 0, 1) := by decide +kernel
theorem d_MA_pop_1 : decode c_MA_pop 1 = .ok (.getfield 43, 3) := by decide +kernel
theorem d_MA_pop_4 : decode c_MA_pop 4 = .ok (.getfield 95, 3) := by decide +kernel
theorem d_MA_pop_7 : decode c_MA_pop 7 = .ok (.ifCond .ne 5, 3) := by decide +kernel
theorem d_MA_pop_10 : decode c_MA_pop 10 = .ok (.iconst 0, 1) := by decide +kernel
theorem d_MA_pop_11 : decode c_MA_pop 11 = .ok (.ireturn, 1) := by decide +kernel
theorem d_MA_pop_12 : decode c_MA_pop 12 = .ok (.aload_n 0, 1) := by decide +kernel
theorem d_MA_pop_13 : decode c_MA_pop 13 = .ok (.getfield 43, 3) := by decide +kernel
theorem d_MA_pop_16 : decode c_MA_pop 16 = .ok (.dup, 1) := by decide +kernel
theorem d_MA_pop_17 : decode c_MA_pop 17 = .ok (.getfield 95, 3) := by decide +kernel
theorem d_MA_pop_20 : decode c_MA_pop 20 = .ok (.iconst 1, 1) := by decide +kernel
theorem d_MA_pop_21 : decode c_MA_pop 21 = .ok (.isub, 1) := by decide +kernel
theorem d_MA_pop_22 : decode c_MA_pop 22 = .ok (.putfield 95, 3) := by decide +kernel
theorem d_MA_pop_25 : decode c_MA_pop 25 = .ok (.aload_n 0, 1) := by decide +kernel
theorem d_MA_pop_26 : decode c_MA_pop 26 = .ok (.getfield 22, 3) := by decide +kernel
theorem d_MA_pop_29 : decode c_MA_pop 29 = .ok (.aload_n 0, 1) := by decide +kernel
theorem d_MA_pop_30 : decode c_MA_pop 30 = .ok (.getfield 43, 3) := by decide +kernel
theorem d_MA_pop_33 : decode c_MA_pop 33 = .ok (.invokevirtual 101, 3) := by decide +kernel
theorem d_MA_pop_36 : decode c_MA_pop 36 = .ok (.aload_n 0, 1) := by decide +kernel
theorem d_MA_pop_37 : decode c_MA_pop 37 = .ok (.getfield 43, 3) := by decide +kernel
theorem d_MA_pop_40 : decode c_MA_pop 40 = .ok (.getfield 95, 3) := by decide +kernel
theorem d_MA_pop_43 : decode c_MA_pop 43 = .ok (.iadd, 1) := by decide +kernel
theorem d_MA_pop_44 : decode c_MA_pop 44 = .ok (.iaload, 1) := by decide +kernel
theorem d_MA_pop_45 : decode c_MA_pop 45 = .ok (.ireturn, 1) := by decide +kernel
theorem d_MA_goOn_0 : decode c_MA_goOn 0 = .ok (.aload_n 0, 1) := by decide +kernel
theorem d_MA_goOn_1 : decode c_MA_goOn 1 = .ok (.getfield 43, 3) := by decide +kernel
theorem d_MA_goOn_4 : decode c_MA_goOn 4 = .ok (.dup, 1) := by decide +kernel
theorem d_MA_goOn_5 : decode c_MA_goOn 5 = .ok (.getfield 92, 3) := by decide +kernel
theorem d_MA_goOn_8 : decode c_MA_goOn 8 = .ok (.aload_n 0, 1) := by decide +kernel
theorem d_MA_goOn_9 : decode c_MA_goOn 9 = .ok (.getfield 18, 3) := by decide +kernel
theorem d_MA_goOn_12 : decode c_MA_goOn 12 = .ok (.getfield 107, 3) := by decide +kernel
theorem d_MA_goOn_15 : decode c_MA_goOn 15 = .ok (.iadd, 1) := by decide +kernel
theorem d_MA_goOn_16 : decode c_MA_goOn 16 = .ok (.putfield 92, 3) := by decide +kernel
theorem d_MA_goOn_19 : decode c_MA_goOn 19 = .ok (.return_, 1) := by decide +kernel
theorem d_MA_push_0 : decode c_MA_push 0 = .ok (.aload_n 0, 1) := by decide +kernel
theorem d_MA_push_1 : decode c_MA_push 1 = .ok (.getfield 43, 3) := by decide +kernel
theorem d_MA_push_4 : decode c_MA_push 4 = .ok (.getfield 95, 3) := by decide +kernel
theorem d_MA_push_7 : decode c_MA_push 7 = .ok (.aload_n 0, 1) := by decide +kernel
theorem d_MA_push_8 : decode c_MA_push 8 = .ok (.getfield 43, 3) := by decide +kernel
theorem d_MA_push_11 : decode c_MA_push 11 = .ok (.getfield 39, 3) := by decide +kernel
theorem d_MA_push_14 : decode c_MA_push 14 = .ok (.getfield 104, 3) := by decide +kernel
theorem d_MA_push_17 : decode c_MA_push 17 = .ok (.if_icmp .ge 37, 3) := by decide +kernel
theorem d_MA_push_20 : decode c_MA_push 20 = .ok (.aload_n 0, 1) := by decide +kernel
theorem d_MA_push_21 : decode c_MA_push 21 = .ok (.getfield 22, 3) := by decide +kernel
theorem d_MA_push_24 : decode c_MA_push 24 = .ok (.aload_n 0, 1) := by decide +kernel
theorem d_MA_push_25 : decode c_MA_push 25 = .ok (.getfield 43, 3) := by decide +kernel
theorem d_MA_push_28 : decode c_MA_push 28 = .ok (.invokevirtual 101, 3) := by decide +kernel
theorem d_MA_push_31 : decode c_MA_push 31 = .ok (.aload_n 0, 1) := by decide +kernel
theorem d_MA_push_32 : decode c_MA_push 32 = .ok (.getfield 43, 3) := by decide +kernel
theorem d_MA_push_35 : decode c_MA_push 35 = .ok (.getfield 95, 3) := by decide +kernel
theorem d_MA_push_38 : decode c_MA_push 38 = .ok (.iadd, 1) := by decide +kernel
theorem d_MA_push_39 : decode c_MA_push 39 = .ok (.iload_n 1, 1) := by decide +kernel
theorem d_MA_push_40 : decode c_MA_push 40 = .ok (.iastore, 1) := by decide +kernel
theorem d_MA_push_41 : decode c_MA_push 41 = .ok (.aload_n 0, 1) := by decide +kernel
theorem d_MA_push_42 : decode c_MA_push 42 = .ok (.getfield 43, 3) := by decide +kernel
theorem d_MA_push_45 : decode c_MA_push 45 = .ok (.dup, 1) := by decide +kernel
theorem d_MA_push_46 : decode c_MA_push 46 = .ok (.getfield 95, 3) := by decide +kernel
theorem d_MA_push_49 : decode c_MA_push 49 = .ok (.iconst 1, 1) := by decide +kernel
theorem d_MA_push_50 : decode c_MA_push 50 = .ok (.iadd, 1) := by decide +kernel
theorem d_MA_push_51 : decode c_MA_push 51 = .ok (.putfield 95, 3) := by decide +kernel
theorem d_MA_push_54 : decode c_MA_push 54 = .ok (.return_, 1) := by decide +kernel
theorem d_MA_closeFrame_0 : decode c_MA_closeFrame 0 = .ok (.aload_n 0, 1) := by decide +kernel
theorem d_MA_closeFrame_1 : decode c_MA_closeFrame 1 = .ok (.dup, 1) := by decide +kernel
theorem d_MA_closeFrame_2 : decode c_MA_closeFrame 2 = .ok (.getfield 82, 3) := by decide +kernel
theorem d_MA_closeFrame_5 : decode c_MA_closeFrame 5 = .ok (.iconst 1, 1) := by decide +kernel
theorem d_MA_closeFrame_6 : decode c_MA_closeFrame 6 = .ok (.isub, 1) := by decide +kernel
theorem d_MA_closeFrame_7 : decode c_MA_closeFrame 7 = .ok (.putfield 82, 3) := by decide +kernel
theorem d_MA_closeFrame_10 : decode c_MA_closeFrame 10 = .ok (.aload_n 0, 1) := by decide +kernel
theorem d_MA_closeFrame_11 : decode c_MA_closeFrame 11 = .ok (.getfield 82, 3) := by decide +kernel
theorem d_MA_closeFrame_14 : decode c_MA_closeFrame 14 = .ok (.ifCond .le 18, 3) := by decide +kernel
theorem d_MA_closeFrame_17 : decode c_MA_closeFrame 17 = .ok (.aload_n 0, 1) := by decide +kernel
theorem d_MA_closeFrame_18 : decode c_MA_closeFrame 18 = .ok (.aload_n 0, 1) := by decide +kernel
theorem d_MA_closeFrame_19 : decode c_MA_closeFrame 19 = .ok (.getfield 28, 3) := by decide +kernel
theorem d_MA_closeFrame_22 : decode c_MA_closeFrame 22 = .ok (.aload_n 0, 1) := by decide +kernel
theorem d_MA_closeFrame_23 : decode c_MA_closeFrame 23 = .ok (.getfield 82, 3) := by decide +kernel
theorem d_MA_closeFrame_26 : decode c_MA_closeFrame 26 = .ok (.iconst 1, 1) := by decide +kernel
theorem d_MA_closeFrame_27 : decode c_MA_closeFrame 27 = .ok (.isub, 1) := by decide +kernel
theorem d_MA_closeFrame_28 : decode c_MA_closeFrame 28 = .ok (.aaload, 1) := by decide +kernel
theorem d_MA_closeFrame_29 : decode c_MA_closeFrame 29 = .ok (.putfield 43, 3) := by decide +kernel
theorem d_MA_closeFrame_32 : decode c_MA_closeFrame 32 = .ok (.return_, 1) := by decide +kernel
theorem d_MA_trap_0 : decode c_MA_trap 0 = .ok (.aload_n 0, 1) := by decide +kernel
theorem d_MA_trap_1 : decode c_MA_trap 1 = .ok (.getfield 82, 3) := by decide +kernel
theorem d_MA_trap_4 : decode c_MA_trap 4 = .ok (.istore_n 2, 1) := by decide +kernel
theorem d_MA_trap_5 : decode c_MA_trap 5 = .ok (.iload_n 2, 1) := by decide +kernel
theorem d_MA_trap_6 : decode c_MA_trap 6 = .ok (.ifCond .le 59, 3) := by decide +kernel
theorem d_MA_trap_9 : decode c_MA_trap 9 = .ok (.aload_n 0, 1) := by decide +kernel
theorem d_MA_trap_10 : decode c_MA_trap 10 = .ok (.getfield 43, 3) := by decide +kernel
theorem d_MA_trap_13 : decode c_MA_trap 13 = .ok (.getfield 39, 3) := by decide +kernel
theorem d_MA_trap_16 : decode c_MA_trap 16 = .ok (.aload_n 0, 1) := by decide +kernel
theorem d_MA_trap_17 : decode c_MA_trap 17 = .ok (.getfield 43, 3) := by decide +kernel
theorem d_MA_trap_20 : decode c_MA_trap 20 = .ok (.getfield 92, 3) := by decide +kernel
theorem d_MA_trap_23 : decode c_MA_trap 23 = .ok (.iload_n 1, 1) := by decide +kernel
theorem d_MA_trap_24 : decode c_MA_trap 24 = .ok (.invokevirtual 213, 3) := by decide +kernel
theorem d_MA_trap_27 : decode c_MA_trap 27 = .ok (.istore_n 3, 1) := by decide +kernel
theorem d_MA_trap_28 : decode c_MA_trap 28 = .ok (.iload_n 3, 1) := by decide +kernel
theorem d_MA_trap_29 : decode c_MA_trap 29 = .ok (.iconst (-1), 1) := by decide +kernel
theorem d_MA_trap_30 : decode c_MA_trap 30 = .ok (.if_icmp .eq 25, 3) := by decide +kernel
theorem d_MA_trap_33 : decode c_MA_trap 33 = .ok (.aload_n 0, 1) := by decide +kernel
theorem d_MA_trap_34 : decode c_MA_trap 34 = .ok (.getfield 43, 3) := by decide +kernel
theorem d_MA_trap_37 : decode c_MA_trap 37 = .ok (.iload_n 3, 1) := by decide +kernel
theorem d_MA_trap_38 : decode c_MA_trap 38 = .ok (.putfield 92, 3) := by decide +kernel
theorem d_MA_trap_41 : decode c_MA_trap 41 = .ok (.aload_n 0, 1) := by decide +kernel
theorem d_MA_trap_42 : decode c_MA_trap 42 = .ok (.getfield 43, 3) := by decide +kernel
theorem d_MA_trap_45 : decode c_MA_trap 45 = .ok (.iconst 0, 1) := by decide +kernel
theorem d_MA_trap_46 : decode c_MA_trap 46 = .ok (.putfield 95, 3) := by decide +kernel
theorem d_MA_trap_49 : decode c_MA_trap 49 = .ok (.aload_n 0, 1) := by decide +kernel
theorem d_MA_trap_50 : decode c_MA_trap 50 = .ok (.iload_n 1, 1) := by decide +kernel
theorem d_MA_trap_51 : decode c_MA_trap 51 = .ok (.invokevirtual 174, 3) := by decide +kernel
theorem d_MA_trap_54 : decode c_MA_trap 54 = .ok (.return_, 1) := by decide +kernel
theorem d_MA_trap_55 : decode c_MA_trap 55 = .ok (.aload_n 0, 1) := by decide +kernel
theorem d_MA_trap_56 : decode c_MA_trap 56 = .ok (.invokevirtual 206, 3) := by decide +kernel
theorem d_MA_trap_59 : decode c_MA_trap 59 = .ok (.iinc 2 (-1), 3) := by decide +kernel
theorem d_MA_trap_62 : decode c_MA_trap 62 = .ok (.goto (-57), 3) := by decide +kernel
theorem d_MA_trap_65 : decode c_MA_trap 65 = .ok (.aload_n 0, 1) := by decide +kernel
theorem d_MA_trap_66 : decode c_MA_trap 66 = .ok (.iload_n 1, 1) := by decide +kernel
theorem d_MA_trap_67 : decode c_MA_trap 67 = .ok (.iconst 2, 1) := by decide +kernel
theorem d_MA_trap_68 : decode c_MA_trap 68 = .ok (.iadd, 1) := by decide +kernel
theorem d_MA_trap_69 : decode c_MA_trap 69 = .ok (.invokevirtual 57, 3) := by decide +kernel
theorem d_MA_trap_72 : decode c_MA_trap 72 = .ok (.return_, 1) := by decide +kernel
theorem d_MA_calculate_0 : decode c_MA_calculate 0 = .ok (.iload_n 0, 1) := by decide +kernel
theorem d_MA_calculate_1 : decode c_MA_calculate 1 = .ok (.tableswitch 203 96 128 #[147, 203, 203, 203, 151, 203, 203, 203, 155, 203, 203, 203, 159, 203, 203, 203, 171, 203, 203, 203, 203, 203, 203, 203, 183, 203, 187, 203, 191, 203, 195, 203, 199], 147) := by decide +kernel
theorem d_MA_calculate_148 : decode c_MA_calculate 148 = .ok (.iload_n 1, 1) := by decide +kernel
theorem d_MA_calculate_149 : decode c_MA_calculate 149 = .ok (.iload_n 2, 1) := by decide +kernel
theorem d_MA_calculate_150 : decode c_MA_calculate 150 = .ok (.iadd, 1) := by decide +kernel
theorem d_MA_calculate_151 : decode c_MA_calculate 151 = .ok (.ireturn, 1) := by decide +kernel
theorem d_MA_calculate_152 : decode c_MA_calculate 152 = .ok (.iload_n 1, 1) := by decide +kernel
theorem d_MA_calculate_153 : decode c_MA_calculate 153 = .ok (.iload_n 2, 1) := by decide +kernel
theorem d_MA_calculate_154 : decode c_MA_calculate 154 = .ok (.isub, 1) := by decide +kernel
theorem d_MA_calculate_155 : decode c_MA_calculate 155 = .ok (.ireturn, 1) := by decide +kernel
theorem d_MA_calculate_156 : decode c_MA_calculate 156 = .ok (.iload_n 1, 1) := by decide +kernel
theorem d_MA_calculate_157 : decode c_MA_calculate 157 = .ok (.iload_n 2, 1) := by decide +kernel
theorem d_MA_calculate_158 : decode c_MA_calculate 158 = .ok (.imul, 1) := by decide +kernel
theorem d_MA_calculate_159 : decode c_MA_calculate 159 = .ok (.ireturn, 1) := by decide +kernel
theorem d_MA_calculate_160 : decode c_MA_calculate 160 = .ok (.iload_n 2, 1) := by decide +kernel
theorem d_MA_calculate_161 : decode c_MA_calculate 161 = .ok (.ifCond .ne 7, 3) := by decide +kernel
theorem d_MA_calculate_164 : decode c_MA_calculate 164 = .ok (.iconst 0, 1) := by decide +kernel
theorem d_MA_calculate_165 : decode c_MA_calculate 165 = .ok (.goto 6, 3) := by decide +kernel
theorem d_MA_calculate_168 : decode c_MA_calculate 168 = .ok (.iload_n 1, 1) := by decide +kernel
theorem d_MA_calculate_169 : decode c_MA_calculate 169 = .ok (.iload_n 2, 1) := by decide +kernel
theorem d_MA_calculate_170 : decode c_MA_calculate 170 = .ok (.idiv, 1) := by decide +kernel
theorem d_MA_calculate_171 : decode c_MA_calculate 171 = .ok (.ireturn, 1) := by decide +kernel
theorem d_MA_calculate_172 : decode c_MA_calculate 172 = .ok (.iload_n 2, 1) := by decide +kernel
theorem d_MA_calculate_173 : decode c_MA_calculate 173 = .ok (.ifCond .ne 7, 3) := by decide +kernel
theorem d_MA_calculate_176 : decode c_MA_calculate 176 = .ok (.iconst 0, 1) := by decide +kernel
theorem d_MA_calculate_177 : decode c_MA_calculate 177 = .ok (.goto 6, 3) := by decide +kernel
theorem d_MA_calculate_180 : decode c_MA_calculate 180 = .ok (.iload_n 1, 1) := by decide +kernel
theorem d_MA_calculate_181 : decode c_MA_calculate 181 = .ok (.iload_n 2, 1) := by decide +kernel
theorem d_MA_calculate_182 : decode c_MA_calculate 182 = .ok (.irem, 1) := by decide +kernel
theorem d_MA_calculate_183 : decode c_MA_calculate 183 = .ok (.ireturn, 1) := by decide +kernel
theorem d_MA_calculate_184 : decode c_MA_calculate 184 = .ok (.iload_n 1, 1) := by decide +kernel
theorem d_MA_calculate_185 : decode c_MA_calculate 185 = .ok (.iload_n 2, 1) := by decide +kernel
theorem d_MA_calculate_186 : decode c_MA_calculate 186 = .ok (.ishl, 1) := by decide +kernel
theorem d_MA_calculate_187 : decode c_MA_calculate 187 = .ok (.ireturn, 1) := by decide +kernel
theorem d_MA_calculate_188 : decode c_MA_calculate 188 = .ok (.iload_n 1, 1) := by decide +kernel
theorem d_MA_calculate_189 : decode c_MA_calculate 189 = .ok (.iload_n 2, 1) := by decide +kernel
theorem d_MA_calculate_190 : decode c_MA_calculate 190 = .ok (.ishr, 1) := by decide +kernel
theorem d_MA_calculate_191 : decode c_MA_calculate 191 = .ok (.ireturn, 1) := by decide +kernel
theorem d_MA_calculate_192 : decode c_MA_calculate 192 = .ok (.iload_n 1, 1) := by decide +kernel
theorem d_MA_calculate_193 : decode c_MA_calculate 193 = .ok (.iload_n 2, 1) := by decide +kernel
theorem d_MA_calculate_194 : decode c_MA_calculate 194 = .ok (.iushr, 1) := by decide +kernel
theorem d_MA_calculate_195 : decode c_MA_calculate 195 = .ok (.ireturn, 1) := by decide +kernel
theorem d_MA_calculate_196 : decode c_MA_calculate 196 = .ok (.iload_n 1, 1) := by decide +kernel
theorem d_MA_calculate_197 : decode c_MA_calculate 197 = .ok (.iload_n 2, 1) := by decide +kernel
theorem d_MA_calculate_198 : decode c_MA_calculate 198 = .ok (.iand, 1) := by decide +kernel
theorem d_MA_calculate_199 : decode c_MA_calculate 199 = .ok (.ireturn, 1) := by decide +kernel
theorem d_MA_calculate_200 : decode c_MA_calculate 200 = .ok (.iload_n 1, 1) := by decide +kernel
theorem d_MA_calculate_201 : decode c_MA_calculate 201 = .ok (.iload_n 2, 1) := by decide +kernel
theorem d_MA_calculate_202 : decode c_MA_calculate 202 = .ok (.ior, 1) := by decide +kernel
theorem d_MA_calculate_203 : decode c_MA_calculate 203 = .ok (.ireturn, 1) := by decide +kernel
theorem d_MA_calculate_204 : decode c_MA_calculate 204 = .ok (.iload_n 1, 1) := by decide +kernel
theorem d_MA_calculate_205 : decode c_MA_calculate 205 = .ok (.iload_n 2, 1) := by decide +kernel
theorem d_MA_calculate_206 : decode c_MA_calculate 206 = .ok (.ixor, 1) := by decide +kernel
theorem d_MA_calculate_207 : decode c_MA_calculate 207 = .ok (.ireturn, 1) := by decide +kernel
theorem d_MA_stepCalculation_0 : decode c_MA_stepCalculation 0 = .ok (.aload_n 0, 1) := by decide +kernel
theorem d_MA_stepCalculation_1 : decode c_MA_stepCalculation 1 = .ok (.invokevirtual 153, 3) := by decide +kernel
theorem d_MA_stepCalculation_4 : decode c_MA_stepCalculation 4 = .ok (.istore_n 1, 1) := by decide +kernel
theorem d_MA_stepCalculation_5 : decode c_MA_stepCalculation 5 = .ok (.aload_n 0, 1) := by decide +kernel
theorem d_MA_stepCalculation_6 : decode c_MA_stepCalculation 6 = .ok (.invokevirtual 153, 3) := by decide +kernel
theorem d_MA_stepCalculation_9 : decode c_MA_stepCalculation 9 = .ok (.istore_n 2, 1) := by decide +kernel
theorem d_MA_stepCalculation_10 : decode c_MA_stepCalculation 10 = .ok (.iload_n 1, 1) := by decide +kernel
theorem d_MA_stepCalculation_11 : decode c_MA_stepCalculation 11 = .ok (.ifCond .ne 33, 3) := by decide +kernel
theorem d_MA_stepCalculation_14 : decode c_MA_stepCalculation 14 = .ok (.aload_n 0, 1) := by decide +kernel
theorem d_MA_stepCalculation_15 : decode c_MA_stepCalculation 15 = .ok (.getfield 18, 3) := by decide +kernel
theorem d_MA_stepCalculation_18 : decode c_MA_stepCalculation 18 = .ok (.getfield 117, 3) := by decide +kernel
theorem d_MA_stepCalculation_21 : decode c_MA_stepCalculation 21 = .ok (.bipush 108, 2) := by decide +kernel
theorem d_MA_stepCalculation_23 : decode c_MA_stepCalculation 23 = .ok (.if_icmp .eq 15, 3) := by decide +kernel
theorem d_MA_stepCalculation_26 : decode c_MA_stepCalculation 26 = .ok (.aload_n 0, 1) := by decide +kernel
theorem d_MA_stepCalculation_27 : decode c_MA_stepCalculation 27 = .ok (.getfield 18, 3) := by decide +kernel
theorem d_MA_stepCalculation_30 : decode c_MA_stepCalculation 30 = .ok (.getfield 117, 3) := by decide +kernel
theorem d_MA_stepCalculation_33 : decode c_MA_stepCalculation 33 = .ok (.bipush 112, 2) := by decide +kernel
theorem d_MA_stepCalculation_35 : decode c_MA_stepCalculation 35 = .ok (.if_icmp .ne 9, 3) := by decide +kernel
theorem d_MA_stepCalculation_38 : decode c_MA_stepCalculation 38 = .ok (.aload_n 0, 1) := by decide +kernel
theorem d_MA_stepCalculation_39 : decode c_MA_stepCalculation 39 = .ok (.iconst 1, 1) := by decide +kernel
theorem d_MA_stepCalculation_40 : decode c_MA_stepCalculation 40 = .ok (.invokevirtual 187, 3) := by decide +kernel
theorem d_MA_stepCalculation_43 : decode c_MA_stepCalculation 43 = .ok (.return_, 1) := by decide +kernel
theorem d_MA_stepCalculation_44 : decode c_MA_stepCalculation 44 = .ok (.aload_n 0, 1) := by decide +kernel
theorem d_MA_stepCalculation_45 : decode c_MA_stepCalculation 45 = .ok (.aload_n 0, 1) := by decide +kernel
theorem d_MA_stepCalculation_46 : decode c_MA_stepCalculation 46 = .ok (.getfield 18, 3) := by decide +kernel
theorem d_MA_stepCalculation_49 : decode c_MA_stepCalculation 49 = .ok (.getfield 117, 3) := by decide +kernel
theorem d_MA_stepCalculation_52 : decode c_MA_stepCalculation 52 = .ok (.iload_n 2, 1) := by decide +kernel
theorem d_MA_stepCalculation_53 : decode c_MA_stepCalculation 53 = .ok (.iload_n 1, 1) := by decide +kernel
theorem d_MA_stepCalculation_54 : decode c_MA_stepCalculation 54 = .ok (.invokestatic 190, 3) := by decide +kernel
theorem d_MA_stepCalculation_57 : decode c_MA_stepCalculation 57 = .ok (.invokevirtual 174, 3) := by decide +kernel
theorem d_MA_stepCalculation_60 : decode c_MA_stepCalculation 60 = .ok (.aload_n 0, 1) := by decide +kernel
theorem d_MA_stepCalculation_61 : decode c_MA_stepCalculation 61 = .ok (.invokevirtual 171, 3) := by decide +kernel
theorem d_MA_stepCalculation_64 : decode c_MA_stepCalculation 64 = .ok (.return_, 1) := by decide +kernel
theorem d_MA_isSo_0 : decode c_MA_isSo 0 = .ok (.iload_n 0, 1) := by decide +kernel
theorem d_MA_isSo_1 : decode c_MA_isSo 1 = .ok (.tableswitch 90 0 4 #[35, 46, 57, 68, 79], 35) := by decide +kernel
theorem d_MA_isSo_36 : decode c_MA_isSo 36 = .ok (.iload_n 1, 1) := by decide +kernel
theorem d_MA_isSo_37 : decode c_MA_isSo 37 = .ok (.iload_n 2, 1) := by decide +kernel
theorem d_MA_isSo_38 : decode c_MA_isSo 38 = .ok (.if_icmp .ne 7, 3) := by decide +kernel
theorem d_MA_isSo_41 : decode c_MA_isSo 41 = .ok (.iconst 1, 1) := by decide +kernel
theorem d_MA_isSo_42 : decode c_MA_isSo 42 = .ok (.goto 4, 3) := by decide +kernel
theorem d_MA_isSo_45 : decode c_MA_isSo 45 = .ok (.iconst 0, 1) := by decide +kernel
theorem d_MA_isSo_46 : decode c_MA_isSo 46 = .ok (.ireturn, 1) := by decide +kernel
theorem d_MA_isSo_47 : decode c_MA_isSo 47 = .ok (.iload_n 1, 1) := by decide +kernel
theorem d_MA_isSo_48 : decode c_MA_isSo 48 = .ok (.iload_n 2, 1) := by decide +kernel
theorem d_MA_isSo_49 : decode c_MA_isSo 49 = .ok (.if_icmp .eq 7, 3) := by decide +kernel
theorem d_MA_isSo_52 : decode c_MA_isSo 52 = .ok (.iconst 1, 1) := by decide +kernel
theorem d_MA_isSo_53 : decode c_MA_isSo 53 = .ok (.goto 4, 3) := by decide +kernel
theorem d_MA_isSo_56 : decode c_MA_isSo 56 = .ok (.iconst 0, 1) := by decide +kernel
theorem d_MA_isSo_57 : decode c_MA_isSo 57 = .ok (.ireturn, 1) := by decide +kernel
theorem d_MA_isSo_58 : decode c_MA_isSo 58 = .ok (.iload_n 1, 1) := by decide +kernel
theorem d_MA_isSo_59 : decode c_MA_isSo 59 = .ok (.iload_n 2, 1) := by decide +kernel
theorem d_MA_isSo_60 : decode c_MA_isSo 60 = .ok (.if_icmp .ge 7, 3) := by decide +kernel
theorem d_MA_isSo_63 : decode c_MA_isSo 63 = .ok (.iconst 1, 1) := by decide +kernel
theorem d_MA_isSo_64 : decode c_MA_isSo 64 = .ok (.goto 4, 3) := by decide +kernel
theorem d_MA_isSo_67 : decode c_MA_isSo 67 = .ok (.iconst 0, 1) := by decide +kernel
theorem d_MA_isSo_68 : decode c_MA_isSo 68 = .ok (.ireturn, 1) := by decide +kernel
theorem d_MA_isSo_69 : decode c_MA_isSo 69 = .ok (.iload_n 1, 1) := by decide +kernel
theorem d_MA_isSo_70 : decode c_MA_isSo 70 = .ok (.iload_n 2, 1) := by decide +kernel
theorem d_MA_isSo_71 : decode c_MA_isSo 71 = .ok (.if_icmp .lt 7, 3) := by decide +kernel
theorem d_MA_isSo_74 : decode c_MA_isSo 74 = .ok (.iconst 1, 1) := by decide +kernel
theorem d_MA_isSo_75 : decode c_MA_isSo 75 = .ok (.goto 4, 3) := by decide +kernel
theorem d_MA_isSo_78 : decode c_MA_isSo 78 = .ok (.iconst 0, 1) := by decide +kernel
theorem d_MA_isSo_79 : decode c_MA_isSo 79 = .ok (.ireturn, 1) := by decide +kernel
theorem d_MA_isSo_80 : decode c_MA_isSo 80 = .ok (.iload_n 1, 1) := by decide +kernel
theorem d_MA_isSo_81 : decode c_MA_isSo 81 = .ok (.iload_n 2, 1) := by decide +kernel
theorem d_MA_isSo_82 : decode c_MA_isSo 82 = .ok (.if_icmp .le 7, 3) := by decide +kernel
theorem d_MA_isSo_85 : decode c_MA_isSo 85 = .ok (.iconst 1, 1) := by decide +kernel
theorem d_MA_isSo_86 : decode c_MA_isSo 86 = .ok (.goto 4, 3) := by decide +kernel
theorem d_MA_isSo_89 : decode c_MA_isSo 89 = .ok (.iconst 0, 1) := by decide +kernel
theorem d_MA_isSo_90 : decode c_MA_isSo 90 = .ok (.ireturn, 1) := by decide +kernel
theorem d_MA_isSo_91 : decode c_MA_isSo 91 = .ok (.iload_n 1, 1) := by decide +kernel
theorem d_MA_isSo_92 : decode c_MA_isSo 92 = .ok (.iload_n 2, 1) := by decide +kernel
theorem d_MA_isSo_93 : decode c_MA_isSo 93 = .ok (.if_icmp .gt 7, 3) := by decide +kernel
theorem d_MA_isSo_96 : decode c_MA_isSo 96 = .ok (.iconst 1, 1) := by decide +kernel
theorem d_MA_isSo_97 : decode c_MA_isSo 97 = .ok (.goto 4, 3) := by decide +kernel
theorem d_MA_isSo_100 : decode c_MA_isSo 100 = .ok (.iconst 0, 1) := by decide +kernel
theorem d_MA_isSo_101 : decode c_MA_isSo 101 = .ok (.ireturn, 1) := by decide +kernel
theorem d_MA_isTaken_0 : decode c_MA_isTaken 0 = .ok (.iload_n 1, 1) := by decide +kernel
theorem d_MA_isTaken_1 : decode c_MA_isTaken 1 = .ok (.sipush 167, 3) := by decide +kernel
theorem d_MA_isTaken_4 : decode c_MA_isTaken 4 = .ok (.if_icmp .ne 5, 3) := by decide +kernel
theorem d_MA_isTaken_7 : decode c_MA_isTaken 7 = .ok (.iconst 1, 1) := by decide +kernel
theorem d_MA_isTaken_8 : decode c_MA_isTaken 8 = .ok (.ireturn, 1) := by decide +kernel
theorem d_MA_isTaken_9 : decode c_MA_isTaken 9 = .ok (.aload_n 0, 1) := by decide +kernel
theorem d_MA_isTaken_10 : decode c_MA_isTaken 10 = .ok (.invokevirtual 153, 3) := by decide +kernel
theorem d_MA_isTaken_13 : decode c_MA_isTaken 13 = .ok (.istore_n 2, 1) := by decide +kernel
theorem d_MA_isTaken_14 : decode c_MA_isTaken 14 = .ok (.iload_n 1, 1) := by decide +kernel
theorem d_MA_isTaken_15 : decode c_MA_isTaken 15 = .ok (.sipush 198, 3) := by decide +kernel
theorem d_MA_isTaken_18 : decode c_MA_isTaken 18 = .ok (.if_icmp .ne 14, 3) := by decide +kernel
theorem d_MA_isTaken_21 : decode c_MA_isTaken 21 = .ok (.iload_n 2, 1) := by decide +kernel
theorem d_MA_isTaken_22 : decode c_MA_isTaken 22 = .ok (.iconst (-1), 1) := by decide +kernel
theorem d_MA_isTaken_23 : decode c_MA_isTaken 23 = .ok (.if_icmp .ne 7, 3) := by decide +kernel
theorem d_MA_isTaken_26 : decode c_MA_isTaken 26 = .ok (.iconst 1, 1) := by decide +kernel
theorem d_MA_isTaken_27 : decode c_MA_isTaken 27 = .ok (.goto 4, 3) := by decide +kernel
theorem d_MA_isTaken_30 : decode c_MA_isTaken 30 = .ok (.iconst 0, 1) := by decide +kernel
theorem d_MA_isTaken_31 : decode c_MA_isTaken 31 = .ok (.ireturn, 1) := by decide +kernel
theorem d_MA_isTaken_32 : decode c_MA_isTaken 32 = .ok (.iload_n 1, 1) := by decide +kernel
theorem d_MA_isTaken_33 : decode c_MA_isTaken 33 = .ok (.sipush 199, 3) := by decide +kernel
theorem d_MA_isTaken_36 : decode c_MA_isTaken 36 = .ok (.if_icmp .ne 14, 3) := by decide +kernel
theorem d_MA_isTaken_39 : decode c_MA_isTaken 39 = .ok (.iload_n 2, 1) := by decide +kernel
theorem d_MA_isTaken_40 : decode c_MA_isTaken 40 = .ok (.iconst (-1), 1) := by decide +kernel
theorem d_MA_isTaken_41 : decode c_MA_isTaken 41 = .ok (.if_icmp .eq 7, 3) := by decide +kernel
theorem d_MA_isTaken_44 : decode c_MA_isTaken 44 = .ok (.iconst 1, 1) := by decide +kernel
theorem d_MA_isTaken_45 : decode c_MA_isTaken 45 = .ok (.goto 4, 3) := by decide +kernel
theorem d_MA_isTaken_48 : decode c_MA_isTaken 48 = .ok (.iconst 0, 1) := by decide +kernel
theorem d_MA_isTaken_49 : decode c_MA_isTaken 49 = .ok (.ireturn, 1) := by decide +kernel
theorem d_MA_isTaken_50 : decode c_MA_isTaken 50 = .ok (.iload_n 1, 1) := by decide +kernel
theorem d_MA_isTaken_51 : decode c_MA_isTaken 51 = .ok (.sipush 165, 3) := by decide +kernel
theorem d_MA_isTaken_54 : decode c_MA_isTaken 54 = .ok (.if_icmp .lt 17, 3) := by decide +kernel
theorem d_MA_isTaken_57 : decode c_MA_isTaken 57 = .ok (.iload_n 1, 1) := by decide +kernel
theorem d_MA_isTaken_58 : decode c_MA_isTaken 58 = .ok (.sipush 165, 3) := by decide +kernel
theorem d_MA_isTaken_61 : decode c_MA_isTaken 61 = .ok (.isub, 1) := by decide +kernel
theorem d_MA_isTaken_62 : decode c_MA_isTaken 62 = .ok (.aload_n 0, 1) := by decide +kernel
theorem d_MA_isTaken_63 : decode c_MA_isTaken 63 = .ok (.invokevirtual 153, 3) := by decide +kernel
theorem d_MA_isTaken_66 : decode c_MA_isTaken 66 = .ok (.iload_n 2, 1) := by decide +kernel
theorem d_MA_isTaken_67 : decode c_MA_isTaken 67 = .ok (.invokestatic 194, 3) := by decide +kernel
theorem d_MA_isTaken_70 : decode c_MA_isTaken 70 = .ok (.ireturn, 1) := by decide +kernel
theorem d_MA_isTaken_71 : decode c_MA_isTaken 71 = .ok (.iload_n 1, 1) := by decide +kernel
theorem d_MA_isTaken_72 : decode c_MA_isTaken 72 = .ok (.sipush 159, 3) := by decide +kernel
theorem d_MA_isTaken_75 : decode c_MA_isTaken 75 = .ok (.if_icmp .lt 17, 3) := by decide +kernel
theorem d_MA_isTaken_78 : decode c_MA_isTaken 78 = .ok (.iload_n 1, 1) := by decide +kernel
theorem d_MA_isTaken_79 : decode c_MA_isTaken 79 = .ok (.sipush 159, 3) := by decide +kernel
theorem d_MA_isTaken_82 : decode c_MA_isTaken 82 = .ok (.isub, 1) := by decide +kernel
theorem d_MA_isTaken_83 : decode c_MA_isTaken 83 = .ok (.aload_n 0, 1) := by decide +kernel
theorem d_MA_isTaken_84 : decode c_MA_isTaken 84 = .ok (.invokevirtual 153, 3) := by decide +kernel
theorem d_MA_isTaken_87 : decode c_MA_isTaken 87 = .ok (.iload_n 2, 1) := by decide +kernel
theorem d_MA_isTaken_88 : decode c_MA_isTaken 88 = .ok (.invokestatic 194, 3) := by decide +kernel
theorem d_MA_isTaken_91 : decode c_MA_isTaken 91 = .ok (.ireturn, 1) := by decide +kernel
theorem d_MA_isTaken_92 : decode c_MA_isTaken 92 = .ok (.iload_n 1, 1) := by decide +kernel
theorem d_MA_isTaken_93 : decode c_MA_isTaken 93 = .ok (.sipush 153, 3) := by decide +kernel
theorem d_MA_isTaken_96 : decode c_MA_isTaken 96 = .ok (.isub, 1) := by decide +kernel
theorem d_MA_isTaken_97 : decode c_MA_isTaken 97 = .ok (.iload_n 2, 1) := by decide +kernel
theorem d_MA_isTaken_98 : decode c_MA_isTaken 98 = .ok (.iconst 0, 1) := by decide +kernel
theorem d_MA_isTaken_99 : decode c_MA_isTaken 99 = .ok (.invokestatic 194, 3) := by decide +kernel
theorem d_MA_isTaken_102 : decode c_MA_isTaken 102 = .ok (.ireturn, 1) := by decide +kernel
theorem d_MA_stepLocal_0 : decode c_MA_stepLocal 0 = .ok (.aload_n 0, 1) := by decide +kernel
theorem d_MA_stepLocal_1 : decode c_MA_stepLocal 1 = .ok (.getfield 18, 3) := by decide +kernel
theorem d_MA_stepLocal_4 : decode c_MA_stepLocal 4 = .ok (.getfield 117, 3) := by decide +kernel
theorem d_MA_stepLocal_7 : decode c_MA_stepLocal 7 = .ok (.lookupswitch 65 #[(21, 33), (25, 33), (132, 46)], 33) := by decide +kernel
theorem d_MA_stepLocal_40 : decode c_MA_stepLocal 40 = .ok (.aload_n 0, 1) := by decide +kernel
theorem d_MA_stepLocal_41 : decode c_MA_stepLocal 41 = .ok (.aload_n 0, 1) := by decide +kernel
theorem d_MA_stepLocal_42 : decode c_MA_stepLocal 42 = .ok (.getfield 22, 3) := by decide +kernel
theorem d_MA_stepLocal_45 : decode c_MA_stepLocal 45 = .ok (.iload_n 1, 1) := by decide +kernel
theorem d_MA_stepLocal_46 : decode c_MA_stepLocal 46 = .ok (.iaload, 1) := by decide +kernel
theorem d_MA_stepLocal_47 : decode c_MA_stepLocal 47 = .ok (.invokevirtual 174, 3) := by decide +kernel
theorem d_MA_stepLocal_50 : decode c_MA_stepLocal 50 = .ok (.goto 32, 3) := by decide +kernel
theorem d_MA_stepLocal_53 : decode c_MA_stepLocal 53 = .ok (.aload_n 0, 1) := by decide +kernel
theorem d_MA_stepLocal_54 : decode c_MA_stepLocal 54 = .ok (.getfield 22, 3) := by decide +kernel
theorem d_MA_stepLocal_57 : decode c_MA_stepLocal 57 = .ok (.iload_n 1, 1) := by decide +kernel
theorem d_MA_stepLocal_58 : decode c_MA_stepLocal 58 = .ok (.dup2, 1) := by decide +kernel
theorem d_MA_stepLocal_59 : decode c_MA_stepLocal 59 = .ok (.iaload, 1) := by decide +kernel
theorem d_MA_stepLocal_60 : decode c_MA_stepLocal 60 = .ok (.aload_n 0, 1) := by decide +kernel
theorem d_MA_stepLocal_61 : decode c_MA_stepLocal 61 = .ok (.getfield 18, 3) := by decide +kernel
theorem d_MA_stepLocal_64 : decode c_MA_stepLocal 64 = .ok (.getfield 184, 3) := by decide +kernel
theorem d_MA_stepLocal_67 : decode c_MA_stepLocal 67 = .ok (.iadd, 1) := by decide +kernel
theorem d_MA_stepLocal_68 : decode c_MA_stepLocal 68 = .ok (.iastore, 1) := by decide +kernel
theorem d_MA_stepLocal_69 : decode c_MA_stepLocal 69 = .ok (.goto 13, 3) := by decide +kernel
theorem d_MA_stepLocal_72 : decode c_MA_stepLocal 72 = .ok (.aload_n 0, 1) := by decide +kernel
theorem d_MA_stepLocal_73 : decode c_MA_stepLocal 73 = .ok (.getfield 22, 3) := by decide +kernel
theorem d_MA_stepLocal_76 : decode c_MA_stepLocal 76 = .ok (.iload_n 1, 1) := by decide +kernel
theorem d_MA_stepLocal_77 : decode c_MA_stepLocal 77 = .ok (.aload_n 0, 1) := by decide +kernel
theorem d_MA_stepLocal_78 : decode c_MA_stepLocal 78 = .ok (.invokevirtual 153, 3) := by decide +kernel
theorem d_MA_stepLocal_81 : decode c_MA_stepLocal 81 = .ok (.iastore, 1) := by decide +kernel
theorem d_MA_stepLocal_82 : decode c_MA_stepLocal 82 = .ok (.aload_n 0, 1) := by decide +kernel
theorem d_MA_stepLocal_83 : decode c_MA_stepLocal 83 = .ok (.invokevirtual 171, 3) := by decide +kernel
theorem d_MA_stepLocal_86 : decode c_MA_stepLocal 86 = .ok (.return_, 1) := by decide +kernel
theorem d_MA_whatIsWrong_0 : decode c_MA_whatIsWrong 0 = .ok (.iload_n 1, 1) := by decide +kernel
theorem d_MA_whatIsWrong_1 : decode c_MA_whatIsWrong 1 = .ok (.iconst (-1), 1) := by decide +kernel
theorem d_MA_whatIsWrong_2 : decode c_MA_whatIsWrong 2 = .ok (.if_icmp .ne 5, 3) := by decide +kernel
theorem d_MA_whatIsWrong_5 : decode c_MA_whatIsWrong 5 = .ok (.iconst 2, 1) := by decide +kernel
theorem d_MA_whatIsWrong_6 : decode c_MA_whatIsWrong 6 = .ok (.ireturn, 1) := by decide +kernel
theorem d_MA_whatIsWrong_7 : decode c_MA_whatIsWrong 7 = .ok (.iload_n 2, 1) := by decide +kernel
theorem d_MA_whatIsWrong_8 : decode c_MA_whatIsWrong 8 = .ok (.ifCond .lt 13, 3) := by decide +kernel
theorem d_MA_whatIsWrong_11 : decode c_MA_whatIsWrong 11 = .ok (.iload_n 2, 1) := by decide +kernel
theorem d_MA_whatIsWrong_12 : decode c_MA_whatIsWrong 12 = .ok (.aload_n 0, 1) := by decide +kernel
theorem d_MA_whatIsWrong_13 : decode c_MA_whatIsWrong 13 = .ok (.getfield 50, 3) := by decide +kernel
theorem d_MA_whatIsWrong_16 : decode c_MA_whatIsWrong 16 = .ok (.iload_n 1, 1) := by decide +kernel
theorem d_MA_whatIsWrong_17 : decode c_MA_whatIsWrong 17 = .ok (.iaload, 1) := by decide +kernel
theorem d_MA_whatIsWrong_18 : decode c_MA_whatIsWrong 18 = .ok (.if_icmp .lt 7, 3) := by decide +kernel
theorem d_MA_whatIsWrong_21 : decode c_MA_whatIsWrong 21 = .ok (.iconst 3, 1) := by decide +kernel
theorem d_MA_whatIsWrong_22 : decode c_MA_whatIsWrong 22 = .ok (.goto 4, 3) := by decide +kernel
theorem d_MA_whatIsWrong_25 : decode c_MA_whatIsWrong 25 = .ok (.iconst (-1), 1) := by decide +kernel
theorem d_MA_whatIsWrong_26 : decode c_MA_whatIsWrong 26 = .ok (.ireturn, 1) := by decide +kernel
theorem d_MA_stepArrayLoad_0 : decode c_MA_stepArrayLoad 0 = .ok (.aload_n 0, 1) := by decide +kernel
theorem d_MA_stepArrayLoad_1 : decode c_MA_stepArrayLoad 1 = .ok (.invokevirtual 153, 3) := by decide +kernel
theorem d_MA_stepArrayLoad_4 : decode c_MA_stepArrayLoad 4 = .ok (.istore_n 1, 1) := by decide +kernel
theorem d_MA_stepArrayLoad_5 : decode c_MA_stepArrayLoad 5 = .ok (.aload_n 0, 1) := by decide +kernel
theorem d_MA_stepArrayLoad_6 : decode c_MA_stepArrayLoad 6 = .ok (.invokevirtual 153, 3) := by decide +kernel
theorem d_MA_stepArrayLoad_9 : decode c_MA_stepArrayLoad 9 = .ok (.istore_n 2, 1) := by decide +kernel
theorem d_MA_stepArrayLoad_10 : decode c_MA_stepArrayLoad 10 = .ok (.aload_n 0, 1) := by decide +kernel
theorem d_MA_stepArrayLoad_11 : decode c_MA_stepArrayLoad 11 = .ok (.iload_n 2, 1) := by decide +kernel
theorem d_MA_stepArrayLoad_12 : decode c_MA_stepArrayLoad 12 = .ok (.iload_n 1, 1) := by decide +kernel
theorem d_MA_stepArrayLoad_13 : decode c_MA_stepArrayLoad 13 = .ok (.invokevirtual 198, 3) := by decide +kernel
theorem d_MA_stepArrayLoad_16 : decode c_MA_stepArrayLoad 16 = .ok (.istore_n 3, 1) := by decide +kernel
theorem d_MA_stepArrayLoad_17 : decode c_MA_stepArrayLoad 17 = .ok (.iload_n 3, 1) := by decide +kernel
theorem d_MA_stepArrayLoad_18 : decode c_MA_stepArrayLoad 18 = .ok (.iconst (-1), 1) := by decide +kernel
theorem d_MA_stepArrayLoad_19 : decode c_MA_stepArrayLoad 19 = .ok (.if_icmp .eq 9, 3) := by decide +kernel
theorem d_MA_stepArrayLoad_22 : decode c_MA_stepArrayLoad 22 = .ok (.aload_n 0, 1) := by decide +kernel
theorem d_MA_stepArrayLoad_23 : decode c_MA_stepArrayLoad 23 = .ok (.iload_n 3, 1) := by decide +kernel
theorem d_MA_stepArrayLoad_24 : decode c_MA_stepArrayLoad 24 = .ok (.invokevirtual 187, 3) := by decide +kernel
theorem d_MA_stepArrayLoad_27 : decode c_MA_stepArrayLoad 27 = .ok (.return_, 1) := by decide +kernel
theorem d_MA_stepArrayLoad_28 : decode c_MA_stepArrayLoad 28 = .ok (.aload_n 0, 1) := by decide +kernel
theorem d_MA_stepArrayLoad_29 : decode c_MA_stepArrayLoad 29 = .ok (.aload_n 0, 1) := by decide +kernel
theorem d_MA_stepArrayLoad_30 : decode c_MA_stepArrayLoad 30 = .ok (.getfield 50, 3) := by decide +kernel
theorem d_MA_stepArrayLoad_33 : decode c_MA_stepArrayLoad 33 = .ok (.iload_n 2, 1) := by decide +kernel
theorem d_MA_stepArrayLoad_34 : decode c_MA_stepArrayLoad 34 = .ok (.iconst 1, 1) := by decide +kernel
theorem d_MA_stepArrayLoad_35 : decode c_MA_stepArrayLoad 35 = .ok (.iadd, 1) := by decide +kernel
theorem d_MA_stepArrayLoad_36 : decode c_MA_stepArrayLoad 36 = .ok (.iload_n 1, 1) := by decide +kernel
theorem d_MA_stepArrayLoad_37 : decode c_MA_stepArrayLoad 37 = .ok (.iadd, 1) := by decide +kernel
theorem d_MA_stepArrayLoad_38 : decode c_MA_stepArrayLoad 38 = .ok (.iaload, 1) := by decide +kernel
theorem d_MA_stepArrayLoad_39 : decode c_MA_stepArrayLoad 39 = .ok (.invokevirtual 174, 3) := by decide +kernel
theorem d_MA_stepArrayLoad_42 : decode c_MA_stepArrayLoad 42 = .ok (.aload_n 0, 1) := by decide +kernel
theorem d_MA_stepArrayLoad_43 : decode c_MA_stepArrayLoad 43 = .ok (.invokevirtual 171, 3) := by decide +kernel
theorem d_MA_stepArrayLoad_46 : decode c_MA_stepArrayLoad 46 = .ok (.return_, 1) := by decide +kernel
theorem d_MA_stepArrayStore_0 : decode c_MA_stepArrayStore 0 = .ok (.aload_n 0, 1) := by decide +kernel
theorem d_MA_stepArrayStore_1 : decode c_MA_stepArrayStore 1 = .ok (.invokevirtual 153, 3) := by decide +kernel
theorem d_MA_stepArrayStore_4 : decode c_MA_stepArrayStore 4 = .ok (.istore_n 1, 1) := by decide +kernel
theorem d_MA_stepArrayStore_5 : decode c_MA_stepArrayStore 5 = .ok (.aload_n 0, 1) := by decide +kernel
theorem d_MA_stepArrayStore_6 : decode c_MA_stepArrayStore 6 = .ok (.invokevirtual 153, 3) := by decide +kernel
theorem d_MA_stepArrayStore_9 : decode c_MA_stepArrayStore 9 = .ok (.istore_n 2, 1) := by decide +kernel
theorem d_MA_stepArrayStore_10 : decode c_MA_stepArrayStore 10 = .ok (.aload_n 0, 1) := by decide +kernel
theorem d_MA_stepArrayStore_11 : decode c_MA_stepArrayStore 11 = .ok (.invokevirtual 153, 3) := by decide +kernel
theorem d_MA_stepArrayStore_14 : decode c_MA_stepArrayStore 14 = .ok (.istore_n 3, 1) := by decide +kernel
theorem d_MA_stepArrayStore_15 : decode c_MA_stepArrayStore 15 = .ok (.aload_n 0, 1) := by decide +kernel
theorem d_MA_stepArrayStore_16 : decode c_MA_stepArrayStore 16 = .ok (.iload_n 3, 1) := by decide +kernel
theorem d_MA_stepArrayStore_17 : decode c_MA_stepArrayStore 17 = .ok (.iload_n 2, 1) := by decide +kernel
theorem d_MA_stepArrayStore_18 : decode c_MA_stepArrayStore 18 = .ok (.invokevirtual 198, 3) := by decide +kernel
theorem d_MA_stepArrayStore_21 : decode c_MA_stepArrayStore 21 = .ok (.istore 4, 2) := by decide +kernel
theorem d_MA_stepArrayStore_23 : decode c_MA_stepArrayStore 23 = .ok (.iload 4, 2) := by decide +kernel
theorem d_MA_stepArrayStore_25 : decode c_MA_stepArrayStore 25 = .ok (.iconst (-1), 1) := by decide +kernel
theorem d_MA_stepArrayStore_26 : decode c_MA_stepArrayStore 26 = .ok (.if_icmp .eq 10, 3) := by decide +kernel
theorem d_MA_stepArrayStore_29 : decode c_MA_stepArrayStore 29 = .ok (.aload_n 0, 1) := by decide +kernel
theorem d_MA_stepArrayStore_30 : decode c_MA_stepArrayStore 30 = .ok (.iload 4, 2) := by decide +kernel
theorem d_MA_stepArrayStore_32 : decode c_MA_stepArrayStore 32 = .ok (.invokevirtual 187, 3) := by decide +kernel
theorem d_MA_stepArrayStore_35 : decode c_MA_stepArrayStore 35 = .ok (.return_, 1) := by decide +kernel
theorem d_MA_stepArrayStore_36 : decode c_MA_stepArrayStore 36 = .ok (.aload_n 0, 1) := by decide +kernel
theorem d_MA_stepArrayStore_37 : decode c_MA_stepArrayStore 37 = .ok (.getfield 50, 3) := by decide +kernel
theorem d_MA_stepArrayStore_40 : decode c_MA_stepArrayStore 40 = .ok (.iload_n 3, 1) := by decide +kernel
theorem d_MA_stepArrayStore_41 : decode c_MA_stepArrayStore 41 = .ok (.iconst 1, 1) := by decide +kernel
theorem d_MA_stepArrayStore_42 : decode c_MA_stepArrayStore 42 = .ok (.iadd, 1) := by decide +kernel
theorem d_MA_stepArrayStore_43 : decode c_MA_stepArrayStore 43 = .ok (.iload_n 2, 1) := by decide +kernel
theorem d_MA_stepArrayStore_44 : decode c_MA_stepArrayStore 44 = .ok (.iadd, 1) := by decide +kernel
theorem d_MA_stepArrayStore_45 : decode c_MA_stepArrayStore 45 = .ok (.iload_n 1, 1) := by decide +kernel
theorem d_MA_stepArrayStore_46 : decode c_MA_stepArrayStore 46 = .ok (.iastore, 1) := by decide +kernel
theorem d_MA_stepArrayStore_47 : decode c_MA_stepArrayStore 47 = .ok (.aload_n 0, 1) := by decide +kernel
theorem d_MA_stepArrayStore_48 : decode c_MA_stepArrayStore 48 = .ok (.invokevirtual 171, 3) := by decide +kernel
theorem d_MA_stepArrayStore_51 : decode c_MA_stepArrayStore 51 = .ok (.return_, 1) := by decide +kernel
theorem d_MA_stepNewArray_0 : decode c_MA_stepNewArray 0 = .ok (.iload_n 1, 1) := by decide +kernel
theorem d_MA_stepNewArray_1 : decode c_MA_stepNewArray 1 = .ok (.ifCond .ge 9, 3) := by decide +kernel
theorem d_MA_stepNewArray_4 : decode c_MA_stepNewArray 4 = .ok (.aload_n 0, 1) := by decide +kernel
theorem d_MA_stepNewArray_5 : decode c_MA_stepNewArray 5 = .ok (.iconst 4, 1) := by decide +kernel
theorem d_MA_stepNewArray_6 : decode c_MA_stepNewArray 6 = .ok (.invokevirtual 187, 3) := by decide +kernel
theorem d_MA_stepNewArray_9 : decode c_MA_stepNewArray 9 = .ok (.return_, 1) := by decide +kernel
theorem d_MA_stepNewArray_10 : decode c_MA_stepNewArray 10 = .ok (.iload_n 1, 1) := by decide +kernel
theorem d_MA_stepNewArray_11 : decode c_MA_stepNewArray 11 = .ok (.bipush 120, 2) := by decide +kernel
theorem d_MA_stepNewArray_13 : decode c_MA_stepNewArray 13 = .ok (.aload_n 0, 1) := by decide +kernel
theorem d_MA_stepNewArray_14 : decode c_MA_stepNewArray 14 = .ok (.getfield 64, 3) := by decide +kernel
theorem d_MA_stepNewArray_17 : decode c_MA_stepNewArray 17 = .ok (.isub, 1) := by decide +kernel
theorem d_MA_stepNewArray_18 : decode c_MA_stepNewArray 18 = .ok (.if_icmp .lt 10, 3) := by decide +kernel
theorem d_MA_stepNewArray_21 : decode c_MA_stepNewArray 21 = .ok (.aload_n 0, 1) := by decide +kernel
theorem d_MA_stepNewArray_22 : decode c_MA_stepNewArray 22 = .ok (.bipush 8, 2) := by decide +kernel
theorem d_MA_stepNewArray_24 : decode c_MA_stepNewArray 24 = .ok (.invokevirtual 57, 3) := by decide +kernel
theorem d_MA_stepNewArray_27 : decode c_MA_stepNewArray 27 = .ok (.return_, 1) := by decide +kernel
theorem d_MA_stepNewArray_28 : decode c_MA_stepNewArray 28 = .ok (.aload_n 0, 1) := by decide +kernel
theorem d_MA_stepNewArray_29 : decode c_MA_stepNewArray 29 = .ok (.getfield 64, 3) := by decide +kernel
theorem d_MA_stepNewArray_32 : decode c_MA_stepNewArray 32 = .ok (.istore_n 2, 1) := by decide +kernel
theorem d_MA_stepNewArray_33 : decode c_MA_stepNewArray 33 = .ok (.aload_n 0, 1) := by decide +kernel
theorem d_MA_stepNewArray_34 : decode c_MA_stepNewArray 34 = .ok (.getfield 50, 3) := by decide +kernel
theorem d_MA_stepNewArray_37 : decode c_MA_stepNewArray 37 = .ok (.iload_n 2, 1) := by decide +kernel
theorem d_MA_stepNewArray_38 : decode c_MA_stepNewArray 38 = .ok (.iload_n 1, 1) := by decide +kernel
theorem d_MA_stepNewArray_39 : decode c_MA_stepNewArray 39 = .ok (.iastore, 1) := by decide +kernel
theorem d_MA_stepNewArray_40 : decode c_MA_stepNewArray 40 = .ok (.iconst 0, 1) := by decide +kernel
theorem d_MA_stepNewArray_41 : decode c_MA_stepNewArray 41 = .ok (.istore_n 3, 1) := by decide +kernel
theorem d_MA_stepNewArray_42 : decode c_MA_stepNewArray 42 = .ok (.iload_n 3, 1) := by decide +kernel
theorem d_MA_stepNewArray_43 : decode c_MA_stepNewArray 43 = .ok (.iload_n 1, 1) := by decide +kernel
theorem d_MA_stepNewArray_44 : decode c_MA_stepNewArray 44 = .ok (.if_icmp .ge 20, 3) := by decide +kernel
theorem d_MA_stepNewArray_47 : decode c_MA_stepNewArray 47 = .ok (.aload_n 0, 1) := by decide +kernel
theorem d_MA_stepNewArray_48 : decode c_MA_stepNewArray 48 = .ok (.getfield 50, 3) := by decide +kernel
theorem d_MA_stepNewArray_51 : decode c_MA_stepNewArray 51 = .ok (.iload_n 2, 1) := by decide +kernel
theorem d_MA_stepNewArray_52 : decode c_MA_stepNewArray 52 = .ok (.iconst 1, 1) := by decide +kernel
theorem d_MA_stepNewArray_53 : decode c_MA_stepNewArray 53 = .ok (.iadd, 1) := by decide +kernel
theorem d_MA_stepNewArray_54 : decode c_MA_stepNewArray 54 = .ok (.iload_n 3, 1) := by decide +kernel
theorem d_MA_stepNewArray_55 : decode c_MA_stepNewArray 55 = .ok (.iadd, 1) := by decide +kernel
theorem d_MA_stepNewArray_56 : decode c_MA_stepNewArray 56 = .ok (.iconst 0, 1) := by decide +kernel
theorem d_MA_stepNewArray_57 : decode c_MA_stepNewArray 57 = .ok (.iastore, 1) := by decide +kernel
theorem d_MA_stepNewArray_58 : decode c_MA_stepNewArray 58 = .ok (.iinc 3 1, 3) := by decide +kernel
theorem d_MA_stepNewArray_61 : decode c_MA_stepNewArray 61 = .ok (.goto (-19), 3) := by decide +kernel
theorem d_MA_stepNewArray_64 : decode c_MA_stepNewArray 64 = .ok (.aload_n 0, 1) := by decide +kernel
theorem d_MA_stepNewArray_65 : decode c_MA_stepNewArray 65 = .ok (.iload_n 2, 1) := by decide +kernel
theorem d_MA_stepNewArray_66 : decode c_MA_stepNewArray 66 = .ok (.iconst 1, 1) := by decide +kernel
theorem d_MA_stepNewArray_67 : decode c_MA_stepNewArray 67 = .ok (.iadd, 1) := by decide +kernel
theorem d_MA_stepNewArray_68 : decode c_MA_stepNewArray 68 = .ok (.iload_n 1, 1) := by decide +kernel
theorem d_MA_stepNewArray_69 : decode c_MA_stepNewArray 69 = .ok (.iadd, 1) := by decide +kernel
theorem d_MA_stepNewArray_70 : decode c_MA_stepNewArray 70 = .ok (.putfield 64, 3) := by decide +kernel
theorem d_MA_stepNewArray_73 : decode c_MA_stepNewArray 73 = .ok (.aload_n 0, 1) := by decide +kernel
theorem d_MA_stepNewArray_74 : decode c_MA_stepNewArray 74 = .ok (.iload_n 2, 1) := by decide +kernel
theorem d_MA_stepNewArray_75 : decode c_MA_stepNewArray 75 = .ok (.invokevirtual 174, 3) := by decide +kernel
theorem d_MA_stepNewArray_78 : decode c_MA_stepNewArray 78 = .ok (.aload_n 0, 1) := by decide +kernel
theorem d_MA_stepNewArray_79 : decode c_MA_stepNewArray 79 = .ok (.invokevirtual 171, 3) := by decide +kernel
theorem d_MA_stepNewArray_82 : decode c_MA_stepNewArray 82 = .ok (.return_, 1) := by decide +kernel
theorem d_MA_stepLength_0 : decode c_MA_stepLength 0 = .ok (.iload_n 1, 1) := by decide +kernel
theorem d_MA_stepLength_1 : decode c_MA_stepLength 1 = .ok (.iconst (-1), 1) := by decide +kernel
theorem d_MA_stepLength_2 : decode c_MA_stepLength 2 = .ok (.if_icmp .ne 9, 3) := by decide +kernel
theorem d_MA_stepLength_5 : decode c_MA_stepLength 5 = .ok (.aload_n 0, 1) := by decide +kernel
theorem d_MA_stepLength_6 : decode c_MA_stepLength 6 = .ok (.iconst 2, 1) := by decide +kernel
theorem d_MA_stepLength_7 : decode c_MA_stepLength 7 = .ok (.invokevirtual 187, 3) := by decide +kernel
theorem d_MA_stepLength_10 : decode c_MA_stepLength 10 = .ok (.return_, 1) := by decide +kernel
theorem d_MA_stepLength_11 : decode c_MA_stepLength 11 = .ok (.aload_n 0, 1) := by decide +kernel
theorem d_MA_stepLength_12 : decode c_MA_stepLength 12 = .ok (.aload_n 0, 1) := by decide +kernel
theorem d_MA_stepLength_13 : decode c_MA_stepLength 13 = .ok (.getfield 50, 3) := by decide +kernel
theorem d_MA_stepLength_16 : decode c_MA_stepLength 16 = .ok (.iload_n 1, 1) := by decide +kernel
theorem d_MA_stepLength_17 : decode c_MA_stepLength 17 = .ok (.iaload, 1) := by decide +kernel
theorem d_MA_stepLength_18 : decode c_MA_stepLength 18 = .ok (.invokevirtual 174, 3) := by decide +kernel
theorem d_MA_stepLength_21 : decode c_MA_stepLength 21 = .ok (.aload_n 0, 1) := by decide +kernel
theorem d_MA_stepLength_22 : decode c_MA_stepLength 22 = .ok (.invokevirtual 171, 3) := by decide +kernel
theorem d_MA_stepLength_25 : decode c_MA_stepLength 25 = .ok (.return_, 1) := by decide +kernel
theorem d_MA_stepCall_0 : decode c_MA_stepCall 0 = .ok (.aload_n 0, 1) := by decide +kernel
theorem d_MA_stepCall_1 : decode c_MA_stepCall 1 = .ok (.invokevirtual 89, 3) := by decide +kernel
theorem d_MA_stepCall_4 : decode c_MA_stepCall 4 = .ok (.aload_n 1, 1) := by decide +kernel
theorem d_MA_stepCall_5 : decode c_MA_stepCall 5 = .ok (.invokevirtual 85, 3) := by decide +kernel
theorem d_MA_stepCall_8 : decode c_MA_stepCall 8 = .ok (.iadd, 1) := by decide +kernel
theorem d_MA_stepCall_9 : decode c_MA_stepCall 9 = .ok (.bipush 80, 2) := by decide +kernel
theorem d_MA_stepCall_11 : decode c_MA_stepCall 11 = .ok (.if_icmp .le 10, 3) := by decide +kernel
theorem d_MA_stepCall_14 : decode c_MA_stepCall 14 = .ok (.aload_n 0, 1) := by decide +kernel
theorem d_MA_stepCall_15 : decode c_MA_stepCall 15 = .ok (.bipush 7, 2) := by decide +kernel
theorem d_MA_stepCall_17 : decode c_MA_stepCall 17 = .ok (.invokevirtual 57, 3) := by decide +kernel
theorem d_MA_stepCall_20 : decode c_MA_stepCall 20 = .ok (.return_, 1) := by decide +kernel
theorem d_MA_stepCall_21 : decode c_MA_stepCall 21 = .ok (.aload_n 0, 1) := by decide +kernel
theorem d_MA_stepCall_22 : decode c_MA_stepCall 22 = .ok (.getfield 43, 3) := by decide +kernel
theorem d_MA_stepCall_25 : decode c_MA_stepCall 25 = .ok (.dup, 1) := by decide +kernel
theorem d_MA_stepCall_26 : decode c_MA_stepCall 26 = .ok (.getfield 95, 3) := by decide +kernel
theorem d_MA_stepCall_29 : decode c_MA_stepCall 29 = .ok (.aload_n 1, 1) := by decide +kernel
theorem d_MA_stepCall_30 : decode c_MA_stepCall 30 = .ok (.getfield 71, 3) := by decide +kernel
theorem d_MA_stepCall_33 : decode c_MA_stepCall 33 = .ok (.isub, 1) := by decide +kernel
theorem d_MA_stepCall_34 : decode c_MA_stepCall 34 = .ok (.putfield 95, 3) := by decide +kernel
theorem d_MA_stepCall_37 : decode c_MA_stepCall 37 = .ok (.aload_n 0, 1) := by decide +kernel
theorem d_MA_stepCall_38 : decode c_MA_stepCall 38 = .ok (.getfield 43, 3) := by decide +kernel
theorem d_MA_stepCall_41 : decode c_MA_stepCall 41 = .ok (.invokevirtual 101, 3) := by decide +kernel
theorem d_MA_stepCall_44 : decode c_MA_stepCall 44 = .ok (.aload_n 0, 1) := by decide +kernel
theorem d_MA_stepCall_45 : decode c_MA_stepCall 45 = .ok (.getfield 43, 3) := by decide +kernel
theorem d_MA_stepCall_48 : decode c_MA_stepCall 48 = .ok (.getfield 95, 3) := by decide +kernel
theorem d_MA_stepCall_51 : decode c_MA_stepCall 51 = .ok (.iadd, 1) := by decide +kernel
theorem d_MA_stepCall_52 : decode c_MA_stepCall 52 = .ok (.istore_n 2, 1) := by decide +kernel
theorem d_MA_stepCall_53 : decode c_MA_stepCall 53 = .ok (.aload_n 0, 1) := by decide +kernel
theorem d_MA_stepCall_54 : decode c_MA_stepCall 54 = .ok (.aload_n 1, 1) := by decide +kernel
theorem d_MA_stepCall_55 : decode c_MA_stepCall 55 = .ok (.invokevirtual 67, 3) := by decide +kernel
theorem d_MA_stepCall_58 : decode c_MA_stepCall 58 = .ok (.iconst 0, 1) := by decide +kernel
theorem d_MA_stepCall_59 : decode c_MA_stepCall 59 = .ok (.istore_n 3, 1) := by decide +kernel
theorem d_MA_stepCall_60 : decode c_MA_stepCall 60 = .ok (.iload_n 3, 1) := by decide +kernel
theorem d_MA_stepCall_61 : decode c_MA_stepCall 61 = .ok (.aload_n 1, 1) := by decide +kernel
theorem d_MA_stepCall_62 : decode c_MA_stepCall 62 = .ok (.getfield 71, 3) := by decide +kernel
theorem d_MA_stepCall_65 : decode c_MA_stepCall 65 = .ok (.if_icmp .ge 31, 3) := by decide +kernel
theorem d_MA_stepCall_68 : decode c_MA_stepCall 68 = .ok (.aload_n 0, 1) := by decide +kernel
theorem d_MA_stepCall_69 : decode c_MA_stepCall 69 = .ok (.getfield 22, 3) := by decide +kernel
theorem d_MA_stepCall_72 : decode c_MA_stepCall 72 = .ok (.aload_n 0, 1) := by decide +kernel
theorem d_MA_stepCall_73 : decode c_MA_stepCall 73 = .ok (.getfield 43, 3) := by decide +kernel
theorem d_MA_stepCall_76 : decode c_MA_stepCall 76 = .ok (.getfield 76, 3) := by decide +kernel
theorem d_MA_stepCall_79 : decode c_MA_stepCall 79 = .ok (.iload_n 3, 1) := by decide +kernel
theorem d_MA_stepCall_80 : decode c_MA_stepCall 80 = .ok (.iadd, 1) := by decide +kernel
theorem d_MA_stepCall_81 : decode c_MA_stepCall 81 = .ok (.aload_n 0, 1) := by decide +kernel
theorem d_MA_stepCall_82 : decode c_MA_stepCall 82 = .ok (.getfield 22, 3) := by decide +kernel
theorem d_MA_stepCall_85 : decode c_MA_stepCall 85 = .ok (.iload_n 2, 1) := by decide +kernel
theorem d_MA_stepCall_86 : decode c_MA_stepCall 86 = .ok (.iload_n 3, 1) := by decide +kernel
theorem d_MA_stepCall_87 : decode c_MA_stepCall 87 = .ok (.iadd, 1) := by decide +kernel
theorem d_MA_stepCall_88 : decode c_MA_stepCall 88 = .ok (.iaload, 1) := by decide +kernel
theorem d_MA_stepCall_89 : decode c_MA_stepCall 89 = .ok (.iastore, 1) := by decide +kernel
theorem d_MA_stepCall_90 : decode c_MA_stepCall 90 = .ok (.iinc 3 1, 3) := by decide +kernel
theorem d_MA_stepCall_93 : decode c_MA_stepCall 93 = .ok (.goto (-33), 3) := by decide +kernel
theorem d_MA_stepCall_96 : decode c_MA_stepCall 96 = .ok (.return_, 1) := by decide +kernel
theorem d_MA_leave_0 : decode c_MA_leave 0 = .ok (.aload_n 0, 1) := by decide +kernel
theorem d_MA_leave_1 : decode c_MA_leave 1 = .ok (.getfield 43, 3) := by decide +kernel
theorem d_MA_leave_4 : decode c_MA_leave 4 = .ok (.getfield 39, 3) := by decide +kernel
theorem d_MA_leave_7 : decode c_MA_leave 7 = .ok (.getfield 202, 3) := by decide +kernel
theorem d_MA_leave_10 : decode c_MA_leave 10 = .ok (.istore_n 2, 1) := by decide +kernel
theorem d_MA_leave_11 : decode c_MA_leave 11 = .ok (.aload_n 0, 1) := by decide +kernel
theorem d_MA_leave_12 : decode c_MA_leave 12 = .ok (.invokevirtual 206, 3) := by decide +kernel
theorem d_MA_leave_15 : decode c_MA_leave 15 = .ok (.aload_n 0, 1) := by decide +kernel
theorem d_MA_leave_16 : decode c_MA_leave 16 = .ok (.getfield 82, 3) := by decide +kernel
theorem d_MA_leave_19 : decode c_MA_leave 19 = .ok (.ifCond .ne 14, 3) := by decide +kernel
theorem d_MA_leave_22 : decode c_MA_leave 22 = .ok (.aload_n 0, 1) := by decide +kernel
theorem d_MA_leave_23 : decode c_MA_leave 23 = .ok (.iconst 2, 1) := by decide +kernel
theorem d_MA_leave_24 : decode c_MA_leave 24 = .ok (.invokevirtual 57, 3) := by decide +kernel
theorem d_MA_leave_27 : decode c_MA_leave 27 = .ok (.aload_n 0, 1) := by decide +kernel
theorem d_MA_leave_28 : decode c_MA_leave 28 = .ok (.iload_n 1, 1) := by decide +kernel
theorem d_MA_leave_29 : decode c_MA_leave 29 = .ok (.putfield 79, 3) := by decide +kernel
theorem d_MA_leave_32 : decode c_MA_leave 32 = .ok (.return_, 1) := by decide +kernel
theorem d_MA_leave_33 : decode c_MA_leave 33 = .ok (.iload_n 2, 1) := by decide +kernel
theorem d_MA_leave_34 : decode c_MA_leave 34 = .ok (.ifCond .eq 8, 3) := by decide +kernel
theorem d_MA_leave_37 : decode c_MA_leave 37 = .ok (.aload_n 0, 1) := by decide +kernel
theorem d_MA_leave_38 : decode c_MA_leave 38 = .ok (.iload_n 1, 1) := by decide +kernel
theorem d_MA_leave_39 : decode c_MA_leave 39 = .ok (.invokevirtual 174, 3) := by decide +kernel
theorem d_MA_leave_42 : decode c_MA_leave 42 = .ok (.aload_n 0, 1) := by decide +kernel
theorem d_MA_leave_43 : decode c_MA_leave 43 = .ok (.getfield 43, 3) := by decide +kernel
theorem d_MA_leave_46 : decode c_MA_leave 46 = .ok (.dup, 1) := by decide +kernel
theorem d_MA_leave_47 : decode c_MA_leave 47 = .ok (.getfield 92, 3) := by decide +kernel
theorem d_MA_leave_50 : decode c_MA_leave 50 = .ok (.sipush 184, 3) := by decide +kernel
theorem d_MA_leave_53 : decode c_MA_leave 53 = .ok (.invokestatic 209, 3) := by decide +kernel
theorem d_MA_leave_56 : decode c_MA_leave 56 = .ok (.iadd, 1) := by decide +kernel
theorem d_MA_leave_57 : decode c_MA_leave 57 = .ok (.putfield 92, 3) := by decide +kernel
theorem d_MA_leave_60 : decode c_MA_leave 60 = .ok (.return_, 1) := by decide +kernel
theorem d_MA_moveDup_0 : decode c_MA_moveDup 0 = .ok (.aload_n 0, 1) := by decide +kernel
theorem d_MA_moveDup_1 : decode c_MA_moveDup 1 = .ok (.iload_n 1, 1) := by decide +kernel
theorem d_MA_moveDup_2 : decode c_MA_moveDup 2 = .ok (.invokevirtual 174, 3) := by decide +kernel
theorem d_MA_moveDup_5 : decode c_MA_moveDup 5 = .ok (.aload_n 0, 1) := by decide +kernel
theorem d_MA_moveDup_6 : decode c_MA_moveDup 6 = .ok (.iload_n 1, 1) := by decide +kernel
theorem d_MA_moveDup_7 : decode c_MA_moveDup 7 = .ok (.invokevirtual 174, 3) := by decide +kernel
theorem d_MA_moveDup_10 : decode c_MA_moveDup 10 = .ok (.return_, 1) := by decide +kernel
theorem d_MA_moveSwap_0 : decode c_MA_moveSwap 0 = .ok (.aload_n 0, 1) := by decide +kernel
theorem d_MA_moveSwap_1 : decode c_MA_moveSwap 1 = .ok (.iload_n 1, 1) := by decide +kernel
theorem d_MA_moveSwap_2 : decode c_MA_moveSwap 2 = .ok (.invokevirtual 174, 3) := by decide +kernel
theorem d_MA_moveSwap_5 : decode c_MA_moveSwap 5 = .ok (.aload_n 0, 1) := by decide +kernel
theorem d_MA_moveSwap_6 : decode c_MA_moveSwap 6 = .ok (.iload_n 2, 1) := by decide +kernel
theorem d_MA_moveSwap_7 : decode c_MA_moveSwap 7 = .ok (.invokevirtual 174, 3) := by decide +kernel
theorem d_MA_moveSwap_10 : decode c_MA_moveSwap 10 = .ok (.return_, 1) := by decide +kernel
theorem d_MA_stepMove_0 : decode c_MA_stepMove 0 = .ok (.aload_n 0, 1) := by decide +kernel
theorem d_MA_stepMove_1 : decode c_MA_stepMove 1 = .ok (.getfield 18, 3) := by decide +kernel
theorem d_MA_stepMove_4 : decode c_MA_stepMove 4 = .ok (.getfield 117, 3) := by decide +kernel
theorem d_MA_stepMove_7 : decode c_MA_stepMove 7 = .ok (.lookupswitch 179 #[(1, 73), (17, 81), (87, 95), (89, 103), (95, 114), (116, 129), (178, 141), (179, 160)], 73) := by decide +kernel
theorem d_MA_stepMove_80 : decode c_MA_stepMove 80 = .ok (.aload_n 0, 1) := by decide +kernel
theorem d_MA_stepMove_81 : decode c_MA_stepMove 81 = .ok (.iconst (-1), 1) := by decide +kernel
theorem d_MA_stepMove_82 : decode c_MA_stepMove 82 = .ok (.invokevirtual 174, 3) := by decide +kernel
theorem d_MA_stepMove_85 : decode c_MA_stepMove 85 = .ok (.goto 101, 3) := by decide +kernel
theorem d_MA_stepMove_88 : decode c_MA_stepMove 88 = .ok (.aload_n 0, 1) := by decide +kernel
theorem d_MA_stepMove_89 : decode c_MA_stepMove 89 = .ok (.aload_n 0, 1) := by decide +kernel
theorem d_MA_stepMove_90 : decode c_MA_stepMove 90 = .ok (.getfield 18, 3) := by decide +kernel
theorem d_MA_stepMove_93 : decode c_MA_stepMove 93 = .ok (.getfield 135, 3) := by decide +kernel
theorem d_MA_stepMove_96 : decode c_MA_stepMove 96 = .ok (.invokevirtual 174, 3) := by decide +kernel
theorem d_MA_stepMove_99 : decode c_MA_stepMove 99 = .ok (.goto 87, 3) := by decide +kernel
theorem d_MA_stepMove_102 : decode c_MA_stepMove 102 = .ok (.aload_n 0, 1) := by decide +kernel
theorem d_MA_stepMove_103 : decode c_MA_stepMove 103 = .ok (.invokevirtual 153, 3) := by decide +kernel
theorem d_MA_stepMove_106 : decode c_MA_stepMove 106 = .ok (.pop, 1) := by decide +kernel
theorem d_MA_stepMove_107 : decode c_MA_stepMove 107 = .ok (.goto 79, 3) := by decide +kernel
theorem d_MA_stepMove_110 : decode c_MA_stepMove 110 = .ok (.aload_n 0, 1) := by decide +kernel
theorem d_MA_stepMove_111 : decode c_MA_stepMove 111 = .ok (.aload_n 0, 1) := by decide +kernel
theorem d_MA_stepMove_112 : decode c_MA_stepMove 112 = .ok (.invokevirtual 153, 3) := by decide +kernel
theorem d_MA_stepMove_115 : decode c_MA_stepMove 115 = .ok (.invokevirtual 177, 3) := by decide +kernel
theorem d_MA_stepMove_118 : decode c_MA_stepMove 118 = .ok (.goto 68, 3) := by decide +kernel
theorem d_MA_stepMove_121 : decode c_MA_stepMove 121 = .ok (.aload_n 0, 1) := by decide +kernel
theorem d_MA_stepMove_122 : decode c_MA_stepMove 122 = .ok (.aload_n 0, 1) := by decide +kernel
theorem d_MA_stepMove_123 : decode c_MA_stepMove 123 = .ok (.invokevirtual 153, 3) := by decide +kernel
theorem d_MA_stepMove_126 : decode c_MA_stepMove 126 = .ok (.aload_n 0, 1) := by decide +kernel
theorem d_MA_stepMove_127 : decode c_MA_stepMove 127 = .ok (.invokevirtual 153, 3) := by decide +kernel
theorem d_MA_stepMove_130 : decode c_MA_stepMove 130 = .ok (.invokevirtual 180, 3) := by decide +kernel
theorem d_MA_stepMove_133 : decode c_MA_stepMove 133 = .ok (.goto 53, 3) := by decide +kernel
theorem d_MA_stepMove_136 : decode c_MA_stepMove 136 = .ok (.aload_n 0, 1) := by decide +kernel
theorem d_MA_stepMove_137 : decode c_MA_stepMove 137 = .ok (.aload_n 0, 1) := by decide +kernel
theorem d_MA_stepMove_138 : decode c_MA_stepMove 138 = .ok (.invokevirtual 153, 3) := by decide +kernel
theorem d_MA_stepMove_141 : decode c_MA_stepMove 141 = .ok (.ineg, 1) := by decide +kernel
theorem d_MA_stepMove_142 : decode c_MA_stepMove 142 = .ok (.invokevirtual 174, 3) := by decide +kernel
theorem d_MA_stepMove_145 : decode c_MA_stepMove 145 = .ok (.goto 41, 3) := by decide +kernel
theorem d_MA_stepMove_148 : decode c_MA_stepMove 148 = .ok (.aload_n 0, 1) := by decide +kernel
theorem d_MA_stepMove_149 : decode c_MA_stepMove 149 = .ok (.aload_n 0, 1) := by decide +kernel
theorem d_MA_stepMove_150 : decode c_MA_stepMove 150 = .ok (.getfield 47, 3) := by decide +kernel
theorem d_MA_stepMove_153 : decode c_MA_stepMove 153 = .ok (.aload_n 0, 1) := by decide +kernel
theorem d_MA_stepMove_154 : decode c_MA_stepMove 154 = .ok (.getfield 18, 3) := by decide +kernel
theorem d_MA_stepMove_157 : decode c_MA_stepMove 157 = .ok (.getfield 135, 3) := by decide +kernel
theorem d_MA_stepMove_160 : decode c_MA_stepMove 160 = .ok (.iaload, 1) := by decide +kernel
theorem d_MA_stepMove_161 : decode c_MA_stepMove 161 = .ok (.invokevirtual 174, 3) := by decide +kernel
theorem d_MA_stepMove_164 : decode c_MA_stepMove 164 = .ok (.goto 22, 3) := by decide +kernel
theorem d_MA_stepMove_167 : decode c_MA_stepMove 167 = .ok (.aload_n 0, 1) := by decide +kernel
theorem d_MA_stepMove_168 : decode c_MA_stepMove 168 = .ok (.getfield 47, 3) := by decide +kernel
theorem d_MA_stepMove_171 : decode c_MA_stepMove 171 = .ok (.aload_n 0, 1) := by decide +kernel
theorem d_MA_stepMove_172 : decode c_MA_stepMove 172 = .ok (.getfield 18, 3) := by decide +kernel
theorem d_MA_stepMove_175 : decode c_MA_stepMove 175 = .ok (.getfield 135, 3) := by decide +kernel
theorem d_MA_stepMove_178 : decode c_MA_stepMove 178 = .ok (.aload_n 0, 1) := by decide +kernel
theorem d_MA_stepMove_179 : decode c_MA_stepMove 179 = .ok (.invokevirtual 153, 3) := by decide +kernel
theorem d_MA_stepMove_182 : decode c_MA_stepMove 182 = .ok (.iastore, 1) := by decide +kernel
theorem d_MA_stepMove_183 : decode c_MA_stepMove 183 = .ok (.goto 3, 3) := by decide +kernel
theorem d_MA_stepMove_186 : decode c_MA_stepMove 186 = .ok (.return_, 1) := by decide +kernel
theorem d_MA_stepOther_0 : decode c_MA_stepOther 0 = .ok (.aload_n 0, 1) := by decide +kernel
theorem d_MA_stepOther_1 : decode c_MA_stepOther 1 = .ok (.getfield 18, 3) := by decide +kernel
theorem d_MA_stepOther_4 : decode c_MA_stepOther 4 = .ok (.getfield 117, 3) := by decide +kernel
theorem d_MA_stepOther_7 : decode c_MA_stepOther 7 = .ok (.lookupswitch 142 #[(46, 65), (79, 72), (172, 123), (177, 134), (184, 101), (188, 79), (190, 90)], 65) := by decide +kernel
theorem d_MA_stepOther_72 : decode c_MA_stepOther 72 = .ok (.aload_n 0, 1) := by decide +kernel
theorem d_MA_stepOther_73 : decode c_MA_stepOther 73 = .ok (.invokevirtual 147, 3) := by decide +kernel
theorem d_MA_stepOther_76 : decode c_MA_stepOther 76 = .ok (.goto 81, 3) := by decide +kernel
theorem d_MA_stepOther_79 : decode c_MA_stepOther 79 = .ok (.aload_n 0, 1) := by decide +kernel
theorem d_MA_stepOther_80 : decode c_MA_stepOther 80 = .ok (.invokevirtual 150, 3) := by decide +kernel
theorem d_MA_stepOther_83 : decode c_MA_stepOther 83 = .ok (.goto 74, 3) := by decide +kernel
theorem d_MA_stepOther_86 : decode c_MA_stepOther 86 = .ok (.aload_n 0, 1) := by decide +kernel
theorem d_MA_stepOther_87 : decode c_MA_stepOther 87 = .ok (.aload_n 0, 1) := by decide +kernel
theorem d_MA_stepOther_88 : decode c_MA_stepOther 88 = .ok (.invokevirtual 153, 3) := by decide +kernel
theorem d_MA_stepOther_91 : decode c_MA_stepOther 91 = .ok (.invokevirtual 156, 3) := by decide +kernel
theorem d_MA_stepOther_94 : decode c_MA_stepOther 94 = .ok (.goto 63, 3) := by decide +kernel
theorem d_MA_stepOther_97 : decode c_MA_stepOther 97 = .ok (.aload_n 0, 1) := by decide +kernel
theorem d_MA_stepOther_98 : decode c_MA_stepOther 98 = .ok (.aload_n 0, 1) := by decide +kernel
theorem d_MA_stepOther_99 : decode c_MA_stepOther 99 = .ok (.invokevirtual 153, 3) := by decide +kernel
theorem d_MA_stepOther_102 : decode c_MA_stepOther 102 = .ok (.invokevirtual 159, 3) := by decide +kernel
theorem d_MA_stepOther_105 : decode c_MA_stepOther 105 = .ok (.goto 52, 3) := by decide +kernel
theorem d_MA_stepOther_108 : decode c_MA_stepOther 108 = .ok (.aload_n 0, 1) := by decide +kernel
theorem d_MA_stepOther_109 : decode c_MA_stepOther 109 = .ok (.aload_n 0, 1) := by decide +kernel
theorem d_MA_stepOther_110 : decode c_MA_stepOther 110 = .ok (.getfield 9, 3) := by decide +kernel
theorem d_MA_stepOther_113 : decode c_MA_stepOther 113 = .ok (.getfield 33, 3) := by decide +kernel
theorem d_MA_stepOther_116 : decode c_MA_stepOther 116 = .ok (.aload_n 0, 1) := by decide +kernel
theorem d_MA_stepOther_117 : decode c_MA_stepOther 117 = .ok (.getfield 18, 3) := by decide +kernel
theorem d_MA_stepOther_120 : decode c_MA_stepOther 120 = .ok (.getfield 135, 3) := by decide +kernel
theorem d_MA_stepOther_123 : decode c_MA_stepOther 123 = .ok (.aaload, 1) := by decide +kernel
theorem d_MA_stepOther_124 : decode c_MA_stepOther 124 = .ok (.invokevirtual 162, 3) := by decide +kernel
theorem d_MA_stepOther_127 : decode c_MA_stepOther 127 = .ok (.goto 30, 3) := by decide +kernel
theorem d_MA_stepOther_130 : decode c_MA_stepOther 130 = .ok (.aload_n 0, 1) := by decide +kernel
theorem d_MA_stepOther_131 : decode c_MA_stepOther 131 = .ok (.aload_n 0, 1) := by decide +kernel
theorem d_MA_stepOther_132 : decode c_MA_stepOther 132 = .ok (.invokevirtual 153, 3) := by decide +kernel
theorem d_MA_stepOther_135 : decode c_MA_stepOther 135 = .ok (.invokevirtual 165, 3) := by decide +kernel
theorem d_MA_stepOther_138 : decode c_MA_stepOther 138 = .ok (.goto 19, 3) := by decide +kernel
theorem d_MA_stepOther_141 : decode c_MA_stepOther 141 = .ok (.aload_n 0, 1) := by decide +kernel
theorem d_MA_stepOther_142 : decode c_MA_stepOther 142 = .ok (.iconst 0, 1) := by decide +kernel
theorem d_MA_stepOther_143 : decode c_MA_stepOther 143 = .ok (.invokevirtual 165, 3) := by decide +kernel
theorem d_MA_stepOther_146 : decode c_MA_stepOther 146 = .ok (.goto 11, 3) := by decide +kernel
theorem d_MA_stepOther_149 : decode c_MA_stepOther 149 = .ok (.aload_n 0, 1) := by decide +kernel
theorem d_MA_stepOther_150 : decode c_MA_stepOther 150 = .ok (.invokevirtual 168, 3) := by decide +kernel
theorem d_MA_stepOther_153 : decode c_MA_stepOther 153 = .ok (.aload_n 0, 1) := by decide +kernel
theorem d_MA_stepOther_154 : decode c_MA_stepOther 154 = .ok (.invokevirtual 171, 3) := by decide +kernel
theorem d_MA_stepOther_157 : decode c_MA_stepOther 157 = .ok (.return_, 1) := by decide +kernel
