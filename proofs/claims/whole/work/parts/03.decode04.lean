/-! decode rows; written by wip/whole/gen/methods.py -/
theorem d_MO_holds_0 : decode c_MO_holds 0 = .ok (.iload_n 0, 1) := by decide +kernel
theorem d_MO_holds_1 : decode c_MO_holds 1 = .ok (.ifCond .ne 16, 3) := by decide +kernel
theorem d_MO_holds_4 : decode c_MO_holds 4 = .ok (.iload_n 1, 1) := by decide +kernel
theorem d_MO_holds_5 : decode c_MO_holds 5 = .ok (.iload_n 2, 1) := by decide +kernel
theorem d_MO_holds_6 : decode c_MO_holds 6 = .ok (.if_icmp .ne 7, 3) := by decide +kernel
theorem d_MO_holds_9 : decode c_MO_holds 9 = .ok (.iconst 1, 1) := by decide +kernel
theorem d_MO_holds_10 : decode c_MO_holds 10 = .ok (.goto 89, 3) := by decide +kernel
theorem d_MO_holds_13 : decode c_MO_holds 13 = .ok (.iconst 0, 1) := by decide +kernel
theorem d_MO_holds_14 : decode c_MO_holds 14 = .ok (.goto 85, 3) := by decide +kernel
theorem d_MO_holds_17 : decode c_MO_holds 17 = .ok (.iload_n 0, 1) := by decide +kernel
theorem d_MO_holds_18 : decode c_MO_holds 18 = .ok (.iconst 1, 1) := by decide +kernel
theorem d_MO_holds_19 : decode c_MO_holds 19 = .ok (.if_icmp .ne 16, 3) := by decide +kernel
theorem d_MO_holds_22 : decode c_MO_holds 22 = .ok (.iload_n 1, 1) := by decide +kernel
theorem d_MO_holds_23 : decode c_MO_holds 23 = .ok (.iload_n 2, 1) := by decide +kernel
theorem d_MO_holds_24 : decode c_MO_holds 24 = .ok (.if_icmp .eq 7, 3) := by decide +kernel
theorem d_MO_holds_27 : decode c_MO_holds 27 = .ok (.iconst 1, 1) := by decide +kernel
theorem d_MO_holds_28 : decode c_MO_holds 28 = .ok (.goto 71, 3) := by decide +kernel
theorem d_MO_holds_31 : decode c_MO_holds 31 = .ok (.iconst 0, 1) := by decide +kernel
theorem d_MO_holds_32 : decode c_MO_holds 32 = .ok (.goto 67, 3) := by decide +kernel
theorem d_MO_holds_35 : decode c_MO_holds 35 = .ok (.iload_n 0, 1) := by decide +kernel
theorem d_MO_holds_36 : decode c_MO_holds 36 = .ok (.iconst 2, 1) := by decide +kernel
theorem d_MO_holds_37 : decode c_MO_holds 37 = .ok (.if_icmp .ne 16, 3) := by decide +kernel
theorem d_MO_holds_40 : decode c_MO_holds 40 = .ok (.iload_n 1, 1) := by decide +kernel
theorem d_MO_holds_41 : decode c_MO_holds 41 = .ok (.iload_n 2, 1) := by decide +kernel
theorem d_MO_holds_42 : decode c_MO_holds 42 = .ok (.if_icmp .ge 7, 3) := by decide +kernel
theorem d_MO_holds_45 : decode c_MO_holds 45 = .ok (.iconst 1, 1) := by decide +kernel
theorem d_MO_holds_46 : decode c_MO_holds 46 = .ok (.goto 53, 3) := by decide +kernel
theorem d_MO_holds_49 : decode c_MO_holds 49 = .ok (.iconst 0, 1) := by decide +kernel
theorem d_MO_holds_50 : decode c_MO_holds 50 = .ok (.goto 49, 3) := by decide +kernel
theorem d_MO_holds_53 : decode c_MO_holds 53 = .ok (.iload_n 0, 1) := by decide +kernel
theorem d_MO_holds_54 : decode c_MO_holds 54 = .ok (.iconst 3, 1) := by decide +kernel
theorem d_MO_holds_55 : decode c_MO_holds 55 = .ok (.if_icmp .ne 16, 3) := by decide +kernel
theorem d_MO_holds_58 : decode c_MO_holds 58 = .ok (.iload_n 1, 1) := by decide +kernel
theorem d_MO_holds_59 : decode c_MO_holds 59 = .ok (.iload_n 2, 1) := by decide +kernel
theorem d_MO_holds_60 : decode c_MO_holds 60 = .ok (.if_icmp .lt 7, 3) := by decide +kernel
theorem d_MO_holds_63 : decode c_MO_holds 63 = .ok (.iconst 1, 1) := by decide +kernel
theorem d_MO_holds_64 : decode c_MO_holds 64 = .ok (.goto 35, 3) := by decide +kernel
theorem d_MO_holds_67 : decode c_MO_holds 67 = .ok (.iconst 0, 1) := by decide +kernel
theorem d_MO_holds_68 : decode c_MO_holds 68 = .ok (.goto 31, 3) := by decide +kernel
theorem d_MO_holds_71 : decode c_MO_holds 71 = .ok (.iload_n 0, 1) := by decide +kernel
theorem d_MO_holds_72 : decode c_MO_holds 72 = .ok (.iconst 4, 1) := by decide +kernel
theorem d_MO_holds_73 : decode c_MO_holds 73 = .ok (.if_icmp .ne 16, 3) := by decide +kernel
theorem d_MO_holds_76 : decode c_MO_holds 76 = .ok (.iload_n 1, 1) := by decide +kernel
theorem d_MO_holds_77 : decode c_MO_holds 77 = .ok (.iload_n 2, 1) := by decide +kernel
theorem d_MO_holds_78 : decode c_MO_holds 78 = .ok (.if_icmp .le 7, 3) := by decide +kernel
theorem d_MO_holds_81 : decode c_MO_holds 81 = .ok (.iconst 1, 1) := by decide +kernel
theorem d_MO_holds_82 : decode c_MO_holds 82 = .ok (.goto 17, 3) := by decide +kernel
theorem d_MO_holds_85 : decode c_MO_holds 85 = .ok (.iconst 0, 1) := by decide +kernel
theorem d_MO_holds_86 : decode c_MO_holds 86 = .ok (.goto 13, 3) := by decide +kernel
theorem d_MO_holds_89 : decode c_MO_holds 89 = .ok (.iload_n 1, 1) := by decide +kernel
theorem d_MO_holds_90 : decode c_MO_holds 90 = .ok (.iload_n 2, 1) := by decide +kernel
theorem d_MO_holds_91 : decode c_MO_holds 91 = .ok (.if_icmp .gt 7, 3) := by decide +kernel
theorem d_MO_holds_94 : decode c_MO_holds 94 = .ok (.iconst 1, 1) := by decide +kernel
theorem d_MO_holds_95 : decode c_MO_holds 95 = .ok (.goto 4, 3) := by decide +kernel
theorem d_MO_holds_98 : decode c_MO_holds 98 = .ok (.iconst 0, 1) := by decide +kernel
theorem d_MO_holds_99 : decode c_MO_holds 99 = .ok (.ireturn, 1) := by decide +kernel
theorem d_MO_jumps_0 : decode c_MO_jumps 0 = .ok (.iload_n 1, 1) := by decide +kernel
theorem d_MO_jumps_1 : decode c_MO_jumps 1 = .ok (.sipush 167, 3) := by decide +kernel
theorem d_MO_jumps_4 : decode c_MO_jumps 4 = .ok (.if_icmp .ne 5, 3) := by decide +kernel
theorem d_MO_jumps_7 : decode c_MO_jumps 7 = .ok (.iconst 1, 1) := by decide +kernel
theorem d_MO_jumps_8 : decode c_MO_jumps 8 = .ok (.ireturn, 1) := by decide +kernel
theorem d_MO_jumps_9 : decode c_MO_jumps 9 = .ok (.iload_n 1, 1) := by decide +kernel
theorem d_MO_jumps_10 : decode c_MO_jumps 10 = .ok (.sipush 167, 3) := by decide +kernel
theorem d_MO_jumps_13 : decode c_MO_jumps 13 = .ok (.if_icmp .le 36, 3) := by decide +kernel
theorem d_MO_jumps_16 : decode c_MO_jumps 16 = .ok (.aload_n 0, 1) := by decide +kernel
theorem d_MO_jumps_17 : decode c_MO_jumps 17 = .ok (.invokevirtual 211, 3) := by decide +kernel
theorem d_MO_jumps_20 : decode c_MO_jumps 20 = .ok (.ifCond .ge 7, 3) := by decide +kernel
theorem d_MO_jumps_23 : decode c_MO_jumps 23 = .ok (.iconst 1, 1) := by decide +kernel
theorem d_MO_jumps_24 : decode c_MO_jumps 24 = .ok (.goto 4, 3) := by decide +kernel
theorem d_MO_jumps_27 : decode c_MO_jumps 27 = .ok (.iconst 0, 1) := by decide +kernel
theorem d_MO_jumps_28 : decode c_MO_jumps 28 = .ok (.iload_n 1, 1) := by decide +kernel
theorem d_MO_jumps_29 : decode c_MO_jumps 29 = .ok (.sipush 198, 3) := by decide +kernel
theorem d_MO_jumps_32 : decode c_MO_jumps 32 = .ok (.if_icmp .ne 7, 3) := by decide +kernel
theorem d_MO_jumps_35 : decode c_MO_jumps 35 = .ok (.iconst 1, 1) := by decide +kernel
theorem d_MO_jumps_36 : decode c_MO_jumps 36 = .ok (.goto 4, 3) := by decide +kernel
theorem d_MO_jumps_39 : decode c_MO_jumps 39 = .ok (.iconst 0, 1) := by decide +kernel
theorem d_MO_jumps_40 : decode c_MO_jumps 40 = .ok (.if_icmp .ne 7, 3) := by decide +kernel
theorem d_MO_jumps_43 : decode c_MO_jumps 43 = .ok (.iconst 1, 1) := by decide +kernel
theorem d_MO_jumps_44 : decode c_MO_jumps 44 = .ok (.goto 4, 3) := by decide +kernel
theorem d_MO_jumps_47 : decode c_MO_jumps 47 = .ok (.iconst 0, 1) := by decide +kernel
theorem d_MO_jumps_48 : decode c_MO_jumps 48 = .ok (.ireturn, 1) := by decide +kernel
theorem d_MO_jumps_49 : decode c_MO_jumps 49 = .ok (.iload_n 1, 1) := by decide +kernel
theorem d_MO_jumps_50 : decode c_MO_jumps 50 = .ok (.sipush 159, 3) := by decide +kernel
theorem d_MO_jumps_53 : decode c_MO_jumps 53 = .ok (.if_icmp .ge 7, 3) := by decide +kernel
theorem d_MO_jumps_56 : decode c_MO_jumps 56 = .ok (.iconst 0, 1) := by decide +kernel
theorem d_MO_jumps_57 : decode c_MO_jumps 57 = .ok (.goto 7, 3) := by decide +kernel
theorem d_MO_jumps_60 : decode c_MO_jumps 60 = .ok (.aload_n 0, 1) := by decide +kernel
theorem d_MO_jumps_61 : decode c_MO_jumps 61 = .ok (.invokevirtual 211, 3) := by decide +kernel
theorem d_MO_jumps_64 : decode c_MO_jumps 64 = .ok (.istore_n 2, 1) := by decide +kernel
theorem d_MO_jumps_65 : decode c_MO_jumps 65 = .ok (.aload_n 0, 1) := by decide +kernel
theorem d_MO_jumps_66 : decode c_MO_jumps 66 = .ok (.invokevirtual 211, 3) := by decide +kernel
theorem d_MO_jumps_69 : decode c_MO_jumps 69 = .ok (.istore_n 3, 1) := by decide +kernel
theorem d_MO_jumps_70 : decode c_MO_jumps 70 = .ok (.iload_n 1, 1) := by decide +kernel
theorem d_MO_jumps_71 : decode c_MO_jumps 71 = .ok (.sipush 159, 3) := by decide +kernel
theorem d_MO_jumps_74 : decode c_MO_jumps 74 = .ok (.if_icmp .ge 16, 3) := by decide +kernel
theorem d_MO_jumps_77 : decode c_MO_jumps 77 = .ok (.iload_n 1, 1) := by decide +kernel
theorem d_MO_jumps_78 : decode c_MO_jumps 78 = .ok (.sipush 153, 3) := by decide +kernel
theorem d_MO_jumps_81 : decode c_MO_jumps 81 = .ok (.isub, 1) := by decide +kernel
theorem d_MO_jumps_82 : decode c_MO_jumps 82 = .ok (.iload_n 3, 1) := by decide +kernel
theorem d_MO_jumps_83 : decode c_MO_jumps 83 = .ok (.iconst 0, 1) := by decide +kernel
theorem d_MO_jumps_84 : decode c_MO_jumps 84 = .ok (.invokestatic 214, 3) := by decide +kernel
theorem d_MO_jumps_87 : decode c_MO_jumps 87 = .ok (.goto 33, 3) := by decide +kernel
theorem d_MO_jumps_90 : decode c_MO_jumps 90 = .ok (.iload_n 1, 1) := by decide +kernel
theorem d_MO_jumps_91 : decode c_MO_jumps 91 = .ok (.sipush 165, 3) := by decide +kernel
theorem d_MO_jumps_94 : decode c_MO_jumps 94 = .ok (.if_icmp .ge 16, 3) := by decide +kernel
theorem d_MO_jumps_97 : decode c_MO_jumps 97 = .ok (.iload_n 1, 1) := by decide +kernel
theorem d_MO_jumps_98 : decode c_MO_jumps 98 = .ok (.sipush 159, 3) := by decide +kernel
theorem d_MO_jumps_101 : decode c_MO_jumps 101 = .ok (.isub, 1) := by decide +kernel
theorem d_MO_jumps_102 : decode c_MO_jumps 102 = .ok (.iload_n 3, 1) := by decide +kernel
theorem d_MO_jumps_103 : decode c_MO_jumps 103 = .ok (.iload_n 2, 1) := by decide +kernel
theorem d_MO_jumps_104 : decode c_MO_jumps 104 = .ok (.invokestatic 214, 3) := by decide +kernel
theorem d_MO_jumps_107 : decode c_MO_jumps 107 = .ok (.goto 13, 3) := by decide +kernel
theorem d_MO_jumps_110 : decode c_MO_jumps 110 = .ok (.iload_n 1, 1) := by decide +kernel
theorem d_MO_jumps_111 : decode c_MO_jumps 111 = .ok (.sipush 165, 3) := by decide +kernel
theorem d_MO_jumps_114 : decode c_MO_jumps 114 = .ok (.isub, 1) := by decide +kernel
theorem d_MO_jumps_115 : decode c_MO_jumps 115 = .ok (.iload_n 3, 1) := by decide +kernel
theorem d_MO_jumps_116 : decode c_MO_jumps 116 = .ok (.iload_n 2, 1) := by decide +kernel
theorem d_MO_jumps_117 : decode c_MO_jumps 117 = .ok (.invokestatic 214, 3) := by decide +kernel
theorem d_MO_jumps_120 : decode c_MO_jumps 120 = .ok (.ireturn, 1) := by decide +kernel
theorem d_MO_arrays_0 : decode c_MO_arrays 0 = .ok (.iload_n 1, 1) := by decide +kernel
theorem d_MO_arrays_1 : decode c_MO_arrays 1 = .ok (.bipush 79, 2) := by decide +kernel
theorem d_MO_arrays_3 : decode c_MO_arrays 3 = .ok (.if_icmp .ne 10, 3) := by decide +kernel
theorem d_MO_arrays_6 : decode c_MO_arrays 6 = .ok (.aload_n 0, 1) := by decide +kernel
theorem d_MO_arrays_7 : decode c_MO_arrays 7 = .ok (.invokevirtual 211, 3) := by decide +kernel
theorem d_MO_arrays_10 : decode c_MO_arrays 10 = .ok (.goto 4, 3) := by decide +kernel
theorem d_MO_arrays_13 : decode c_MO_arrays 13 = .ok (.iconst 0, 1) := by decide +kernel
theorem d_MO_arrays_14 : decode c_MO_arrays 14 = .ok (.istore_n 2, 1) := by decide +kernel
theorem d_MO_arrays_15 : decode c_MO_arrays 15 = .ok (.iload_n 1, 1) := by decide +kernel
theorem d_MO_arrays_16 : decode c_MO_arrays 16 = .ok (.sipush 190, 3) := by decide +kernel
theorem d_MO_arrays_19 : decode c_MO_arrays 19 = .ok (.if_icmp .ne 7, 3) := by decide +kernel
theorem d_MO_arrays_22 : decode c_MO_arrays 22 = .ok (.iconst 0, 1) := by decide +kernel
theorem d_MO_arrays_23 : decode c_MO_arrays 23 = .ok (.goto 7, 3) := by decide +kernel
theorem d_MO_arrays_26 : decode c_MO_arrays 26 = .ok (.aload_n 0, 1) := by decide +kernel
theorem d_MO_arrays_27 : decode c_MO_arrays 27 = .ok (.invokevirtual 211, 3) := by decide +kernel
theorem d_MO_arrays_30 : decode c_MO_arrays 30 = .ok (.istore_n 3, 1) := by decide +kernel
theorem d_MO_arrays_31 : decode c_MO_arrays 31 = .ok (.iload_n 1, 1) := by decide +kernel
theorem d_MO_arrays_32 : decode c_MO_arrays 32 = .ok (.sipush 188, 3) := by decide +kernel
theorem d_MO_arrays_35 : decode c_MO_arrays 35 = .ok (.if_icmp .ne 94, 3) := by decide +kernel
theorem d_MO_arrays_38 : decode c_MO_arrays 38 = .ok (.iload_n 3, 1) := by decide +kernel
theorem d_MO_arrays_39 : decode c_MO_arrays 39 = .ok (.ifCond .ge 11, 3) := by decide +kernel
theorem d_MO_arrays_42 : decode c_MO_arrays 42 = .ok (.aload_n 0, 1) := by decide +kernel
theorem d_MO_arrays_43 : decode c_MO_arrays 43 = .ok (.bipush 6, 2) := by decide +kernel
theorem d_MO_arrays_45 : decode c_MO_arrays 45 = .ok (.invokevirtual 217, 3) := by decide +kernel
theorem d_MO_arrays_48 : decode c_MO_arrays 48 = .ok (.iconst 0, 1) := by decide +kernel
theorem d_MO_arrays_49 : decode c_MO_arrays 49 = .ok (.ireturn, 1) := by decide +kernel
theorem d_MO_arrays_50 : decode c_MO_arrays 50 = .ok (.iload_n 3, 1) := by decide +kernel
theorem d_MO_arrays_51 : decode c_MO_arrays 51 = .ok (.bipush 120, 2) := by decide +kernel
theorem d_MO_arrays_53 : decode c_MO_arrays 53 = .ok (.aload_n 0, 1) := by decide +kernel
theorem d_MO_arrays_54 : decode c_MO_arrays 54 = .ok (.getfield 185, 3) := by decide +kernel
theorem d_MO_arrays_57 : decode c_MO_arrays 57 = .ok (.isub, 1) := by decide +kernel
theorem d_MO_arrays_58 : decode c_MO_arrays 58 = .ok (.if_icmp .lt 11, 3) := by decide +kernel
theorem d_MO_arrays_61 : decode c_MO_arrays 61 = .ok (.aload_n 0, 1) := by decide +kernel
theorem d_MO_arrays_62 : decode c_MO_arrays 62 = .ok (.bipush 8, 2) := by decide +kernel
theorem d_MO_arrays_64 : decode c_MO_arrays 64 = .ok (.invokevirtual 208, 3) := by decide +kernel
theorem d_MO_arrays_67 : decode c_MO_arrays 67 = .ok (.iconst 0, 1) := by decide +kernel
theorem d_MO_arrays_68 : decode c_MO_arrays 68 = .ok (.ireturn, 1) := by decide +kernel
theorem d_MO_arrays_69 : decode c_MO_arrays 69 = .ok (.aload_n 0, 1) := by decide +kernel
theorem d_MO_arrays_70 : decode c_MO_arrays 70 = .ok (.aload_n 0, 1) := by decide +kernel
theorem d_MO_arrays_71 : decode c_MO_arrays 71 = .ok (.getfield 185, 3) := by decide +kernel
theorem d_MO_arrays_74 : decode c_MO_arrays 74 = .ok (.invokevirtual 201, 3) := by decide +kernel
theorem d_MO_arrays_77 : decode c_MO_arrays 77 = .ok (.aload_n 0, 1) := by decide +kernel
theorem d_MO_arrays_78 : decode c_MO_arrays 78 = .ok (.getfield 72, 3) := by decide +kernel
theorem d_MO_arrays_81 : decode c_MO_arrays 81 = .ok (.aload_n 0, 1) := by decide +kernel
theorem d_MO_arrays_82 : decode c_MO_arrays 82 = .ok (.getfield 185, 3) := by decide +kernel
theorem d_MO_arrays_85 : decode c_MO_arrays 85 = .ok (.iload_n 3, 1) := by decide +kernel
theorem d_MO_arrays_86 : decode c_MO_arrays 86 = .ok (.iastore, 1) := by decide +kernel
theorem d_MO_arrays_87 : decode c_MO_arrays 87 = .ok (.iconst 1, 1) := by decide +kernel
theorem d_MO_arrays_88 : decode c_MO_arrays 88 = .ok (.istore 4, 2) := by decide +kernel
theorem d_MO_arrays_90 : decode c_MO_arrays 90 = .ok (.iload 4, 2) := by decide +kernel
theorem d_MO_arrays_92 : decode c_MO_arrays 92 = .ok (.iload_n 3, 1) := by decide +kernel
theorem d_MO_arrays_93 : decode c_MO_arrays 93 = .ok (.if_icmp .gt 22, 3) := by decide +kernel
theorem d_MO_arrays_96 : decode c_MO_arrays 96 = .ok (.aload_n 0, 1) := by decide +kernel
theorem d_MO_arrays_97 : decode c_MO_arrays 97 = .ok (.getfield 72, 3) := by decide +kernel
theorem d_MO_arrays_100 : decode c_MO_arrays 100 = .ok (.aload_n 0, 1) := by decide +kernel
theorem d_MO_arrays_101 : decode c_MO_arrays 101 = .ok (.getfield 185, 3) := by decide +kernel
theorem d_MO_arrays_104 : decode c_MO_arrays 104 = .ok (.iload 4, 2) := by decide +kernel
theorem d_MO_arrays_106 : decode c_MO_arrays 106 = .ok (.iadd, 1) := by decide +kernel
theorem d_MO_arrays_107 : decode c_MO_arrays 107 = .ok (.iconst 0, 1) := by decide +kernel
theorem d_MO_arrays_108 : decode c_MO_arrays 108 = .ok (.iastore, 1) := by decide +kernel
theorem d_MO_arrays_109 : decode c_MO_arrays 109 = .ok (.iinc 4 1, 3) := by decide +kernel
theorem d_MO_arrays_112 : decode c_MO_arrays 112 = .ok (.goto (-22), 3) := by decide +kernel
theorem d_MO_arrays_115 : decode c_MO_arrays 115 = .ok (.aload_n 0, 1) := by decide +kernel
theorem d_MO_arrays_116 : decode c_MO_arrays 116 = .ok (.dup, 1) := by decide +kernel
theorem d_MO_arrays_117 : decode c_MO_arrays 117 = .ok (.getfield 185, 3) := by decide +kernel
theorem d_MO_arrays_120 : decode c_MO_arrays 120 = .ok (.iload_n 3, 1) := by decide +kernel
theorem d_MO_arrays_121 : decode c_MO_arrays 121 = .ok (.iconst 1, 1) := by decide +kernel
theorem d_MO_arrays_122 : decode c_MO_arrays 122 = .ok (.iadd, 1) := by decide +kernel
theorem d_MO_arrays_123 : decode c_MO_arrays 123 = .ok (.iadd, 1) := by decide +kernel
theorem d_MO_arrays_124 : decode c_MO_arrays 124 = .ok (.putfield 185, 3) := by decide +kernel
theorem d_MO_arrays_127 : decode c_MO_arrays 127 = .ok (.iconst 1, 1) := by decide +kernel
theorem d_MO_arrays_128 : decode c_MO_arrays 128 = .ok (.ireturn, 1) := by decide +kernel
theorem d_MO_arrays_129 : decode c_MO_arrays 129 = .ok (.aload_n 0, 1) := by decide +kernel
theorem d_MO_arrays_130 : decode c_MO_arrays 130 = .ok (.invokevirtual 211, 3) := by decide +kernel
theorem d_MO_arrays_133 : decode c_MO_arrays 133 = .ok (.istore 4, 2) := by decide +kernel
theorem d_MO_arrays_135 : decode c_MO_arrays 135 = .ok (.iload 4, 2) := by decide +kernel
theorem d_MO_arrays_137 : decode c_MO_arrays 137 = .ok (.ifCond .ge 7, 3) := by decide +kernel
theorem d_MO_arrays_140 : decode c_MO_arrays 140 = .ok (.iconst 4, 1) := by decide +kernel
theorem d_MO_arrays_141 : decode c_MO_arrays 141 = .ok (.goto 32, 3) := by decide +kernel
theorem d_MO_arrays_144 : decode c_MO_arrays 144 = .ok (.iload_n 1, 1) := by decide +kernel
theorem d_MO_arrays_145 : decode c_MO_arrays 145 = .ok (.sipush 190, 3) := by decide +kernel
theorem d_MO_arrays_148 : decode c_MO_arrays 148 = .ok (.if_icmp .eq 24, 3) := by decide +kernel
theorem d_MO_arrays_151 : decode c_MO_arrays 151 = .ok (.iload_n 3, 1) := by decide +kernel
theorem d_MO_arrays_152 : decode c_MO_arrays 152 = .ok (.iconst 0, 1) := by decide +kernel
theorem d_MO_arrays_153 : decode c_MO_arrays 153 = .ok (.aload_n 0, 1) := by decide +kernel
theorem d_MO_arrays_154 : decode c_MO_arrays 154 = .ok (.getfield 72, 3) := by decide +kernel
theorem d_MO_arrays_157 : decode c_MO_arrays 157 = .ok (.iload 4, 2) := by decide +kernel
theorem d_MO_arrays_159 : decode c_MO_arrays 159 = .ok (.iaload, 1) := by decide +kernel
theorem d_MO_arrays_160 : decode c_MO_arrays 160 = .ok (.iconst 1, 1) := by decide +kernel
theorem d_MO_arrays_161 : decode c_MO_arrays 161 = .ok (.isub, 1) := by decide +kernel
theorem d_MO_arrays_162 : decode c_MO_arrays 162 = .ok (.invokestatic 100, 3) := by decide +kernel
theorem d_MO_arrays_165 : decode c_MO_arrays 165 = .ok (.ifCond .ne 7, 3) := by decide +kernel
theorem d_MO_arrays_168 : decode c_MO_arrays 168 = .ok (.iconst 5, 1) := by decide +kernel
theorem d_MO_arrays_169 : decode c_MO_arrays 169 = .ok (.goto 4, 3) := by decide +kernel
theorem d_MO_arrays_172 : decode c_MO_arrays 172 = .ok (.iconst 0, 1) := by decide +kernel
theorem d_MO_arrays_173 : decode c_MO_arrays 173 = .ok (.istore 5, 2) := by decide +kernel
theorem d_MO_arrays_175 : decode c_MO_arrays 175 = .ok (.iload 5, 2) := by decide +kernel
theorem d_MO_arrays_177 : decode c_MO_arrays 177 = .ok (.ifCond .le 11, 3) := by decide +kernel
theorem d_MO_arrays_180 : decode c_MO_arrays 180 = .ok (.aload_n 0, 1) := by decide +kernel
theorem d_MO_arrays_181 : decode c_MO_arrays 181 = .ok (.iload 5, 2) := by decide +kernel
theorem d_MO_arrays_183 : decode c_MO_arrays 183 = .ok (.invokevirtual 217, 3) := by decide +kernel
theorem d_MO_arrays_186 : decode c_MO_arrays 186 = .ok (.iconst 0, 1) := by decide +kernel
theorem d_MO_arrays_187 : decode c_MO_arrays 187 = .ok (.ireturn, 1) := by decide +kernel
theorem d_MO_arrays_188 : decode c_MO_arrays 188 = .ok (.iload_n 1, 1) := by decide +kernel
theorem d_MO_arrays_189 : decode c_MO_arrays 189 = .ok (.sipush 190, 3) := by decide +kernel
theorem d_MO_arrays_192 : decode c_MO_arrays 192 = .ok (.if_icmp .ne 17, 3) := by decide +kernel
theorem d_MO_arrays_195 : decode c_MO_arrays 195 = .ok (.aload_n 0, 1) := by decide +kernel
theorem d_MO_arrays_196 : decode c_MO_arrays 196 = .ok (.aload_n 0, 1) := by decide +kernel
theorem d_MO_arrays_197 : decode c_MO_arrays 197 = .ok (.getfield 72, 3) := by decide +kernel
theorem d_MO_arrays_200 : decode c_MO_arrays 200 = .ok (.iload 4, 2) := by decide +kernel
theorem d_MO_arrays_202 : decode c_MO_arrays 202 = .ok (.iaload, 1) := by decide +kernel
theorem d_MO_arrays_203 : decode c_MO_arrays 203 = .ok (.invokevirtual 201, 3) := by decide +kernel
theorem d_MO_arrays_206 : decode c_MO_arrays 206 = .ok (.goto 39, 3) := by decide +kernel
theorem d_MO_arrays_209 : decode c_MO_arrays 209 = .ok (.iload_n 1, 1) := by decide +kernel
theorem d_MO_arrays_210 : decode c_MO_arrays 210 = .ok (.bipush 46, 2) := by decide +kernel
theorem d_MO_arrays_212 : decode c_MO_arrays 212 = .ok (.if_icmp .ne 21, 3) := by decide +kernel
theorem d_MO_arrays_215 : decode c_MO_arrays 215 = .ok (.aload_n 0, 1) := by decide +kernel
theorem d_MO_arrays_216 : decode c_MO_arrays 216 = .ok (.aload_n 0, 1) := by decide +kernel
theorem d_MO_arrays_217 : decode c_MO_arrays 217 = .ok (.getfield 72, 3) := by decide +kernel
theorem d_MO_arrays_220 : decode c_MO_arrays 220 = .ok (.iload 4, 2) := by decide +kernel
theorem d_MO_arrays_222 : decode c_MO_arrays 222 = .ok (.iconst 1, 1) := by decide +kernel
theorem d_MO_arrays_223 : decode c_MO_arrays 223 = .ok (.iadd, 1) := by decide +kernel
theorem d_MO_arrays_224 : decode c_MO_arrays 224 = .ok (.iload_n 3, 1) := by decide +kernel
theorem d_MO_arrays_225 : decode c_MO_arrays 225 = .ok (.iadd, 1) := by decide +kernel
theorem d_MO_arrays_226 : decode c_MO_arrays 226 = .ok (.iaload, 1) := by decide +kernel
theorem d_MO_arrays_227 : decode c_MO_arrays 227 = .ok (.invokevirtual 201, 3) := by decide +kernel
theorem d_MO_arrays_230 : decode c_MO_arrays 230 = .ok (.goto 15, 3) := by decide +kernel
theorem d_MO_arrays_233 : decode c_MO_arrays 233 = .ok (.aload_n 0, 1) := by decide +kernel
theorem d_MO_arrays_234 : decode c_MO_arrays 234 = .ok (.getfield 72, 3) := by decide +kernel
theorem d_MO_arrays_237 : decode c_MO_arrays 237 = .ok (.iload 4, 2) := by decide +kernel
theorem d_MO_arrays_239 : decode c_MO_arrays 239 = .ok (.iconst 1, 1) := by decide +kernel
theorem d_MO_arrays_240 : decode c_MO_arrays 240 = .ok (.iadd, 1) := by decide +kernel
theorem d_MO_arrays_241 : decode c_MO_arrays 241 = .ok (.iload_n 3, 1) := by decide +kernel
theorem d_MO_arrays_242 : decode c_MO_arrays 242 = .ok (.iadd, 1) := by decide +kernel
theorem d_MO_arrays_243 : decode c_MO_arrays 243 = .ok (.iload_n 2, 1) := by decide +kernel
theorem d_MO_arrays_244 : decode c_MO_arrays 244 = .ok (.iastore, 1) := by decide +kernel
theorem d_MO_arrays_245 : decode c_MO_arrays 245 = .ok (.iconst 1, 1) := by decide +kernel
theorem d_MO_arrays_246 : decode c_MO_arrays 246 = .ok (.ireturn, 1) := by decide +kernel
theorem d_MO_moves_0 : decode c_MO_moves 0 = .ok (.aload_n 0, 1) := by decide +kernel
theorem d_MO_moves_1 : decode c_MO_moves 1 = .ok (.iload_n 2, 1) := by decide +kernel
theorem d_MO_moves_2 : decode c_MO_moves 2 = .ok (.invokevirtual 122, 3) := by decide +kernel
theorem d_MO_moves_5 : decode c_MO_moves 5 = .ok (.istore_n 3, 1) := by decide +kernel
theorem d_MO_moves_6 : decode c_MO_moves 6 = .ok (.aload_n 0, 1) := by decide +kernel
theorem d_MO_moves_7 : decode c_MO_moves 7 = .ok (.getfield 87, 3) := by decide +kernel
theorem d_MO_moves_10 : decode c_MO_moves 10 = .ok (.aload_n 0, 1) := by decide +kernel
theorem d_MO_moves_11 : decode c_MO_moves 11 = .ok (.invokevirtual 194, 3) := by decide +kernel
theorem d_MO_moves_14 : decode c_MO_moves 14 = .ok (.iaload, 1) := by decide +kernel
theorem d_MO_moves_15 : decode c_MO_moves 15 = .ok (.iload_n 3, 1) := by decide +kernel
theorem d_MO_moves_16 : decode c_MO_moves 16 = .ok (.iadd, 1) := by decide +kernel
theorem d_MO_moves_17 : decode c_MO_moves 17 = .ok (.istore 4, 2) := by decide +kernel
theorem d_MO_moves_19 : decode c_MO_moves 19 = .ok (.iload_n 1, 1) := by decide +kernel
theorem d_MO_moves_20 : decode c_MO_moves 20 = .ok (.bipush 9, 2) := by decide +kernel
theorem d_MO_moves_22 : decode c_MO_moves 22 = .ok (.if_icmp .ge 22, 3) := by decide +kernel
theorem d_MO_moves_25 : decode c_MO_moves 25 = .ok (.aload_n 0, 1) := by decide +kernel
theorem d_MO_moves_26 : decode c_MO_moves 26 = .ok (.iload_n 1, 1) := by decide +kernel
theorem d_MO_moves_27 : decode c_MO_moves 27 = .ok (.iconst 1, 1) := by decide +kernel
theorem d_MO_moves_28 : decode c_MO_moves 28 = .ok (.if_icmp .ne 7, 3) := by decide +kernel
theorem d_MO_moves_31 : decode c_MO_moves 31 = .ok (.iconst (-1), 1) := by decide +kernel
theorem d_MO_moves_32 : decode c_MO_moves 32 = .ok (.goto 6, 3) := by decide +kernel
theorem d_MO_moves_35 : decode c_MO_moves 35 = .ok (.iload_n 1, 1) := by decide +kernel
theorem d_MO_moves_36 : decode c_MO_moves 36 = .ok (.iconst 3, 1) := by decide +kernel
theorem d_MO_moves_37 : decode c_MO_moves 37 = .ok (.isub, 1) := by decide +kernel
theorem d_MO_moves_38 : decode c_MO_moves 38 = .ok (.invokevirtual 201, 3) := by decide +kernel
theorem d_MO_moves_41 : decode c_MO_moves 41 = .ok (.goto 257, 3) := by decide +kernel
theorem d_MO_moves_44 : decode c_MO_moves 44 = .ok (.iload_n 1, 1) := by decide +kernel
theorem d_MO_moves_45 : decode c_MO_moves 45 = .ok (.bipush 16, 2) := by decide +kernel
theorem d_MO_moves_47 : decode c_MO_moves 47 = .ok (.if_icmp .eq 9, 3) := by decide +kernel
theorem d_MO_moves_50 : decode c_MO_moves 50 = .ok (.iload_n 1, 1) := by decide +kernel
theorem d_MO_moves_51 : decode c_MO_moves 51 = .ok (.bipush 17, 2) := by decide +kernel
theorem d_MO_moves_53 : decode c_MO_moves 53 = .ok (.if_icmp .ne 33, 3) := by decide +kernel
theorem d_MO_moves_56 : decode c_MO_moves 56 = .ok (.aload_n 0, 1) := by decide +kernel
theorem d_MO_moves_57 : decode c_MO_moves 57 = .ok (.iload_n 1, 1) := by decide +kernel
theorem d_MO_moves_58 : decode c_MO_moves 58 = .ok (.bipush 16, 2) := by decide +kernel
theorem d_MO_moves_60 : decode c_MO_moves 60 = .ok (.if_icmp .ne 13, 3) := by decide +kernel
theorem d_MO_moves_63 : decode c_MO_moves 63 = .ok (.aload_n 0, 1) := by decide +kernel
theorem d_MO_moves_64 : decode c_MO_moves 64 = .ok (.iload_n 2, 1) := by decide +kernel
theorem d_MO_moves_65 : decode c_MO_moves 65 = .ok (.iconst 1, 1) := by decide +kernel
theorem d_MO_moves_66 : decode c_MO_moves 66 = .ok (.iadd, 1) := by decide +kernel
theorem d_MO_moves_67 : decode c_MO_moves 67 = .ok (.invokevirtual 220, 3) := by decide +kernel
theorem d_MO_moves_70 : decode c_MO_moves 70 = .ok (.goto 10, 3) := by decide +kernel
theorem d_MO_moves_73 : decode c_MO_moves 73 = .ok (.aload_n 0, 1) := by decide +kernel
theorem d_MO_moves_74 : decode c_MO_moves 74 = .ok (.iload_n 2, 1) := by decide +kernel
theorem d_MO_moves_75 : decode c_MO_moves 75 = .ok (.iconst 1, 1) := by decide +kernel
theorem d_MO_moves_76 : decode c_MO_moves 76 = .ok (.iadd, 1) := by decide +kernel
theorem d_MO_moves_77 : decode c_MO_moves 77 = .ok (.invokevirtual 125, 3) := by decide +kernel
theorem d_MO_moves_80 : decode c_MO_moves 80 = .ok (.invokevirtual 201, 3) := by decide +kernel
theorem d_MO_moves_83 : decode c_MO_moves 83 = .ok (.goto 215, 3) := by decide +kernel
theorem d_MO_moves_86 : decode c_MO_moves 86 = .ok (.iload_n 1, 1) := by decide +kernel
theorem d_MO_moves_87 : decode c_MO_moves 87 = .ok (.sipush 132, 3) := by decide +kernel
theorem d_MO_moves_90 : decode c_MO_moves 90 = .ok (.if_icmp .ne 23, 3) := by decide +kernel
theorem d_MO_moves_93 : decode c_MO_moves 93 = .ok (.aload_n 0, 1) := by decide +kernel
theorem d_MO_moves_94 : decode c_MO_moves 94 = .ok (.getfield 75, 3) := by decide +kernel
theorem d_MO_moves_97 : decode c_MO_moves 97 = .ok (.iload 4, 2) := by decide +kernel
theorem d_MO_moves_99 : decode c_MO_moves 99 = .ok (.dup2, 1) := by decide +kernel
theorem d_MO_moves_100 : decode c_MO_moves 100 = .ok (.iaload, 1) := by decide +kernel
theorem d_MO_moves_101 : decode c_MO_moves 101 = .ok (.aload_n 0, 1) := by decide +kernel
theorem d_MO_moves_102 : decode c_MO_moves 102 = .ok (.iload_n 2, 1) := by decide +kernel
theorem d_MO_moves_103 : decode c_MO_moves 103 = .ok (.iconst 2, 1) := by decide +kernel
theorem d_MO_moves_104 : decode c_MO_moves 104 = .ok (.iadd, 1) := by decide +kernel
theorem d_MO_moves_105 : decode c_MO_moves 105 = .ok (.invokevirtual 220, 3) := by decide +kernel
theorem d_MO_moves_108 : decode c_MO_moves 108 = .ok (.iadd, 1) := by decide +kernel
theorem d_MO_moves_109 : decode c_MO_moves 109 = .ok (.iastore, 1) := by decide +kernel
theorem d_MO_moves_110 : decode c_MO_moves 110 = .ok (.goto 188, 3) := by decide +kernel
theorem d_MO_moves_113 : decode c_MO_moves 113 = .ok (.iload_n 3, 1) := by decide +kernel
theorem d_MO_moves_114 : decode c_MO_moves 114 = .ok (.ifCond .lt 65, 3) := by decide +kernel
theorem d_MO_moves_117 : decode c_MO_moves 117 = .ok (.iload_n 1, 1) := by decide +kernel
theorem d_MO_moves_118 : decode c_MO_moves 118 = .ok (.bipush 21, 2) := by decide +kernel
theorem d_MO_moves_120 : decode c_MO_moves 120 = .ok (.if_icmp .eq 15, 3) := by decide +kernel
theorem d_MO_moves_123 : decode c_MO_moves 123 = .ok (.iload_n 1, 1) := by decide +kernel
theorem d_MO_moves_124 : decode c_MO_moves 124 = .ok (.bipush 25, 2) := by decide +kernel
theorem d_MO_moves_126 : decode c_MO_moves 126 = .ok (.if_icmp .eq 9, 3) := by decide +kernel
theorem d_MO_moves_129 : decode c_MO_moves 129 = .ok (.iload_n 1, 1) := by decide +kernel
theorem d_MO_moves_130 : decode c_MO_moves 130 = .ok (.bipush 46, 2) := by decide +kernel
theorem d_MO_moves_132 : decode c_MO_moves 132 = .ok (.if_icmp .ge 7, 3) := by decide +kernel
theorem d_MO_moves_135 : decode c_MO_moves 135 = .ok (.iconst 1, 1) := by decide +kernel
theorem d_MO_moves_136 : decode c_MO_moves 136 = .ok (.goto 4, 3) := by decide +kernel
theorem d_MO_moves_139 : decode c_MO_moves 139 = .ok (.iconst 0, 1) := by decide +kernel
theorem d_MO_moves_140 : decode c_MO_moves 140 = .ok (.istore 5, 2) := by decide +kernel
theorem d_MO_moves_142 : decode c_MO_moves 142 = .ok (.iload 5, 2) := by decide +kernel
theorem d_MO_moves_144 : decode c_MO_moves 144 = .ok (.ifCond .eq 17, 3) := by decide +kernel
theorem d_MO_moves_147 : decode c_MO_moves 147 = .ok (.aload_n 0, 1) := by decide +kernel
theorem d_MO_moves_148 : decode c_MO_moves 148 = .ok (.aload_n 0, 1) := by decide +kernel
theorem d_MO_moves_149 : decode c_MO_moves 149 = .ok (.getfield 75, 3) := by decide +kernel
theorem d_MO_moves_152 : decode c_MO_moves 152 = .ok (.iload 4, 2) := by decide +kernel
theorem d_MO_moves_154 : decode c_MO_moves 154 = .ok (.iaload, 1) := by decide +kernel
theorem d_MO_moves_155 : decode c_MO_moves 155 = .ok (.invokevirtual 201, 3) := by decide +kernel
theorem d_MO_moves_158 : decode c_MO_moves 158 = .ok (.goto 18, 3) := by decide +kernel
theorem d_MO_moves_161 : decode c_MO_moves 161 = .ok (.aload_n 0, 1) := by decide +kernel
theorem d_MO_moves_162 : decode c_MO_moves 162 = .ok (.invokevirtual 211, 3) := by decide +kernel
theorem d_MO_moves_165 : decode c_MO_moves 165 = .ok (.istore 6, 2) := by decide +kernel
theorem d_MO_moves_167 : decode c_MO_moves 167 = .ok (.aload_n 0, 1) := by decide +kernel
theorem d_MO_moves_168 : decode c_MO_moves 168 = .ok (.getfield 75, 3) := by decide +kernel
theorem d_MO_moves_171 : decode c_MO_moves 171 = .ok (.iload 4, 2) := by decide +kernel
theorem d_MO_moves_173 : decode c_MO_moves 173 = .ok (.iload 6, 2) := by decide +kernel
theorem d_MO_moves_175 : decode c_MO_moves 175 = .ok (.iastore, 1) := by decide +kernel
theorem d_MO_moves_176 : decode c_MO_moves 176 = .ok (.goto 122, 3) := by decide +kernel
theorem d_MO_moves_179 : decode c_MO_moves 179 = .ok (.iload_n 1, 1) := by decide +kernel
theorem d_MO_moves_180 : decode c_MO_moves 180 = .ok (.sipush 178, 3) := by decide +kernel
theorem d_MO_moves_183 : decode c_MO_moves 183 = .ok (.if_icmp .ne 22, 3) := by decide +kernel
theorem d_MO_moves_186 : decode c_MO_moves 186 = .ok (.aload_n 0, 1) := by decide +kernel
theorem d_MO_moves_187 : decode c_MO_moves 187 = .ok (.aload_n 0, 1) := by decide +kernel
theorem d_MO_moves_188 : decode c_MO_moves 188 = .ok (.getfield 69, 3) := by decide +kernel
theorem d_MO_moves_191 : decode c_MO_moves 191 = .ok (.aload_n 0, 1) := by decide +kernel
theorem d_MO_moves_192 : decode c_MO_moves 192 = .ok (.iload_n 2, 1) := by decide +kernel
theorem d_MO_moves_193 : decode c_MO_moves 193 = .ok (.iconst 1, 1) := by decide +kernel
theorem d_MO_moves_194 : decode c_MO_moves 194 = .ok (.iadd, 1) := by decide +kernel
theorem d_MO_moves_195 : decode c_MO_moves 195 = .ok (.invokevirtual 125, 3) := by decide +kernel
theorem d_MO_moves_198 : decode c_MO_moves 198 = .ok (.iaload, 1) := by decide +kernel
theorem d_MO_moves_199 : decode c_MO_moves 199 = .ok (.invokevirtual 201, 3) := by decide +kernel
theorem d_MO_moves_202 : decode c_MO_moves 202 = .ok (.goto 96, 3) := by decide +kernel
theorem d_MO_moves_205 : decode c_MO_moves 205 = .ok (.iload_n 1, 1) := by decide +kernel
theorem d_MO_moves_206 : decode c_MO_moves 206 = .ok (.sipush 179, 3) := by decide +kernel
theorem d_MO_moves_209 : decode c_MO_moves 209 = .ok (.if_icmp .ne 22, 3) := by decide +kernel
theorem d_MO_moves_212 : decode c_MO_moves 212 = .ok (.aload_n 0, 1) := by decide +kernel
theorem d_MO_moves_213 : decode c_MO_moves 213 = .ok (.getfield 69, 3) := by decide +kernel
theorem d_MO_moves_216 : decode c_MO_moves 216 = .ok (.aload_n 0, 1) := by decide +kernel
theorem d_MO_moves_217 : decode c_MO_moves 217 = .ok (.iload_n 2, 1) := by decide +kernel
theorem d_MO_moves_218 : decode c_MO_moves 218 = .ok (.iconst 1, 1) := by decide +kernel
theorem d_MO_moves_219 : decode c_MO_moves 219 = .ok (.iadd, 1) := by decide +kernel
theorem d_MO_moves_220 : decode c_MO_moves 220 = .ok (.invokevirtual 125, 3) := by decide +kernel
theorem d_MO_moves_223 : decode c_MO_moves 223 = .ok (.aload_n 0, 1) := by decide +kernel
theorem d_MO_moves_224 : decode c_MO_moves 224 = .ok (.invokevirtual 211, 3) := by decide +kernel
theorem d_MO_moves_227 : decode c_MO_moves 227 = .ok (.iastore, 1) := by decide +kernel
theorem d_MO_moves_228 : decode c_MO_moves 228 = .ok (.goto 70, 3) := by decide +kernel
theorem d_MO_moves_231 : decode c_MO_moves 231 = .ok (.iload_n 1, 1) := by decide +kernel
theorem d_MO_moves_232 : decode c_MO_moves 232 = .ok (.bipush 87, 2) := by decide +kernel
theorem d_MO_moves_234 : decode c_MO_moves 234 = .ok (.if_icmp .ne 12, 3) := by decide +kernel
theorem d_MO_moves_237 : decode c_MO_moves 237 = .ok (.aload_n 0, 1) := by decide +kernel
theorem d_MO_moves_238 : decode c_MO_moves 238 = .ok (.invokevirtual 211, 3) := by decide +kernel
theorem d_MO_moves_241 : decode c_MO_moves 241 = .ok (.istore 5, 2) := by decide +kernel
theorem d_MO_moves_243 : decode c_MO_moves 243 = .ok (.goto 55, 3) := by decide +kernel
theorem d_MO_moves_246 : decode c_MO_moves 246 = .ok (.iload_n 1, 1) := by decide +kernel
theorem d_MO_moves_247 : decode c_MO_moves 247 = .ok (.bipush 89, 2) := by decide +kernel
theorem d_MO_moves_249 : decode c_MO_moves 249 = .ok (.if_icmp .eq 9, 3) := by decide +kernel
theorem d_MO_moves_252 : decode c_MO_moves 252 = .ok (.iload_n 1, 1) := by decide +kernel
theorem d_MO_moves_253 : decode c_MO_moves 253 = .ok (.bipush 95, 2) := by decide +kernel
theorem d_MO_moves_255 : decode c_MO_moves 255 = .ok (.if_icmp .ne 41, 3) := by decide +kernel
theorem d_MO_moves_258 : decode c_MO_moves 258 = .ok (.aload_n 0, 1) := by decide +kernel
theorem d_MO_moves_259 : decode c_MO_moves 259 = .ok (.invokevirtual 211, 3) := by decide +kernel
theorem d_MO_moves_262 : decode c_MO_moves 262 = .ok (.istore 5, 2) := by decide +kernel
theorem d_MO_moves_264 : decode c_MO_moves 264 = .ok (.iload_n 1, 1) := by decide +kernel
theorem d_MO_moves_265 : decode c_MO_moves 265 = .ok (.bipush 89, 2) := by decide +kernel
theorem d_MO_moves_267 : decode c_MO_moves 267 = .ok (.if_icmp .ne 8, 3) := by decide +kernel
theorem d_MO_moves_270 : decode c_MO_moves 270 = .ok (.iload 5, 2) := by decide +kernel
theorem d_MO_moves_272 : decode c_MO_moves 272 = .ok (.goto 7, 3) := by decide +kernel
theorem d_MO_moves_275 : decode c_MO_moves 275 = .ok (.aload_n 0, 1) := by decide +kernel
theorem d_MO_moves_276 : decode c_MO_moves 276 = .ok (.invokevirtual 211, 3) := by decide +kernel
theorem d_MO_moves_279 : decode c_MO_moves 279 = .ok (.istore 6, 2) := by decide +kernel
theorem d_MO_moves_281 : decode c_MO_moves 281 = .ok (.aload_n 0, 1) := by decide +kernel
theorem d_MO_moves_282 : decode c_MO_moves 282 = .ok (.iload 5, 2) := by decide +kernel
theorem d_MO_moves_284 : decode c_MO_moves 284 = .ok (.invokevirtual 201, 3) := by decide +kernel
theorem d_MO_moves_287 : decode c_MO_moves 287 = .ok (.aload_n 0, 1) := by decide +kernel
theorem d_MO_moves_288 : decode c_MO_moves 288 = .ok (.iload 6, 2) := by decide +kernel
theorem d_MO_moves_290 : decode c_MO_moves 290 = .ok (.invokevirtual 201, 3) := by decide +kernel
theorem d_MO_moves_293 : decode c_MO_moves 293 = .ok (.goto 5, 3) := by decide +kernel
theorem d_MO_moves_296 : decode c_MO_moves 296 = .ok (.iconst 0, 1) := by decide +kernel
theorem d_MO_moves_297 : decode c_MO_moves 297 = .ok (.ireturn, 1) := by decide +kernel
theorem d_MO_moves_298 : decode c_MO_moves 298 = .ok (.iconst 1, 1) := by decide +kernel
theorem d_MO_moves_299 : decode c_MO_moves 299 = .ok (.ireturn, 1) := by decide +kernel
theorem d_MO_step_0 : decode c_MO_step 0 = .ok (.aload_n 0, 1) := by decide +kernel
theorem d_MO_step_1 : decode c_MO_step 1 = .ok (.invokevirtual 194, 3) := by decide +kernel
theorem d_MO_step_4 : decode c_MO_step 4 = .ok (.istore_n 1, 1) := by decide +kernel
theorem d_MO_step_5 : decode c_MO_step 5 = .ok (.aload_n 0, 1) := by decide +kernel
theorem d_MO_step_6 : decode c_MO_step 6 = .ok (.getfield 13, 3) := by decide +kernel
theorem d_MO_step_9 : decode c_MO_step 9 = .ok (.aload_n 0, 1) := by decide +kernel
theorem d_MO_step_10 : decode c_MO_step 10 = .ok (.getfield 78, 3) := by decide +kernel
theorem d_MO_step_13 : decode c_MO_step 13 = .ok (.iload_n 1, 1) := by decide +kernel
theorem d_MO_step_14 : decode c_MO_step 14 = .ok (.iaload, 1) := by decide +kernel
theorem d_MO_step_15 : decode c_MO_step 15 = .ok (.iaload, 1) := by decide +kernel
theorem d_MO_step_16 : decode c_MO_step 16 = .ok (.aload_n 0, 1) := by decide +kernel
theorem d_MO_step_17 : decode c_MO_step 17 = .ok (.getfield 81, 3) := by decide +kernel
theorem d_MO_step_20 : decode c_MO_step 20 = .ok (.iload_n 1, 1) := by decide +kernel
theorem d_MO_step_21 : decode c_MO_step 21 = .ok (.iaload, 1) := by decide +kernel
theorem d_MO_step_22 : decode c_MO_step 22 = .ok (.iadd, 1) := by decide +kernel
theorem d_MO_step_23 : decode c_MO_step 23 = .ok (.istore_n 2, 1) := by decide +kernel
theorem d_MO_step_24 : decode c_MO_step 24 = .ok (.aload_n 0, 1) := by decide +kernel
theorem d_MO_step_25 : decode c_MO_step 25 = .ok (.getfield 7, 3) := by decide +kernel
theorem d_MO_step_28 : decode c_MO_step 28 = .ok (.iload_n 2, 1) := by decide +kernel
theorem d_MO_step_29 : decode c_MO_step 29 = .ok (.iaload, 1) := by decide +kernel
theorem d_MO_step_30 : decode c_MO_step 30 = .ok (.istore_n 3, 1) := by decide +kernel
theorem d_MO_step_31 : decode c_MO_step 31 = .ok (.iconst 1, 1) := by decide +kernel
theorem d_MO_step_32 : decode c_MO_step 32 = .ok (.istore 4, 2) := by decide +kernel
theorem d_MO_step_34 : decode c_MO_step 34 = .ok (.iload_n 3, 1) := by decide +kernel
theorem d_MO_step_35 : decode c_MO_step 35 = .ok (.sipush 172, 3) := by decide +kernel
theorem d_MO_step_38 : decode c_MO_step 38 = .ok (.if_icmp .ne 18, 3) := by decide +kernel
theorem d_MO_step_41 : decode c_MO_step 41 = .ok (.aload_n 0, 1) := by decide +kernel
theorem d_MO_step_42 : decode c_MO_step 42 = .ok (.iconst 1, 1) := by decide +kernel
theorem d_MO_step_43 : decode c_MO_step 43 = .ok (.aload_n 0, 1) := by decide +kernel
theorem d_MO_step_44 : decode c_MO_step 44 = .ok (.invokevirtual 211, 3) := by decide +kernel
theorem d_MO_step_47 : decode c_MO_step 47 = .ok (.invokevirtual 223, 3) := by decide +kernel
theorem d_MO_step_50 : decode c_MO_step 50 = .ok (.iconst 0, 1) := by decide +kernel
theorem d_MO_step_51 : decode c_MO_step 51 = .ok (.istore 4, 2) := by decide +kernel
theorem d_MO_step_53 : decode c_MO_step 53 = .ok (.goto 206, 3) := by decide +kernel
theorem d_MO_step_56 : decode c_MO_step 56 = .ok (.iload_n 3, 1) := by decide +kernel
theorem d_MO_step_57 : decode c_MO_step 57 = .ok (.sipush 177, 3) := by decide +kernel
theorem d_MO_step_60 : decode c_MO_step 60 = .ok (.if_icmp .ne 15, 3) := by decide +kernel
theorem d_MO_step_63 : decode c_MO_step 63 = .ok (.aload_n 0, 1) := by decide +kernel
theorem d_MO_step_64 : decode c_MO_step 64 = .ok (.iconst 0, 1) := by decide +kernel
theorem d_MO_step_65 : decode c_MO_step 65 = .ok (.iconst 0, 1) := by decide +kernel
theorem d_MO_step_66 : decode c_MO_step 66 = .ok (.invokevirtual 223, 3) := by decide +kernel
theorem d_MO_step_69 : decode c_MO_step 69 = .ok (.iconst 0, 1) := by decide +kernel
theorem d_MO_step_70 : decode c_MO_step 70 = .ok (.istore 4, 2) := by decide +kernel
theorem d_MO_step_72 : decode c_MO_step 72 = .ok (.goto 187, 3) := by decide +kernel
theorem d_MO_step_75 : decode c_MO_step 75 = .ok (.iload_n 3, 1) := by decide +kernel
theorem d_MO_step_76 : decode c_MO_step 76 = .ok (.sipush 184, 3) := by decide +kernel
theorem d_MO_step_79 : decode c_MO_step 79 = .ok (.if_icmp .ne 20, 3) := by decide +kernel
theorem d_MO_step_82 : decode c_MO_step 82 = .ok (.aload_n 0, 1) := by decide +kernel
theorem d_MO_step_83 : decode c_MO_step 83 = .ok (.aload_n 0, 1) := by decide +kernel
theorem d_MO_step_84 : decode c_MO_step 84 = .ok (.iload_n 2, 1) := by decide +kernel
theorem d_MO_step_85 : decode c_MO_step 85 = .ok (.iconst 1, 1) := by decide +kernel
theorem d_MO_step_86 : decode c_MO_step 86 = .ok (.iadd, 1) := by decide +kernel
theorem d_MO_step_87 : decode c_MO_step 87 = .ok (.invokevirtual 125, 3) := by decide +kernel
theorem d_MO_step_90 : decode c_MO_step 90 = .ok (.invokevirtual 227, 3) := by decide +kernel
theorem d_MO_step_93 : decode c_MO_step 93 = .ok (.iconst 0, 1) := by decide +kernel
theorem d_MO_step_94 : decode c_MO_step 94 = .ok (.istore 4, 2) := by decide +kernel
theorem d_MO_step_96 : decode c_MO_step 96 = .ok (.goto 163, 3) := by decide +kernel
theorem d_MO_step_99 : decode c_MO_step 99 = .ok (.iload_n 3, 1) := by decide +kernel
theorem d_MO_step_100 : decode c_MO_step 100 = .ok (.invokestatic 115, 3) := by decide +kernel
theorem d_MO_step_103 : decode c_MO_step 103 = .ok (.ifCond .eq 41, 3) := by decide +kernel
theorem d_MO_step_106 : decode c_MO_step 106 = .ok (.aload_n 0, 1) := by decide +kernel
theorem d_MO_step_107 : decode c_MO_step 107 = .ok (.iload_n 3, 1) := by decide +kernel
theorem d_MO_step_108 : decode c_MO_step 108 = .ok (.invokevirtual 230, 3) := by decide +kernel
theorem d_MO_step_111 : decode c_MO_step 111 = .ok (.istore 5, 2) := by decide +kernel
theorem d_MO_step_113 : decode c_MO_step 113 = .ok (.aload_n 0, 1) := by decide +kernel
theorem d_MO_step_114 : decode c_MO_step 114 = .ok (.getfield 81, 3) := by decide +kernel
theorem d_MO_step_117 : decode c_MO_step 117 = .ok (.iload_n 1, 1) := by decide +kernel
theorem d_MO_step_118 : decode c_MO_step 118 = .ok (.dup2, 1) := by decide +kernel
theorem d_MO_step_119 : decode c_MO_step 119 = .ok (.iaload, 1) := by decide +kernel
theorem d_MO_step_120 : decode c_MO_step 120 = .ok (.iload 5, 2) := by decide +kernel
theorem d_MO_step_122 : decode c_MO_step 122 = .ok (.ifCond .eq 13, 3) := by decide +kernel
theorem d_MO_step_125 : decode c_MO_step 125 = .ok (.aload_n 0, 1) := by decide +kernel
theorem d_MO_step_126 : decode c_MO_step 126 = .ok (.iload_n 2, 1) := by decide +kernel
theorem d_MO_step_127 : decode c_MO_step 127 = .ok (.iconst 1, 1) := by decide +kernel
theorem d_MO_step_128 : decode c_MO_step 128 = .ok (.iadd, 1) := by decide +kernel
theorem d_MO_step_129 : decode c_MO_step 129 = .ok (.invokevirtual 125, 3) := by decide +kernel
theorem d_MO_step_132 : decode c_MO_step 132 = .ok (.goto 4, 3) := by decide +kernel
theorem d_MO_step_135 : decode c_MO_step 135 = .ok (.iconst 3, 1) := by decide +kernel
theorem d_MO_step_136 : decode c_MO_step 136 = .ok (.iadd, 1) := by decide +kernel
theorem d_MO_step_137 : decode c_MO_step 137 = .ok (.iastore, 1) := by decide +kernel
theorem d_MO_step_138 : decode c_MO_step 138 = .ok (.iconst 0, 1) := by decide +kernel
theorem d_MO_step_139 : decode c_MO_step 139 = .ok (.istore 4, 2) := by decide +kernel
theorem d_MO_step_141 : decode c_MO_step 141 = .ok (.goto 118, 3) := by decide +kernel
theorem d_MO_step_144 : decode c_MO_step 144 = .ok (.iload_n 3, 1) := by decide +kernel
theorem d_MO_step_145 : decode c_MO_step 145 = .ok (.bipush 46, 2) := by decide +kernel
theorem d_MO_step_147 : decode c_MO_step 147 = .ok (.if_icmp .eq 23, 3) := by decide +kernel
theorem d_MO_step_150 : decode c_MO_step 150 = .ok (.iload_n 3, 1) := by decide +kernel
theorem d_MO_step_151 : decode c_MO_step 151 = .ok (.bipush 79, 2) := by decide +kernel
theorem d_MO_step_153 : decode c_MO_step 153 = .ok (.if_icmp .eq 17, 3) := by decide +kernel
theorem d_MO_step_156 : decode c_MO_step 156 = .ok (.iload_n 3, 1) := by decide +kernel
theorem d_MO_step_157 : decode c_MO_step 157 = .ok (.sipush 188, 3) := by decide +kernel
theorem d_MO_step_160 : decode c_MO_step 160 = .ok (.if_icmp .eq 10, 3) := by decide +kernel
theorem d_MO_step_163 : decode c_MO_step 163 = .ok (.iload_n 3, 1) := by decide +kernel
theorem d_MO_step_164 : decode c_MO_step 164 = .ok (.sipush 190, 3) := by decide +kernel
theorem d_MO_step_167 : decode c_MO_step 167 = .ok (.if_icmp .ne 13, 3) := by decide +kernel
theorem d_MO_step_170 : decode c_MO_step 170 = .ok (.aload_n 0, 1) := by decide +kernel
theorem d_MO_step_171 : decode c_MO_step 171 = .ok (.iload_n 3, 1) := by decide +kernel
theorem d_MO_step_172 : decode c_MO_step 172 = .ok (.invokevirtual 233, 3) := by decide +kernel
theorem d_MO_step_175 : decode c_MO_step 175 = .ok (.istore 4, 2) := by decide +kernel
theorem d_MO_step_177 : decode c_MO_step 177 = .ok (.goto 82, 3) := by decide +kernel
theorem d_MO_step_180 : decode c_MO_step 180 = .ok (.iload_n 3, 1) := by decide +kernel
theorem d_MO_step_181 : decode c_MO_step 181 = .ok (.bipush 116, 2) := by decide +kernel
theorem d_MO_step_183 : decode c_MO_step 183 = .ok (.if_icmp .ne 15, 3) := by decide +kernel
theorem d_MO_step_186 : decode c_MO_step 186 = .ok (.aload_n 0, 1) := by decide +kernel
theorem d_MO_step_187 : decode c_MO_step 187 = .ok (.aload_n 0, 1) := by decide +kernel
theorem d_MO_step_188 : decode c_MO_step 188 = .ok (.invokevirtual 211, 3) := by decide +kernel
theorem d_MO_step_191 : decode c_MO_step 191 = .ok (.ineg, 1) := by decide +kernel
theorem d_MO_step_192 : decode c_MO_step 192 = .ok (.invokevirtual 201, 3) := by decide +kernel
theorem d_MO_step_195 : decode c_MO_step 195 = .ok (.goto 64, 3) := by decide +kernel
theorem d_MO_step_198 : decode c_MO_step 198 = .ok (.aload_n 0, 1) := by decide +kernel
theorem d_MO_step_199 : decode c_MO_step 199 = .ok (.iload_n 3, 1) := by decide +kernel
theorem d_MO_step_200 : decode c_MO_step 200 = .ok (.iload_n 2, 1) := by decide +kernel
theorem d_MO_step_201 : decode c_MO_step 201 = .ok (.invokevirtual 236, 3) := by decide +kernel
theorem d_MO_step_204 : decode c_MO_step 204 = .ok (.ifCond .ne 55, 3) := by decide +kernel
theorem d_MO_step_207 : decode c_MO_step 207 = .ok (.aload_n 0, 1) := by decide +kernel
theorem d_MO_step_208 : decode c_MO_step 208 = .ok (.invokevirtual 211, 3) := by decide +kernel
theorem d_MO_step_211 : decode c_MO_step 211 = .ok (.istore 5, 2) := by decide +kernel
theorem d_MO_step_213 : decode c_MO_step 213 = .ok (.aload_n 0, 1) := by decide +kernel
theorem d_MO_step_214 : decode c_MO_step 214 = .ok (.invokevirtual 211, 3) := by decide +kernel
theorem d_MO_step_217 : decode c_MO_step 217 = .ok (.istore 6, 2) := by decide +kernel
theorem d_MO_step_219 : decode c_MO_step 219 = .ok (.iload_n 3, 1) := by decide +kernel
theorem d_MO_step_220 : decode c_MO_step 220 = .ok (.bipush 108, 2) := by decide +kernel
theorem d_MO_step_222 : decode c_MO_step 222 = .ok (.if_icmp .eq 9, 3) := by decide +kernel
theorem d_MO_step_225 : decode c_MO_step 225 = .ok (.iload_n 3, 1) := by decide +kernel
theorem d_MO_step_226 : decode c_MO_step 226 = .ok (.bipush 112, 2) := by decide +kernel
theorem d_MO_step_228 : decode c_MO_step 228 = .ok (.if_icmp .ne 19, 3) := by decide +kernel
theorem d_MO_step_231 : decode c_MO_step 231 = .ok (.iload 5, 2) := by decide +kernel
theorem d_MO_step_233 : decode c_MO_step 233 = .ok (.ifCond .ne 14, 3) := by decide +kernel
theorem d_MO_step_236 : decode c_MO_step 236 = .ok (.aload_n 0, 1) := by decide +kernel
theorem d_MO_step_237 : decode c_MO_step 237 = .ok (.iconst 3, 1) := by decide +kernel
theorem d_MO_step_238 : decode c_MO_step 238 = .ok (.invokevirtual 217, 3) := by decide +kernel
theorem d_MO_step_241 : decode c_MO_step 241 = .ok (.iconst 0, 1) := by decide +kernel
theorem d_MO_step_242 : decode c_MO_step 242 = .ok (.istore 4, 2) := by decide +kernel
theorem d_MO_step_244 : decode c_MO_step 244 = .ok (.goto 15, 3) := by decide +kernel
theorem d_MO_step_247 : decode c_MO_step 247 = .ok (.aload_n 0, 1) := by decide +kernel
theorem d_MO_step_248 : decode c_MO_step 248 = .ok (.iload_n 3, 1) := by decide +kernel
theorem d_MO_step_249 : decode c_MO_step 249 = .ok (.iload 6, 2) := by decide +kernel
theorem d_MO_step_251 : decode c_MO_step 251 = .ok (.iload 5, 2) := by decide +kernel
theorem d_MO_step_253 : decode c_MO_step 253 = .ok (.invokestatic 239, 3) := by decide +kernel
theorem d_MO_step_256 : decode c_MO_step 256 = .ok (.invokevirtual 201, 3) := by decide +kernel
theorem d_MO_step_259 : decode c_MO_step 259 = .ok (.aload_n 0, 1) := by decide +kernel
theorem d_MO_step_260 : decode c_MO_step 260 = .ok (.getfield 81, 3) := by decide +kernel
theorem d_MO_step_263 : decode c_MO_step 263 = .ok (.iload_n 1, 1) := by decide +kernel
theorem d_MO_step_264 : decode c_MO_step 264 = .ok (.dup2, 1) := by decide +kernel
theorem d_MO_step_265 : decode c_MO_step 265 = .ok (.iaload, 1) := by decide +kernel
theorem d_MO_step_266 : decode c_MO_step 266 = .ok (.iload 4, 2) := by decide +kernel
theorem d_MO_step_268 : decode c_MO_step 268 = .ok (.ifCond .eq 10, 3) := by decide +kernel
theorem d_MO_step_271 : decode c_MO_step 271 = .ok (.iload_n 3, 1) := by decide +kernel
theorem d_MO_step_272 : decode c_MO_step 272 = .ok (.invokestatic 118, 3) := by decide +kernel
theorem d_MO_step_275 : decode c_MO_step 275 = .ok (.goto 4, 3) := by decide +kernel
theorem d_MO_step_278 : decode c_MO_step 278 = .ok (.iconst 0, 1) := by decide +kernel
theorem d_MO_step_279 : decode c_MO_step 279 = .ok (.iadd, 1) := by decide +kernel
theorem d_MO_step_280 : decode c_MO_step 280 = .ok (.iastore, 1) := by decide +kernel
theorem d_MO_step_281 : decode c_MO_step 281 = .ok (.return_, 1) := by decide +kernel
theorem d_MO_run_0 : decode c_MO_run 0 = .ok (.aload_n 0, 1) := by decide +kernel
theorem d_MO_run_1 : decode c_MO_run 1 = .ok (.iload_n 1, 1) := by decide +kernel
theorem d_MO_run_2 : decode c_MO_run 2 = .ok (.iconst 0, 1) := by decide +kernel
theorem d_MO_run_3 : decode c_MO_run 3 = .ok (.bipush 100, 2) := by decide +kernel
theorem d_MO_run_5 : decode c_MO_run 5 = .ok (.invokestatic 100, 3) := by decide +kernel
theorem d_MO_run_8 : decode c_MO_run 8 = .ok (.ifCond .eq 7, 3) := by decide +kernel
theorem d_MO_run_11 : decode c_MO_run 11 = .ok (.iconst 0, 1) := by decide +kernel
theorem d_MO_run_12 : decode c_MO_run 12 = .ok (.goto 4, 3) := by decide +kernel
theorem d_MO_run_15 : decode c_MO_run 15 = .ok (.iconst 1, 1) := by decide +kernel
theorem d_MO_run_16 : decode c_MO_run 16 = .ok (.putfield 90, 3) := by decide +kernel
theorem d_MO_run_19 : decode c_MO_run 19 = .ok (.iconst 0, 1) := by decide +kernel
theorem d_MO_run_20 : decode c_MO_run 20 = .ok (.istore_n 2, 1) := by decide +kernel
theorem d_MO_run_21 : decode c_MO_run 21 = .ok (.aload_n 0, 1) := by decide +kernel
theorem d_MO_run_22 : decode c_MO_run 22 = .ok (.getfield 90, 3) := by decide +kernel
theorem d_MO_run_25 : decode c_MO_run 25 = .ok (.ifCond .ne 26, 3) := by decide +kernel
theorem d_MO_run_28 : decode c_MO_run 28 = .ok (.iload_n 2, 1) := by decide +kernel
theorem d_MO_run_29 : decode c_MO_run 29 = .ok (.iload_n 1, 1) := by decide +kernel
theorem d_MO_run_30 : decode c_MO_run 30 = .ok (.if_icmp .ge 21, 3) := by decide +kernel
theorem d_MO_run_33 : decode c_MO_run 33 = .ok (.aload_n 0, 1) := by decide +kernel
theorem d_MO_run_34 : decode c_MO_run 34 = .ok (.getfield 176, 3) := by decide +kernel
theorem d_MO_run_37 : decode c_MO_run 37 = .ok (.iconst 1, 1) := by decide +kernel
theorem d_MO_run_38 : decode c_MO_run 38 = .ok (.if_icmp .ne 13, 3) := by decide +kernel
theorem d_MO_run_41 : decode c_MO_run 41 = .ok (.aload_n 0, 1) := by decide +kernel
theorem d_MO_run_42 : decode c_MO_run 42 = .ok (.invokevirtual 243, 3) := by decide +kernel
theorem d_MO_run_45 : decode c_MO_run 45 = .ok (.iinc 2 1, 3) := by decide +kernel
theorem d_MO_run_48 : decode c_MO_run 48 = .ok (.goto (-27), 3) := by decide +kernel
theorem d_MO_run_51 : decode c_MO_run 51 = .ok (.iload_n 2, 1) := by decide +kernel
theorem d_MO_run_52 : decode c_MO_run 52 = .ok (.ireturn, 1) := by decide +kernel
theorem d_MO_state_0 : decode c_MO_state 0 = .ok (.aload_n 0, 1) := by decide +kernel
theorem d_MO_state_1 : decode c_MO_state 1 = .ok (.iconst 0, 1) := by decide +kernel
theorem d_MO_state_2 : decode c_MO_state 2 = .ok (.putfield 90, 3) := by decide +kernel
theorem d_MO_state_5 : decode c_MO_state 5 = .ok (.aload_n 0, 1) := by decide +kernel
theorem d_MO_state_6 : decode c_MO_state 6 = .ok (.getfield 176, 3) := by decide +kernel
theorem d_MO_state_9 : decode c_MO_state 9 = .ok (.ireturn, 1) := by decide +kernel
theorem d_MO_result_0 : decode c_MO_result 0 = .ok (.aload_n 0, 1) := by decide +kernel
theorem d_MO_result_1 : decode c_MO_result 1 = .ok (.iconst 0, 1) := by decide +kernel
theorem d_MO_result_2 : decode c_MO_result 2 = .ok (.putfield 90, 3) := by decide +kernel
theorem d_MO_result_5 : decode c_MO_result 5 = .ok (.aload_n 0, 1) := by decide +kernel
theorem d_MO_result_6 : decode c_MO_result 6 = .ok (.getfield 176, 3) := by decide +kernel
theorem d_MO_result_9 : decode c_MO_result 9 = .ok (.iconst 2, 1) := by decide +kernel
theorem d_MO_result_10 : decode c_MO_result 10 = .ok (.if_icmp .ne 10, 3) := by decide +kernel
theorem d_MO_result_13 : decode c_MO_result 13 = .ok (.aload_n 0, 1) := by decide +kernel
theorem d_MO_result_14 : decode c_MO_result 14 = .ok (.getfield 179, 3) := by decide +kernel
theorem d_MO_result_17 : decode c_MO_result 17 = .ok (.goto 4, 3) := by decide +kernel
theorem d_MO_result_20 : decode c_MO_result 20 = .ok (.iconst 0, 1) := by decide +kernel
theorem d_MO_result_21 : decode c_MO_result 21 = .ok (.ireturn, 1) := by decide +kernel
theorem d_MO_depth_0 : decode c_MO_depth 0 = .ok (.aload_n 0, 1) := by decide +kernel
theorem d_MO_depth_1 : decode c_MO_depth 1 = .ok (.iconst 0, 1) := by decide +kernel
theorem d_MO_depth_2 : decode c_MO_depth 2 = .ok (.putfield 90, 3) := by decide +kernel
theorem d_MO_depth_5 : decode c_MO_depth 5 = .ok (.aload_n 0, 1) := by decide +kernel
theorem d_MO_depth_6 : decode c_MO_depth 6 = .ok (.getfield 176, 3) := by decide +kernel
theorem d_MO_depth_9 : decode c_MO_depth 9 = .ok (.iconst 1, 1) := by decide +kernel
theorem d_MO_depth_10 : decode c_MO_depth 10 = .ok (.if_icmp .ne 10, 3) := by decide +kernel
theorem d_MO_depth_13 : decode c_MO_depth 13 = .ok (.aload_n 0, 1) := by decide +kernel
theorem d_MO_depth_14 : decode c_MO_depth 14 = .ok (.getfield 182, 3) := by decide +kernel
theorem d_MO_depth_17 : decode c_MO_depth 17 = .ok (.goto 4, 3) := by decide +kernel
theorem d_MO_depth_20 : decode c_MO_depth 20 = .ok (.iconst 0, 1) := by decide +kernel
theorem d_MO_depth_21 : decode c_MO_depth 21 = .ok (.ireturn, 1) := by decide +kernel
theorem d_MO_frame_0 : decode c_MO_frame 0 = .ok (.aload_n 0, 1) := by decide +kernel
theorem d_MO_frame_1 : decode c_MO_frame 1 = .ok (.iconst 0, 1) := by decide +kernel
theorem d_MO_frame_2 : decode c_MO_frame 2 = .ok (.putfield 90, 3) := by decide +kernel
theorem d_MO_frame_5 : decode c_MO_frame 5 = .ok (.aload_n 0, 1) := by decide +kernel
theorem d_MO_frame_6 : decode c_MO_frame 6 = .ok (.getfield 176, 3) := by decide +kernel
theorem d_MO_frame_9 : decode c_MO_frame 9 = .ok (.iconst 1, 1) := by decide +kernel
theorem d_MO_frame_10 : decode c_MO_frame 10 = .ok (.if_icmp .ne 24, 3) := by decide +kernel
theorem d_MO_frame_13 : decode c_MO_frame 13 = .ok (.iload_n 1, 1) := by decide +kernel
theorem d_MO_frame_14 : decode c_MO_frame 14 = .ok (.ifCond .lt 20, 3) := by decide +kernel
theorem d_MO_frame_17 : decode c_MO_frame 17 = .ok (.iload_n 1, 1) := by decide +kernel
theorem d_MO_frame_18 : decode c_MO_frame 18 = .ok (.aload_n 0, 1) := by decide +kernel
theorem d_MO_frame_19 : decode c_MO_frame 19 = .ok (.getfield 182, 3) := by decide +kernel
theorem d_MO_frame_22 : decode c_MO_frame 22 = .ok (.if_icmp .ge 12, 3) := by decide +kernel
theorem d_MO_frame_25 : decode c_MO_frame 25 = .ok (.iload_n 2, 1) := by decide +kernel
theorem d_MO_frame_26 : decode c_MO_frame 26 = .ok (.ifCond .lt 8, 3) := by decide +kernel
theorem d_MO_frame_29 : decode c_MO_frame 29 = .ok (.iload_n 2, 1) := by decide +kernel
theorem d_MO_frame_30 : decode c_MO_frame 30 = .ok (.iconst 2, 1) := by decide +kernel
theorem d_MO_frame_31 : decode c_MO_frame 31 = .ok (.if_icmp .le 5, 3) := by decide +kernel
theorem d_MO_frame_34 : decode c_MO_frame 34 = .ok (.iconst (-1), 1) := by decide +kernel
theorem d_MO_frame_35 : decode c_MO_frame 35 = .ok (.ireturn, 1) := by decide +kernel
theorem d_MO_frame_36 : decode c_MO_frame 36 = .ok (.aload_n 0, 1) := by decide +kernel
theorem d_MO_frame_37 : decode c_MO_frame 37 = .ok (.getfield 182, 3) := by decide +kernel
theorem d_MO_frame_40 : decode c_MO_frame 40 = .ok (.iconst 1, 1) := by decide +kernel
theorem d_MO_frame_41 : decode c_MO_frame 41 = .ok (.isub, 1) := by decide +kernel
theorem d_MO_frame_42 : decode c_MO_frame 42 = .ok (.iload_n 1, 1) := by decide +kernel
theorem d_MO_frame_43 : decode c_MO_frame 43 = .ok (.isub, 1) := by decide +kernel
theorem d_MO_frame_44 : decode c_MO_frame 44 = .ok (.istore_n 3, 1) := by decide +kernel
theorem d_MO_frame_45 : decode c_MO_frame 45 = .ok (.iload_n 2, 1) := by decide +kernel
theorem d_MO_frame_46 : decode c_MO_frame 46 = .ok (.ifCond .ne 12, 3) := by decide +kernel
theorem d_MO_frame_49 : decode c_MO_frame 49 = .ok (.aload_n 0, 1) := by decide +kernel
theorem d_MO_frame_50 : decode c_MO_frame 50 = .ok (.getfield 78, 3) := by decide +kernel
theorem d_MO_frame_53 : decode c_MO_frame 53 = .ok (.iload_n 3, 1) := by decide +kernel
theorem d_MO_frame_54 : decode c_MO_frame 54 = .ok (.iaload, 1) := by decide +kernel
theorem d_MO_frame_55 : decode c_MO_frame 55 = .ok (.goto 23, 3) := by decide +kernel
theorem d_MO_frame_58 : decode c_MO_frame 58 = .ok (.iload_n 2, 1) := by decide +kernel
theorem d_MO_frame_59 : decode c_MO_frame 59 = .ok (.iconst 1, 1) := by decide +kernel
theorem d_MO_frame_60 : decode c_MO_frame 60 = .ok (.if_icmp .ne 12, 3) := by decide +kernel
theorem d_MO_frame_63 : decode c_MO_frame 63 = .ok (.aload_n 0, 1) := by decide +kernel
theorem d_MO_frame_64 : decode c_MO_frame 64 = .ok (.getfield 81, 3) := by decide +kernel
theorem d_MO_frame_67 : decode c_MO_frame 67 = .ok (.iload_n 3, 1) := by decide +kernel
theorem d_MO_frame_68 : decode c_MO_frame 68 = .ok (.iaload, 1) := by decide +kernel
theorem d_MO_frame_69 : decode c_MO_frame 69 = .ok (.goto 9, 3) := by decide +kernel
theorem d_MO_frame_72 : decode c_MO_frame 72 = .ok (.aload_n 0, 1) := by decide +kernel
theorem d_MO_frame_73 : decode c_MO_frame 73 = .ok (.getfield 84, 3) := by decide +kernel
theorem d_MO_frame_76 : decode c_MO_frame 76 = .ok (.iload_n 3, 1) := by decide +kernel
theorem d_MO_frame_77 : decode c_MO_frame 77 = .ok (.iaload, 1) := by decide +kernel
theorem d_MO_frame_78 : decode c_MO_frame 78 = .ok (.ireturn, 1) := by decide +kernel
theorem d_MO_local_0 : decode c_MO_local 0 = .ok (.aload_n 0, 1) := by decide +kernel
theorem d_MO_local_1 : decode c_MO_local 1 = .ok (.iconst 0, 1) := by decide +kernel
theorem d_MO_local_2 : decode c_MO_local 2 = .ok (.putfield 90, 3) := by decide +kernel
theorem d_MO_local_5 : decode c_MO_local 5 = .ok (.aload_n 0, 1) := by decide +kernel
theorem d_MO_local_6 : decode c_MO_local 6 = .ok (.getfield 176, 3) := by decide +kernel
theorem d_MO_local_9 : decode c_MO_local 9 = .ok (.iconst 1, 1) := by decide +kernel
theorem d_MO_local_10 : decode c_MO_local 10 = .ok (.if_icmp .ne 25, 3) := by decide +kernel
theorem d_MO_local_13 : decode c_MO_local 13 = .ok (.iload_n 1, 1) := by decide +kernel
theorem d_MO_local_14 : decode c_MO_local 14 = .ok (.ifCond .lt 21, 3) := by decide +kernel
theorem d_MO_local_17 : decode c_MO_local 17 = .ok (.iload_n 1, 1) := by decide +kernel
theorem d_MO_local_18 : decode c_MO_local 18 = .ok (.aload_n 0, 1) := by decide +kernel
theorem d_MO_local_19 : decode c_MO_local 19 = .ok (.getfield 22, 3) := by decide +kernel
theorem d_MO_local_22 : decode c_MO_local 22 = .ok (.aload_n 0, 1) := by decide +kernel
theorem d_MO_local_23 : decode c_MO_local 23 = .ok (.getfield 78, 3) := by decide +kernel
theorem d_MO_local_26 : decode c_MO_local 26 = .ok (.aload_n 0, 1) := by decide +kernel
theorem d_MO_local_27 : decode c_MO_local 27 = .ok (.invokevirtual 194, 3) := by decide +kernel
theorem d_MO_local_30 : decode c_MO_local 30 = .ok (.iaload, 1) := by decide +kernel
theorem d_MO_local_31 : decode c_MO_local 31 = .ok (.iaload, 1) := by decide +kernel
theorem d_MO_local_32 : decode c_MO_local 32 = .ok (.if_icmp .lt 5, 3) := by decide +kernel
theorem d_MO_local_35 : decode c_MO_local 35 = .ok (.iconst 0, 1) := by decide +kernel
theorem d_MO_local_36 : decode c_MO_local 36 = .ok (.ireturn, 1) := by decide +kernel
theorem d_MO_local_37 : decode c_MO_local 37 = .ok (.aload_n 0, 1) := by decide +kernel
theorem d_MO_local_38 : decode c_MO_local 38 = .ok (.getfield 75, 3) := by decide +kernel
theorem d_MO_local_41 : decode c_MO_local 41 = .ok (.aload_n 0, 1) := by decide +kernel
theorem d_MO_local_42 : decode c_MO_local 42 = .ok (.getfield 87, 3) := by decide +kernel
theorem d_MO_local_45 : decode c_MO_local 45 = .ok (.aload_n 0, 1) := by decide +kernel
theorem d_MO_local_46 : decode c_MO_local 46 = .ok (.invokevirtual 194, 3) := by decide +kernel
theorem d_MO_local_49 : decode c_MO_local 49 = .ok (.iaload, 1) := by decide +kernel
theorem d_MO_local_50 : decode c_MO_local 50 = .ok (.iload_n 1, 1) := by decide +kernel
theorem d_MO_local_51 : decode c_MO_local 51 = .ok (.iadd, 1) := by decide +kernel
theorem d_MO_local_52 : decode c_MO_local 52 = .ok (.iaload, 1) := by decide +kernel
theorem d_MO_local_53 : decode c_MO_local 53 = .ok (.ireturn, 1) := by decide +kernel
theorem d_MO_stack_0 : decode c_MO_stack 0 = .ok (.aload_n 0, 1) := by decide +kernel
theorem d_MO_stack_1 : decode c_MO_stack 1 = .ok (.iconst 0, 1) := by decide +kernel
theorem d_MO_stack_2 : decode c_MO_stack 2 = .ok (.putfield 90, 3) := by decide +kernel
theorem d_MO_stack_5 : decode c_MO_stack 5 = .ok (.aload_n 0, 1) := by decide +kernel
theorem d_MO_stack_6 : decode c_MO_stack 6 = .ok (.getfield 176, 3) := by decide +kernel
theorem d_MO_stack_9 : decode c_MO_stack 9 = .ok (.iconst 1, 1) := by decide +kernel
theorem d_MO_stack_10 : decode c_MO_stack 10 = .ok (.if_icmp .ne 20, 3) := by decide +kernel
theorem d_MO_stack_13 : decode c_MO_stack 13 = .ok (.iload_n 1, 1) := by decide +kernel
theorem d_MO_stack_14 : decode c_MO_stack 14 = .ok (.ifCond .lt 16, 3) := by decide +kernel
theorem d_MO_stack_17 : decode c_MO_stack 17 = .ok (.iload_n 1, 1) := by decide +kernel
theorem d_MO_stack_18 : decode c_MO_stack 18 = .ok (.aload_n 0, 1) := by decide +kernel
theorem d_MO_stack_19 : decode c_MO_stack 19 = .ok (.getfield 84, 3) := by decide +kernel
theorem d_MO_stack_22 : decode c_MO_stack 22 = .ok (.aload_n 0, 1) := by decide +kernel
theorem d_MO_stack_23 : decode c_MO_stack 23 = .ok (.invokevirtual 194, 3) := by decide +kernel
theorem d_MO_stack_26 : decode c_MO_stack 26 = .ok (.iaload, 1) := by decide +kernel
theorem d_MO_stack_27 : decode c_MO_stack 27 = .ok (.if_icmp .lt 5, 3) := by decide +kernel
theorem d_MO_stack_30 : decode c_MO_stack 30 = .ok (.iconst 0, 1) := by decide +kernel
theorem d_MO_stack_31 : decode c_MO_stack 31 = .ok (.ireturn, 1) := by decide +kernel
theorem d_MO_stack_32 : decode c_MO_stack 32 = .ok (.aload_n 0, 1) := by decide +kernel
theorem d_MO_stack_33 : decode c_MO_stack 33 = .ok (.getfield 75, 3) := by decide +kernel
theorem d_MO_stack_36 : decode c_MO_stack 36 = .ok (.aload_n 0, 1) := by decide +kernel
theorem d_MO_stack_37 : decode c_MO_stack 37 = .ok (.invokevirtual 198, 3) := by decide +kernel
theorem d_MO_stack_40 : decode c_MO_stack 40 = .ok (.iconst 1, 1) := by decide +kernel
theorem d_MO_stack_41 : decode c_MO_stack 41 = .ok (.isub, 1) := by decide +kernel
theorem d_MO_stack_42 : decode c_MO_stack 42 = .ok (.iload_n 1, 1) := by decide +kernel
theorem d_MO_stack_43 : decode c_MO_stack 43 = .ok (.isub, 1) := by decide +kernel
theorem d_MO_stack_44 : decode c_MO_stack 44 = .ok (.iaload, 1) := by decide +kernel
theorem d_MO_stack_45 : decode c_MO_stack 45 = .ok (.ireturn, 1) := by decide +kernel
theorem d_MO_getStatic_0 : decode c_MO_getStatic 0 = .ok (.aload_n 0, 1) := by decide +kernel
theorem d_MO_getStatic_1 : decode c_MO_getStatic 1 = .ok (.iconst 0, 1) := by decide +kernel
theorem d_MO_getStatic_2 : decode c_MO_getStatic 2 = .ok (.putfield 90, 3) := by decide +kernel
theorem d_MO_getStatic_5 : decode c_MO_getStatic 5 = .ok (.iload_n 1, 1) := by decide +kernel
theorem d_MO_getStatic_6 : decode c_MO_getStatic 6 = .ok (.iconst 0, 1) := by decide +kernel
theorem d_MO_getStatic_7 : decode c_MO_getStatic 7 = .ok (.bipush 7, 2) := by decide +kernel
theorem d_MO_getStatic_9 : decode c_MO_getStatic 9 = .ok (.invokestatic 100, 3) := by decide +kernel
theorem d_MO_getStatic_12 : decode c_MO_getStatic 12 = .ok (.ifCond .eq 12, 3) := by decide +kernel
theorem d_MO_getStatic_15 : decode c_MO_getStatic 15 = .ok (.aload_n 0, 1) := by decide +kernel
theorem d_MO_getStatic_16 : decode c_MO_getStatic 16 = .ok (.getfield 69, 3) := by decide +kernel
theorem d_MO_getStatic_19 : decode c_MO_getStatic 19 = .ok (.iload_n 1, 1) := by decide +kernel
theorem d_MO_getStatic_20 : decode c_MO_getStatic 20 = .ok (.iaload, 1) := by decide +kernel
theorem d_MO_getStatic_21 : decode c_MO_getStatic 21 = .ok (.goto 4, 3) := by decide +kernel
theorem d_MO_getStatic_24 : decode c_MO_getStatic 24 = .ok (.iconst 0, 1) := by decide +kernel
theorem d_MO_getStatic_25 : decode c_MO_getStatic 25 = .ok (.ireturn, 1) := by decide +kernel
theorem d_MO_heap_0 : decode c_MO_heap 0 = .ok (.aload_n 0, 1) := by decide +kernel
theorem d_MO_heap_1 : decode c_MO_heap 1 = .ok (.iconst 0, 1) := by decide +kernel
theorem d_MO_heap_2 : decode c_MO_heap 2 = .ok (.putfield 90, 3) := by decide +kernel
theorem d_MO_heap_5 : decode c_MO_heap 5 = .ok (.iload_n 1, 1) := by decide +kernel
theorem d_MO_heap_6 : decode c_MO_heap 6 = .ok (.iconst (-1), 1) := by decide +kernel
theorem d_MO_heap_7 : decode c_MO_heap 7 = .ok (.if_icmp .ne 10, 3) := by decide +kernel
theorem d_MO_heap_10 : decode c_MO_heap 10 = .ok (.aload_n 0, 1) := by decide +kernel
theorem d_MO_heap_11 : decode c_MO_heap 11 = .ok (.getfield 185, 3) := by decide +kernel
theorem d_MO_heap_14 : decode c_MO_heap 14 = .ok (.goto 27, 3) := by decide +kernel
theorem d_MO_heap_17 : decode c_MO_heap 17 = .ok (.iload_n 1, 1) := by decide +kernel
theorem d_MO_heap_18 : decode c_MO_heap 18 = .ok (.iconst 0, 1) := by decide +kernel
theorem d_MO_heap_19 : decode c_MO_heap 19 = .ok (.aload_n 0, 1) := by decide +kernel
theorem d_MO_heap_20 : decode c_MO_heap 20 = .ok (.getfield 185, 3) := by decide +kernel
theorem d_MO_heap_23 : decode c_MO_heap 23 = .ok (.iconst 1, 1) := by decide +kernel
theorem d_MO_heap_24 : decode c_MO_heap 24 = .ok (.isub, 1) := by decide +kernel
theorem d_MO_heap_25 : decode c_MO_heap 25 = .ok (.invokestatic 100, 3) := by decide +kernel
theorem d_MO_heap_28 : decode c_MO_heap 28 = .ok (.ifCond .eq 12, 3) := by decide +kernel
theorem d_MO_heap_31 : decode c_MO_heap 31 = .ok (.aload_n 0, 1) := by decide +kernel
theorem d_MO_heap_32 : decode c_MO_heap 32 = .ok (.getfield 72, 3) := by decide +kernel
theorem d_MO_heap_35 : decode c_MO_heap 35 = .ok (.iload_n 1, 1) := by decide +kernel
theorem d_MO_heap_36 : decode c_MO_heap 36 = .ok (.iaload, 1) := by decide +kernel
theorem d_MO_heap_37 : decode c_MO_heap 37 = .ok (.goto 4, 3) := by decide +kernel
theorem d_MO_heap_40 : decode c_MO_heap 40 = .ok (.iconst 0, 1) := by decide +kernel
theorem d_MO_heap_41 : decode c_MO_heap 41 = .ok (.ireturn, 1) := by decide +kernel
theorem d_MO_type_0 : decode c_MO_type 0 = .ok (.aload_n 0, 1) := by decide +kernel
theorem d_MO_type_1 : decode c_MO_type 1 = .ok (.iconst 0, 1) := by decide +kernel
theorem d_MO_type_2 : decode c_MO_type 2 = .ok (.putfield 90, 3) := by decide +kernel
theorem d_MO_type_5 : decode c_MO_type 5 = .ok (.aload_n 0, 1) := by decide +kernel
theorem d_MO_type_6 : decode c_MO_type 6 = .ok (.getfield 96, 3) := by decide +kernel
theorem d_MO_type_9 : decode c_MO_type 9 = .ok (.ifCond .eq 46, 3) := by decide +kernel
theorem d_MO_type_12 : decode c_MO_type 12 = .ok (.iload_n 1, 1) := by decide +kernel
theorem d_MO_type_13 : decode c_MO_type 13 = .ok (.iconst 0, 1) := by decide +kernel
theorem d_MO_type_14 : decode c_MO_type 14 = .ok (.aload_n 0, 1) := by decide +kernel
theorem d_MO_type_15 : decode c_MO_type 15 = .ok (.getfield 104, 3) := by decide +kernel
theorem d_MO_type_18 : decode c_MO_type 18 = .ok (.iconst 1, 1) := by decide +kernel
theorem d_MO_type_19 : decode c_MO_type 19 = .ok (.isub, 1) := by decide +kernel
theorem d_MO_type_20 : decode c_MO_type 20 = .ok (.invokestatic 100, 3) := by decide +kernel
theorem d_MO_type_23 : decode c_MO_type 23 = .ok (.ifCond .eq 32, 3) := by decide +kernel
theorem d_MO_type_26 : decode c_MO_type 26 = .ok (.aload_n 0, 1) := by decide +kernel
theorem d_MO_type_27 : decode c_MO_type 27 = .ok (.iload_n 1, 1) := by decide +kernel
theorem d_MO_type_28 : decode c_MO_type 28 = .ok (.iload_n 2, 1) := by decide +kernel
theorem d_MO_type_29 : decode c_MO_type 29 = .ok (.invokevirtual 131, 3) := by decide +kernel
theorem d_MO_type_32 : decode c_MO_type 32 = .ok (.ifCond .eq 23, 3) := by decide +kernel
theorem d_MO_type_35 : decode c_MO_type 35 = .ok (.aload_n 0, 1) := by decide +kernel
theorem d_MO_type_36 : decode c_MO_type 36 = .ok (.getfield 54, 3) := by decide +kernel
theorem d_MO_type_39 : decode c_MO_type 39 = .ok (.aload_n 0, 1) := by decide +kernel
theorem d_MO_type_40 : decode c_MO_type 40 = .ok (.getfield 13, 3) := by decide +kernel
theorem d_MO_type_43 : decode c_MO_type 43 = .ok (.iload_n 1, 1) := by decide +kernel
theorem d_MO_type_44 : decode c_MO_type 44 = .ok (.iaload, 1) := by decide +kernel
theorem d_MO_type_45 : decode c_MO_type 45 = .ok (.iload_n 2, 1) := by decide +kernel
theorem d_MO_type_46 : decode c_MO_type 46 = .ok (.iadd, 1) := by decide +kernel
theorem d_MO_type_47 : decode c_MO_type 47 = .ok (.baload, 1) := by decide +kernel
theorem d_MO_type_48 : decode c_MO_type 48 = .ok (.ifCond .eq 7, 3) := by decide +kernel
theorem d_MO_type_51 : decode c_MO_type 51 = .ok (.iload_n 3, 1) := by decide +kernel
theorem d_MO_type_52 : decode c_MO_type 52 = .ok (.ifCond .ge 5, 3) := by decide +kernel
theorem d_MO_type_55 : decode c_MO_type 55 = .ok (.iconst (-1), 1) := by decide +kernel
theorem d_MO_type_56 : decode c_MO_type 56 = .ok (.ireturn, 1) := by decide +kernel
theorem d_MO_type_57 : decode c_MO_type 57 = .ok (.aload_n 0, 1) := by decide +kernel
theorem d_MO_type_58 : decode c_MO_type 58 = .ok (.getfield 13, 3) := by decide +kernel
theorem d_MO_type_61 : decode c_MO_type 61 = .ok (.iload_n 1, 1) := by decide +kernel
theorem d_MO_type_62 : decode c_MO_type 62 = .ok (.iaload, 1) := by decide +kernel
theorem d_MO_type_63 : decode c_MO_type 63 = .ok (.iload_n 2, 1) := by decide +kernel
theorem d_MO_type_64 : decode c_MO_type 64 = .ok (.iadd, 1) := by decide +kernel
theorem d_MO_type_65 : decode c_MO_type 65 = .ok (.istore 4, 2) := by decide +kernel
theorem d_MO_type_67 : decode c_MO_type 67 = .ok (.iload_n 3, 1) := by decide +kernel
theorem d_MO_type_68 : decode c_MO_type 68 = .ok (.aload_n 0, 1) := by decide +kernel
theorem d_MO_type_69 : decode c_MO_type 69 = .ok (.getfield 22, 3) := by decide +kernel
theorem d_MO_type_72 : decode c_MO_type 72 = .ok (.iload_n 1, 1) := by decide +kernel
theorem d_MO_type_73 : decode c_MO_type 73 = .ok (.iaload, 1) := by decide +kernel
theorem d_MO_type_74 : decode c_MO_type 74 = .ok (.if_icmp .ge 16, 3) := by decide +kernel
theorem d_MO_type_77 : decode c_MO_type 77 = .ok (.aload_n 0, 1) := by decide +kernel
theorem d_MO_type_78 : decode c_MO_type 78 = .ok (.getfield 57, 3) := by decide +kernel
theorem d_MO_type_81 : decode c_MO_type 81 = .ok (.bipush 16, 2) := by decide +kernel
theorem d_MO_type_83 : decode c_MO_type 83 = .ok (.iload 4, 2) := by decide +kernel
theorem d_MO_type_85 : decode c_MO_type 85 = .ok (.imul, 1) := by decide +kernel
theorem d_MO_type_86 : decode c_MO_type 86 = .ok (.iload_n 3, 1) := by decide +kernel
theorem d_MO_type_87 : decode c_MO_type 87 = .ok (.iadd, 1) := by decide +kernel
theorem d_MO_type_88 : decode c_MO_type 88 = .ok (.iaload, 1) := by decide +kernel
theorem d_MO_type_89 : decode c_MO_type 89 = .ok (.ireturn, 1) := by decide +kernel
theorem d_MO_type_90 : decode c_MO_type 90 = .ok (.iload_n 3, 1) := by decide +kernel
theorem d_MO_type_91 : decode c_MO_type 91 = .ok (.aload_n 0, 1) := by decide +kernel
theorem d_MO_type_92 : decode c_MO_type 92 = .ok (.getfield 22, 3) := by decide +kernel
theorem d_MO_type_95 : decode c_MO_type 95 = .ok (.iload_n 1, 1) := by decide +kernel
theorem d_MO_type_96 : decode c_MO_type 96 = .ok (.iaload, 1) := by decide +kernel
theorem d_MO_type_97 : decode c_MO_type 97 = .ok (.aload_n 0, 1) := by decide +kernel
theorem d_MO_type_98 : decode c_MO_type 98 = .ok (.getfield 60, 3) := by decide +kernel
theorem d_MO_type_101 : decode c_MO_type 101 = .ok (.iload 4, 2) := by decide +kernel
theorem d_MO_type_103 : decode c_MO_type 103 = .ok (.iaload, 1) := by decide +kernel
theorem d_MO_type_104 : decode c_MO_type 104 = .ok (.iadd, 1) := by decide +kernel
theorem d_MO_type_105 : decode c_MO_type 105 = .ok (.if_icmp .ge 28, 3) := by decide +kernel
theorem d_MO_type_108 : decode c_MO_type 108 = .ok (.aload_n 0, 1) := by decide +kernel
theorem d_MO_type_109 : decode c_MO_type 109 = .ok (.getfield 57, 3) := by decide +kernel
theorem d_MO_type_112 : decode c_MO_type 112 = .ok (.bipush 16, 2) := by decide +kernel
theorem d_MO_type_114 : decode c_MO_type 114 = .ok (.iload 4, 2) := by decide +kernel
theorem d_MO_type_116 : decode c_MO_type 116 = .ok (.imul, 1) := by decide +kernel
theorem d_MO_type_117 : decode c_MO_type 117 = .ok (.bipush 8, 2) := by decide +kernel
theorem d_MO_type_119 : decode c_MO_type 119 = .ok (.iadd, 1) := by decide +kernel
theorem d_MO_type_120 : decode c_MO_type 120 = .ok (.iload_n 3, 1) := by decide +kernel
theorem d_MO_type_121 : decode c_MO_type 121 = .ok (.iadd, 1) := by decide +kernel
theorem d_MO_type_122 : decode c_MO_type 122 = .ok (.aload_n 0, 1) := by decide +kernel
theorem d_MO_type_123 : decode c_MO_type 123 = .ok (.getfield 22, 3) := by decide +kernel
theorem d_MO_type_126 : decode c_MO_type 126 = .ok (.iload_n 1, 1) := by decide +kernel
theorem d_MO_type_127 : decode c_MO_type 127 = .ok (.iaload, 1) := by decide +kernel
theorem d_MO_type_128 : decode c_MO_type 128 = .ok (.isub, 1) := by decide +kernel
theorem d_MO_type_129 : decode c_MO_type 129 = .ok (.iaload, 1) := by decide +kernel
theorem d_MO_type_130 : decode c_MO_type 130 = .ok (.goto 4, 3) := by decide +kernel
theorem d_MO_type_133 : decode c_MO_type 133 = .ok (.iconst (-1), 1) := by decide +kernel
theorem d_MO_type_134 : decode c_MO_type 134 = .ok (.ireturn, 1) := by decide +kernel
