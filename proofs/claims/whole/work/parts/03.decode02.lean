/-! decode rows; written by wip/whole/gen/methods.py -/
theorem d_MA_step_0 : decode c_MA_step 0 = .ok (.aload_n 0, 1) := by decide +kernel
theorem d_MA_step_1 : decode c_MA_step 1 = .ok (.getfield 18, 3) := by decide +kernel
theorem d_MA_step_4 : decode c_MA_step 4 = .ok (.aload_n 0, 1) := by decide +kernel
theorem d_MA_step_5 : decode c_MA_step 5 = .ok (.getfield 9, 3) := by decide +kernel
theorem d_MA_step_8 : decode c_MA_step 8 = .ok (.aload_n 0, 1) := by decide +kernel
theorem d_MA_step_9 : decode c_MA_step 9 = .ok (.getfield 43, 3) := by decide +kernel
theorem d_MA_step_12 : decode c_MA_step 12 = .ok (.getfield 39, 3) := by decide +kernel
theorem d_MA_step_15 : decode c_MA_step 15 = .ok (.getfield 110, 3) := by decide +kernel
theorem d_MA_step_18 : decode c_MA_step 18 = .ok (.aload_n 0, 1) := by decide +kernel
theorem d_MA_step_19 : decode c_MA_step 19 = .ok (.getfield 43, 3) := by decide +kernel
theorem d_MA_step_22 : decode c_MA_step 22 = .ok (.getfield 92, 3) := by decide +kernel
theorem d_MA_step_25 : decode c_MA_step 25 = .ok (.iadd, 1) := by decide +kernel
theorem d_MA_step_26 : decode c_MA_step 26 = .ok (.invokevirtual 113, 3) := by decide +kernel
theorem d_MA_step_29 : decode c_MA_step 29 = .ok (.aload_n 0, 1) := by decide +kernel
theorem d_MA_step_30 : decode c_MA_step 30 = .ok (.getfield 18, 3) := by decide +kernel
theorem d_MA_step_33 : decode c_MA_step 33 = .ok (.getfield 117, 3) := by decide +kernel
theorem d_MA_step_36 : decode c_MA_step 36 = .ok (.invokestatic 120, 3) := by decide +kernel
theorem d_MA_step_39 : decode c_MA_step 39 = .ok (.ifCond .eq 10, 3) := by decide +kernel
theorem d_MA_step_42 : decode c_MA_step 42 = .ok (.aload_n 0, 1) := by decide +kernel
theorem d_MA_step_43 : decode c_MA_step 43 = .ok (.invokevirtual 126, 3) := by decide +kernel
theorem d_MA_step_46 : decode c_MA_step 46 = .ok (.goto 101, 3) := by decide +kernel
theorem d_MA_step_49 : decode c_MA_step 49 = .ok (.aload_n 0, 1) := by decide +kernel
theorem d_MA_step_50 : decode c_MA_step 50 = .ok (.getfield 18, 3) := by decide +kernel
theorem d_MA_step_53 : decode c_MA_step 53 = .ok (.getfield 117, 3) := by decide +kernel
theorem d_MA_step_56 : decode c_MA_step 56 = .ok (.invokestatic 129, 3) := by decide +kernel
theorem d_MA_step_59 : decode c_MA_step 59 = .ok (.ifCond .eq 49, 3) := by decide +kernel
theorem d_MA_step_62 : decode c_MA_step 62 = .ok (.aload_n 0, 1) := by decide +kernel
theorem d_MA_step_63 : decode c_MA_step 63 = .ok (.getfield 43, 3) := by decide +kernel
theorem d_MA_step_66 : decode c_MA_step 66 = .ok (.dup, 1) := by decide +kernel
theorem d_MA_step_67 : decode c_MA_step 67 = .ok (.getfield 92, 3) := by decide +kernel
theorem d_MA_step_70 : decode c_MA_step 70 = .ok (.aload_n 0, 1) := by decide +kernel
theorem d_MA_step_71 : decode c_MA_step 71 = .ok (.aload_n 0, 1) := by decide +kernel
theorem d_MA_step_72 : decode c_MA_step 72 = .ok (.getfield 18, 3) := by decide +kernel
theorem d_MA_step_75 : decode c_MA_step 75 = .ok (.getfield 117, 3) := by decide +kernel
theorem d_MA_step_78 : decode c_MA_step 78 = .ok (.invokevirtual 132, 3) := by decide +kernel
theorem d_MA_step_81 : decode c_MA_step 81 = .ok (.ifCond .eq 13, 3) := by decide +kernel
theorem d_MA_step_84 : decode c_MA_step 84 = .ok (.aload_n 0, 1) := by decide +kernel
theorem d_MA_step_85 : decode c_MA_step 85 = .ok (.getfield 18, 3) := by decide +kernel
theorem d_MA_step_88 : decode c_MA_step 88 = .ok (.getfield 135, 3) := by decide +kernel
theorem d_MA_step_91 : decode c_MA_step 91 = .ok (.goto 10, 3) := by decide +kernel
theorem d_MA_step_94 : decode c_MA_step 94 = .ok (.aload_n 0, 1) := by decide +kernel
theorem d_MA_step_95 : decode c_MA_step 95 = .ok (.getfield 18, 3) := by decide +kernel
theorem d_MA_step_98 : decode c_MA_step 98 = .ok (.getfield 107, 3) := by decide +kernel
theorem d_MA_step_101 : decode c_MA_step 101 = .ok (.iadd, 1) := by decide +kernel
theorem d_MA_step_102 : decode c_MA_step 102 = .ok (.putfield 92, 3) := by decide +kernel
theorem d_MA_step_105 : decode c_MA_step 105 = .ok (.goto 42, 3) := by decide +kernel
theorem d_MA_step_108 : decode c_MA_step 108 = .ok (.aload_n 0, 1) := by decide +kernel
theorem d_MA_step_109 : decode c_MA_step 109 = .ok (.getfield 18, 3) := by decide +kernel
theorem d_MA_step_112 : decode c_MA_step 112 = .ok (.getfield 117, 3) := by decide +kernel
theorem d_MA_step_115 : decode c_MA_step 115 = .ok (.invokestatic 138, 3) := by decide +kernel
theorem d_MA_step_118 : decode c_MA_step 118 = .ok (.ifCond .eq 25, 3) := by decide +kernel
theorem d_MA_step_121 : decode c_MA_step 121 = .ok (.aload_n 0, 1) := by decide +kernel
theorem d_MA_step_122 : decode c_MA_step 122 = .ok (.aload_n 0, 1) := by decide +kernel
theorem d_MA_step_123 : decode c_MA_step 123 = .ok (.getfield 43, 3) := by decide +kernel
theorem d_MA_step_126 : decode c_MA_step 126 = .ok (.getfield 76, 3) := by decide +kernel
theorem d_MA_step_129 : decode c_MA_step 129 = .ok (.aload_n 0, 1) := by decide +kernel
theorem d_MA_step_130 : decode c_MA_step 130 = .ok (.getfield 18, 3) := by decide +kernel
theorem d_MA_step_133 : decode c_MA_step 133 = .ok (.getfield 135, 3) := by decide +kernel
theorem d_MA_step_136 : decode c_MA_step 136 = .ok (.iadd, 1) := by decide +kernel
theorem d_MA_step_137 : decode c_MA_step 137 = .ok (.invokevirtual 141, 3) := by decide +kernel
theorem d_MA_step_140 : decode c_MA_step 140 = .ok (.goto 7, 3) := by decide +kernel
theorem d_MA_step_143 : decode c_MA_step 143 = .ok (.aload_n 0, 1) := by decide +kernel
theorem d_MA_step_144 : decode c_MA_step 144 = .ok (.invokevirtual 144, 3) := by decide +kernel
theorem d_MA_step_147 : decode c_MA_step 147 = .ok (.return_, 1) := by decide +kernel
theorem d_FW_run_0 : decode c_FW_run 0 = .ok (.iload_n 1, 1) := by decide +kernel
theorem d_FW_run_1 : decode c_FW_run 1 = .ok (.ifCond .lt 9, 3) := by decide +kernel
theorem d_FW_run_4 : decode c_FW_run 4 = .ok (.iload_n 1, 1) := by decide +kernel
theorem d_FW_run_5 : decode c_FW_run 5 = .ok (.bipush 100, 2) := by decide +kernel
theorem d_FW_run_7 : decode c_FW_run 7 = .ok (.if_icmp .le 11, 3) := by decide +kernel
theorem d_FW_run_10 : decode c_FW_run 10 = .ok (.new 72, 3) := by decide +kernel
theorem d_FW_run_13 : decode c_FW_run 13 = .ok (.dup, 1) := by decide +kernel
theorem d_FW_run_14 : decode c_FW_run 14 = .ok (.invokespecial 74, 3) := by decide +kernel
theorem d_FW_run_17 : decode c_FW_run 17 = .ok (.athrow, 1) := by decide +kernel
theorem d_FW_run_18 : decode c_FW_run 18 = .ok (.iconst 0, 1) := by decide +kernel
theorem d_FW_run_19 : decode c_FW_run 19 = .ok (.istore_n 2, 1) := by decide +kernel
theorem d_FW_run_20 : decode c_FW_run 20 = .ok (.iload_n 2, 1) := by decide +kernel
theorem d_FW_run_21 : decode c_FW_run 21 = .ok (.iload_n 1, 1) := by decide +kernel
theorem d_FW_run_22 : decode c_FW_run 22 = .ok (.if_icmp .ge 26, 3) := by decide +kernel
theorem d_FW_run_25 : decode c_FW_run 25 = .ok (.aload_n 0, 1) := by decide +kernel
theorem d_FW_run_26 : decode c_FW_run 26 = .ok (.getfield 35, 3) := by decide +kernel
theorem d_FW_run_29 : decode c_FW_run 29 = .ok (.invokevirtual 114, 3) := by decide +kernel
theorem d_FW_run_32 : decode c_FW_run 32 = .ok (.ifCond .eq 16, 3) := by decide +kernel
theorem d_FW_run_35 : decode c_FW_run 35 = .ok (.aload_n 0, 1) := by decide +kernel
theorem d_FW_run_36 : decode c_FW_run 36 = .ok (.getfield 35, 3) := by decide +kernel
theorem d_FW_run_39 : decode c_FW_run 39 = .ok (.invokevirtual 118, 3) := by decide +kernel
theorem d_FW_run_42 : decode c_FW_run 42 = .ok (.iinc 2 1, 3) := by decide +kernel
theorem d_FW_run_45 : decode c_FW_run 45 = .ok (.goto (-25), 3) := by decide +kernel
theorem d_FW_run_48 : decode c_FW_run 48 = .ok (.iload_n 2, 1) := by decide +kernel
theorem d_FW_run_49 : decode c_FW_run 49 = .ok (.ireturn, 1) := by decide +kernel
theorem d_FW_state_0 : decode c_FW_state 0 = .ok (.aload_n 0, 1) := by decide +kernel
theorem d_FW_state_1 : decode c_FW_state 1 = .ok (.getfield 35, 3) := by decide +kernel
theorem d_FW_state_4 : decode c_FW_state 4 = .ok (.getfield 121, 3) := by decide +kernel
theorem d_FW_state_7 : decode c_FW_state 7 = .ok (.ireturn, 1) := by decide +kernel
theorem d_FW_result_0 : decode c_FW_result 0 = .ok (.aload_n 0, 1) := by decide +kernel
theorem d_FW_result_1 : decode c_FW_result 1 = .ok (.getfield 35, 3) := by decide +kernel
theorem d_FW_result_4 : decode c_FW_result 4 = .ok (.getfield 124, 3) := by decide +kernel
theorem d_FW_result_7 : decode c_FW_result 7 = .ok (.ireturn, 1) := by decide +kernel
theorem d_FW_depth_0 : decode c_FW_depth 0 = .ok (.aload_n 0, 1) := by decide +kernel
theorem d_FW_depth_1 : decode c_FW_depth 1 = .ok (.getfield 35, 3) := by decide +kernel
theorem d_FW_depth_4 : decode c_FW_depth 4 = .ok (.getfield 127, 3) := by decide +kernel
theorem d_FW_depth_7 : decode c_FW_depth 7 = .ok (.ireturn, 1) := by decide +kernel
theorem d_MA_frameBelow_0 : decode c_MA_frameBelow 0 = .ok (.aload_n 0, 1) := by decide +kernel
theorem d_MA_frameBelow_1 : decode c_MA_frameBelow 1 = .ok (.getfield 28, 3) := by decide +kernel
theorem d_MA_frameBelow_4 : decode c_MA_frameBelow 4 = .ok (.aload_n 0, 1) := by decide +kernel
theorem d_MA_frameBelow_5 : decode c_MA_frameBelow 5 = .ok (.getfield 82, 3) := by decide +kernel
theorem d_MA_frameBelow_8 : decode c_MA_frameBelow 8 = .ok (.iconst 1, 1) := by decide +kernel
theorem d_MA_frameBelow_9 : decode c_MA_frameBelow 9 = .ok (.isub, 1) := by decide +kernel
theorem d_MA_frameBelow_10 : decode c_MA_frameBelow 10 = .ok (.iload_n 1, 1) := by decide +kernel
theorem d_MA_frameBelow_11 : decode c_MA_frameBelow 11 = .ok (.isub, 1) := by decide +kernel
theorem d_MA_frameBelow_12 : decode c_MA_frameBelow 12 = .ok (.aaload, 1) := by decide +kernel
theorem d_MA_frameBelow_13 : decode c_MA_frameBelow 13 = .ok (.areturn, 1) := by decide +kernel
theorem d_FW_frame_0 : decode c_FW_frame 0 = .ok (.iload_n 1, 1) := by decide +kernel
theorem d_FW_frame_1 : decode c_FW_frame 1 = .ok (.ifCond .lt 14, 3) := by decide +kernel
theorem d_FW_frame_4 : decode c_FW_frame 4 = .ok (.iload_n 1, 1) := by decide +kernel
theorem d_FW_frame_5 : decode c_FW_frame 5 = .ok (.aload_n 0, 1) := by decide +kernel
theorem d_FW_frame_6 : decode c_FW_frame 6 = .ok (.getfield 35, 3) := by decide +kernel
theorem d_FW_frame_9 : decode c_FW_frame 9 = .ok (.getfield 127, 3) := by decide +kernel
theorem d_FW_frame_12 : decode c_FW_frame 12 = .ok (.if_icmp .lt 5, 3) := by decide +kernel
theorem d_FW_frame_15 : decode c_FW_frame 15 = .ok (.iconst (-1), 1) := by decide +kernel
theorem d_FW_frame_16 : decode c_FW_frame 16 = .ok (.ireturn, 1) := by decide +kernel
theorem d_FW_frame_17 : decode c_FW_frame 17 = .ok (.aload_n 0, 1) := by decide +kernel
theorem d_FW_frame_18 : decode c_FW_frame 18 = .ok (.getfield 35, 3) := by decide +kernel
theorem d_FW_frame_21 : decode c_FW_frame 21 = .ok (.iload_n 1, 1) := by decide +kernel
theorem d_FW_frame_22 : decode c_FW_frame 22 = .ok (.invokevirtual 130, 3) := by decide +kernel
theorem d_FW_frame_25 : decode c_FW_frame 25 = .ok (.astore_n 3, 1) := by decide +kernel
theorem d_FW_frame_26 : decode c_FW_frame 26 = .ok (.iload_n 2, 1) := by decide +kernel
theorem d_FW_frame_27 : decode c_FW_frame 27 = .ok (.tableswitch 43 0 2 #[25, 33, 38], 25) := by decide +kernel
theorem d_FW_frame_52 : decode c_FW_frame 52 = .ok (.aload_n 3, 1) := by decide +kernel
theorem d_FW_frame_53 : decode c_FW_frame 53 = .ok (.getfield 134, 3) := by decide +kernel
theorem d_FW_frame_56 : decode c_FW_frame 56 = .ok (.getfield 140, 3) := by decide +kernel
theorem d_FW_frame_59 : decode c_FW_frame 59 = .ok (.ireturn, 1) := by decide +kernel
theorem d_FW_frame_60 : decode c_FW_frame 60 = .ok (.aload_n 3, 1) := by decide +kernel
theorem d_FW_frame_61 : decode c_FW_frame 61 = .ok (.getfield 143, 3) := by decide +kernel
theorem d_FW_frame_64 : decode c_FW_frame 64 = .ok (.ireturn, 1) := by decide +kernel
theorem d_FW_frame_65 : decode c_FW_frame 65 = .ok (.aload_n 3, 1) := by decide +kernel
theorem d_FW_frame_66 : decode c_FW_frame 66 = .ok (.getfield 146, 3) := by decide +kernel
theorem d_FW_frame_69 : decode c_FW_frame 69 = .ok (.ireturn, 1) := by decide +kernel
theorem d_FW_frame_70 : decode c_FW_frame 70 = .ok (.iconst (-1), 1) := by decide +kernel
theorem d_FW_frame_71 : decode c_FW_frame 71 = .ok (.ireturn, 1) := by decide +kernel
theorem d_MA_showLocal_0 : decode c_MA_showLocal 0 = .ok (.aload_n 0, 1) := by decide +kernel
theorem d_MA_showLocal_1 : decode c_MA_showLocal 1 = .ok (.getfield 82, 3) := by decide +kernel
theorem d_MA_showLocal_4 : decode c_MA_showLocal 4 = .ok (.ifCond .le 38, 3) := by decide +kernel
theorem d_MA_showLocal_7 : decode c_MA_showLocal 7 = .ok (.iload_n 1, 1) := by decide +kernel
theorem d_MA_showLocal_8 : decode c_MA_showLocal 8 = .ok (.ifCond .lt 34, 3) := by decide +kernel
theorem d_MA_showLocal_11 : decode c_MA_showLocal 11 = .ok (.iload_n 1, 1) := by decide +kernel
theorem d_MA_showLocal_12 : decode c_MA_showLocal 12 = .ok (.aload_n 0, 1) := by decide +kernel
theorem d_MA_showLocal_13 : decode c_MA_showLocal 13 = .ok (.getfield 43, 3) := by decide +kernel
theorem d_MA_showLocal_16 : decode c_MA_showLocal 16 = .ok (.getfield 39, 3) := by decide +kernel
theorem d_MA_showLocal_19 : decode c_MA_showLocal 19 = .ok (.getfield 98, 3) := by decide +kernel
theorem d_MA_showLocal_22 : decode c_MA_showLocal 22 = .ok (.if_icmp .ge 20, 3) := by decide +kernel
theorem d_MA_showLocal_25 : decode c_MA_showLocal 25 = .ok (.aload_n 0, 1) := by decide +kernel
theorem d_MA_showLocal_26 : decode c_MA_showLocal 26 = .ok (.getfield 22, 3) := by decide +kernel
theorem d_MA_showLocal_29 : decode c_MA_showLocal 29 = .ok (.aload_n 0, 1) := by decide +kernel
theorem d_MA_showLocal_30 : decode c_MA_showLocal 30 = .ok (.getfield 43, 3) := by decide +kernel
theorem d_MA_showLocal_33 : decode c_MA_showLocal 33 = .ok (.getfield 76, 3) := by decide +kernel
theorem d_MA_showLocal_36 : decode c_MA_showLocal 36 = .ok (.iload_n 1, 1) := by decide +kernel
theorem d_MA_showLocal_37 : decode c_MA_showLocal 37 = .ok (.iadd, 1) := by decide +kernel
theorem d_MA_showLocal_38 : decode c_MA_showLocal 38 = .ok (.iaload, 1) := by decide +kernel
theorem d_MA_showLocal_39 : decode c_MA_showLocal 39 = .ok (.goto 4, 3) := by decide +kernel
theorem d_MA_showLocal_42 : decode c_MA_showLocal 42 = .ok (.iconst 0, 1) := by decide +kernel
theorem d_MA_showLocal_43 : decode c_MA_showLocal 43 = .ok (.ireturn, 1) := by decide +kernel
theorem d_FW_local_0 : decode c_FW_local 0 = .ok (.aload_n 0, 1) := by decide +kernel
theorem d_FW_local_1 : decode c_FW_local 1 = .ok (.getfield 35, 3) := by decide +kernel
theorem d_FW_local_4 : decode c_FW_local 4 = .ok (.iload_n 1, 1) := by decide +kernel
theorem d_FW_local_5 : decode c_FW_local 5 = .ok (.invokevirtual 149, 3) := by decide +kernel
theorem d_FW_local_8 : decode c_FW_local 8 = .ok (.ireturn, 1) := by decide +kernel
theorem d_MA_showStack_0 : decode c_MA_showStack 0 = .ok (.aload_n 0, 1) := by decide +kernel
theorem d_MA_showStack_1 : decode c_MA_showStack 1 = .ok (.getfield 82, 3) := by decide +kernel
theorem d_MA_showStack_4 : decode c_MA_showStack 4 = .ok (.ifCond .le 45, 3) := by decide +kernel
theorem d_MA_showStack_7 : decode c_MA_showStack 7 = .ok (.iload_n 1, 1) := by decide +kernel
theorem d_MA_showStack_8 : decode c_MA_showStack 8 = .ok (.ifCond .lt 41, 3) := by decide +kernel
theorem d_MA_showStack_11 : decode c_MA_showStack 11 = .ok (.iload_n 1, 1) := by decide +kernel
theorem d_MA_showStack_12 : decode c_MA_showStack 12 = .ok (.aload_n 0, 1) := by decide +kernel
theorem d_MA_showStack_13 : decode c_MA_showStack 13 = .ok (.getfield 43, 3) := by decide +kernel
theorem d_MA_showStack_16 : decode c_MA_showStack 16 = .ok (.getfield 95, 3) := by decide +kernel
theorem d_MA_showStack_19 : decode c_MA_showStack 19 = .ok (.if_icmp .ge 30, 3) := by decide +kernel
theorem d_MA_showStack_22 : decode c_MA_showStack 22 = .ok (.aload_n 0, 1) := by decide +kernel
theorem d_MA_showStack_23 : decode c_MA_showStack 23 = .ok (.getfield 22, 3) := by decide +kernel
theorem d_MA_showStack_26 : decode c_MA_showStack 26 = .ok (.aload_n 0, 1) := by decide +kernel
theorem d_MA_showStack_27 : decode c_MA_showStack 27 = .ok (.getfield 43, 3) := by decide +kernel
theorem d_MA_showStack_30 : decode c_MA_showStack 30 = .ok (.invokevirtual 101, 3) := by decide +kernel
theorem d_MA_showStack_33 : decode c_MA_showStack 33 = .ok (.aload_n 0, 1) := by decide +kernel
theorem d_MA_showStack_34 : decode c_MA_showStack 34 = .ok (.getfield 43, 3) := by decide +kernel
theorem d_MA_showStack_37 : decode c_MA_showStack 37 = .ok (.getfield 95, 3) := by decide +kernel
theorem d_MA_showStack_40 : decode c_MA_showStack 40 = .ok (.iadd, 1) := by decide +kernel
theorem d_MA_showStack_41 : decode c_MA_showStack 41 = .ok (.iconst 1, 1) := by decide +kernel
theorem d_MA_showStack_42 : decode c_MA_showStack 42 = .ok (.isub, 1) := by decide +kernel
theorem d_MA_showStack_43 : decode c_MA_showStack 43 = .ok (.iload_n 1, 1) := by decide +kernel
theorem d_MA_showStack_44 : decode c_MA_showStack 44 = .ok (.isub, 1) := by decide +kernel
theorem d_MA_showStack_45 : decode c_MA_showStack 45 = .ok (.iaload, 1) := by decide +kernel
theorem d_MA_showStack_46 : decode c_MA_showStack 46 = .ok (.goto 4, 3) := by decide +kernel
theorem d_MA_showStack_49 : decode c_MA_showStack 49 = .ok (.iconst 0, 1) := by decide +kernel
theorem d_MA_showStack_50 : decode c_MA_showStack 50 = .ok (.ireturn, 1) := by decide +kernel
theorem d_FW_stack_0 : decode c_FW_stack 0 = .ok (.aload_n 0, 1) := by decide +kernel
theorem d_FW_stack_1 : decode c_FW_stack 1 = .ok (.getfield 35, 3) := by decide +kernel
theorem d_FW_stack_4 : decode c_FW_stack 4 = .ok (.iload_n 1, 1) := by decide +kernel
theorem d_FW_stack_5 : decode c_FW_stack 5 = .ok (.invokevirtual 153, 3) := by decide +kernel
theorem d_FW_stack_8 : decode c_FW_stack 8 = .ok (.ireturn, 1) := by decide +kernel
theorem d_MA_showStatic_0 : decode c_MA_showStatic 0 = .ok (.iload_n 1, 1) := by decide +kernel
theorem d_MA_showStatic_1 : decode c_MA_showStatic 1 = .ok (.ifCond .lt 18, 3) := by decide +kernel
theorem d_MA_showStatic_4 : decode c_MA_showStatic 4 = .ok (.iload_n 1, 1) := by decide +kernel
theorem d_MA_showStatic_5 : decode c_MA_showStatic 5 = .ok (.bipush 8, 2) := by decide +kernel
theorem d_MA_showStatic_7 : decode c_MA_showStatic 7 = .ok (.if_icmp .ge 12, 3) := by decide +kernel
theorem d_MA_showStatic_10 : decode c_MA_showStatic 10 = .ok (.aload_n 0, 1) := by decide +kernel
theorem d_MA_showStatic_11 : decode c_MA_showStatic 11 = .ok (.getfield 47, 3) := by decide +kernel
theorem d_MA_showStatic_14 : decode c_MA_showStatic 14 = .ok (.iload_n 1, 1) := by decide +kernel
theorem d_MA_showStatic_15 : decode c_MA_showStatic 15 = .ok (.iaload, 1) := by decide +kernel
theorem d_MA_showStatic_16 : decode c_MA_showStatic 16 = .ok (.goto 4, 3) := by decide +kernel
theorem d_MA_showStatic_19 : decode c_MA_showStatic 19 = .ok (.iconst 0, 1) := by decide +kernel
theorem d_MA_showStatic_20 : decode c_MA_showStatic 20 = .ok (.ireturn, 1) := by decide +kernel
theorem d_FW_getStatic_0 : decode c_FW_getStatic 0 = .ok (.aload_n 0, 1) := by decide +kernel
theorem d_FW_getStatic_1 : decode c_FW_getStatic 1 = .ok (.getfield 35, 3) := by decide +kernel
theorem d_FW_getStatic_4 : decode c_FW_getStatic 4 = .ok (.iload_n 1, 1) := by decide +kernel
theorem d_FW_getStatic_5 : decode c_FW_getStatic 5 = .ok (.invokevirtual 156, 3) := by decide +kernel
theorem d_FW_getStatic_8 : decode c_FW_getStatic 8 = .ok (.ireturn, 1) := by decide +kernel
theorem d_MA_showHeap_0 : decode c_MA_showHeap 0 = .ok (.iload_n 1, 1) := by decide +kernel
theorem d_MA_showHeap_1 : decode c_MA_showHeap 1 = .ok (.ifCond .lt 20, 3) := by decide +kernel
theorem d_MA_showHeap_4 : decode c_MA_showHeap 4 = .ok (.iload_n 1, 1) := by decide +kernel
theorem d_MA_showHeap_5 : decode c_MA_showHeap 5 = .ok (.aload_n 0, 1) := by decide +kernel
theorem d_MA_showHeap_6 : decode c_MA_showHeap 6 = .ok (.getfield 64, 3) := by decide +kernel
theorem d_MA_showHeap_9 : decode c_MA_showHeap 9 = .ok (.if_icmp .ge 12, 3) := by decide +kernel
theorem d_MA_showHeap_12 : decode c_MA_showHeap 12 = .ok (.aload_n 0, 1) := by decide +kernel
theorem d_MA_showHeap_13 : decode c_MA_showHeap 13 = .ok (.getfield 50, 3) := by decide +kernel
theorem d_MA_showHeap_16 : decode c_MA_showHeap 16 = .ok (.iload_n 1, 1) := by decide +kernel
theorem d_MA_showHeap_17 : decode c_MA_showHeap 17 = .ok (.iaload, 1) := by decide +kernel
theorem d_MA_showHeap_18 : decode c_MA_showHeap 18 = .ok (.goto 4, 3) := by decide +kernel
theorem d_MA_showHeap_21 : decode c_MA_showHeap 21 = .ok (.iconst 0, 1) := by decide +kernel
theorem d_MA_showHeap_22 : decode c_MA_showHeap 22 = .ok (.ireturn, 1) := by decide +kernel
theorem d_FW_heap_0 : decode c_FW_heap 0 = .ok (.iload_n 1, 1) := by decide +kernel
theorem d_FW_heap_1 : decode c_FW_heap 1 = .ok (.iconst (-1), 1) := by decide +kernel
theorem d_FW_heap_2 : decode c_FW_heap 2 = .ok (.if_icmp .ne 13, 3) := by decide +kernel
theorem d_FW_heap_5 : decode c_FW_heap 5 = .ok (.aload_n 0, 1) := by decide +kernel
theorem d_FW_heap_6 : decode c_FW_heap 6 = .ok (.getfield 35, 3) := by decide +kernel
theorem d_FW_heap_9 : decode c_FW_heap 9 = .ok (.getfield 159, 3) := by decide +kernel
theorem d_FW_heap_12 : decode c_FW_heap 12 = .ok (.goto 11, 3) := by decide +kernel
theorem d_FW_heap_15 : decode c_FW_heap 15 = .ok (.aload_n 0, 1) := by decide +kernel
theorem d_FW_heap_16 : decode c_FW_heap 16 = .ok (.getfield 35, 3) := by decide +kernel
theorem d_FW_heap_19 : decode c_FW_heap 19 = .ok (.iload_n 1, 1) := by decide +kernel
theorem d_FW_heap_20 : decode c_FW_heap 20 = .ok (.invokevirtual 162, 3) := by decide +kernel
theorem d_FW_heap_23 : decode c_FW_heap 23 = .ok (.ireturn, 1) := by decide +kernel
theorem d_FL_showType_0 : decode c_FL_showType 0 = .ok (.iload_n 2, 1) := by decide +kernel
theorem d_FL_showType_1 : decode c_FL_showType 1 = .ok (.ifCond .lt 15, 3) := by decide +kernel
theorem d_FL_showType_4 : decode c_FL_showType 4 = .ok (.iload_n 2, 1) := by decide +kernel
theorem d_FL_showType_5 : decode c_FL_showType 5 = .ok (.aload_n 1, 1) := by decide +kernel
theorem d_FL_showType_6 : decode c_FL_showType 6 = .ok (.getfield 79, 3) := by decide +kernel
theorem d_FL_showType_9 : decode c_FL_showType 9 = .ok (.if_icmp .ge 7, 3) := by decide +kernel
theorem d_FL_showType_12 : decode c_FL_showType 12 = .ok (.iload_n 3, 1) := by decide +kernel
theorem d_FL_showType_13 : decode c_FL_showType 13 = .ok (.ifCond .ge 5, 3) := by decide +kernel
theorem d_FL_showType_16 : decode c_FL_showType 16 = .ok (.iconst (-1), 1) := by decide +kernel
theorem d_FL_showType_17 : decode c_FL_showType 17 = .ok (.ireturn, 1) := by decide +kernel
theorem d_FL_showType_18 : decode c_FL_showType 18 = .ok (.aload_n 1, 1) := by decide +kernel
theorem d_FL_showType_19 : decode c_FL_showType 19 = .ok (.getfield 57, 3) := by decide +kernel
theorem d_FL_showType_22 : decode c_FL_showType 22 = .ok (.iload_n 2, 1) := by decide +kernel
theorem d_FL_showType_23 : decode c_FL_showType 23 = .ok (.iadd, 1) := by decide +kernel
theorem d_FL_showType_24 : decode c_FL_showType 24 = .ok (.istore 4, 2) := by decide +kernel
theorem d_FL_showType_26 : decode c_FL_showType 26 = .ok (.iload_n 3, 1) := by decide +kernel
theorem d_FL_showType_27 : decode c_FL_showType 27 = .ok (.aload_n 1, 1) := by decide +kernel
theorem d_FL_showType_28 : decode c_FL_showType 28 = .ok (.getfield 193, 3) := by decide +kernel
theorem d_FL_showType_31 : decode c_FL_showType 31 = .ok (.aload_n 0, 1) := by decide +kernel
theorem d_FL_showType_32 : decode c_FL_showType 32 = .ok (.getfield 31, 3) := by decide +kernel
theorem d_FL_showType_35 : decode c_FL_showType 35 = .ok (.iload 4, 2) := by decide +kernel
theorem d_FL_showType_37 : decode c_FL_showType 37 = .ok (.iaload, 1) := by decide +kernel
theorem d_FL_showType_38 : decode c_FL_showType 38 = .ok (.iadd, 1) := by decide +kernel
theorem d_FL_showType_39 : decode c_FL_showType 39 = .ok (.if_icmp .ge 14, 3) := by decide +kernel
theorem d_FL_showType_42 : decode c_FL_showType 42 = .ok (.aload_n 0, 1) := by decide +kernel
theorem d_FL_showType_43 : decode c_FL_showType 43 = .ok (.getfield 31, 3) := by decide +kernel
theorem d_FL_showType_46 : decode c_FL_showType 46 = .ok (.iload 4, 2) := by decide +kernel
theorem d_FL_showType_48 : decode c_FL_showType 48 = .ok (.iaload, 1) := by decide +kernel
theorem d_FL_showType_49 : decode c_FL_showType 49 = .ok (.iconst (-1), 1) := by decide +kernel
theorem d_FL_showType_50 : decode c_FL_showType 50 = .ok (.if_icmp .ne 5, 3) := by decide +kernel
theorem d_FL_showType_53 : decode c_FL_showType 53 = .ok (.iconst (-1), 1) := by decide +kernel
theorem d_FL_showType_54 : decode c_FL_showType 54 = .ok (.ireturn, 1) := by decide +kernel
theorem d_FL_showType_55 : decode c_FL_showType 55 = .ok (.iload_n 3, 1) := by decide +kernel
theorem d_FL_showType_56 : decode c_FL_showType 56 = .ok (.aload_n 1, 1) := by decide +kernel
theorem d_FL_showType_57 : decode c_FL_showType 57 = .ok (.getfield 193, 3) := by decide +kernel
theorem d_FL_showType_60 : decode c_FL_showType 60 = .ok (.if_icmp .ge 17, 3) := by decide +kernel
theorem d_FL_showType_63 : decode c_FL_showType 63 = .ok (.aload_n 0, 1) := by decide +kernel
theorem d_FL_showType_64 : decode c_FL_showType 64 = .ok (.getfield 24, 3) := by decide +kernel
theorem d_FL_showType_67 : decode c_FL_showType 67 = .ok (.iload 4, 2) := by decide +kernel
theorem d_FL_showType_69 : decode c_FL_showType 69 = .ok (.iaload, 1) := by decide +kernel
theorem d_FL_showType_70 : decode c_FL_showType 70 = .ok (.iload_n 3, 1) := by decide +kernel
theorem d_FL_showType_71 : decode c_FL_showType 71 = .ok (.invokestatic 179, 3) := by decide +kernel
theorem d_FL_showType_74 : decode c_FL_showType 74 = .ok (.goto 19, 3) := by decide +kernel
theorem d_FL_showType_77 : decode c_FL_showType 77 = .ok (.aload_n 0, 1) := by decide +kernel
theorem d_FL_showType_78 : decode c_FL_showType 78 = .ok (.getfield 28, 3) := by decide +kernel
theorem d_FL_showType_81 : decode c_FL_showType 81 = .ok (.iload 4, 2) := by decide +kernel
theorem d_FL_showType_83 : decode c_FL_showType 83 = .ok (.iaload, 1) := by decide +kernel
theorem d_FL_showType_84 : decode c_FL_showType 84 = .ok (.iload_n 3, 1) := by decide +kernel
theorem d_FL_showType_85 : decode c_FL_showType 85 = .ok (.aload_n 1, 1) := by decide +kernel
theorem d_FL_showType_86 : decode c_FL_showType 86 = .ok (.getfield 193, 3) := by decide +kernel
theorem d_FL_showType_89 : decode c_FL_showType 89 = .ok (.isub, 1) := by decide +kernel
theorem d_FL_showType_90 : decode c_FL_showType 90 = .ok (.invokestatic 179, 3) := by decide +kernel
theorem d_FL_showType_93 : decode c_FL_showType 93 = .ok (.ireturn, 1) := by decide +kernel
theorem d_FW_type_0 : decode c_FW_type 0 = .ok (.aload_n 0, 1) := by decide +kernel
theorem d_FW_type_1 : decode c_FW_type 1 = .ok (.getfield 47, 3) := by decide +kernel
theorem d_FW_type_4 : decode c_FW_type 4 = .ok (.ifCond .eq 14, 3) := by decide +kernel
theorem d_FW_type_7 : decode c_FW_type 7 = .ok (.aload_n 0, 1) := by decide +kernel
theorem d_FW_type_8 : decode c_FW_type 8 = .ok (.getfield 10, 3) := by decide +kernel
theorem d_FW_type_11 : decode c_FW_type 11 = .ok (.iload_n 1, 1) := by decide +kernel
theorem d_FW_type_12 : decode c_FW_type 12 = .ok (.invokevirtual 102, 3) := by decide +kernel
theorem d_FW_type_15 : decode c_FW_type 15 = .ok (.ifCond .ne 5, 3) := by decide +kernel
theorem d_FW_type_18 : decode c_FW_type 18 = .ok (.iconst (-1), 1) := by decide +kernel
theorem d_FW_type_19 : decode c_FW_type 19 = .ok (.ireturn, 1) := by decide +kernel
theorem d_FW_type_20 : decode c_FW_type 20 = .ok (.aload_n 0, 1) := by decide +kernel
theorem d_FW_type_21 : decode c_FW_type 21 = .ok (.getfield 28, 3) := by decide +kernel
theorem d_FW_type_24 : decode c_FW_type 24 = .ok (.aload_n 0, 1) := by decide +kernel
theorem d_FW_type_25 : decode c_FW_type 25 = .ok (.getfield 10, 3) := by decide +kernel
theorem d_FW_type_28 : decode c_FW_type 28 = .ok (.getfield 86, 3) := by decide +kernel
theorem d_FW_type_31 : decode c_FW_type 31 = .ok (.iload_n 1, 1) := by decide +kernel
theorem d_FW_type_32 : decode c_FW_type 32 = .ok (.aaload, 1) := by decide +kernel
theorem d_FW_type_33 : decode c_FW_type 33 = .ok (.iload_n 2, 1) := by decide +kernel
theorem d_FW_type_34 : decode c_FW_type 34 = .ok (.iload_n 3, 1) := by decide +kernel
theorem d_FW_type_35 : decode c_FW_type 35 = .ok (.invokevirtual 165, 3) := by decide +kernel
theorem d_FW_type_38 : decode c_FW_type 38 = .ok (.ireturn, 1) := by decide +kernel
theorem d_MO_thrown_0 : decode c_MO_thrown 0 = .ok (.aload_n 0, 1) := by decide +kernel
theorem d_MO_thrown_1 : decode c_MO_thrown 1 = .ok (.getfield 90, 3) := by decide +kernel
theorem d_MO_thrown_4 : decode c_MO_thrown 4 = .ok (.ireturn, 1) := by decide +kernel
theorem d_MO_in_0 : decode c_MO_in 0 = .ok (.iload_n 0, 1) := by decide +kernel
theorem d_MO_in_1 : decode c_MO_in 1 = .ok (.iload_n 1, 1) := by decide +kernel
theorem d_MO_in_2 : decode c_MO_in 2 = .ok (.if_icmp .lt 12, 3) := by decide +kernel
theorem d_MO_in_5 : decode c_MO_in 5 = .ok (.iload_n 0, 1) := by decide +kernel
theorem d_MO_in_6 : decode c_MO_in 6 = .ok (.iload_n 2, 1) := by decide +kernel
theorem d_MO_in_7 : decode c_MO_in 7 = .ok (.if_icmp .gt 7, 3) := by decide +kernel
theorem d_MO_in_10 : decode c_MO_in 10 = .ok (.iconst 1, 1) := by decide +kernel
theorem d_MO_in_11 : decode c_MO_in 11 = .ok (.goto 4, 3) := by decide +kernel
theorem d_MO_in_14 : decode c_MO_in 14 = .ok (.iconst 0, 1) := by decide +kernel
theorem d_MO_in_15 : decode c_MO_in 15 = .ok (.ireturn, 1) := by decide +kernel
theorem d_MO_feed_0 : decode c_MO_feed 0 = .ok (.aload_n 0, 1) := by decide +kernel
theorem d_MO_feed_1 : decode c_MO_feed 1 = .ok (.aload_n 0, 1) := by decide +kernel
theorem d_MO_feed_2 : decode c_MO_feed 2 = .ok (.getfield 93, 3) := by decide +kernel
theorem d_MO_feed_5 : decode c_MO_feed 5 = .ok (.sipush 200, 3) := by decide +kernel
theorem d_MO_feed_8 : decode c_MO_feed 8 = .ok (.if_icmp .eq 10, 3) := by decide +kernel
theorem d_MO_feed_11 : decode c_MO_feed 11 = .ok (.aload_n 0, 1) := by decide +kernel
theorem d_MO_feed_12 : decode c_MO_feed 12 = .ok (.getfield 96, 3) := by decide +kernel
theorem d_MO_feed_15 : decode c_MO_feed 15 = .ok (.ifCond .eq 7, 3) := by decide +kernel
theorem d_MO_feed_18 : decode c_MO_feed 18 = .ok (.iconst 1, 1) := by decide +kernel
theorem d_MO_feed_19 : decode c_MO_feed 19 = .ok (.goto 4, 3) := by decide +kernel
theorem d_MO_feed_22 : decode c_MO_feed 22 = .ok (.iconst 0, 1) := by decide +kernel
theorem d_MO_feed_23 : decode c_MO_feed 23 = .ok (.putfield 90, 3) := by decide +kernel
theorem d_MO_feed_26 : decode c_MO_feed 26 = .ok (.aload_n 0, 1) := by decide +kernel
theorem d_MO_feed_27 : decode c_MO_feed 27 = .ok (.getfield 90, 3) := by decide +kernel
theorem d_MO_feed_30 : decode c_MO_feed 30 = .ok (.ifCond .le 5, 3) := by decide +kernel
theorem d_MO_feed_33 : decode c_MO_feed 33 = .ok (.iconst 0, 1) := by decide +kernel
theorem d_MO_feed_34 : decode c_MO_feed 34 = .ok (.ireturn, 1) := by decide +kernel
theorem d_MO_feed_35 : decode c_MO_feed 35 = .ok (.aload_n 0, 1) := by decide +kernel
theorem d_MO_feed_36 : decode c_MO_feed 36 = .ok (.getfield 7, 3) := by decide +kernel
theorem d_MO_feed_39 : decode c_MO_feed 39 = .ok (.aload_n 0, 1) := by decide +kernel
theorem d_MO_feed_40 : decode c_MO_feed 40 = .ok (.getfield 93, 3) := by decide +kernel
theorem d_MO_feed_43 : decode c_MO_feed 43 = .ok (.iload_n 1, 1) := by decide +kernel
theorem d_MO_feed_44 : decode c_MO_feed 44 = .ok (.sipush 255, 3) := by decide +kernel
theorem d_MO_feed_47 : decode c_MO_feed 47 = .ok (.iand, 1) := by decide +kernel
theorem d_MO_feed_48 : decode c_MO_feed 48 = .ok (.iastore, 1) := by decide +kernel
theorem d_MO_feed_49 : decode c_MO_feed 49 = .ok (.aload_n 0, 1) := by decide +kernel
theorem d_MO_feed_50 : decode c_MO_feed 50 = .ok (.dup, 1) := by decide +kernel
theorem d_MO_feed_51 : decode c_MO_feed 51 = .ok (.getfield 93, 3) := by decide +kernel
theorem d_MO_feed_54 : decode c_MO_feed 54 = .ok (.iconst 1, 1) := by decide +kernel
theorem d_MO_feed_55 : decode c_MO_feed 55 = .ok (.iadd, 1) := by decide +kernel
theorem d_MO_feed_56 : decode c_MO_feed 56 = .ok (.putfield 93, 3) := by decide +kernel
theorem d_MO_feed_59 : decode c_MO_feed 59 = .ok (.aload_n 0, 1) := by decide +kernel
theorem d_MO_feed_60 : decode c_MO_feed 60 = .ok (.getfield 93, 3) := by decide +kernel
theorem d_MO_feed_63 : decode c_MO_feed 63 = .ok (.ireturn, 1) := by decide +kernel
theorem d_MO_method_0 : decode c_MO_method 0 = .ok (.iload_n 2, 1) := by decide +kernel
theorem d_MO_method_1 : decode c_MO_method 1 = .ok (.iconst 0, 1) := by decide +kernel
theorem d_MO_method_2 : decode c_MO_method 2 = .ok (.iconst 4, 1) := by decide +kernel
theorem d_MO_method_3 : decode c_MO_method 3 = .ok (.invokestatic 100, 3) := by decide +kernel
theorem d_MO_method_6 : decode c_MO_method 6 = .ok (.ifCond .eq 50, 3) := by decide +kernel
theorem d_MO_method_9 : decode c_MO_method 9 = .ok (.iload_n 3, 1) := by decide +kernel
theorem d_MO_method_10 : decode c_MO_method 10 = .ok (.iload_n 2, 1) := by decide +kernel
theorem d_MO_method_11 : decode c_MO_method 11 = .ok (.bipush 8, 2) := by decide +kernel
theorem d_MO_method_13 : decode c_MO_method 13 = .ok (.invokestatic 100, 3) := by decide +kernel
theorem d_MO_method_16 : decode c_MO_method 16 = .ok (.ifCond .eq 40, 3) := by decide +kernel
theorem d_MO_method_19 : decode c_MO_method 19 = .ok (.iload 4, 2) := by decide +kernel
theorem d_MO_method_21 : decode c_MO_method 21 = .ok (.iconst 0, 1) := by decide +kernel
theorem d_MO_method_22 : decode c_MO_method 22 = .ok (.bipush 8, 2) := by decide +kernel
theorem d_MO_method_24 : decode c_MO_method 24 = .ok (.invokestatic 100, 3) := by decide +kernel
theorem d_MO_method_27 : decode c_MO_method 27 = .ok (.ifCond .eq 29, 3) := by decide +kernel
theorem d_MO_method_30 : decode c_MO_method 30 = .ok (.iload_n 1, 1) := by decide +kernel
theorem d_MO_method_31 : decode c_MO_method 31 = .ok (.iconst 1, 1) := by decide +kernel
theorem d_MO_method_32 : decode c_MO_method 32 = .ok (.aload_n 0, 1) := by decide +kernel
theorem d_MO_method_33 : decode c_MO_method 33 = .ok (.getfield 93, 3) := by decide +kernel
theorem d_MO_method_36 : decode c_MO_method 36 = .ok (.aload_n 0, 1) := by decide +kernel
theorem d_MO_method_37 : decode c_MO_method 37 = .ok (.getfield 13, 3) := by decide +kernel
theorem d_MO_method_40 : decode c_MO_method 40 = .ok (.aload_n 0, 1) := by decide +kernel
theorem d_MO_method_41 : decode c_MO_method 41 = .ok (.getfield 104, 3) := by decide +kernel
theorem d_MO_method_44 : decode c_MO_method 44 = .ok (.iaload, 1) := by decide +kernel
theorem d_MO_method_45 : decode c_MO_method 45 = .ok (.isub, 1) := by decide +kernel
theorem d_MO_method_46 : decode c_MO_method 46 = .ok (.invokestatic 100, 3) := by decide +kernel
theorem d_MO_method_49 : decode c_MO_method 49 = .ok (.ifCond .eq 7, 3) := by decide +kernel
theorem d_MO_method_52 : decode c_MO_method 52 = .ok (.iconst 1, 1) := by decide +kernel
theorem d_MO_method_53 : decode c_MO_method 53 = .ok (.goto 4, 3) := by decide +kernel
theorem d_MO_method_56 : decode c_MO_method 56 = .ok (.iconst 0, 1) := by decide +kernel
theorem d_MO_method_57 : decode c_MO_method 57 = .ok (.istore 6, 2) := by decide +kernel
theorem d_MO_method_59 : decode c_MO_method 59 = .ok (.aload_n 0, 1) := by decide +kernel
theorem d_MO_method_60 : decode c_MO_method 60 = .ok (.iload 6, 2) := by decide +kernel
theorem d_MO_method_62 : decode c_MO_method 62 = .ok (.ifCond .ne 7, 3) := by decide +kernel
theorem d_MO_method_65 : decode c_MO_method 65 = .ok (.iconst 1, 1) := by decide +kernel
theorem d_MO_method_66 : decode c_MO_method 66 = .ok (.goto 24, 3) := by decide +kernel
theorem d_MO_method_69 : decode c_MO_method 69 = .ok (.aload_n 0, 1) := by decide +kernel
theorem d_MO_method_70 : decode c_MO_method 70 = .ok (.getfield 104, 3) := by decide +kernel
theorem d_MO_method_73 : decode c_MO_method 73 = .ok (.bipush 8, 2) := by decide +kernel
theorem d_MO_method_75 : decode c_MO_method 75 = .ok (.if_icmp .eq 10, 3) := by decide +kernel
theorem d_MO_method_78 : decode c_MO_method 78 = .ok (.aload_n 0, 1) := by decide +kernel
theorem d_MO_method_79 : decode c_MO_method 79 = .ok (.getfield 96, 3) := by decide +kernel
theorem d_MO_method_82 : decode c_MO_method 82 = .ok (.ifCond .eq 7, 3) := by decide +kernel
theorem d_MO_method_85 : decode c_MO_method 85 = .ok (.iconst 2, 1) := by decide +kernel
theorem d_MO_method_86 : decode c_MO_method 86 = .ok (.goto 4, 3) := by decide +kernel
theorem d_MO_method_89 : decode c_MO_method 89 = .ok (.iconst 0, 1) := by decide +kernel
theorem d_MO_method_90 : decode c_MO_method 90 = .ok (.putfield 90, 3) := by decide +kernel
theorem d_MO_method_93 : decode c_MO_method 93 = .ok (.aload_n 0, 1) := by decide +kernel
theorem d_MO_method_94 : decode c_MO_method 94 = .ok (.getfield 90, 3) := by decide +kernel
theorem d_MO_method_97 : decode c_MO_method 97 = .ok (.ifCond .le 5, 3) := by decide +kernel
theorem d_MO_method_100 : decode c_MO_method 100 = .ok (.iconst 0, 1) := by decide +kernel
theorem d_MO_method_101 : decode c_MO_method 101 = .ok (.ireturn, 1) := by decide +kernel
theorem d_MO_method_102 : decode c_MO_method 102 = .ok (.aload_n 0, 1) := by decide +kernel
theorem d_MO_method_103 : decode c_MO_method 103 = .ok (.getfield 104, 3) := by decide +kernel
theorem d_MO_method_106 : decode c_MO_method 106 = .ok (.istore 7, 2) := by decide +kernel
theorem d_MO_method_108 : decode c_MO_method 108 = .ok (.aload_n 0, 1) := by decide +kernel
theorem d_MO_method_109 : decode c_MO_method 109 = .ok (.getfield 16, 3) := by decide +kernel
theorem d_MO_method_112 : decode c_MO_method 112 = .ok (.iload 7, 2) := by decide +kernel
theorem d_MO_method_114 : decode c_MO_method 114 = .ok (.iload_n 1, 1) := by decide +kernel
theorem d_MO_method_115 : decode c_MO_method 115 = .ok (.iastore, 1) := by decide +kernel
theorem d_MO_method_116 : decode c_MO_method 116 = .ok (.aload_n 0, 1) := by decide +kernel
theorem d_MO_method_117 : decode c_MO_method 117 = .ok (.getfield 19, 3) := by decide +kernel
theorem d_MO_method_120 : decode c_MO_method 120 = .ok (.iload 7, 2) := by decide +kernel
theorem d_MO_method_122 : decode c_MO_method 122 = .ok (.iload_n 2, 1) := by decide +kernel
theorem d_MO_method_123 : decode c_MO_method 123 = .ok (.iastore, 1) := by decide +kernel
theorem d_MO_method_124 : decode c_MO_method 124 = .ok (.aload_n 0, 1) := by decide +kernel
theorem d_MO_method_125 : decode c_MO_method 125 = .ok (.getfield 22, 3) := by decide +kernel
theorem d_MO_method_128 : decode c_MO_method 128 = .ok (.iload 7, 2) := by decide +kernel
theorem d_MO_method_130 : decode c_MO_method 130 = .ok (.iload_n 3, 1) := by decide +kernel
theorem d_MO_method_131 : decode c_MO_method 131 = .ok (.iastore, 1) := by decide +kernel
theorem d_MO_method_132 : decode c_MO_method 132 = .ok (.aload_n 0, 1) := by decide +kernel
theorem d_MO_method_133 : decode c_MO_method 133 = .ok (.getfield 25, 3) := by decide +kernel
theorem d_MO_method_136 : decode c_MO_method 136 = .ok (.iload 7, 2) := by decide +kernel
theorem d_MO_method_138 : decode c_MO_method 138 = .ok (.iload 4, 2) := by decide +kernel
theorem d_MO_method_140 : decode c_MO_method 140 = .ok (.iastore, 1) := by decide +kernel
theorem d_MO_method_141 : decode c_MO_method 141 = .ok (.aload_n 0, 1) := by decide +kernel
theorem d_MO_method_142 : decode c_MO_method 142 = .ok (.getfield 28, 3) := by decide +kernel
theorem d_MO_method_145 : decode c_MO_method 145 = .ok (.iload 7, 2) := by decide +kernel
theorem d_MO_method_147 : decode c_MO_method 147 = .ok (.iload 5, 2) := by decide +kernel
theorem d_MO_method_149 : decode c_MO_method 149 = .ok (.bastore, 1) := by decide +kernel
theorem d_MO_method_150 : decode c_MO_method 150 = .ok (.aload_n 0, 1) := by decide +kernel
theorem d_MO_method_151 : decode c_MO_method 151 = .ok (.getfield 32, 3) := by decide +kernel
theorem d_MO_method_154 : decode c_MO_method 154 = .ok (.iload 7, 2) := by decide +kernel
theorem d_MO_method_156 : decode c_MO_method 156 = .ok (.iconst 0, 1) := by decide +kernel
theorem d_MO_method_157 : decode c_MO_method 157 = .ok (.iastore, 1) := by decide +kernel
theorem d_MO_method_158 : decode c_MO_method 158 = .ok (.aload_n 0, 1) := by decide +kernel
theorem d_MO_method_159 : decode c_MO_method 159 = .ok (.getfield 13, 3) := by decide +kernel
theorem d_MO_method_162 : decode c_MO_method 162 = .ok (.iload 7, 2) := by decide +kernel
theorem d_MO_method_164 : decode c_MO_method 164 = .ok (.iconst 1, 1) := by decide +kernel
theorem d_MO_method_165 : decode c_MO_method 165 = .ok (.iadd, 1) := by decide +kernel
theorem d_MO_method_166 : decode c_MO_method 166 = .ok (.aload_n 0, 1) := by decide +kernel
theorem d_MO_method_167 : decode c_MO_method 167 = .ok (.getfield 13, 3) := by decide +kernel
theorem d_MO_method_170 : decode c_MO_method 170 = .ok (.iload 7, 2) := by decide +kernel
theorem d_MO_method_172 : decode c_MO_method 172 = .ok (.iaload, 1) := by decide +kernel
theorem d_MO_method_173 : decode c_MO_method 173 = .ok (.iload_n 1, 1) := by decide +kernel
theorem d_MO_method_174 : decode c_MO_method 174 = .ok (.iadd, 1) := by decide +kernel
theorem d_MO_method_175 : decode c_MO_method 175 = .ok (.iastore, 1) := by decide +kernel
theorem d_MO_method_176 : decode c_MO_method 176 = .ok (.aload_n 0, 1) := by decide +kernel
theorem d_MO_method_177 : decode c_MO_method 177 = .ok (.dup, 1) := by decide +kernel
theorem d_MO_method_178 : decode c_MO_method 178 = .ok (.getfield 104, 3) := by decide +kernel
theorem d_MO_method_181 : decode c_MO_method 181 = .ok (.iconst 1, 1) := by decide +kernel
theorem d_MO_method_182 : decode c_MO_method 182 = .ok (.iadd, 1) := by decide +kernel
theorem d_MO_method_183 : decode c_MO_method 183 = .ok (.putfield 104, 3) := by decide +kernel
theorem d_MO_method_186 : decode c_MO_method 186 = .ok (.iload 7, 2) := by decide +kernel
theorem d_MO_method_188 : decode c_MO_method 188 = .ok (.ireturn, 1) := by decide +kernel
theorem d_MO_handler_0 : decode c_MO_handler 0 = .ok (.aload_n 0, 1) := by decide +kernel
theorem d_MO_handler_1 : decode c_MO_handler 1 = .ok (.iconst 0, 1) := by decide +kernel
theorem d_MO_handler_2 : decode c_MO_handler 2 = .ok (.putfield 90, 3) := by decide +kernel
theorem d_MO_handler_5 : decode c_MO_handler 5 = .ok (.aload_n 0, 1) := by decide +kernel
theorem d_MO_handler_6 : decode c_MO_handler 6 = .ok (.getfield 104, 3) := by decide +kernel
theorem d_MO_handler_9 : decode c_MO_handler 9 = .ok (.ifCond .eq 25, 3) := by decide +kernel
theorem d_MO_handler_12 : decode c_MO_handler 12 = .ok (.aload_n 0, 1) := by decide +kernel
theorem d_MO_handler_13 : decode c_MO_handler 13 = .ok (.getfield 32, 3) := by decide +kernel
theorem d_MO_handler_16 : decode c_MO_handler 16 = .ok (.aload_n 0, 1) := by decide +kernel
theorem d_MO_handler_17 : decode c_MO_handler 17 = .ok (.getfield 104, 3) := by decide +kernel
theorem d_MO_handler_20 : decode c_MO_handler 20 = .ok (.iconst 1, 1) := by decide +kernel
theorem d_MO_handler_21 : decode c_MO_handler 21 = .ok (.isub, 1) := by decide +kernel
theorem d_MO_handler_22 : decode c_MO_handler 22 = .ok (.iaload, 1) := by decide +kernel
theorem d_MO_handler_23 : decode c_MO_handler 23 = .ok (.iconst 4, 1) := by decide +kernel
theorem d_MO_handler_24 : decode c_MO_handler 24 = .ok (.if_icmp .eq 10, 3) := by decide +kernel
theorem d_MO_handler_27 : decode c_MO_handler 27 = .ok (.aload_n 0, 1) := by decide +kernel
theorem d_MO_handler_28 : decode c_MO_handler 28 = .ok (.getfield 96, 3) := by decide +kernel
theorem d_MO_handler_31 : decode c_MO_handler 31 = .ok (.ifCond .eq 5, 3) := by decide +kernel
theorem d_MO_handler_34 : decode c_MO_handler 34 = .ok (.iconst 0, 1) := by decide +kernel
theorem d_MO_handler_35 : decode c_MO_handler 35 = .ok (.ireturn, 1) := by decide +kernel
theorem d_MO_handler_36 : decode c_MO_handler 36 = .ok (.iconst 4, 1) := by decide +kernel
theorem d_MO_handler_37 : decode c_MO_handler 37 = .ok (.aload_n 0, 1) := by decide +kernel
theorem d_MO_handler_38 : decode c_MO_handler 38 = .ok (.getfield 104, 3) := by decide +kernel
theorem d_MO_handler_41 : decode c_MO_handler 41 = .ok (.iconst 1, 1) := by decide +kernel
theorem d_MO_handler_42 : decode c_MO_handler 42 = .ok (.isub, 1) := by decide +kernel
theorem d_MO_handler_43 : decode c_MO_handler 43 = .ok (.imul, 1) := by decide +kernel
theorem d_MO_handler_44 : decode c_MO_handler 44 = .ok (.aload_n 0, 1) := by decide +kernel
theorem d_MO_handler_45 : decode c_MO_handler 45 = .ok (.getfield 32, 3) := by decide +kernel
theorem d_MO_handler_48 : decode c_MO_handler 48 = .ok (.aload_n 0, 1) := by decide +kernel
theorem d_MO_handler_49 : decode c_MO_handler 49 = .ok (.getfield 104, 3) := by decide +kernel
theorem d_MO_handler_52 : decode c_MO_handler 52 = .ok (.iconst 1, 1) := by decide +kernel
theorem d_MO_handler_53 : decode c_MO_handler 53 = .ok (.isub, 1) := by decide +kernel
theorem d_MO_handler_54 : decode c_MO_handler 54 = .ok (.iaload, 1) := by decide +kernel
theorem d_MO_handler_55 : decode c_MO_handler 55 = .ok (.iadd, 1) := by decide +kernel
theorem d_MO_handler_56 : decode c_MO_handler 56 = .ok (.istore 5, 2) := by decide +kernel
theorem d_MO_handler_58 : decode c_MO_handler 58 = .ok (.aload_n 0, 1) := by decide +kernel
theorem d_MO_handler_59 : decode c_MO_handler 59 = .ok (.getfield 35, 3) := by decide +kernel
theorem d_MO_handler_62 : decode c_MO_handler 62 = .ok (.iload 5, 2) := by decide +kernel
theorem d_MO_handler_64 : decode c_MO_handler 64 = .ok (.iload_n 1, 1) := by decide +kernel
theorem d_MO_handler_65 : decode c_MO_handler 65 = .ok (.iastore, 1) := by decide +kernel
theorem d_MO_handler_66 : decode c_MO_handler 66 = .ok (.aload_n 0, 1) := by decide +kernel
theorem d_MO_handler_67 : decode c_MO_handler 67 = .ok (.getfield 38, 3) := by decide +kernel
theorem d_MO_handler_70 : decode c_MO_handler 70 = .ok (.iload 5, 2) := by decide +kernel
theorem d_MO_handler_72 : decode c_MO_handler 72 = .ok (.iload_n 2, 1) := by decide +kernel
theorem d_MO_handler_73 : decode c_MO_handler 73 = .ok (.iastore, 1) := by decide +kernel
theorem d_MO_handler_74 : decode c_MO_handler 74 = .ok (.aload_n 0, 1) := by decide +kernel
theorem d_MO_handler_75 : decode c_MO_handler 75 = .ok (.getfield 41, 3) := by decide +kernel
theorem d_MO_handler_78 : decode c_MO_handler 78 = .ok (.iload 5, 2) := by decide +kernel
theorem d_MO_handler_80 : decode c_MO_handler 80 = .ok (.iload_n 3, 1) := by decide +kernel
theorem d_MO_handler_81 : decode c_MO_handler 81 = .ok (.iastore, 1) := by decide +kernel
theorem d_MO_handler_82 : decode c_MO_handler 82 = .ok (.aload_n 0, 1) := by decide +kernel
theorem d_MO_handler_83 : decode c_MO_handler 83 = .ok (.getfield 44, 3) := by decide +kernel
theorem d_MO_handler_86 : decode c_MO_handler 86 = .ok (.iload 5, 2) := by decide +kernel
theorem d_MO_handler_88 : decode c_MO_handler 88 = .ok (.iload 4, 2) := by decide +kernel
theorem d_MO_handler_90 : decode c_MO_handler 90 = .ok (.iastore, 1) := by decide +kernel
theorem d_MO_handler_91 : decode c_MO_handler 91 = .ok (.aload_n 0, 1) := by decide +kernel
theorem d_MO_handler_92 : decode c_MO_handler 92 = .ok (.getfield 32, 3) := by decide +kernel
theorem d_MO_handler_95 : decode c_MO_handler 95 = .ok (.aload_n 0, 1) := by decide +kernel
theorem d_MO_handler_96 : decode c_MO_handler 96 = .ok (.getfield 104, 3) := by decide +kernel
theorem d_MO_handler_99 : decode c_MO_handler 99 = .ok (.iconst 1, 1) := by decide +kernel
theorem d_MO_handler_100 : decode c_MO_handler 100 = .ok (.isub, 1) := by decide +kernel
theorem d_MO_handler_101 : decode c_MO_handler 101 = .ok (.dup2, 1) := by decide +kernel
theorem d_MO_handler_102 : decode c_MO_handler 102 = .ok (.iaload, 1) := by decide +kernel
theorem d_MO_handler_103 : decode c_MO_handler 103 = .ok (.iconst 1, 1) := by decide +kernel
theorem d_MO_handler_104 : decode c_MO_handler 104 = .ok (.iadd, 1) := by decide +kernel
theorem d_MO_handler_105 : decode c_MO_handler 105 = .ok (.iastore, 1) := by decide +kernel
theorem d_MO_handler_106 : decode c_MO_handler 106 = .ok (.iconst 1, 1) := by decide +kernel
theorem d_MO_handler_107 : decode c_MO_handler 107 = .ok (.ireturn, 1) := by decide +kernel
theorem d_MO_word_0 : decode c_MO_word 0 = .ok (.sipush 256, 3) := by decide +kernel
theorem d_MO_word_3 : decode c_MO_word 3 = .ok (.aload_n 0, 1) := by decide +kernel
theorem d_MO_word_4 : decode c_MO_word 4 = .ok (.getfield 7, 3) := by decide +kernel
theorem d_MO_word_7 : decode c_MO_word 7 = .ok (.iload_n 1, 1) := by decide +kernel
theorem d_MO_word_8 : decode c_MO_word 8 = .ok (.iaload, 1) := by decide +kernel
theorem d_MO_word_9 : decode c_MO_word 9 = .ok (.imul, 1) := by decide +kernel
theorem d_MO_word_10 : decode c_MO_word 10 = .ok (.aload_n 0, 1) := by decide +kernel
theorem d_MO_word_11 : decode c_MO_word 11 = .ok (.getfield 7, 3) := by decide +kernel
theorem d_MO_word_14 : decode c_MO_word 14 = .ok (.iload_n 1, 1) := by decide +kernel
theorem d_MO_word_15 : decode c_MO_word 15 = .ok (.iconst 1, 1) := by decide +kernel
theorem d_MO_word_16 : decode c_MO_word 16 = .ok (.iadd, 1) := by decide +kernel
theorem d_MO_word_17 : decode c_MO_word 17 = .ok (.iaload, 1) := by decide +kernel
theorem d_MO_word_18 : decode c_MO_word 18 = .ok (.iadd, 1) := by decide +kernel
theorem d_MO_word_19 : decode c_MO_word 19 = .ok (.istore_n 2, 1) := by decide +kernel
theorem d_MO_word_20 : decode c_MO_word 20 = .ok (.iload_n 2, 1) := by decide +kernel
theorem d_MO_word_21 : decode c_MO_word 21 = .ok (.sipush 32767, 3) := by decide +kernel
theorem d_MO_word_24 : decode c_MO_word 24 = .ok (.if_icmp .le 10, 3) := by decide +kernel
theorem d_MO_word_27 : decode c_MO_word 27 = .ok (.iload_n 2, 1) := by decide +kernel
theorem d_MO_word_28 : decode c_MO_word 28 = .ok (.ldc 107, 2) := by decide +kernel
theorem d_MO_word_30 : decode c_MO_word 30 = .ok (.isub, 1) := by decide +kernel
theorem d_MO_word_31 : decode c_MO_word 31 = .ok (.goto 4, 3) := by decide +kernel
theorem d_MO_word_34 : decode c_MO_word 34 = .ok (.iload_n 2, 1) := by decide +kernel
theorem d_MO_word_35 : decode c_MO_word 35 = .ok (.ireturn, 1) := by decide +kernel
theorem d_MO_small_0 : decode c_MO_small 0 = .ok (.aload_n 0, 1) := by decide +kernel
theorem d_MO_small_1 : decode c_MO_small 1 = .ok (.getfield 7, 3) := by decide +kernel
theorem d_MO_small_4 : decode c_MO_small 4 = .ok (.iload_n 1, 1) := by decide +kernel
theorem d_MO_small_5 : decode c_MO_small 5 = .ok (.iaload, 1) := by decide +kernel
theorem d_MO_small_6 : decode c_MO_small 6 = .ok (.bipush 127, 2) := by decide +kernel
theorem d_MO_small_8 : decode c_MO_small 8 = .ok (.if_icmp .le 16, 3) := by decide +kernel
theorem d_MO_small_11 : decode c_MO_small 11 = .ok (.aload_n 0, 1) := by decide +kernel
theorem d_MO_small_12 : decode c_MO_small 12 = .ok (.getfield 7, 3) := by decide +kernel
theorem d_MO_small_15 : decode c_MO_small 15 = .ok (.iload_n 1, 1) := by decide +kernel
theorem d_MO_small_16 : decode c_MO_small 16 = .ok (.iaload, 1) := by decide +kernel
theorem d_MO_small_17 : decode c_MO_small 17 = .ok (.sipush 256, 3) := by decide +kernel
theorem d_MO_small_20 : decode c_MO_small 20 = .ok (.isub, 1) := by decide +kernel
theorem d_MO_small_21 : decode c_MO_small 21 = .ok (.goto 9, 3) := by decide +kernel
theorem d_MO_small_24 : decode c_MO_small 24 = .ok (.aload_n 0, 1) := by decide +kernel
theorem d_MO_small_25 : decode c_MO_small 25 = .ok (.getfield 7, 3) := by decide +kernel
theorem d_MO_small_28 : decode c_MO_small 28 = .ok (.iload_n 1, 1) := by decide +kernel
theorem d_MO_small_29 : decode c_MO_small 29 = .ok (.iaload, 1) := by decide +kernel
theorem d_MO_small_30 : decode c_MO_small 30 = .ok (.ireturn, 1) := by decide +kernel
theorem d_MO_isShort_0 : decode c_MO_isShort 0 = .ok (.iload_n 0, 1) := by decide +kernel
theorem d_MO_isShort_1 : decode c_MO_isShort 1 = .ok (.bipush 26, 2) := by decide +kernel
theorem d_MO_isShort_3 : decode c_MO_isShort 3 = .ok (.bipush 29, 2) := by decide +kernel
theorem d_MO_isShort_5 : decode c_MO_isShort 5 = .ok (.invokestatic 100, 3) := by decide +kernel
theorem d_MO_isShort_8 : decode c_MO_isShort 8 = .ok (.ifCond .ne 36, 3) := by decide +kernel
theorem d_MO_isShort_11 : decode c_MO_isShort 11 = .ok (.iload_n 0, 1) := by decide +kernel
theorem d_MO_isShort_12 : decode c_MO_isShort 12 = .ok (.bipush 42, 2) := by decide +kernel
theorem d_MO_isShort_14 : decode c_MO_isShort 14 = .ok (.bipush 45, 2) := by decide +kernel
theorem d_MO_isShort_16 : decode c_MO_isShort 16 = .ok (.invokestatic 100, 3) := by decide +kernel
theorem d_MO_isShort_19 : decode c_MO_isShort 19 = .ok (.ifCond .ne 25, 3) := by decide +kernel
theorem d_MO_isShort_22 : decode c_MO_isShort 22 = .ok (.iload_n 0, 1) := by decide +kernel
theorem d_MO_isShort_23 : decode c_MO_isShort 23 = .ok (.bipush 59, 2) := by decide +kernel
theorem d_MO_isShort_25 : decode c_MO_isShort 25 = .ok (.bipush 62, 2) := by decide +kernel
theorem d_MO_isShort_27 : decode c_MO_isShort 27 = .ok (.invokestatic 100, 3) := by decide +kernel
theorem d_MO_isShort_30 : decode c_MO_isShort 30 = .ok (.ifCond .ne 14, 3) := by decide +kernel
theorem d_MO_isShort_33 : decode c_MO_isShort 33 = .ok (.iload_n 0, 1) := by decide +kernel
theorem d_MO_isShort_34 : decode c_MO_isShort 34 = .ok (.bipush 75, 2) := by decide +kernel
theorem d_MO_isShort_36 : decode c_MO_isShort 36 = .ok (.bipush 78, 2) := by decide +kernel
theorem d_MO_isShort_38 : decode c_MO_isShort 38 = .ok (.invokestatic 100, 3) := by decide +kernel
theorem d_MO_isShort_41 : decode c_MO_isShort 41 = .ok (.ifCond .eq 7, 3) := by decide +kernel
theorem d_MO_isShort_44 : decode c_MO_isShort 44 = .ok (.iconst 1, 1) := by decide +kernel
theorem d_MO_isShort_45 : decode c_MO_isShort 45 = .ok (.goto 4, 3) := by decide +kernel
theorem d_MO_isShort_48 : decode c_MO_isShort 48 = .ok (.iconst 0, 1) := by decide +kernel
theorem d_MO_isShort_49 : decode c_MO_isShort 49 = .ok (.ireturn, 1) := by decide +kernel
theorem d_MO_isJump_0 : decode c_MO_isJump 0 = .ok (.iload_n 0, 1) := by decide +kernel
theorem d_MO_isJump_1 : decode c_MO_isJump 1 = .ok (.sipush 153, 3) := by decide +kernel
theorem d_MO_isJump_4 : decode c_MO_isJump 4 = .ok (.sipush 167, 3) := by decide +kernel
theorem d_MO_isJump_7 : decode c_MO_isJump 7 = .ok (.invokestatic 100, 3) := by decide +kernel
theorem d_MO_isJump_10 : decode c_MO_isJump 10 = .ok (.ifCond .ne 17, 3) := by decide +kernel
theorem d_MO_isJump_13 : decode c_MO_isJump 13 = .ok (.iload_n 0, 1) := by decide +kernel
theorem d_MO_isJump_14 : decode c_MO_isJump 14 = .ok (.sipush 198, 3) := by decide +kernel
theorem d_MO_isJump_17 : decode c_MO_isJump 17 = .ok (.if_icmp .eq 10, 3) := by decide +kernel
theorem d_MO_isJump_20 : decode c_MO_isJump 20 = .ok (.iload_n 0, 1) := by decide +kernel
theorem d_MO_isJump_21 : decode c_MO_isJump 21 = .ok (.sipush 199, 3) := by decide +kernel
theorem d_MO_isJump_24 : decode c_MO_isJump 24 = .ok (.if_icmp .ne 7, 3) := by decide +kernel
theorem d_MO_isJump_27 : decode c_MO_isJump 27 = .ok (.iconst 1, 1) := by decide +kernel
theorem d_MO_isJump_28 : decode c_MO_isJump 28 = .ok (.goto 4, 3) := by decide +kernel
theorem d_MO_isJump_31 : decode c_MO_isJump 31 = .ok (.iconst 0, 1) := by decide +kernel
theorem d_MO_isJump_32 : decode c_MO_isJump 32 = .ok (.ireturn, 1) := by decide +kernel
theorem d_MO_isSum_0 : decode c_MO_isSum 0 = .ok (.iload_n 0, 1) := by decide +kernel
theorem d_MO_isSum_1 : decode c_MO_isSum 1 = .ok (.bipush 96, 2) := by decide +kernel
theorem d_MO_isSum_3 : decode c_MO_isSum 3 = .ok (.if_icmp .eq 65, 3) := by decide +kernel
theorem d_MO_isSum_6 : decode c_MO_isSum 6 = .ok (.iload_n 0, 1) := by decide +kernel
theorem d_MO_isSum_7 : decode c_MO_isSum 7 = .ok (.bipush 100, 2) := by decide +kernel
theorem d_MO_isSum_9 : decode c_MO_isSum 9 = .ok (.if_icmp .eq 59, 3) := by decide +kernel
theorem d_MO_isSum_12 : decode c_MO_isSum 12 = .ok (.iload_n 0, 1) := by decide +kernel
theorem d_MO_isSum_13 : decode c_MO_isSum 13 = .ok (.bipush 104, 2) := by decide +kernel
theorem d_MO_isSum_15 : decode c_MO_isSum 15 = .ok (.if_icmp .eq 53, 3) := by decide +kernel
theorem d_MO_isSum_18 : decode c_MO_isSum 18 = .ok (.iload_n 0, 1) := by decide +kernel
theorem d_MO_isSum_19 : decode c_MO_isSum 19 = .ok (.bipush 108, 2) := by decide +kernel
theorem d_MO_isSum_21 : decode c_MO_isSum 21 = .ok (.if_icmp .eq 47, 3) := by decide +kernel
theorem d_MO_isSum_24 : decode c_MO_isSum 24 = .ok (.iload_n 0, 1) := by decide +kernel
theorem d_MO_isSum_25 : decode c_MO_isSum 25 = .ok (.bipush 112, 2) := by decide +kernel
theorem d_MO_isSum_27 : decode c_MO_isSum 27 = .ok (.if_icmp .eq 41, 3) := by decide +kernel
theorem d_MO_isSum_30 : decode c_MO_isSum 30 = .ok (.iload_n 0, 1) := by decide +kernel
theorem d_MO_isSum_31 : decode c_MO_isSum 31 = .ok (.bipush 120, 2) := by decide +kernel
theorem d_MO_isSum_33 : decode c_MO_isSum 33 = .ok (.if_icmp .eq 35, 3) := by decide +kernel
theorem d_MO_isSum_36 : decode c_MO_isSum 36 = .ok (.iload_n 0, 1) := by decide +kernel
theorem d_MO_isSum_37 : decode c_MO_isSum 37 = .ok (.bipush 122, 2) := by decide +kernel
theorem d_MO_isSum_39 : decode c_MO_isSum 39 = .ok (.if_icmp .eq 29, 3) := by decide +kernel
theorem d_MO_isSum_42 : decode c_MO_isSum 42 = .ok (.iload_n 0, 1) := by decide +kernel
theorem d_MO_isSum_43 : decode c_MO_isSum 43 = .ok (.bipush 124, 2) := by decide +kernel
theorem d_MO_isSum_45 : decode c_MO_isSum 45 = .ok (.if_icmp .eq 23, 3) := by decide +kernel
theorem d_MO_isSum_48 : decode c_MO_isSum 48 = .ok (.iload_n 0, 1) := by decide +kernel
theorem d_MO_isSum_49 : decode c_MO_isSum 49 = .ok (.bipush 126, 2) := by decide +kernel
theorem d_MO_isSum_51 : decode c_MO_isSum 51 = .ok (.if_icmp .eq 17, 3) := by decide +kernel
theorem d_MO_isSum_54 : decode c_MO_isSum 54 = .ok (.iload_n 0, 1) := by decide +kernel
theorem d_MO_isSum_55 : decode c_MO_isSum 55 = .ok (.sipush 128, 3) := by decide +kernel
theorem d_MO_isSum_58 : decode c_MO_isSum 58 = .ok (.if_icmp .eq 10, 3) := by decide +kernel
theorem d_MO_isSum_61 : decode c_MO_isSum 61 = .ok (.iload_n 0, 1) := by decide +kernel
theorem d_MO_isSum_62 : decode c_MO_isSum 62 = .ok (.sipush 130, 3) := by decide +kernel
theorem d_MO_isSum_65 : decode c_MO_isSum 65 = .ok (.if_icmp .ne 7, 3) := by decide +kernel
theorem d_MO_isSum_68 : decode c_MO_isSum 68 = .ok (.iconst 1, 1) := by decide +kernel
theorem d_MO_isSum_69 : decode c_MO_isSum 69 = .ok (.goto 4, 3) := by decide +kernel
theorem d_MO_isSum_72 : decode c_MO_isSum 72 = .ok (.iconst 0, 1) := by decide +kernel
theorem d_MO_isSum_73 : decode c_MO_isSum 73 = .ok (.ireturn, 1) := by decide +kernel
theorem d_MO_wide_0 : decode c_MO_wide 0 = .ok (.iload_n 0, 1) := by decide +kernel
theorem d_MO_wide_1 : decode c_MO_wide 1 = .ok (.iconst 1, 1) := by decide +kernel
theorem d_MO_wide_2 : decode c_MO_wide 2 = .ok (.bipush 8, 2) := by decide +kernel
theorem d_MO_wide_4 : decode c_MO_wide 4 = .ok (.invokestatic 100, 3) := by decide +kernel
theorem d_MO_wide_7 : decode c_MO_wide 7 = .ok (.ifCond .ne 74, 3) := by decide +kernel
theorem d_MO_wide_10 : decode c_MO_wide 10 = .ok (.iload_n 0, 1) := by decide +kernel
theorem d_MO_wide_11 : decode c_MO_wide 11 = .ok (.invokestatic 108, 3) := by decide +kernel
theorem d_MO_wide_14 : decode c_MO_wide 14 = .ok (.ifCond .ne 67, 3) := by decide +kernel
theorem d_MO_wide_17 : decode c_MO_wide 17 = .ok (.iload_n 0, 1) := by decide +kernel
theorem d_MO_wide_18 : decode c_MO_wide 18 = .ok (.invokestatic 112, 3) := by decide +kernel
theorem d_MO_wide_21 : decode c_MO_wide 21 = .ok (.ifCond .ne 60, 3) := by decide +kernel
theorem d_MO_wide_24 : decode c_MO_wide 24 = .ok (.iload_n 0, 1) := by decide +kernel
theorem d_MO_wide_25 : decode c_MO_wide 25 = .ok (.bipush 46, 2) := by decide +kernel
theorem d_MO_wide_27 : decode c_MO_wide 27 = .ok (.if_icmp .eq 54, 3) := by decide +kernel
theorem d_MO_wide_30 : decode c_MO_wide 30 = .ok (.iload_n 0, 1) := by decide +kernel
theorem d_MO_wide_31 : decode c_MO_wide 31 = .ok (.bipush 79, 2) := by decide +kernel
theorem d_MO_wide_33 : decode c_MO_wide 33 = .ok (.if_icmp .eq 48, 3) := by decide +kernel
theorem d_MO_wide_36 : decode c_MO_wide 36 = .ok (.iload_n 0, 1) := by decide +kernel
theorem d_MO_wide_37 : decode c_MO_wide 37 = .ok (.bipush 87, 2) := by decide +kernel
theorem d_MO_wide_39 : decode c_MO_wide 39 = .ok (.if_icmp .eq 42, 3) := by decide +kernel
theorem d_MO_wide_42 : decode c_MO_wide 42 = .ok (.iload_n 0, 1) := by decide +kernel
theorem d_MO_wide_43 : decode c_MO_wide 43 = .ok (.bipush 89, 2) := by decide +kernel
theorem d_MO_wide_45 : decode c_MO_wide 45 = .ok (.if_icmp .eq 36, 3) := by decide +kernel
theorem d_MO_wide_48 : decode c_MO_wide 48 = .ok (.iload_n 0, 1) := by decide +kernel
theorem d_MO_wide_49 : decode c_MO_wide 49 = .ok (.bipush 95, 2) := by decide +kernel
theorem d_MO_wide_51 : decode c_MO_wide 51 = .ok (.if_icmp .eq 30, 3) := by decide +kernel
theorem d_MO_wide_54 : decode c_MO_wide 54 = .ok (.iload_n 0, 1) := by decide +kernel
theorem d_MO_wide_55 : decode c_MO_wide 55 = .ok (.bipush 116, 2) := by decide +kernel
theorem d_MO_wide_57 : decode c_MO_wide 57 = .ok (.if_icmp .eq 24, 3) := by decide +kernel
theorem d_MO_wide_60 : decode c_MO_wide 60 = .ok (.iload_n 0, 1) := by decide +kernel
theorem d_MO_wide_61 : decode c_MO_wide 61 = .ok (.sipush 172, 3) := by decide +kernel
theorem d_MO_wide_64 : decode c_MO_wide 64 = .ok (.if_icmp .eq 17, 3) := by decide +kernel
theorem d_MO_wide_67 : decode c_MO_wide 67 = .ok (.iload_n 0, 1) := by decide +kernel
theorem d_MO_wide_68 : decode c_MO_wide 68 = .ok (.sipush 177, 3) := by decide +kernel
theorem d_MO_wide_71 : decode c_MO_wide 71 = .ok (.if_icmp .eq 10, 3) := by decide +kernel
theorem d_MO_wide_74 : decode c_MO_wide 74 = .ok (.iload_n 0, 1) := by decide +kernel
theorem d_MO_wide_75 : decode c_MO_wide 75 = .ok (.sipush 190, 3) := by decide +kernel
theorem d_MO_wide_78 : decode c_MO_wide 78 = .ok (.if_icmp .ne 5, 3) := by decide +kernel
theorem d_MO_wide_81 : decode c_MO_wide 81 = .ok (.iconst 1, 1) := by decide +kernel
theorem d_MO_wide_82 : decode c_MO_wide 82 = .ok (.ireturn, 1) := by decide +kernel
theorem d_MO_wide_83 : decode c_MO_wide 83 = .ok (.iload_n 0, 1) := by decide +kernel
theorem d_MO_wide_84 : decode c_MO_wide 84 = .ok (.bipush 16, 2) := by decide +kernel
theorem d_MO_wide_86 : decode c_MO_wide 86 = .ok (.if_icmp .eq 34, 3) := by decide +kernel
theorem d_MO_wide_89 : decode c_MO_wide 89 = .ok (.iload_n 0, 1) := by decide +kernel
theorem d_MO_wide_90 : decode c_MO_wide 90 = .ok (.bipush 21, 2) := by decide +kernel
theorem d_MO_wide_92 : decode c_MO_wide 92 = .ok (.if_icmp .eq 28, 3) := by decide +kernel
theorem d_MO_wide_95 : decode c_MO_wide 95 = .ok (.iload_n 0, 1) := by decide +kernel
theorem d_MO_wide_96 : decode c_MO_wide 96 = .ok (.bipush 25, 2) := by decide +kernel
theorem d_MO_wide_98 : decode c_MO_wide 98 = .ok (.if_icmp .eq 22, 3) := by decide +kernel
theorem d_MO_wide_101 : decode c_MO_wide 101 = .ok (.iload_n 0, 1) := by decide +kernel
theorem d_MO_wide_102 : decode c_MO_wide 102 = .ok (.bipush 54, 2) := by decide +kernel
theorem d_MO_wide_104 : decode c_MO_wide 104 = .ok (.if_icmp .eq 16, 3) := by decide +kernel
theorem d_MO_wide_107 : decode c_MO_wide 107 = .ok (.iload_n 0, 1) := by decide +kernel
theorem d_MO_wide_108 : decode c_MO_wide 108 = .ok (.bipush 58, 2) := by decide +kernel
theorem d_MO_wide_110 : decode c_MO_wide 110 = .ok (.if_icmp .eq 10, 3) := by decide +kernel
theorem d_MO_wide_113 : decode c_MO_wide 113 = .ok (.iload_n 0, 1) := by decide +kernel
theorem d_MO_wide_114 : decode c_MO_wide 114 = .ok (.sipush 188, 3) := by decide +kernel
theorem d_MO_wide_117 : decode c_MO_wide 117 = .ok (.if_icmp .ne 5, 3) := by decide +kernel
theorem d_MO_wide_120 : decode c_MO_wide 120 = .ok (.iconst 2, 1) := by decide +kernel
theorem d_MO_wide_121 : decode c_MO_wide 121 = .ok (.ireturn, 1) := by decide +kernel
theorem d_MO_wide_122 : decode c_MO_wide 122 = .ok (.iload_n 0, 1) := by decide +kernel
theorem d_MO_wide_123 : decode c_MO_wide 123 = .ok (.bipush 17, 2) := by decide +kernel
theorem d_MO_wide_125 : decode c_MO_wide 125 = .ok (.if_icmp .eq 38, 3) := by decide +kernel
theorem d_MO_wide_128 : decode c_MO_wide 128 = .ok (.iload_n 0, 1) := by decide +kernel
theorem d_MO_wide_129 : decode c_MO_wide 129 = .ok (.sipush 132, 3) := by decide +kernel
theorem d_MO_wide_132 : decode c_MO_wide 132 = .ok (.if_icmp .eq 31, 3) := by decide +kernel
theorem d_MO_wide_135 : decode c_MO_wide 135 = .ok (.iload_n 0, 1) := by decide +kernel
theorem d_MO_wide_136 : decode c_MO_wide 136 = .ok (.invokestatic 115, 3) := by decide +kernel
theorem d_MO_wide_139 : decode c_MO_wide 139 = .ok (.ifCond .ne 24, 3) := by decide +kernel
theorem d_MO_wide_142 : decode c_MO_wide 142 = .ok (.iload_n 0, 1) := by decide +kernel
theorem d_MO_wide_143 : decode c_MO_wide 143 = .ok (.sipush 178, 3) := by decide +kernel
theorem d_MO_wide_146 : decode c_MO_wide 146 = .ok (.if_icmp .eq 17, 3) := by decide +kernel
theorem d_MO_wide_149 : decode c_MO_wide 149 = .ok (.iload_n 0, 1) := by decide +kernel
theorem d_MO_wide_150 : decode c_MO_wide 150 = .ok (.sipush 179, 3) := by decide +kernel
theorem d_MO_wide_153 : decode c_MO_wide 153 = .ok (.if_icmp .eq 10, 3) := by decide +kernel
theorem d_MO_wide_156 : decode c_MO_wide 156 = .ok (.iload_n 0, 1) := by decide +kernel
theorem d_MO_wide_157 : decode c_MO_wide 157 = .ok (.sipush 184, 3) := by decide +kernel
theorem d_MO_wide_160 : decode c_MO_wide 160 = .ok (.if_icmp .ne 7, 3) := by decide +kernel
theorem d_MO_wide_163 : decode c_MO_wide 163 = .ok (.iconst 3, 1) := by decide +kernel
theorem d_MO_wide_164 : decode c_MO_wide 164 = .ok (.goto 4, 3) := by decide +kernel
theorem d_MO_wide_167 : decode c_MO_wide 167 = .ok (.iconst 0, 1) := by decide +kernel
theorem d_MO_wide_168 : decode c_MO_wide 168 = .ok (.ireturn, 1) := by decide +kernel
theorem d_MO_localOf_0 : decode c_MO_localOf 0 = .ok (.aload_n 0, 1) := by decide +kernel
theorem d_MO_localOf_1 : decode c_MO_localOf 1 = .ok (.getfield 7, 3) := by decide +kernel
theorem d_MO_localOf_4 : decode c_MO_localOf 4 = .ok (.iload_n 1, 1) := by decide +kernel
theorem d_MO_localOf_5 : decode c_MO_localOf 5 = .ok (.iaload, 1) := by decide +kernel
theorem d_MO_localOf_6 : decode c_MO_localOf 6 = .ok (.istore_n 2, 1) := by decide +kernel
theorem d_MO_localOf_7 : decode c_MO_localOf 7 = .ok (.iload_n 2, 1) := by decide +kernel
theorem d_MO_localOf_8 : decode c_MO_localOf 8 = .ok (.bipush 21, 2) := by decide +kernel
theorem d_MO_localOf_10 : decode c_MO_localOf 10 = .ok (.if_icmp .eq 28, 3) := by decide +kernel
theorem d_MO_localOf_13 : decode c_MO_localOf 13 = .ok (.iload_n 2, 1) := by decide +kernel
theorem d_MO_localOf_14 : decode c_MO_localOf 14 = .ok (.bipush 25, 2) := by decide +kernel
theorem d_MO_localOf_16 : decode c_MO_localOf 16 = .ok (.if_icmp .eq 22, 3) := by decide +kernel
theorem d_MO_localOf_19 : decode c_MO_localOf 19 = .ok (.iload_n 2, 1) := by decide +kernel
theorem d_MO_localOf_20 : decode c_MO_localOf 20 = .ok (.bipush 54, 2) := by decide +kernel
theorem d_MO_localOf_22 : decode c_MO_localOf 22 = .ok (.if_icmp .eq 16, 3) := by decide +kernel
theorem d_MO_localOf_25 : decode c_MO_localOf 25 = .ok (.iload_n 2, 1) := by decide +kernel
theorem d_MO_localOf_26 : decode c_MO_localOf 26 = .ok (.bipush 58, 2) := by decide +kernel
theorem d_MO_localOf_28 : decode c_MO_localOf 28 = .ok (.if_icmp .eq 10, 3) := by decide +kernel
theorem d_MO_localOf_31 : decode c_MO_localOf 31 = .ok (.iload_n 2, 1) := by decide +kernel
theorem d_MO_localOf_32 : decode c_MO_localOf 32 = .ok (.sipush 132, 3) := by decide +kernel
theorem d_MO_localOf_35 : decode c_MO_localOf 35 = .ok (.if_icmp .ne 12, 3) := by decide +kernel
theorem d_MO_localOf_38 : decode c_MO_localOf 38 = .ok (.aload_n 0, 1) := by decide +kernel
theorem d_MO_localOf_39 : decode c_MO_localOf 39 = .ok (.getfield 7, 3) := by decide +kernel
theorem d_MO_localOf_42 : decode c_MO_localOf 42 = .ok (.iload_n 1, 1) := by decide +kernel
theorem d_MO_localOf_43 : decode c_MO_localOf 43 = .ok (.iconst 1, 1) := by decide +kernel
theorem d_MO_localOf_44 : decode c_MO_localOf 44 = .ok (.iadd, 1) := by decide +kernel
theorem d_MO_localOf_45 : decode c_MO_localOf 45 = .ok (.iaload, 1) := by decide +kernel
theorem d_MO_localOf_46 : decode c_MO_localOf 46 = .ok (.ireturn, 1) := by decide +kernel
theorem d_MO_localOf_47 : decode c_MO_localOf 47 = .ok (.iload_n 2, 1) := by decide +kernel
theorem d_MO_localOf_48 : decode c_MO_localOf 48 = .ok (.invokestatic 108, 3) := by decide +kernel
theorem d_MO_localOf_51 : decode c_MO_localOf 51 = .ok (.ifCond .ne 7, 3) := by decide +kernel
theorem d_MO_localOf_54 : decode c_MO_localOf 54 = .ok (.iconst (-1), 1) := by decide +kernel
theorem d_MO_localOf_55 : decode c_MO_localOf 55 = .ok (.goto 46, 3) := by decide +kernel
theorem d_MO_localOf_58 : decode c_MO_localOf 58 = .ok (.iload_n 2, 1) := by decide +kernel
theorem d_MO_localOf_59 : decode c_MO_localOf 59 = .ok (.bipush 30, 2) := by decide +kernel
theorem d_MO_localOf_61 : decode c_MO_localOf 61 = .ok (.if_icmp .ge 10, 3) := by decide +kernel
theorem d_MO_localOf_64 : decode c_MO_localOf 64 = .ok (.iload_n 2, 1) := by decide +kernel
theorem d_MO_localOf_65 : decode c_MO_localOf 65 = .ok (.bipush 26, 2) := by decide +kernel
theorem d_MO_localOf_67 : decode c_MO_localOf 67 = .ok (.isub, 1) := by decide +kernel
theorem d_MO_localOf_68 : decode c_MO_localOf 68 = .ok (.goto 33, 3) := by decide +kernel
theorem d_MO_localOf_71 : decode c_MO_localOf 71 = .ok (.iload_n 2, 1) := by decide +kernel
theorem d_MO_localOf_72 : decode c_MO_localOf 72 = .ok (.bipush 46, 2) := by decide +kernel
theorem d_MO_localOf_74 : decode c_MO_localOf 74 = .ok (.if_icmp .ge 10, 3) := by decide +kernel
theorem d_MO_localOf_77 : decode c_MO_localOf 77 = .ok (.iload_n 2, 1) := by decide +kernel
theorem d_MO_localOf_78 : decode c_MO_localOf 78 = .ok (.bipush 42, 2) := by decide +kernel
theorem d_MO_localOf_80 : decode c_MO_localOf 80 = .ok (.isub, 1) := by decide +kernel
theorem d_MO_localOf_81 : decode c_MO_localOf 81 = .ok (.goto 20, 3) := by decide +kernel
theorem d_MO_localOf_84 : decode c_MO_localOf 84 = .ok (.iload_n 2, 1) := by decide +kernel
theorem d_MO_localOf_85 : decode c_MO_localOf 85 = .ok (.bipush 63, 2) := by decide +kernel
theorem d_MO_localOf_87 : decode c_MO_localOf 87 = .ok (.if_icmp .ge 10, 3) := by decide +kernel
theorem d_MO_localOf_90 : decode c_MO_localOf 90 = .ok (.iload_n 2, 1) := by decide +kernel
theorem d_MO_localOf_91 : decode c_MO_localOf 91 = .ok (.bipush 59, 2) := by decide +kernel
theorem d_MO_localOf_93 : decode c_MO_localOf 93 = .ok (.isub, 1) := by decide +kernel
theorem d_MO_localOf_94 : decode c_MO_localOf 94 = .ok (.goto 7, 3) := by decide +kernel
theorem d_MO_localOf_97 : decode c_MO_localOf 97 = .ok (.iload_n 2, 1) := by decide +kernel
theorem d_MO_localOf_98 : decode c_MO_localOf 98 = .ok (.bipush 75, 2) := by decide +kernel
theorem d_MO_localOf_100 : decode c_MO_localOf 100 = .ok (.isub, 1) := by decide +kernel
theorem d_MO_localOf_101 : decode c_MO_localOf 101 = .ok (.ireturn, 1) := by decide +kernel
theorem d_MO_isStart_0 : decode c_MO_isStart 0 = .ok (.iload_n 2, 1) := by decide +kernel
theorem d_MO_isStart_1 : decode c_MO_isStart 1 = .ok (.ifCond .lt 33, 3) := by decide +kernel
theorem d_MO_isStart_4 : decode c_MO_isStart 4 = .ok (.iload_n 2, 1) := by decide +kernel
theorem d_MO_isStart_5 : decode c_MO_isStart 5 = .ok (.aload_n 0, 1) := by decide +kernel
theorem d_MO_isStart_6 : decode c_MO_isStart 6 = .ok (.getfield 16, 3) := by decide +kernel
theorem d_MO_isStart_9 : decode c_MO_isStart 9 = .ok (.iload_n 1, 1) := by decide +kernel
theorem d_MO_isStart_10 : decode c_MO_isStart 10 = .ok (.iaload, 1) := by decide +kernel
theorem d_MO_isStart_11 : decode c_MO_isStart 11 = .ok (.if_icmp .ge 23, 3) := by decide +kernel
theorem d_MO_isStart_14 : decode c_MO_isStart 14 = .ok (.aload_n 0, 1) := by decide +kernel
theorem d_MO_isStart_15 : decode c_MO_isStart 15 = .ok (.getfield 51, 3) := by decide +kernel
theorem d_MO_isStart_18 : decode c_MO_isStart 18 = .ok (.aload_n 0, 1) := by decide +kernel
theorem d_MO_isStart_19 : decode c_MO_isStart 19 = .ok (.getfield 13, 3) := by decide +kernel
theorem d_MO_isStart_22 : decode c_MO_isStart 22 = .ok (.iload_n 1, 1) := by decide +kernel
theorem d_MO_isStart_23 : decode c_MO_isStart 23 = .ok (.iaload, 1) := by decide +kernel
theorem d_MO_isStart_24 : decode c_MO_isStart 24 = .ok (.iload_n 2, 1) := by decide +kernel
theorem d_MO_isStart_25 : decode c_MO_isStart 25 = .ok (.iadd, 1) := by decide +kernel
theorem d_MO_isStart_26 : decode c_MO_isStart 26 = .ok (.baload, 1) := by decide +kernel
theorem d_MO_isStart_27 : decode c_MO_isStart 27 = .ok (.ifCond .eq 7, 3) := by decide +kernel
theorem d_MO_isStart_30 : decode c_MO_isStart 30 = .ok (.iconst 1, 1) := by decide +kernel
theorem d_MO_isStart_31 : decode c_MO_isStart 31 = .ok (.goto 4, 3) := by decide +kernel
theorem d_MO_isStart_34 : decode c_MO_isStart 34 = .ok (.iconst 0, 1) := by decide +kernel
theorem d_MO_isStart_35 : decode c_MO_isStart 35 = .ok (.ireturn, 1) := by decide +kernel
theorem d_MO_instruction_0 : decode c_MO_instruction 0 = .ok (.aload_n 0, 1) := by decide +kernel
theorem d_MO_instruction_1 : decode c_MO_instruction 1 = .ok (.getfield 7, 3) := by decide +kernel
theorem d_MO_instruction_4 : decode c_MO_instruction 4 = .ok (.iload_n 2, 1) := by decide +kernel
theorem d_MO_instruction_5 : decode c_MO_instruction 5 = .ok (.iaload, 1) := by decide +kernel
theorem d_MO_instruction_6 : decode c_MO_instruction 6 = .ok (.istore 4, 2) := by decide +kernel
theorem d_MO_instruction_8 : decode c_MO_instruction 8 = .ok (.iload 4, 2) := by decide +kernel
theorem d_MO_instruction_10 : decode c_MO_instruction 10 = .ok (.invokestatic 118, 3) := by decide +kernel
theorem d_MO_instruction_13 : decode c_MO_instruction 13 = .ok (.istore 5, 2) := by decide +kernel
theorem d_MO_instruction_15 : decode c_MO_instruction 15 = .ok (.iload 5, 2) := by decide +kernel
theorem d_MO_instruction_17 : decode c_MO_instruction 17 = .ok (.ifCond .eq 25, 3) := by decide +kernel
theorem d_MO_instruction_20 : decode c_MO_instruction 20 = .ok (.iload_n 2, 1) := by decide +kernel
theorem d_MO_instruction_21 : decode c_MO_instruction 21 = .ok (.iload 5, 2) := by decide +kernel
theorem d_MO_instruction_23 : decode c_MO_instruction 23 = .ok (.iadd, 1) := by decide +kernel
theorem d_MO_instruction_24 : decode c_MO_instruction 24 = .ok (.iload_n 3, 1) := by decide +kernel
theorem d_MO_instruction_25 : decode c_MO_instruction 25 = .ok (.if_icmp .gt 17, 3) := by decide +kernel
theorem d_MO_instruction_28 : decode c_MO_instruction 28 = .ok (.aload_n 0, 1) := by decide +kernel
theorem d_MO_instruction_29 : decode c_MO_instruction 29 = .ok (.iload_n 2, 1) := by decide +kernel
theorem d_MO_instruction_30 : decode c_MO_instruction 30 = .ok (.invokevirtual 122, 3) := by decide +kernel
theorem d_MO_instruction_33 : decode c_MO_instruction 33 = .ok (.aload_n 0, 1) := by decide +kernel
theorem d_MO_instruction_34 : decode c_MO_instruction 34 = .ok (.getfield 22, 3) := by decide +kernel
theorem d_MO_instruction_37 : decode c_MO_instruction 37 = .ok (.iload_n 1, 1) := by decide +kernel
theorem d_MO_instruction_38 : decode c_MO_instruction 38 = .ok (.iaload, 1) := by decide +kernel
theorem d_MO_instruction_39 : decode c_MO_instruction 39 = .ok (.if_icmp .lt 5, 3) := by decide +kernel
theorem d_MO_instruction_42 : decode c_MO_instruction 42 = .ok (.iconst 0, 1) := by decide +kernel
theorem d_MO_instruction_43 : decode c_MO_instruction 43 = .ok (.ireturn, 1) := by decide +kernel
theorem d_MO_instruction_44 : decode c_MO_instruction 44 = .ok (.iload 4, 2) := by decide +kernel
theorem d_MO_instruction_46 : decode c_MO_instruction 46 = .ok (.sipush 178, 3) := by decide +kernel
theorem d_MO_instruction_49 : decode c_MO_instruction 49 = .ok (.if_icmp .eq 11, 3) := by decide +kernel
theorem d_MO_instruction_52 : decode c_MO_instruction 52 = .ok (.iload 4, 2) := by decide +kernel
theorem d_MO_instruction_54 : decode c_MO_instruction 54 = .ok (.sipush 179, 3) := by decide +kernel
theorem d_MO_instruction_57 : decode c_MO_instruction 57 = .ok (.if_icmp .ne 17, 3) := by decide +kernel
theorem d_MO_instruction_60 : decode c_MO_instruction 60 = .ok (.aload_n 0, 1) := by decide +kernel
theorem d_MO_instruction_61 : decode c_MO_instruction 61 = .ok (.iload_n 2, 1) := by decide +kernel
theorem d_MO_instruction_62 : decode c_MO_instruction 62 = .ok (.iconst 1, 1) := by decide +kernel
theorem d_MO_instruction_63 : decode c_MO_instruction 63 = .ok (.iadd, 1) := by decide +kernel
theorem d_MO_instruction_64 : decode c_MO_instruction 64 = .ok (.invokevirtual 125, 3) := by decide +kernel
theorem d_MO_instruction_67 : decode c_MO_instruction 67 = .ok (.iconst 0, 1) := by decide +kernel
theorem d_MO_instruction_68 : decode c_MO_instruction 68 = .ok (.bipush 7, 2) := by decide +kernel
theorem d_MO_instruction_70 : decode c_MO_instruction 70 = .ok (.invokestatic 100, 3) := by decide +kernel
theorem d_MO_instruction_73 : decode c_MO_instruction 73 = .ok (.ireturn, 1) := by decide +kernel
theorem d_MO_instruction_74 : decode c_MO_instruction 74 = .ok (.iload 4, 2) := by decide +kernel
theorem d_MO_instruction_76 : decode c_MO_instruction 76 = .ok (.sipush 184, 3) := by decide +kernel
theorem d_MO_instruction_79 : decode c_MO_instruction 79 = .ok (.if_icmp .ne 23, 3) := by decide +kernel
theorem d_MO_instruction_82 : decode c_MO_instruction 82 = .ok (.aload_n 0, 1) := by decide +kernel
theorem d_MO_instruction_83 : decode c_MO_instruction 83 = .ok (.iload_n 2, 1) := by decide +kernel
theorem d_MO_instruction_84 : decode c_MO_instruction 84 = .ok (.iconst 1, 1) := by decide +kernel
theorem d_MO_instruction_85 : decode c_MO_instruction 85 = .ok (.iadd, 1) := by decide +kernel
theorem d_MO_instruction_86 : decode c_MO_instruction 86 = .ok (.invokevirtual 125, 3) := by decide +kernel
theorem d_MO_instruction_89 : decode c_MO_instruction 89 = .ok (.iconst 0, 1) := by decide +kernel
theorem d_MO_instruction_90 : decode c_MO_instruction 90 = .ok (.aload_n 0, 1) := by decide +kernel
theorem d_MO_instruction_91 : decode c_MO_instruction 91 = .ok (.getfield 104, 3) := by decide +kernel
theorem d_MO_instruction_94 : decode c_MO_instruction 94 = .ok (.iconst 1, 1) := by decide +kernel
theorem d_MO_instruction_95 : decode c_MO_instruction 95 = .ok (.isub, 1) := by decide +kernel
theorem d_MO_instruction_96 : decode c_MO_instruction 96 = .ok (.invokestatic 100, 3) := by decide +kernel
theorem d_MO_instruction_99 : decode c_MO_instruction 99 = .ok (.goto 29, 3) := by decide +kernel
theorem d_MO_instruction_102 : decode c_MO_instruction 102 = .ok (.iload 4, 2) := by decide +kernel
theorem d_MO_instruction_104 : decode c_MO_instruction 104 = .ok (.sipush 188, 3) := by decide +kernel
theorem d_MO_instruction_107 : decode c_MO_instruction 107 = .ok (.if_icmp .ne 16, 3) := by decide +kernel
theorem d_MO_instruction_110 : decode c_MO_instruction 110 = .ok (.aload_n 0, 1) := by decide +kernel
theorem d_MO_instruction_111 : decode c_MO_instruction 111 = .ok (.getfield 7, 3) := by decide +kernel
theorem d_MO_instruction_114 : decode c_MO_instruction 114 = .ok (.iload_n 2, 1) := by decide +kernel
theorem d_MO_instruction_115 : decode c_MO_instruction 115 = .ok (.iconst 1, 1) := by decide +kernel
theorem d_MO_instruction_116 : decode c_MO_instruction 116 = .ok (.iadd, 1) := by decide +kernel
theorem d_MO_instruction_117 : decode c_MO_instruction 117 = .ok (.iaload, 1) := by decide +kernel
theorem d_MO_instruction_118 : decode c_MO_instruction 118 = .ok (.bipush 10, 2) := by decide +kernel
theorem d_MO_instruction_120 : decode c_MO_instruction 120 = .ok (.if_icmp .ne 7, 3) := by decide +kernel
theorem d_MO_instruction_123 : decode c_MO_instruction 123 = .ok (.iconst 1, 1) := by decide +kernel
theorem d_MO_instruction_124 : decode c_MO_instruction 124 = .ok (.goto 4, 3) := by decide +kernel
theorem d_MO_instruction_127 : decode c_MO_instruction 127 = .ok (.iconst 0, 1) := by decide +kernel
theorem d_MO_instruction_128 : decode c_MO_instruction 128 = .ok (.ireturn, 1) := by decide +kernel
theorem d_MO_shape_0 : decode c_MO_shape 0 = .ok (.aload_n 0, 1) := by decide +kernel
theorem d_MO_shape_1 : decode c_MO_shape 1 = .ok (.getfield 13, 3) := by decide +kernel
theorem d_MO_shape_4 : decode c_MO_shape 4 = .ok (.iload_n 1, 1) := by decide +kernel
theorem d_MO_shape_5 : decode c_MO_shape 5 = .ok (.iaload, 1) := by decide +kernel
theorem d_MO_shape_6 : decode c_MO_shape 6 = .ok (.istore_n 2, 1) := by decide +kernel
theorem d_MO_shape_7 : decode c_MO_shape 7 = .ok (.aload_n 0, 1) := by decide +kernel
theorem d_MO_shape_8 : decode c_MO_shape 8 = .ok (.getfield 13, 3) := by decide +kernel
theorem d_MO_shape_11 : decode c_MO_shape 11 = .ok (.iload_n 1, 1) := by decide +kernel
theorem d_MO_shape_12 : decode c_MO_shape 12 = .ok (.iaload, 1) := by decide +kernel
theorem d_MO_shape_13 : decode c_MO_shape 13 = .ok (.aload_n 0, 1) := by decide +kernel
theorem d_MO_shape_14 : decode c_MO_shape 14 = .ok (.getfield 16, 3) := by decide +kernel
theorem d_MO_shape_17 : decode c_MO_shape 17 = .ok (.iload_n 1, 1) := by decide +kernel
theorem d_MO_shape_18 : decode c_MO_shape 18 = .ok (.iaload, 1) := by decide +kernel
theorem d_MO_shape_19 : decode c_MO_shape 19 = .ok (.iadd, 1) := by decide +kernel
theorem d_MO_shape_20 : decode c_MO_shape 20 = .ok (.istore_n 3, 1) := by decide +kernel
theorem d_MO_shape_21 : decode c_MO_shape 21 = .ok (.iload_n 2, 1) := by decide +kernel
theorem d_MO_shape_22 : decode c_MO_shape 22 = .ok (.iload_n 3, 1) := by decide +kernel
theorem d_MO_shape_23 : decode c_MO_shape 23 = .ok (.if_icmp .ge 37, 3) := by decide +kernel
theorem d_MO_shape_26 : decode c_MO_shape 26 = .ok (.aload_n 0, 1) := by decide +kernel
theorem d_MO_shape_27 : decode c_MO_shape 27 = .ok (.iload_n 1, 1) := by decide +kernel
theorem d_MO_shape_28 : decode c_MO_shape 28 = .ok (.iload_n 2, 1) := by decide +kernel
theorem d_MO_shape_29 : decode c_MO_shape 29 = .ok (.iload_n 3, 1) := by decide +kernel
theorem d_MO_shape_30 : decode c_MO_shape 30 = .ok (.invokevirtual 128, 3) := by decide +kernel
theorem d_MO_shape_33 : decode c_MO_shape 33 = .ok (.ifCond .ne 5, 3) := by decide +kernel
theorem d_MO_shape_36 : decode c_MO_shape 36 = .ok (.iconst 0, 1) := by decide +kernel
theorem d_MO_shape_37 : decode c_MO_shape 37 = .ok (.ireturn, 1) := by decide +kernel
theorem d_MO_shape_38 : decode c_MO_shape 38 = .ok (.aload_n 0, 1) := by decide +kernel
theorem d_MO_shape_39 : decode c_MO_shape 39 = .ok (.getfield 51, 3) := by decide +kernel
theorem d_MO_shape_42 : decode c_MO_shape 42 = .ok (.iload_n 2, 1) := by decide +kernel
theorem d_MO_shape_43 : decode c_MO_shape 43 = .ok (.iconst 1, 1) := by decide +kernel
theorem d_MO_shape_44 : decode c_MO_shape 44 = .ok (.bastore, 1) := by decide +kernel
theorem d_MO_shape_45 : decode c_MO_shape 45 = .ok (.iload_n 2, 1) := by decide +kernel
theorem d_MO_shape_46 : decode c_MO_shape 46 = .ok (.aload_n 0, 1) := by decide +kernel
theorem d_MO_shape_47 : decode c_MO_shape 47 = .ok (.getfield 7, 3) := by decide +kernel
theorem d_MO_shape_50 : decode c_MO_shape 50 = .ok (.iload_n 2, 1) := by decide +kernel
theorem d_MO_shape_51 : decode c_MO_shape 51 = .ok (.iaload, 1) := by decide +kernel
theorem d_MO_shape_52 : decode c_MO_shape 52 = .ok (.invokestatic 118, 3) := by decide +kernel
theorem d_MO_shape_55 : decode c_MO_shape 55 = .ok (.iadd, 1) := by decide +kernel
theorem d_MO_shape_56 : decode c_MO_shape 56 = .ok (.istore_n 2, 1) := by decide +kernel
theorem d_MO_shape_57 : decode c_MO_shape 57 = .ok (.goto (-36), 3) := by decide +kernel
theorem d_MO_shape_60 : decode c_MO_shape 60 = .ok (.iconst 1, 1) := by decide +kernel
theorem d_MO_shape_61 : decode c_MO_shape 61 = .ok (.istore 4, 2) := by decide +kernel
theorem d_MO_shape_63 : decode c_MO_shape 63 = .ok (.aload_n 0, 1) := by decide +kernel
theorem d_MO_shape_64 : decode c_MO_shape 64 = .ok (.getfield 13, 3) := by decide +kernel
theorem d_MO_shape_67 : decode c_MO_shape 67 = .ok (.iload_n 1, 1) := by decide +kernel
theorem d_MO_shape_68 : decode c_MO_shape 68 = .ok (.iaload, 1) := by decide +kernel
theorem d_MO_shape_69 : decode c_MO_shape 69 = .ok (.istore 5, 2) := by decide +kernel
theorem d_MO_shape_71 : decode c_MO_shape 71 = .ok (.iload 5, 2) := by decide +kernel
theorem d_MO_shape_73 : decode c_MO_shape 73 = .ok (.iload_n 3, 1) := by decide +kernel
theorem d_MO_shape_74 : decode c_MO_shape 74 = .ok (.if_icmp .ge 70, 3) := by decide +kernel
theorem d_MO_shape_77 : decode c_MO_shape 77 = .ok (.iload 4, 2) := by decide +kernel
theorem d_MO_shape_79 : decode c_MO_shape 79 = .ok (.ifCond .eq 56, 3) := by decide +kernel
theorem d_MO_shape_82 : decode c_MO_shape 82 = .ok (.aload_n 0, 1) := by decide +kernel
theorem d_MO_shape_83 : decode c_MO_shape 83 = .ok (.getfield 51, 3) := by decide +kernel
theorem d_MO_shape_86 : decode c_MO_shape 86 = .ok (.iload 5, 2) := by decide +kernel
theorem d_MO_shape_88 : decode c_MO_shape 88 = .ok (.baload, 1) := by decide +kernel
theorem d_MO_shape_89 : decode c_MO_shape 89 = .ok (.ifCond .eq 42, 3) := by decide +kernel
theorem d_MO_shape_92 : decode c_MO_shape 92 = .ok (.aload_n 0, 1) := by decide +kernel
theorem d_MO_shape_93 : decode c_MO_shape 93 = .ok (.getfield 7, 3) := by decide +kernel
theorem d_MO_shape_96 : decode c_MO_shape 96 = .ok (.iload 5, 2) := by decide +kernel
theorem d_MO_shape_98 : decode c_MO_shape 98 = .ok (.iaload, 1) := by decide +kernel
theorem d_MO_shape_99 : decode c_MO_shape 99 = .ok (.invokestatic 115, 3) := by decide +kernel
theorem d_MO_shape_102 : decode c_MO_shape 102 = .ok (.ifCond .eq 29, 3) := by decide +kernel
theorem d_MO_shape_105 : decode c_MO_shape 105 = .ok (.aload_n 0, 1) := by decide +kernel
theorem d_MO_shape_106 : decode c_MO_shape 106 = .ok (.iload_n 1, 1) := by decide +kernel
theorem d_MO_shape_107 : decode c_MO_shape 107 = .ok (.iload 5, 2) := by decide +kernel
theorem d_MO_shape_109 : decode c_MO_shape 109 = .ok (.aload_n 0, 1) := by decide +kernel
theorem d_MO_shape_110 : decode c_MO_shape 110 = .ok (.getfield 13, 3) := by decide +kernel
theorem d_MO_shape_113 : decode c_MO_shape 113 = .ok (.iload_n 1, 1) := by decide +kernel
theorem d_MO_shape_114 : decode c_MO_shape 114 = .ok (.iaload, 1) := by decide +kernel
theorem d_MO_shape_115 : decode c_MO_shape 115 = .ok (.isub, 1) := by decide +kernel
theorem d_MO_shape_116 : decode c_MO_shape 116 = .ok (.aload_n 0, 1) := by decide +kernel
theorem d_MO_shape_117 : decode c_MO_shape 117 = .ok (.iload 5, 2) := by decide +kernel
theorem d_MO_shape_119 : decode c_MO_shape 119 = .ok (.iconst 1, 1) := by decide +kernel
theorem d_MO_shape_120 : decode c_MO_shape 120 = .ok (.iadd, 1) := by decide +kernel
theorem d_MO_shape_121 : decode c_MO_shape 121 = .ok (.invokevirtual 125, 3) := by decide +kernel
theorem d_MO_shape_124 : decode c_MO_shape 124 = .ok (.iadd, 1) := by decide +kernel
theorem d_MO_shape_125 : decode c_MO_shape 125 = .ok (.invokevirtual 131, 3) := by decide +kernel
theorem d_MO_shape_128 : decode c_MO_shape 128 = .ok (.ifCond .eq 7, 3) := by decide +kernel
theorem d_MO_shape_131 : decode c_MO_shape 131 = .ok (.iconst 1, 1) := by decide +kernel
theorem d_MO_shape_132 : decode c_MO_shape 132 = .ok (.goto 4, 3) := by decide +kernel
theorem d_MO_shape_135 : decode c_MO_shape 135 = .ok (.iconst 0, 1) := by decide +kernel
theorem d_MO_shape_136 : decode c_MO_shape 136 = .ok (.istore 4, 2) := by decide +kernel
theorem d_MO_shape_138 : decode c_MO_shape 138 = .ok (.iinc 5 1, 3) := by decide +kernel
theorem d_MO_shape_141 : decode c_MO_shape 141 = .ok (.goto (-70), 3) := by decide +kernel
theorem d_MO_shape_144 : decode c_MO_shape 144 = .ok (.iconst 4, 1) := by decide +kernel
theorem d_MO_shape_145 : decode c_MO_shape 145 = .ok (.iload_n 1, 1) := by decide +kernel
theorem d_MO_shape_146 : decode c_MO_shape 146 = .ok (.imul, 1) := by decide +kernel
theorem d_MO_shape_147 : decode c_MO_shape 147 = .ok (.istore 5, 2) := by decide +kernel
theorem d_MO_shape_149 : decode c_MO_shape 149 = .ok (.iload 5, 2) := by decide +kernel
theorem d_MO_shape_151 : decode c_MO_shape 151 = .ok (.iconst 4, 1) := by decide +kernel
theorem d_MO_shape_152 : decode c_MO_shape 152 = .ok (.iload_n 1, 1) := by decide +kernel
theorem d_MO_shape_153 : decode c_MO_shape 153 = .ok (.imul, 1) := by decide +kernel
theorem d_MO_shape_154 : decode c_MO_shape 154 = .ok (.aload_n 0, 1) := by decide +kernel
theorem d_MO_shape_155 : decode c_MO_shape 155 = .ok (.getfield 32, 3) := by decide +kernel
theorem d_MO_shape_158 : decode c_MO_shape 158 = .ok (.iload_n 1, 1) := by decide +kernel
theorem d_MO_shape_159 : decode c_MO_shape 159 = .ok (.iaload, 1) := by decide +kernel
theorem d_MO_shape_160 : decode c_MO_shape 160 = .ok (.iadd, 1) := by decide +kernel
theorem d_MO_shape_161 : decode c_MO_shape 161 = .ok (.if_icmp .ge 114, 3) := by decide +kernel
theorem d_MO_shape_164 : decode c_MO_shape 164 = .ok (.iload 4, 2) := by decide +kernel
theorem d_MO_shape_166 : decode c_MO_shape 166 = .ok (.ifCond .eq 100, 3) := by decide +kernel
theorem d_MO_shape_169 : decode c_MO_shape 169 = .ok (.aload_n 0, 1) := by decide +kernel
theorem d_MO_shape_170 : decode c_MO_shape 170 = .ok (.getfield 35, 3) := by decide +kernel
theorem d_MO_shape_173 : decode c_MO_shape 173 = .ok (.iload 5, 2) := by decide +kernel
theorem d_MO_shape_175 : decode c_MO_shape 175 = .ok (.iaload, 1) := by decide +kernel
theorem d_MO_shape_176 : decode c_MO_shape 176 = .ok (.aload_n 0, 1) := by decide +kernel
theorem d_MO_shape_177 : decode c_MO_shape 177 = .ok (.getfield 38, 3) := by decide +kernel
theorem d_MO_shape_180 : decode c_MO_shape 180 = .ok (.iload 5, 2) := by decide +kernel
theorem d_MO_shape_182 : decode c_MO_shape 182 = .ok (.iaload, 1) := by decide +kernel
theorem d_MO_shape_183 : decode c_MO_shape 183 = .ok (.if_icmp .ge 83, 3) := by decide +kernel
theorem d_MO_shape_186 : decode c_MO_shape 186 = .ok (.aload_n 0, 1) := by decide +kernel
theorem d_MO_shape_187 : decode c_MO_shape 187 = .ok (.iload_n 1, 1) := by decide +kernel
theorem d_MO_shape_188 : decode c_MO_shape 188 = .ok (.aload_n 0, 1) := by decide +kernel
theorem d_MO_shape_189 : decode c_MO_shape 189 = .ok (.getfield 35, 3) := by decide +kernel
theorem d_MO_shape_192 : decode c_MO_shape 192 = .ok (.iload 5, 2) := by decide +kernel
theorem d_MO_shape_194 : decode c_MO_shape 194 = .ok (.iaload, 1) := by decide +kernel
theorem d_MO_shape_195 : decode c_MO_shape 195 = .ok (.invokevirtual 131, 3) := by decide +kernel
theorem d_MO_shape_198 : decode c_MO_shape 198 = .ok (.ifCond .eq 68, 3) := by decide +kernel
theorem d_MO_shape_201 : decode c_MO_shape 201 = .ok (.aload_n 0, 1) := by decide +kernel
theorem d_MO_shape_202 : decode c_MO_shape 202 = .ok (.iload_n 1, 1) := by decide +kernel
theorem d_MO_shape_203 : decode c_MO_shape 203 = .ok (.aload_n 0, 1) := by decide +kernel
theorem d_MO_shape_204 : decode c_MO_shape 204 = .ok (.getfield 38, 3) := by decide +kernel
theorem d_MO_shape_207 : decode c_MO_shape 207 = .ok (.iload 5, 2) := by decide +kernel
theorem d_MO_shape_209 : decode c_MO_shape 209 = .ok (.iaload, 1) := by decide +kernel
theorem d_MO_shape_210 : decode c_MO_shape 210 = .ok (.invokevirtual 131, 3) := by decide +kernel
theorem d_MO_shape_213 : decode c_MO_shape 213 = .ok (.ifCond .ne 19, 3) := by decide +kernel
theorem d_MO_shape_216 : decode c_MO_shape 216 = .ok (.aload_n 0, 1) := by decide +kernel
theorem d_MO_shape_217 : decode c_MO_shape 217 = .ok (.getfield 38, 3) := by decide +kernel
theorem d_MO_shape_220 : decode c_MO_shape 220 = .ok (.iload 5, 2) := by decide +kernel
theorem d_MO_shape_222 : decode c_MO_shape 222 = .ok (.iaload, 1) := by decide +kernel
theorem d_MO_shape_223 : decode c_MO_shape 223 = .ok (.aload_n 0, 1) := by decide +kernel
theorem d_MO_shape_224 : decode c_MO_shape 224 = .ok (.getfield 16, 3) := by decide +kernel
theorem d_MO_shape_227 : decode c_MO_shape 227 = .ok (.iload_n 1, 1) := by decide +kernel
theorem d_MO_shape_228 : decode c_MO_shape 228 = .ok (.iaload, 1) := by decide +kernel
theorem d_MO_shape_229 : decode c_MO_shape 229 = .ok (.if_icmp .ne 37, 3) := by decide +kernel
theorem d_MO_shape_232 : decode c_MO_shape 232 = .ok (.aload_n 0, 1) := by decide +kernel
theorem d_MO_shape_233 : decode c_MO_shape 233 = .ok (.iload_n 1, 1) := by decide +kernel
theorem d_MO_shape_234 : decode c_MO_shape 234 = .ok (.aload_n 0, 1) := by decide +kernel
theorem d_MO_shape_235 : decode c_MO_shape 235 = .ok (.getfield 41, 3) := by decide +kernel
theorem d_MO_shape_238 : decode c_MO_shape 238 = .ok (.iload 5, 2) := by decide +kernel
theorem d_MO_shape_240 : decode c_MO_shape 240 = .ok (.iaload, 1) := by decide +kernel
theorem d_MO_shape_241 : decode c_MO_shape 241 = .ok (.invokevirtual 131, 3) := by decide +kernel
theorem d_MO_shape_244 : decode c_MO_shape 244 = .ok (.ifCond .eq 22, 3) := by decide +kernel
theorem d_MO_shape_247 : decode c_MO_shape 247 = .ok (.aload_n 0, 1) := by decide +kernel
theorem d_MO_shape_248 : decode c_MO_shape 248 = .ok (.getfield 44, 3) := by decide +kernel
theorem d_MO_shape_251 : decode c_MO_shape 251 = .ok (.iload 5, 2) := by decide +kernel
theorem d_MO_shape_253 : decode c_MO_shape 253 = .ok (.iaload, 1) := by decide +kernel
theorem d_MO_shape_254 : decode c_MO_shape 254 = .ok (.iconst 0, 1) := by decide +kernel
theorem d_MO_shape_255 : decode c_MO_shape 255 = .ok (.iconst 4, 1) := by decide +kernel
theorem d_MO_shape_256 : decode c_MO_shape 256 = .ok (.invokestatic 100, 3) := by decide +kernel
theorem d_MO_shape_259 : decode c_MO_shape 259 = .ok (.ifCond .eq 7, 3) := by decide +kernel
theorem d_MO_shape_262 : decode c_MO_shape 262 = .ok (.iconst 1, 1) := by decide +kernel
theorem d_MO_shape_263 : decode c_MO_shape 263 = .ok (.goto 4, 3) := by decide +kernel
theorem d_MO_shape_266 : decode c_MO_shape 266 = .ok (.iconst 0, 1) := by decide +kernel
theorem d_MO_shape_267 : decode c_MO_shape 267 = .ok (.istore 4, 2) := by decide +kernel
theorem d_MO_shape_269 : decode c_MO_shape 269 = .ok (.iinc 5 1, 3) := by decide +kernel
theorem d_MO_shape_272 : decode c_MO_shape 272 = .ok (.goto (-123), 3) := by decide +kernel
theorem d_MO_shape_275 : decode c_MO_shape 275 = .ok (.iload 4, 2) := by decide +kernel
theorem d_MO_shape_277 : decode c_MO_shape 277 = .ok (.ireturn, 1) := by decide +kernel
theorem d_MO_off_0 : decode c_MO_off 0 = .ok (.aload_n 0, 1) := by decide +kernel
theorem d_MO_off_1 : decode c_MO_off 1 = .ok (.getfield 135, 3) := by decide +kernel
theorem d_MO_off_4 : decode c_MO_off 4 = .ok (.ifCond .ne 10, 3) := by decide +kernel
theorem d_MO_off_7 : decode c_MO_off 7 = .ok (.aload_n 0, 1) := by decide +kernel
theorem d_MO_off_8 : decode c_MO_off 8 = .ok (.iconst 0, 1) := by decide +kernel
theorem d_MO_off_9 : decode c_MO_off 9 = .ok (.putfield 138, 3) := by decide +kernel
theorem d_MO_off_12 : decode c_MO_off 12 = .ok (.iconst 0, 1) := by decide +kernel
theorem d_MO_off_13 : decode c_MO_off 13 = .ok (.ireturn, 1) := by decide +kernel
theorem d_MO_off_14 : decode c_MO_off 14 = .ok (.aload_n 0, 1) := by decide +kernel
theorem d_MO_off_15 : decode c_MO_off 15 = .ok (.dup, 1) := by decide +kernel
theorem d_MO_off_16 : decode c_MO_off 16 = .ok (.getfield 135, 3) := by decide +kernel
theorem d_MO_off_19 : decode c_MO_off 19 = .ok (.iconst 1, 1) := by decide +kernel
theorem d_MO_off_20 : decode c_MO_off 20 = .ok (.isub, 1) := by decide +kernel
theorem d_MO_off_21 : decode c_MO_off 21 = .ok (.putfield 135, 3) := by decide +kernel
theorem d_MO_off_24 : decode c_MO_off 24 = .ok (.aload_n 0, 1) := by decide +kernel
theorem d_MO_off_25 : decode c_MO_off 25 = .ok (.getfield 63, 3) := by decide +kernel
theorem d_MO_off_28 : decode c_MO_off 28 = .ok (.bipush 8, 2) := by decide +kernel
theorem d_MO_off_30 : decode c_MO_off 30 = .ok (.aload_n 0, 1) := by decide +kernel
theorem d_MO_off_31 : decode c_MO_off 31 = .ok (.getfield 135, 3) := by decide +kernel
theorem d_MO_off_34 : decode c_MO_off 34 = .ok (.iadd, 1) := by decide +kernel
theorem d_MO_off_35 : decode c_MO_off 35 = .ok (.iaload, 1) := by decide +kernel
theorem d_MO_off_36 : decode c_MO_off 36 = .ok (.istore_n 2, 1) := by decide +kernel
theorem d_MO_off_37 : decode c_MO_off 37 = .ok (.aload_n 0, 1) := by decide +kernel
theorem d_MO_off_38 : decode c_MO_off 38 = .ok (.aload_n 0, 1) := by decide +kernel
theorem d_MO_off_39 : decode c_MO_off 39 = .ok (.getfield 138, 3) := by decide +kernel
theorem d_MO_off_42 : decode c_MO_off 42 = .ok (.ifCond .eq 16, 3) := by decide +kernel
theorem d_MO_off_45 : decode c_MO_off 45 = .ok (.iload_n 1, 1) := by decide +kernel
theorem d_MO_off_46 : decode c_MO_off 46 = .ok (.ifCond .eq 8, 3) := by decide +kernel
theorem d_MO_off_49 : decode c_MO_off 49 = .ok (.iload_n 2, 1) := by decide +kernel
theorem d_MO_off_50 : decode c_MO_off 50 = .ok (.iload_n 1, 1) := by decide +kernel
theorem d_MO_off_51 : decode c_MO_off 51 = .ok (.if_icmp .ne 7, 3) := by decide +kernel
theorem d_MO_off_54 : decode c_MO_off 54 = .ok (.iconst 1, 1) := by decide +kernel
theorem d_MO_off_55 : decode c_MO_off 55 = .ok (.goto 4, 3) := by decide +kernel
theorem d_MO_off_58 : decode c_MO_off 58 = .ok (.iconst 0, 1) := by decide +kernel
theorem d_MO_off_59 : decode c_MO_off 59 = .ok (.putfield 138, 3) := by decide +kernel
theorem d_MO_off_62 : decode c_MO_off 62 = .ok (.iload_n 2, 1) := by decide +kernel
theorem d_MO_off_63 : decode c_MO_off 63 = .ok (.ireturn, 1) := by decide +kernel
theorem d_MO_on_0 : decode c_MO_on 0 = .ok (.aload_n 0, 1) := by decide +kernel
theorem d_MO_on_1 : decode c_MO_on 1 = .ok (.getfield 135, 3) := by decide +kernel
theorem d_MO_on_4 : decode c_MO_on 4 = .ok (.aload_n 0, 1) := by decide +kernel
theorem d_MO_on_5 : decode c_MO_on 5 = .ok (.getfield 25, 3) := by decide +kernel
theorem d_MO_on_8 : decode c_MO_on 8 = .ok (.iload_n 2, 1) := by decide +kernel
theorem d_MO_on_9 : decode c_MO_on 9 = .ok (.iaload, 1) := by decide +kernel
theorem d_MO_on_10 : decode c_MO_on 10 = .ok (.if_icmp .ne 11, 3) := by decide +kernel
theorem d_MO_on_13 : decode c_MO_on 13 = .ok (.aload_n 0, 1) := by decide +kernel
theorem d_MO_on_14 : decode c_MO_on 14 = .ok (.iconst 0, 1) := by decide +kernel
theorem d_MO_on_15 : decode c_MO_on 15 = .ok (.putfield 138, 3) := by decide +kernel
theorem d_MO_on_18 : decode c_MO_on 18 = .ok (.goto 26, 3) := by decide +kernel
theorem d_MO_on_21 : decode c_MO_on 21 = .ok (.aload_n 0, 1) := by decide +kernel
theorem d_MO_on_22 : decode c_MO_on 22 = .ok (.getfield 63, 3) := by decide +kernel
theorem d_MO_on_25 : decode c_MO_on 25 = .ok (.bipush 8, 2) := by decide +kernel
theorem d_MO_on_27 : decode c_MO_on 27 = .ok (.aload_n 0, 1) := by decide +kernel
theorem d_MO_on_28 : decode c_MO_on 28 = .ok (.getfield 135, 3) := by decide +kernel
theorem d_MO_on_31 : decode c_MO_on 31 = .ok (.iadd, 1) := by decide +kernel
theorem d_MO_on_32 : decode c_MO_on 32 = .ok (.iload_n 1, 1) := by decide +kernel
theorem d_MO_on_33 : decode c_MO_on 33 = .ok (.iastore, 1) := by decide +kernel
theorem d_MO_on_34 : decode c_MO_on 34 = .ok (.aload_n 0, 1) := by decide +kernel
theorem d_MO_on_35 : decode c_MO_on 35 = .ok (.dup, 1) := by decide +kernel
theorem d_MO_on_36 : decode c_MO_on 36 = .ok (.getfield 135, 3) := by decide +kernel
theorem d_MO_on_39 : decode c_MO_on 39 = .ok (.iconst 1, 1) := by decide +kernel
theorem d_MO_on_40 : decode c_MO_on 40 = .ok (.iadd, 1) := by decide +kernel
theorem d_MO_on_41 : decode c_MO_on 41 = .ok (.putfield 135, 3) := by decide +kernel
theorem d_MO_on_44 : decode c_MO_on 44 = .ok (.return_, 1) := by decide +kernel
theorem d_MO_come_0 : decode c_MO_come 0 = .ok (.iload_n 3, 1) := by decide +kernel
theorem d_MO_come_1 : decode c_MO_come 1 = .ok (.ifCond .eq 7, 3) := by decide +kernel
theorem d_MO_come_4 : decode c_MO_come 4 = .ok (.iconst 1, 1) := by decide +kernel
theorem d_MO_come_5 : decode c_MO_come 5 = .ok (.goto 7, 3) := by decide +kernel
theorem d_MO_come_8 : decode c_MO_come 8 = .ok (.aload_n 0, 1) := by decide +kernel
theorem d_MO_come_9 : decode c_MO_come 9 = .ok (.getfield 135, 3) := by decide +kernel
theorem d_MO_come_12 : decode c_MO_come 12 = .ok (.istore 4, 2) := by decide +kernel
theorem d_MO_come_14 : decode c_MO_come 14 = .ok (.iload_n 2, 1) := by decide +kernel
theorem d_MO_come_15 : decode c_MO_come 15 = .ok (.aload_n 0, 1) := by decide +kernel
theorem d_MO_come_16 : decode c_MO_come 16 = .ok (.getfield 13, 3) := by decide +kernel
theorem d_MO_come_19 : decode c_MO_come 19 = .ok (.iload_n 1, 1) := by decide +kernel
theorem d_MO_come_20 : decode c_MO_come 20 = .ok (.iaload, 1) := by decide +kernel
theorem d_MO_come_21 : decode c_MO_come 21 = .ok (.aload_n 0, 1) := by decide +kernel
theorem d_MO_come_22 : decode c_MO_come 22 = .ok (.getfield 16, 3) := by decide +kernel
theorem d_MO_come_25 : decode c_MO_come 25 = .ok (.iload_n 1, 1) := by decide +kernel
theorem d_MO_come_26 : decode c_MO_come 26 = .ok (.iaload, 1) := by decide +kernel
theorem d_MO_come_27 : decode c_MO_come 27 = .ok (.iadd, 1) := by decide +kernel
theorem d_MO_come_28 : decode c_MO_come 28 = .ok (.if_icmp .ge 16, 3) := by decide +kernel
theorem d_MO_come_31 : decode c_MO_come 31 = .ok (.iload_n 3, 1) := by decide +kernel
theorem d_MO_come_32 : decode c_MO_come 32 = .ok (.ifCond .eq 18, 3) := by decide +kernel
theorem d_MO_come_35 : decode c_MO_come 35 = .ok (.aload_n 0, 1) := by decide +kernel
theorem d_MO_come_36 : decode c_MO_come 36 = .ok (.getfield 25, 3) := by decide +kernel
theorem d_MO_come_39 : decode c_MO_come 39 = .ok (.iload_n 1, 1) := by decide +kernel
theorem d_MO_come_40 : decode c_MO_come 40 = .ok (.iaload, 1) := by decide +kernel
theorem d_MO_come_41 : decode c_MO_come 41 = .ok (.ifCond .ne 9, 3) := by decide +kernel
theorem d_MO_come_44 : decode c_MO_come 44 = .ok (.aload_n 0, 1) := by decide +kernel
theorem d_MO_come_45 : decode c_MO_come 45 = .ok (.iconst 0, 1) := by decide +kernel
theorem d_MO_come_46 : decode c_MO_come 46 = .ok (.putfield 138, 3) := by decide +kernel
theorem d_MO_come_49 : decode c_MO_come 49 = .ok (.return_, 1) := by decide +kernel
theorem d_MO_come_50 : decode c_MO_come 50 = .ok (.aload_n 0, 1) := by decide +kernel
theorem d_MO_come_51 : decode c_MO_come 51 = .ok (.getfield 54, 3) := by decide +kernel
theorem d_MO_come_54 : decode c_MO_come 54 = .ok (.iload_n 2, 1) := by decide +kernel
theorem d_MO_come_55 : decode c_MO_come 55 = .ok (.baload, 1) := by decide +kernel
theorem d_MO_come_56 : decode c_MO_come 56 = .ok (.ifCond .ne 74, 3) := by decide +kernel
theorem d_MO_come_59 : decode c_MO_come 59 = .ok (.aload_n 0, 1) := by decide +kernel
theorem d_MO_come_60 : decode c_MO_come 60 = .ok (.getfield 54, 3) := by decide +kernel
theorem d_MO_come_63 : decode c_MO_come 63 = .ok (.iload_n 2, 1) := by decide +kernel
theorem d_MO_come_64 : decode c_MO_come 64 = .ok (.iconst 1, 1) := by decide +kernel
theorem d_MO_come_65 : decode c_MO_come 65 = .ok (.bastore, 1) := by decide +kernel
theorem d_MO_come_66 : decode c_MO_come 66 = .ok (.aload_n 0, 1) := by decide +kernel
theorem d_MO_come_67 : decode c_MO_come 67 = .ok (.iconst 1, 1) := by decide +kernel
theorem d_MO_come_68 : decode c_MO_come 68 = .ok (.putfield 141, 3) := by decide +kernel
theorem d_MO_come_71 : decode c_MO_come 71 = .ok (.aload_n 0, 1) := by decide +kernel
theorem d_MO_come_72 : decode c_MO_come 72 = .ok (.getfield 60, 3) := by decide +kernel
theorem d_MO_come_75 : decode c_MO_come 75 = .ok (.iload_n 2, 1) := by decide +kernel
theorem d_MO_come_76 : decode c_MO_come 76 = .ok (.iload 4, 2) := by decide +kernel
theorem d_MO_come_78 : decode c_MO_come 78 = .ok (.iastore, 1) := by decide +kernel
theorem d_MO_come_79 : decode c_MO_come 79 = .ok (.iconst 0, 1) := by decide +kernel
theorem d_MO_come_80 : decode c_MO_come 80 = .ok (.istore 5, 2) := by decide +kernel
theorem d_MO_come_82 : decode c_MO_come 82 = .ok (.iload 5, 2) := by decide +kernel
theorem d_MO_come_84 : decode c_MO_come 84 = .ok (.bipush 16, 2) := by decide +kernel
theorem d_MO_come_86 : decode c_MO_come 86 = .ok (.if_icmp .ge 43, 3) := by decide +kernel
theorem d_MO_come_89 : decode c_MO_come 89 = .ok (.aload_n 0, 1) := by decide +kernel
theorem d_MO_come_90 : decode c_MO_come 90 = .ok (.getfield 57, 3) := by decide +kernel
theorem d_MO_come_93 : decode c_MO_come 93 = .ok (.bipush 16, 2) := by decide +kernel
theorem d_MO_come_95 : decode c_MO_come 95 = .ok (.iload_n 2, 1) := by decide +kernel
theorem d_MO_come_96 : decode c_MO_come 96 = .ok (.imul, 1) := by decide +kernel
theorem d_MO_come_97 : decode c_MO_come 97 = .ok (.iload 5, 2) := by decide +kernel
theorem d_MO_come_99 : decode c_MO_come 99 = .ok (.iadd, 1) := by decide +kernel
theorem d_MO_come_100 : decode c_MO_come 100 = .ok (.iload_n 3, 1) := by decide +kernel
theorem d_MO_come_101 : decode c_MO_come 101 = .ok (.ifCond .eq 14, 3) := by decide +kernel
theorem d_MO_come_104 : decode c_MO_come 104 = .ok (.iload 5, 2) := by decide +kernel
theorem d_MO_come_106 : decode c_MO_come 106 = .ok (.bipush 8, 2) := by decide +kernel
theorem d_MO_come_108 : decode c_MO_come 108 = .ok (.if_icmp .ne 7, 3) := by decide +kernel
theorem d_MO_come_111 : decode c_MO_come 111 = .ok (.iconst 1, 1) := by decide +kernel
theorem d_MO_come_112 : decode c_MO_come 112 = .ok (.goto 10, 3) := by decide +kernel
theorem d_MO_come_115 : decode c_MO_come 115 = .ok (.aload_n 0, 1) := by decide +kernel
theorem d_MO_come_116 : decode c_MO_come 116 = .ok (.getfield 63, 3) := by decide +kernel
theorem d_MO_come_119 : decode c_MO_come 119 = .ok (.iload 5, 2) := by decide +kernel
theorem d_MO_come_121 : decode c_MO_come 121 = .ok (.iaload, 1) := by decide +kernel
theorem d_MO_come_122 : decode c_MO_come 122 = .ok (.iastore, 1) := by decide +kernel
theorem d_MO_come_123 : decode c_MO_come 123 = .ok (.iinc 5 1, 3) := by decide +kernel
theorem d_MO_come_126 : decode c_MO_come 126 = .ok (.goto (-44), 3) := by decide +kernel
theorem d_MO_come_129 : decode c_MO_come 129 = .ok (.return_, 1) := by decide +kernel
theorem d_MO_come_130 : decode c_MO_come 130 = .ok (.aload_n 0, 1) := by decide +kernel
theorem d_MO_come_131 : decode c_MO_come 131 = .ok (.aload_n 0, 1) := by decide +kernel
theorem d_MO_come_132 : decode c_MO_come 132 = .ok (.getfield 138, 3) := by decide +kernel
theorem d_MO_come_135 : decode c_MO_come 135 = .ok (.ifCond .eq 18, 3) := by decide +kernel
theorem d_MO_come_138 : decode c_MO_come 138 = .ok (.aload_n 0, 1) := by decide +kernel
theorem d_MO_come_139 : decode c_MO_come 139 = .ok (.getfield 60, 3) := by decide +kernel
theorem d_MO_come_142 : decode c_MO_come 142 = .ok (.iload_n 2, 1) := by decide +kernel
theorem d_MO_come_143 : decode c_MO_come 143 = .ok (.iaload, 1) := by decide +kernel
theorem d_MO_come_144 : decode c_MO_come 144 = .ok (.iload 4, 2) := by decide +kernel
theorem d_MO_come_146 : decode c_MO_come 146 = .ok (.if_icmp .ne 7, 3) := by decide +kernel
theorem d_MO_come_149 : decode c_MO_come 149 = .ok (.iconst 1, 1) := by decide +kernel
theorem d_MO_come_150 : decode c_MO_come 150 = .ok (.goto 4, 3) := by decide +kernel
theorem d_MO_come_153 : decode c_MO_come 153 = .ok (.iconst 0, 1) := by decide +kernel
theorem d_MO_come_154 : decode c_MO_come 154 = .ok (.putfield 138, 3) := by decide +kernel
theorem d_MO_come_157 : decode c_MO_come 157 = .ok (.iconst 0, 1) := by decide +kernel
theorem d_MO_come_158 : decode c_MO_come 158 = .ok (.istore 5, 2) := by decide +kernel
theorem d_MO_come_160 : decode c_MO_come 160 = .ok (.iload 5, 2) := by decide +kernel
theorem d_MO_come_162 : decode c_MO_come 162 = .ok (.iload 4, 2) := by decide +kernel
theorem d_MO_come_164 : decode c_MO_come 164 = .ok (.if_icmp .ge 61, 3) := by decide +kernel
theorem d_MO_come_167 : decode c_MO_come 167 = .ok (.aload_n 0, 1) := by decide +kernel
theorem d_MO_come_168 : decode c_MO_come 168 = .ok (.aload_n 0, 1) := by decide +kernel
theorem d_MO_come_169 : decode c_MO_come 169 = .ok (.getfield 138, 3) := by decide +kernel
theorem d_MO_come_172 : decode c_MO_come 172 = .ok (.ifCond .eq 43, 3) := by decide +kernel
theorem d_MO_come_175 : decode c_MO_come 175 = .ok (.aload_n 0, 1) := by decide +kernel
theorem d_MO_come_176 : decode c_MO_come 176 = .ok (.getfield 57, 3) := by decide +kernel
theorem d_MO_come_179 : decode c_MO_come 179 = .ok (.bipush 16, 2) := by decide +kernel
theorem d_MO_come_181 : decode c_MO_come 181 = .ok (.iload_n 2, 1) := by decide +kernel
theorem d_MO_come_182 : decode c_MO_come 182 = .ok (.imul, 1) := by decide +kernel
theorem d_MO_come_183 : decode c_MO_come 183 = .ok (.bipush 8, 2) := by decide +kernel
theorem d_MO_come_185 : decode c_MO_come 185 = .ok (.iadd, 1) := by decide +kernel
theorem d_MO_come_186 : decode c_MO_come 186 = .ok (.iload 5, 2) := by decide +kernel
theorem d_MO_come_188 : decode c_MO_come 188 = .ok (.iadd, 1) := by decide +kernel
theorem d_MO_come_189 : decode c_MO_come 189 = .ok (.iaload, 1) := by decide +kernel
theorem d_MO_come_190 : decode c_MO_come 190 = .ok (.iload_n 3, 1) := by decide +kernel
theorem d_MO_come_191 : decode c_MO_come 191 = .ok (.ifCond .eq 7, 3) := by decide +kernel
theorem d_MO_come_194 : decode c_MO_come 194 = .ok (.iconst 1, 1) := by decide +kernel
theorem d_MO_come_195 : decode c_MO_come 195 = .ok (.goto 13, 3) := by decide +kernel
theorem d_MO_come_198 : decode c_MO_come 198 = .ok (.aload_n 0, 1) := by decide +kernel
theorem d_MO_come_199 : decode c_MO_come 199 = .ok (.getfield 63, 3) := by decide +kernel
theorem d_MO_come_202 : decode c_MO_come 202 = .ok (.bipush 8, 2) := by decide +kernel
theorem d_MO_come_204 : decode c_MO_come 204 = .ok (.iload 5, 2) := by decide +kernel
theorem d_MO_come_206 : decode c_MO_come 206 = .ok (.iadd, 1) := by decide +kernel
theorem d_MO_come_207 : decode c_MO_come 207 = .ok (.iaload, 1) := by decide +kernel
theorem d_MO_come_208 : decode c_MO_come 208 = .ok (.if_icmp .ne 7, 3) := by decide +kernel
theorem d_MO_come_211 : decode c_MO_come 211 = .ok (.iconst 1, 1) := by decide +kernel
theorem d_MO_come_212 : decode c_MO_come 212 = .ok (.goto 4, 3) := by decide +kernel
theorem d_MO_come_215 : decode c_MO_come 215 = .ok (.iconst 0, 1) := by decide +kernel
theorem d_MO_come_216 : decode c_MO_come 216 = .ok (.putfield 138, 3) := by decide +kernel
theorem d_MO_come_219 : decode c_MO_come 219 = .ok (.iinc 5 1, 3) := by decide +kernel
theorem d_MO_come_222 : decode c_MO_come 222 = .ok (.goto (-62), 3) := by decide +kernel
theorem d_MO_come_225 : decode c_MO_come 225 = .ok (.iconst 0, 1) := by decide +kernel
theorem d_MO_come_226 : decode c_MO_come 226 = .ok (.istore 5, 2) := by decide +kernel
theorem d_MO_come_228 : decode c_MO_come 228 = .ok (.iload 5, 2) := by decide +kernel
theorem d_MO_come_230 : decode c_MO_come 230 = .ok (.aload_n 0, 1) := by decide +kernel
theorem d_MO_come_231 : decode c_MO_come 231 = .ok (.getfield 22, 3) := by decide +kernel
theorem d_MO_come_234 : decode c_MO_come 234 = .ok (.iload_n 1, 1) := by decide +kernel
theorem d_MO_come_235 : decode c_MO_come 235 = .ok (.iaload, 1) := by decide +kernel
theorem d_MO_come_236 : decode c_MO_come 236 = .ok (.if_icmp .ge 64, 3) := by decide +kernel
theorem d_MO_come_239 : decode c_MO_come 239 = .ok (.aload_n 0, 1) := by decide +kernel
theorem d_MO_come_240 : decode c_MO_come 240 = .ok (.getfield 57, 3) := by decide +kernel
theorem d_MO_come_243 : decode c_MO_come 243 = .ok (.bipush 16, 2) := by decide +kernel
theorem d_MO_come_245 : decode c_MO_come 245 = .ok (.iload_n 2, 1) := by decide +kernel
theorem d_MO_come_246 : decode c_MO_come 246 = .ok (.imul, 1) := by decide +kernel
theorem d_MO_come_247 : decode c_MO_come 247 = .ok (.iload 5, 2) := by decide +kernel
theorem d_MO_come_249 : decode c_MO_come 249 = .ok (.iadd, 1) := by decide +kernel
theorem d_MO_come_250 : decode c_MO_come 250 = .ok (.iaload, 1) := by decide +kernel
theorem d_MO_come_251 : decode c_MO_come 251 = .ok (.aload_n 0, 1) := by decide +kernel
theorem d_MO_come_252 : decode c_MO_come 252 = .ok (.getfield 63, 3) := by decide +kernel
theorem d_MO_come_255 : decode c_MO_come 255 = .ok (.iload 5, 2) := by decide +kernel
theorem d_MO_come_257 : decode c_MO_come 257 = .ok (.iaload, 1) := by decide +kernel
theorem d_MO_come_258 : decode c_MO_come 258 = .ok (.if_icmp .eq 36, 3) := by decide +kernel
theorem d_MO_come_261 : decode c_MO_come 261 = .ok (.aload_n 0, 1) := by decide +kernel
theorem d_MO_come_262 : decode c_MO_come 262 = .ok (.getfield 57, 3) := by decide +kernel
theorem d_MO_come_265 : decode c_MO_come 265 = .ok (.bipush 16, 2) := by decide +kernel
theorem d_MO_come_267 : decode c_MO_come 267 = .ok (.iload_n 2, 1) := by decide +kernel
theorem d_MO_come_268 : decode c_MO_come 268 = .ok (.imul, 1) := by decide +kernel
theorem d_MO_come_269 : decode c_MO_come 269 = .ok (.iload 5, 2) := by decide +kernel
theorem d_MO_come_271 : decode c_MO_come 271 = .ok (.iadd, 1) := by decide +kernel
theorem d_MO_come_272 : decode c_MO_come 272 = .ok (.iaload, 1) := by decide +kernel
theorem d_MO_come_273 : decode c_MO_come 273 = .ok (.ifCond .eq 21, 3) := by decide +kernel
theorem d_MO_come_276 : decode c_MO_come 276 = .ok (.aload_n 0, 1) := by decide +kernel
theorem d_MO_come_277 : decode c_MO_come 277 = .ok (.getfield 57, 3) := by decide +kernel
theorem d_MO_come_280 : decode c_MO_come 280 = .ok (.bipush 16, 2) := by decide +kernel
theorem d_MO_come_282 : decode c_MO_come 282 = .ok (.iload_n 2, 1) := by decide +kernel
theorem d_MO_come_283 : decode c_MO_come 283 = .ok (.imul, 1) := by decide +kernel
theorem d_MO_come_284 : decode c_MO_come 284 = .ok (.iload 5, 2) := by decide +kernel
theorem d_MO_come_286 : decode c_MO_come 286 = .ok (.iadd, 1) := by decide +kernel
theorem d_MO_come_287 : decode c_MO_come 287 = .ok (.iconst 0, 1) := by decide +kernel
theorem d_MO_come_288 : decode c_MO_come 288 = .ok (.iastore, 1) := by decide +kernel
theorem d_MO_come_289 : decode c_MO_come 289 = .ok (.aload_n 0, 1) := by decide +kernel
theorem d_MO_come_290 : decode c_MO_come 290 = .ok (.iconst 1, 1) := by decide +kernel
theorem d_MO_come_291 : decode c_MO_come 291 = .ok (.putfield 141, 3) := by decide +kernel
theorem d_MO_come_294 : decode c_MO_come 294 = .ok (.iinc 5 1, 3) := by decide +kernel
theorem d_MO_come_297 : decode c_MO_come 297 = .ok (.goto (-69), 3) := by decide +kernel
theorem d_MO_come_300 : decode c_MO_come 300 = .ok (.return_, 1) := by decide +kernel
