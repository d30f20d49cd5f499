theorem d_L_function_0 : decode b_L_function 0 = .ok (.aload_n 2, 1) := by decide +kernel
theorem d_L_function_1 : decode b_L_function 1 = .ok (.iconst 0, 1) := by decide +kernel
theorem d_L_function_2 : decode b_L_function 2 = .ok (.aload_n 0, 1) := by decide +kernel
theorem d_L_function_3 : decode b_L_function 3 = .ok (.iload_n 1, 1) := by decide +kernel
theorem d_L_function_4 : decode b_L_function 4 = .ok (.invokevirtual 7, 3) := by decide +kernel
theorem d_L_function_7 : decode b_L_function 7 = .ok (.i2l, 1) := by decide +kernel
theorem d_L_function_8 : decode b_L_function 8 = .ok (.lastore, 1) := by decide +kernel
theorem d_L_function_9 : decode b_L_function 9 = .ok (.goto 9, 3) := by decide +kernel
theorem d_L_function_12 : decode b_L_function 12 = .ok (.astore_n 3, 1) := by decide +kernel
theorem d_L_function_13 : decode b_L_function 13 = .ok (.iconst 1, 1) := by decide +kernel
theorem d_L_function_14 : decode b_L_function 14 = .ok (.ireturn, 1) := by decide +kernel
theorem d_L_function_15 : decode b_L_function 15 = .ok (.astore_n 3, 1) := by decide +kernel
theorem d_L_function_16 : decode b_L_function 16 = .ok (.iconst 2, 1) := by decide +kernel
theorem d_L_function_17 : decode b_L_function 17 = .ok (.ireturn, 1) := by decide +kernel
theorem d_L_function_18 : decode b_L_function 18 = .ok (.iconst 0, 1) := by decide +kernel
theorem d_L_function_19 : decode b_L_function 19 = .ok (.ireturn, 1) := by decide +kernel
theorem d_L_operation_0 : decode b_L_operation 0 = .ok (.aload 5, 2) := by decide +kernel
theorem d_L_operation_2 : decode b_L_operation 2 = .ok (.iconst 0, 1) := by decide +kernel
theorem d_L_operation_3 : decode b_L_operation 3 = .ok (.aload_n 0, 1) := by decide +kernel
theorem d_L_operation_4 : decode b_L_operation 4 = .ok (.iload_n 1, 1) := by decide +kernel
theorem d_L_operation_5 : decode b_L_operation 5 = .ok (.iload_n 2, 1) := by decide +kernel
theorem d_L_operation_6 : decode b_L_operation 6 = .ok (.iload_n 3, 1) := by decide +kernel
theorem d_L_operation_7 : decode b_L_operation 7 = .ok (.iload 4, 2) := by decide +kernel
theorem d_L_operation_9 : decode b_L_operation 9 = .ok (.invokevirtual 17, 3) := by decide +kernel
theorem d_L_operation_12 : decode b_L_operation 12 = .ok (.i2l, 1) := by decide +kernel
theorem d_L_operation_13 : decode b_L_operation 13 = .ok (.lastore, 1) := by decide +kernel
theorem d_L_operation_14 : decode b_L_operation 14 = .ok (.goto 11, 3) := by decide +kernel
theorem d_L_operation_17 : decode b_L_operation 17 = .ok (.astore 6, 2) := by decide +kernel
theorem d_L_operation_19 : decode b_L_operation 19 = .ok (.iconst 1, 1) := by decide +kernel
theorem d_L_operation_20 : decode b_L_operation 20 = .ok (.ireturn, 1) := by decide +kernel
theorem d_L_operation_21 : decode b_L_operation 21 = .ok (.astore 6, 2) := by decide +kernel
theorem d_L_operation_23 : decode b_L_operation 23 = .ok (.iconst 2, 1) := by decide +kernel
theorem d_L_operation_24 : decode b_L_operation 24 = .ok (.ireturn, 1) := by decide +kernel
theorem d_L_operation_25 : decode b_L_operation 25 = .ok (.iconst 0, 1) := by decide +kernel
theorem d_L_operation_26 : decode b_L_operation 26 = .ok (.ireturn, 1) := by decide +kernel
theorem d_L_name_0 : decode b_L_name 0 = .ok (.aload_n 3, 1) := by decide +kernel
theorem d_L_name_1 : decode b_L_name 1 = .ok (.iconst 0, 1) := by decide +kernel
theorem d_L_name_2 : decode b_L_name 2 = .ok (.aload_n 0, 1) := by decide +kernel
theorem d_L_name_3 : decode b_L_name 3 = .ok (.iload_n 1, 1) := by decide +kernel
theorem d_L_name_4 : decode b_L_name 4 = .ok (.iload_n 2, 1) := by decide +kernel
theorem d_L_name_5 : decode b_L_name 5 = .ok (.invokevirtual 21, 3) := by decide +kernel
theorem d_L_name_8 : decode b_L_name 8 = .ok (.i2l, 1) := by decide +kernel
theorem d_L_name_9 : decode b_L_name 9 = .ok (.lastore, 1) := by decide +kernel
theorem d_L_name_10 : decode b_L_name 10 = .ok (.goto 7, 3) := by decide +kernel
theorem d_L_name_13 : decode b_L_name 13 = .ok (.astore 4, 2) := by decide +kernel
theorem d_L_name_15 : decode b_L_name 15 = .ok (.iconst 1, 1) := by decide +kernel
theorem d_L_name_16 : decode b_L_name 16 = .ok (.ireturn, 1) := by decide +kernel
theorem d_L_name_17 : decode b_L_name 17 = .ok (.iconst 0, 1) := by decide +kernel
theorem d_L_name_18 : decode b_L_name 18 = .ok (.ireturn, 1) := by decide +kernel
theorem d_L_apply_0 : decode b_L_apply 0 = .ok (.aload_n 1, 1) := by decide +kernel
theorem d_L_apply_1 : decode b_L_apply 1 = .ok (.iconst 0, 1) := by decide +kernel
theorem d_L_apply_2 : decode b_L_apply 2 = .ok (.aload_n 0, 1) := by decide +kernel
theorem d_L_apply_3 : decode b_L_apply 3 = .ok (.invokevirtual 25, 3) := by decide +kernel
theorem d_L_apply_6 : decode b_L_apply 6 = .ok (.i2l, 1) := by decide +kernel
theorem d_L_apply_7 : decode b_L_apply 7 = .ok (.lastore, 1) := by decide +kernel
theorem d_L_apply_8 : decode b_L_apply 8 = .ok (.goto 12, 3) := by decide +kernel
theorem d_L_apply_11 : decode b_L_apply 11 = .ok (.astore_n 2, 1) := by decide +kernel
theorem d_L_apply_12 : decode b_L_apply 12 = .ok (.iconst 1, 1) := by decide +kernel
theorem d_L_apply_13 : decode b_L_apply 13 = .ok (.ireturn, 1) := by decide +kernel
theorem d_L_apply_14 : decode b_L_apply 14 = .ok (.astore_n 2, 1) := by decide +kernel
theorem d_L_apply_15 : decode b_L_apply 15 = .ok (.iconst 2, 1) := by decide +kernel
theorem d_L_apply_16 : decode b_L_apply 16 = .ok (.ireturn, 1) := by decide +kernel
theorem d_L_apply_17 : decode b_L_apply 17 = .ok (.astore_n 2, 1) := by decide +kernel
theorem d_L_apply_18 : decode b_L_apply 18 = .ok (.iconst 3, 1) := by decide +kernel
theorem d_L_apply_19 : decode b_L_apply 19 = .ok (.ireturn, 1) := by decide +kernel
theorem d_L_apply_20 : decode b_L_apply 20 = .ok (.iconst 0, 1) := by decide +kernel
theorem d_L_apply_21 : decode b_L_apply 21 = .ok (.ireturn, 1) := by decide +kernel
theorem d_L_turn_0 : decode b_L_turn 0 = .ok (.aload_n 1, 1) := by decide +kernel
theorem d_L_turn_1 : decode b_L_turn 1 = .ok (.iconst 0, 1) := by decide +kernel
theorem d_L_turn_2 : decode b_L_turn 2 = .ok (.aload_n 0, 1) := by decide +kernel
theorem d_L_turn_3 : decode b_L_turn 3 = .ok (.invokevirtual 31, 3) := by decide +kernel
theorem d_L_turn_6 : decode b_L_turn 6 = .ok (.i2l, 1) := by decide +kernel
theorem d_L_turn_7 : decode b_L_turn 7 = .ok (.lastore, 1) := by decide +kernel
theorem d_L_turn_8 : decode b_L_turn 8 = .ok (.goto 6, 3) := by decide +kernel
theorem d_L_turn_11 : decode b_L_turn 11 = .ok (.astore_n 2, 1) := by decide +kernel
theorem d_L_turn_12 : decode b_L_turn 12 = .ok (.iconst 1, 1) := by decide +kernel
theorem d_L_turn_13 : decode b_L_turn 13 = .ok (.ireturn, 1) := by decide +kernel
theorem d_L_turn_14 : decode b_L_turn 14 = .ok (.iconst 0, 1) := by decide +kernel
theorem d_L_turn_15 : decode b_L_turn 15 = .ok (.ireturn, 1) := by decide +kernel
theorem d_L_task_0 : decode b_L_task 0 = .ok (.aload_n 2, 1) := by decide +kernel
theorem d_L_task_1 : decode b_L_task 1 = .ok (.iconst 0, 1) := by decide +kernel
theorem d_L_task_2 : decode b_L_task 2 = .ok (.aload_n 0, 1) := by decide +kernel
theorem d_L_task_3 : decode b_L_task 3 = .ok (.iload_n 1, 1) := by decide +kernel
theorem d_L_task_4 : decode b_L_task 4 = .ok (.invokevirtual 34, 3) := by decide +kernel
theorem d_L_task_7 : decode b_L_task 7 = .ok (.i2l, 1) := by decide +kernel
theorem d_L_task_8 : decode b_L_task 8 = .ok (.lastore, 1) := by decide +kernel
theorem d_L_task_9 : decode b_L_task 9 = .ok (.goto 9, 3) := by decide +kernel
theorem d_L_task_12 : decode b_L_task 12 = .ok (.astore_n 3, 1) := by decide +kernel
theorem d_L_task_13 : decode b_L_task 13 = .ok (.iconst 1, 1) := by decide +kernel
theorem d_L_task_14 : decode b_L_task 14 = .ok (.ireturn, 1) := by decide +kernel
theorem d_L_task_15 : decode b_L_task 15 = .ok (.astore_n 3, 1) := by decide +kernel
theorem d_L_task_16 : decode b_L_task 16 = .ok (.iconst 2, 1) := by decide +kernel
theorem d_L_task_17 : decode b_L_task 17 = .ok (.ireturn, 1) := by decide +kernel
theorem d_L_task_18 : decode b_L_task 18 = .ok (.iconst 0, 1) := by decide +kernel
theorem d_L_task_19 : decode b_L_task 19 = .ok (.ireturn, 1) := by decide +kernel
theorem d_L_step_0 : decode b_L_step 0 = .ok (.aload_n 3, 1) := by decide +kernel
theorem d_L_step_1 : decode b_L_step 1 = .ok (.iconst 0, 1) := by decide +kernel
theorem d_L_step_2 : decode b_L_step 2 = .ok (.aload_n 0, 1) := by decide +kernel
theorem d_L_step_3 : decode b_L_step 3 = .ok (.iload_n 1, 1) := by decide +kernel
theorem d_L_step_4 : decode b_L_step 4 = .ok (.iload_n 2, 1) := by decide +kernel
theorem d_L_step_5 : decode b_L_step 5 = .ok (.invokevirtual 37, 3) := by decide +kernel
theorem d_L_step_8 : decode b_L_step 8 = .ok (.i2l, 1) := by decide +kernel
theorem d_L_step_9 : decode b_L_step 9 = .ok (.lastore, 1) := by decide +kernel
theorem d_L_step_10 : decode b_L_step 10 = .ok (.goto 7, 3) := by decide +kernel
theorem d_L_step_13 : decode b_L_step 13 = .ok (.astore 4, 2) := by decide +kernel
theorem d_L_step_15 : decode b_L_step 15 = .ok (.iconst 1, 1) := by decide +kernel
theorem d_L_step_16 : decode b_L_step 16 = .ok (.ireturn, 1) := by decide +kernel
theorem d_L_step_17 : decode b_L_step 17 = .ok (.iconst 0, 1) := by decide +kernel
theorem d_L_step_18 : decode b_L_step 18 = .ok (.ireturn, 1) := by decide +kernel
theorem d_L_look_0 : decode b_L_look 0 = .ok (.aload_n 3, 1) := by decide +kernel
theorem d_L_look_1 : decode b_L_look 1 = .ok (.iconst 0, 1) := by decide +kernel
theorem d_L_look_2 : decode b_L_look 2 = .ok (.aload_n 0, 1) := by decide +kernel
theorem d_L_look_3 : decode b_L_look 3 = .ok (.iload_n 1, 1) := by decide +kernel
theorem d_L_look_4 : decode b_L_look 4 = .ok (.iload_n 2, 1) := by decide +kernel
theorem d_L_look_5 : decode b_L_look 5 = .ok (.invokevirtual 40, 3) := by decide +kernel
theorem d_L_look_8 : decode b_L_look 8 = .ok (.i2l, 1) := by decide +kernel
theorem d_L_look_9 : decode b_L_look 9 = .ok (.lastore, 1) := by decide +kernel
theorem d_L_look_10 : decode b_L_look 10 = .ok (.goto 7, 3) := by decide +kernel
theorem d_L_look_13 : decode b_L_look 13 = .ok (.astore 4, 2) := by decide +kernel
theorem d_L_look_15 : decode b_L_look 15 = .ok (.iconst 1, 1) := by decide +kernel
theorem d_L_look_16 : decode b_L_look 16 = .ok (.ireturn, 1) := by decide +kernel
theorem d_L_look_17 : decode b_L_look 17 = .ok (.iconst 0, 1) := by decide +kernel
theorem d_L_look_18 : decode b_L_look 18 = .ok (.ireturn, 1) := by decide +kernel
theorem d_L_frame_0 : decode b_L_frame 0 = .ok (.aload 4, 2) := by decide +kernel
theorem d_L_frame_2 : decode b_L_frame 2 = .ok (.iconst 0, 1) := by decide +kernel
theorem d_L_frame_3 : decode b_L_frame 3 = .ok (.aload_n 0, 1) := by decide +kernel
theorem d_L_frame_4 : decode b_L_frame 4 = .ok (.iload_n 1, 1) := by decide +kernel
theorem d_L_frame_5 : decode b_L_frame 5 = .ok (.iload_n 2, 1) := by decide +kernel
theorem d_L_frame_6 : decode b_L_frame 6 = .ok (.iload_n 3, 1) := by decide +kernel
theorem d_L_frame_7 : decode b_L_frame 7 = .ok (.invokevirtual 43, 3) := by decide +kernel
theorem d_L_frame_10 : decode b_L_frame 10 = .ok (.i2l, 1) := by decide +kernel
theorem d_L_frame_11 : decode b_L_frame 11 = .ok (.lastore, 1) := by decide +kernel
theorem d_L_frame_12 : decode b_L_frame 12 = .ok (.goto 11, 3) := by decide +kernel
theorem d_L_frame_15 : decode b_L_frame 15 = .ok (.astore 5, 2) := by decide +kernel
theorem d_L_frame_17 : decode b_L_frame 17 = .ok (.iconst 1, 1) := by decide +kernel
theorem d_L_frame_18 : decode b_L_frame 18 = .ok (.ireturn, 1) := by decide +kernel
theorem d_L_frame_19 : decode b_L_frame 19 = .ok (.astore 5, 2) := by decide +kernel
theorem d_L_frame_21 : decode b_L_frame 21 = .ok (.iconst 2, 1) := by decide +kernel
theorem d_L_frame_22 : decode b_L_frame 22 = .ok (.ireturn, 1) := by decide +kernel
theorem d_L_frame_23 : decode b_L_frame 23 = .ok (.iconst 0, 1) := by decide +kernel
theorem d_L_frame_24 : decode b_L_frame 24 = .ok (.ireturn, 1) := by decide +kernel
theorem d_L_body_0 : decode b_L_body 0 = .ok (.aload_n 3, 1) := by decide +kernel
theorem d_L_body_1 : decode b_L_body 1 = .ok (.iconst 0, 1) := by decide +kernel
theorem d_L_body_2 : decode b_L_body 2 = .ok (.aload_n 0, 1) := by decide +kernel
theorem d_L_body_3 : decode b_L_body 3 = .ok (.iload_n 1, 1) := by decide +kernel
theorem d_L_body_4 : decode b_L_body 4 = .ok (.iload_n 2, 1) := by decide +kernel
theorem d_L_body_5 : decode b_L_body 5 = .ok (.invokevirtual 49, 3) := by decide +kernel
theorem d_L_body_8 : decode b_L_body 8 = .ok (.i2l, 1) := by decide +kernel
theorem d_L_body_9 : decode b_L_body 9 = .ok (.lastore, 1) := by decide +kernel
theorem d_L_body_10 : decode b_L_body 10 = .ok (.goto 11, 3) := by decide +kernel
theorem d_L_body_13 : decode b_L_body 13 = .ok (.astore 4, 2) := by decide +kernel
theorem d_L_body_15 : decode b_L_body 15 = .ok (.iconst 1, 1) := by decide +kernel
theorem d_L_body_16 : decode b_L_body 16 = .ok (.ireturn, 1) := by decide +kernel
theorem d_L_body_17 : decode b_L_body 17 = .ok (.astore 4, 2) := by decide +kernel
theorem d_L_body_19 : decode b_L_body 19 = .ok (.iconst 2, 1) := by decide +kernel
theorem d_L_body_20 : decode b_L_body 20 = .ok (.ireturn, 1) := by decide +kernel
theorem d_L_body_21 : decode b_L_body 21 = .ok (.iconst 0, 1) := by decide +kernel
theorem d_L_body_22 : decode b_L_body 22 = .ok (.ireturn, 1) := by decide +kernel
theorem d_law_0 : decode code 0 = .ok (.new 8, 3) := by decide +kernel
theorem d_law_3 : decode code 3 = .ok (.dup, 1) := by decide +kernel
theorem d_law_4 : decode code 4 = .ok (.invokespecial 52, 3) := by decide +kernel
theorem d_law_7 : decode code 7 = .ok (.astore_n 1, 1) := by decide +kernel
theorem d_law_8 : decode code 8 = .ok (.new 53, 3) := by decide +kernel
theorem d_law_11 : decode code 11 = .ok (.dup, 1) := by decide +kernel
theorem d_law_12 : decode code 12 = .ok (.invokespecial 55, 3) := by decide +kernel
theorem d_law_15 : decode code 15 = .ok (.astore_n 2, 1) := by decide +kernel
theorem d_law_16 : decode code 16 = .ok (.iconst 1, 1) := by decide +kernel
theorem d_law_17 : decode code 17 = .ok (.newarray .long, 2) := by decide +kernel
theorem d_law_19 : decode code 19 = .ok (.astore_n 3, 1) := by decide +kernel
theorem d_law_20 : decode code 20 = .ok (.iconst 0, 1) := by decide +kernel
theorem d_law_21 : decode code 21 = .ok (.istore 4, 2) := by decide +kernel
theorem d_law_23 : decode code 23 = .ok (.iload 4, 2) := by decide +kernel
theorem d_law_25 : decode code 25 = .ok (.aload_n 0, 1) := by decide +kernel
theorem d_law_26 : decode code 26 = .ok (.arraylength, 1) := by decide +kernel
theorem d_law_27 : decode code 27 = .ok (.iconst 5, 1) := by decide +kernel
theorem d_law_28 : decode code 28 = .ok (.isub, 1) := by decide +kernel
theorem d_law_29 : decode code 29 = .ok (.if_icmp .gt 763, 3) := by decide +kernel
theorem d_law_32 : decode code 32 = .ok (.aload_n 0, 1) := by decide +kernel
theorem d_law_33 : decode code 33 = .ok (.iload 4, 2) := by decide +kernel
theorem d_law_35 : decode code 35 = .ok (.iaload, 1) := by decide +kernel
theorem d_law_36 : decode code 36 = .ok (.bipush 15, 2) := by decide +kernel
theorem d_law_38 : decode code 38 = .ok (.iand, 1) := by decide +kernel
theorem d_law_39 : decode code 39 = .ok (.tableswitch 747 0 11 #[61, 117, 225, 293, 337, 381, 437, 505, 573, 653, 666, 679], 61) := by decide +kernel
theorem d_law_100 : decode code 100 = .ok (.aload_n 1, 1) := by decide +kernel
theorem d_law_101 : decode code 101 = .ok (.aload_n 0, 1) := by decide +kernel
theorem d_law_102 : decode code 102 = .ok (.iload 4, 2) := by decide +kernel
theorem d_law_104 : decode code 104 = .ok (.iconst 1, 1) := by decide +kernel
theorem d_law_105 : decode code 105 = .ok (.iadd, 1) := by decide +kernel
theorem d_law_106 : decode code 106 = .ok (.iaload, 1) := by decide +kernel
theorem d_law_107 : decode code 107 = .ok (.aload_n 3, 1) := by decide +kernel
theorem d_law_108 : decode code 108 = .ok (.invokestatic 56, 3) := by decide +kernel
theorem d_law_111 : decode code 111 = .ok (.istore 5, 2) := by decide +kernel
theorem d_law_113 : decode code 113 = .ok (.aload_n 2, 1) := by decide +kernel
theorem d_law_114 : decode code 114 = .ok (.aload_n 0, 1) := by decide +kernel
theorem d_law_115 : decode code 115 = .ok (.iload 4, 2) := by decide +kernel
theorem d_law_117 : decode code 117 = .ok (.iconst 1, 1) := by decide +kernel
theorem d_law_118 : decode code 118 = .ok (.iadd, 1) := by decide +kernel
theorem d_law_119 : decode code 119 = .ok (.iaload, 1) := by decide +kernel
theorem d_law_120 : decode code 120 = .ok (.invokevirtual 61, 3) := by decide +kernel
theorem d_law_123 : decode code 123 = .ok (.istore 6, 2) := by decide +kernel
theorem d_law_125 : decode code 125 = .ok (.aload_n 2, 1) := by decide +kernel
theorem d_law_126 : decode code 126 = .ok (.invokevirtual 62, 3) := by decide +kernel
theorem d_law_129 : decode code 129 = .ok (.iload 5, 2) := by decide +kernel
theorem d_law_131 : decode code 131 = .ok (.if_icmp .eq 5, 3) := by decide +kernel
theorem d_law_134 : decode code 134 = .ok (.iconst 0, 1) := by decide +kernel
theorem d_law_135 : decode code 135 = .ok (.ireturn, 1) := by decide +kernel
theorem d_law_136 : decode code 136 = .ok (.iload 5, 2) := by decide +kernel
theorem d_law_138 : decode code 138 = .ok (.ifCond .ne 15, 3) := by decide +kernel
theorem d_law_141 : decode code 141 = .ok (.aload_n 3, 1) := by decide +kernel
theorem d_law_142 : decode code 142 = .ok (.iconst 0, 1) := by decide +kernel
theorem d_law_143 : decode code 143 = .ok (.laload, 1) := by decide +kernel
theorem d_law_144 : decode code 144 = .ok (.iload 6, 2) := by decide +kernel
theorem d_law_146 : decode code 146 = .ok (.i2l, 1) := by decide +kernel
theorem d_law_147 : decode code 147 = .ok (.lcmp, 1) := by decide +kernel
theorem d_law_148 : decode code 148 = .ok (.ifCond .eq 5, 3) := by decide +kernel
theorem d_law_151 : decode code 151 = .ok (.iconst 0, 1) := by decide +kernel
theorem d_law_152 : decode code 152 = .ok (.ireturn, 1) := by decide +kernel
theorem d_law_153 : decode code 153 = .ok (.goto 633, 3) := by decide +kernel
theorem d_law_156 : decode code 156 = .ok (.aload_n 1, 1) := by decide +kernel
theorem d_law_157 : decode code 157 = .ok (.aload_n 0, 1) := by decide +kernel
theorem d_law_158 : decode code 158 = .ok (.iload 4, 2) := by decide +kernel
theorem d_law_160 : decode code 160 = .ok (.iconst 1, 1) := by decide +kernel
theorem d_law_161 : decode code 161 = .ok (.iadd, 1) := by decide +kernel
theorem d_law_162 : decode code 162 = .ok (.iaload, 1) := by decide +kernel
theorem d_law_163 : decode code 163 = .ok (.aload_n 0, 1) := by decide +kernel
theorem d_law_164 : decode code 164 = .ok (.iload 4, 2) := by decide +kernel
theorem d_law_166 : decode code 166 = .ok (.iconst 2, 1) := by decide +kernel
theorem d_law_167 : decode code 167 = .ok (.iadd, 1) := by decide +kernel
theorem d_law_168 : decode code 168 = .ok (.iaload, 1) := by decide +kernel
theorem d_law_169 : decode code 169 = .ok (.ifCond .eq 7, 3) := by decide +kernel
theorem d_law_172 : decode code 172 = .ok (.iconst 1, 1) := by decide +kernel
theorem d_law_173 : decode code 173 = .ok (.goto 4, 3) := by decide +kernel
theorem d_law_176 : decode code 176 = .ok (.iconst 0, 1) := by decide +kernel
theorem d_law_177 : decode code 177 = .ok (.aload_n 0, 1) := by decide +kernel
theorem d_law_178 : decode code 178 = .ok (.iload 4, 2) := by decide +kernel
theorem d_law_180 : decode code 180 = .ok (.iconst 3, 1) := by decide +kernel
theorem d_law_181 : decode code 181 = .ok (.iadd, 1) := by decide +kernel
theorem d_law_182 : decode code 182 = .ok (.iaload, 1) := by decide +kernel
theorem d_law_183 : decode code 183 = .ok (.aload_n 0, 1) := by decide +kernel
theorem d_law_184 : decode code 184 = .ok (.iload 4, 2) := by decide +kernel
theorem d_law_186 : decode code 186 = .ok (.iconst 4, 1) := by decide +kernel
theorem d_law_187 : decode code 187 = .ok (.iadd, 1) := by decide +kernel
theorem d_law_188 : decode code 188 = .ok (.iaload, 1) := by decide +kernel
theorem d_law_189 : decode code 189 = .ok (.aload_n 3, 1) := by decide +kernel
theorem d_law_190 : decode code 190 = .ok (.invokestatic 65, 3) := by decide +kernel
theorem d_law_193 : decode code 193 = .ok (.istore 5, 2) := by decide +kernel
theorem d_law_195 : decode code 195 = .ok (.aload_n 2, 1) := by decide +kernel
theorem d_law_196 : decode code 196 = .ok (.aload_n 0, 1) := by decide +kernel
theorem d_law_197 : decode code 197 = .ok (.iload 4, 2) := by decide +kernel
theorem d_law_199 : decode code 199 = .ok (.iconst 1, 1) := by decide +kernel
theorem d_law_200 : decode code 200 = .ok (.iadd, 1) := by decide +kernel
theorem d_law_201 : decode code 201 = .ok (.iaload, 1) := by decide +kernel
theorem d_law_202 : decode code 202 = .ok (.aload_n 0, 1) := by decide +kernel
theorem d_law_203 : decode code 203 = .ok (.iload 4, 2) := by decide +kernel
theorem d_law_205 : decode code 205 = .ok (.iconst 2, 1) := by decide +kernel
theorem d_law_206 : decode code 206 = .ok (.iadd, 1) := by decide +kernel
theorem d_law_207 : decode code 207 = .ok (.iaload, 1) := by decide +kernel
theorem d_law_208 : decode code 208 = .ok (.ifCond .eq 7, 3) := by decide +kernel
theorem d_law_211 : decode code 211 = .ok (.iconst 1, 1) := by decide +kernel
theorem d_law_212 : decode code 212 = .ok (.goto 4, 3) := by decide +kernel
theorem d_law_215 : decode code 215 = .ok (.iconst 0, 1) := by decide +kernel
theorem d_law_216 : decode code 216 = .ok (.aload_n 0, 1) := by decide +kernel
theorem d_law_217 : decode code 217 = .ok (.iload 4, 2) := by decide +kernel
theorem d_law_219 : decode code 219 = .ok (.iconst 3, 1) := by decide +kernel
theorem d_law_220 : decode code 220 = .ok (.iadd, 1) := by decide +kernel
theorem d_law_221 : decode code 221 = .ok (.iaload, 1) := by decide +kernel
theorem d_law_222 : decode code 222 = .ok (.aload_n 0, 1) := by decide +kernel
theorem d_law_223 : decode code 223 = .ok (.iload 4, 2) := by decide +kernel
theorem d_law_225 : decode code 225 = .ok (.iconst 4, 1) := by decide +kernel
theorem d_law_226 : decode code 226 = .ok (.iadd, 1) := by decide +kernel
theorem d_law_227 : decode code 227 = .ok (.iaload, 1) := by decide +kernel
theorem d_law_228 : decode code 228 = .ok (.invokevirtual 68, 3) := by decide +kernel
theorem d_law_231 : decode code 231 = .ok (.istore 6, 2) := by decide +kernel
theorem d_law_233 : decode code 233 = .ok (.aload_n 2, 1) := by decide +kernel
theorem d_law_234 : decode code 234 = .ok (.invokevirtual 62, 3) := by decide +kernel
theorem d_law_237 : decode code 237 = .ok (.iload 5, 2) := by decide +kernel
theorem d_law_239 : decode code 239 = .ok (.if_icmp .eq 5, 3) := by decide +kernel
theorem d_law_242 : decode code 242 = .ok (.iconst 0, 1) := by decide +kernel
theorem d_law_243 : decode code 243 = .ok (.ireturn, 1) := by decide +kernel
theorem d_law_244 : decode code 244 = .ok (.iload 5, 2) := by decide +kernel
theorem d_law_246 : decode code 246 = .ok (.ifCond .ne 15, 3) := by decide +kernel
theorem d_law_249 : decode code 249 = .ok (.aload_n 3, 1) := by decide +kernel
theorem d_law_250 : decode code 250 = .ok (.iconst 0, 1) := by decide +kernel
theorem d_law_251 : decode code 251 = .ok (.laload, 1) := by decide +kernel
theorem d_law_252 : decode code 252 = .ok (.iload 6, 2) := by decide +kernel
theorem d_law_254 : decode code 254 = .ok (.i2l, 1) := by decide +kernel
theorem d_law_255 : decode code 255 = .ok (.lcmp, 1) := by decide +kernel
theorem d_law_256 : decode code 256 = .ok (.ifCond .eq 5, 3) := by decide +kernel
theorem d_law_259 : decode code 259 = .ok (.iconst 0, 1) := by decide +kernel
theorem d_law_260 : decode code 260 = .ok (.ireturn, 1) := by decide +kernel
theorem d_law_261 : decode code 261 = .ok (.goto 525, 3) := by decide +kernel
theorem d_law_264 : decode code 264 = .ok (.aload_n 1, 1) := by decide +kernel
theorem d_law_265 : decode code 265 = .ok (.aload_n 0, 1) := by decide +kernel
theorem d_law_266 : decode code 266 = .ok (.iload 4, 2) := by decide +kernel
theorem d_law_268 : decode code 268 = .ok (.iconst 1, 1) := by decide +kernel
theorem d_law_269 : decode code 269 = .ok (.iadd, 1) := by decide +kernel
theorem d_law_270 : decode code 270 = .ok (.iaload, 1) := by decide +kernel
theorem d_law_271 : decode code 271 = .ok (.aload_n 0, 1) := by decide +kernel
theorem d_law_272 : decode code 272 = .ok (.iload 4, 2) := by decide +kernel
theorem d_law_274 : decode code 274 = .ok (.iconst 2, 1) := by decide +kernel
theorem d_law_275 : decode code 275 = .ok (.iadd, 1) := by decide +kernel
theorem d_law_276 : decode code 276 = .ok (.iaload, 1) := by decide +kernel
theorem d_law_277 : decode code 277 = .ok (.aload_n 3, 1) := by decide +kernel
theorem d_law_278 : decode code 278 = .ok (.invokestatic 69, 3) := by decide +kernel
theorem d_law_281 : decode code 281 = .ok (.istore 5, 2) := by decide +kernel
theorem d_law_283 : decode code 283 = .ok (.aload_n 2, 1) := by decide +kernel
theorem d_law_284 : decode code 284 = .ok (.aload_n 0, 1) := by decide +kernel
theorem d_law_285 : decode code 285 = .ok (.iload 4, 2) := by decide +kernel
theorem d_law_287 : decode code 287 = .ok (.iconst 1, 1) := by decide +kernel
theorem d_law_288 : decode code 288 = .ok (.iadd, 1) := by decide +kernel
theorem d_law_289 : decode code 289 = .ok (.iaload, 1) := by decide +kernel
theorem d_law_290 : decode code 290 = .ok (.aload_n 0, 1) := by decide +kernel
theorem d_law_291 : decode code 291 = .ok (.iload 4, 2) := by decide +kernel
theorem d_law_293 : decode code 293 = .ok (.iconst 2, 1) := by decide +kernel
theorem d_law_294 : decode code 294 = .ok (.iadd, 1) := by decide +kernel
theorem d_law_295 : decode code 295 = .ok (.iaload, 1) := by decide +kernel
theorem d_law_296 : decode code 296 = .ok (.invokevirtual 72, 3) := by decide +kernel
theorem d_law_299 : decode code 299 = .ok (.istore 6, 2) := by decide +kernel
theorem d_law_301 : decode code 301 = .ok (.aload_n 2, 1) := by decide +kernel
theorem d_law_302 : decode code 302 = .ok (.invokevirtual 62, 3) := by decide +kernel
theorem d_law_305 : decode code 305 = .ok (.iload 5, 2) := by decide +kernel
theorem d_law_307 : decode code 307 = .ok (.if_icmp .eq 5, 3) := by decide +kernel
theorem d_law_310 : decode code 310 = .ok (.iconst 0, 1) := by decide +kernel
theorem d_law_311 : decode code 311 = .ok (.ireturn, 1) := by decide +kernel
theorem d_law_312 : decode code 312 = .ok (.iload 5, 2) := by decide +kernel
theorem d_law_314 : decode code 314 = .ok (.ifCond .ne 15, 3) := by decide +kernel
theorem d_law_317 : decode code 317 = .ok (.aload_n 3, 1) := by decide +kernel
theorem d_law_318 : decode code 318 = .ok (.iconst 0, 1) := by decide +kernel
theorem d_law_319 : decode code 319 = .ok (.laload, 1) := by decide +kernel
theorem d_law_320 : decode code 320 = .ok (.iload 6, 2) := by decide +kernel
theorem d_law_322 : decode code 322 = .ok (.i2l, 1) := by decide +kernel
theorem d_law_323 : decode code 323 = .ok (.lcmp, 1) := by decide +kernel
theorem d_law_324 : decode code 324 = .ok (.ifCond .eq 5, 3) := by decide +kernel
theorem d_law_327 : decode code 327 = .ok (.iconst 0, 1) := by decide +kernel
theorem d_law_328 : decode code 328 = .ok (.ireturn, 1) := by decide +kernel
theorem d_law_329 : decode code 329 = .ok (.goto 457, 3) := by decide +kernel
theorem d_law_332 : decode code 332 = .ok (.aload_n 1, 1) := by decide +kernel
theorem d_law_333 : decode code 333 = .ok (.aload_n 3, 1) := by decide +kernel
theorem d_law_334 : decode code 334 = .ok (.invokestatic 73, 3) := by decide +kernel
theorem d_law_337 : decode code 337 = .ok (.istore 5, 2) := by decide +kernel
theorem d_law_339 : decode code 339 = .ok (.aload_n 2, 1) := by decide +kernel
theorem d_law_340 : decode code 340 = .ok (.invokevirtual 76, 3) := by decide +kernel
theorem d_law_343 : decode code 343 = .ok (.istore 6, 2) := by decide +kernel
theorem d_law_345 : decode code 345 = .ok (.aload_n 2, 1) := by decide +kernel
theorem d_law_346 : decode code 346 = .ok (.invokevirtual 62, 3) := by decide +kernel
theorem d_law_349 : decode code 349 = .ok (.iload 5, 2) := by decide +kernel
theorem d_law_351 : decode code 351 = .ok (.if_icmp .eq 5, 3) := by decide +kernel
theorem d_law_354 : decode code 354 = .ok (.iconst 0, 1) := by decide +kernel
theorem d_law_355 : decode code 355 = .ok (.ireturn, 1) := by decide +kernel
theorem d_law_356 : decode code 356 = .ok (.iload 5, 2) := by decide +kernel
theorem d_law_358 : decode code 358 = .ok (.ifCond .ne 15, 3) := by decide +kernel
theorem d_law_361 : decode code 361 = .ok (.aload_n 3, 1) := by decide +kernel
theorem d_law_362 : decode code 362 = .ok (.iconst 0, 1) := by decide +kernel
theorem d_law_363 : decode code 363 = .ok (.laload, 1) := by decide +kernel
theorem d_law_364 : decode code 364 = .ok (.iload 6, 2) := by decide +kernel
theorem d_law_366 : decode code 366 = .ok (.i2l, 1) := by decide +kernel
theorem d_law_367 : decode code 367 = .ok (.lcmp, 1) := by decide +kernel
theorem d_law_368 : decode code 368 = .ok (.ifCond .eq 5, 3) := by decide +kernel
theorem d_law_371 : decode code 371 = .ok (.iconst 0, 1) := by decide +kernel
theorem d_law_372 : decode code 372 = .ok (.ireturn, 1) := by decide +kernel
theorem d_law_373 : decode code 373 = .ok (.goto 413, 3) := by decide +kernel
theorem d_law_376 : decode code 376 = .ok (.aload_n 1, 1) := by decide +kernel
theorem d_law_377 : decode code 377 = .ok (.aload_n 3, 1) := by decide +kernel
theorem d_law_378 : decode code 378 = .ok (.invokestatic 77, 3) := by decide +kernel
theorem d_law_381 : decode code 381 = .ok (.istore 5, 2) := by decide +kernel
theorem d_law_383 : decode code 383 = .ok (.aload_n 2, 1) := by decide +kernel
theorem d_law_384 : decode code 384 = .ok (.invokevirtual 79, 3) := by decide +kernel
theorem d_law_387 : decode code 387 = .ok (.istore 6, 2) := by decide +kernel
theorem d_law_389 : decode code 389 = .ok (.aload_n 2, 1) := by decide +kernel
theorem d_law_390 : decode code 390 = .ok (.invokevirtual 62, 3) := by decide +kernel
theorem d_law_393 : decode code 393 = .ok (.iload 5, 2) := by decide +kernel
theorem d_law_395 : decode code 395 = .ok (.if_icmp .eq 5, 3) := by decide +kernel
theorem d_law_398 : decode code 398 = .ok (.iconst 0, 1) := by decide +kernel
theorem d_law_399 : decode code 399 = .ok (.ireturn, 1) := by decide +kernel
theorem d_law_400 : decode code 400 = .ok (.iload 5, 2) := by decide +kernel
theorem d_law_402 : decode code 402 = .ok (.ifCond .ne 15, 3) := by decide +kernel
theorem d_law_405 : decode code 405 = .ok (.aload_n 3, 1) := by decide +kernel
theorem d_law_406 : decode code 406 = .ok (.iconst 0, 1) := by decide +kernel
theorem d_law_407 : decode code 407 = .ok (.laload, 1) := by decide +kernel
theorem d_law_408 : decode code 408 = .ok (.iload 6, 2) := by decide +kernel
theorem d_law_410 : decode code 410 = .ok (.i2l, 1) := by decide +kernel
theorem d_law_411 : decode code 411 = .ok (.lcmp, 1) := by decide +kernel
theorem d_law_412 : decode code 412 = .ok (.ifCond .eq 5, 3) := by decide +kernel
theorem d_law_415 : decode code 415 = .ok (.iconst 0, 1) := by decide +kernel
theorem d_law_416 : decode code 416 = .ok (.ireturn, 1) := by decide +kernel
theorem d_law_417 : decode code 417 = .ok (.goto 369, 3) := by decide +kernel
theorem d_law_420 : decode code 420 = .ok (.aload_n 1, 1) := by decide +kernel
theorem d_law_421 : decode code 421 = .ok (.aload_n 0, 1) := by decide +kernel
theorem d_law_422 : decode code 422 = .ok (.iload 4, 2) := by decide +kernel
theorem d_law_424 : decode code 424 = .ok (.iconst 1, 1) := by decide +kernel
theorem d_law_425 : decode code 425 = .ok (.iadd, 1) := by decide +kernel
theorem d_law_426 : decode code 426 = .ok (.iaload, 1) := by decide +kernel
theorem d_law_427 : decode code 427 = .ok (.aload_n 3, 1) := by decide +kernel
theorem d_law_428 : decode code 428 = .ok (.invokestatic 80, 3) := by decide +kernel
theorem d_law_431 : decode code 431 = .ok (.istore 5, 2) := by decide +kernel
theorem d_law_433 : decode code 433 = .ok (.aload_n 2, 1) := by decide +kernel
theorem d_law_434 : decode code 434 = .ok (.aload_n 0, 1) := by decide +kernel
theorem d_law_435 : decode code 435 = .ok (.iload 4, 2) := by decide +kernel
theorem d_law_437 : decode code 437 = .ok (.iconst 1, 1) := by decide +kernel
theorem d_law_438 : decode code 438 = .ok (.iadd, 1) := by decide +kernel
theorem d_law_439 : decode code 439 = .ok (.iaload, 1) := by decide +kernel
theorem d_law_440 : decode code 440 = .ok (.invokevirtual 82, 3) := by decide +kernel
theorem d_law_443 : decode code 443 = .ok (.istore 6, 2) := by decide +kernel
theorem d_law_445 : decode code 445 = .ok (.aload_n 2, 1) := by decide +kernel
theorem d_law_446 : decode code 446 = .ok (.invokevirtual 62, 3) := by decide +kernel
theorem d_law_449 : decode code 449 = .ok (.iload 5, 2) := by decide +kernel
theorem d_law_451 : decode code 451 = .ok (.if_icmp .eq 5, 3) := by decide +kernel
theorem d_law_454 : decode code 454 = .ok (.iconst 0, 1) := by decide +kernel
theorem d_law_455 : decode code 455 = .ok (.ireturn, 1) := by decide +kernel
theorem d_law_456 : decode code 456 = .ok (.iload 5, 2) := by decide +kernel
theorem d_law_458 : decode code 458 = .ok (.ifCond .ne 15, 3) := by decide +kernel
theorem d_law_461 : decode code 461 = .ok (.aload_n 3, 1) := by decide +kernel
theorem d_law_462 : decode code 462 = .ok (.iconst 0, 1) := by decide +kernel
theorem d_law_463 : decode code 463 = .ok (.laload, 1) := by decide +kernel
theorem d_law_464 : decode code 464 = .ok (.iload 6, 2) := by decide +kernel
theorem d_law_466 : decode code 466 = .ok (.i2l, 1) := by decide +kernel
theorem d_law_467 : decode code 467 = .ok (.lcmp, 1) := by decide +kernel
theorem d_law_468 : decode code 468 = .ok (.ifCond .eq 5, 3) := by decide +kernel
theorem d_law_471 : decode code 471 = .ok (.iconst 0, 1) := by decide +kernel
theorem d_law_472 : decode code 472 = .ok (.ireturn, 1) := by decide +kernel
theorem d_law_473 : decode code 473 = .ok (.goto 313, 3) := by decide +kernel
theorem d_law_476 : decode code 476 = .ok (.aload_n 1, 1) := by decide +kernel
theorem d_law_477 : decode code 477 = .ok (.aload_n 0, 1) := by decide +kernel
theorem d_law_478 : decode code 478 = .ok (.iload 4, 2) := by decide +kernel
theorem d_law_480 : decode code 480 = .ok (.iconst 1, 1) := by decide +kernel
theorem d_law_481 : decode code 481 = .ok (.iadd, 1) := by decide +kernel
theorem d_law_482 : decode code 482 = .ok (.iaload, 1) := by decide +kernel
theorem d_law_483 : decode code 483 = .ok (.aload_n 0, 1) := by decide +kernel
theorem d_law_484 : decode code 484 = .ok (.iload 4, 2) := by decide +kernel
theorem d_law_486 : decode code 486 = .ok (.iconst 2, 1) := by decide +kernel
theorem d_law_487 : decode code 487 = .ok (.iadd, 1) := by decide +kernel
theorem d_law_488 : decode code 488 = .ok (.iaload, 1) := by decide +kernel
theorem d_law_489 : decode code 489 = .ok (.aload_n 3, 1) := by decide +kernel
theorem d_law_490 : decode code 490 = .ok (.invokestatic 83, 3) := by decide +kernel
theorem d_law_493 : decode code 493 = .ok (.istore 5, 2) := by decide +kernel
theorem d_law_495 : decode code 495 = .ok (.aload_n 2, 1) := by decide +kernel
theorem d_law_496 : decode code 496 = .ok (.aload_n 0, 1) := by decide +kernel
theorem d_law_497 : decode code 497 = .ok (.iload 4, 2) := by decide +kernel
theorem d_law_499 : decode code 499 = .ok (.iconst 1, 1) := by decide +kernel
theorem d_law_500 : decode code 500 = .ok (.iadd, 1) := by decide +kernel
theorem d_law_501 : decode code 501 = .ok (.iaload, 1) := by decide +kernel
theorem d_law_502 : decode code 502 = .ok (.aload_n 0, 1) := by decide +kernel
theorem d_law_503 : decode code 503 = .ok (.iload 4, 2) := by decide +kernel
theorem d_law_505 : decode code 505 = .ok (.iconst 2, 1) := by decide +kernel
theorem d_law_506 : decode code 506 = .ok (.iadd, 1) := by decide +kernel
theorem d_law_507 : decode code 507 = .ok (.iaload, 1) := by decide +kernel
theorem d_law_508 : decode code 508 = .ok (.invokevirtual 85, 3) := by decide +kernel
theorem d_law_511 : decode code 511 = .ok (.istore 6, 2) := by decide +kernel
theorem d_law_513 : decode code 513 = .ok (.aload_n 2, 1) := by decide +kernel
theorem d_law_514 : decode code 514 = .ok (.invokevirtual 62, 3) := by decide +kernel
theorem d_law_517 : decode code 517 = .ok (.iload 5, 2) := by decide +kernel
theorem d_law_519 : decode code 519 = .ok (.if_icmp .eq 5, 3) := by decide +kernel
theorem d_law_522 : decode code 522 = .ok (.iconst 0, 1) := by decide +kernel
theorem d_law_523 : decode code 523 = .ok (.ireturn, 1) := by decide +kernel
theorem d_law_524 : decode code 524 = .ok (.iload 5, 2) := by decide +kernel
theorem d_law_526 : decode code 526 = .ok (.ifCond .ne 15, 3) := by decide +kernel
theorem d_law_529 : decode code 529 = .ok (.aload_n 3, 1) := by decide +kernel
theorem d_law_530 : decode code 530 = .ok (.iconst 0, 1) := by decide +kernel
theorem d_law_531 : decode code 531 = .ok (.laload, 1) := by decide +kernel
theorem d_law_532 : decode code 532 = .ok (.iload 6, 2) := by decide +kernel
theorem d_law_534 : decode code 534 = .ok (.i2l, 1) := by decide +kernel
theorem d_law_535 : decode code 535 = .ok (.lcmp, 1) := by decide +kernel
theorem d_law_536 : decode code 536 = .ok (.ifCond .eq 5, 3) := by decide +kernel
theorem d_law_539 : decode code 539 = .ok (.iconst 0, 1) := by decide +kernel
theorem d_law_540 : decode code 540 = .ok (.ireturn, 1) := by decide +kernel
theorem d_law_541 : decode code 541 = .ok (.goto 245, 3) := by decide +kernel
theorem d_law_544 : decode code 544 = .ok (.aload_n 1, 1) := by decide +kernel
theorem d_law_545 : decode code 545 = .ok (.aload_n 0, 1) := by decide +kernel
theorem d_law_546 : decode code 546 = .ok (.iload 4, 2) := by decide +kernel
theorem d_law_548 : decode code 548 = .ok (.iconst 1, 1) := by decide +kernel
theorem d_law_549 : decode code 549 = .ok (.iadd, 1) := by decide +kernel
theorem d_law_550 : decode code 550 = .ok (.iaload, 1) := by decide +kernel
theorem d_law_551 : decode code 551 = .ok (.aload_n 0, 1) := by decide +kernel
theorem d_law_552 : decode code 552 = .ok (.iload 4, 2) := by decide +kernel
theorem d_law_554 : decode code 554 = .ok (.iconst 2, 1) := by decide +kernel
theorem d_law_555 : decode code 555 = .ok (.iadd, 1) := by decide +kernel
theorem d_law_556 : decode code 556 = .ok (.iaload, 1) := by decide +kernel
theorem d_law_557 : decode code 557 = .ok (.aload_n 3, 1) := by decide +kernel
theorem d_law_558 : decode code 558 = .ok (.invokestatic 86, 3) := by decide +kernel
theorem d_law_561 : decode code 561 = .ok (.istore 5, 2) := by decide +kernel
theorem d_law_563 : decode code 563 = .ok (.aload_n 2, 1) := by decide +kernel
theorem d_law_564 : decode code 564 = .ok (.aload_n 0, 1) := by decide +kernel
theorem d_law_565 : decode code 565 = .ok (.iload 4, 2) := by decide +kernel
theorem d_law_567 : decode code 567 = .ok (.iconst 1, 1) := by decide +kernel
theorem d_law_568 : decode code 568 = .ok (.iadd, 1) := by decide +kernel
theorem d_law_569 : decode code 569 = .ok (.iaload, 1) := by decide +kernel
theorem d_law_570 : decode code 570 = .ok (.aload_n 0, 1) := by decide +kernel
theorem d_law_571 : decode code 571 = .ok (.iload 4, 2) := by decide +kernel
theorem d_law_573 : decode code 573 = .ok (.iconst 2, 1) := by decide +kernel
theorem d_law_574 : decode code 574 = .ok (.iadd, 1) := by decide +kernel
theorem d_law_575 : decode code 575 = .ok (.iaload, 1) := by decide +kernel
theorem d_law_576 : decode code 576 = .ok (.invokevirtual 88, 3) := by decide +kernel
theorem d_law_579 : decode code 579 = .ok (.istore 6, 2) := by decide +kernel
theorem d_law_581 : decode code 581 = .ok (.aload_n 2, 1) := by decide +kernel
theorem d_law_582 : decode code 582 = .ok (.invokevirtual 62, 3) := by decide +kernel
theorem d_law_585 : decode code 585 = .ok (.iload 5, 2) := by decide +kernel
theorem d_law_587 : decode code 587 = .ok (.if_icmp .eq 5, 3) := by decide +kernel
theorem d_law_590 : decode code 590 = .ok (.iconst 0, 1) := by decide +kernel
theorem d_law_591 : decode code 591 = .ok (.ireturn, 1) := by decide +kernel
theorem d_law_592 : decode code 592 = .ok (.iload 5, 2) := by decide +kernel
theorem d_law_594 : decode code 594 = .ok (.ifCond .ne 15, 3) := by decide +kernel
theorem d_law_597 : decode code 597 = .ok (.aload_n 3, 1) := by decide +kernel
theorem d_law_598 : decode code 598 = .ok (.iconst 0, 1) := by decide +kernel
theorem d_law_599 : decode code 599 = .ok (.laload, 1) := by decide +kernel
theorem d_law_600 : decode code 600 = .ok (.iload 6, 2) := by decide +kernel
theorem d_law_602 : decode code 602 = .ok (.i2l, 1) := by decide +kernel
theorem d_law_603 : decode code 603 = .ok (.lcmp, 1) := by decide +kernel
theorem d_law_604 : decode code 604 = .ok (.ifCond .eq 5, 3) := by decide +kernel
theorem d_law_607 : decode code 607 = .ok (.iconst 0, 1) := by decide +kernel
theorem d_law_608 : decode code 608 = .ok (.ireturn, 1) := by decide +kernel
theorem d_law_609 : decode code 609 = .ok (.goto 177, 3) := by decide +kernel
theorem d_law_612 : decode code 612 = .ok (.aload_n 1, 1) := by decide +kernel
theorem d_law_613 : decode code 613 = .ok (.aload_n 0, 1) := by decide +kernel
theorem d_law_614 : decode code 614 = .ok (.iload 4, 2) := by decide +kernel
theorem d_law_616 : decode code 616 = .ok (.iconst 1, 1) := by decide +kernel
theorem d_law_617 : decode code 617 = .ok (.iadd, 1) := by decide +kernel
theorem d_law_618 : decode code 618 = .ok (.iaload, 1) := by decide +kernel
theorem d_law_619 : decode code 619 = .ok (.aload_n 0, 1) := by decide +kernel
theorem d_law_620 : decode code 620 = .ok (.iload 4, 2) := by decide +kernel
theorem d_law_622 : decode code 622 = .ok (.iconst 2, 1) := by decide +kernel
theorem d_law_623 : decode code 623 = .ok (.iadd, 1) := by decide +kernel
theorem d_law_624 : decode code 624 = .ok (.iaload, 1) := by decide +kernel
theorem d_law_625 : decode code 625 = .ok (.aload_n 0, 1) := by decide +kernel
theorem d_law_626 : decode code 626 = .ok (.iload 4, 2) := by decide +kernel
theorem d_law_628 : decode code 628 = .ok (.iconst 3, 1) := by decide +kernel
theorem d_law_629 : decode code 629 = .ok (.iadd, 1) := by decide +kernel
theorem d_law_630 : decode code 630 = .ok (.iaload, 1) := by decide +kernel
theorem d_law_631 : decode code 631 = .ok (.aload_n 3, 1) := by decide +kernel
theorem d_law_632 : decode code 632 = .ok (.invokestatic 89, 3) := by decide +kernel
theorem d_law_635 : decode code 635 = .ok (.istore 5, 2) := by decide +kernel
theorem d_law_637 : decode code 637 = .ok (.aload_n 2, 1) := by decide +kernel
theorem d_law_638 : decode code 638 = .ok (.aload_n 0, 1) := by decide +kernel
theorem d_law_639 : decode code 639 = .ok (.iload 4, 2) := by decide +kernel
theorem d_law_641 : decode code 641 = .ok (.iconst 1, 1) := by decide +kernel
theorem d_law_642 : decode code 642 = .ok (.iadd, 1) := by decide +kernel
theorem d_law_643 : decode code 643 = .ok (.iaload, 1) := by decide +kernel
theorem d_law_644 : decode code 644 = .ok (.aload_n 0, 1) := by decide +kernel
theorem d_law_645 : decode code 645 = .ok (.iload 4, 2) := by decide +kernel
theorem d_law_647 : decode code 647 = .ok (.iconst 2, 1) := by decide +kernel
theorem d_law_648 : decode code 648 = .ok (.iadd, 1) := by decide +kernel
theorem d_law_649 : decode code 649 = .ok (.iaload, 1) := by decide +kernel
theorem d_law_650 : decode code 650 = .ok (.aload_n 0, 1) := by decide +kernel
theorem d_law_651 : decode code 651 = .ok (.iload 4, 2) := by decide +kernel
theorem d_law_653 : decode code 653 = .ok (.iconst 3, 1) := by decide +kernel
theorem d_law_654 : decode code 654 = .ok (.iadd, 1) := by decide +kernel
theorem d_law_655 : decode code 655 = .ok (.iaload, 1) := by decide +kernel
theorem d_law_656 : decode code 656 = .ok (.invokevirtual 92, 3) := by decide +kernel
theorem d_law_659 : decode code 659 = .ok (.istore 6, 2) := by decide +kernel
theorem d_law_661 : decode code 661 = .ok (.aload_n 2, 1) := by decide +kernel
theorem d_law_662 : decode code 662 = .ok (.invokevirtual 62, 3) := by decide +kernel
theorem d_law_665 : decode code 665 = .ok (.iload 5, 2) := by decide +kernel
theorem d_law_667 : decode code 667 = .ok (.if_icmp .eq 5, 3) := by decide +kernel
theorem d_law_670 : decode code 670 = .ok (.iconst 0, 1) := by decide +kernel
theorem d_law_671 : decode code 671 = .ok (.ireturn, 1) := by decide +kernel
theorem d_law_672 : decode code 672 = .ok (.iload 5, 2) := by decide +kernel
theorem d_law_674 : decode code 674 = .ok (.ifCond .ne 15, 3) := by decide +kernel
theorem d_law_677 : decode code 677 = .ok (.aload_n 3, 1) := by decide +kernel
theorem d_law_678 : decode code 678 = .ok (.iconst 0, 1) := by decide +kernel
theorem d_law_679 : decode code 679 = .ok (.laload, 1) := by decide +kernel
theorem d_law_680 : decode code 680 = .ok (.iload 6, 2) := by decide +kernel
theorem d_law_682 : decode code 682 = .ok (.i2l, 1) := by decide +kernel
theorem d_law_683 : decode code 683 = .ok (.lcmp, 1) := by decide +kernel
theorem d_law_684 : decode code 684 = .ok (.ifCond .eq 5, 3) := by decide +kernel
theorem d_law_687 : decode code 687 = .ok (.iconst 0, 1) := by decide +kernel
theorem d_law_688 : decode code 688 = .ok (.ireturn, 1) := by decide +kernel
theorem d_law_689 : decode code 689 = .ok (.goto 97, 3) := by decide +kernel
theorem d_law_692 : decode code 692 = .ok (.aload_n 1, 1) := by decide +kernel
theorem d_law_693 : decode code 693 = .ok (.invokevirtual 93, 3) := by decide +kernel
theorem d_law_696 : decode code 696 = .ok (.aload_n 2, 1) := by decide +kernel
theorem d_law_697 : decode code 697 = .ok (.invokevirtual 96, 3) := by decide +kernel
theorem d_law_700 : decode code 700 = .ok (.if_icmp .eq 86, 3) := by decide +kernel
theorem d_law_703 : decode code 703 = .ok (.iconst 0, 1) := by decide +kernel
theorem d_law_704 : decode code 704 = .ok (.ireturn, 1) := by decide +kernel
theorem d_law_705 : decode code 705 = .ok (.aload_n 1, 1) := by decide +kernel
theorem d_law_706 : decode code 706 = .ok (.invokevirtual 97, 3) := by decide +kernel
theorem d_law_709 : decode code 709 = .ok (.aload_n 2, 1) := by decide +kernel
theorem d_law_710 : decode code 710 = .ok (.invokevirtual 100, 3) := by decide +kernel
theorem d_law_713 : decode code 713 = .ok (.if_icmp .eq 73, 3) := by decide +kernel
theorem d_law_716 : decode code 716 = .ok (.iconst 0, 1) := by decide +kernel
theorem d_law_717 : decode code 717 = .ok (.ireturn, 1) := by decide +kernel
theorem d_law_718 : decode code 718 = .ok (.aload_n 1, 1) := by decide +kernel
theorem d_law_719 : decode code 719 = .ok (.aload_n 0, 1) := by decide +kernel
theorem d_law_720 : decode code 720 = .ok (.iload 4, 2) := by decide +kernel
theorem d_law_722 : decode code 722 = .ok (.iconst 1, 1) := by decide +kernel
theorem d_law_723 : decode code 723 = .ok (.iadd, 1) := by decide +kernel
theorem d_law_724 : decode code 724 = .ok (.iaload, 1) := by decide +kernel
theorem d_law_725 : decode code 725 = .ok (.aload_n 0, 1) := by decide +kernel
theorem d_law_726 : decode code 726 = .ok (.iload 4, 2) := by decide +kernel
theorem d_law_728 : decode code 728 = .ok (.iconst 2, 1) := by decide +kernel
theorem d_law_729 : decode code 729 = .ok (.iadd, 1) := by decide +kernel
theorem d_law_730 : decode code 730 = .ok (.iaload, 1) := by decide +kernel
theorem d_law_731 : decode code 731 = .ok (.aload_n 3, 1) := by decide +kernel
theorem d_law_732 : decode code 732 = .ok (.invokestatic 101, 3) := by decide +kernel
theorem d_law_735 : decode code 735 = .ok (.istore 5, 2) := by decide +kernel
theorem d_law_737 : decode code 737 = .ok (.aload_n 2, 1) := by decide +kernel
theorem d_law_738 : decode code 738 = .ok (.aload_n 0, 1) := by decide +kernel
theorem d_law_739 : decode code 739 = .ok (.iload 4, 2) := by decide +kernel
theorem d_law_741 : decode code 741 = .ok (.iconst 1, 1) := by decide +kernel
theorem d_law_742 : decode code 742 = .ok (.iadd, 1) := by decide +kernel
theorem d_law_743 : decode code 743 = .ok (.iaload, 1) := by decide +kernel
theorem d_law_744 : decode code 744 = .ok (.aload_n 0, 1) := by decide +kernel
theorem d_law_745 : decode code 745 = .ok (.iload 4, 2) := by decide +kernel
theorem d_law_747 : decode code 747 = .ok (.iconst 2, 1) := by decide +kernel
theorem d_law_748 : decode code 748 = .ok (.iadd, 1) := by decide +kernel
theorem d_law_749 : decode code 749 = .ok (.iaload, 1) := by decide +kernel
theorem d_law_750 : decode code 750 = .ok (.invokevirtual 103, 3) := by decide +kernel
theorem d_law_753 : decode code 753 = .ok (.istore 6, 2) := by decide +kernel
theorem d_law_755 : decode code 755 = .ok (.aload_n 2, 1) := by decide +kernel
theorem d_law_756 : decode code 756 = .ok (.invokevirtual 62, 3) := by decide +kernel
theorem d_law_759 : decode code 759 = .ok (.iload 5, 2) := by decide +kernel
theorem d_law_761 : decode code 761 = .ok (.if_icmp .eq 5, 3) := by decide +kernel
theorem d_law_764 : decode code 764 = .ok (.iconst 0, 1) := by decide +kernel
theorem d_law_765 : decode code 765 = .ok (.ireturn, 1) := by decide +kernel
theorem d_law_766 : decode code 766 = .ok (.iload 5, 2) := by decide +kernel
theorem d_law_768 : decode code 768 = .ok (.ifCond .ne 15, 3) := by decide +kernel
theorem d_law_771 : decode code 771 = .ok (.aload_n 3, 1) := by decide +kernel
theorem d_law_772 : decode code 772 = .ok (.iconst 0, 1) := by decide +kernel
theorem d_law_773 : decode code 773 = .ok (.laload, 1) := by decide +kernel
theorem d_law_774 : decode code 774 = .ok (.iload 6, 2) := by decide +kernel
theorem d_law_776 : decode code 776 = .ok (.i2l, 1) := by decide +kernel
theorem d_law_777 : decode code 777 = .ok (.lcmp, 1) := by decide +kernel
theorem d_law_778 : decode code 778 = .ok (.ifCond .eq 5, 3) := by decide +kernel
theorem d_law_781 : decode code 781 = .ok (.iconst 0, 1) := by decide +kernel
theorem d_law_782 : decode code 782 = .ok (.ireturn, 1) := by decide +kernel
theorem d_law_783 : decode code 783 = .ok (.goto 3, 3) := by decide +kernel
theorem d_law_786 : decode code 786 = .ok (.iinc 4 5, 3) := by decide +kernel
theorem d_law_789 : decode code 789 = .ok (.goto (-766), 3) := by decide +kernel
theorem d_law_792 : decode code 792 = .ok (.iconst 1, 1) := by decide +kernel
theorem d_law_793 : decode code 793 = .ok (.ireturn, 1) := by decide +kernel
