theorem d_AL_init_0 : decode b_AL_init 0 = .ok (.aload_n 0, 1) := by decide +kernel
theorem d_AL_init_1 : decode b_AL_init 1 = .ok (.invokespecial 1, 3) := by decide +kernel
theorem d_AL_init_4 : decode b_AL_init 4 = .ok (.aload_n 0, 1) := by decide +kernel
theorem d_AL_init_5 : decode b_AL_init 5 = .ok (.getstatic 39, 3) := by decide +kernel
theorem d_AL_init_8 : decode b_AL_init 8 = .ok (.putfield 9, 3) := by decide +kernel
theorem d_AL_init_11 : decode b_AL_init 11 = .ok (.return_, 1) := by decide +kernel
theorem d_ABL_init_0 : decode b_ABL_init 0 = .ok (.aload_n 0, 1) := by decide +kernel
theorem d_ABL_init_1 : decode b_ABL_init 1 = .ok (.invokespecial 1, 3) := by decide +kernel
theorem d_ABL_init_4 : decode b_ABL_init 4 = .ok (.aload_n 0, 1) := by decide +kernel
theorem d_ABL_init_5 : decode b_ABL_init 5 = .ok (.iconst 0, 1) := by decide +kernel
theorem d_ABL_init_6 : decode b_ABL_init 6 = .ok (.putfield 7, 3) := by decide +kernel
theorem d_ABL_init_9 : decode b_ABL_init 9 = .ok (.return_, 1) := by decide +kernel
theorem d_P_init_0 : decode b_P_init 0 = .ok (.aload_n 0, 1) := by decide +kernel
theorem d_P_init_1 : decode b_P_init 1 = .ok (.invokespecial 3, 3) := by decide +kernel
theorem d_P_init_4 : decode b_P_init 4 = .ok (.aload_n 0, 1) := by decide +kernel
theorem d_P_init_5 : decode b_P_init 5 = .ok (.bipush 8, 2) := by decide +kernel
theorem d_P_init_7 : decode b_P_init 7 = .ok (.anewarray 9, 3) := by decide +kernel
theorem d_P_init_10 : decode b_P_init 10 = .ok (.putfield 11, 3) := by decide +kernel
theorem d_P_init_13 : decode b_P_init 13 = .ok (.aload_n 0, 1) := by decide +kernel
theorem d_P_init_14 : decode b_P_init 14 = .ok (.bipush 8, 2) := by decide +kernel
theorem d_P_init_16 : decode b_P_init 16 = .ok (.newarray .int, 2) := by decide +kernel
theorem d_P_init_18 : decode b_P_init 18 = .ok (.putfield 17, 3) := by decide +kernel
theorem d_P_init_21 : decode b_P_init 21 = .ok (.return_, 1) := by decide +kernel
theorem d_AL_size_0 : decode b_AL_size 0 = .ok (.aload_n 0, 1) := by decide +kernel
theorem d_AL_size_1 : decode b_AL_size 1 = .ok (.getfield 48, 3) := by decide +kernel
theorem d_AL_size_4 : decode b_AL_size 4 = .ok (.ireturn, 1) := by decide +kernel
theorem d_AL_isEmpty_0 : decode b_AL_isEmpty 0 = .ok (.aload_n 0, 1) := by decide +kernel
theorem d_AL_isEmpty_1 : decode b_AL_isEmpty 1 = .ok (.getfield 48, 3) := by decide +kernel
theorem d_AL_isEmpty_4 : decode b_AL_isEmpty 4 = .ok (.ifCond .ne 7, 3) := by decide +kernel
theorem d_AL_isEmpty_7 : decode b_AL_isEmpty 7 = .ok (.iconst 1, 1) := by decide +kernel
theorem d_AL_isEmpty_8 : decode b_AL_isEmpty 8 = .ok (.goto 4, 3) := by decide +kernel
theorem d_AL_isEmpty_11 : decode b_AL_isEmpty 11 = .ok (.iconst 0, 1) := by decide +kernel
theorem d_AL_isEmpty_12 : decode b_AL_isEmpty 12 = .ok (.ireturn, 1) := by decide +kernel
theorem d_Fn_init_0 : decode b_Fn_init 0 = .ok (.aload_n 0, 1) := by decide +kernel
theorem d_Fn_init_1 : decode b_Fn_init 1 = .ok (.invokespecial 1, 3) := by decide +kernel
theorem d_Fn_init_4 : decode b_Fn_init 4 = .ok (.aload_n 0, 1) := by decide +kernel
theorem d_Fn_init_5 : decode b_Fn_init 5 = .ok (.iload_n 1, 1) := by decide +kernel
theorem d_Fn_init_6 : decode b_Fn_init 6 = .ok (.putfield 7, 3) := by decide +kernel
theorem d_Fn_init_9 : decode b_Fn_init 9 = .ok (.aload_n 0, 1) := by decide +kernel
theorem d_Fn_init_10 : decode b_Fn_init 10 = .ok (.new 13, 3) := by decide +kernel
theorem d_Fn_init_13 : decode b_Fn_init 13 = .ok (.dup, 1) := by decide +kernel
theorem d_Fn_init_14 : decode b_Fn_init 14 = .ok (.invokespecial 15, 3) := by decide +kernel
theorem d_Fn_init_17 : decode b_Fn_init 17 = .ok (.putfield 16, 3) := by decide +kernel
theorem d_Fn_init_20 : decode b_Fn_init 20 = .ok (.return_, 1) := by decide +kernel
theorem d_B_init_0 : decode b_B_init 0 = .ok (.aload_n 0, 1) := by decide +kernel
theorem d_B_init_1 : decode b_B_init 1 = .ok (.invokespecial 3, 3) := by decide +kernel
theorem d_B_init_4 : decode b_B_init 4 = .ok (.aload_n 0, 1) := by decide +kernel
theorem d_B_init_5 : decode b_B_init 5 = .ok (.bipush 12, 2) := by decide +kernel
theorem d_B_init_7 : decode b_B_init 7 = .ok (.newarray .int, 2) := by decide +kernel
theorem d_B_init_9 : decode b_B_init 9 = .ok (.putfield 9, 3) := by decide +kernel
theorem d_B_init_12 : decode b_B_init 12 = .ok (.aload_n 0, 1) := by decide +kernel
theorem d_B_init_13 : decode b_B_init 13 = .ok (.bipush 12, 2) := by decide +kernel
theorem d_B_init_15 : decode b_B_init 15 = .ok (.newarray .int, 2) := by decide +kernel
theorem d_B_init_17 : decode b_B_init 17 = .ok (.putfield 15, 3) := by decide +kernel
theorem d_B_init_20 : decode b_B_init 20 = .ok (.return_, 1) := by decide +kernel
theorem d_AL_add0_0 : decode b_AL_add0 0 = .ok (.aload_n 0, 1) := by decide +kernel
theorem d_AL_add0_1 : decode b_AL_add0 1 = .ok (.dup, 1) := by decide +kernel
theorem d_AL_add0_2 : decode b_AL_add0 2 = .ok (.getfield 63, 3) := by decide +kernel
theorem d_AL_add0_5 : decode b_AL_add0 5 = .ok (.iconst 1, 1) := by decide +kernel
theorem d_AL_add0_6 : decode b_AL_add0 6 = .ok (.iadd, 1) := by decide +kernel
theorem d_AL_add0_7 : decode b_AL_add0 7 = .ok (.putfield 63, 3) := by decide +kernel
theorem d_AL_add0_10 : decode b_AL_add0 10 = .ok (.aload_n 0, 1) := by decide +kernel
theorem d_AL_add0_11 : decode b_AL_add0 11 = .ok (.aload_n 1, 1) := by decide +kernel
theorem d_AL_add0_12 : decode b_AL_add0 12 = .ok (.aload_n 0, 1) := by decide +kernel
theorem d_AL_add0_13 : decode b_AL_add0 13 = .ok (.getfield 9, 3) := by decide +kernel
theorem d_AL_add0_16 : decode b_AL_add0 16 = .ok (.aload_n 0, 1) := by decide +kernel
theorem d_AL_add0_17 : decode b_AL_add0 17 = .ok (.getfield 48, 3) := by decide +kernel
theorem d_AL_add0_20 : decode b_AL_add0 20 = .ok (.invokevirtual 131, 3) := by decide +kernel
theorem d_AL_add0_23 : decode b_AL_add0 23 = .ok (.iconst 1, 1) := by decide +kernel
theorem d_AL_add0_24 : decode b_AL_add0 24 = .ok (.ireturn, 1) := by decide +kernel
theorem d_AL_add1_0 : decode b_AL_add1 0 = .ok (.iload_n 3, 1) := by decide +kernel
theorem d_AL_add1_1 : decode b_AL_add1 1 = .ok (.aload_n 2, 1) := by decide +kernel
theorem d_AL_add1_2 : decode b_AL_add1 2 = .ok (.arraylength, 1) := by decide +kernel
theorem d_AL_add1_3 : decode b_AL_add1 3 = .ok (.if_icmp .ne 8, 3) := by decide +kernel
theorem d_AL_add1_6 : decode b_AL_add1 6 = .ok (.aload_n 0, 1) := by decide +kernel
theorem d_AL_add1_7 : decode b_AL_add1 7 = .ok (.invokevirtual 129, 3) := by decide +kernel
theorem d_AL_add1_10 : decode b_AL_add1 10 = .ok (.astore_n 2, 1) := by decide +kernel
theorem d_AL_add1_11 : decode b_AL_add1 11 = .ok (.aload_n 2, 1) := by decide +kernel
theorem d_AL_add1_12 : decode b_AL_add1 12 = .ok (.iload_n 3, 1) := by decide +kernel
theorem d_AL_add1_13 : decode b_AL_add1 13 = .ok (.aload_n 1, 1) := by decide +kernel
theorem d_AL_add1_14 : decode b_AL_add1 14 = .ok (.aastore, 1) := by decide +kernel
theorem d_AL_add1_15 : decode b_AL_add1 15 = .ok (.aload_n 0, 1) := by decide +kernel
theorem d_AL_add1_16 : decode b_AL_add1 16 = .ok (.iload_n 3, 1) := by decide +kernel
theorem d_AL_add1_17 : decode b_AL_add1 17 = .ok (.iconst 1, 1) := by decide +kernel
theorem d_AL_add1_18 : decode b_AL_add1 18 = .ok (.iadd, 1) := by decide +kernel
theorem d_AL_add1_19 : decode b_AL_add1 19 = .ok (.putfield 48, 3) := by decide +kernel
theorem d_AL_add1_22 : decode b_AL_add1 22 = .ok (.return_, 1) := by decide +kernel
theorem d_AL_grow0_0 : decode b_AL_grow0 0 = .ok (.aload_n 0, 1) := by decide +kernel
theorem d_AL_grow0_1 : decode b_AL_grow0 1 = .ok (.aload_n 0, 1) := by decide +kernel
theorem d_AL_grow0_2 : decode b_AL_grow0 2 = .ok (.getfield 48, 3) := by decide +kernel
theorem d_AL_grow0_5 : decode b_AL_grow0 5 = .ok (.iconst 1, 1) := by decide +kernel
theorem d_AL_grow0_6 : decode b_AL_grow0 6 = .ok (.iadd, 1) := by decide +kernel
theorem d_AL_grow0_7 : decode b_AL_grow0 7 = .ok (.invokevirtual 69, 3) := by decide +kernel
theorem d_AL_grow0_10 : decode b_AL_grow0 10 = .ok (.areturn, 1) := by decide +kernel
theorem d_AL_grow1_0 : decode b_AL_grow1 0 = .ok (.aload_n 0, 1) := by decide +kernel
theorem d_AL_grow1_1 : decode b_AL_grow1 1 = .ok (.getfield 9, 3) := by decide +kernel
theorem d_AL_grow1_4 : decode b_AL_grow1 4 = .ok (.arraylength, 1) := by decide +kernel
theorem d_AL_grow1_5 : decode b_AL_grow1 5 = .ok (.istore_n 2, 1) := by decide +kernel
theorem d_AL_grow1_6 : decode b_AL_grow1 6 = .ok (.iload_n 2, 1) := by decide +kernel
theorem d_AL_grow1_7 : decode b_AL_grow1 7 = .ok (.ifCond .gt 13, 3) := by decide +kernel
theorem d_AL_grow1_10 : decode b_AL_grow1 10 = .ok (.aload_n 0, 1) := by decide +kernel
theorem d_AL_grow1_11 : decode b_AL_grow1 11 = .ok (.getfield 9, 3) := by decide +kernel
theorem d_AL_grow1_14 : decode b_AL_grow1 14 = .ok (.getstatic 39, 3) := by decide +kernel
theorem d_AL_grow1_17 : decode b_AL_grow1 17 = .ok (.if_acmp .eq 28, 3) := by decide +kernel
theorem d_AL_grow1_20 : decode b_AL_grow1 20 = .ok (.iload_n 2, 1) := by decide +kernel
theorem d_AL_grow1_21 : decode b_AL_grow1 21 = .ok (.iload_n 1, 1) := by decide +kernel
theorem d_AL_grow1_22 : decode b_AL_grow1 22 = .ok (.iload_n 2, 1) := by decide +kernel
theorem d_AL_grow1_23 : decode b_AL_grow1 23 = .ok (.isub, 1) := by decide +kernel
theorem d_AL_grow1_24 : decode b_AL_grow1 24 = .ok (.iload_n 2, 1) := by decide +kernel
theorem d_AL_grow1_25 : decode b_AL_grow1 25 = .ok (.iconst 1, 1) := by decide +kernel
theorem d_AL_grow1_26 : decode b_AL_grow1 26 = .ok (.ishr, 1) := by decide +kernel
theorem d_AL_grow1_27 : decode b_AL_grow1 27 = .ok (.invokestatic 73, 3) := by decide +kernel
theorem d_AL_grow1_30 : decode b_AL_grow1 30 = .ok (.istore_n 3, 1) := by decide +kernel
theorem d_AL_grow1_31 : decode b_AL_grow1 31 = .ok (.aload_n 0, 1) := by decide +kernel
theorem d_AL_grow1_32 : decode b_AL_grow1 32 = .ok (.aload_n 0, 1) := by decide +kernel
theorem d_AL_grow1_33 : decode b_AL_grow1 33 = .ok (.getfield 9, 3) := by decide +kernel
theorem d_AL_grow1_36 : decode b_AL_grow1 36 = .ok (.iload_n 3, 1) := by decide +kernel
theorem d_AL_grow1_37 : decode b_AL_grow1 37 = .ok (.invokestatic 66, 3) := by decide +kernel
theorem d_AL_grow1_40 : decode b_AL_grow1 40 = .ok (.dup_x1, 1) := by decide +kernel
theorem d_AL_grow1_41 : decode b_AL_grow1 41 = .ok (.putfield 9, 3) := by decide +kernel
theorem d_AL_grow1_44 : decode b_AL_grow1 44 = .ok (.areturn, 1) := by decide +kernel
theorem d_AL_grow1_45 : decode b_AL_grow1 45 = .ok (.aload_n 0, 1) := by decide +kernel
theorem d_AL_grow1_46 : decode b_AL_grow1 46 = .ok (.bipush 10, 2) := by decide +kernel
theorem d_AL_grow1_48 : decode b_AL_grow1 48 = .ok (.iload_n 1, 1) := by decide +kernel
theorem d_AL_grow1_49 : decode b_AL_grow1 49 = .ok (.invokestatic 79, 3) := by decide +kernel
theorem d_AL_grow1_52 : decode b_AL_grow1 52 = .ok (.anewarray 7, 3) := by decide +kernel
theorem d_AL_grow1_55 : decode b_AL_grow1 55 = .ok (.dup_x1, 1) := by decide +kernel
theorem d_AL_grow1_56 : decode b_AL_grow1 56 = .ok (.putfield 9, 3) := by decide +kernel
theorem d_AL_grow1_59 : decode b_AL_grow1 59 = .ok (.areturn, 1) := by decide +kernel
theorem d_MA_max_0 : decode b_MA_max 0 = .ok (.iload_n 0, 1) := by decide +kernel
theorem d_MA_max_1 : decode b_MA_max 1 = .ok (.iload_n 1, 1) := by decide +kernel
theorem d_MA_max_2 : decode b_MA_max 2 = .ok (.if_icmp .lt 7, 3) := by decide +kernel
theorem d_MA_max_5 : decode b_MA_max 5 = .ok (.iload_n 0, 1) := by decide +kernel
theorem d_MA_max_6 : decode b_MA_max 6 = .ok (.goto 4, 3) := by decide +kernel
theorem d_MA_max_9 : decode b_MA_max 9 = .ok (.iload_n 1, 1) := by decide +kernel
theorem d_MA_max_10 : decode b_MA_max 10 = .ok (.ireturn, 1) := by decide +kernel
theorem d_MA_min_0 : decode b_MA_min 0 = .ok (.iload_n 0, 1) := by decide +kernel
theorem d_MA_min_1 : decode b_MA_min 1 = .ok (.iload_n 1, 1) := by decide +kernel
theorem d_MA_min_2 : decode b_MA_min 2 = .ok (.if_icmp .gt 7, 3) := by decide +kernel
theorem d_MA_min_5 : decode b_MA_min 5 = .ok (.iload_n 0, 1) := by decide +kernel
theorem d_MA_min_6 : decode b_MA_min 6 = .ok (.goto 4, 3) := by decide +kernel
theorem d_MA_min_9 : decode b_MA_min 9 = .ok (.iload_n 1, 1) := by decide +kernel
theorem d_MA_min_10 : decode b_MA_min 10 = .ok (.ireturn, 1) := by decide +kernel
theorem d_P_hasNamed_0 : decode b_P_hasNamed 0 = .ok (.aload_n 0, 1) := by decide +kernel
theorem d_P_hasNamed_1 : decode b_P_hasNamed 1 = .ok (.getfield 11, 3) := by decide +kernel
theorem d_P_hasNamed_4 : decode b_P_hasNamed 4 = .ok (.iload_n 1, 1) := by decide +kernel
theorem d_P_hasNamed_5 : decode b_P_hasNamed 5 = .ok (.aaload, 1) := by decide +kernel
theorem d_P_hasNamed_6 : decode b_P_hasNamed 6 = .ok (.ifnull 7, 3) := by decide +kernel
theorem d_P_hasNamed_9 : decode b_P_hasNamed 9 = .ok (.iconst 1, 1) := by decide +kernel
theorem d_P_hasNamed_10 : decode b_P_hasNamed 10 = .ok (.goto 4, 3) := by decide +kernel
theorem d_P_hasNamed_13 : decode b_P_hasNamed 13 = .ok (.iconst 0, 1) := by decide +kernel
theorem d_P_hasNamed_14 : decode b_P_hasNamed 14 = .ok (.ireturn, 1) := by decide +kernel
theorem d_AL_get_0 : decode b_AL_get 0 = .ok (.iload_n 1, 1) := by decide +kernel
theorem d_AL_get_1 : decode b_AL_get 1 = .ok (.aload_n 0, 1) := by decide +kernel
theorem d_AL_get_2 : decode b_AL_get 2 = .ok (.getfield 48, 3) := by decide +kernel
theorem d_AL_get_5 : decode b_AL_get 5 = .ok (.invokestatic 118, 3) := by decide +kernel
theorem d_AL_get_8 : decode b_AL_get 8 = .ok (.pop, 1) := by decide +kernel
theorem d_AL_get_9 : decode b_AL_get 9 = .ok (.aload_n 0, 1) := by decide +kernel
theorem d_AL_get_10 : decode b_AL_get 10 = .ok (.iload_n 1, 1) := by decide +kernel
theorem d_AL_get_11 : decode b_AL_get 11 = .ok (.invokevirtual 123, 3) := by decide +kernel
theorem d_AL_get_14 : decode b_AL_get 14 = .ok (.areturn, 1) := by decide +kernel
theorem d_OB_checkIndex_0 : decode b_OB_checkIndex 0 = .ok (.iload_n 0, 1) := by decide +kernel
theorem d_OB_checkIndex_1 : decode b_OB_checkIndex 1 = .ok (.iload_n 1, 1) := by decide +kernel
theorem d_OB_checkIndex_2 : decode b_OB_checkIndex 2 = .ok (.aconst_null, 1) := by decide +kernel
theorem d_OB_checkIndex_3 : decode b_OB_checkIndex 3 = .ok (.invokestatic 105, 3) := by decide +kernel
theorem d_OB_checkIndex_6 : decode b_OB_checkIndex 6 = .ok (.ireturn, 1) := by decide +kernel
theorem d_PC_checkIndex_0 : decode b_PC_checkIndex 0 = .ok (.iload_n 0, 1) := by decide +kernel
theorem d_PC_checkIndex_1 : decode b_PC_checkIndex 1 = .ok (.ifCond .lt 8, 3) := by decide +kernel
theorem d_PC_checkIndex_4 : decode b_PC_checkIndex 4 = .ok (.iload_n 0, 1) := by decide +kernel
theorem d_PC_checkIndex_5 : decode b_PC_checkIndex 5 = .ok (.iload_n 1, 1) := by decide +kernel
theorem d_PC_checkIndex_6 : decode b_PC_checkIndex 6 = .ok (.if_icmp .lt 10, 3) := by decide +kernel
theorem d_PC_checkIndex_9 : decode b_PC_checkIndex 9 = .ok (.aload_n 2, 1) := by decide +kernel
theorem d_PC_checkIndex_10 : decode b_PC_checkIndex 10 = .ok (.iload_n 0, 1) := by decide +kernel
theorem d_PC_checkIndex_11 : decode b_PC_checkIndex 11 = .ok (.iload_n 1, 1) := by decide +kernel
theorem d_PC_checkIndex_12 : decode b_PC_checkIndex 12 = .ok (.invokestatic 95, 3) := by decide +kernel
theorem d_PC_checkIndex_15 : decode b_PC_checkIndex 15 = .ok (.athrow, 1) := by decide +kernel
theorem d_PC_checkIndex_16 : decode b_PC_checkIndex 16 = .ok (.iload_n 0, 1) := by decide +kernel
theorem d_PC_checkIndex_17 : decode b_PC_checkIndex 17 = .ok (.ireturn, 1) := by decide +kernel
theorem d_AL_elementData_0 : decode b_AL_elementData 0 = .ok (.aload_n 0, 1) := by decide +kernel
theorem d_AL_elementData_1 : decode b_AL_elementData 1 = .ok (.getfield 9, 3) := by decide +kernel
theorem d_AL_elementData_4 : decode b_AL_elementData 4 = .ok (.iload_n 1, 1) := by decide +kernel
theorem d_AL_elementData_5 : decode b_AL_elementData 5 = .ok (.aaload, 1) := by decide +kernel
theorem d_AL_elementData_6 : decode b_AL_elementData 6 = .ok (.areturn, 1) := by decide +kernel
theorem d_B_isFull_0 : decode b_B_isFull 0 = .ok (.aload_n 0, 1) := by decide +kernel
theorem d_B_isFull_1 : decode b_B_isFull 1 = .ok (.getfield 18, 3) := by decide +kernel
theorem d_B_isFull_4 : decode b_B_isFull 4 = .ok (.bipush 12, 2) := by decide +kernel
theorem d_B_isFull_6 : decode b_B_isFull 6 = .ok (.if_icmp .lt 7, 3) := by decide +kernel
theorem d_B_isFull_9 : decode b_B_isFull 9 = .ok (.iconst 1, 1) := by decide +kernel
theorem d_B_isFull_10 : decode b_B_isFull 10 = .ok (.goto 4, 3) := by decide +kernel
theorem d_B_isFull_13 : decode b_B_isFull 13 = .ok (.iconst 0, 1) := by decide +kernel
theorem d_B_isFull_14 : decode b_B_isFull 14 = .ok (.ireturn, 1) := by decide +kernel
theorem d_B_append_0 : decode b_B_append 0 = .ok (.aload_n 0, 1) := by decide +kernel
theorem d_B_append_1 : decode b_B_append 1 = .ok (.getfield 9, 3) := by decide +kernel
theorem d_B_append_4 : decode b_B_append 4 = .ok (.aload_n 0, 1) := by decide +kernel
theorem d_B_append_5 : decode b_B_append 5 = .ok (.getfield 18, 3) := by decide +kernel
theorem d_B_append_8 : decode b_B_append 8 = .ok (.iload_n 1, 1) := by decide +kernel
theorem d_B_append_9 : decode b_B_append 9 = .ok (.iastore, 1) := by decide +kernel
theorem d_B_append_10 : decode b_B_append 10 = .ok (.aload_n 0, 1) := by decide +kernel
theorem d_B_append_11 : decode b_B_append 11 = .ok (.getfield 15, 3) := by decide +kernel
theorem d_B_append_14 : decode b_B_append 14 = .ok (.aload_n 0, 1) := by decide +kernel
theorem d_B_append_15 : decode b_B_append 15 = .ok (.getfield 18, 3) := by decide +kernel
theorem d_B_append_18 : decode b_B_append 18 = .ok (.iload_n 2, 1) := by decide +kernel
theorem d_B_append_19 : decode b_B_append 19 = .ok (.iastore, 1) := by decide +kernel
theorem d_B_append_20 : decode b_B_append 20 = .ok (.aload_n 0, 1) := by decide +kernel
theorem d_B_append_21 : decode b_B_append 21 = .ok (.dup, 1) := by decide +kernel
theorem d_B_append_22 : decode b_B_append 22 = .ok (.getfield 18, 3) := by decide +kernel
theorem d_B_append_25 : decode b_B_append 25 = .ok (.iconst 1, 1) := by decide +kernel
theorem d_B_append_26 : decode b_B_append 26 = .ok (.iadd, 1) := by decide +kernel
theorem d_B_append_27 : decode b_B_append 27 = .ok (.putfield 18, 3) := by decide +kernel
theorem d_B_append_30 : decode b_B_append 30 = .ok (.return_, 1) := by decide +kernel
theorem d_P_include_0 : decode b_P_include 0 = .ok (.aload_n 0, 1) := by decide +kernel
theorem d_P_include_1 : decode b_P_include 1 = .ok (.getfield 11, 3) := by decide +kernel
theorem d_P_include_4 : decode b_P_include 4 = .ok (.iload_n 1, 1) := by decide +kernel
theorem d_P_include_5 : decode b_P_include 5 = .ok (.new 9, 3) := by decide +kernel
theorem d_P_include_8 : decode b_P_include 8 = .ok (.dup, 1) := by decide +kernel
theorem d_P_include_9 : decode b_P_include 9 = .ok (.invokespecial 21, 3) := by decide +kernel
theorem d_P_include_12 : decode b_P_include 12 = .ok (.aastore, 1) := by decide +kernel
theorem d_P_include_13 : decode b_P_include 13 = .ok (.aload_n 0, 1) := by decide +kernel
theorem d_P_include_14 : decode b_P_include 14 = .ok (.getfield 17, 3) := by decide +kernel
theorem d_P_include_17 : decode b_P_include 17 = .ok (.iload_n 1, 1) := by decide +kernel
theorem d_P_include_18 : decode b_P_include 18 = .ok (.iload_n 2, 1) := by decide +kernel
theorem d_P_include_19 : decode b_P_include 19 = .ok (.iastore, 1) := by decide +kernel
theorem d_P_include_20 : decode b_P_include 20 = .ok (.aload_n 0, 1) := by decide +kernel
theorem d_P_include_21 : decode b_P_include 21 = .ok (.dup, 1) := by decide +kernel
theorem d_P_include_22 : decode b_P_include 22 = .ok (.getfield 22, 3) := by decide +kernel
theorem d_P_include_25 : decode b_P_include 25 = .ok (.iconst 1, 1) := by decide +kernel
theorem d_P_include_26 : decode b_P_include 26 = .ok (.iadd, 1) := by decide +kernel
theorem d_P_include_27 : decode b_P_include 27 = .ok (.putfield 22, 3) := by decide +kernel
theorem d_P_include_30 : decode b_P_include 30 = .ok (.return_, 1) := by decide +kernel
theorem d_AL_remove_0 : decode b_AL_remove 0 = .ok (.iload_n 1, 1) := by decide +kernel
theorem d_AL_remove_1 : decode b_AL_remove 1 = .ok (.aload_n 0, 1) := by decide +kernel
theorem d_AL_remove_2 : decode b_AL_remove 2 = .ok (.getfield 48, 3) := by decide +kernel
theorem d_AL_remove_5 : decode b_AL_remove 5 = .ok (.invokestatic 118, 3) := by decide +kernel
theorem d_AL_remove_8 : decode b_AL_remove 8 = .ok (.pop, 1) := by decide +kernel
theorem d_AL_remove_9 : decode b_AL_remove 9 = .ok (.aload_n 0, 1) := by decide +kernel
theorem d_AL_remove_10 : decode b_AL_remove 10 = .ok (.getfield 9, 3) := by decide +kernel
theorem d_AL_remove_13 : decode b_AL_remove 13 = .ok (.astore_n 2, 1) := by decide +kernel
theorem d_AL_remove_14 : decode b_AL_remove 14 = .ok (.aload_n 2, 1) := by decide +kernel
theorem d_AL_remove_15 : decode b_AL_remove 15 = .ok (.iload_n 1, 1) := by decide +kernel
theorem d_AL_remove_16 : decode b_AL_remove 16 = .ok (.aaload, 1) := by decide +kernel
theorem d_AL_remove_17 : decode b_AL_remove 17 = .ok (.astore_n 3, 1) := by decide +kernel
theorem d_AL_remove_18 : decode b_AL_remove 18 = .ok (.aload_n 0, 1) := by decide +kernel
theorem d_AL_remove_19 : decode b_AL_remove 19 = .ok (.aload_n 2, 1) := by decide +kernel
theorem d_AL_remove_20 : decode b_AL_remove 20 = .ok (.iload_n 1, 1) := by decide +kernel
theorem d_AL_remove_21 : decode b_AL_remove 21 = .ok (.invokevirtual 144, 3) := by decide +kernel
theorem d_AL_remove_24 : decode b_AL_remove 24 = .ok (.aload_n 3, 1) := by decide +kernel
theorem d_AL_remove_25 : decode b_AL_remove 25 = .ok (.areturn, 1) := by decide +kernel
theorem d_AL_fastRemove_0 : decode b_AL_fastRemove 0 = .ok (.aload_n 0, 1) := by decide +kernel
theorem d_AL_fastRemove_1 : decode b_AL_fastRemove 1 = .ok (.dup, 1) := by decide +kernel
theorem d_AL_fastRemove_2 : decode b_AL_fastRemove 2 = .ok (.getfield 63, 3) := by decide +kernel
theorem d_AL_fastRemove_5 : decode b_AL_fastRemove 5 = .ok (.iconst 1, 1) := by decide +kernel
theorem d_AL_fastRemove_6 : decode b_AL_fastRemove 6 = .ok (.iadd, 1) := by decide +kernel
theorem d_AL_fastRemove_7 : decode b_AL_fastRemove 7 = .ok (.putfield 63, 3) := by decide +kernel
theorem d_AL_fastRemove_10 : decode b_AL_fastRemove 10 = .ok (.aload_n 0, 1) := by decide +kernel
theorem d_AL_fastRemove_11 : decode b_AL_fastRemove 11 = .ok (.getfield 48, 3) := by decide +kernel
theorem d_AL_fastRemove_14 : decode b_AL_fastRemove 14 = .ok (.iconst 1, 1) := by decide +kernel
theorem d_AL_fastRemove_15 : decode b_AL_fastRemove 15 = .ok (.isub, 1) := by decide +kernel
theorem d_AL_fastRemove_16 : decode b_AL_fastRemove 16 = .ok (.dup, 1) := by decide +kernel
theorem d_AL_fastRemove_17 : decode b_AL_fastRemove 17 = .ok (.istore_n 3, 1) := by decide +kernel
theorem d_AL_fastRemove_18 : decode b_AL_fastRemove 18 = .ok (.iload_n 2, 1) := by decide +kernel
theorem d_AL_fastRemove_19 : decode b_AL_fastRemove 19 = .ok (.if_icmp .le 15, 3) := by decide +kernel
theorem d_AL_fastRemove_22 : decode b_AL_fastRemove 22 = .ok (.aload_n 1, 1) := by decide +kernel
theorem d_AL_fastRemove_23 : decode b_AL_fastRemove 23 = .ok (.iload_n 2, 1) := by decide +kernel
theorem d_AL_fastRemove_24 : decode b_AL_fastRemove 24 = .ok (.iconst 1, 1) := by decide +kernel
theorem d_AL_fastRemove_25 : decode b_AL_fastRemove 25 = .ok (.iadd, 1) := by decide +kernel
theorem d_AL_fastRemove_26 : decode b_AL_fastRemove 26 = .ok (.aload_n 1, 1) := by decide +kernel
theorem d_AL_fastRemove_27 : decode b_AL_fastRemove 27 = .ok (.iload_n 2, 1) := by decide +kernel
theorem d_AL_fastRemove_28 : decode b_AL_fastRemove 28 = .ok (.iload_n 3, 1) := by decide +kernel
theorem d_AL_fastRemove_29 : decode b_AL_fastRemove 29 = .ok (.iload_n 2, 1) := by decide +kernel
theorem d_AL_fastRemove_30 : decode b_AL_fastRemove 30 = .ok (.isub, 1) := by decide +kernel
theorem d_AL_fastRemove_31 : decode b_AL_fastRemove 31 = .ok (.invokestatic 112, 3) := by decide +kernel
theorem d_AL_fastRemove_34 : decode b_AL_fastRemove 34 = .ok (.aload_n 1, 1) := by decide +kernel
theorem d_AL_fastRemove_35 : decode b_AL_fastRemove 35 = .ok (.aload_n 0, 1) := by decide +kernel
theorem d_AL_fastRemove_36 : decode b_AL_fastRemove 36 = .ok (.iload_n 3, 1) := by decide +kernel
theorem d_AL_fastRemove_37 : decode b_AL_fastRemove 37 = .ok (.dup_x1, 1) := by decide +kernel
theorem d_AL_fastRemove_38 : decode b_AL_fastRemove 38 = .ok (.putfield 48, 3) := by decide +kernel
theorem d_AL_fastRemove_41 : decode b_AL_fastRemove 41 = .ok (.aconst_null, 1) := by decide +kernel
theorem d_AL_fastRemove_42 : decode b_AL_fastRemove 42 = .ok (.aastore, 1) := by decide +kernel
theorem d_AL_fastRemove_43 : decode b_AL_fastRemove 43 = .ok (.return_, 1) := by decide +kernel
theorem d_T_init_0 : decode b_T_init 0 = .ok (.aload_n 0, 1) := by decide +kernel
theorem d_T_init_1 : decode b_T_init 1 = .ok (.invokespecial 3, 3) := by decide +kernel
theorem d_T_init_4 : decode b_T_init 4 = .ok (.aload_n 0, 1) := by decide +kernel
theorem d_T_init_5 : decode b_T_init 5 = .ok (.iload_n 2, 1) := by decide +kernel
theorem d_T_init_6 : decode b_T_init 6 = .ok (.putfield 9, 3) := by decide +kernel
theorem d_T_init_9 : decode b_T_init 9 = .ok (.aload_n 0, 1) := by decide +kernel
theorem d_T_init_10 : decode b_T_init 10 = .ok (.bipush 6, 2) := by decide +kernel
theorem d_T_init_12 : decode b_T_init 12 = .ok (.anewarray 15, 3) := by decide +kernel
theorem d_T_init_15 : decode b_T_init 15 = .ok (.putfield 17, 3) := by decide +kernel
theorem d_T_init_18 : decode b_T_init 18 = .ok (.iconst 0, 1) := by decide +kernel
theorem d_T_init_19 : decode b_T_init 19 = .ok (.istore 4, 2) := by decide +kernel
theorem d_T_init_21 : decode b_T_init 21 = .ok (.iload 4, 2) := by decide +kernel
theorem d_T_init_23 : decode b_T_init 23 = .ok (.bipush 6, 2) := by decide +kernel
theorem d_T_init_25 : decode b_T_init 25 = .ok (.if_icmp .ge 24, 3) := by decide +kernel
theorem d_T_init_28 : decode b_T_init 28 = .ok (.aload_n 0, 1) := by decide +kernel
theorem d_T_init_29 : decode b_T_init 29 = .ok (.getfield 17, 3) := by decide +kernel
theorem d_T_init_32 : decode b_T_init 32 = .ok (.iload 4, 2) := by decide +kernel
theorem d_T_init_34 : decode b_T_init 34 = .ok (.new 15, 3) := by decide +kernel
theorem d_T_init_37 : decode b_T_init 37 = .ok (.dup, 1) := by decide +kernel
theorem d_T_init_38 : decode b_T_init 38 = .ok (.aload_n 3, 1) := by decide +kernel
theorem d_T_init_39 : decode b_T_init 39 = .ok (.invokespecial 21, 3) := by decide +kernel
theorem d_T_init_42 : decode b_T_init 42 = .ok (.aastore, 1) := by decide +kernel
theorem d_T_init_43 : decode b_T_init 43 = .ok (.iinc 4 1, 3) := by decide +kernel
theorem d_T_init_46 : decode b_T_init 46 = .ok (.goto (-25), 3) := by decide +kernel
theorem d_T_init_49 : decode b_T_init 49 = .ok (.aload_n 0, 1) := by decide +kernel
theorem d_T_init_50 : decode b_T_init 50 = .ok (.getfield 17, 3) := by decide +kernel
theorem d_T_init_53 : decode b_T_init 53 = .ok (.iconst 0, 1) := by decide +kernel
theorem d_T_init_54 : decode b_T_init 54 = .ok (.aaload, 1) := by decide +kernel
theorem d_T_init_55 : decode b_T_init 55 = .ok (.iload_n 1, 1) := by decide +kernel
theorem d_T_init_56 : decode b_T_init 56 = .ok (.iload_n 2, 1) := by decide +kernel
theorem d_T_init_57 : decode b_T_init 57 = .ok (.aload_n 3, 1) := by decide +kernel
theorem d_T_init_58 : decode b_T_init 58 = .ok (.invokevirtual 24, 3) := by decide +kernel
theorem d_T_init_61 : decode b_T_init 61 = .ok (.aload_n 0, 1) := by decide +kernel
theorem d_T_init_62 : decode b_T_init 62 = .ok (.iconst 1, 1) := by decide +kernel
theorem d_T_init_63 : decode b_T_init 63 = .ok (.putfield 28, 3) := by decide +kernel
theorem d_T_init_66 : decode b_T_init 66 = .ok (.return_, 1) := by decide +kernel
theorem d_Fr_init_0 : decode b_Fr_init 0 = .ok (.aload_n 0, 1) := by decide +kernel
theorem d_Fr_init_1 : decode b_Fr_init 1 = .ok (.invokespecial 3, 3) := by decide +kernel
theorem d_Fr_init_4 : decode b_Fr_init 4 = .ok (.aload_n 0, 1) := by decide +kernel
theorem d_Fr_init_5 : decode b_Fr_init 5 = .ok (.aload_n 1, 1) := by decide +kernel
theorem d_Fr_init_6 : decode b_Fr_init 6 = .ok (.putfield 9, 3) := by decide +kernel
theorem d_Fr_init_9 : decode b_Fr_init 9 = .ok (.return_, 1) := by decide +kernel
theorem d_Fr_begin_0 : decode b_Fr_begin 0 = .ok (.aload_n 0, 1) := by decide +kernel
theorem d_Fr_begin_1 : decode b_Fr_begin 1 = .ok (.iload_n 1, 1) := by decide +kernel
theorem d_Fr_begin_2 : decode b_Fr_begin 2 = .ok (.putfield 15, 3) := by decide +kernel
theorem d_Fr_begin_5 : decode b_Fr_begin 5 = .ok (.aload_n 0, 1) := by decide +kernel
theorem d_Fr_begin_6 : decode b_Fr_begin 6 = .ok (.iload_n 2, 1) := by decide +kernel
theorem d_Fr_begin_7 : decode b_Fr_begin 7 = .ok (.putfield 19, 3) := by decide +kernel
theorem d_Fr_begin_10 : decode b_Fr_begin 10 = .ok (.aload_n 0, 1) := by decide +kernel
theorem d_Fr_begin_11 : decode b_Fr_begin 11 = .ok (.aload_n 3, 1) := by decide +kernel
theorem d_Fr_begin_12 : decode b_Fr_begin 12 = .ok (.putfield 9, 3) := by decide +kernel
theorem d_Fr_begin_15 : decode b_Fr_begin 15 = .ok (.aload_n 0, 1) := by decide +kernel
theorem d_Fr_begin_16 : decode b_Fr_begin 16 = .ok (.iconst 0, 1) := by decide +kernel
theorem d_Fr_begin_17 : decode b_Fr_begin 17 = .ok (.putfield 22, 3) := by decide +kernel
theorem d_Fr_begin_20 : decode b_Fr_begin 20 = .ok (.aload_n 0, 1) := by decide +kernel
theorem d_Fr_begin_21 : decode b_Fr_begin 21 = .ok (.iconst 0, 1) := by decide +kernel
theorem d_Fr_begin_22 : decode b_Fr_begin 22 = .ok (.putfield 25, 3) := by decide +kernel
theorem d_Fr_begin_25 : decode b_Fr_begin 25 = .ok (.return_, 1) := by decide +kernel
theorem d_T_top_0 : decode b_T_top 0 = .ok (.aload_n 0, 1) := by decide +kernel
theorem d_T_top_1 : decode b_T_top 1 = .ok (.getfield 17, 3) := by decide +kernel
theorem d_T_top_4 : decode b_T_top 4 = .ok (.aload_n 0, 1) := by decide +kernel
theorem d_T_top_5 : decode b_T_top 5 = .ok (.getfield 28, 3) := by decide +kernel
theorem d_T_top_8 : decode b_T_top 8 = .ok (.iconst 1, 1) := by decide +kernel
theorem d_T_top_9 : decode b_T_top 9 = .ok (.isub, 1) := by decide +kernel
theorem d_T_top_10 : decode b_T_top 10 = .ok (.aaload, 1) := by decide +kernel
theorem d_T_top_11 : decode b_T_top 11 = .ok (.areturn, 1) := by decide +kernel
theorem d_Fr_nextKind_0 : decode b_Fr_nextKind 0 = .ok (.aload_n 0, 1) := by decide +kernel
theorem d_Fr_nextKind_1 : decode b_Fr_nextKind 1 = .ok (.getfield 22, 3) := by decide +kernel
theorem d_Fr_nextKind_4 : decode b_Fr_nextKind 4 = .ok (.aload_n 0, 1) := by decide +kernel
theorem d_Fr_nextKind_5 : decode b_Fr_nextKind 5 = .ok (.getfield 9, 3) := by decide +kernel
theorem d_Fr_nextKind_8 : decode b_Fr_nextKind 8 = .ok (.getfield 28, 3) := by decide +kernel
theorem d_Fr_nextKind_11 : decode b_Fr_nextKind 11 = .ok (.if_icmp .ge 18, 3) := by decide +kernel
theorem d_Fr_nextKind_14 : decode b_Fr_nextKind 14 = .ok (.aload_n 0, 1) := by decide +kernel
theorem d_Fr_nextKind_15 : decode b_Fr_nextKind 15 = .ok (.getfield 9, 3) := by decide +kernel
theorem d_Fr_nextKind_18 : decode b_Fr_nextKind 18 = .ok (.getfield 33, 3) := by decide +kernel
theorem d_Fr_nextKind_21 : decode b_Fr_nextKind 21 = .ok (.aload_n 0, 1) := by decide +kernel
theorem d_Fr_nextKind_22 : decode b_Fr_nextKind 22 = .ok (.getfield 22, 3) := by decide +kernel
theorem d_Fr_nextKind_25 : decode b_Fr_nextKind 25 = .ok (.iaload, 1) := by decide +kernel
theorem d_Fr_nextKind_26 : decode b_Fr_nextKind 26 = .ok (.goto 4, 3) := by decide +kernel
theorem d_Fr_nextKind_29 : decode b_Fr_nextKind 29 = .ok (.iconst (-1), 1) := by decide +kernel
theorem d_Fr_nextKind_30 : decode b_Fr_nextKind 30 = .ok (.ireturn, 1) := by decide +kernel
theorem d_Fr_nextNumber_0 : decode b_Fr_nextNumber 0 = .ok (.aload_n 0, 1) := by decide +kernel
theorem d_Fr_nextNumber_1 : decode b_Fr_nextNumber 1 = .ok (.getfield 22, 3) := by decide +kernel
theorem d_Fr_nextNumber_4 : decode b_Fr_nextNumber 4 = .ok (.aload_n 0, 1) := by decide +kernel
theorem d_Fr_nextNumber_5 : decode b_Fr_nextNumber 5 = .ok (.getfield 9, 3) := by decide +kernel
theorem d_Fr_nextNumber_8 : decode b_Fr_nextNumber 8 = .ok (.getfield 28, 3) := by decide +kernel
theorem d_Fr_nextNumber_11 : decode b_Fr_nextNumber 11 = .ok (.if_icmp .ge 18, 3) := by decide +kernel
theorem d_Fr_nextNumber_14 : decode b_Fr_nextNumber 14 = .ok (.aload_n 0, 1) := by decide +kernel
theorem d_Fr_nextNumber_15 : decode b_Fr_nextNumber 15 = .ok (.getfield 9, 3) := by decide +kernel
theorem d_Fr_nextNumber_18 : decode b_Fr_nextNumber 18 = .ok (.getfield 37, 3) := by decide +kernel
theorem d_Fr_nextNumber_21 : decode b_Fr_nextNumber 21 = .ok (.aload_n 0, 1) := by decide +kernel
theorem d_Fr_nextNumber_22 : decode b_Fr_nextNumber 22 = .ok (.getfield 22, 3) := by decide +kernel
theorem d_Fr_nextNumber_25 : decode b_Fr_nextNumber 25 = .ok (.iaload, 1) := by decide +kernel
theorem d_Fr_nextNumber_26 : decode b_Fr_nextNumber 26 = .ok (.goto 4, 3) := by decide +kernel
theorem d_Fr_nextNumber_29 : decode b_Fr_nextNumber 29 = .ok (.iconst 0, 1) := by decide +kernel
theorem d_Fr_nextNumber_30 : decode b_Fr_nextNumber 30 = .ok (.ireturn, 1) := by decide +kernel
theorem d_Fr_repeatFrom_0 : decode b_Fr_repeatFrom 0 = .ok (.aload_n 0, 1) := by decide +kernel
theorem d_Fr_repeatFrom_1 : decode b_Fr_repeatFrom 1 = .ok (.getfield 25, 3) := by decide +kernel
theorem d_Fr_repeatFrom_4 : decode b_Fr_repeatFrom 4 = .ok (.iconst 3, 1) := by decide +kernel
theorem d_Fr_repeatFrom_5 : decode b_Fr_repeatFrom 5 = .ok (.if_icmp .ge 18, 3) := by decide +kernel
theorem d_Fr_repeatFrom_8 : decode b_Fr_repeatFrom 8 = .ok (.aload_n 0, 1) := by decide +kernel
theorem d_Fr_repeatFrom_9 : decode b_Fr_repeatFrom 9 = .ok (.dup, 1) := by decide +kernel
theorem d_Fr_repeatFrom_10 : decode b_Fr_repeatFrom 10 = .ok (.getfield 25, 3) := by decide +kernel
theorem d_Fr_repeatFrom_13 : decode b_Fr_repeatFrom 13 = .ok (.iconst 1, 1) := by decide +kernel
theorem d_Fr_repeatFrom_14 : decode b_Fr_repeatFrom 14 = .ok (.iadd, 1) := by decide +kernel
theorem d_Fr_repeatFrom_15 : decode b_Fr_repeatFrom 15 = .ok (.putfield 25, 3) := by decide +kernel
theorem d_Fr_repeatFrom_18 : decode b_Fr_repeatFrom 18 = .ok (.aload_n 0, 1) := by decide +kernel
theorem d_Fr_repeatFrom_19 : decode b_Fr_repeatFrom 19 = .ok (.iload_n 1, 1) := by decide +kernel
theorem d_Fr_repeatFrom_20 : decode b_Fr_repeatFrom 20 = .ok (.putfield 22, 3) := by decide +kernel
theorem d_Fr_repeatFrom_23 : decode b_Fr_repeatFrom 23 = .ok (.return_, 1) := by decide +kernel
theorem d_T_putOut_0 : decode b_T_putOut 0 = .ok (.aload_n 0, 1) := by decide +kernel
theorem d_T_putOut_1 : decode b_T_putOut 1 = .ok (.dup, 1) := by decide +kernel
theorem d_T_putOut_2 : decode b_T_putOut 2 = .ok (.getfield 31, 3) := by decide +kernel
theorem d_T_putOut_5 : decode b_T_putOut 5 = .ok (.iconst 1, 1) := by decide +kernel
theorem d_T_putOut_6 : decode b_T_putOut 6 = .ok (.iadd, 1) := by decide +kernel
theorem d_T_putOut_7 : decode b_T_putOut 7 = .ok (.putfield 31, 3) := by decide +kernel
theorem d_T_putOut_10 : decode b_T_putOut 10 = .ok (.aload_n 0, 1) := by decide +kernel
theorem d_T_putOut_11 : decode b_T_putOut 11 = .ok (.aload_n 0, 1) := by decide +kernel
theorem d_T_putOut_12 : decode b_T_putOut 12 = .ok (.getfield 34, 3) := by decide +kernel
theorem d_T_putOut_15 : decode b_T_putOut 15 = .ok (.putfield 37, 3) := by decide +kernel
theorem d_T_putOut_18 : decode b_T_putOut 18 = .ok (.return_, 1) := by decide +kernel
theorem d_ABC_init_0 : decode b_ABC_init 0 = .ok (.aload_n 0, 1) := by decide +kernel
theorem d_ABC_init_1 : decode b_ABC_init 1 = .ok (.invokespecial 1, 3) := by decide +kernel
theorem d_ABC_init_4 : decode b_ABC_init 4 = .ok (.return_, 1) := by decide +kernel
