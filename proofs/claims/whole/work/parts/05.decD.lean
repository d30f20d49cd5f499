theorem d_D_init_0 : decode b_D_init 0 = .ok (.aload_n 0, 1) := by decide +kernel
theorem d_D_init_1 : decode b_D_init 1 = .ok (.invokespecial 1, 3) := by decide +kernel
theorem d_D_init_4 : decode b_D_init 4 = .ok (.aload_n 0, 1) := by decide +kernel
theorem d_D_init_5 : decode b_D_init 5 = .ok (.new 7, 3) := by decide +kernel
theorem d_D_init_8 : decode b_D_init 8 = .ok (.dup, 1) := by decide +kernel
theorem d_D_init_9 : decode b_D_init 9 = .ok (.invokespecial 9, 3) := by decide +kernel
theorem d_D_init_12 : decode b_D_init 12 = .ok (.putfield 10, 3) := by decide +kernel
theorem d_D_init_15 : decode b_D_init 15 = .ok (.aload_n 0, 1) := by decide +kernel
theorem d_D_init_16 : decode b_D_init 16 = .ok (.new 7, 3) := by decide +kernel
theorem d_D_init_19 : decode b_D_init 19 = .ok (.dup, 1) := by decide +kernel
theorem d_D_init_20 : decode b_D_init 20 = .ok (.invokespecial 9, 3) := by decide +kernel
theorem d_D_init_23 : decode b_D_init 23 = .ok (.putfield 16, 3) := by decide +kernel
theorem d_D_init_26 : decode b_D_init 26 = .ok (.aload_n 0, 1) := by decide +kernel
theorem d_D_init_27 : decode b_D_init 27 = .ok (.new 7, 3) := by decide +kernel
theorem d_D_init_30 : decode b_D_init 30 = .ok (.dup, 1) := by decide +kernel
theorem d_D_init_31 : decode b_D_init 31 = .ok (.invokespecial 9, 3) := by decide +kernel
theorem d_D_init_34 : decode b_D_init 34 = .ok (.putfield 19, 3) := by decide +kernel
theorem d_D_init_37 : decode b_D_init 37 = .ok (.aload_n 0, 1) := by decide +kernel
theorem d_D_init_38 : decode b_D_init 38 = .ok (.new 22, 3) := by decide +kernel
theorem d_D_init_41 : decode b_D_init 41 = .ok (.dup, 1) := by decide +kernel
theorem d_D_init_42 : decode b_D_init 42 = .ok (.invokespecial 24, 3) := by decide +kernel
theorem d_D_init_45 : decode b_D_init 45 = .ok (.putfield 25, 3) := by decide +kernel
theorem d_D_init_48 : decode b_D_init 48 = .ok (.aload_n 0, 1) := by decide +kernel
theorem d_D_init_49 : decode b_D_init 49 = .ok (.iconst (-1), 1) := by decide +kernel
theorem d_D_init_50 : decode b_D_init 50 = .ok (.putfield 29, 3) := by decide +kernel
theorem d_D_init_53 : decode b_D_init 53 = .ok (.return_, 1) := by decide +kernel
theorem d_D_patches_0 : decode b_D_patches 0 = .ok (.aload_n 0, 1) := by decide +kernel
theorem d_D_patches_1 : decode b_D_patches 1 = .ok (.getfield 16, 3) := by decide +kernel
theorem d_D_patches_4 : decode b_D_patches 4 = .ok (.invokevirtual 44, 3) := by decide +kernel
theorem d_D_patches_7 : decode b_D_patches 7 = .ok (.ireturn, 1) := by decide +kernel
theorem d_D_target_0 : decode b_D_target 0 = .ok (.aload_n 0, 1) := by decide +kernel
theorem d_D_target_1 : decode b_D_target 1 = .ok (.getfield 29, 3) := by decide +kernel
theorem d_D_target_4 : decode b_D_target 4 = .ok (.ireturn, 1) := by decide +kernel
theorem d_D_function_0 : decode b_D_function 0 = .ok (.iload_n 1, 1) := by decide +kernel
theorem d_D_function_1 : decode b_D_function 1 = .ok (.invokestatic 33, 3) := by decide +kernel
theorem d_D_function_4 : decode b_D_function 4 = .ok (.ifCond .ne 13, 3) := by decide +kernel
theorem d_D_function_7 : decode b_D_function 7 = .ok (.new 37, 3) := by decide +kernel
theorem d_D_function_10 : decode b_D_function 10 = .ok (.dup, 1) := by decide +kernel
theorem d_D_function_11 : decode b_D_function 11 = .ok (.ldc 39, 2) := by decide +kernel
theorem d_D_function_13 : decode b_D_function 13 = .ok (.invokespecial 41, 3) := by decide +kernel
theorem d_D_function_16 : decode b_D_function 16 = .ok (.athrow, 1) := by decide +kernel
theorem d_D_function_17 : decode b_D_function 17 = .ok (.aload_n 0, 1) := by decide +kernel
theorem d_D_function_18 : decode b_D_function 18 = .ok (.getfield 10, 3) := by decide +kernel
theorem d_D_function_21 : decode b_D_function 21 = .ok (.invokevirtual 44, 3) := by decide +kernel
theorem d_D_function_24 : decode b_D_function 24 = .ok (.bipush 8, 2) := by decide +kernel
theorem d_D_function_26 : decode b_D_function 26 = .ok (.if_icmp .ge 10, 3) := by decide +kernel
theorem d_D_function_29 : decode b_D_function 29 = .ok (.aload_n 0, 1) := by decide +kernel
theorem d_D_function_30 : decode b_D_function 30 = .ok (.invokevirtual 48, 3) := by decide +kernel
theorem d_D_function_33 : decode b_D_function 33 = .ok (.ifCond .eq 13, 3) := by decide +kernel
theorem d_D_function_36 : decode b_D_function 36 = .ok (.new 52, 3) := by decide +kernel
theorem d_D_function_39 : decode b_D_function 39 = .ok (.dup, 1) := by decide +kernel
theorem d_D_function_40 : decode b_D_function 40 = .ok (.ldc 54, 2) := by decide +kernel
theorem d_D_function_42 : decode b_D_function 42 = .ok (.invokespecial 56, 3) := by decide +kernel
theorem d_D_function_45 : decode b_D_function 45 = .ok (.athrow, 1) := by decide +kernel
theorem d_D_function_46 : decode b_D_function 46 = .ok (.aload_n 0, 1) := by decide +kernel
theorem d_D_function_47 : decode b_D_function 47 = .ok (.getfield 10, 3) := by decide +kernel
theorem d_D_function_50 : decode b_D_function 50 = .ok (.new 57, 3) := by decide +kernel
theorem d_D_function_53 : decode b_D_function 53 = .ok (.dup, 1) := by decide +kernel
theorem d_D_function_54 : decode b_D_function 54 = .ok (.iload_n 1, 1) := by decide +kernel
theorem d_D_function_55 : decode b_D_function 55 = .ok (.invokespecial 59, 3) := by decide +kernel
theorem d_D_function_58 : decode b_D_function 58 = .ok (.invokevirtual 62, 3) := by decide +kernel
theorem d_D_function_61 : decode b_D_function 61 = .ok (.pop, 1) := by decide +kernel
theorem d_D_function_62 : decode b_D_function 62 = .ok (.aload_n 0, 1) := by decide +kernel
theorem d_D_function_63 : decode b_D_function 63 = .ok (.getfield 10, 3) := by decide +kernel
theorem d_D_function_66 : decode b_D_function 66 = .ok (.invokevirtual 44, 3) := by decide +kernel
theorem d_D_function_69 : decode b_D_function 69 = .ok (.iconst 1, 1) := by decide +kernel
theorem d_D_function_70 : decode b_D_function 70 = .ok (.isub, 1) := by decide +kernel
theorem d_D_function_71 : decode b_D_function 71 = .ok (.ireturn, 1) := by decide +kernel
theorem d_D_isSignature_0 : decode b_D_isSignature 0 = .ok (.iload_n 0, 1) := by decide +kernel
theorem d_D_isSignature_1 : decode b_D_isSignature 1 = .ok (.ifCond .lt 13, 3) := by decide +kernel
theorem d_D_isSignature_4 : decode b_D_isSignature 4 = .ok (.iload_n 0, 1) := by decide +kernel
theorem d_D_isSignature_5 : decode b_D_isSignature 5 = .ok (.bipush 9, 2) := by decide +kernel
theorem d_D_isSignature_7 : decode b_D_isSignature 7 = .ok (.if_icmp .gt 7, 3) := by decide +kernel
theorem d_D_isSignature_10 : decode b_D_isSignature 10 = .ok (.iconst 1, 1) := by decide +kernel
theorem d_D_isSignature_11 : decode b_D_isSignature 11 = .ok (.goto 4, 3) := by decide +kernel
theorem d_D_isSignature_14 : decode b_D_isSignature 14 = .ok (.iconst 0, 1) := by decide +kernel
theorem d_D_isSignature_15 : decode b_D_isSignature 15 = .ok (.ireturn, 1) := by decide +kernel
theorem d_D_isInUse_0 : decode b_D_isInUse 0 = .ok (.aload_n 0, 1) := by decide +kernel
theorem d_D_isInUse_1 : decode b_D_isInUse 1 = .ok (.getfield 19, 3) := by decide +kernel
theorem d_D_isInUse_4 : decode b_D_isInUse 4 = .ok (.invokevirtual 200, 3) := by decide +kernel
theorem d_D_isInUse_7 : decode b_D_isInUse 7 = .ok (.ifCond .eq 13, 3) := by decide +kernel
theorem d_D_isInUse_10 : decode b_D_isInUse 10 = .ok (.aload_n 0, 1) := by decide +kernel
theorem d_D_isInUse_11 : decode b_D_isInUse 11 = .ok (.getfield 16, 3) := by decide +kernel
theorem d_D_isInUse_14 : decode b_D_isInUse 14 = .ok (.invokevirtual 200, 3) := by decide +kernel
theorem d_D_isInUse_17 : decode b_D_isInUse 17 = .ok (.ifCond .ne 7, 3) := by decide +kernel
theorem d_D_isInUse_20 : decode b_D_isInUse 20 = .ok (.iconst 1, 1) := by decide +kernel
theorem d_D_isInUse_21 : decode b_D_isInUse 21 = .ok (.goto 4, 3) := by decide +kernel
theorem d_D_isInUse_24 : decode b_D_isInUse 24 = .ok (.iconst 0, 1) := by decide +kernel
theorem d_D_isInUse_25 : decode b_D_isInUse 25 = .ok (.ireturn, 1) := by decide +kernel
theorem d_D_operation_0 : decode b_D_operation 0 = .ok (.aload_n 0, 1) := by decide +kernel
theorem d_D_operation_1 : decode b_D_operation 1 = .ok (.iload_n 1, 1) := by decide +kernel
theorem d_D_operation_2 : decode b_D_operation 2 = .ok (.invokevirtual 66, 3) := by decide +kernel
theorem d_D_operation_5 : decode b_D_operation 5 = .ok (.ifCond .eq 18, 3) := by decide +kernel
theorem d_D_operation_8 : decode b_D_operation 8 = .ok (.iload_n 2, 1) := by decide +kernel
theorem d_D_operation_9 : decode b_D_operation 9 = .ok (.ifCond .eq 24, 3) := by decide +kernel
theorem d_D_operation_12 : decode b_D_operation 12 = .ok (.aload_n 0, 1) := by decide +kernel
theorem d_D_operation_13 : decode b_D_operation 13 = .ok (.getfield 25, 3) := by decide +kernel
theorem d_D_operation_16 : decode b_D_operation 16 = .ok (.iload_n 1, 1) := by decide +kernel
theorem d_D_operation_17 : decode b_D_operation 17 = .ok (.invokevirtual 69, 3) := by decide +kernel
theorem d_D_operation_20 : decode b_D_operation 20 = .ok (.ifCond .ne 13, 3) := by decide +kernel
theorem d_D_operation_23 : decode b_D_operation 23 = .ok (.new 37, 3) := by decide +kernel
theorem d_D_operation_26 : decode b_D_operation 26 = .ok (.dup, 1) := by decide +kernel
theorem d_D_operation_27 : decode b_D_operation 27 = .ok (.ldc 72, 2) := by decide +kernel
theorem d_D_operation_29 : decode b_D_operation 29 = .ok (.invokespecial 41, 3) := by decide +kernel
theorem d_D_operation_32 : decode b_D_operation 32 = .ok (.athrow, 1) := by decide +kernel
theorem d_D_operation_33 : decode b_D_operation 33 = .ok (.iload_n 2, 1) := by decide +kernel
theorem d_D_operation_34 : decode b_D_operation 34 = .ok (.ifCond .eq 15, 3) := by decide +kernel
theorem d_D_operation_37 : decode b_D_operation 37 = .ok (.aload_n 0, 1) := by decide +kernel
theorem d_D_operation_38 : decode b_D_operation 38 = .ok (.getfield 25, 3) := by decide +kernel
theorem d_D_operation_41 : decode b_D_operation 41 = .ok (.getfield 74, 3) := by decide +kernel
theorem d_D_operation_44 : decode b_D_operation 44 = .ok (.iload_n 1, 1) := by decide +kernel
theorem d_D_operation_45 : decode b_D_operation 45 = .ok (.aaload, 1) := by decide +kernel
theorem d_D_operation_46 : decode b_D_operation 46 = .ok (.goto 17, 3) := by decide +kernel
theorem d_D_operation_49 : decode b_D_operation 49 = .ok (.aload_n 0, 1) := by decide +kernel
theorem d_D_operation_50 : decode b_D_operation 50 = .ok (.getfield 10, 3) := by decide +kernel
theorem d_D_operation_53 : decode b_D_operation 53 = .ok (.iload_n 1, 1) := by decide +kernel
theorem d_D_operation_54 : decode b_D_operation 54 = .ok (.invokevirtual 78, 3) := by decide +kernel
theorem d_D_operation_57 : decode b_D_operation 57 = .ok (.checkcast 57, 3) := by decide +kernel
theorem d_D_operation_60 : decode b_D_operation 60 = .ok (.getfield 82, 3) := by decide +kernel
theorem d_D_operation_63 : decode b_D_operation 63 = .ok (.astore 5, 2) := by decide +kernel
theorem d_D_operation_65 : decode b_D_operation 65 = .ok (.aload_n 0, 1) := by decide +kernel
theorem d_D_operation_66 : decode b_D_operation 66 = .ok (.iload_n 3, 1) := by decide +kernel
theorem d_D_operation_67 : decode b_D_operation 67 = .ok (.iload 4, 2) := by decide +kernel
theorem d_D_operation_69 : decode b_D_operation 69 = .ok (.aload 5, 2) := by decide +kernel
theorem d_D_operation_71 : decode b_D_operation 71 = .ok (.getfield 86, 3) := by decide +kernel
theorem d_D_operation_74 : decode b_D_operation 74 = .ok (.invokevirtual 90, 3) := by decide +kernel
theorem d_D_operation_77 : decode b_D_operation 77 = .ok (.ifCond .ne 13, 3) := by decide +kernel
theorem d_D_operation_80 : decode b_D_operation 80 = .ok (.new 37, 3) := by decide +kernel
theorem d_D_operation_83 : decode b_D_operation 83 = .ok (.dup, 1) := by decide +kernel
theorem d_D_operation_84 : decode b_D_operation 84 = .ok (.ldc 94, 2) := by decide +kernel
theorem d_D_operation_86 : decode b_D_operation 86 = .ok (.invokespecial 41, 3) := by decide +kernel
theorem d_D_operation_89 : decode b_D_operation 89 = .ok (.athrow, 1) := by decide +kernel
theorem d_D_operation_90 : decode b_D_operation 90 = .ok (.iload_n 2, 1) := by decide +kernel
theorem d_D_operation_91 : decode b_D_operation 91 = .ok (.ifCond .ne 10, 3) := by decide +kernel
theorem d_D_operation_94 : decode b_D_operation 94 = .ok (.aload_n 0, 1) := by decide +kernel
theorem d_D_operation_95 : decode b_D_operation 95 = .ok (.invokevirtual 48, 3) := by decide +kernel
theorem d_D_operation_98 : decode b_D_operation 98 = .ok (.ifCond .ne 11, 3) := by decide +kernel
theorem d_D_operation_101 : decode b_D_operation 101 = .ok (.aload 5, 2) := by decide +kernel
theorem d_D_operation_103 : decode b_D_operation 103 = .ok (.invokevirtual 96, 3) := by decide +kernel
theorem d_D_operation_106 : decode b_D_operation 106 = .ok (.ifCond .eq 13, 3) := by decide +kernel
theorem d_D_operation_109 : decode b_D_operation 109 = .ok (.new 52, 3) := by decide +kernel
theorem d_D_operation_112 : decode b_D_operation 112 = .ok (.dup, 1) := by decide +kernel
theorem d_D_operation_113 : decode b_D_operation 113 = .ok (.ldc 99, 2) := by decide +kernel
theorem d_D_operation_115 : decode b_D_operation 115 = .ok (.invokespecial 56, 3) := by decide +kernel
theorem d_D_operation_118 : decode b_D_operation 118 = .ok (.athrow, 1) := by decide +kernel
theorem d_D_operation_119 : decode b_D_operation 119 = .ok (.aload 5, 2) := by decide +kernel
theorem d_D_operation_121 : decode b_D_operation 121 = .ok (.iload_n 3, 1) := by decide +kernel
theorem d_D_operation_122 : decode b_D_operation 122 = .ok (.iload 4, 2) := by decide +kernel
theorem d_D_operation_124 : decode b_D_operation 124 = .ok (.invokevirtual 101, 3) := by decide +kernel
theorem d_D_operation_127 : decode b_D_operation 127 = .ok (.aload 5, 2) := by decide +kernel
theorem d_D_operation_129 : decode b_D_operation 129 = .ok (.getfield 86, 3) := by decide +kernel
theorem d_D_operation_132 : decode b_D_operation 132 = .ok (.ireturn, 1) := by decide +kernel
theorem d_D_isFunction_0 : decode b_D_isFunction 0 = .ok (.iload_n 1, 1) := by decide +kernel
theorem d_D_isFunction_1 : decode b_D_isFunction 1 = .ok (.ifCond .lt 18, 3) := by decide +kernel
theorem d_D_isFunction_4 : decode b_D_isFunction 4 = .ok (.iload_n 1, 1) := by decide +kernel
theorem d_D_isFunction_5 : decode b_D_isFunction 5 = .ok (.aload_n 0, 1) := by decide +kernel
theorem d_D_isFunction_6 : decode b_D_isFunction 6 = .ok (.getfield 10, 3) := by decide +kernel
theorem d_D_isFunction_9 : decode b_D_isFunction 9 = .ok (.invokevirtual 44, 3) := by decide +kernel
theorem d_D_isFunction_12 : decode b_D_isFunction 12 = .ok (.if_icmp .ge 7, 3) := by decide +kernel
theorem d_D_isFunction_15 : decode b_D_isFunction 15 = .ok (.iconst 1, 1) := by decide +kernel
theorem d_D_isFunction_16 : decode b_D_isFunction 16 = .ok (.goto 4, 3) := by decide +kernel
theorem d_D_isFunction_19 : decode b_D_isFunction 19 = .ok (.iconst 0, 1) := by decide +kernel
theorem d_D_isFunction_20 : decode b_D_isFunction 20 = .ok (.ireturn, 1) := by decide +kernel
theorem d_D_isOperation_0 : decode b_D_isOperation 0 = .ok (.iload_n 1, 1) := by decide +kernel
theorem d_D_isOperation_1 : decode b_D_isOperation 1 = .ok (.tableswitch 80 0 5 #[39, 57, 78, 63, 78, 57], 39) := by decide +kernel
theorem d_D_isOperation_40 : decode b_D_isOperation 40 = .ok (.iload_n 2, 1) := by decide +kernel
theorem d_D_isOperation_41 : decode b_D_isOperation 41 = .ok (.bipush (-99), 2) := by decide +kernel
theorem d_D_isOperation_43 : decode b_D_isOperation 43 = .ok (.if_icmp .lt 13, 3) := by decide +kernel
theorem d_D_isOperation_46 : decode b_D_isOperation 46 = .ok (.iload_n 2, 1) := by decide +kernel
theorem d_D_isOperation_47 : decode b_D_isOperation 47 = .ok (.bipush 99, 2) := by decide +kernel
theorem d_D_isOperation_49 : decode b_D_isOperation 49 = .ok (.if_icmp .gt 7, 3) := by decide +kernel
theorem d_D_isOperation_52 : decode b_D_isOperation 52 = .ok (.iconst 1, 1) := by decide +kernel
theorem d_D_isOperation_53 : decode b_D_isOperation 53 = .ok (.goto 4, 3) := by decide +kernel
theorem d_D_isOperation_56 : decode b_D_isOperation 56 = .ok (.iconst 0, 1) := by decide +kernel
theorem d_D_isOperation_57 : decode b_D_isOperation 57 = .ok (.ireturn, 1) := by decide +kernel
theorem d_D_isOperation_58 : decode b_D_isOperation 58 = .ok (.aload_n 0, 1) := by decide +kernel
theorem d_D_isOperation_59 : decode b_D_isOperation 59 = .ok (.iload_n 2, 1) := by decide +kernel
theorem d_D_isOperation_60 : decode b_D_isOperation 60 = .ok (.invokevirtual 66, 3) := by decide +kernel
theorem d_D_isOperation_63 : decode b_D_isOperation 63 = .ok (.ireturn, 1) := by decide +kernel
theorem d_D_isOperation_64 : decode b_D_isOperation 64 = .ok (.iload_n 2, 1) := by decide +kernel
theorem d_D_isOperation_65 : decode b_D_isOperation 65 = .ok (.ifCond .lt 12, 3) := by decide +kernel
theorem d_D_isOperation_68 : decode b_D_isOperation 68 = .ok (.iload_n 2, 1) := by decide +kernel
theorem d_D_isOperation_69 : decode b_D_isOperation 69 = .ok (.iload_n 3, 1) := by decide +kernel
theorem d_D_isOperation_70 : decode b_D_isOperation 70 = .ok (.if_icmp .gt 7, 3) := by decide +kernel
theorem d_D_isOperation_73 : decode b_D_isOperation 73 = .ok (.iconst 1, 1) := by decide +kernel
theorem d_D_isOperation_74 : decode b_D_isOperation 74 = .ok (.goto 4, 3) := by decide +kernel
theorem d_D_isOperation_77 : decode b_D_isOperation 77 = .ok (.iconst 0, 1) := by decide +kernel
theorem d_D_isOperation_78 : decode b_D_isOperation 78 = .ok (.ireturn, 1) := by decide +kernel
theorem d_D_isOperation_79 : decode b_D_isOperation 79 = .ok (.iconst 1, 1) := by decide +kernel
theorem d_D_isOperation_80 : decode b_D_isOperation 80 = .ok (.ireturn, 1) := by decide +kernel
theorem d_D_isOperation_81 : decode b_D_isOperation 81 = .ok (.iconst 0, 1) := by decide +kernel
theorem d_D_isOperation_82 : decode b_D_isOperation 82 = .ok (.ireturn, 1) := by decide +kernel
theorem d_D_name_0 : decode b_D_name 0 = .ok (.aload_n 0, 1) := by decide +kernel
theorem d_D_name_1 : decode b_D_name 1 = .ok (.iload_n 1, 1) := by decide +kernel
theorem d_D_name_2 : decode b_D_name 2 = .ok (.invokevirtual 66, 3) := by decide +kernel
theorem d_D_name_5 : decode b_D_name 5 = .ok (.ifCond .eq 21, 3) := by decide +kernel
theorem d_D_name_8 : decode b_D_name 8 = .ok (.aload_n 0, 1) := by decide +kernel
theorem d_D_name_9 : decode b_D_name 9 = .ok (.getfield 25, 3) := by decide +kernel
theorem d_D_name_12 : decode b_D_name 12 = .ok (.iload_n 1, 1) := by decide +kernel
theorem d_D_name_13 : decode b_D_name 13 = .ok (.invokevirtual 69, 3) := by decide +kernel
theorem d_D_name_16 : decode b_D_name 16 = .ok (.ifCond .ne 10, 3) := by decide +kernel
theorem d_D_name_19 : decode b_D_name 19 = .ok (.iload_n 2, 1) := by decide +kernel
theorem d_D_name_20 : decode b_D_name 20 = .ok (.invokestatic 33, 3) := by decide +kernel
theorem d_D_name_23 : decode b_D_name 23 = .ok (.ifCond .ne 13, 3) := by decide +kernel
theorem d_D_name_26 : decode b_D_name 26 = .ok (.new 37, 3) := by decide +kernel
theorem d_D_name_29 : decode b_D_name 29 = .ok (.dup, 1) := by decide +kernel
theorem d_D_name_30 : decode b_D_name 30 = .ok (.ldc 105, 2) := by decide +kernel
theorem d_D_name_32 : decode b_D_name 32 = .ok (.invokespecial 41, 3) := by decide +kernel
theorem d_D_name_35 : decode b_D_name 35 = .ok (.athrow, 1) := by decide +kernel
theorem d_D_name_36 : decode b_D_name 36 = .ok (.aload_n 0, 1) := by decide +kernel
theorem d_D_name_37 : decode b_D_name 37 = .ok (.getfield 25, 3) := by decide +kernel
theorem d_D_name_40 : decode b_D_name 40 = .ok (.iload_n 1, 1) := by decide +kernel
theorem d_D_name_41 : decode b_D_name 41 = .ok (.iload_n 2, 1) := by decide +kernel
theorem d_D_name_42 : decode b_D_name 42 = .ok (.invokevirtual 107, 3) := by decide +kernel
theorem d_D_name_45 : decode b_D_name 45 = .ok (.aload_n 0, 1) := by decide +kernel
theorem d_D_name_46 : decode b_D_name 46 = .ok (.getfield 25, 3) := by decide +kernel
theorem d_D_name_49 : decode b_D_name 49 = .ok (.getfield 110, 3) := by decide +kernel
theorem d_D_name_52 : decode b_D_name 52 = .ok (.ireturn, 1) := by decide +kernel
theorem d_D_apply_0 : decode b_D_apply 0 = .ok (.aload_n 0, 1) := by decide +kernel
theorem d_D_apply_1 : decode b_D_apply 1 = .ok (.getfield 25, 3) := by decide +kernel
theorem d_D_apply_4 : decode b_D_apply 4 = .ok (.astore_n 1, 1) := by decide +kernel
theorem d_D_apply_5 : decode b_D_apply 5 = .ok (.aload_n 0, 1) := by decide +kernel
theorem d_D_apply_6 : decode b_D_apply 6 = .ok (.new 22, 3) := by decide +kernel
theorem d_D_apply_9 : decode b_D_apply 9 = .ok (.dup, 1) := by decide +kernel
theorem d_D_apply_10 : decode b_D_apply 10 = .ok (.invokespecial 24, 3) := by decide +kernel
theorem d_D_apply_13 : decode b_D_apply 13 = .ok (.putfield 25, 3) := by decide +kernel
theorem d_D_apply_16 : decode b_D_apply 16 = .ok (.aload_n 1, 1) := by decide +kernel
theorem d_D_apply_17 : decode b_D_apply 17 = .ok (.getfield 110, 3) := by decide +kernel
theorem d_D_apply_20 : decode b_D_apply 20 = .ok (.ifCond .ne 13, 3) := by decide +kernel
theorem d_D_apply_23 : decode b_D_apply 23 = .ok (.new 37, 3) := by decide +kernel
theorem d_D_apply_26 : decode b_D_apply 26 = .ok (.dup, 1) := by decide +kernel
theorem d_D_apply_27 : decode b_D_apply 27 = .ok (.ldc 113, 2) := by decide +kernel
theorem d_D_apply_29 : decode b_D_apply 29 = .ok (.invokespecial 41, 3) := by decide +kernel
theorem d_D_apply_32 : decode b_D_apply 32 = .ok (.athrow, 1) := by decide +kernel
theorem d_D_apply_33 : decode b_D_apply 33 = .ok (.aload_n 0, 1) := by decide +kernel
theorem d_D_apply_34 : decode b_D_apply 34 = .ok (.aload_n 1, 1) := by decide +kernel
theorem d_D_apply_35 : decode b_D_apply 35 = .ok (.invokevirtual 115, 3) := by decide +kernel
theorem d_D_apply_38 : decode b_D_apply 38 = .ok (.ifCond .ne 13, 3) := by decide +kernel
theorem d_D_apply_41 : decode b_D_apply 41 = .ok (.new 119, 3) := by decide +kernel
theorem d_D_apply_44 : decode b_D_apply 44 = .ok (.dup, 1) := by decide +kernel
theorem d_D_apply_45 : decode b_D_apply 45 = .ok (.ldc 121, 2) := by decide +kernel
theorem d_D_apply_47 : decode b_D_apply 47 = .ok (.invokespecial 123, 3) := by decide +kernel
theorem d_D_apply_50 : decode b_D_apply 50 = .ok (.athrow, 1) := by decide +kernel
theorem d_D_apply_51 : decode b_D_apply 51 = .ok (.aload_n 0, 1) := by decide +kernel
theorem d_D_apply_52 : decode b_D_apply 52 = .ok (.getfield 29, 3) := by decide +kernel
theorem d_D_apply_55 : decode b_D_apply 55 = .ok (.iconst (-1), 1) := by decide +kernel
theorem d_D_apply_56 : decode b_D_apply 56 = .ok (.if_icmp .ne 14, 3) := by decide +kernel
theorem d_D_apply_59 : decode b_D_apply 59 = .ok (.aload_n 0, 1) := by decide +kernel
theorem d_D_apply_60 : decode b_D_apply 60 = .ok (.getfield 16, 3) := by decide +kernel
theorem d_D_apply_63 : decode b_D_apply 63 = .ok (.invokevirtual 44, 3) := by decide +kernel
theorem d_D_apply_66 : decode b_D_apply 66 = .ok (.iconst 5, 1) := by decide +kernel
theorem d_D_apply_67 : decode b_D_apply 67 = .ok (.if_icmp .lt 13, 3) := by decide +kernel
theorem d_D_apply_70 : decode b_D_apply 70 = .ok (.new 52, 3) := by decide +kernel
theorem d_D_apply_73 : decode b_D_apply 73 = .ok (.dup, 1) := by decide +kernel
theorem d_D_apply_74 : decode b_D_apply 74 = .ok (.ldc 124, 2) := by decide +kernel
theorem d_D_apply_76 : decode b_D_apply 76 = .ok (.invokespecial 56, 3) := by decide +kernel
theorem d_D_apply_79 : decode b_D_apply 79 = .ok (.athrow, 1) := by decide +kernel
theorem d_D_apply_80 : decode b_D_apply 80 = .ok (.aload_n 0, 1) := by decide +kernel
theorem d_D_apply_81 : decode b_D_apply 81 = .ok (.getfield 16, 3) := by decide +kernel
theorem d_D_apply_84 : decode b_D_apply 84 = .ok (.aload_n 1, 1) := by decide +kernel
theorem d_D_apply_85 : decode b_D_apply 85 = .ok (.invokevirtual 62, 3) := by decide +kernel
theorem d_D_apply_88 : decode b_D_apply 88 = .ok (.pop, 1) := by decide +kernel
theorem d_D_apply_89 : decode b_D_apply 89 = .ok (.aload_n 0, 1) := by decide +kernel
theorem d_D_apply_90 : decode b_D_apply 90 = .ok (.getfield 16, 3) := by decide +kernel
theorem d_D_apply_93 : decode b_D_apply 93 = .ok (.invokevirtual 44, 3) := by decide +kernel
theorem d_D_apply_96 : decode b_D_apply 96 = .ok (.istore_n 2, 1) := by decide +kernel
theorem d_D_apply_97 : decode b_D_apply 97 = .ok (.aload_n 0, 1) := by decide +kernel
theorem d_D_apply_98 : decode b_D_apply 98 = .ok (.iload_n 2, 1) := by decide +kernel
theorem d_D_apply_99 : decode b_D_apply 99 = .ok (.invokevirtual 126, 3) := by decide +kernel
theorem d_D_apply_102 : decode b_D_apply 102 = .ok (.iload_n 2, 1) := by decide +kernel
theorem d_D_apply_103 : decode b_D_apply 103 = .ok (.ireturn, 1) := by decide +kernel
theorem d_D_keepsSignatures_0 : decode b_D_keepsSignatures 0 = .ok (.iconst 0, 1) := by decide +kernel
theorem d_D_keepsSignatures_1 : decode b_D_keepsSignatures 1 = .ok (.istore_n 2, 1) := by decide +kernel
theorem d_D_keepsSignatures_2 : decode b_D_keepsSignatures 2 = .ok (.iload_n 2, 1) := by decide +kernel
theorem d_D_keepsSignatures_3 : decode b_D_keepsSignatures 3 = .ok (.aload_n 0, 1) := by decide +kernel
theorem d_D_keepsSignatures_4 : decode b_D_keepsSignatures 4 = .ok (.getfield 10, 3) := by decide +kernel
theorem d_D_keepsSignatures_7 : decode b_D_keepsSignatures 7 = .ok (.invokevirtual 44, 3) := by decide +kernel
theorem d_D_keepsSignatures_10 : decode b_D_keepsSignatures 10 = .ok (.if_icmp .ge 42, 3) := by decide +kernel
theorem d_D_keepsSignatures_13 : decode b_D_keepsSignatures 13 = .ok (.aload_n 1, 1) := by decide +kernel
theorem d_D_keepsSignatures_14 : decode b_D_keepsSignatures 14 = .ok (.iload_n 2, 1) := by decide +kernel
theorem d_D_keepsSignatures_15 : decode b_D_keepsSignatures 15 = .ok (.invokevirtual 69, 3) := by decide +kernel
theorem d_D_keepsSignatures_18 : decode b_D_keepsSignatures 18 = .ok (.ifCond .eq 28, 3) := by decide +kernel
theorem d_D_keepsSignatures_21 : decode b_D_keepsSignatures 21 = .ok (.aload_n 1, 1) := by decide +kernel
theorem d_D_keepsSignatures_22 : decode b_D_keepsSignatures 22 = .ok (.getfield 203, 3) := by decide +kernel
theorem d_D_keepsSignatures_25 : decode b_D_keepsSignatures 25 = .ok (.iload_n 2, 1) := by decide +kernel
theorem d_D_keepsSignatures_26 : decode b_D_keepsSignatures 26 = .ok (.iaload, 1) := by decide +kernel
theorem d_D_keepsSignatures_27 : decode b_D_keepsSignatures 27 = .ok (.aload_n 0, 1) := by decide +kernel
theorem d_D_keepsSignatures_28 : decode b_D_keepsSignatures 28 = .ok (.getfield 10, 3) := by decide +kernel
theorem d_D_keepsSignatures_31 : decode b_D_keepsSignatures 31 = .ok (.iload_n 2, 1) := by decide +kernel
theorem d_D_keepsSignatures_32 : decode b_D_keepsSignatures 32 = .ok (.invokevirtual 78, 3) := by decide +kernel
theorem d_D_keepsSignatures_35 : decode b_D_keepsSignatures 35 = .ok (.checkcast 57, 3) := by decide +kernel
theorem d_D_keepsSignatures_38 : decode b_D_keepsSignatures 38 = .ok (.getfield 207, 3) := by decide +kernel
theorem d_D_keepsSignatures_41 : decode b_D_keepsSignatures 41 = .ok (.if_icmp .eq 5, 3) := by decide +kernel
theorem d_D_keepsSignatures_44 : decode b_D_keepsSignatures 44 = .ok (.iconst 0, 1) := by decide +kernel
theorem d_D_keepsSignatures_45 : decode b_D_keepsSignatures 45 = .ok (.ireturn, 1) := by decide +kernel
theorem d_D_keepsSignatures_46 : decode b_D_keepsSignatures 46 = .ok (.iinc 2 1, 3) := by decide +kernel
theorem d_D_keepsSignatures_49 : decode b_D_keepsSignatures 49 = .ok (.goto (-47), 3) := by decide +kernel
theorem d_D_keepsSignatures_52 : decode b_D_keepsSignatures 52 = .ok (.iconst 1, 1) := by decide +kernel
theorem d_D_keepsSignatures_53 : decode b_D_keepsSignatures 53 = .ok (.ireturn, 1) := by decide +kernel
theorem d_D_headFor_0 : decode b_D_headFor 0 = .ok (.aload_n 0, 1) := by decide +kernel
theorem d_D_headFor_1 : decode b_D_headFor 1 = .ok (.iload_n 1, 1) := by decide +kernel
theorem d_D_headFor_2 : decode b_D_headFor 2 = .ok (.putfield 29, 3) := by decide +kernel
theorem d_D_headFor_5 : decode b_D_headFor 5 = .ok (.aload_n 0, 1) := by decide +kernel
theorem d_D_headFor_6 : decode b_D_headFor 6 = .ok (.invokevirtual 156, 3) := by decide +kernel
theorem d_D_headFor_9 : decode b_D_headFor 9 = .ok (.return_, 1) := by decide +kernel
theorem d_D_endTransitionWhenAllAreOver_0 : decode b_D_endTransitionWhenAllAreOver 0 = .ok (.iconst 0, 1) := by decide +kernel
theorem d_D_endTransitionWhenAllAreOver_1 : decode b_D_endTransitionWhenAllAreOver 1 = .ok (.istore_n 1, 1) := by decide +kernel
theorem d_D_endTransitionWhenAllAreOver_2 : decode b_D_endTransitionWhenAllAreOver 2 = .ok (.iload_n 1, 1) := by decide +kernel
theorem d_D_endTransitionWhenAllAreOver_3 : decode b_D_endTransitionWhenAllAreOver 3 = .ok (.aload_n 0, 1) := by decide +kernel
theorem d_D_endTransitionWhenAllAreOver_4 : decode b_D_endTransitionWhenAllAreOver 4 = .ok (.getfield 19, 3) := by decide +kernel
theorem d_D_endTransitionWhenAllAreOver_7 : decode b_D_endTransitionWhenAllAreOver 7 = .ok (.invokevirtual 44, 3) := by decide +kernel
theorem d_D_endTransitionWhenAllAreOver_10 : decode b_D_endTransitionWhenAllAreOver 10 = .ok (.if_icmp .ge 31, 3) := by decide +kernel
theorem d_D_endTransitionWhenAllAreOver_13 : decode b_D_endTransitionWhenAllAreOver 13 = .ok (.aload_n 0, 1) := by decide +kernel
theorem d_D_endTransitionWhenAllAreOver_14 : decode b_D_endTransitionWhenAllAreOver 14 = .ok (.getfield 19, 3) := by decide +kernel
theorem d_D_endTransitionWhenAllAreOver_17 : decode b_D_endTransitionWhenAllAreOver 17 = .ok (.iload_n 1, 1) := by decide +kernel
theorem d_D_endTransitionWhenAllAreOver_18 : decode b_D_endTransitionWhenAllAreOver 18 = .ok (.invokevirtual 78, 3) := by decide +kernel
theorem d_D_endTransitionWhenAllAreOver_21 : decode b_D_endTransitionWhenAllAreOver 21 = .ok (.checkcast 135, 3) := by decide +kernel
theorem d_D_endTransitionWhenAllAreOver_24 : decode b_D_endTransitionWhenAllAreOver 24 = .ok (.getfield 153, 3) := by decide +kernel
theorem d_D_endTransitionWhenAllAreOver_27 : decode b_D_endTransitionWhenAllAreOver 27 = .ok (.aload_n 0, 1) := by decide +kernel
theorem d_D_endTransitionWhenAllAreOver_28 : decode b_D_endTransitionWhenAllAreOver 28 = .ok (.getfield 29, 3) := by decide +kernel
theorem d_D_endTransitionWhenAllAreOver_31 : decode b_D_endTransitionWhenAllAreOver 31 = .ok (.if_icmp .eq 4, 3) := by decide +kernel
theorem d_D_endTransitionWhenAllAreOver_34 : decode b_D_endTransitionWhenAllAreOver 34 = .ok (.return_, 1) := by decide +kernel
theorem d_D_endTransitionWhenAllAreOver_35 : decode b_D_endTransitionWhenAllAreOver 35 = .ok (.iinc 1 1, 3) := by decide +kernel
theorem d_D_endTransitionWhenAllAreOver_38 : decode b_D_endTransitionWhenAllAreOver 38 = .ok (.goto (-36), 3) := by decide +kernel
theorem d_D_endTransitionWhenAllAreOver_41 : decode b_D_endTransitionWhenAllAreOver 41 = .ok (.aload_n 0, 1) := by decide +kernel
theorem d_D_endTransitionWhenAllAreOver_42 : decode b_D_endTransitionWhenAllAreOver 42 = .ok (.getfield 29, 3) := by decide +kernel
theorem d_D_endTransitionWhenAllAreOver_45 : decode b_D_endTransitionWhenAllAreOver 45 = .ok (.aload_n 0, 1) := by decide +kernel
theorem d_D_endTransitionWhenAllAreOver_46 : decode b_D_endTransitionWhenAllAreOver 46 = .ok (.getfield 16, 3) := by decide +kernel
theorem d_D_endTransitionWhenAllAreOver_49 : decode b_D_endTransitionWhenAllAreOver 49 = .ok (.invokevirtual 44, 3) := by decide +kernel
theorem d_D_endTransitionWhenAllAreOver_52 : decode b_D_endTransitionWhenAllAreOver 52 = .ok (.if_icmp .ge 20, 3) := by decide +kernel
theorem d_D_endTransitionWhenAllAreOver_55 : decode b_D_endTransitionWhenAllAreOver 55 = .ok (.aload_n 0, 1) := by decide +kernel
theorem d_D_endTransitionWhenAllAreOver_56 : decode b_D_endTransitionWhenAllAreOver 56 = .ok (.getfield 16, 3) := by decide +kernel
theorem d_D_endTransitionWhenAllAreOver_59 : decode b_D_endTransitionWhenAllAreOver 59 = .ok (.aload_n 0, 1) := by decide +kernel
theorem d_D_endTransitionWhenAllAreOver_60 : decode b_D_endTransitionWhenAllAreOver 60 = .ok (.getfield 16, 3) := by decide +kernel
theorem d_D_endTransitionWhenAllAreOver_63 : decode b_D_endTransitionWhenAllAreOver 63 = .ok (.invokevirtual 44, 3) := by decide +kernel
theorem d_D_endTransitionWhenAllAreOver_66 : decode b_D_endTransitionWhenAllAreOver 66 = .ok (.iconst 1, 1) := by decide +kernel
theorem d_D_endTransitionWhenAllAreOver_67 : decode b_D_endTransitionWhenAllAreOver 67 = .ok (.isub, 1) := by decide +kernel
theorem d_D_endTransitionWhenAllAreOver_68 : decode b_D_endTransitionWhenAllAreOver 68 = .ok (.invokevirtual 210, 3) := by decide +kernel
theorem d_D_endTransitionWhenAllAreOver_71 : decode b_D_endTransitionWhenAllAreOver 71 = .ok (.pop, 1) := by decide +kernel
theorem d_D_endTransitionWhenAllAreOver_72 : decode b_D_endTransitionWhenAllAreOver 72 = .ok (.aload_n 0, 1) := by decide +kernel
theorem d_D_endTransitionWhenAllAreOver_73 : decode b_D_endTransitionWhenAllAreOver 73 = .ok (.iconst (-1), 1) := by decide +kernel
theorem d_D_endTransitionWhenAllAreOver_74 : decode b_D_endTransitionWhenAllAreOver 74 = .ok (.putfield 29, 3) := by decide +kernel
theorem d_D_endTransitionWhenAllAreOver_77 : decode b_D_endTransitionWhenAllAreOver 77 = .ok (.return_, 1) := by decide +kernel
theorem d_D_turn_0 : decode b_D_turn 0 = .ok (.aload_n 0, 1) := by decide +kernel
theorem d_D_turn_1 : decode b_D_turn 1 = .ok (.getfield 16, 3) := by decide +kernel
theorem d_D_turn_4 : decode b_D_turn 4 = .ok (.invokevirtual 44, 3) := by decide +kernel
theorem d_D_turn_7 : decode b_D_turn 7 = .ok (.istore_n 1, 1) := by decide +kernel
theorem d_D_turn_8 : decode b_D_turn 8 = .ok (.iload_n 1, 1) := by decide +kernel
theorem d_D_turn_9 : decode b_D_turn 9 = .ok (.ifCond .ne 13, 3) := by decide +kernel
theorem d_D_turn_12 : decode b_D_turn 12 = .ok (.new 52, 3) := by decide +kernel
theorem d_D_turn_15 : decode b_D_turn 15 = .ok (.dup, 1) := by decide +kernel
theorem d_D_turn_16 : decode b_D_turn 16 = .ok (.ldc 129, 2) := by decide +kernel
theorem d_D_turn_18 : decode b_D_turn 18 = .ok (.invokespecial 56, 3) := by decide +kernel
theorem d_D_turn_21 : decode b_D_turn 21 = .ok (.athrow, 1) := by decide +kernel
theorem d_D_turn_22 : decode b_D_turn 22 = .ok (.aload_n 0, 1) := by decide +kernel
theorem d_D_turn_23 : decode b_D_turn 23 = .ok (.getfield 29, 3) := by decide +kernel
theorem d_D_turn_26 : decode b_D_turn 26 = .ok (.iload_n 1, 1) := by decide +kernel
theorem d_D_turn_27 : decode b_D_turn 27 = .ok (.iconst 1, 1) := by decide +kernel
theorem d_D_turn_28 : decode b_D_turn 28 = .ok (.isub, 1) := by decide +kernel
theorem d_D_turn_29 : decode b_D_turn 29 = .ok (.if_icmp .ne 7, 3) := by decide +kernel
theorem d_D_turn_32 : decode b_D_turn 32 = .ok (.iconst 1, 1) := by decide +kernel
theorem d_D_turn_33 : decode b_D_turn 33 = .ok (.goto 4, 3) := by decide +kernel
theorem d_D_turn_36 : decode b_D_turn 36 = .ok (.iconst 0, 1) := by decide +kernel
theorem d_D_turn_37 : decode b_D_turn 37 = .ok (.istore_n 2, 1) := by decide +kernel
theorem d_D_turn_38 : decode b_D_turn 38 = .ok (.iload_n 2, 1) := by decide +kernel
theorem d_D_turn_39 : decode b_D_turn 39 = .ok (.ifCond .eq 7, 3) := by decide +kernel
theorem d_D_turn_42 : decode b_D_turn 42 = .ok (.iload_n 1, 1) := by decide +kernel
theorem d_D_turn_43 : decode b_D_turn 43 = .ok (.goto 6, 3) := by decide +kernel
theorem d_D_turn_46 : decode b_D_turn 46 = .ok (.iload_n 1, 1) := by decide +kernel
theorem d_D_turn_47 : decode b_D_turn 47 = .ok (.iconst 1, 1) := by decide +kernel
theorem d_D_turn_48 : decode b_D_turn 48 = .ok (.isub, 1) := by decide +kernel
theorem d_D_turn_49 : decode b_D_turn 49 = .ok (.istore_n 3, 1) := by decide +kernel
theorem d_D_turn_50 : decode b_D_turn 50 = .ok (.aload_n 0, 1) := by decide +kernel
theorem d_D_turn_51 : decode b_D_turn 51 = .ok (.iload_n 3, 1) := by decide +kernel
theorem d_D_turn_52 : decode b_D_turn 52 = .ok (.invokevirtual 126, 3) := by decide +kernel
theorem d_D_turn_55 : decode b_D_turn 55 = .ok (.iload_n 3, 1) := by decide +kernel
theorem d_D_turn_56 : decode b_D_turn 56 = .ok (.ireturn, 1) := by decide +kernel
theorem d_D_task_0 : decode b_D_task 0 = .ok (.aload_n 0, 1) := by decide +kernel
theorem d_D_task_1 : decode b_D_task 1 = .ok (.iload_n 1, 1) := by decide +kernel
theorem d_D_task_2 : decode b_D_task 2 = .ok (.invokevirtual 66, 3) := by decide +kernel
theorem d_D_task_5 : decode b_D_task 5 = .ok (.ifCond .ne 13, 3) := by decide +kernel
theorem d_D_task_8 : decode b_D_task 8 = .ok (.new 37, 3) := by decide +kernel
theorem d_D_task_11 : decode b_D_task 11 = .ok (.dup, 1) := by decide +kernel
theorem d_D_task_12 : decode b_D_task 12 = .ok (.ldc 131, 2) := by decide +kernel
theorem d_D_task_14 : decode b_D_task 14 = .ok (.invokespecial 41, 3) := by decide +kernel
theorem d_D_task_17 : decode b_D_task 17 = .ok (.athrow, 1) := by decide +kernel
theorem d_D_task_18 : decode b_D_task 18 = .ok (.aload_n 0, 1) := by decide +kernel
theorem d_D_task_19 : decode b_D_task 19 = .ok (.getfield 19, 3) := by decide +kernel
theorem d_D_task_22 : decode b_D_task 22 = .ok (.invokevirtual 44, 3) := by decide +kernel
theorem d_D_task_25 : decode b_D_task 25 = .ok (.iconst 4, 1) := by decide +kernel
theorem d_D_task_26 : decode b_D_task 26 = .ok (.if_icmp .lt 13, 3) := by decide +kernel
theorem d_D_task_29 : decode b_D_task 29 = .ok (.new 52, 3) := by decide +kernel
theorem d_D_task_32 : decode b_D_task 32 = .ok (.dup, 1) := by decide +kernel
theorem d_D_task_33 : decode b_D_task 33 = .ok (.ldc 133, 2) := by decide +kernel
theorem d_D_task_35 : decode b_D_task 35 = .ok (.invokespecial 56, 3) := by decide +kernel
theorem d_D_task_38 : decode b_D_task 38 = .ok (.athrow, 1) := by decide +kernel
theorem d_D_task_39 : decode b_D_task 39 = .ok (.aload_n 0, 1) := by decide +kernel
theorem d_D_task_40 : decode b_D_task 40 = .ok (.getfield 29, 3) := by decide +kernel
theorem d_D_task_43 : decode b_D_task 43 = .ok (.iconst (-1), 1) := by decide +kernel
theorem d_D_task_44 : decode b_D_task 44 = .ok (.if_icmp .ne 13, 3) := by decide +kernel
theorem d_D_task_47 : decode b_D_task 47 = .ok (.aload_n 0, 1) := by decide +kernel
theorem d_D_task_48 : decode b_D_task 48 = .ok (.getfield 16, 3) := by decide +kernel
theorem d_D_task_51 : decode b_D_task 51 = .ok (.invokevirtual 44, 3) := by decide +kernel
theorem d_D_task_54 : decode b_D_task 54 = .ok (.goto 7, 3) := by decide +kernel
theorem d_D_task_57 : decode b_D_task 57 = .ok (.aload_n 0, 1) := by decide +kernel
theorem d_D_task_58 : decode b_D_task 58 = .ok (.getfield 29, 3) := by decide +kernel
theorem d_D_task_61 : decode b_D_task 61 = .ok (.istore_n 2, 1) := by decide +kernel
theorem d_D_task_62 : decode b_D_task 62 = .ok (.aload_n 0, 1) := by decide +kernel
theorem d_D_task_63 : decode b_D_task 63 = .ok (.getfield 19, 3) := by decide +kernel
theorem d_D_task_66 : decode b_D_task 66 = .ok (.new 135, 3) := by decide +kernel
theorem d_D_task_69 : decode b_D_task 69 = .ok (.dup, 1) := by decide +kernel
theorem d_D_task_70 : decode b_D_task 70 = .ok (.iload_n 1, 1) := by decide +kernel
theorem d_D_task_71 : decode b_D_task 71 = .ok (.iload_n 2, 1) := by decide +kernel
theorem d_D_task_72 : decode b_D_task 72 = .ok (.aload_n 0, 1) := by decide +kernel
theorem d_D_task_73 : decode b_D_task 73 = .ok (.iload_n 1, 1) := by decide +kernel
theorem d_D_task_74 : decode b_D_task 74 = .ok (.iload_n 2, 1) := by decide +kernel
theorem d_D_task_75 : decode b_D_task 75 = .ok (.invokevirtual 137, 3) := by decide +kernel
theorem d_D_task_78 : decode b_D_task 78 = .ok (.invokespecial 141, 3) := by decide +kernel
theorem d_D_task_81 : decode b_D_task 81 = .ok (.invokevirtual 62, 3) := by decide +kernel
theorem d_D_task_84 : decode b_D_task 84 = .ok (.pop, 1) := by decide +kernel
theorem d_D_task_85 : decode b_D_task 85 = .ok (.aload_n 0, 1) := by decide +kernel
theorem d_D_task_86 : decode b_D_task 86 = .ok (.getfield 19, 3) := by decide +kernel
theorem d_D_task_89 : decode b_D_task 89 = .ok (.invokevirtual 44, 3) := by decide +kernel
theorem d_D_task_92 : decode b_D_task 92 = .ok (.iconst 1, 1) := by decide +kernel
theorem d_D_task_93 : decode b_D_task 93 = .ok (.isub, 1) := by decide +kernel
theorem d_D_task_94 : decode b_D_task 94 = .ok (.ireturn, 1) := by decide +kernel
theorem d_D_bodyAt_0 : decode b_D_bodyAt 0 = .ok (.aload_n 0, 1) := by decide +kernel
theorem d_D_bodyAt_1 : decode b_D_bodyAt 1 = .ok (.getfield 10, 3) := by decide +kernel
theorem d_D_bodyAt_4 : decode b_D_bodyAt 4 = .ok (.iload_n 1, 1) := by decide +kernel
theorem d_D_bodyAt_5 : decode b_D_bodyAt 5 = .ok (.invokevirtual 78, 3) := by decide +kernel
theorem d_D_bodyAt_8 : decode b_D_bodyAt 8 = .ok (.checkcast 57, 3) := by decide +kernel
theorem d_D_bodyAt_11 : decode b_D_bodyAt 11 = .ok (.getfield 82, 3) := by decide +kernel
theorem d_D_bodyAt_14 : decode b_D_bodyAt 14 = .ok (.astore_n 3, 1) := by decide +kernel
theorem d_D_bodyAt_15 : decode b_D_bodyAt 15 = .ok (.iconst 0, 1) := by decide +kernel
theorem d_D_bodyAt_16 : decode b_D_bodyAt 16 = .ok (.istore 4, 2) := by decide +kernel
theorem d_D_bodyAt_18 : decode b_D_bodyAt 18 = .ok (.iload 4, 2) := by decide +kernel
theorem d_D_bodyAt_20 : decode b_D_bodyAt 20 = .ok (.iload_n 2, 1) := by decide +kernel
theorem d_D_bodyAt_21 : decode b_D_bodyAt 21 = .ok (.if_icmp .ge 52, 3) := by decide +kernel
theorem d_D_bodyAt_24 : decode b_D_bodyAt 24 = .ok (.iload 4, 2) := by decide +kernel
theorem d_D_bodyAt_26 : decode b_D_bodyAt 26 = .ok (.aload_n 0, 1) := by decide +kernel
theorem d_D_bodyAt_27 : decode b_D_bodyAt 27 = .ok (.getfield 16, 3) := by decide +kernel
theorem d_D_bodyAt_30 : decode b_D_bodyAt 30 = .ok (.invokevirtual 44, 3) := by decide +kernel
theorem d_D_bodyAt_33 : decode b_D_bodyAt 33 = .ok (.if_icmp .ge 40, 3) := by decide +kernel
theorem d_D_bodyAt_36 : decode b_D_bodyAt 36 = .ok (.aload_n 0, 1) := by decide +kernel
theorem d_D_bodyAt_37 : decode b_D_bodyAt 37 = .ok (.getfield 16, 3) := by decide +kernel
theorem d_D_bodyAt_40 : decode b_D_bodyAt 40 = .ok (.iload 4, 2) := by decide +kernel
theorem d_D_bodyAt_42 : decode b_D_bodyAt 42 = .ok (.invokevirtual 78, 3) := by decide +kernel
theorem d_D_bodyAt_45 : decode b_D_bodyAt 45 = .ok (.checkcast 22, 3) := by decide +kernel
theorem d_D_bodyAt_48 : decode b_D_bodyAt 48 = .ok (.astore 5, 2) := by decide +kernel
theorem d_D_bodyAt_50 : decode b_D_bodyAt 50 = .ok (.aload 5, 2) := by decide +kernel
theorem d_D_bodyAt_52 : decode b_D_bodyAt 52 = .ok (.iload_n 1, 1) := by decide +kernel
theorem d_D_bodyAt_53 : decode b_D_bodyAt 53 = .ok (.invokevirtual 69, 3) := by decide +kernel
theorem d_D_bodyAt_56 : decode b_D_bodyAt 56 = .ok (.ifCond .eq 11, 3) := by decide +kernel
theorem d_D_bodyAt_59 : decode b_D_bodyAt 59 = .ok (.aload 5, 2) := by decide +kernel
theorem d_D_bodyAt_61 : decode b_D_bodyAt 61 = .ok (.getfield 74, 3) := by decide +kernel
theorem d_D_bodyAt_64 : decode b_D_bodyAt 64 = .ok (.iload_n 1, 1) := by decide +kernel
theorem d_D_bodyAt_65 : decode b_D_bodyAt 65 = .ok (.aaload, 1) := by decide +kernel
theorem d_D_bodyAt_66 : decode b_D_bodyAt 66 = .ok (.astore_n 3, 1) := by decide +kernel
theorem d_D_bodyAt_67 : decode b_D_bodyAt 67 = .ok (.iinc 4 1, 3) := by decide +kernel
theorem d_D_bodyAt_70 : decode b_D_bodyAt 70 = .ok (.goto (-52), 3) := by decide +kernel
theorem d_D_bodyAt_73 : decode b_D_bodyAt 73 = .ok (.aload_n 3, 1) := by decide +kernel
theorem d_D_bodyAt_74 : decode b_D_bodyAt 74 = .ok (.areturn, 1) := by decide +kernel
theorem d_D_step_0 : decode b_D_step 0 = .ok (.aload_n 0, 1) := by decide +kernel
theorem d_D_step_1 : decode b_D_step 1 = .ok (.iload_n 1, 1) := by decide +kernel
theorem d_D_step_2 : decode b_D_step 2 = .ok (.invokevirtual 144, 3) := by decide +kernel
theorem d_D_step_5 : decode b_D_step 5 = .ok (.ifCond .eq 14, 3) := by decide +kernel
theorem d_D_step_8 : decode b_D_step 8 = .ok (.iload_n 2, 1) := by decide +kernel
theorem d_D_step_9 : decode b_D_step 9 = .ok (.iconst 1, 1) := by decide +kernel
theorem d_D_step_10 : decode b_D_step 10 = .ok (.if_icmp .lt 9, 3) := by decide +kernel
theorem d_D_step_13 : decode b_D_step 13 = .ok (.iload_n 2, 1) := by decide +kernel
theorem d_D_step_14 : decode b_D_step 14 = .ok (.bipush 100, 2) := by decide +kernel
theorem d_D_step_16 : decode b_D_step 16 = .ok (.if_icmp .le 13, 3) := by decide +kernel
theorem d_D_step_19 : decode b_D_step 19 = .ok (.new 37, 3) := by decide +kernel
theorem d_D_step_22 : decode b_D_step 22 = .ok (.dup, 1) := by decide +kernel
theorem d_D_step_23 : decode b_D_step 23 = .ok (.ldc 147, 2) := by decide +kernel
theorem d_D_step_25 : decode b_D_step 25 = .ok (.invokespecial 41, 3) := by decide +kernel
theorem d_D_step_28 : decode b_D_step 28 = .ok (.athrow, 1) := by decide +kernel
theorem d_D_step_29 : decode b_D_step 29 = .ok (.aload_n 0, 1) := by decide +kernel
theorem d_D_step_30 : decode b_D_step 30 = .ok (.getfield 19, 3) := by decide +kernel
theorem d_D_step_33 : decode b_D_step 33 = .ok (.iload_n 1, 1) := by decide +kernel
theorem d_D_step_34 : decode b_D_step 34 = .ok (.invokevirtual 78, 3) := by decide +kernel
theorem d_D_step_37 : decode b_D_step 37 = .ok (.checkcast 135, 3) := by decide +kernel
theorem d_D_step_40 : decode b_D_step 40 = .ok (.astore_n 3, 1) := by decide +kernel
theorem d_D_step_41 : decode b_D_step 41 = .ok (.iconst 0, 1) := by decide +kernel
theorem d_D_step_42 : decode b_D_step 42 = .ok (.istore 4, 2) := by decide +kernel
theorem d_D_step_44 : decode b_D_step 44 = .ok (.iconst 1, 1) := by decide +kernel
theorem d_D_step_45 : decode b_D_step 45 = .ok (.istore 5, 2) := by decide +kernel
theorem d_D_step_47 : decode b_D_step 47 = .ok (.iload 5, 2) := by decide +kernel
theorem d_D_step_49 : decode b_D_step 49 = .ok (.iload_n 2, 1) := by decide +kernel
theorem d_D_step_50 : decode b_D_step 50 = .ok (.if_icmp .gt 38, 3) := by decide +kernel
theorem d_D_step_53 : decode b_D_step 53 = .ok (.aload_n 0, 1) := by decide +kernel
theorem d_D_step_54 : decode b_D_step 54 = .ok (.aload_n 3, 1) := by decide +kernel
theorem d_D_step_55 : decode b_D_step 55 = .ok (.invokevirtual 149, 3) := by decide +kernel
theorem d_D_step_58 : decode b_D_step 58 = .ok (.ifCond .eq 19, 3) := by decide +kernel
theorem d_D_step_61 : decode b_D_step 61 = .ok (.aload_n 3, 1) := by decide +kernel
theorem d_D_step_62 : decode b_D_step 62 = .ok (.aload_n 0, 1) := by decide +kernel
theorem d_D_step_63 : decode b_D_step 63 = .ok (.getfield 29, 3) := by decide +kernel
theorem d_D_step_66 : decode b_D_step 66 = .ok (.putfield 153, 3) := by decide +kernel
theorem d_D_step_69 : decode b_D_step 69 = .ok (.aload_n 0, 1) := by decide +kernel
theorem d_D_step_70 : decode b_D_step 70 = .ok (.invokevirtual 156, 3) := by decide +kernel
theorem d_D_step_73 : decode b_D_step 73 = .ok (.iload 5, 2) := by decide +kernel
theorem d_D_step_75 : decode b_D_step 75 = .ok (.istore 4, 2) := by decide +kernel
theorem d_D_step_77 : decode b_D_step 77 = .ok (.aload_n 0, 1) := by decide +kernel
theorem d_D_step_78 : decode b_D_step 78 = .ok (.aload_n 3, 1) := by decide +kernel
theorem d_D_step_79 : decode b_D_step 79 = .ok (.invokevirtual 159, 3) := by decide +kernel
theorem d_D_step_82 : decode b_D_step 82 = .ok (.iinc 5 1, 3) := by decide +kernel
theorem d_D_step_85 : decode b_D_step 85 = .ok (.goto (-38), 3) := by decide +kernel
theorem d_D_step_88 : decode b_D_step 88 = .ok (.iload 4, 2) := by decide +kernel
theorem d_D_step_90 : decode b_D_step 90 = .ok (.ireturn, 1) := by decide +kernel
theorem d_D_isTask_0 : decode b_D_isTask 0 = .ok (.iload_n 1, 1) := by decide +kernel
theorem d_D_isTask_1 : decode b_D_isTask 1 = .ok (.ifCond .lt 18, 3) := by decide +kernel
theorem d_D_isTask_4 : decode b_D_isTask 4 = .ok (.iload_n 1, 1) := by decide +kernel
theorem d_D_isTask_5 : decode b_D_isTask 5 = .ok (.aload_n 0, 1) := by decide +kernel
theorem d_D_isTask_6 : decode b_D_isTask 6 = .ok (.getfield 19, 3) := by decide +kernel
theorem d_D_isTask_9 : decode b_D_isTask 9 = .ok (.invokevirtual 44, 3) := by decide +kernel
theorem d_D_isTask_12 : decode b_D_isTask 12 = .ok (.if_icmp .ge 7, 3) := by decide +kernel
theorem d_D_isTask_15 : decode b_D_isTask 15 = .ok (.iconst 1, 1) := by decide +kernel
theorem d_D_isTask_16 : decode b_D_isTask 16 = .ok (.goto 4, 3) := by decide +kernel
theorem d_D_isTask_19 : decode b_D_isTask 19 = .ok (.iconst 0, 1) := by decide +kernel
theorem d_D_isTask_20 : decode b_D_isTask 20 = .ok (.ireturn, 1) := by decide +kernel
theorem d_D_canGoOver_0 : decode b_D_canGoOver 0 = .ok (.aload_n 0, 1) := by decide +kernel
theorem d_D_canGoOver_1 : decode b_D_canGoOver 1 = .ok (.getfield 29, 3) := by decide +kernel
theorem d_D_canGoOver_4 : decode b_D_canGoOver 4 = .ok (.iconst (-1), 1) := by decide +kernel
theorem d_D_canGoOver_5 : decode b_D_canGoOver 5 = .ok (.if_icmp .eq 14, 3) := by decide +kernel
theorem d_D_canGoOver_8 : decode b_D_canGoOver 8 = .ok (.aload_n 1, 1) := by decide +kernel
theorem d_D_canGoOver_9 : decode b_D_canGoOver 9 = .ok (.getfield 153, 3) := by decide +kernel
theorem d_D_canGoOver_12 : decode b_D_canGoOver 12 = .ok (.aload_n 0, 1) := by decide +kernel
theorem d_D_canGoOver_13 : decode b_D_canGoOver 13 = .ok (.getfield 29, 3) := by decide +kernel
theorem d_D_canGoOver_16 : decode b_D_canGoOver 16 = .ok (.if_icmp .ne 5, 3) := by decide +kernel
theorem d_D_canGoOver_19 : decode b_D_canGoOver 19 = .ok (.iconst 0, 1) := by decide +kernel
theorem d_D_canGoOver_20 : decode b_D_canGoOver 20 = .ok (.ireturn, 1) := by decide +kernel
theorem d_D_canGoOver_21 : decode b_D_canGoOver 21 = .ok (.aload_n 1, 1) := by decide +kernel
theorem d_D_canGoOver_22 : decode b_D_canGoOver 22 = .ok (.invokevirtual 213, 3) := by decide +kernel
theorem d_D_canGoOver_25 : decode b_D_canGoOver 25 = .ok (.invokevirtual 217, 3) := by decide +kernel
theorem d_D_canGoOver_28 : decode b_D_canGoOver 28 = .ok (.istore_n 2, 1) := by decide +kernel
theorem d_D_canGoOver_29 : decode b_D_canGoOver 29 = .ok (.iload_n 2, 1) := by decide +kernel
theorem d_D_canGoOver_30 : decode b_D_canGoOver 30 = .ok (.iconst (-1), 1) := by decide +kernel
theorem d_D_canGoOver_31 : decode b_D_canGoOver 31 = .ok (.if_icmp .ne 17, 3) := by decide +kernel
theorem d_D_canGoOver_34 : decode b_D_canGoOver 34 = .ok (.aload_n 1, 1) := by decide +kernel
theorem d_D_canGoOver_35 : decode b_D_canGoOver 35 = .ok (.getfield 168, 3) := by decide +kernel
theorem d_D_canGoOver_38 : decode b_D_canGoOver 38 = .ok (.iconst 1, 1) := by decide +kernel
theorem d_D_canGoOver_39 : decode b_D_canGoOver 39 = .ok (.if_icmp .ne 7, 3) := by decide +kernel
theorem d_D_canGoOver_42 : decode b_D_canGoOver 42 = .ok (.iconst 1, 1) := by decide +kernel
theorem d_D_canGoOver_43 : decode b_D_canGoOver 43 = .ok (.goto 4, 3) := by decide +kernel
theorem d_D_canGoOver_46 : decode b_D_canGoOver 46 = .ok (.iconst 0, 1) := by decide +kernel
theorem d_D_canGoOver_47 : decode b_D_canGoOver 47 = .ok (.ireturn, 1) := by decide +kernel
theorem d_D_canGoOver_48 : decode b_D_canGoOver 48 = .ok (.iload_n 2, 1) := by decide +kernel
theorem d_D_canGoOver_49 : decode b_D_canGoOver 49 = .ok (.iconst 2, 1) := by decide +kernel
theorem d_D_canGoOver_50 : decode b_D_canGoOver 50 = .ok (.if_icmp .ne 15, 3) := by decide +kernel
theorem d_D_canGoOver_53 : decode b_D_canGoOver 53 = .ok (.aload_n 0, 1) := by decide +kernel
theorem d_D_canGoOver_54 : decode b_D_canGoOver 54 = .ok (.aload_n 1, 1) := by decide +kernel
theorem d_D_canGoOver_55 : decode b_D_canGoOver 55 = .ok (.invokevirtual 220, 3) := by decide +kernel
theorem d_D_canGoOver_58 : decode b_D_canGoOver 58 = .ok (.ifCond .ne 7, 3) := by decide +kernel
theorem d_D_canGoOver_61 : decode b_D_canGoOver 61 = .ok (.iconst 1, 1) := by decide +kernel
theorem d_D_canGoOver_62 : decode b_D_canGoOver 62 = .ok (.goto 4, 3) := by decide +kernel
theorem d_D_canGoOver_65 : decode b_D_canGoOver 65 = .ok (.iconst 0, 1) := by decide +kernel
theorem d_D_canGoOver_66 : decode b_D_canGoOver 66 = .ok (.ireturn, 1) := by decide +kernel
theorem d_D_hasPatchedFrame_0 : decode b_D_hasPatchedFrame 0 = .ok (.iconst 0, 1) := by decide +kernel
theorem d_D_hasPatchedFrame_1 : decode b_D_hasPatchedFrame 1 = .ok (.istore_n 2, 1) := by decide +kernel
theorem d_D_hasPatchedFrame_2 : decode b_D_hasPatchedFrame 2 = .ok (.iload_n 2, 1) := by decide +kernel
theorem d_D_hasPatchedFrame_3 : decode b_D_hasPatchedFrame 3 = .ok (.aload_n 1, 1) := by decide +kernel
theorem d_D_hasPatchedFrame_4 : decode b_D_hasPatchedFrame 4 = .ok (.getfield 168, 3) := by decide +kernel
theorem d_D_hasPatchedFrame_7 : decode b_D_hasPatchedFrame 7 = .ok (.if_icmp .ge 27, 3) := by decide +kernel
theorem d_D_hasPatchedFrame_10 : decode b_D_hasPatchedFrame 10 = .ok (.aload_n 0, 1) := by decide +kernel
theorem d_D_hasPatchedFrame_11 : decode b_D_hasPatchedFrame 11 = .ok (.aload_n 1, 1) := by decide +kernel
theorem d_D_hasPatchedFrame_12 : decode b_D_hasPatchedFrame 12 = .ok (.getfield 185, 3) := by decide +kernel
theorem d_D_hasPatchedFrame_15 : decode b_D_hasPatchedFrame 15 = .ok (.iload_n 2, 1) := by decide +kernel
theorem d_D_hasPatchedFrame_16 : decode b_D_hasPatchedFrame 16 = .ok (.aaload, 1) := by decide +kernel
theorem d_D_hasPatchedFrame_17 : decode b_D_hasPatchedFrame 17 = .ok (.getfield 189, 3) := by decide +kernel
theorem d_D_hasPatchedFrame_20 : decode b_D_hasPatchedFrame 20 = .ok (.invokevirtual 223, 3) := by decide +kernel
theorem d_D_hasPatchedFrame_23 : decode b_D_hasPatchedFrame 23 = .ok (.ifCond .eq 5, 3) := by decide +kernel
theorem d_D_hasPatchedFrame_26 : decode b_D_hasPatchedFrame 26 = .ok (.iconst 1, 1) := by decide +kernel
theorem d_D_hasPatchedFrame_27 : decode b_D_hasPatchedFrame 27 = .ok (.ireturn, 1) := by decide +kernel
theorem d_D_hasPatchedFrame_28 : decode b_D_hasPatchedFrame 28 = .ok (.iinc 2 1, 3) := by decide +kernel
theorem d_D_hasPatchedFrame_31 : decode b_D_hasPatchedFrame 31 = .ok (.goto (-29), 3) := by decide +kernel
theorem d_D_hasPatchedFrame_34 : decode b_D_hasPatchedFrame 34 = .ok (.iconst 0, 1) := by decide +kernel
theorem d_D_hasPatchedFrame_35 : decode b_D_hasPatchedFrame 35 = .ok (.ireturn, 1) := by decide +kernel
theorem d_D_isInLatestPatch_0 : decode b_D_isInLatestPatch 0 = .ok (.aload_n 0, 1) := by decide +kernel
theorem d_D_isInLatestPatch_1 : decode b_D_isInLatestPatch 1 = .ok (.getfield 16, 3) := by decide +kernel
theorem d_D_isInLatestPatch_4 : decode b_D_isInLatestPatch 4 = .ok (.invokevirtual 200, 3) := by decide +kernel
theorem d_D_isInLatestPatch_7 : decode b_D_isInLatestPatch 7 = .ok (.ifCond .ne 33, 3) := by decide +kernel
theorem d_D_isInLatestPatch_10 : decode b_D_isInLatestPatch 10 = .ok (.aload_n 0, 1) := by decide +kernel
theorem d_D_isInLatestPatch_11 : decode b_D_isInLatestPatch 11 = .ok (.getfield 16, 3) := by decide +kernel
theorem d_D_isInLatestPatch_14 : decode b_D_isInLatestPatch 14 = .ok (.aload_n 0, 1) := by decide +kernel
theorem d_D_isInLatestPatch_15 : decode b_D_isInLatestPatch 15 = .ok (.getfield 16, 3) := by decide +kernel
theorem d_D_isInLatestPatch_18 : decode b_D_isInLatestPatch 18 = .ok (.invokevirtual 44, 3) := by decide +kernel
theorem d_D_isInLatestPatch_21 : decode b_D_isInLatestPatch 21 = .ok (.iconst 1, 1) := by decide +kernel
theorem d_D_isInLatestPatch_22 : decode b_D_isInLatestPatch 22 = .ok (.isub, 1) := by decide +kernel
theorem d_D_isInLatestPatch_23 : decode b_D_isInLatestPatch 23 = .ok (.invokevirtual 78, 3) := by decide +kernel
theorem d_D_isInLatestPatch_26 : decode b_D_isInLatestPatch 26 = .ok (.checkcast 22, 3) := by decide +kernel
theorem d_D_isInLatestPatch_29 : decode b_D_isInLatestPatch 29 = .ok (.iload_n 1, 1) := by decide +kernel
theorem d_D_isInLatestPatch_30 : decode b_D_isInLatestPatch 30 = .ok (.invokevirtual 69, 3) := by decide +kernel
theorem d_D_isInLatestPatch_33 : decode b_D_isInLatestPatch 33 = .ok (.ifCond .eq 7, 3) := by decide +kernel
theorem d_D_isInLatestPatch_36 : decode b_D_isInLatestPatch 36 = .ok (.iconst 1, 1) := by decide +kernel
theorem d_D_isInLatestPatch_37 : decode b_D_isInLatestPatch 37 = .ok (.goto 4, 3) := by decide +kernel
theorem d_D_isInLatestPatch_40 : decode b_D_isInLatestPatch 40 = .ok (.iconst 0, 1) := by decide +kernel
theorem d_D_isInLatestPatch_41 : decode b_D_isInLatestPatch 41 = .ok (.ireturn, 1) := by decide +kernel
theorem d_D_stepOnce_0 : decode b_D_stepOnce 0 = .ok (.aload_n 1, 1) := by decide +kernel
theorem d_D_stepOnce_1 : decode b_D_stepOnce 1 = .ok (.dup, 1) := by decide +kernel
theorem d_D_stepOnce_2 : decode b_D_stepOnce 2 = .ok (.getfield 171, 3) := by decide +kernel
theorem d_D_stepOnce_5 : decode b_D_stepOnce 5 = .ok (.iconst 1, 1) := by decide +kernel
theorem d_D_stepOnce_6 : decode b_D_stepOnce 6 = .ok (.iadd, 1) := by decide +kernel
theorem d_D_stepOnce_7 : decode b_D_stepOnce 7 = .ok (.putfield 171, 3) := by decide +kernel
theorem d_D_stepOnce_10 : decode b_D_stepOnce 10 = .ok (.aload_n 1, 1) := by decide +kernel
theorem d_D_stepOnce_11 : decode b_D_stepOnce 11 = .ok (.invokevirtual 213, 3) := by decide +kernel
theorem d_D_stepOnce_14 : decode b_D_stepOnce 14 = .ok (.astore_n 2, 1) := by decide +kernel
theorem d_D_stepOnce_15 : decode b_D_stepOnce 15 = .ok (.aload_n 2, 1) := by decide +kernel
theorem d_D_stepOnce_16 : decode b_D_stepOnce 16 = .ok (.invokevirtual 217, 3) := by decide +kernel
theorem d_D_stepOnce_19 : decode b_D_stepOnce 19 = .ok (.istore_n 3, 1) := by decide +kernel
theorem d_D_stepOnce_20 : decode b_D_stepOnce 20 = .ok (.iload_n 3, 1) := by decide +kernel
theorem d_D_stepOnce_21 : decode b_D_stepOnce 21 = .ok (.iconst (-1), 1) := by decide +kernel
theorem d_D_stepOnce_22 : decode b_D_stepOnce 22 = .ok (.if_icmp .ne 9, 3) := by decide +kernel
theorem d_D_stepOnce_25 : decode b_D_stepOnce 25 = .ok (.aload_n 0, 1) := by decide +kernel
theorem d_D_stepOnce_26 : decode b_D_stepOnce 26 = .ok (.aload_n 1, 1) := by decide +kernel
theorem d_D_stepOnce_27 : decode b_D_stepOnce 27 = .ok (.invokevirtual 226, 3) := by decide +kernel
theorem d_D_stepOnce_30 : decode b_D_stepOnce 30 = .ok (.return_, 1) := by decide +kernel
theorem d_D_stepOnce_31 : decode b_D_stepOnce 31 = .ok (.aload_n 2, 1) := by decide +kernel
theorem d_D_stepOnce_32 : decode b_D_stepOnce 32 = .ok (.invokevirtual 229, 3) := by decide +kernel
theorem d_D_stepOnce_35 : decode b_D_stepOnce 35 = .ok (.istore 4, 2) := by decide +kernel
theorem d_D_stepOnce_37 : decode b_D_stepOnce 37 = .ok (.aload_n 2, 1) := by decide +kernel
theorem d_D_stepOnce_38 : decode b_D_stepOnce 38 = .ok (.dup, 1) := by decide +kernel
theorem d_D_stepOnce_39 : decode b_D_stepOnce 39 = .ok (.getfield 195, 3) := by decide +kernel
theorem d_D_stepOnce_42 : decode b_D_stepOnce 42 = .ok (.iconst 1, 1) := by decide +kernel
theorem d_D_stepOnce_43 : decode b_D_stepOnce 43 = .ok (.iadd, 1) := by decide +kernel
theorem d_D_stepOnce_44 : decode b_D_stepOnce 44 = .ok (.putfield 195, 3) := by decide +kernel
theorem d_D_stepOnce_47 : decode b_D_stepOnce 47 = .ok (.iload_n 3, 1) := by decide +kernel
theorem d_D_stepOnce_48 : decode b_D_stepOnce 48 = .ok (.tableswitch 99 0 5 #[40, 54, 99, 64, 73, 80], 40) := by decide +kernel
theorem d_D_stepOnce_88 : decode b_D_stepOnce 88 = .ok (.aload_n 1, 1) := by decide +kernel
theorem d_D_stepOnce_89 : decode b_D_stepOnce 89 = .ok (.dup, 1) := by decide +kernel
theorem d_D_stepOnce_90 : decode b_D_stepOnce 90 = .ok (.getfield 165, 3) := by decide +kernel
theorem d_D_stepOnce_93 : decode b_D_stepOnce 93 = .ok (.iload 4, 2) := by decide +kernel
theorem d_D_stepOnce_95 : decode b_D_stepOnce 95 = .ok (.iadd, 1) := by decide +kernel
theorem d_D_stepOnce_96 : decode b_D_stepOnce 96 = .ok (.putfield 165, 3) := by decide +kernel
theorem d_D_stepOnce_99 : decode b_D_stepOnce 99 = .ok (.goto 48, 3) := by decide +kernel
theorem d_D_stepOnce_102 : decode b_D_stepOnce 102 = .ok (.aload_n 0, 1) := by decide +kernel
theorem d_D_stepOnce_103 : decode b_D_stepOnce 103 = .ok (.aload_n 1, 1) := by decide +kernel
theorem d_D_stepOnce_104 : decode b_D_stepOnce 104 = .ok (.iload 4, 2) := by decide +kernel
theorem d_D_stepOnce_106 : decode b_D_stepOnce 106 = .ok (.invokevirtual 232, 3) := by decide +kernel
theorem d_D_stepOnce_109 : decode b_D_stepOnce 109 = .ok (.goto 38, 3) := by decide +kernel
theorem d_D_stepOnce_112 : decode b_D_stepOnce 112 = .ok (.aload_n 2, 1) := by decide +kernel
theorem d_D_stepOnce_113 : decode b_D_stepOnce 113 = .ok (.iload 4, 2) := by decide +kernel
theorem d_D_stepOnce_115 : decode b_D_stepOnce 115 = .ok (.invokevirtual 236, 3) := by decide +kernel
theorem d_D_stepOnce_118 : decode b_D_stepOnce 118 = .ok (.goto 29, 3) := by decide +kernel
theorem d_D_stepOnce_121 : decode b_D_stepOnce 121 = .ok (.aload_n 1, 1) := by decide +kernel
theorem d_D_stepOnce_122 : decode b_D_stepOnce 122 = .ok (.invokevirtual 239, 3) := by decide +kernel
theorem d_D_stepOnce_125 : decode b_D_stepOnce 125 = .ok (.goto 22, 3) := by decide +kernel
theorem d_D_stepOnce_128 : decode b_D_stepOnce 128 = .ok (.aload_n 1, 1) := by decide +kernel
theorem d_D_stepOnce_129 : decode b_D_stepOnce 129 = .ok (.getfield 165, 3) := by decide +kernel
theorem d_D_stepOnce_132 : decode b_D_stepOnce 132 = .ok (.iconst 2, 1) := by decide +kernel
theorem d_D_stepOnce_133 : decode b_D_stepOnce 133 = .ok (.irem, 1) := by decide +kernel
theorem d_D_stepOnce_134 : decode b_D_stepOnce 134 = .ok (.ifCond .ne 13, 3) := by decide +kernel
theorem d_D_stepOnce_137 : decode b_D_stepOnce 137 = .ok (.aload_n 0, 1) := by decide +kernel
theorem d_D_stepOnce_138 : decode b_D_stepOnce 138 = .ok (.aload_n 1, 1) := by decide +kernel
theorem d_D_stepOnce_139 : decode b_D_stepOnce 139 = .ok (.iload 4, 2) := by decide +kernel
theorem d_D_stepOnce_141 : decode b_D_stepOnce 141 = .ok (.invokevirtual 232, 3) := by decide +kernel
theorem d_D_stepOnce_144 : decode b_D_stepOnce 144 = .ok (.goto 3, 3) := by decide +kernel
theorem d_D_stepOnce_147 : decode b_D_stepOnce 147 = .ok (.return_, 1) := by decide +kernel
theorem d_D_leaveTopFrame_0 : decode b_D_leaveTopFrame 0 = .ok (.aload_n 1, 1) := by decide +kernel
theorem d_D_leaveTopFrame_1 : decode b_D_leaveTopFrame 1 = .ok (.getfield 168, 3) := by decide +kernel
theorem d_D_leaveTopFrame_4 : decode b_D_leaveTopFrame 4 = .ok (.iconst 1, 1) := by decide +kernel
theorem d_D_leaveTopFrame_5 : decode b_D_leaveTopFrame 5 = .ok (.if_icmp .le 16, 3) := by decide +kernel
theorem d_D_leaveTopFrame_8 : decode b_D_leaveTopFrame 8 = .ok (.aload_n 1, 1) := by decide +kernel
theorem d_D_leaveTopFrame_9 : decode b_D_leaveTopFrame 9 = .ok (.dup, 1) := by decide +kernel
theorem d_D_leaveTopFrame_10 : decode b_D_leaveTopFrame 10 = .ok (.getfield 168, 3) := by decide +kernel
theorem d_D_leaveTopFrame_13 : decode b_D_leaveTopFrame 13 = .ok (.iconst 1, 1) := by decide +kernel
theorem d_D_leaveTopFrame_14 : decode b_D_leaveTopFrame 14 = .ok (.isub, 1) := by decide +kernel
theorem d_D_leaveTopFrame_15 : decode b_D_leaveTopFrame 15 = .ok (.putfield 168, 3) := by decide +kernel
theorem d_D_leaveTopFrame_18 : decode b_D_leaveTopFrame 18 = .ok (.goto 32, 3) := by decide +kernel
theorem d_D_leaveTopFrame_21 : decode b_D_leaveTopFrame 21 = .ok (.aload_n 1, 1) := by decide +kernel
theorem d_D_leaveTopFrame_22 : decode b_D_leaveTopFrame 22 = .ok (.invokevirtual 213, 3) := by decide +kernel
theorem d_D_leaveTopFrame_25 : decode b_D_leaveTopFrame 25 = .ok (.getfield 189, 3) := by decide +kernel
theorem d_D_leaveTopFrame_28 : decode b_D_leaveTopFrame 28 = .ok (.istore_n 2, 1) := by decide +kernel
theorem d_D_leaveTopFrame_29 : decode b_D_leaveTopFrame 29 = .ok (.aload_n 1, 1) := by decide +kernel
theorem d_D_leaveTopFrame_30 : decode b_D_leaveTopFrame 30 = .ok (.invokevirtual 213, 3) := by decide +kernel
theorem d_D_leaveTopFrame_33 : decode b_D_leaveTopFrame 33 = .ok (.iload_n 2, 1) := by decide +kernel
theorem d_D_leaveTopFrame_34 : decode b_D_leaveTopFrame 34 = .ok (.aload_n 1, 1) := by decide +kernel
theorem d_D_leaveTopFrame_35 : decode b_D_leaveTopFrame 35 = .ok (.getfield 153, 3) := by decide +kernel
theorem d_D_leaveTopFrame_38 : decode b_D_leaveTopFrame 38 = .ok (.aload_n 0, 1) := by decide +kernel
theorem d_D_leaveTopFrame_39 : decode b_D_leaveTopFrame 39 = .ok (.iload_n 2, 1) := by decide +kernel
theorem d_D_leaveTopFrame_40 : decode b_D_leaveTopFrame 40 = .ok (.aload_n 1, 1) := by decide +kernel
theorem d_D_leaveTopFrame_41 : decode b_D_leaveTopFrame 41 = .ok (.getfield 153, 3) := by decide +kernel
theorem d_D_leaveTopFrame_44 : decode b_D_leaveTopFrame 44 = .ok (.invokevirtual 137, 3) := by decide +kernel
theorem d_D_leaveTopFrame_47 : decode b_D_leaveTopFrame 47 = .ok (.invokevirtual 242, 3) := by decide +kernel
theorem d_D_leaveTopFrame_50 : decode b_D_leaveTopFrame 50 = .ok (.return_, 1) := by decide +kernel
theorem d_D_enter_0 : decode b_D_enter 0 = .ok (.aload_n 1, 1) := by decide +kernel
theorem d_D_enter_1 : decode b_D_enter 1 = .ok (.getfield 168, 3) := by decide +kernel
theorem d_D_enter_4 : decode b_D_enter 4 = .ok (.bipush 6, 2) := by decide +kernel
theorem d_D_enter_6 : decode b_D_enter 6 = .ok (.if_icmp .ge 34, 3) := by decide +kernel
theorem d_D_enter_9 : decode b_D_enter 9 = .ok (.aload_n 1, 1) := by decide +kernel
theorem d_D_enter_10 : decode b_D_enter 10 = .ok (.dup, 1) := by decide +kernel
theorem d_D_enter_11 : decode b_D_enter 11 = .ok (.getfield 168, 3) := by decide +kernel
theorem d_D_enter_14 : decode b_D_enter 14 = .ok (.iconst 1, 1) := by decide +kernel
theorem d_D_enter_15 : decode b_D_enter 15 = .ok (.iadd, 1) := by decide +kernel
theorem d_D_enter_16 : decode b_D_enter 16 = .ok (.putfield 168, 3) := by decide +kernel
theorem d_D_enter_19 : decode b_D_enter 19 = .ok (.aload_n 1, 1) := by decide +kernel
theorem d_D_enter_20 : decode b_D_enter 20 = .ok (.invokevirtual 213, 3) := by decide +kernel
theorem d_D_enter_23 : decode b_D_enter 23 = .ok (.iload_n 2, 1) := by decide +kernel
theorem d_D_enter_24 : decode b_D_enter 24 = .ok (.aload_n 1, 1) := by decide +kernel
theorem d_D_enter_25 : decode b_D_enter 25 = .ok (.getfield 153, 3) := by decide +kernel
theorem d_D_enter_28 : decode b_D_enter 28 = .ok (.aload_n 0, 1) := by decide +kernel
theorem d_D_enter_29 : decode b_D_enter 29 = .ok (.iload_n 2, 1) := by decide +kernel
theorem d_D_enter_30 : decode b_D_enter 30 = .ok (.aload_n 1, 1) := by decide +kernel
theorem d_D_enter_31 : decode b_D_enter 31 = .ok (.getfield 153, 3) := by decide +kernel
theorem d_D_enter_34 : decode b_D_enter 34 = .ok (.invokevirtual 137, 3) := by decide +kernel
theorem d_D_enter_37 : decode b_D_enter 37 = .ok (.invokevirtual 242, 3) := by decide +kernel
theorem d_D_enter_40 : decode b_D_enter 40 = .ok (.return_, 1) := by decide +kernel
theorem d_D_look_0 : decode b_D_look 0 = .ok (.aload_n 0, 1) := by decide +kernel
theorem d_D_look_1 : decode b_D_look 1 = .ok (.iload_n 1, 1) := by decide +kernel
theorem d_D_look_2 : decode b_D_look 2 = .ok (.invokevirtual 144, 3) := by decide +kernel
theorem d_D_look_5 : decode b_D_look 5 = .ok (.ifCond .eq 12, 3) := by decide +kernel
theorem d_D_look_8 : decode b_D_look 8 = .ok (.iload_n 2, 1) := by decide +kernel
theorem d_D_look_9 : decode b_D_look 9 = .ok (.ifCond .lt 8, 3) := by decide +kernel
theorem d_D_look_12 : decode b_D_look 12 = .ok (.iload_n 2, 1) := by decide +kernel
theorem d_D_look_13 : decode b_D_look 13 = .ok (.iconst 5, 1) := by decide +kernel
theorem d_D_look_14 : decode b_D_look 14 = .ok (.if_icmp .le 13, 3) := by decide +kernel
theorem d_D_look_17 : decode b_D_look 17 = .ok (.new 37, 3) := by decide +kernel
theorem d_D_look_20 : decode b_D_look 20 = .ok (.dup, 1) := by decide +kernel
theorem d_D_look_21 : decode b_D_look 21 = .ok (.ldc 163, 2) := by decide +kernel
theorem d_D_look_23 : decode b_D_look 23 = .ok (.invokespecial 41, 3) := by decide +kernel
theorem d_D_look_26 : decode b_D_look 26 = .ok (.athrow, 1) := by decide +kernel
theorem d_D_look_27 : decode b_D_look 27 = .ok (.aload_n 0, 1) := by decide +kernel
theorem d_D_look_28 : decode b_D_look 28 = .ok (.getfield 19, 3) := by decide +kernel
theorem d_D_look_31 : decode b_D_look 31 = .ok (.iload_n 1, 1) := by decide +kernel
theorem d_D_look_32 : decode b_D_look 32 = .ok (.invokevirtual 78, 3) := by decide +kernel
theorem d_D_look_35 : decode b_D_look 35 = .ok (.checkcast 135, 3) := by decide +kernel
theorem d_D_look_38 : decode b_D_look 38 = .ok (.astore_n 3, 1) := by decide +kernel
theorem d_D_look_39 : decode b_D_look 39 = .ok (.iload_n 2, 1) := by decide +kernel
theorem d_D_look_40 : decode b_D_look 40 = .ok (.tableswitch 61 0 4 #[36, 41, 46, 51, 56], 36) := by decide +kernel
theorem d_D_look_76 : decode b_D_look 76 = .ok (.aload_n 3, 1) := by decide +kernel
theorem d_D_look_77 : decode b_D_look 77 = .ok (.getfield 153, 3) := by decide +kernel
theorem d_D_look_80 : decode b_D_look 80 = .ok (.ireturn, 1) := by decide +kernel
theorem d_D_look_81 : decode b_D_look 81 = .ok (.aload_n 3, 1) := by decide +kernel
theorem d_D_look_82 : decode b_D_look 82 = .ok (.getfield 165, 3) := by decide +kernel
theorem d_D_look_85 : decode b_D_look 85 = .ok (.ireturn, 1) := by decide +kernel
theorem d_D_look_86 : decode b_D_look 86 = .ok (.aload_n 3, 1) := by decide +kernel
theorem d_D_look_87 : decode b_D_look 87 = .ok (.getfield 168, 3) := by decide +kernel
theorem d_D_look_90 : decode b_D_look 90 = .ok (.ireturn, 1) := by decide +kernel
theorem d_D_look_91 : decode b_D_look 91 = .ok (.aload_n 3, 1) := by decide +kernel
theorem d_D_look_92 : decode b_D_look 92 = .ok (.getfield 171, 3) := by decide +kernel
theorem d_D_look_95 : decode b_D_look 95 = .ok (.ireturn, 1) := by decide +kernel
theorem d_D_look_96 : decode b_D_look 96 = .ok (.aload_n 3, 1) := by decide +kernel
theorem d_D_look_97 : decode b_D_look 97 = .ok (.getfield 174, 3) := by decide +kernel
theorem d_D_look_100 : decode b_D_look 100 = .ok (.ireturn, 1) := by decide +kernel
theorem d_D_look_101 : decode b_D_look 101 = .ok (.aload_n 3, 1) := by decide +kernel
theorem d_D_look_102 : decode b_D_look 102 = .ok (.getfield 177, 3) := by decide +kernel
theorem d_D_look_105 : decode b_D_look 105 = .ok (.ireturn, 1) := by decide +kernel
theorem d_D_frame_0 : decode b_D_frame 0 = .ok (.aload_n 0, 1) := by decide +kernel
theorem d_D_frame_1 : decode b_D_frame 1 = .ok (.iload_n 1, 1) := by decide +kernel
theorem d_D_frame_2 : decode b_D_frame 2 = .ok (.invokevirtual 144, 3) := by decide +kernel
theorem d_D_frame_5 : decode b_D_frame 5 = .ok (.ifCond .eq 12, 3) := by decide +kernel
theorem d_D_frame_8 : decode b_D_frame 8 = .ok (.iload_n 3, 1) := by decide +kernel
theorem d_D_frame_9 : decode b_D_frame 9 = .ok (.ifCond .lt 8, 3) := by decide +kernel
theorem d_D_frame_12 : decode b_D_frame 12 = .ok (.iload_n 3, 1) := by decide +kernel
theorem d_D_frame_13 : decode b_D_frame 13 = .ok (.iconst 2, 1) := by decide +kernel
theorem d_D_frame_14 : decode b_D_frame 14 = .ok (.if_icmp .le 13, 3) := by decide +kernel
theorem d_D_frame_17 : decode b_D_frame 17 = .ok (.new 37, 3) := by decide +kernel
theorem d_D_frame_20 : decode b_D_frame 20 = .ok (.dup, 1) := by decide +kernel
theorem d_D_frame_21 : decode b_D_frame 21 = .ok (.ldc 163, 2) := by decide +kernel
theorem d_D_frame_23 : decode b_D_frame 23 = .ok (.invokespecial 41, 3) := by decide +kernel
theorem d_D_frame_26 : decode b_D_frame 26 = .ok (.athrow, 1) := by decide +kernel
theorem d_D_frame_27 : decode b_D_frame 27 = .ok (.aload_n 0, 1) := by decide +kernel
theorem d_D_frame_28 : decode b_D_frame 28 = .ok (.getfield 19, 3) := by decide +kernel
theorem d_D_frame_31 : decode b_D_frame 31 = .ok (.iload_n 1, 1) := by decide +kernel
theorem d_D_frame_32 : decode b_D_frame 32 = .ok (.invokevirtual 78, 3) := by decide +kernel
theorem d_D_frame_35 : decode b_D_frame 35 = .ok (.checkcast 135, 3) := by decide +kernel
theorem d_D_frame_38 : decode b_D_frame 38 = .ok (.astore 4, 2) := by decide +kernel
theorem d_D_frame_40 : decode b_D_frame 40 = .ok (.iload_n 2, 1) := by decide +kernel
theorem d_D_frame_41 : decode b_D_frame 41 = .ok (.ifCond .lt 12, 3) := by decide +kernel
theorem d_D_frame_44 : decode b_D_frame 44 = .ok (.iload_n 2, 1) := by decide +kernel
theorem d_D_frame_45 : decode b_D_frame 45 = .ok (.aload 4, 2) := by decide +kernel
theorem d_D_frame_47 : decode b_D_frame 47 = .ok (.getfield 168, 3) := by decide +kernel
theorem d_D_frame_50 : decode b_D_frame 50 = .ok (.if_icmp .lt 13, 3) := by decide +kernel
theorem d_D_frame_53 : decode b_D_frame 53 = .ok (.new 180, 3) := by decide +kernel
theorem d_D_frame_56 : decode b_D_frame 56 = .ok (.dup, 1) := by decide +kernel
theorem d_D_frame_57 : decode b_D_frame 57 = .ok (.ldc 182, 2) := by decide +kernel
theorem d_D_frame_59 : decode b_D_frame 59 = .ok (.invokespecial 184, 3) := by decide +kernel
theorem d_D_frame_62 : decode b_D_frame 62 = .ok (.athrow, 1) := by decide +kernel
theorem d_D_frame_63 : decode b_D_frame 63 = .ok (.aload 4, 2) := by decide +kernel
theorem d_D_frame_65 : decode b_D_frame 65 = .ok (.getfield 185, 3) := by decide +kernel
theorem d_D_frame_68 : decode b_D_frame 68 = .ok (.iload_n 2, 1) := by decide +kernel
theorem d_D_frame_69 : decode b_D_frame 69 = .ok (.aaload, 1) := by decide +kernel
theorem d_D_frame_70 : decode b_D_frame 70 = .ok (.astore 5, 2) := by decide +kernel
theorem d_D_frame_72 : decode b_D_frame 72 = .ok (.iload_n 3, 1) := by decide +kernel
theorem d_D_frame_73 : decode b_D_frame 73 = .ok (.lookupswitch 39 #[(0, 27), (1, 33)], 27) := by decide +kernel
theorem d_D_frame_100 : decode b_D_frame 100 = .ok (.aload 5, 2) := by decide +kernel
theorem d_D_frame_102 : decode b_D_frame 102 = .ok (.getfield 189, 3) := by decide +kernel
theorem d_D_frame_105 : decode b_D_frame 105 = .ok (.ireturn, 1) := by decide +kernel
theorem d_D_frame_106 : decode b_D_frame 106 = .ok (.aload 5, 2) := by decide +kernel
theorem d_D_frame_108 : decode b_D_frame 108 = .ok (.getfield 194, 3) := by decide +kernel
theorem d_D_frame_111 : decode b_D_frame 111 = .ok (.ireturn, 1) := by decide +kernel
theorem d_D_frame_112 : decode b_D_frame 112 = .ok (.aload 5, 2) := by decide +kernel
theorem d_D_frame_114 : decode b_D_frame 114 = .ok (.getfield 195, 3) := by decide +kernel
theorem d_D_frame_117 : decode b_D_frame 117 = .ok (.ireturn, 1) := by decide +kernel
theorem d_D_body_0 : decode b_D_body 0 = .ok (.aload_n 0, 1) := by decide +kernel
theorem d_D_body_1 : decode b_D_body 1 = .ok (.iload_n 1, 1) := by decide +kernel
theorem d_D_body_2 : decode b_D_body 2 = .ok (.invokevirtual 66, 3) := by decide +kernel
theorem d_D_body_5 : decode b_D_body 5 = .ok (.ifCond .ne 13, 3) := by decide +kernel
theorem d_D_body_8 : decode b_D_body 8 = .ok (.new 37, 3) := by decide +kernel
theorem d_D_body_11 : decode b_D_body 11 = .ok (.dup, 1) := by decide +kernel
theorem d_D_body_12 : decode b_D_body 12 = .ok (.ldc 131, 2) := by decide +kernel
theorem d_D_body_14 : decode b_D_body 14 = .ok (.invokespecial 41, 3) := by decide +kernel
theorem d_D_body_17 : decode b_D_body 17 = .ok (.athrow, 1) := by decide +kernel
theorem d_D_body_18 : decode b_D_body 18 = .ok (.iload_n 2, 1) := by decide +kernel
theorem d_D_body_19 : decode b_D_body 19 = .ok (.ifCond .lt 14, 3) := by decide +kernel
theorem d_D_body_22 : decode b_D_body 22 = .ok (.iload_n 2, 1) := by decide +kernel
theorem d_D_body_23 : decode b_D_body 23 = .ok (.aload_n 0, 1) := by decide +kernel
theorem d_D_body_24 : decode b_D_body 24 = .ok (.getfield 16, 3) := by decide +kernel
theorem d_D_body_27 : decode b_D_body 27 = .ok (.invokevirtual 44, 3) := by decide +kernel
theorem d_D_body_30 : decode b_D_body 30 = .ok (.if_icmp .le 13, 3) := by decide +kernel
theorem d_D_body_33 : decode b_D_body 33 = .ok (.new 180, 3) := by decide +kernel
theorem d_D_body_36 : decode b_D_body 36 = .ok (.dup, 1) := by decide +kernel
theorem d_D_body_37 : decode b_D_body 37 = .ok (.ldc 198, 2) := by decide +kernel
theorem d_D_body_39 : decode b_D_body 39 = .ok (.invokespecial 184, 3) := by decide +kernel
theorem d_D_body_42 : decode b_D_body 42 = .ok (.athrow, 1) := by decide +kernel
theorem d_D_body_43 : decode b_D_body 43 = .ok (.aload_n 0, 1) := by decide +kernel
theorem d_D_body_44 : decode b_D_body 44 = .ok (.iload_n 1, 1) := by decide +kernel
theorem d_D_body_45 : decode b_D_body 45 = .ok (.iload_n 2, 1) := by decide +kernel
theorem d_D_body_46 : decode b_D_body 46 = .ok (.invokevirtual 137, 3) := by decide +kernel
theorem d_D_body_49 : decode b_D_body 49 = .ok (.getfield 86, 3) := by decide +kernel
theorem d_D_body_52 : decode b_D_body 52 = .ok (.ireturn, 1) := by decide +kernel
