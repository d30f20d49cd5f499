theorem d_M_init_0 : decode b_M_init 0 = .ok (.aload_n 0, 1) := by decide +kernel
theorem d_M_init_1 : decode b_M_init 1 = .ok (.invokespecial 1, 3) := by decide +kernel
theorem d_M_init_4 : decode b_M_init 4 = .ok (.aload_n 0, 1) := by decide +kernel
theorem d_M_init_5 : decode b_M_init 5 = .ok (.bipush 56, 2) := by decide +kernel
theorem d_M_init_7 : decode b_M_init 7 = .ok (.newarray .boolean, 2) := by decide +kernel
theorem d_M_init_9 : decode b_M_init 9 = .ok (.putfield 7, 3) := by decide +kernel
theorem d_M_init_12 : decode b_M_init 12 = .ok (.aload_n 0, 1) := by decide +kernel
theorem d_M_init_13 : decode b_M_init 13 = .ok (.bipush 56, 2) := by decide +kernel
theorem d_M_init_15 : decode b_M_init 15 = .ok (.newarray .int, 2) := by decide +kernel
theorem d_M_init_17 : decode b_M_init 17 = .ok (.putfield 13, 3) := by decide +kernel
theorem d_M_init_20 : decode b_M_init 20 = .ok (.aload_n 0, 1) := by decide +kernel
theorem d_M_init_21 : decode b_M_init 21 = .ok (.bipush 56, 2) := by decide +kernel
theorem d_M_init_23 : decode b_M_init 23 = .ok (.newarray .int, 2) := by decide +kernel
theorem d_M_init_25 : decode b_M_init 25 = .ok (.putfield 17, 3) := by decide +kernel
theorem d_M_init_28 : decode b_M_init 28 = .ok (.aload_n 0, 1) := by decide +kernel
theorem d_M_init_29 : decode b_M_init 29 = .ok (.sipush 672, 3) := by decide +kernel
theorem d_M_init_32 : decode b_M_init 32 = .ok (.newarray .int, 2) := by decide +kernel
theorem d_M_init_34 : decode b_M_init 34 = .ok (.putfield 20, 3) := by decide +kernel
theorem d_M_init_37 : decode b_M_init 37 = .ok (.aload_n 0, 1) := by decide +kernel
theorem d_M_init_38 : decode b_M_init 38 = .ok (.sipush 672, 3) := by decide +kernel
theorem d_M_init_41 : decode b_M_init 41 = .ok (.newarray .int, 2) := by decide +kernel
theorem d_M_init_43 : decode b_M_init 43 = .ok (.putfield 23, 3) := by decide +kernel
theorem d_M_init_46 : decode b_M_init 46 = .ok (.aload_n 0, 1) := by decide +kernel
theorem d_M_init_47 : decode b_M_init 47 = .ok (.iconst (-1), 1) := by decide +kernel
theorem d_M_init_48 : decode b_M_init 48 = .ok (.putfield 26, 3) := by decide +kernel
theorem d_M_init_51 : decode b_M_init 51 = .ok (.aload_n 0, 1) := by decide +kernel
theorem d_M_init_52 : decode b_M_init 52 = .ok (.iconst 4, 1) := by decide +kernel
theorem d_M_init_53 : decode b_M_init 53 = .ok (.newarray .int, 2) := by decide +kernel
theorem d_M_init_55 : decode b_M_init 55 = .ok (.putfield 30, 3) := by decide +kernel
theorem d_M_init_58 : decode b_M_init 58 = .ok (.aload_n 0, 1) := by decide +kernel
theorem d_M_init_59 : decode b_M_init 59 = .ok (.iconst 4, 1) := by decide +kernel
theorem d_M_init_60 : decode b_M_init 60 = .ok (.newarray .int, 2) := by decide +kernel
theorem d_M_init_62 : decode b_M_init 62 = .ok (.putfield 33, 3) := by decide +kernel
theorem d_M_init_65 : decode b_M_init 65 = .ok (.aload_n 0, 1) := by decide +kernel
theorem d_M_init_66 : decode b_M_init 66 = .ok (.iconst 4, 1) := by decide +kernel
theorem d_M_init_67 : decode b_M_init 67 = .ok (.newarray .int, 2) := by decide +kernel
theorem d_M_init_69 : decode b_M_init 69 = .ok (.putfield 36, 3) := by decide +kernel
theorem d_M_init_72 : decode b_M_init 72 = .ok (.aload_n 0, 1) := by decide +kernel
theorem d_M_init_73 : decode b_M_init 73 = .ok (.iconst 4, 1) := by decide +kernel
theorem d_M_init_74 : decode b_M_init 74 = .ok (.newarray .int, 2) := by decide +kernel
theorem d_M_init_76 : decode b_M_init 76 = .ok (.putfield 39, 3) := by decide +kernel
theorem d_M_init_79 : decode b_M_init 79 = .ok (.aload_n 0, 1) := by decide +kernel
theorem d_M_init_80 : decode b_M_init 80 = .ok (.iconst 4, 1) := by decide +kernel
theorem d_M_init_81 : decode b_M_init 81 = .ok (.newarray .int, 2) := by decide +kernel
theorem d_M_init_83 : decode b_M_init 83 = .ok (.putfield 42, 3) := by decide +kernel
theorem d_M_init_86 : decode b_M_init 86 = .ok (.aload_n 0, 1) := by decide +kernel
theorem d_M_init_87 : decode b_M_init 87 = .ok (.iconst 4, 1) := by decide +kernel
theorem d_M_init_88 : decode b_M_init 88 = .ok (.newarray .int, 2) := by decide +kernel
theorem d_M_init_90 : decode b_M_init 90 = .ok (.putfield 45, 3) := by decide +kernel
theorem d_M_init_93 : decode b_M_init 93 = .ok (.aload_n 0, 1) := by decide +kernel
theorem d_M_init_94 : decode b_M_init 94 = .ok (.iconst 4, 1) := by decide +kernel
theorem d_M_init_95 : decode b_M_init 95 = .ok (.newarray .int, 2) := by decide +kernel
theorem d_M_init_97 : decode b_M_init 97 = .ok (.putfield 48, 3) := by decide +kernel
theorem d_M_init_100 : decode b_M_init 100 = .ok (.aload_n 0, 1) := by decide +kernel
theorem d_M_init_101 : decode b_M_init 101 = .ok (.bipush 24, 2) := by decide +kernel
theorem d_M_init_103 : decode b_M_init 103 = .ok (.newarray .int, 2) := by decide +kernel
theorem d_M_init_105 : decode b_M_init 105 = .ok (.putfield 51, 3) := by decide +kernel
theorem d_M_init_108 : decode b_M_init 108 = .ok (.aload_n 0, 1) := by decide +kernel
theorem d_M_init_109 : decode b_M_init 109 = .ok (.bipush 24, 2) := by decide +kernel
theorem d_M_init_111 : decode b_M_init 111 = .ok (.newarray .int, 2) := by decide +kernel
theorem d_M_init_113 : decode b_M_init 113 = .ok (.putfield 54, 3) := by decide +kernel
theorem d_M_init_116 : decode b_M_init 116 = .ok (.aload_n 0, 1) := by decide +kernel
theorem d_M_init_117 : decode b_M_init 117 = .ok (.bipush 24, 2) := by decide +kernel
theorem d_M_init_119 : decode b_M_init 119 = .ok (.newarray .int, 2) := by decide +kernel
theorem d_M_init_121 : decode b_M_init 121 = .ok (.putfield 57, 3) := by decide +kernel
theorem d_M_init_124 : decode b_M_init 124 = .ok (.aload_n 0, 1) := by decide +kernel
theorem d_M_init_125 : decode b_M_init 125 = .ok (.bipush 24, 2) := by decide +kernel
theorem d_M_init_127 : decode b_M_init 127 = .ok (.newarray .int, 2) := by decide +kernel
theorem d_M_init_129 : decode b_M_init 129 = .ok (.putfield 60, 3) := by decide +kernel
theorem d_M_init_132 : decode b_M_init 132 = .ok (.return_, 1) := by decide +kernel
theorem d_M_thrown_0 : decode b_M_thrown 0 = .ok (.aload_n 0, 1) := by decide +kernel
theorem d_M_thrown_1 : decode b_M_thrown 1 = .ok (.getfield 63, 3) := by decide +kernel
theorem d_M_thrown_4 : decode b_M_thrown 4 = .ok (.ireturn, 1) := by decide +kernel
theorem d_M_function_0 : decode b_M_function 0 = .ok (.aload_n 0, 1) := by decide +kernel
theorem d_M_function_1 : decode b_M_function 1 = .ok (.iload_n 1, 1) := by decide +kernel
theorem d_M_function_2 : decode b_M_function 2 = .ok (.iconst 0, 1) := by decide +kernel
theorem d_M_function_3 : decode b_M_function 3 = .ok (.bipush 9, 2) := by decide +kernel
theorem d_M_function_5 : decode b_M_function 5 = .ok (.invokestatic 72, 3) := by decide +kernel
theorem d_M_function_8 : decode b_M_function 8 = .ok (.ifCond .ne 7, 3) := by decide +kernel
theorem d_M_function_11 : decode b_M_function 11 = .ok (.iconst 1, 1) := by decide +kernel
theorem d_M_function_12 : decode b_M_function 12 = .ok (.goto 24, 3) := by decide +kernel
theorem d_M_function_15 : decode b_M_function 15 = .ok (.aload_n 0, 1) := by decide +kernel
theorem d_M_function_16 : decode b_M_function 16 = .ok (.getfield 76, 3) := by decide +kernel
theorem d_M_function_19 : decode b_M_function 19 = .ok (.bipush 8, 2) := by decide +kernel
theorem d_M_function_21 : decode b_M_function 21 = .ok (.if_icmp .eq 10, 3) := by decide +kernel
theorem d_M_function_24 : decode b_M_function 24 = .ok (.aload_n 0, 1) := by decide +kernel
theorem d_M_function_25 : decode b_M_function 25 = .ok (.invokevirtual 79, 3) := by decide +kernel
theorem d_M_function_28 : decode b_M_function 28 = .ok (.ifCond .ne 7, 3) := by decide +kernel
theorem d_M_function_31 : decode b_M_function 31 = .ok (.iconst 2, 1) := by decide +kernel
theorem d_M_function_32 : decode b_M_function 32 = .ok (.goto 4, 3) := by decide +kernel
theorem d_M_function_35 : decode b_M_function 35 = .ok (.iconst 0, 1) := by decide +kernel
theorem d_M_function_36 : decode b_M_function 36 = .ok (.putfield 63, 3) := by decide +kernel
theorem d_M_function_39 : decode b_M_function 39 = .ok (.aload_n 0, 1) := by decide +kernel
theorem d_M_function_40 : decode b_M_function 40 = .ok (.getfield 63, 3) := by decide +kernel
theorem d_M_function_43 : decode b_M_function 43 = .ok (.ifCond .le 5, 3) := by decide +kernel
theorem d_M_function_46 : decode b_M_function 46 = .ok (.iconst 0, 1) := by decide +kernel
theorem d_M_function_47 : decode b_M_function 47 = .ok (.ireturn, 1) := by decide +kernel
theorem d_M_function_48 : decode b_M_function 48 = .ok (.aload_n 0, 1) := by decide +kernel
theorem d_M_function_49 : decode b_M_function 49 = .ok (.getfield 7, 3) := by decide +kernel
theorem d_M_function_52 : decode b_M_function 52 = .ok (.aload_n 0, 1) := by decide +kernel
theorem d_M_function_53 : decode b_M_function 53 = .ok (.getfield 76, 3) := by decide +kernel
theorem d_M_function_56 : decode b_M_function 56 = .ok (.iconst 1, 1) := by decide +kernel
theorem d_M_function_57 : decode b_M_function 57 = .ok (.bastore, 1) := by decide +kernel
theorem d_M_function_58 : decode b_M_function 58 = .ok (.aload_n 0, 1) := by decide +kernel
theorem d_M_function_59 : decode b_M_function 59 = .ok (.getfield 13, 3) := by decide +kernel
theorem d_M_function_62 : decode b_M_function 62 = .ok (.aload_n 0, 1) := by decide +kernel
theorem d_M_function_63 : decode b_M_function 63 = .ok (.getfield 76, 3) := by decide +kernel
theorem d_M_function_66 : decode b_M_function 66 = .ok (.iload_n 1, 1) := by decide +kernel
theorem d_M_function_67 : decode b_M_function 67 = .ok (.iastore, 1) := by decide +kernel
theorem d_M_function_68 : decode b_M_function 68 = .ok (.aload_n 0, 1) := by decide +kernel
theorem d_M_function_69 : decode b_M_function 69 = .ok (.getfield 17, 3) := by decide +kernel
theorem d_M_function_72 : decode b_M_function 72 = .ok (.aload_n 0, 1) := by decide +kernel
theorem d_M_function_73 : decode b_M_function 73 = .ok (.getfield 76, 3) := by decide +kernel
theorem d_M_function_76 : decode b_M_function 76 = .ok (.iconst 0, 1) := by decide +kernel
theorem d_M_function_77 : decode b_M_function 77 = .ok (.iastore, 1) := by decide +kernel
theorem d_M_function_78 : decode b_M_function 78 = .ok (.aload_n 0, 1) := by decide +kernel
theorem d_M_function_79 : decode b_M_function 79 = .ok (.dup, 1) := by decide +kernel
theorem d_M_function_80 : decode b_M_function 80 = .ok (.getfield 76, 3) := by decide +kernel
theorem d_M_function_83 : decode b_M_function 83 = .ok (.iconst 1, 1) := by decide +kernel
theorem d_M_function_84 : decode b_M_function 84 = .ok (.iadd, 1) := by decide +kernel
theorem d_M_function_85 : decode b_M_function 85 = .ok (.putfield 76, 3) := by decide +kernel
theorem d_M_function_88 : decode b_M_function 88 = .ok (.aload_n 0, 1) := by decide +kernel
theorem d_M_function_89 : decode b_M_function 89 = .ok (.getfield 76, 3) := by decide +kernel
theorem d_M_function_92 : decode b_M_function 92 = .ok (.iconst 1, 1) := by decide +kernel
theorem d_M_function_93 : decode b_M_function 93 = .ok (.isub, 1) := by decide +kernel
theorem d_M_function_94 : decode b_M_function 94 = .ok (.ireturn, 1) := by decide +kernel
theorem d_M_inn_0 : decode b_M_inn 0 = .ok (.iload_n 0, 1) := by decide +kernel
theorem d_M_inn_1 : decode b_M_inn 1 = .ok (.iload_n 1, 1) := by decide +kernel
theorem d_M_inn_2 : decode b_M_inn 2 = .ok (.if_icmp .lt 12, 3) := by decide +kernel
theorem d_M_inn_5 : decode b_M_inn 5 = .ok (.iload_n 0, 1) := by decide +kernel
theorem d_M_inn_6 : decode b_M_inn 6 = .ok (.iload_n 2, 1) := by decide +kernel
theorem d_M_inn_7 : decode b_M_inn 7 = .ok (.if_icmp .gt 7, 3) := by decide +kernel
theorem d_M_inn_10 : decode b_M_inn 10 = .ok (.iconst 1, 1) := by decide +kernel
theorem d_M_inn_11 : decode b_M_inn 11 = .ok (.goto 4, 3) := by decide +kernel
theorem d_M_inn_14 : decode b_M_inn 14 = .ok (.iconst 0, 1) := by decide +kernel
theorem d_M_inn_15 : decode b_M_inn 15 = .ok (.ireturn, 1) := by decide +kernel
theorem d_M_fresh_0 : decode b_M_fresh 0 = .ok (.aload_n 0, 1) := by decide +kernel
theorem d_M_fresh_1 : decode b_M_fresh 1 = .ok (.getfield 66, 3) := by decide +kernel
theorem d_M_fresh_4 : decode b_M_fresh 4 = .ok (.ifCond .ne 14, 3) := by decide +kernel
theorem d_M_fresh_7 : decode b_M_fresh 7 = .ok (.aload_n 0, 1) := by decide +kernel
theorem d_M_fresh_8 : decode b_M_fresh 8 = .ok (.getfield 69, 3) := by decide +kernel
theorem d_M_fresh_11 : decode b_M_fresh 11 = .ok (.ifCond .ne 7, 3) := by decide +kernel
theorem d_M_fresh_14 : decode b_M_fresh 14 = .ok (.iconst 1, 1) := by decide +kernel
theorem d_M_fresh_15 : decode b_M_fresh 15 = .ok (.goto 4, 3) := by decide +kernel
theorem d_M_fresh_18 : decode b_M_fresh 18 = .ok (.iconst 0, 1) := by decide +kernel
theorem d_M_fresh_19 : decode b_M_fresh 19 = .ok (.ireturn, 1) := by decide +kernel
theorem d_M_operation_0 : decode b_M_operation 0 = .ok (.iload_n 2, 1) := by decide +kernel
theorem d_M_operation_1 : decode b_M_operation 1 = .ok (.ifCond .eq 8, 3) := by decide +kernel
theorem d_M_operation_4 : decode b_M_operation 4 = .ok (.bipush 48, 2) := by decide +kernel
theorem d_M_operation_6 : decode b_M_operation 6 = .ok (.goto 4, 3) := by decide +kernel
theorem d_M_operation_9 : decode b_M_operation 9 = .ok (.iconst 0, 1) := by decide +kernel
theorem d_M_operation_10 : decode b_M_operation 10 = .ok (.iload_n 1, 1) := by decide +kernel
theorem d_M_operation_11 : decode b_M_operation 11 = .ok (.iadd, 1) := by decide +kernel
theorem d_M_operation_12 : decode b_M_operation 12 = .ok (.istore 5, 2) := by decide +kernel
theorem d_M_operation_14 : decode b_M_operation 14 = .ok (.iload_n 1, 1) := by decide +kernel
theorem d_M_operation_15 : decode b_M_operation 15 = .ok (.iconst 0, 1) := by decide +kernel
theorem d_M_operation_16 : decode b_M_operation 16 = .ok (.bipush 7, 2) := by decide +kernel
theorem d_M_operation_18 : decode b_M_operation 18 = .ok (.invokestatic 72, 3) := by decide +kernel
theorem d_M_operation_21 : decode b_M_operation 21 = .ok (.ifCond .eq 16, 3) := by decide +kernel
theorem d_M_operation_24 : decode b_M_operation 24 = .ok (.iload_n 3, 1) := by decide +kernel
theorem d_M_operation_25 : decode b_M_operation 25 = .ok (.iconst 0, 1) := by decide +kernel
theorem d_M_operation_26 : decode b_M_operation 26 = .ok (.iconst 5, 1) := by decide +kernel
theorem d_M_operation_27 : decode b_M_operation 27 = .ok (.invokestatic 72, 3) := by decide +kernel
theorem d_M_operation_30 : decode b_M_operation 30 = .ok (.ifCond .eq 7, 3) := by decide +kernel
theorem d_M_operation_33 : decode b_M_operation 33 = .ok (.iconst 1, 1) := by decide +kernel
theorem d_M_operation_34 : decode b_M_operation 34 = .ok (.goto 4, 3) := by decide +kernel
theorem d_M_operation_37 : decode b_M_operation 37 = .ok (.iconst 0, 1) := by decide +kernel
theorem d_M_operation_38 : decode b_M_operation 38 = .ok (.istore 6, 2) := by decide +kernel
theorem d_M_operation_40 : decode b_M_operation 40 = .ok (.iload 6, 2) := by decide +kernel
theorem d_M_operation_42 : decode b_M_operation 42 = .ok (.ifCond .eq 17, 3) := by decide +kernel
theorem d_M_operation_45 : decode b_M_operation 45 = .ok (.aload_n 0, 1) := by decide +kernel
theorem d_M_operation_46 : decode b_M_operation 46 = .ok (.getfield 7, 3) := by decide +kernel
theorem d_M_operation_49 : decode b_M_operation 49 = .ok (.iload 5, 2) := by decide +kernel
theorem d_M_operation_51 : decode b_M_operation 51 = .ok (.baload, 1) := by decide +kernel
theorem d_M_operation_52 : decode b_M_operation 52 = .ok (.ifCond .eq 7, 3) := by decide +kernel
theorem d_M_operation_55 : decode b_M_operation 55 = .ok (.iconst 1, 1) := by decide +kernel
theorem d_M_operation_56 : decode b_M_operation 56 = .ok (.goto 4, 3) := by decide +kernel
theorem d_M_operation_59 : decode b_M_operation 59 = .ok (.iconst 0, 1) := by decide +kernel
theorem d_M_operation_60 : decode b_M_operation 60 = .ok (.istore 6, 2) := by decide +kernel
theorem d_M_operation_62 : decode b_M_operation 62 = .ok (.iload 6, 2) := by decide +kernel
theorem d_M_operation_64 : decode b_M_operation 64 = .ok (.ifCond .eq 18, 3) := by decide +kernel
theorem d_M_operation_67 : decode b_M_operation 67 = .ok (.iload_n 3, 1) := by decide +kernel
theorem d_M_operation_68 : decode b_M_operation 68 = .ok (.ifCond .ne 14, 3) := by decide +kernel
theorem d_M_operation_71 : decode b_M_operation 71 = .ok (.iload 4, 2) := by decide +kernel
theorem d_M_operation_73 : decode b_M_operation 73 = .ok (.bipush (-99), 2) := by decide +kernel
theorem d_M_operation_75 : decode b_M_operation 75 = .ok (.bipush 99, 2) := by decide +kernel
theorem d_M_operation_77 : decode b_M_operation 77 = .ok (.invokestatic 72, 3) := by decide +kernel
theorem d_M_operation_80 : decode b_M_operation 80 = .ok (.istore 6, 2) := by decide +kernel
theorem d_M_operation_82 : decode b_M_operation 82 = .ok (.iload 6, 2) := by decide +kernel
theorem d_M_operation_84 : decode b_M_operation 84 = .ok (.ifCond .eq 27, 3) := by decide +kernel
theorem d_M_operation_87 : decode b_M_operation 87 = .ok (.iload_n 3, 1) := by decide +kernel
theorem d_M_operation_88 : decode b_M_operation 88 = .ok (.iconst 1, 1) := by decide +kernel
theorem d_M_operation_89 : decode b_M_operation 89 = .ok (.if_icmp .eq 8, 3) := by decide +kernel
theorem d_M_operation_92 : decode b_M_operation 92 = .ok (.iload_n 3, 1) := by decide +kernel
theorem d_M_operation_93 : decode b_M_operation 93 = .ok (.iconst 5, 1) := by decide +kernel
theorem d_M_operation_94 : decode b_M_operation 94 = .ok (.if_icmp .ne 17, 3) := by decide +kernel
theorem d_M_operation_97 : decode b_M_operation 97 = .ok (.iload 4, 2) := by decide +kernel
theorem d_M_operation_99 : decode b_M_operation 99 = .ok (.iconst 0, 1) := by decide +kernel
theorem d_M_operation_100 : decode b_M_operation 100 = .ok (.aload_n 0, 1) := by decide +kernel
theorem d_M_operation_101 : decode b_M_operation 101 = .ok (.getfield 76, 3) := by decide +kernel
theorem d_M_operation_104 : decode b_M_operation 104 = .ok (.iconst 1, 1) := by decide +kernel
theorem d_M_operation_105 : decode b_M_operation 105 = .ok (.isub, 1) := by decide +kernel
theorem d_M_operation_106 : decode b_M_operation 106 = .ok (.invokestatic 72, 3) := by decide +kernel
theorem d_M_operation_109 : decode b_M_operation 109 = .ok (.istore 6, 2) := by decide +kernel
theorem d_M_operation_111 : decode b_M_operation 111 = .ok (.iload 6, 2) := by decide +kernel
theorem d_M_operation_113 : decode b_M_operation 113 = .ok (.ifCond .eq 23, 3) := by decide +kernel
theorem d_M_operation_116 : decode b_M_operation 116 = .ok (.iload_n 3, 1) := by decide +kernel
theorem d_M_operation_117 : decode b_M_operation 117 = .ok (.iconst 3, 1) := by decide +kernel
theorem d_M_operation_118 : decode b_M_operation 118 = .ok (.if_icmp .ne 18, 3) := by decide +kernel
theorem d_M_operation_121 : decode b_M_operation 121 = .ok (.iload 4, 2) := by decide +kernel
theorem d_M_operation_123 : decode b_M_operation 123 = .ok (.iconst 0, 1) := by decide +kernel
theorem d_M_operation_124 : decode b_M_operation 124 = .ok (.aload_n 0, 1) := by decide +kernel
theorem d_M_operation_125 : decode b_M_operation 125 = .ok (.getfield 17, 3) := by decide +kernel
theorem d_M_operation_128 : decode b_M_operation 128 = .ok (.iload 5, 2) := by decide +kernel
theorem d_M_operation_130 : decode b_M_operation 130 = .ok (.iaload, 1) := by decide +kernel
theorem d_M_operation_131 : decode b_M_operation 131 = .ok (.invokestatic 72, 3) := by decide +kernel
theorem d_M_operation_134 : decode b_M_operation 134 = .ok (.istore 6, 2) := by decide +kernel
theorem d_M_operation_136 : decode b_M_operation 136 = .ok (.aload_n 0, 1) := by decide +kernel
theorem d_M_operation_137 : decode b_M_operation 137 = .ok (.iload 6, 2) := by decide +kernel
theorem d_M_operation_139 : decode b_M_operation 139 = .ok (.ifCond .ne 7, 3) := by decide +kernel
theorem d_M_operation_142 : decode b_M_operation 142 = .ok (.iconst 1, 1) := by decide +kernel
theorem d_M_operation_143 : decode b_M_operation 143 = .ok (.goto 31, 3) := by decide +kernel
theorem d_M_operation_146 : decode b_M_operation 146 = .ok (.iload_n 2, 1) := by decide +kernel
theorem d_M_operation_147 : decode b_M_operation 147 = .ok (.ifCond .ne 10, 3) := by decide +kernel
theorem d_M_operation_150 : decode b_M_operation 150 = .ok (.aload_n 0, 1) := by decide +kernel
theorem d_M_operation_151 : decode b_M_operation 151 = .ok (.invokevirtual 79, 3) := by decide +kernel
theorem d_M_operation_154 : decode b_M_operation 154 = .ok (.ifCond .eq 15, 3) := by decide +kernel
theorem d_M_operation_157 : decode b_M_operation 157 = .ok (.aload_n 0, 1) := by decide +kernel
theorem d_M_operation_158 : decode b_M_operation 158 = .ok (.getfield 17, 3) := by decide +kernel
theorem d_M_operation_161 : decode b_M_operation 161 = .ok (.iload 5, 2) := by decide +kernel
theorem d_M_operation_163 : decode b_M_operation 163 = .ok (.iaload, 1) := by decide +kernel
theorem d_M_operation_164 : decode b_M_operation 164 = .ok (.bipush 12, 2) := by decide +kernel
theorem d_M_operation_166 : decode b_M_operation 166 = .ok (.if_icmp .ne 7, 3) := by decide +kernel
theorem d_M_operation_169 : decode b_M_operation 169 = .ok (.iconst 2, 1) := by decide +kernel
theorem d_M_operation_170 : decode b_M_operation 170 = .ok (.goto 4, 3) := by decide +kernel
theorem d_M_operation_173 : decode b_M_operation 173 = .ok (.iconst 0, 1) := by decide +kernel
theorem d_M_operation_174 : decode b_M_operation 174 = .ok (.putfield 63, 3) := by decide +kernel
theorem d_M_operation_177 : decode b_M_operation 177 = .ok (.aload_n 0, 1) := by decide +kernel
theorem d_M_operation_178 : decode b_M_operation 178 = .ok (.getfield 63, 3) := by decide +kernel
theorem d_M_operation_181 : decode b_M_operation 181 = .ok (.ifCond .le 5, 3) := by decide +kernel
theorem d_M_operation_184 : decode b_M_operation 184 = .ok (.iconst 0, 1) := by decide +kernel
theorem d_M_operation_185 : decode b_M_operation 185 = .ok (.ireturn, 1) := by decide +kernel
theorem d_M_operation_186 : decode b_M_operation 186 = .ok (.aload_n 0, 1) := by decide +kernel
theorem d_M_operation_187 : decode b_M_operation 187 = .ok (.getfield 20, 3) := by decide +kernel
theorem d_M_operation_190 : decode b_M_operation 190 = .ok (.bipush 12, 2) := by decide +kernel
theorem d_M_operation_192 : decode b_M_operation 192 = .ok (.iload 5, 2) := by decide +kernel
theorem d_M_operation_194 : decode b_M_operation 194 = .ok (.imul, 1) := by decide +kernel
theorem d_M_operation_195 : decode b_M_operation 195 = .ok (.aload_n 0, 1) := by decide +kernel
theorem d_M_operation_196 : decode b_M_operation 196 = .ok (.getfield 17, 3) := by decide +kernel
theorem d_M_operation_199 : decode b_M_operation 199 = .ok (.iload 5, 2) := by decide +kernel
theorem d_M_operation_201 : decode b_M_operation 201 = .ok (.iaload, 1) := by decide +kernel
theorem d_M_operation_202 : decode b_M_operation 202 = .ok (.iadd, 1) := by decide +kernel
theorem d_M_operation_203 : decode b_M_operation 203 = .ok (.iload_n 3, 1) := by decide +kernel
theorem d_M_operation_204 : decode b_M_operation 204 = .ok (.iastore, 1) := by decide +kernel
theorem d_M_operation_205 : decode b_M_operation 205 = .ok (.aload_n 0, 1) := by decide +kernel
theorem d_M_operation_206 : decode b_M_operation 206 = .ok (.getfield 23, 3) := by decide +kernel
theorem d_M_operation_209 : decode b_M_operation 209 = .ok (.bipush 12, 2) := by decide +kernel
theorem d_M_operation_211 : decode b_M_operation 211 = .ok (.iload 5, 2) := by decide +kernel
theorem d_M_operation_213 : decode b_M_operation 213 = .ok (.imul, 1) := by decide +kernel
theorem d_M_operation_214 : decode b_M_operation 214 = .ok (.aload_n 0, 1) := by decide +kernel
theorem d_M_operation_215 : decode b_M_operation 215 = .ok (.getfield 17, 3) := by decide +kernel
theorem d_M_operation_218 : decode b_M_operation 218 = .ok (.iload 5, 2) := by decide +kernel
theorem d_M_operation_220 : decode b_M_operation 220 = .ok (.iaload, 1) := by decide +kernel
theorem d_M_operation_221 : decode b_M_operation 221 = .ok (.iadd, 1) := by decide +kernel
theorem d_M_operation_222 : decode b_M_operation 222 = .ok (.iload 4, 2) := by decide +kernel
theorem d_M_operation_224 : decode b_M_operation 224 = .ok (.iastore, 1) := by decide +kernel
theorem d_M_operation_225 : decode b_M_operation 225 = .ok (.aload_n 0, 1) := by decide +kernel
theorem d_M_operation_226 : decode b_M_operation 226 = .ok (.getfield 17, 3) := by decide +kernel
theorem d_M_operation_229 : decode b_M_operation 229 = .ok (.iload 5, 2) := by decide +kernel
theorem d_M_operation_231 : decode b_M_operation 231 = .ok (.dup2, 1) := by decide +kernel
theorem d_M_operation_232 : decode b_M_operation 232 = .ok (.iaload, 1) := by decide +kernel
theorem d_M_operation_233 : decode b_M_operation 233 = .ok (.iconst 1, 1) := by decide +kernel
theorem d_M_operation_234 : decode b_M_operation 234 = .ok (.iadd, 1) := by decide +kernel
theorem d_M_operation_235 : decode b_M_operation 235 = .ok (.iastore, 1) := by decide +kernel
theorem d_M_operation_236 : decode b_M_operation 236 = .ok (.aload_n 0, 1) := by decide +kernel
theorem d_M_operation_237 : decode b_M_operation 237 = .ok (.getfield 17, 3) := by decide +kernel
theorem d_M_operation_240 : decode b_M_operation 240 = .ok (.iload 5, 2) := by decide +kernel
theorem d_M_operation_242 : decode b_M_operation 242 = .ok (.iaload, 1) := by decide +kernel
theorem d_M_operation_243 : decode b_M_operation 243 = .ok (.ireturn, 1) := by decide +kernel
theorem d_M_name_0 : decode b_M_name 0 = .ok (.iload_n 1, 1) := by decide +kernel
theorem d_M_name_1 : decode b_M_name 1 = .ok (.iconst 0, 1) := by decide +kernel
theorem d_M_name_2 : decode b_M_name 2 = .ok (.aload_n 0, 1) := by decide +kernel
theorem d_M_name_3 : decode b_M_name 3 = .ok (.getfield 76, 3) := by decide +kernel
theorem d_M_name_6 : decode b_M_name 6 = .ok (.iconst 1, 1) := by decide +kernel
theorem d_M_name_7 : decode b_M_name 7 = .ok (.isub, 1) := by decide +kernel
theorem d_M_name_8 : decode b_M_name 8 = .ok (.invokestatic 72, 3) := by decide +kernel
theorem d_M_name_11 : decode b_M_name 11 = .ok (.ifCond .eq 17, 3) := by decide +kernel
theorem d_M_name_14 : decode b_M_name 14 = .ok (.iload_n 2, 1) := by decide +kernel
theorem d_M_name_15 : decode b_M_name 15 = .ok (.iconst 0, 1) := by decide +kernel
theorem d_M_name_16 : decode b_M_name 16 = .ok (.bipush 9, 2) := by decide +kernel
theorem d_M_name_18 : decode b_M_name 18 = .ok (.invokestatic 72, 3) := by decide +kernel
theorem d_M_name_21 : decode b_M_name 21 = .ok (.ifCond .eq 7, 3) := by decide +kernel
theorem d_M_name_24 : decode b_M_name 24 = .ok (.iconst 1, 1) := by decide +kernel
theorem d_M_name_25 : decode b_M_name 25 = .ok (.goto 4, 3) := by decide +kernel
theorem d_M_name_28 : decode b_M_name 28 = .ok (.iconst 0, 1) := by decide +kernel
theorem d_M_name_29 : decode b_M_name 29 = .ok (.istore_n 3, 1) := by decide +kernel
theorem d_M_name_30 : decode b_M_name 30 = .ok (.aload_n 0, 1) := by decide +kernel
theorem d_M_name_31 : decode b_M_name 31 = .ok (.iload_n 3, 1) := by decide +kernel
theorem d_M_name_32 : decode b_M_name 32 = .ok (.ifCond .eq 19, 3) := by decide +kernel
theorem d_M_name_35 : decode b_M_name 35 = .ok (.aload_n 0, 1) := by decide +kernel
theorem d_M_name_36 : decode b_M_name 36 = .ok (.getfield 7, 3) := by decide +kernel
theorem d_M_name_39 : decode b_M_name 39 = .ok (.bipush 48, 2) := by decide +kernel
theorem d_M_name_41 : decode b_M_name 41 = .ok (.iload_n 1, 1) := by decide +kernel
theorem d_M_name_42 : decode b_M_name 42 = .ok (.iadd, 1) := by decide +kernel
theorem d_M_name_43 : decode b_M_name 43 = .ok (.baload, 1) := by decide +kernel
theorem d_M_name_44 : decode b_M_name 44 = .ok (.ifCond .ne 7, 3) := by decide +kernel
theorem d_M_name_47 : decode b_M_name 47 = .ok (.iconst 0, 1) := by decide +kernel
theorem d_M_name_48 : decode b_M_name 48 = .ok (.goto 4, 3) := by decide +kernel
theorem d_M_name_51 : decode b_M_name 51 = .ok (.iconst 1, 1) := by decide +kernel
theorem d_M_name_52 : decode b_M_name 52 = .ok (.putfield 63, 3) := by decide +kernel
theorem d_M_name_55 : decode b_M_name 55 = .ok (.aload_n 0, 1) := by decide +kernel
theorem d_M_name_56 : decode b_M_name 56 = .ok (.getfield 63, 3) := by decide +kernel
theorem d_M_name_59 : decode b_M_name 59 = .ok (.ifCond .le 5, 3) := by decide +kernel
theorem d_M_name_62 : decode b_M_name 62 = .ok (.iconst 0, 1) := by decide +kernel
theorem d_M_name_63 : decode b_M_name 63 = .ok (.ireturn, 1) := by decide +kernel
theorem d_M_name_64 : decode b_M_name 64 = .ok (.aload_n 0, 1) := by decide +kernel
theorem d_M_name_65 : decode b_M_name 65 = .ok (.getfield 7, 3) := by decide +kernel
theorem d_M_name_68 : decode b_M_name 68 = .ok (.bipush 48, 2) := by decide +kernel
theorem d_M_name_70 : decode b_M_name 70 = .ok (.iload_n 1, 1) := by decide +kernel
theorem d_M_name_71 : decode b_M_name 71 = .ok (.iadd, 1) := by decide +kernel
theorem d_M_name_72 : decode b_M_name 72 = .ok (.iconst 1, 1) := by decide +kernel
theorem d_M_name_73 : decode b_M_name 73 = .ok (.bastore, 1) := by decide +kernel
theorem d_M_name_74 : decode b_M_name 74 = .ok (.aload_n 0, 1) := by decide +kernel
theorem d_M_name_75 : decode b_M_name 75 = .ok (.getfield 13, 3) := by decide +kernel
theorem d_M_name_78 : decode b_M_name 78 = .ok (.bipush 48, 2) := by decide +kernel
theorem d_M_name_80 : decode b_M_name 80 = .ok (.iload_n 1, 1) := by decide +kernel
theorem d_M_name_81 : decode b_M_name 81 = .ok (.iadd, 1) := by decide +kernel
theorem d_M_name_82 : decode b_M_name 82 = .ok (.iload_n 2, 1) := by decide +kernel
theorem d_M_name_83 : decode b_M_name 83 = .ok (.iastore, 1) := by decide +kernel
theorem d_M_name_84 : decode b_M_name 84 = .ok (.aload_n 0, 1) := by decide +kernel
theorem d_M_name_85 : decode b_M_name 85 = .ok (.getfield 17, 3) := by decide +kernel
theorem d_M_name_88 : decode b_M_name 88 = .ok (.bipush 48, 2) := by decide +kernel
theorem d_M_name_90 : decode b_M_name 90 = .ok (.iload_n 1, 1) := by decide +kernel
theorem d_M_name_91 : decode b_M_name 91 = .ok (.iadd, 1) := by decide +kernel
theorem d_M_name_92 : decode b_M_name 92 = .ok (.iconst 0, 1) := by decide +kernel
theorem d_M_name_93 : decode b_M_name 93 = .ok (.iastore, 1) := by decide +kernel
theorem d_M_name_94 : decode b_M_name 94 = .ok (.aload_n 0, 1) := by decide +kernel
theorem d_M_name_95 : decode b_M_name 95 = .ok (.dup, 1) := by decide +kernel
theorem d_M_name_96 : decode b_M_name 96 = .ok (.getfield 83, 3) := by decide +kernel
theorem d_M_name_99 : decode b_M_name 99 = .ok (.iconst 1, 1) := by decide +kernel
theorem d_M_name_100 : decode b_M_name 100 = .ok (.iadd, 1) := by decide +kernel
theorem d_M_name_101 : decode b_M_name 101 = .ok (.putfield 83, 3) := by decide +kernel
theorem d_M_name_104 : decode b_M_name 104 = .ok (.aload_n 0, 1) := by decide +kernel
theorem d_M_name_105 : decode b_M_name 105 = .ok (.getfield 83, 3) := by decide +kernel
theorem d_M_name_108 : decode b_M_name 108 = .ok (.ireturn, 1) := by decide +kernel
theorem d_M_apply_0 : decode b_M_apply 0 = .ok (.aload_n 0, 1) := by decide +kernel
theorem d_M_apply_1 : decode b_M_apply 1 = .ok (.getfield 83, 3) := by decide +kernel
theorem d_M_apply_4 : decode b_M_apply 4 = .ok (.istore_n 1, 1) := by decide +kernel
theorem d_M_apply_5 : decode b_M_apply 5 = .ok (.iconst 0, 1) := by decide +kernel
theorem d_M_apply_6 : decode b_M_apply 6 = .ok (.istore_n 2, 1) := by decide +kernel
theorem d_M_apply_7 : decode b_M_apply 7 = .ok (.iconst 0, 1) := by decide +kernel
theorem d_M_apply_8 : decode b_M_apply 8 = .ok (.istore_n 3, 1) := by decide +kernel
theorem d_M_apply_9 : decode b_M_apply 9 = .ok (.iload_n 3, 1) := by decide +kernel
theorem d_M_apply_10 : decode b_M_apply 10 = .ok (.aload_n 0, 1) := by decide +kernel
theorem d_M_apply_11 : decode b_M_apply 11 = .ok (.getfield 76, 3) := by decide +kernel
theorem d_M_apply_14 : decode b_M_apply 14 = .ok (.if_icmp .ge 49, 3) := by decide +kernel
theorem d_M_apply_17 : decode b_M_apply 17 = .ok (.iload_n 2, 1) := by decide +kernel
theorem d_M_apply_18 : decode b_M_apply 18 = .ok (.ifCond .ne 33, 3) := by decide +kernel
theorem d_M_apply_21 : decode b_M_apply 21 = .ok (.aload_n 0, 1) := by decide +kernel
theorem d_M_apply_22 : decode b_M_apply 22 = .ok (.getfield 7, 3) := by decide +kernel
theorem d_M_apply_25 : decode b_M_apply 25 = .ok (.bipush 48, 2) := by decide +kernel
theorem d_M_apply_27 : decode b_M_apply 27 = .ok (.iload_n 3, 1) := by decide +kernel
theorem d_M_apply_28 : decode b_M_apply 28 = .ok (.iadd, 1) := by decide +kernel
theorem d_M_apply_29 : decode b_M_apply 29 = .ok (.baload, 1) := by decide +kernel
theorem d_M_apply_30 : decode b_M_apply 30 = .ok (.ifCond .eq 25, 3) := by decide +kernel
theorem d_M_apply_33 : decode b_M_apply 33 = .ok (.aload_n 0, 1) := by decide +kernel
theorem d_M_apply_34 : decode b_M_apply 34 = .ok (.getfield 13, 3) := by decide +kernel
theorem d_M_apply_37 : decode b_M_apply 37 = .ok (.bipush 48, 2) := by decide +kernel
theorem d_M_apply_39 : decode b_M_apply 39 = .ok (.iload_n 3, 1) := by decide +kernel
theorem d_M_apply_40 : decode b_M_apply 40 = .ok (.iadd, 1) := by decide +kernel
theorem d_M_apply_41 : decode b_M_apply 41 = .ok (.iaload, 1) := by decide +kernel
theorem d_M_apply_42 : decode b_M_apply 42 = .ok (.aload_n 0, 1) := by decide +kernel
theorem d_M_apply_43 : decode b_M_apply 43 = .ok (.getfield 13, 3) := by decide +kernel
theorem d_M_apply_46 : decode b_M_apply 46 = .ok (.iload_n 3, 1) := by decide +kernel
theorem d_M_apply_47 : decode b_M_apply 47 = .ok (.iaload, 1) := by decide +kernel
theorem d_M_apply_48 : decode b_M_apply 48 = .ok (.if_icmp .eq 7, 3) := by decide +kernel
theorem d_M_apply_51 : decode b_M_apply 51 = .ok (.iconst 1, 1) := by decide +kernel
theorem d_M_apply_52 : decode b_M_apply 52 = .ok (.goto 4, 3) := by decide +kernel
theorem d_M_apply_55 : decode b_M_apply 55 = .ok (.iconst 0, 1) := by decide +kernel
theorem d_M_apply_56 : decode b_M_apply 56 = .ok (.istore_n 2, 1) := by decide +kernel
theorem d_M_apply_57 : decode b_M_apply 57 = .ok (.iinc 3 1, 3) := by decide +kernel
theorem d_M_apply_60 : decode b_M_apply 60 = .ok (.goto (-51), 3) := by decide +kernel
theorem d_M_apply_63 : decode b_M_apply 63 = .ok (.aload_n 0, 1) := by decide +kernel
theorem d_M_apply_64 : decode b_M_apply 64 = .ok (.iload_n 1, 1) := by decide +kernel
theorem d_M_apply_65 : decode b_M_apply 65 = .ok (.ifCond .ne 7, 3) := by decide +kernel
theorem d_M_apply_68 : decode b_M_apply 68 = .ok (.iconst 1, 1) := by decide +kernel
theorem d_M_apply_69 : decode b_M_apply 69 = .ok (.goto 31, 3) := by decide +kernel
theorem d_M_apply_72 : decode b_M_apply 72 = .ok (.iload_n 2, 1) := by decide +kernel
theorem d_M_apply_73 : decode b_M_apply 73 = .ok (.ifCond .eq 7, 3) := by decide +kernel
theorem d_M_apply_76 : decode b_M_apply 76 = .ok (.iconst 2, 1) := by decide +kernel
theorem d_M_apply_77 : decode b_M_apply 77 = .ok (.goto 23, 3) := by decide +kernel
theorem d_M_apply_80 : decode b_M_apply 80 = .ok (.aload_n 0, 1) := by decide +kernel
theorem d_M_apply_81 : decode b_M_apply 81 = .ok (.getfield 26, 3) := by decide +kernel
theorem d_M_apply_84 : decode b_M_apply 84 = .ok (.ifCond .ge 11, 3) := by decide +kernel
theorem d_M_apply_87 : decode b_M_apply 87 = .ok (.aload_n 0, 1) := by decide +kernel
theorem d_M_apply_88 : decode b_M_apply 88 = .ok (.getfield 69, 3) := by decide +kernel
theorem d_M_apply_91 : decode b_M_apply 91 = .ok (.iconst 5, 1) := by decide +kernel
theorem d_M_apply_92 : decode b_M_apply 92 = .ok (.if_icmp .ne 7, 3) := by decide +kernel
theorem d_M_apply_95 : decode b_M_apply 95 = .ok (.iconst 3, 1) := by decide +kernel
theorem d_M_apply_96 : decode b_M_apply 96 = .ok (.goto 4, 3) := by decide +kernel
theorem d_M_apply_99 : decode b_M_apply 99 = .ok (.iconst 0, 1) := by decide +kernel
theorem d_M_apply_100 : decode b_M_apply 100 = .ok (.putfield 63, 3) := by decide +kernel
theorem d_M_apply_103 : decode b_M_apply 103 = .ok (.iconst 0, 1) := by decide +kernel
theorem d_M_apply_104 : decode b_M_apply 104 = .ok (.istore_n 3, 1) := by decide +kernel
theorem d_M_apply_105 : decode b_M_apply 105 = .ok (.iload_n 3, 1) := by decide +kernel
theorem d_M_apply_106 : decode b_M_apply 106 = .ok (.bipush 8, 2) := by decide +kernel
theorem d_M_apply_108 : decode b_M_apply 108 = .ok (.if_icmp .ge 42, 3) := by decide +kernel
theorem d_M_apply_111 : decode b_M_apply 111 = .ok (.aload_n 0, 1) := by decide +kernel
theorem d_M_apply_112 : decode b_M_apply 112 = .ok (.getfield 63, 3) := by decide +kernel
theorem d_M_apply_115 : decode b_M_apply 115 = .ok (.ifCond .ne 19, 3) := by decide +kernel
theorem d_M_apply_118 : decode b_M_apply 118 = .ok (.aload_n 0, 1) := by decide +kernel
theorem d_M_apply_119 : decode b_M_apply 119 = .ok (.iload_n 3, 1) := by decide +kernel
theorem d_M_apply_120 : decode b_M_apply 120 = .ok (.bipush 8, 2) := by decide +kernel
theorem d_M_apply_122 : decode b_M_apply 122 = .ok (.aload_n 0, 1) := by decide +kernel
theorem d_M_apply_123 : decode b_M_apply 123 = .ok (.getfield 69, 3) := by decide +kernel
theorem d_M_apply_126 : decode b_M_apply 126 = .ok (.iconst 1, 1) := by decide +kernel
theorem d_M_apply_127 : decode b_M_apply 127 = .ok (.iadd, 1) := by decide +kernel
theorem d_M_apply_128 : decode b_M_apply 128 = .ok (.imul, 1) := by decide +kernel
theorem d_M_apply_129 : decode b_M_apply 129 = .ok (.iload_n 3, 1) := by decide +kernel
theorem d_M_apply_130 : decode b_M_apply 130 = .ok (.iadd, 1) := by decide +kernel
theorem d_M_apply_131 : decode b_M_apply 131 = .ok (.invokevirtual 86, 3) := by decide +kernel
theorem d_M_apply_134 : decode b_M_apply 134 = .ok (.aload_n 0, 1) := by decide +kernel
theorem d_M_apply_135 : decode b_M_apply 135 = .ok (.getfield 7, 3) := by decide +kernel
theorem d_M_apply_138 : decode b_M_apply 138 = .ok (.bipush 48, 2) := by decide +kernel
theorem d_M_apply_140 : decode b_M_apply 140 = .ok (.iload_n 3, 1) := by decide +kernel
theorem d_M_apply_141 : decode b_M_apply 141 = .ok (.iadd, 1) := by decide +kernel
theorem d_M_apply_142 : decode b_M_apply 142 = .ok (.iconst 0, 1) := by decide +kernel
theorem d_M_apply_143 : decode b_M_apply 143 = .ok (.bastore, 1) := by decide +kernel
theorem d_M_apply_144 : decode b_M_apply 144 = .ok (.iinc 3 1, 3) := by decide +kernel
theorem d_M_apply_147 : decode b_M_apply 147 = .ok (.goto (-42), 3) := by decide +kernel
theorem d_M_apply_150 : decode b_M_apply 150 = .ok (.aload_n 0, 1) := by decide +kernel
theorem d_M_apply_151 : decode b_M_apply 151 = .ok (.iconst 0, 1) := by decide +kernel
theorem d_M_apply_152 : decode b_M_apply 152 = .ok (.putfield 83, 3) := by decide +kernel
theorem d_M_apply_155 : decode b_M_apply 155 = .ok (.aload_n 0, 1) := by decide +kernel
theorem d_M_apply_156 : decode b_M_apply 156 = .ok (.getfield 63, 3) := by decide +kernel
theorem d_M_apply_159 : decode b_M_apply 159 = .ok (.ifCond .le 5, 3) := by decide +kernel
theorem d_M_apply_162 : decode b_M_apply 162 = .ok (.iconst 0, 1) := by decide +kernel
theorem d_M_apply_163 : decode b_M_apply 163 = .ok (.ireturn, 1) := by decide +kernel
theorem d_M_apply_164 : decode b_M_apply 164 = .ok (.aload_n 0, 1) := by decide +kernel
theorem d_M_apply_165 : decode b_M_apply 165 = .ok (.dup, 1) := by decide +kernel
theorem d_M_apply_166 : decode b_M_apply 166 = .ok (.getfield 69, 3) := by decide +kernel
theorem d_M_apply_169 : decode b_M_apply 169 = .ok (.iconst 1, 1) := by decide +kernel
theorem d_M_apply_170 : decode b_M_apply 170 = .ok (.iadd, 1) := by decide +kernel
theorem d_M_apply_171 : decode b_M_apply 171 = .ok (.putfield 69, 3) := by decide +kernel
theorem d_M_apply_174 : decode b_M_apply 174 = .ok (.aload_n 0, 1) := by decide +kernel
theorem d_M_apply_175 : decode b_M_apply 175 = .ok (.aload_n 0, 1) := by decide +kernel
theorem d_M_apply_176 : decode b_M_apply 176 = .ok (.getfield 69, 3) := by decide +kernel
theorem d_M_apply_179 : decode b_M_apply 179 = .ok (.putfield 26, 3) := by decide +kernel
theorem d_M_apply_182 : decode b_M_apply 182 = .ok (.aload_n 0, 1) := by decide +kernel
theorem d_M_apply_183 : decode b_M_apply 183 = .ok (.getfield 69, 3) := by decide +kernel
theorem d_M_apply_186 : decode b_M_apply 186 = .ok (.istore_n 3, 1) := by decide +kernel
theorem d_M_apply_187 : decode b_M_apply 187 = .ok (.aload_n 0, 1) := by decide +kernel
theorem d_M_apply_188 : decode b_M_apply 188 = .ok (.invokevirtual 90, 3) := by decide +kernel
theorem d_M_apply_191 : decode b_M_apply 191 = .ok (.iload_n 3, 1) := by decide +kernel
theorem d_M_apply_192 : decode b_M_apply 192 = .ok (.ireturn, 1) := by decide +kernel
theorem d_M_takeBody_0 : decode b_M_takeBody 0 = .ok (.aload_n 0, 1) := by decide +kernel
theorem d_M_takeBody_1 : decode b_M_takeBody 1 = .ok (.getfield 7, 3) := by decide +kernel
theorem d_M_takeBody_4 : decode b_M_takeBody 4 = .ok (.iload_n 2, 1) := by decide +kernel
theorem d_M_takeBody_5 : decode b_M_takeBody 5 = .ok (.aload_n 0, 1) := by decide +kernel
theorem d_M_takeBody_6 : decode b_M_takeBody 6 = .ok (.getfield 7, 3) := by decide +kernel
theorem d_M_takeBody_9 : decode b_M_takeBody 9 = .ok (.bipush 48, 2) := by decide +kernel
theorem d_M_takeBody_11 : decode b_M_takeBody 11 = .ok (.iload_n 1, 1) := by decide +kernel
theorem d_M_takeBody_12 : decode b_M_takeBody 12 = .ok (.iadd, 1) := by decide +kernel
theorem d_M_takeBody_13 : decode b_M_takeBody 13 = .ok (.baload, 1) := by decide +kernel
theorem d_M_takeBody_14 : decode b_M_takeBody 14 = .ok (.bastore, 1) := by decide +kernel
theorem d_M_takeBody_15 : decode b_M_takeBody 15 = .ok (.aload_n 0, 1) := by decide +kernel
theorem d_M_takeBody_16 : decode b_M_takeBody 16 = .ok (.getfield 17, 3) := by decide +kernel
theorem d_M_takeBody_19 : decode b_M_takeBody 19 = .ok (.iload_n 2, 1) := by decide +kernel
theorem d_M_takeBody_20 : decode b_M_takeBody 20 = .ok (.aload_n 0, 1) := by decide +kernel
theorem d_M_takeBody_21 : decode b_M_takeBody 21 = .ok (.getfield 17, 3) := by decide +kernel
theorem d_M_takeBody_24 : decode b_M_takeBody 24 = .ok (.bipush 48, 2) := by decide +kernel
theorem d_M_takeBody_26 : decode b_M_takeBody 26 = .ok (.iload_n 1, 1) := by decide +kernel
theorem d_M_takeBody_27 : decode b_M_takeBody 27 = .ok (.iadd, 1) := by decide +kernel
theorem d_M_takeBody_28 : decode b_M_takeBody 28 = .ok (.iaload, 1) := by decide +kernel
theorem d_M_takeBody_29 : decode b_M_takeBody 29 = .ok (.iastore, 1) := by decide +kernel
theorem d_M_takeBody_30 : decode b_M_takeBody 30 = .ok (.iconst 0, 1) := by decide +kernel
theorem d_M_takeBody_31 : decode b_M_takeBody 31 = .ok (.istore_n 3, 1) := by decide +kernel
theorem d_M_takeBody_32 : decode b_M_takeBody 32 = .ok (.iload_n 3, 1) := by decide +kernel
theorem d_M_takeBody_33 : decode b_M_takeBody 33 = .ok (.bipush 12, 2) := by decide +kernel
theorem d_M_takeBody_35 : decode b_M_takeBody 35 = .ok (.if_icmp .ge 59, 3) := by decide +kernel
theorem d_M_takeBody_38 : decode b_M_takeBody 38 = .ok (.aload_n 0, 1) := by decide +kernel
theorem d_M_takeBody_39 : decode b_M_takeBody 39 = .ok (.getfield 20, 3) := by decide +kernel
theorem d_M_takeBody_42 : decode b_M_takeBody 42 = .ok (.bipush 12, 2) := by decide +kernel
theorem d_M_takeBody_44 : decode b_M_takeBody 44 = .ok (.iload_n 2, 1) := by decide +kernel
theorem d_M_takeBody_45 : decode b_M_takeBody 45 = .ok (.imul, 1) := by decide +kernel
theorem d_M_takeBody_46 : decode b_M_takeBody 46 = .ok (.iload_n 3, 1) := by decide +kernel
theorem d_M_takeBody_47 : decode b_M_takeBody 47 = .ok (.iadd, 1) := by decide +kernel
theorem d_M_takeBody_48 : decode b_M_takeBody 48 = .ok (.aload_n 0, 1) := by decide +kernel
theorem d_M_takeBody_49 : decode b_M_takeBody 49 = .ok (.getfield 20, 3) := by decide +kernel
theorem d_M_takeBody_52 : decode b_M_takeBody 52 = .ok (.bipush 12, 2) := by decide +kernel
theorem d_M_takeBody_54 : decode b_M_takeBody 54 = .ok (.bipush 48, 2) := by decide +kernel
theorem d_M_takeBody_56 : decode b_M_takeBody 56 = .ok (.iload_n 1, 1) := by decide +kernel
theorem d_M_takeBody_57 : decode b_M_takeBody 57 = .ok (.iadd, 1) := by decide +kernel
theorem d_M_takeBody_58 : decode b_M_takeBody 58 = .ok (.imul, 1) := by decide +kernel
theorem d_M_takeBody_59 : decode b_M_takeBody 59 = .ok (.iload_n 3, 1) := by decide +kernel
theorem d_M_takeBody_60 : decode b_M_takeBody 60 = .ok (.iadd, 1) := by decide +kernel
theorem d_M_takeBody_61 : decode b_M_takeBody 61 = .ok (.iaload, 1) := by decide +kernel
theorem d_M_takeBody_62 : decode b_M_takeBody 62 = .ok (.iastore, 1) := by decide +kernel
theorem d_M_takeBody_63 : decode b_M_takeBody 63 = .ok (.aload_n 0, 1) := by decide +kernel
theorem d_M_takeBody_64 : decode b_M_takeBody 64 = .ok (.getfield 23, 3) := by decide +kernel
theorem d_M_takeBody_67 : decode b_M_takeBody 67 = .ok (.bipush 12, 2) := by decide +kernel
theorem d_M_takeBody_69 : decode b_M_takeBody 69 = .ok (.iload_n 2, 1) := by decide +kernel
theorem d_M_takeBody_70 : decode b_M_takeBody 70 = .ok (.imul, 1) := by decide +kernel
theorem d_M_takeBody_71 : decode b_M_takeBody 71 = .ok (.iload_n 3, 1) := by decide +kernel
theorem d_M_takeBody_72 : decode b_M_takeBody 72 = .ok (.iadd, 1) := by decide +kernel
theorem d_M_takeBody_73 : decode b_M_takeBody 73 = .ok (.aload_n 0, 1) := by decide +kernel
theorem d_M_takeBody_74 : decode b_M_takeBody 74 = .ok (.getfield 23, 3) := by decide +kernel
theorem d_M_takeBody_77 : decode b_M_takeBody 77 = .ok (.bipush 12, 2) := by decide +kernel
theorem d_M_takeBody_79 : decode b_M_takeBody 79 = .ok (.bipush 48, 2) := by decide +kernel
theorem d_M_takeBody_81 : decode b_M_takeBody 81 = .ok (.iload_n 1, 1) := by decide +kernel
theorem d_M_takeBody_82 : decode b_M_takeBody 82 = .ok (.iadd, 1) := by decide +kernel
theorem d_M_takeBody_83 : decode b_M_takeBody 83 = .ok (.imul, 1) := by decide +kernel
theorem d_M_takeBody_84 : decode b_M_takeBody 84 = .ok (.iload_n 3, 1) := by decide +kernel
theorem d_M_takeBody_85 : decode b_M_takeBody 85 = .ok (.iadd, 1) := by decide +kernel
theorem d_M_takeBody_86 : decode b_M_takeBody 86 = .ok (.iaload, 1) := by decide +kernel
theorem d_M_takeBody_87 : decode b_M_takeBody 87 = .ok (.iastore, 1) := by decide +kernel
theorem d_M_takeBody_88 : decode b_M_takeBody 88 = .ok (.iinc 3 1, 3) := by decide +kernel
theorem d_M_takeBody_91 : decode b_M_takeBody 91 = .ok (.goto (-59), 3) := by decide +kernel
theorem d_M_takeBody_94 : decode b_M_takeBody 94 = .ok (.return_, 1) := by decide +kernel
theorem d_M_settle_0 : decode b_M_settle 0 = .ok (.iconst 1, 1) := by decide +kernel
theorem d_M_settle_1 : decode b_M_settle 1 = .ok (.istore_n 1, 1) := by decide +kernel
theorem d_M_settle_2 : decode b_M_settle 2 = .ok (.iconst 0, 1) := by decide +kernel
theorem d_M_settle_3 : decode b_M_settle 3 = .ok (.istore_n 2, 1) := by decide +kernel
theorem d_M_settle_4 : decode b_M_settle 4 = .ok (.iload_n 2, 1) := by decide +kernel
theorem d_M_settle_5 : decode b_M_settle 5 = .ok (.aload_n 0, 1) := by decide +kernel
theorem d_M_settle_6 : decode b_M_settle 6 = .ok (.getfield 66, 3) := by decide +kernel
theorem d_M_settle_9 : decode b_M_settle 9 = .ok (.if_icmp .ge 32, 3) := by decide +kernel
theorem d_M_settle_12 : decode b_M_settle 12 = .ok (.iload_n 1, 1) := by decide +kernel
theorem d_M_settle_13 : decode b_M_settle 13 = .ok (.ifCond .eq 20, 3) := by decide +kernel
theorem d_M_settle_16 : decode b_M_settle 16 = .ok (.aload_n 0, 1) := by decide +kernel
theorem d_M_settle_17 : decode b_M_settle 17 = .ok (.getfield 33, 3) := by decide +kernel
theorem d_M_settle_20 : decode b_M_settle 20 = .ok (.iload_n 2, 1) := by decide +kernel
theorem d_M_settle_21 : decode b_M_settle 21 = .ok (.iaload, 1) := by decide +kernel
theorem d_M_settle_22 : decode b_M_settle 22 = .ok (.aload_n 0, 1) := by decide +kernel
theorem d_M_settle_23 : decode b_M_settle 23 = .ok (.getfield 26, 3) := by decide +kernel
theorem d_M_settle_26 : decode b_M_settle 26 = .ok (.if_icmp .ne 7, 3) := by decide +kernel
theorem d_M_settle_29 : decode b_M_settle 29 = .ok (.iconst 1, 1) := by decide +kernel
theorem d_M_settle_30 : decode b_M_settle 30 = .ok (.goto 4, 3) := by decide +kernel
theorem d_M_settle_33 : decode b_M_settle 33 = .ok (.iconst 0, 1) := by decide +kernel
theorem d_M_settle_34 : decode b_M_settle 34 = .ok (.istore_n 1, 1) := by decide +kernel
theorem d_M_settle_35 : decode b_M_settle 35 = .ok (.iinc 2 1, 3) := by decide +kernel
theorem d_M_settle_38 : decode b_M_settle 38 = .ok (.goto (-34), 3) := by decide +kernel
theorem d_M_settle_41 : decode b_M_settle 41 = .ok (.iload_n 1, 1) := by decide +kernel
theorem d_M_settle_42 : decode b_M_settle 42 = .ok (.ifCond .ne 4, 3) := by decide +kernel
theorem d_M_settle_45 : decode b_M_settle 45 = .ok (.return_, 1) := by decide +kernel
theorem d_M_settle_46 : decode b_M_settle 46 = .ok (.aload_n 0, 1) := by decide +kernel
theorem d_M_settle_47 : decode b_M_settle 47 = .ok (.aload_n 0, 1) := by decide +kernel
theorem d_M_settle_48 : decode b_M_settle 48 = .ok (.getfield 26, 3) := by decide +kernel
theorem d_M_settle_51 : decode b_M_settle 51 = .ok (.putfield 69, 3) := by decide +kernel
theorem d_M_settle_54 : decode b_M_settle 54 = .ok (.aload_n 0, 1) := by decide +kernel
theorem d_M_settle_55 : decode b_M_settle 55 = .ok (.iconst (-1), 1) := by decide +kernel
theorem d_M_settle_56 : decode b_M_settle 56 = .ok (.putfield 26, 3) := by decide +kernel
theorem d_M_settle_59 : decode b_M_settle 59 = .ok (.return_, 1) := by decide +kernel
theorem d_M_turn_0 : decode b_M_turn 0 = .ok (.aload_n 0, 1) := by decide +kernel
theorem d_M_turn_1 : decode b_M_turn 1 = .ok (.aload_n 0, 1) := by decide +kernel
theorem d_M_turn_2 : decode b_M_turn 2 = .ok (.getfield 26, 3) := by decide +kernel
theorem d_M_turn_5 : decode b_M_turn 5 = .ok (.ifCond .ge 10, 3) := by decide +kernel
theorem d_M_turn_8 : decode b_M_turn 8 = .ok (.aload_n 0, 1) := by decide +kernel
theorem d_M_turn_9 : decode b_M_turn 9 = .ok (.getfield 69, 3) := by decide +kernel
theorem d_M_turn_12 : decode b_M_turn 12 = .ok (.ifCond .le 7, 3) := by decide +kernel
theorem d_M_turn_15 : decode b_M_turn 15 = .ok (.iconst 0, 1) := by decide +kernel
theorem d_M_turn_16 : decode b_M_turn 16 = .ok (.goto 4, 3) := by decide +kernel
theorem d_M_turn_19 : decode b_M_turn 19 = .ok (.iconst 1, 1) := by decide +kernel
theorem d_M_turn_20 : decode b_M_turn 20 = .ok (.putfield 63, 3) := by decide +kernel
theorem d_M_turn_23 : decode b_M_turn 23 = .ok (.aload_n 0, 1) := by decide +kernel
theorem d_M_turn_24 : decode b_M_turn 24 = .ok (.getfield 63, 3) := by decide +kernel
theorem d_M_turn_27 : decode b_M_turn 27 = .ok (.ifCond .le 5, 3) := by decide +kernel
theorem d_M_turn_30 : decode b_M_turn 30 = .ok (.iconst 0, 1) := by decide +kernel
theorem d_M_turn_31 : decode b_M_turn 31 = .ok (.ireturn, 1) := by decide +kernel
theorem d_M_turn_32 : decode b_M_turn 32 = .ok (.aload_n 0, 1) := by decide +kernel
theorem d_M_turn_33 : decode b_M_turn 33 = .ok (.aload_n 0, 1) := by decide +kernel
theorem d_M_turn_34 : decode b_M_turn 34 = .ok (.getfield 26, 3) := by decide +kernel
theorem d_M_turn_37 : decode b_M_turn 37 = .ok (.aload_n 0, 1) := by decide +kernel
theorem d_M_turn_38 : decode b_M_turn 38 = .ok (.getfield 69, 3) := by decide +kernel
theorem d_M_turn_41 : decode b_M_turn 41 = .ok (.iconst 1, 1) := by decide +kernel
theorem d_M_turn_42 : decode b_M_turn 42 = .ok (.isub, 1) := by decide +kernel
theorem d_M_turn_43 : decode b_M_turn 43 = .ok (.if_icmp .ne 10, 3) := by decide +kernel
theorem d_M_turn_46 : decode b_M_turn 46 = .ok (.aload_n 0, 1) := by decide +kernel
theorem d_M_turn_47 : decode b_M_turn 47 = .ok (.getfield 69, 3) := by decide +kernel
theorem d_M_turn_50 : decode b_M_turn 50 = .ok (.goto 9, 3) := by decide +kernel
theorem d_M_turn_53 : decode b_M_turn 53 = .ok (.aload_n 0, 1) := by decide +kernel
theorem d_M_turn_54 : decode b_M_turn 54 = .ok (.getfield 69, 3) := by decide +kernel
theorem d_M_turn_57 : decode b_M_turn 57 = .ok (.iconst 1, 1) := by decide +kernel
theorem d_M_turn_58 : decode b_M_turn 58 = .ok (.isub, 1) := by decide +kernel
theorem d_M_turn_59 : decode b_M_turn 59 = .ok (.putfield 26, 3) := by decide +kernel
theorem d_M_turn_62 : decode b_M_turn 62 = .ok (.aload_n 0, 1) := by decide +kernel
theorem d_M_turn_63 : decode b_M_turn 63 = .ok (.getfield 26, 3) := by decide +kernel
theorem d_M_turn_66 : decode b_M_turn 66 = .ok (.istore_n 1, 1) := by decide +kernel
theorem d_M_turn_67 : decode b_M_turn 67 = .ok (.aload_n 0, 1) := by decide +kernel
theorem d_M_turn_68 : decode b_M_turn 68 = .ok (.invokevirtual 90, 3) := by decide +kernel
theorem d_M_turn_71 : decode b_M_turn 71 = .ok (.iload_n 1, 1) := by decide +kernel
theorem d_M_turn_72 : decode b_M_turn 72 = .ok (.ireturn, 1) := by decide +kernel
theorem d_M_task_0 : decode b_M_task 0 = .ok (.aload_n 0, 1) := by decide +kernel
theorem d_M_task_1 : decode b_M_task 1 = .ok (.iload_n 1, 1) := by decide +kernel
theorem d_M_task_2 : decode b_M_task 2 = .ok (.iconst 0, 1) := by decide +kernel
theorem d_M_task_3 : decode b_M_task 3 = .ok (.aload_n 0, 1) := by decide +kernel
theorem d_M_task_4 : decode b_M_task 4 = .ok (.getfield 76, 3) := by decide +kernel
theorem d_M_task_7 : decode b_M_task 7 = .ok (.iconst 1, 1) := by decide +kernel
theorem d_M_task_8 : decode b_M_task 8 = .ok (.isub, 1) := by decide +kernel
theorem d_M_task_9 : decode b_M_task 9 = .ok (.invokestatic 72, 3) := by decide +kernel
theorem d_M_task_12 : decode b_M_task 12 = .ok (.ifCond .ne 7, 3) := by decide +kernel
theorem d_M_task_15 : decode b_M_task 15 = .ok (.iconst 1, 1) := by decide +kernel
theorem d_M_task_16 : decode b_M_task 16 = .ok (.goto 16, 3) := by decide +kernel
theorem d_M_task_19 : decode b_M_task 19 = .ok (.aload_n 0, 1) := by decide +kernel
theorem d_M_task_20 : decode b_M_task 20 = .ok (.getfield 66, 3) := by decide +kernel
theorem d_M_task_23 : decode b_M_task 23 = .ok (.iconst 4, 1) := by decide +kernel
theorem d_M_task_24 : decode b_M_task 24 = .ok (.if_icmp .ne 7, 3) := by decide +kernel
theorem d_M_task_27 : decode b_M_task 27 = .ok (.iconst 2, 1) := by decide +kernel
theorem d_M_task_28 : decode b_M_task 28 = .ok (.goto 4, 3) := by decide +kernel
theorem d_M_task_31 : decode b_M_task 31 = .ok (.iconst 0, 1) := by decide +kernel
theorem d_M_task_32 : decode b_M_task 32 = .ok (.putfield 63, 3) := by decide +kernel
theorem d_M_task_35 : decode b_M_task 35 = .ok (.aload_n 0, 1) := by decide +kernel
theorem d_M_task_36 : decode b_M_task 36 = .ok (.getfield 63, 3) := by decide +kernel
theorem d_M_task_39 : decode b_M_task 39 = .ok (.ifCond .le 5, 3) := by decide +kernel
theorem d_M_task_42 : decode b_M_task 42 = .ok (.iconst 0, 1) := by decide +kernel
theorem d_M_task_43 : decode b_M_task 43 = .ok (.ireturn, 1) := by decide +kernel
theorem d_M_task_44 : decode b_M_task 44 = .ok (.aload_n 0, 1) := by decide +kernel
theorem d_M_task_45 : decode b_M_task 45 = .ok (.getfield 30, 3) := by decide +kernel
theorem d_M_task_48 : decode b_M_task 48 = .ok (.aload_n 0, 1) := by decide +kernel
theorem d_M_task_49 : decode b_M_task 49 = .ok (.getfield 66, 3) := by decide +kernel
theorem d_M_task_52 : decode b_M_task 52 = .ok (.iload_n 1, 1) := by decide +kernel
theorem d_M_task_53 : decode b_M_task 53 = .ok (.iastore, 1) := by decide +kernel
theorem d_M_task_54 : decode b_M_task 54 = .ok (.aload_n 0, 1) := by decide +kernel
theorem d_M_task_55 : decode b_M_task 55 = .ok (.getfield 33, 3) := by decide +kernel
theorem d_M_task_58 : decode b_M_task 58 = .ok (.aload_n 0, 1) := by decide +kernel
theorem d_M_task_59 : decode b_M_task 59 = .ok (.getfield 66, 3) := by decide +kernel
theorem d_M_task_62 : decode b_M_task 62 = .ok (.aload_n 0, 1) := by decide +kernel
theorem d_M_task_63 : decode b_M_task 63 = .ok (.getfield 26, 3) := by decide +kernel
theorem d_M_task_66 : decode b_M_task 66 = .ok (.ifCond .ge 10, 3) := by decide +kernel
theorem d_M_task_69 : decode b_M_task 69 = .ok (.aload_n 0, 1) := by decide +kernel
theorem d_M_task_70 : decode b_M_task 70 = .ok (.getfield 69, 3) := by decide +kernel
theorem d_M_task_73 : decode b_M_task 73 = .ok (.goto 7, 3) := by decide +kernel
theorem d_M_task_76 : decode b_M_task 76 = .ok (.aload_n 0, 1) := by decide +kernel
theorem d_M_task_77 : decode b_M_task 77 = .ok (.getfield 26, 3) := by decide +kernel
theorem d_M_task_80 : decode b_M_task 80 = .ok (.iastore, 1) := by decide +kernel
theorem d_M_task_81 : decode b_M_task 81 = .ok (.aload_n 0, 1) := by decide +kernel
theorem d_M_task_82 : decode b_M_task 82 = .ok (.dup, 1) := by decide +kernel
theorem d_M_task_83 : decode b_M_task 83 = .ok (.getfield 66, 3) := by decide +kernel
theorem d_M_task_86 : decode b_M_task 86 = .ok (.iconst 1, 1) := by decide +kernel
theorem d_M_task_87 : decode b_M_task 87 = .ok (.iadd, 1) := by decide +kernel
theorem d_M_task_88 : decode b_M_task 88 = .ok (.putfield 66, 3) := by decide +kernel
theorem d_M_task_91 : decode b_M_task 91 = .ok (.aload_n 0, 1) := by decide +kernel
theorem d_M_task_92 : decode b_M_task 92 = .ok (.aload_n 0, 1) := by decide +kernel
theorem d_M_task_93 : decode b_M_task 93 = .ok (.getfield 66, 3) := by decide +kernel
theorem d_M_task_96 : decode b_M_task 96 = .ok (.iconst 1, 1) := by decide +kernel
theorem d_M_task_97 : decode b_M_task 97 = .ok (.isub, 1) := by decide +kernel
theorem d_M_task_98 : decode b_M_task 98 = .ok (.iload_n 1, 1) := by decide +kernel
theorem d_M_task_99 : decode b_M_task 99 = .ok (.invokevirtual 97, 3) := by decide +kernel
theorem d_M_task_102 : decode b_M_task 102 = .ok (.aload_n 0, 1) := by decide +kernel
theorem d_M_task_103 : decode b_M_task 103 = .ok (.getfield 66, 3) := by decide +kernel
theorem d_M_task_106 : decode b_M_task 106 = .ok (.iconst 1, 1) := by decide +kernel
theorem d_M_task_107 : decode b_M_task 107 = .ok (.isub, 1) := by decide +kernel
theorem d_M_task_108 : decode b_M_task 108 = .ok (.ireturn, 1) := by decide +kernel
theorem d_M_enter_0 : decode b_M_enter 0 = .ok (.aload_n 0, 1) := by decide +kernel
theorem d_M_enter_1 : decode b_M_enter 1 = .ok (.getfield 48, 3) := by decide +kernel
theorem d_M_enter_4 : decode b_M_enter 4 = .ok (.iload_n 1, 1) := by decide +kernel
theorem d_M_enter_5 : decode b_M_enter 5 = .ok (.iaload, 1) := by decide +kernel
theorem d_M_enter_6 : decode b_M_enter 6 = .ok (.bipush 6, 2) := by decide +kernel
theorem d_M_enter_8 : decode b_M_enter 8 = .ok (.if_icmp .ne 4, 3) := by decide +kernel
theorem d_M_enter_11 : decode b_M_enter 11 = .ok (.return_, 1) := by decide +kernel
theorem d_M_enter_12 : decode b_M_enter 12 = .ok (.bipush 6, 2) := by decide +kernel
theorem d_M_enter_14 : decode b_M_enter 14 = .ok (.iload_n 1, 1) := by decide +kernel
theorem d_M_enter_15 : decode b_M_enter 15 = .ok (.imul, 1) := by decide +kernel
theorem d_M_enter_16 : decode b_M_enter 16 = .ok (.aload_n 0, 1) := by decide +kernel
theorem d_M_enter_17 : decode b_M_enter 17 = .ok (.getfield 48, 3) := by decide +kernel
theorem d_M_enter_20 : decode b_M_enter 20 = .ok (.iload_n 1, 1) := by decide +kernel
theorem d_M_enter_21 : decode b_M_enter 21 = .ok (.iaload, 1) := by decide +kernel
theorem d_M_enter_22 : decode b_M_enter 22 = .ok (.iadd, 1) := by decide +kernel
theorem d_M_enter_23 : decode b_M_enter 23 = .ok (.istore_n 3, 1) := by decide +kernel
theorem d_M_enter_24 : decode b_M_enter 24 = .ok (.aload_n 0, 1) := by decide +kernel
theorem d_M_enter_25 : decode b_M_enter 25 = .ok (.getfield 51, 3) := by decide +kernel
theorem d_M_enter_28 : decode b_M_enter 28 = .ok (.iload_n 3, 1) := by decide +kernel
theorem d_M_enter_29 : decode b_M_enter 29 = .ok (.aload_n 0, 1) := by decide +kernel
theorem d_M_enter_30 : decode b_M_enter 30 = .ok (.iload_n 2, 1) := by decide +kernel
theorem d_M_enter_31 : decode b_M_enter 31 = .ok (.aload_n 0, 1) := by decide +kernel
theorem d_M_enter_32 : decode b_M_enter 32 = .ok (.getfield 33, 3) := by decide +kernel
theorem d_M_enter_35 : decode b_M_enter 35 = .ok (.iload_n 1, 1) := by decide +kernel
theorem d_M_enter_36 : decode b_M_enter 36 = .ok (.iaload, 1) := by decide +kernel
theorem d_M_enter_37 : decode b_M_enter 37 = .ok (.invokevirtual 93, 3) := by decide +kernel
theorem d_M_enter_40 : decode b_M_enter 40 = .ok (.iastore, 1) := by decide +kernel
theorem d_M_enter_41 : decode b_M_enter 41 = .ok (.aload_n 0, 1) := by decide +kernel
theorem d_M_enter_42 : decode b_M_enter 42 = .ok (.getfield 54, 3) := by decide +kernel
theorem d_M_enter_45 : decode b_M_enter 45 = .ok (.iload_n 3, 1) := by decide +kernel
theorem d_M_enter_46 : decode b_M_enter 46 = .ok (.aload_n 0, 1) := by decide +kernel
theorem d_M_enter_47 : decode b_M_enter 47 = .ok (.getfield 33, 3) := by decide +kernel
theorem d_M_enter_50 : decode b_M_enter 50 = .ok (.iload_n 1, 1) := by decide +kernel
theorem d_M_enter_51 : decode b_M_enter 51 = .ok (.iaload, 1) := by decide +kernel
theorem d_M_enter_52 : decode b_M_enter 52 = .ok (.iastore, 1) := by decide +kernel
theorem d_M_enter_53 : decode b_M_enter 53 = .ok (.aload_n 0, 1) := by decide +kernel
theorem d_M_enter_54 : decode b_M_enter 54 = .ok (.getfield 57, 3) := by decide +kernel
theorem d_M_enter_57 : decode b_M_enter 57 = .ok (.iload_n 3, 1) := by decide +kernel
theorem d_M_enter_58 : decode b_M_enter 58 = .ok (.iconst 0, 1) := by decide +kernel
theorem d_M_enter_59 : decode b_M_enter 59 = .ok (.iastore, 1) := by decide +kernel
theorem d_M_enter_60 : decode b_M_enter 60 = .ok (.aload_n 0, 1) := by decide +kernel
theorem d_M_enter_61 : decode b_M_enter 61 = .ok (.getfield 60, 3) := by decide +kernel
theorem d_M_enter_64 : decode b_M_enter 64 = .ok (.iload_n 3, 1) := by decide +kernel
theorem d_M_enter_65 : decode b_M_enter 65 = .ok (.iconst 0, 1) := by decide +kernel
theorem d_M_enter_66 : decode b_M_enter 66 = .ok (.iastore, 1) := by decide +kernel
theorem d_M_enter_67 : decode b_M_enter 67 = .ok (.aload_n 0, 1) := by decide +kernel
theorem d_M_enter_68 : decode b_M_enter 68 = .ok (.getfield 48, 3) := by decide +kernel
theorem d_M_enter_71 : decode b_M_enter 71 = .ok (.iload_n 1, 1) := by decide +kernel
theorem d_M_enter_72 : decode b_M_enter 72 = .ok (.dup2, 1) := by decide +kernel
theorem d_M_enter_73 : decode b_M_enter 73 = .ok (.iaload, 1) := by decide +kernel
theorem d_M_enter_74 : decode b_M_enter 74 = .ok (.iconst 1, 1) := by decide +kernel
theorem d_M_enter_75 : decode b_M_enter 75 = .ok (.iadd, 1) := by decide +kernel
theorem d_M_enter_76 : decode b_M_enter 76 = .ok (.iastore, 1) := by decide +kernel
theorem d_M_enter_77 : decode b_M_enter 77 = .ok (.return_, 1) := by decide +kernel
theorem d_M_bodyRow_0 : decode b_M_bodyRow 0 = .ok (.iload_n 1, 1) := by decide +kernel
theorem d_M_bodyRow_1 : decode b_M_bodyRow 1 = .ok (.istore_n 3, 1) := by decide +kernel
theorem d_M_bodyRow_2 : decode b_M_bodyRow 2 = .ok (.iconst 1, 1) := by decide +kernel
theorem d_M_bodyRow_3 : decode b_M_bodyRow 3 = .ok (.istore 4, 2) := by decide +kernel
theorem d_M_bodyRow_5 : decode b_M_bodyRow 5 = .ok (.iload 4, 2) := by decide +kernel
theorem d_M_bodyRow_7 : decode b_M_bodyRow 7 = .ok (.iload_n 2, 1) := by decide +kernel
theorem d_M_bodyRow_8 : decode b_M_bodyRow 8 = .ok (.if_icmp .gt 36, 3) := by decide +kernel
theorem d_M_bodyRow_11 : decode b_M_bodyRow 11 = .ok (.aload_n 0, 1) := by decide +kernel
theorem d_M_bodyRow_12 : decode b_M_bodyRow 12 = .ok (.getfield 7, 3) := by decide +kernel
theorem d_M_bodyRow_15 : decode b_M_bodyRow 15 = .ok (.bipush 8, 2) := by decide +kernel
theorem d_M_bodyRow_17 : decode b_M_bodyRow 17 = .ok (.iload 4, 2) := by decide +kernel
theorem d_M_bodyRow_19 : decode b_M_bodyRow 19 = .ok (.imul, 1) := by decide +kernel
theorem d_M_bodyRow_20 : decode b_M_bodyRow 20 = .ok (.iload_n 1, 1) := by decide +kernel
theorem d_M_bodyRow_21 : decode b_M_bodyRow 21 = .ok (.iadd, 1) := by decide +kernel
theorem d_M_bodyRow_22 : decode b_M_bodyRow 22 = .ok (.baload, 1) := by decide +kernel
theorem d_M_bodyRow_23 : decode b_M_bodyRow 23 = .ok (.ifCond .eq 13, 3) := by decide +kernel
theorem d_M_bodyRow_26 : decode b_M_bodyRow 26 = .ok (.bipush 8, 2) := by decide +kernel
theorem d_M_bodyRow_28 : decode b_M_bodyRow 28 = .ok (.iload 4, 2) := by decide +kernel
theorem d_M_bodyRow_30 : decode b_M_bodyRow 30 = .ok (.imul, 1) := by decide +kernel
theorem d_M_bodyRow_31 : decode b_M_bodyRow 31 = .ok (.iload_n 1, 1) := by decide +kernel
theorem d_M_bodyRow_32 : decode b_M_bodyRow 32 = .ok (.iadd, 1) := by decide +kernel
theorem d_M_bodyRow_33 : decode b_M_bodyRow 33 = .ok (.goto 4, 3) := by decide +kernel
theorem d_M_bodyRow_36 : decode b_M_bodyRow 36 = .ok (.iload_n 3, 1) := by decide +kernel
theorem d_M_bodyRow_37 : decode b_M_bodyRow 37 = .ok (.istore_n 3, 1) := by decide +kernel
theorem d_M_bodyRow_38 : decode b_M_bodyRow 38 = .ok (.iinc 4 1, 3) := by decide +kernel
theorem d_M_bodyRow_41 : decode b_M_bodyRow 41 = .ok (.goto (-36), 3) := by decide +kernel
theorem d_M_bodyRow_44 : decode b_M_bodyRow 44 = .ok (.iload_n 3, 1) := by decide +kernel
theorem d_M_bodyRow_45 : decode b_M_bodyRow 45 = .ok (.ireturn, 1) := by decide +kernel
theorem d_M_step_0 : decode b_M_step 0 = .ok (.aload_n 0, 1) := by decide +kernel
theorem d_M_step_1 : decode b_M_step 1 = .ok (.iload_n 1, 1) := by decide +kernel
theorem d_M_step_2 : decode b_M_step 2 = .ok (.iconst 0, 1) := by decide +kernel
theorem d_M_step_3 : decode b_M_step 3 = .ok (.aload_n 0, 1) := by decide +kernel
theorem d_M_step_4 : decode b_M_step 4 = .ok (.getfield 66, 3) := by decide +kernel
theorem d_M_step_7 : decode b_M_step 7 = .ok (.iconst 1, 1) := by decide +kernel
theorem d_M_step_8 : decode b_M_step 8 = .ok (.isub, 1) := by decide +kernel
theorem d_M_step_9 : decode b_M_step 9 = .ok (.invokestatic 72, 3) := by decide +kernel
theorem d_M_step_12 : decode b_M_step 12 = .ok (.ifCond .eq 17, 3) := by decide +kernel
theorem d_M_step_15 : decode b_M_step 15 = .ok (.iload_n 2, 1) := by decide +kernel
theorem d_M_step_16 : decode b_M_step 16 = .ok (.iconst 1, 1) := by decide +kernel
theorem d_M_step_17 : decode b_M_step 17 = .ok (.bipush 100, 2) := by decide +kernel
theorem d_M_step_19 : decode b_M_step 19 = .ok (.invokestatic 72, 3) := by decide +kernel
theorem d_M_step_22 : decode b_M_step 22 = .ok (.ifCond .eq 7, 3) := by decide +kernel
theorem d_M_step_25 : decode b_M_step 25 = .ok (.iconst 0, 1) := by decide +kernel
theorem d_M_step_26 : decode b_M_step 26 = .ok (.goto 4, 3) := by decide +kernel
theorem d_M_step_29 : decode b_M_step 29 = .ok (.iconst 1, 1) := by decide +kernel
theorem d_M_step_30 : decode b_M_step 30 = .ok (.putfield 63, 3) := by decide +kernel
theorem d_M_step_33 : decode b_M_step 33 = .ok (.iconst 0, 1) := by decide +kernel
theorem d_M_step_34 : decode b_M_step 34 = .ok (.istore_n 3, 1) := by decide +kernel
theorem d_M_step_35 : decode b_M_step 35 = .ok (.iconst 1, 1) := by decide +kernel
theorem d_M_step_36 : decode b_M_step 36 = .ok (.istore 4, 2) := by decide +kernel
theorem d_M_step_38 : decode b_M_step 38 = .ok (.iload 4, 2) := by decide +kernel
theorem d_M_step_40 : decode b_M_step 40 = .ok (.iload_n 2, 1) := by decide +kernel
theorem d_M_step_41 : decode b_M_step 41 = .ok (.if_icmp .gt 46, 3) := by decide +kernel
theorem d_M_step_44 : decode b_M_step 44 = .ok (.aload_n 0, 1) := by decide +kernel
theorem d_M_step_45 : decode b_M_step 45 = .ok (.getfield 63, 3) := by decide +kernel
theorem d_M_step_48 : decode b_M_step 48 = .ok (.ifCond .ne 39, 3) := by decide +kernel
theorem d_M_step_51 : decode b_M_step 51 = .ok (.aload_n 0, 1) := by decide +kernel
theorem d_M_step_52 : decode b_M_step 52 = .ok (.iload_n 1, 1) := by decide +kernel
theorem d_M_step_53 : decode b_M_step 53 = .ok (.invokevirtual 100, 3) := by decide +kernel
theorem d_M_step_56 : decode b_M_step 56 = .ok (.ifCond .eq 20, 3) := by decide +kernel
theorem d_M_step_59 : decode b_M_step 59 = .ok (.aload_n 0, 1) := by decide +kernel
theorem d_M_step_60 : decode b_M_step 60 = .ok (.getfield 33, 3) := by decide +kernel
theorem d_M_step_63 : decode b_M_step 63 = .ok (.iload_n 1, 1) := by decide +kernel
theorem d_M_step_64 : decode b_M_step 64 = .ok (.aload_n 0, 1) := by decide +kernel
theorem d_M_step_65 : decode b_M_step 65 = .ok (.getfield 26, 3) := by decide +kernel
theorem d_M_step_68 : decode b_M_step 68 = .ok (.iastore, 1) := by decide +kernel
theorem d_M_step_69 : decode b_M_step 69 = .ok (.aload_n 0, 1) := by decide +kernel
theorem d_M_step_70 : decode b_M_step 70 = .ok (.invokevirtual 90, 3) := by decide +kernel
theorem d_M_step_73 : decode b_M_step 73 = .ok (.iload 4, 2) := by decide +kernel
theorem d_M_step_75 : decode b_M_step 75 = .ok (.istore_n 3, 1) := by decide +kernel
theorem d_M_step_76 : decode b_M_step 76 = .ok (.aload_n 0, 1) := by decide +kernel
theorem d_M_step_77 : decode b_M_step 77 = .ok (.iload_n 1, 1) := by decide +kernel
theorem d_M_step_78 : decode b_M_step 78 = .ok (.invokevirtual 104, 3) := by decide +kernel
theorem d_M_step_81 : decode b_M_step 81 = .ok (.iinc 4 1, 3) := by decide +kernel
theorem d_M_step_84 : decode b_M_step 84 = .ok (.goto (-46), 3) := by decide +kernel
theorem d_M_step_87 : decode b_M_step 87 = .ok (.iload_n 3, 1) := by decide +kernel
theorem d_M_step_88 : decode b_M_step 88 = .ok (.ireturn, 1) := by decide +kernel
theorem d_M_goes_0 : decode b_M_goes 0 = .ok (.aload_n 0, 1) := by decide +kernel
theorem d_M_goes_1 : decode b_M_goes 1 = .ok (.getfield 26, 3) := by decide +kernel
theorem d_M_goes_4 : decode b_M_goes 4 = .ok (.ifCond .lt 16, 3) := by decide +kernel
theorem d_M_goes_7 : decode b_M_goes 7 = .ok (.aload_n 0, 1) := by decide +kernel
theorem d_M_goes_8 : decode b_M_goes 8 = .ok (.getfield 33, 3) := by decide +kernel
theorem d_M_goes_11 : decode b_M_goes 11 = .ok (.iload_n 1, 1) := by decide +kernel
theorem d_M_goes_12 : decode b_M_goes 12 = .ok (.iaload, 1) := by decide +kernel
theorem d_M_goes_13 : decode b_M_goes 13 = .ok (.aload_n 0, 1) := by decide +kernel
theorem d_M_goes_14 : decode b_M_goes 14 = .ok (.getfield 26, 3) := by decide +kernel
theorem d_M_goes_17 : decode b_M_goes 17 = .ok (.if_icmp .ne 5, 3) := by decide +kernel
theorem d_M_goes_20 : decode b_M_goes 20 = .ok (.iconst 0, 1) := by decide +kernel
theorem d_M_goes_21 : decode b_M_goes 21 = .ok (.ireturn, 1) := by decide +kernel
theorem d_M_goes_22 : decode b_M_goes 22 = .ok (.bipush 6, 2) := by decide +kernel
theorem d_M_goes_24 : decode b_M_goes 24 = .ok (.iload_n 1, 1) := by decide +kernel
theorem d_M_goes_25 : decode b_M_goes 25 = .ok (.imul, 1) := by decide +kernel
theorem d_M_goes_26 : decode b_M_goes 26 = .ok (.aload_n 0, 1) := by decide +kernel
theorem d_M_goes_27 : decode b_M_goes 27 = .ok (.getfield 48, 3) := by decide +kernel
theorem d_M_goes_30 : decode b_M_goes 30 = .ok (.iload_n 1, 1) := by decide +kernel
theorem d_M_goes_31 : decode b_M_goes 31 = .ok (.iaload, 1) := by decide +kernel
theorem d_M_goes_32 : decode b_M_goes 32 = .ok (.iadd, 1) := by decide +kernel
theorem d_M_goes_33 : decode b_M_goes 33 = .ok (.iconst 1, 1) := by decide +kernel
theorem d_M_goes_34 : decode b_M_goes 34 = .ok (.isub, 1) := by decide +kernel
theorem d_M_goes_35 : decode b_M_goes 35 = .ok (.istore_n 2, 1) := by decide +kernel
theorem d_M_goes_36 : decode b_M_goes 36 = .ok (.aload_n 0, 1) := by decide +kernel
theorem d_M_goes_37 : decode b_M_goes 37 = .ok (.getfield 57, 3) := by decide +kernel
theorem d_M_goes_40 : decode b_M_goes 40 = .ok (.iload_n 2, 1) := by decide +kernel
theorem d_M_goes_41 : decode b_M_goes 41 = .ok (.iaload, 1) := by decide +kernel
theorem d_M_goes_42 : decode b_M_goes 42 = .ok (.aload_n 0, 1) := by decide +kernel
theorem d_M_goes_43 : decode b_M_goes 43 = .ok (.getfield 17, 3) := by decide +kernel
theorem d_M_goes_46 : decode b_M_goes 46 = .ok (.aload_n 0, 1) := by decide +kernel
theorem d_M_goes_47 : decode b_M_goes 47 = .ok (.getfield 51, 3) := by decide +kernel
theorem d_M_goes_50 : decode b_M_goes 50 = .ok (.iload_n 2, 1) := by decide +kernel
theorem d_M_goes_51 : decode b_M_goes 51 = .ok (.iaload, 1) := by decide +kernel
theorem d_M_goes_52 : decode b_M_goes 52 = .ok (.iaload, 1) := by decide +kernel
theorem d_M_goes_53 : decode b_M_goes 53 = .ok (.if_icmp .ne 19, 3) := by decide +kernel
theorem d_M_goes_56 : decode b_M_goes 56 = .ok (.aload_n 0, 1) := by decide +kernel
theorem d_M_goes_57 : decode b_M_goes 57 = .ok (.getfield 48, 3) := by decide +kernel
theorem d_M_goes_60 : decode b_M_goes 60 = .ok (.iload_n 1, 1) := by decide +kernel
theorem d_M_goes_61 : decode b_M_goes 61 = .ok (.iaload, 1) := by decide +kernel
theorem d_M_goes_62 : decode b_M_goes 62 = .ok (.iconst 1, 1) := by decide +kernel
theorem d_M_goes_63 : decode b_M_goes 63 = .ok (.if_icmp .ne 7, 3) := by decide +kernel
theorem d_M_goes_66 : decode b_M_goes 66 = .ok (.iconst 1, 1) := by decide +kernel
theorem d_M_goes_67 : decode b_M_goes 67 = .ok (.goto 4, 3) := by decide +kernel
theorem d_M_goes_70 : decode b_M_goes 70 = .ok (.iconst 0, 1) := by decide +kernel
theorem d_M_goes_71 : decode b_M_goes 71 = .ok (.ireturn, 1) := by decide +kernel
theorem d_M_goes_72 : decode b_M_goes 72 = .ok (.aload_n 0, 1) := by decide +kernel
theorem d_M_goes_73 : decode b_M_goes 73 = .ok (.getfield 20, 3) := by decide +kernel
theorem d_M_goes_76 : decode b_M_goes 76 = .ok (.bipush 12, 2) := by decide +kernel
theorem d_M_goes_78 : decode b_M_goes 78 = .ok (.aload_n 0, 1) := by decide +kernel
theorem d_M_goes_79 : decode b_M_goes 79 = .ok (.getfield 51, 3) := by decide +kernel
theorem d_M_goes_82 : decode b_M_goes 82 = .ok (.iload_n 2, 1) := by decide +kernel
theorem d_M_goes_83 : decode b_M_goes 83 = .ok (.iaload, 1) := by decide +kernel
theorem d_M_goes_84 : decode b_M_goes 84 = .ok (.imul, 1) := by decide +kernel
theorem d_M_goes_85 : decode b_M_goes 85 = .ok (.aload_n 0, 1) := by decide +kernel
theorem d_M_goes_86 : decode b_M_goes 86 = .ok (.getfield 57, 3) := by decide +kernel
theorem d_M_goes_89 : decode b_M_goes 89 = .ok (.iload_n 2, 1) := by decide +kernel
theorem d_M_goes_90 : decode b_M_goes 90 = .ok (.iaload, 1) := by decide +kernel
theorem d_M_goes_91 : decode b_M_goes 91 = .ok (.iadd, 1) := by decide +kernel
theorem d_M_goes_92 : decode b_M_goes 92 = .ok (.iaload, 1) := by decide +kernel
theorem d_M_goes_93 : decode b_M_goes 93 = .ok (.iconst 2, 1) := by decide +kernel
theorem d_M_goes_94 : decode b_M_goes 94 = .ok (.if_icmp .eq 5, 3) := by decide +kernel
theorem d_M_goes_97 : decode b_M_goes 97 = .ok (.iconst 0, 1) := by decide +kernel
theorem d_M_goes_98 : decode b_M_goes 98 = .ok (.ireturn, 1) := by decide +kernel
theorem d_M_goes_99 : decode b_M_goes 99 = .ok (.iconst 0, 1) := by decide +kernel
theorem d_M_goes_100 : decode b_M_goes 100 = .ok (.istore_n 3, 1) := by decide +kernel
theorem d_M_goes_101 : decode b_M_goes 101 = .ok (.bipush 6, 2) := by decide +kernel
theorem d_M_goes_103 : decode b_M_goes 103 = .ok (.iload_n 1, 1) := by decide +kernel
theorem d_M_goes_104 : decode b_M_goes 104 = .ok (.imul, 1) := by decide +kernel
theorem d_M_goes_105 : decode b_M_goes 105 = .ok (.istore 4, 2) := by decide +kernel
theorem d_M_goes_107 : decode b_M_goes 107 = .ok (.iload 4, 2) := by decide +kernel
theorem d_M_goes_109 : decode b_M_goes 109 = .ok (.iload_n 2, 1) := by decide +kernel
theorem d_M_goes_110 : decode b_M_goes 110 = .ok (.if_icmp .gt 45, 3) := by decide +kernel
theorem d_M_goes_113 : decode b_M_goes 113 = .ok (.iload_n 3, 1) := by decide +kernel
theorem d_M_goes_114 : decode b_M_goes 114 = .ok (.ifCond .ne 29, 3) := by decide +kernel
theorem d_M_goes_117 : decode b_M_goes 117 = .ok (.aload_n 0, 1) := by decide +kernel
theorem d_M_goes_118 : decode b_M_goes 118 = .ok (.getfield 7, 3) := by decide +kernel
theorem d_M_goes_121 : decode b_M_goes 121 = .ok (.bipush 8, 2) := by decide +kernel
theorem d_M_goes_123 : decode b_M_goes 123 = .ok (.aload_n 0, 1) := by decide +kernel
theorem d_M_goes_124 : decode b_M_goes 124 = .ok (.getfield 69, 3) := by decide +kernel
theorem d_M_goes_127 : decode b_M_goes 127 = .ok (.imul, 1) := by decide +kernel
theorem d_M_goes_128 : decode b_M_goes 128 = .ok (.aload_n 0, 1) := by decide +kernel
theorem d_M_goes_129 : decode b_M_goes 129 = .ok (.getfield 51, 3) := by decide +kernel
theorem d_M_goes_132 : decode b_M_goes 132 = .ok (.iload 4, 2) := by decide +kernel
theorem d_M_goes_134 : decode b_M_goes 134 = .ok (.iaload, 1) := by decide +kernel
theorem d_M_goes_135 : decode b_M_goes 135 = .ok (.bipush 8, 2) := by decide +kernel
theorem d_M_goes_137 : decode b_M_goes 137 = .ok (.irem, 1) := by decide +kernel
theorem d_M_goes_138 : decode b_M_goes 138 = .ok (.iadd, 1) := by decide +kernel
theorem d_M_goes_139 : decode b_M_goes 139 = .ok (.baload, 1) := by decide +kernel
theorem d_M_goes_140 : decode b_M_goes 140 = .ok (.ifCond .eq 7, 3) := by decide +kernel
theorem d_M_goes_143 : decode b_M_goes 143 = .ok (.iconst 1, 1) := by decide +kernel
theorem d_M_goes_144 : decode b_M_goes 144 = .ok (.goto 4, 3) := by decide +kernel
theorem d_M_goes_147 : decode b_M_goes 147 = .ok (.iconst 0, 1) := by decide +kernel
theorem d_M_goes_148 : decode b_M_goes 148 = .ok (.istore_n 3, 1) := by decide +kernel
theorem d_M_goes_149 : decode b_M_goes 149 = .ok (.iinc 4 1, 3) := by decide +kernel
theorem d_M_goes_152 : decode b_M_goes 152 = .ok (.goto (-45), 3) := by decide +kernel
theorem d_M_goes_155 : decode b_M_goes 155 = .ok (.iload_n 3, 1) := by decide +kernel
theorem d_M_goes_156 : decode b_M_goes 156 = .ok (.ifCond .ne 7, 3) := by decide +kernel
theorem d_M_goes_159 : decode b_M_goes 159 = .ok (.iconst 1, 1) := by decide +kernel
theorem d_M_goes_160 : decode b_M_goes 160 = .ok (.goto 4, 3) := by decide +kernel
theorem d_M_goes_163 : decode b_M_goes 163 = .ok (.iconst 0, 1) := by decide +kernel
theorem d_M_goes_164 : decode b_M_goes 164 = .ok (.ireturn, 1) := by decide +kernel
theorem d_M_stepOnce_0 : decode b_M_stepOnce 0 = .ok (.aload_n 0, 1) := by decide +kernel
theorem d_M_stepOnce_1 : decode b_M_stepOnce 1 = .ok (.getfield 39, 3) := by decide +kernel
theorem d_M_stepOnce_4 : decode b_M_stepOnce 4 = .ok (.iload_n 1, 1) := by decide +kernel
theorem d_M_stepOnce_5 : decode b_M_stepOnce 5 = .ok (.dup2, 1) := by decide +kernel
theorem d_M_stepOnce_6 : decode b_M_stepOnce 6 = .ok (.iaload, 1) := by decide +kernel
theorem d_M_stepOnce_7 : decode b_M_stepOnce 7 = .ok (.iconst 1, 1) := by decide +kernel
theorem d_M_stepOnce_8 : decode b_M_stepOnce 8 = .ok (.iadd, 1) := by decide +kernel
theorem d_M_stepOnce_9 : decode b_M_stepOnce 9 = .ok (.iastore, 1) := by decide +kernel
theorem d_M_stepOnce_10 : decode b_M_stepOnce 10 = .ok (.bipush 6, 2) := by decide +kernel
theorem d_M_stepOnce_12 : decode b_M_stepOnce 12 = .ok (.iload_n 1, 1) := by decide +kernel
theorem d_M_stepOnce_13 : decode b_M_stepOnce 13 = .ok (.imul, 1) := by decide +kernel
theorem d_M_stepOnce_14 : decode b_M_stepOnce 14 = .ok (.aload_n 0, 1) := by decide +kernel
theorem d_M_stepOnce_15 : decode b_M_stepOnce 15 = .ok (.getfield 48, 3) := by decide +kernel
theorem d_M_stepOnce_18 : decode b_M_stepOnce 18 = .ok (.iload_n 1, 1) := by decide +kernel
theorem d_M_stepOnce_19 : decode b_M_stepOnce 19 = .ok (.iaload, 1) := by decide +kernel
theorem d_M_stepOnce_20 : decode b_M_stepOnce 20 = .ok (.iadd, 1) := by decide +kernel
theorem d_M_stepOnce_21 : decode b_M_stepOnce 21 = .ok (.iconst 1, 1) := by decide +kernel
theorem d_M_stepOnce_22 : decode b_M_stepOnce 22 = .ok (.isub, 1) := by decide +kernel
theorem d_M_stepOnce_23 : decode b_M_stepOnce 23 = .ok (.istore_n 2, 1) := by decide +kernel
theorem d_M_stepOnce_24 : decode b_M_stepOnce 24 = .ok (.aload_n 0, 1) := by decide +kernel
theorem d_M_stepOnce_25 : decode b_M_stepOnce 25 = .ok (.getfield 57, 3) := by decide +kernel
theorem d_M_stepOnce_28 : decode b_M_stepOnce 28 = .ok (.iload_n 2, 1) := by decide +kernel
theorem d_M_stepOnce_29 : decode b_M_stepOnce 29 = .ok (.iaload, 1) := by decide +kernel
theorem d_M_stepOnce_30 : decode b_M_stepOnce 30 = .ok (.aload_n 0, 1) := by decide +kernel
theorem d_M_stepOnce_31 : decode b_M_stepOnce 31 = .ok (.getfield 17, 3) := by decide +kernel
theorem d_M_stepOnce_34 : decode b_M_stepOnce 34 = .ok (.aload_n 0, 1) := by decide +kernel
theorem d_M_stepOnce_35 : decode b_M_stepOnce 35 = .ok (.getfield 51, 3) := by decide +kernel
theorem d_M_stepOnce_38 : decode b_M_stepOnce 38 = .ok (.iload_n 2, 1) := by decide +kernel
theorem d_M_stepOnce_39 : decode b_M_stepOnce 39 = .ok (.iaload, 1) := by decide +kernel
theorem d_M_stepOnce_40 : decode b_M_stepOnce 40 = .ok (.iaload, 1) := by decide +kernel
theorem d_M_stepOnce_41 : decode b_M_stepOnce 41 = .ok (.if_icmp .ne 34, 3) := by decide +kernel
theorem d_M_stepOnce_44 : decode b_M_stepOnce 44 = .ok (.aload_n 0, 1) := by decide +kernel
theorem d_M_stepOnce_45 : decode b_M_stepOnce 45 = .ok (.getfield 48, 3) := by decide +kernel
theorem d_M_stepOnce_48 : decode b_M_stepOnce 48 = .ok (.iload_n 1, 1) := by decide +kernel
theorem d_M_stepOnce_49 : decode b_M_stepOnce 49 = .ok (.dup2, 1) := by decide +kernel
theorem d_M_stepOnce_50 : decode b_M_stepOnce 50 = .ok (.iaload, 1) := by decide +kernel
theorem d_M_stepOnce_51 : decode b_M_stepOnce 51 = .ok (.iconst 1, 1) := by decide +kernel
theorem d_M_stepOnce_52 : decode b_M_stepOnce 52 = .ok (.isub, 1) := by decide +kernel
theorem d_M_stepOnce_53 : decode b_M_stepOnce 53 = .ok (.iastore, 1) := by decide +kernel
theorem d_M_stepOnce_54 : decode b_M_stepOnce 54 = .ok (.aload_n 0, 1) := by decide +kernel
theorem d_M_stepOnce_55 : decode b_M_stepOnce 55 = .ok (.getfield 48, 3) := by decide +kernel
theorem d_M_stepOnce_58 : decode b_M_stepOnce 58 = .ok (.iload_n 1, 1) := by decide +kernel
theorem d_M_stepOnce_59 : decode b_M_stepOnce 59 = .ok (.iaload, 1) := by decide +kernel
theorem d_M_stepOnce_60 : decode b_M_stepOnce 60 = .ok (.ifCond .ne 14, 3) := by decide +kernel
theorem d_M_stepOnce_63 : decode b_M_stepOnce 63 = .ok (.aload_n 0, 1) := by decide +kernel
theorem d_M_stepOnce_64 : decode b_M_stepOnce 64 = .ok (.iload_n 1, 1) := by decide +kernel
theorem d_M_stepOnce_65 : decode b_M_stepOnce 65 = .ok (.aload_n 0, 1) := by decide +kernel
theorem d_M_stepOnce_66 : decode b_M_stepOnce 66 = .ok (.getfield 30, 3) := by decide +kernel
theorem d_M_stepOnce_69 : decode b_M_stepOnce 69 = .ok (.iload_n 1, 1) := by decide +kernel
theorem d_M_stepOnce_70 : decode b_M_stepOnce 70 = .ok (.iaload, 1) := by decide +kernel
theorem d_M_stepOnce_71 : decode b_M_stepOnce 71 = .ok (.invokevirtual 97, 3) := by decide +kernel
theorem d_M_stepOnce_74 : decode b_M_stepOnce 74 = .ok (.return_, 1) := by decide +kernel
theorem d_M_stepOnce_75 : decode b_M_stepOnce 75 = .ok (.aload_n 0, 1) := by decide +kernel
theorem d_M_stepOnce_76 : decode b_M_stepOnce 76 = .ok (.getfield 20, 3) := by decide +kernel
theorem d_M_stepOnce_79 : decode b_M_stepOnce 79 = .ok (.bipush 12, 2) := by decide +kernel
theorem d_M_stepOnce_81 : decode b_M_stepOnce 81 = .ok (.aload_n 0, 1) := by decide +kernel
theorem d_M_stepOnce_82 : decode b_M_stepOnce 82 = .ok (.getfield 51, 3) := by decide +kernel
theorem d_M_stepOnce_85 : decode b_M_stepOnce 85 = .ok (.iload_n 2, 1) := by decide +kernel
theorem d_M_stepOnce_86 : decode b_M_stepOnce 86 = .ok (.iaload, 1) := by decide +kernel
theorem d_M_stepOnce_87 : decode b_M_stepOnce 87 = .ok (.imul, 1) := by decide +kernel
theorem d_M_stepOnce_88 : decode b_M_stepOnce 88 = .ok (.aload_n 0, 1) := by decide +kernel
theorem d_M_stepOnce_89 : decode b_M_stepOnce 89 = .ok (.getfield 57, 3) := by decide +kernel
theorem d_M_stepOnce_92 : decode b_M_stepOnce 92 = .ok (.iload_n 2, 1) := by decide +kernel
theorem d_M_stepOnce_93 : decode b_M_stepOnce 93 = .ok (.iaload, 1) := by decide +kernel
theorem d_M_stepOnce_94 : decode b_M_stepOnce 94 = .ok (.iadd, 1) := by decide +kernel
theorem d_M_stepOnce_95 : decode b_M_stepOnce 95 = .ok (.iaload, 1) := by decide +kernel
theorem d_M_stepOnce_96 : decode b_M_stepOnce 96 = .ok (.istore_n 3, 1) := by decide +kernel
theorem d_M_stepOnce_97 : decode b_M_stepOnce 97 = .ok (.aload_n 0, 1) := by decide +kernel
theorem d_M_stepOnce_98 : decode b_M_stepOnce 98 = .ok (.getfield 23, 3) := by decide +kernel
theorem d_M_stepOnce_101 : decode b_M_stepOnce 101 = .ok (.bipush 12, 2) := by decide +kernel
theorem d_M_stepOnce_103 : decode b_M_stepOnce 103 = .ok (.aload_n 0, 1) := by decide +kernel
theorem d_M_stepOnce_104 : decode b_M_stepOnce 104 = .ok (.getfield 51, 3) := by decide +kernel
theorem d_M_stepOnce_107 : decode b_M_stepOnce 107 = .ok (.iload_n 2, 1) := by decide +kernel
theorem d_M_stepOnce_108 : decode b_M_stepOnce 108 = .ok (.iaload, 1) := by decide +kernel
theorem d_M_stepOnce_109 : decode b_M_stepOnce 109 = .ok (.imul, 1) := by decide +kernel
theorem d_M_stepOnce_110 : decode b_M_stepOnce 110 = .ok (.aload_n 0, 1) := by decide +kernel
theorem d_M_stepOnce_111 : decode b_M_stepOnce 111 = .ok (.getfield 57, 3) := by decide +kernel
theorem d_M_stepOnce_114 : decode b_M_stepOnce 114 = .ok (.iload_n 2, 1) := by decide +kernel
theorem d_M_stepOnce_115 : decode b_M_stepOnce 115 = .ok (.iaload, 1) := by decide +kernel
theorem d_M_stepOnce_116 : decode b_M_stepOnce 116 = .ok (.iadd, 1) := by decide +kernel
theorem d_M_stepOnce_117 : decode b_M_stepOnce 117 = .ok (.iaload, 1) := by decide +kernel
theorem d_M_stepOnce_118 : decode b_M_stepOnce 118 = .ok (.istore 4, 2) := by decide +kernel
theorem d_M_stepOnce_120 : decode b_M_stepOnce 120 = .ok (.aload_n 0, 1) := by decide +kernel
theorem d_M_stepOnce_121 : decode b_M_stepOnce 121 = .ok (.getfield 57, 3) := by decide +kernel
theorem d_M_stepOnce_124 : decode b_M_stepOnce 124 = .ok (.iload_n 2, 1) := by decide +kernel
theorem d_M_stepOnce_125 : decode b_M_stepOnce 125 = .ok (.dup2, 1) := by decide +kernel
theorem d_M_stepOnce_126 : decode b_M_stepOnce 126 = .ok (.iaload, 1) := by decide +kernel
theorem d_M_stepOnce_127 : decode b_M_stepOnce 127 = .ok (.iconst 1, 1) := by decide +kernel
theorem d_M_stepOnce_128 : decode b_M_stepOnce 128 = .ok (.iadd, 1) := by decide +kernel
theorem d_M_stepOnce_129 : decode b_M_stepOnce 129 = .ok (.iastore, 1) := by decide +kernel
theorem d_M_stepOnce_130 : decode b_M_stepOnce 130 = .ok (.iload_n 3, 1) := by decide +kernel
theorem d_M_stepOnce_131 : decode b_M_stepOnce 131 = .ok (.ifCond .ne 18, 3) := by decide +kernel
theorem d_M_stepOnce_134 : decode b_M_stepOnce 134 = .ok (.aload_n 0, 1) := by decide +kernel
theorem d_M_stepOnce_135 : decode b_M_stepOnce 135 = .ok (.getfield 36, 3) := by decide +kernel
theorem d_M_stepOnce_138 : decode b_M_stepOnce 138 = .ok (.iload_n 1, 1) := by decide +kernel
theorem d_M_stepOnce_139 : decode b_M_stepOnce 139 = .ok (.aload_n 0, 1) := by decide +kernel
theorem d_M_stepOnce_140 : decode b_M_stepOnce 140 = .ok (.getfield 36, 3) := by decide +kernel
theorem d_M_stepOnce_143 : decode b_M_stepOnce 143 = .ok (.iload_n 1, 1) := by decide +kernel
theorem d_M_stepOnce_144 : decode b_M_stepOnce 144 = .ok (.iaload, 1) := by decide +kernel
theorem d_M_stepOnce_145 : decode b_M_stepOnce 145 = .ok (.iload 4, 2) := by decide +kernel
theorem d_M_stepOnce_147 : decode b_M_stepOnce 147 = .ok (.iadd, 1) := by decide +kernel
theorem d_M_stepOnce_148 : decode b_M_stepOnce 148 = .ok (.iastore, 1) := by decide +kernel
theorem d_M_stepOnce_149 : decode b_M_stepOnce 149 = .ok (.iload_n 3, 1) := by decide +kernel
theorem d_M_stepOnce_150 : decode b_M_stepOnce 150 = .ok (.iconst 1, 1) := by decide +kernel
theorem d_M_stepOnce_151 : decode b_M_stepOnce 151 = .ok (.if_icmp .eq 19, 3) := by decide +kernel
theorem d_M_stepOnce_154 : decode b_M_stepOnce 154 = .ok (.iload_n 3, 1) := by decide +kernel
theorem d_M_stepOnce_155 : decode b_M_stepOnce 155 = .ok (.iconst 5, 1) := by decide +kernel
theorem d_M_stepOnce_156 : decode b_M_stepOnce 156 = .ok (.if_icmp .ne 21, 3) := by decide +kernel
theorem d_M_stepOnce_159 : decode b_M_stepOnce 159 = .ok (.aload_n 0, 1) := by decide +kernel
theorem d_M_stepOnce_160 : decode b_M_stepOnce 160 = .ok (.getfield 36, 3) := by decide +kernel
theorem d_M_stepOnce_163 : decode b_M_stepOnce 163 = .ok (.iload_n 1, 1) := by decide +kernel
theorem d_M_stepOnce_164 : decode b_M_stepOnce 164 = .ok (.iaload, 1) := by decide +kernel
theorem d_M_stepOnce_165 : decode b_M_stepOnce 165 = .ok (.iconst 2, 1) := by decide +kernel
theorem d_M_stepOnce_166 : decode b_M_stepOnce 166 = .ok (.irem, 1) := by decide +kernel
theorem d_M_stepOnce_167 : decode b_M_stepOnce 167 = .ok (.ifCond .ne 10, 3) := by decide +kernel
theorem d_M_stepOnce_170 : decode b_M_stepOnce 170 = .ok (.aload_n 0, 1) := by decide +kernel
theorem d_M_stepOnce_171 : decode b_M_stepOnce 171 = .ok (.iload_n 1, 1) := by decide +kernel
theorem d_M_stepOnce_172 : decode b_M_stepOnce 172 = .ok (.iload 4, 2) := by decide +kernel
theorem d_M_stepOnce_174 : decode b_M_stepOnce 174 = .ok (.invokevirtual 97, 3) := by decide +kernel
theorem d_M_stepOnce_177 : decode b_M_stepOnce 177 = .ok (.iload_n 3, 1) := by decide +kernel
theorem d_M_stepOnce_178 : decode b_M_stepOnce 178 = .ok (.iconst 3, 1) := by decide +kernel
theorem d_M_stepOnce_179 : decode b_M_stepOnce 179 = .ok (.if_icmp .ne 31, 3) := by decide +kernel
theorem d_M_stepOnce_182 : decode b_M_stepOnce 182 = .ok (.aload_n 0, 1) := by decide +kernel
theorem d_M_stepOnce_183 : decode b_M_stepOnce 183 = .ok (.getfield 60, 3) := by decide +kernel
theorem d_M_stepOnce_186 : decode b_M_stepOnce 186 = .ok (.iload_n 2, 1) := by decide +kernel
theorem d_M_stepOnce_187 : decode b_M_stepOnce 187 = .ok (.iaload, 1) := by decide +kernel
theorem d_M_stepOnce_188 : decode b_M_stepOnce 188 = .ok (.iconst 3, 1) := by decide +kernel
theorem d_M_stepOnce_189 : decode b_M_stepOnce 189 = .ok (.if_icmp .ge 21, 3) := by decide +kernel
theorem d_M_stepOnce_192 : decode b_M_stepOnce 192 = .ok (.aload_n 0, 1) := by decide +kernel
theorem d_M_stepOnce_193 : decode b_M_stepOnce 193 = .ok (.getfield 60, 3) := by decide +kernel
theorem d_M_stepOnce_196 : decode b_M_stepOnce 196 = .ok (.iload_n 2, 1) := by decide +kernel
theorem d_M_stepOnce_197 : decode b_M_stepOnce 197 = .ok (.dup2, 1) := by decide +kernel
theorem d_M_stepOnce_198 : decode b_M_stepOnce 198 = .ok (.iaload, 1) := by decide +kernel
theorem d_M_stepOnce_199 : decode b_M_stepOnce 199 = .ok (.iconst 1, 1) := by decide +kernel
theorem d_M_stepOnce_200 : decode b_M_stepOnce 200 = .ok (.iadd, 1) := by decide +kernel
theorem d_M_stepOnce_201 : decode b_M_stepOnce 201 = .ok (.iastore, 1) := by decide +kernel
theorem d_M_stepOnce_202 : decode b_M_stepOnce 202 = .ok (.aload_n 0, 1) := by decide +kernel
theorem d_M_stepOnce_203 : decode b_M_stepOnce 203 = .ok (.getfield 57, 3) := by decide +kernel
theorem d_M_stepOnce_206 : decode b_M_stepOnce 206 = .ok (.iload_n 2, 1) := by decide +kernel
theorem d_M_stepOnce_207 : decode b_M_stepOnce 207 = .ok (.iload 4, 2) := by decide +kernel
theorem d_M_stepOnce_209 : decode b_M_stepOnce 209 = .ok (.iastore, 1) := by decide +kernel
theorem d_M_stepOnce_210 : decode b_M_stepOnce 210 = .ok (.iload_n 3, 1) := by decide +kernel
theorem d_M_stepOnce_211 : decode b_M_stepOnce 211 = .ok (.iconst 4, 1) := by decide +kernel
theorem d_M_stepOnce_212 : decode b_M_stepOnce 212 = .ok (.if_icmp .ne 25, 3) := by decide +kernel
theorem d_M_stepOnce_215 : decode b_M_stepOnce 215 = .ok (.aload_n 0, 1) := by decide +kernel
theorem d_M_stepOnce_216 : decode b_M_stepOnce 216 = .ok (.getfield 42, 3) := by decide +kernel
theorem d_M_stepOnce_219 : decode b_M_stepOnce 219 = .ok (.iload_n 1, 1) := by decide +kernel
theorem d_M_stepOnce_220 : decode b_M_stepOnce 220 = .ok (.dup2, 1) := by decide +kernel
theorem d_M_stepOnce_221 : decode b_M_stepOnce 221 = .ok (.iaload, 1) := by decide +kernel
theorem d_M_stepOnce_222 : decode b_M_stepOnce 222 = .ok (.iconst 1, 1) := by decide +kernel
theorem d_M_stepOnce_223 : decode b_M_stepOnce 223 = .ok (.iadd, 1) := by decide +kernel
theorem d_M_stepOnce_224 : decode b_M_stepOnce 224 = .ok (.iastore, 1) := by decide +kernel
theorem d_M_stepOnce_225 : decode b_M_stepOnce 225 = .ok (.aload_n 0, 1) := by decide +kernel
theorem d_M_stepOnce_226 : decode b_M_stepOnce 226 = .ok (.getfield 45, 3) := by decide +kernel
theorem d_M_stepOnce_229 : decode b_M_stepOnce 229 = .ok (.iload_n 1, 1) := by decide +kernel
theorem d_M_stepOnce_230 : decode b_M_stepOnce 230 = .ok (.aload_n 0, 1) := by decide +kernel
theorem d_M_stepOnce_231 : decode b_M_stepOnce 231 = .ok (.getfield 36, 3) := by decide +kernel
theorem d_M_stepOnce_234 : decode b_M_stepOnce 234 = .ok (.iload_n 1, 1) := by decide +kernel
theorem d_M_stepOnce_235 : decode b_M_stepOnce 235 = .ok (.iaload, 1) := by decide +kernel
theorem d_M_stepOnce_236 : decode b_M_stepOnce 236 = .ok (.iastore, 1) := by decide +kernel
theorem d_M_stepOnce_237 : decode b_M_stepOnce 237 = .ok (.return_, 1) := by decide +kernel
theorem d_M_look_0 : decode b_M_look 0 = .ok (.aload_n 0, 1) := by decide +kernel
theorem d_M_look_1 : decode b_M_look 1 = .ok (.iconst 0, 1) := by decide +kernel
theorem d_M_look_2 : decode b_M_look 2 = .ok (.putfield 63, 3) := by decide +kernel
theorem d_M_look_5 : decode b_M_look 5 = .ok (.iload_n 1, 1) := by decide +kernel
theorem d_M_look_6 : decode b_M_look 6 = .ok (.iconst 0, 1) := by decide +kernel
theorem d_M_look_7 : decode b_M_look 7 = .ok (.aload_n 0, 1) := by decide +kernel
theorem d_M_look_8 : decode b_M_look 8 = .ok (.getfield 66, 3) := by decide +kernel
theorem d_M_look_11 : decode b_M_look 11 = .ok (.iconst 1, 1) := by decide +kernel
theorem d_M_look_12 : decode b_M_look 12 = .ok (.isub, 1) := by decide +kernel
theorem d_M_look_13 : decode b_M_look 13 = .ok (.invokestatic 72, 3) := by decide +kernel
theorem d_M_look_16 : decode b_M_look 16 = .ok (.ifCond .eq 12, 3) := by decide +kernel
theorem d_M_look_19 : decode b_M_look 19 = .ok (.iload_n 2, 1) := by decide +kernel
theorem d_M_look_20 : decode b_M_look 20 = .ok (.iconst 0, 1) := by decide +kernel
theorem d_M_look_21 : decode b_M_look 21 = .ok (.iconst 5, 1) := by decide +kernel
theorem d_M_look_22 : decode b_M_look 22 = .ok (.invokestatic 72, 3) := by decide +kernel
theorem d_M_look_25 : decode b_M_look 25 = .ok (.ifCond .ne 9, 3) := by decide +kernel
theorem d_M_look_28 : decode b_M_look 28 = .ok (.aload_n 0, 1) := by decide +kernel
theorem d_M_look_29 : decode b_M_look 29 = .ok (.iconst 1, 1) := by decide +kernel
theorem d_M_look_30 : decode b_M_look 30 = .ok (.invokevirtual 108, 3) := by decide +kernel
theorem d_M_look_33 : decode b_M_look 33 = .ok (.ireturn, 1) := by decide +kernel
theorem d_M_look_34 : decode b_M_look 34 = .ok (.iload_n 2, 1) := by decide +kernel
theorem d_M_look_35 : decode b_M_look 35 = .ok (.ifCond .ne 12, 3) := by decide +kernel
theorem d_M_look_38 : decode b_M_look 38 = .ok (.aload_n 0, 1) := by decide +kernel
theorem d_M_look_39 : decode b_M_look 39 = .ok (.getfield 33, 3) := by decide +kernel
theorem d_M_look_42 : decode b_M_look 42 = .ok (.iload_n 1, 1) := by decide +kernel
theorem d_M_look_43 : decode b_M_look 43 = .ok (.iaload, 1) := by decide +kernel
theorem d_M_look_44 : decode b_M_look 44 = .ok (.goto 65, 3) := by decide +kernel
theorem d_M_look_47 : decode b_M_look 47 = .ok (.iload_n 2, 1) := by decide +kernel
theorem d_M_look_48 : decode b_M_look 48 = .ok (.iconst 1, 1) := by decide +kernel
theorem d_M_look_49 : decode b_M_look 49 = .ok (.if_icmp .ne 12, 3) := by decide +kernel
theorem d_M_look_52 : decode b_M_look 52 = .ok (.aload_n 0, 1) := by decide +kernel
theorem d_M_look_53 : decode b_M_look 53 = .ok (.getfield 36, 3) := by decide +kernel
theorem d_M_look_56 : decode b_M_look 56 = .ok (.iload_n 1, 1) := by decide +kernel
theorem d_M_look_57 : decode b_M_look 57 = .ok (.iaload, 1) := by decide +kernel
theorem d_M_look_58 : decode b_M_look 58 = .ok (.goto 51, 3) := by decide +kernel
theorem d_M_look_61 : decode b_M_look 61 = .ok (.iload_n 2, 1) := by decide +kernel
theorem d_M_look_62 : decode b_M_look 62 = .ok (.iconst 2, 1) := by decide +kernel
theorem d_M_look_63 : decode b_M_look 63 = .ok (.if_icmp .ne 12, 3) := by decide +kernel
theorem d_M_look_66 : decode b_M_look 66 = .ok (.aload_n 0, 1) := by decide +kernel
theorem d_M_look_67 : decode b_M_look 67 = .ok (.getfield 48, 3) := by decide +kernel
theorem d_M_look_70 : decode b_M_look 70 = .ok (.iload_n 1, 1) := by decide +kernel
theorem d_M_look_71 : decode b_M_look 71 = .ok (.iaload, 1) := by decide +kernel
theorem d_M_look_72 : decode b_M_look 72 = .ok (.goto 37, 3) := by decide +kernel
theorem d_M_look_75 : decode b_M_look 75 = .ok (.iload_n 2, 1) := by decide +kernel
theorem d_M_look_76 : decode b_M_look 76 = .ok (.iconst 3, 1) := by decide +kernel
theorem d_M_look_77 : decode b_M_look 77 = .ok (.if_icmp .ne 12, 3) := by decide +kernel
theorem d_M_look_80 : decode b_M_look 80 = .ok (.aload_n 0, 1) := by decide +kernel
theorem d_M_look_81 : decode b_M_look 81 = .ok (.getfield 39, 3) := by decide +kernel
theorem d_M_look_84 : decode b_M_look 84 = .ok (.iload_n 1, 1) := by decide +kernel
theorem d_M_look_85 : decode b_M_look 85 = .ok (.iaload, 1) := by decide +kernel
theorem d_M_look_86 : decode b_M_look 86 = .ok (.goto 23, 3) := by decide +kernel
theorem d_M_look_89 : decode b_M_look 89 = .ok (.iload_n 2, 1) := by decide +kernel
theorem d_M_look_90 : decode b_M_look 90 = .ok (.iconst 4, 1) := by decide +kernel
theorem d_M_look_91 : decode b_M_look 91 = .ok (.if_icmp .ne 12, 3) := by decide +kernel
theorem d_M_look_94 : decode b_M_look 94 = .ok (.aload_n 0, 1) := by decide +kernel
theorem d_M_look_95 : decode b_M_look 95 = .ok (.getfield 42, 3) := by decide +kernel
theorem d_M_look_98 : decode b_M_look 98 = .ok (.iload_n 1, 1) := by decide +kernel
theorem d_M_look_99 : decode b_M_look 99 = .ok (.iaload, 1) := by decide +kernel
theorem d_M_look_100 : decode b_M_look 100 = .ok (.goto 9, 3) := by decide +kernel
theorem d_M_look_103 : decode b_M_look 103 = .ok (.aload_n 0, 1) := by decide +kernel
theorem d_M_look_104 : decode b_M_look 104 = .ok (.getfield 45, 3) := by decide +kernel
theorem d_M_look_107 : decode b_M_look 107 = .ok (.iload_n 1, 1) := by decide +kernel
theorem d_M_look_108 : decode b_M_look 108 = .ok (.iaload, 1) := by decide +kernel
theorem d_M_look_109 : decode b_M_look 109 = .ok (.ireturn, 1) := by decide +kernel
theorem d_M_fail_0 : decode b_M_fail 0 = .ok (.aload_n 0, 1) := by decide +kernel
theorem d_M_fail_1 : decode b_M_fail 1 = .ok (.iload_n 1, 1) := by decide +kernel
theorem d_M_fail_2 : decode b_M_fail 2 = .ok (.putfield 63, 3) := by decide +kernel
theorem d_M_fail_5 : decode b_M_fail 5 = .ok (.iconst 0, 1) := by decide +kernel
theorem d_M_fail_6 : decode b_M_fail 6 = .ok (.ireturn, 1) := by decide +kernel
theorem d_M_frame_0 : decode b_M_frame 0 = .ok (.aload_n 0, 1) := by decide +kernel
theorem d_M_frame_1 : decode b_M_frame 1 = .ok (.iload_n 1, 1) := by decide +kernel
theorem d_M_frame_2 : decode b_M_frame 2 = .ok (.iconst 0, 1) := by decide +kernel
theorem d_M_frame_3 : decode b_M_frame 3 = .ok (.aload_n 0, 1) := by decide +kernel
theorem d_M_frame_4 : decode b_M_frame 4 = .ok (.getfield 66, 3) := by decide +kernel
theorem d_M_frame_7 : decode b_M_frame 7 = .ok (.iconst 1, 1) := by decide +kernel
theorem d_M_frame_8 : decode b_M_frame 8 = .ok (.isub, 1) := by decide +kernel
theorem d_M_frame_9 : decode b_M_frame 9 = .ok (.invokestatic 72, 3) := by decide +kernel
theorem d_M_frame_12 : decode b_M_frame 12 = .ok (.ifCond .eq 12, 3) := by decide +kernel
theorem d_M_frame_15 : decode b_M_frame 15 = .ok (.iload_n 3, 1) := by decide +kernel
theorem d_M_frame_16 : decode b_M_frame 16 = .ok (.iconst 0, 1) := by decide +kernel
theorem d_M_frame_17 : decode b_M_frame 17 = .ok (.iconst 2, 1) := by decide +kernel
theorem d_M_frame_18 : decode b_M_frame 18 = .ok (.invokestatic 72, 3) := by decide +kernel
theorem d_M_frame_21 : decode b_M_frame 21 = .ok (.ifCond .ne 7, 3) := by decide +kernel
theorem d_M_frame_24 : decode b_M_frame 24 = .ok (.iconst 1, 1) := by decide +kernel
theorem d_M_frame_25 : decode b_M_frame 25 = .ok (.goto 24, 3) := by decide +kernel
theorem d_M_frame_28 : decode b_M_frame 28 = .ok (.iload_n 2, 1) := by decide +kernel
theorem d_M_frame_29 : decode b_M_frame 29 = .ok (.iconst 0, 1) := by decide +kernel
theorem d_M_frame_30 : decode b_M_frame 30 = .ok (.aload_n 0, 1) := by decide +kernel
theorem d_M_frame_31 : decode b_M_frame 31 = .ok (.getfield 48, 3) := by decide +kernel
theorem d_M_frame_34 : decode b_M_frame 34 = .ok (.iload_n 1, 1) := by decide +kernel
theorem d_M_frame_35 : decode b_M_frame 35 = .ok (.iaload, 1) := by decide +kernel
theorem d_M_frame_36 : decode b_M_frame 36 = .ok (.iconst 1, 1) := by decide +kernel
theorem d_M_frame_37 : decode b_M_frame 37 = .ok (.isub, 1) := by decide +kernel
theorem d_M_frame_38 : decode b_M_frame 38 = .ok (.invokestatic 72, 3) := by decide +kernel
theorem d_M_frame_41 : decode b_M_frame 41 = .ok (.ifCond .eq 7, 3) := by decide +kernel
theorem d_M_frame_44 : decode b_M_frame 44 = .ok (.iconst 0, 1) := by decide +kernel
theorem d_M_frame_45 : decode b_M_frame 45 = .ok (.goto 4, 3) := by decide +kernel
theorem d_M_frame_48 : decode b_M_frame 48 = .ok (.iconst 2, 1) := by decide +kernel
theorem d_M_frame_49 : decode b_M_frame 49 = .ok (.putfield 63, 3) := by decide +kernel
theorem d_M_frame_52 : decode b_M_frame 52 = .ok (.aload_n 0, 1) := by decide +kernel
theorem d_M_frame_53 : decode b_M_frame 53 = .ok (.getfield 63, 3) := by decide +kernel
theorem d_M_frame_56 : decode b_M_frame 56 = .ok (.ifCond .le 5, 3) := by decide +kernel
theorem d_M_frame_59 : decode b_M_frame 59 = .ok (.iconst 0, 1) := by decide +kernel
theorem d_M_frame_60 : decode b_M_frame 60 = .ok (.ireturn, 1) := by decide +kernel
theorem d_M_frame_61 : decode b_M_frame 61 = .ok (.bipush 6, 2) := by decide +kernel
theorem d_M_frame_63 : decode b_M_frame 63 = .ok (.iload_n 1, 1) := by decide +kernel
theorem d_M_frame_64 : decode b_M_frame 64 = .ok (.imul, 1) := by decide +kernel
theorem d_M_frame_65 : decode b_M_frame 65 = .ok (.iload_n 2, 1) := by decide +kernel
theorem d_M_frame_66 : decode b_M_frame 66 = .ok (.iadd, 1) := by decide +kernel
theorem d_M_frame_67 : decode b_M_frame 67 = .ok (.istore 4, 2) := by decide +kernel
theorem d_M_frame_69 : decode b_M_frame 69 = .ok (.iload_n 3, 1) := by decide +kernel
theorem d_M_frame_70 : decode b_M_frame 70 = .ok (.ifCond .ne 16, 3) := by decide +kernel
theorem d_M_frame_73 : decode b_M_frame 73 = .ok (.aload_n 0, 1) := by decide +kernel
theorem d_M_frame_74 : decode b_M_frame 74 = .ok (.getfield 51, 3) := by decide +kernel
theorem d_M_frame_77 : decode b_M_frame 77 = .ok (.iload 4, 2) := by decide +kernel
theorem d_M_frame_79 : decode b_M_frame 79 = .ok (.iaload, 1) := by decide +kernel
theorem d_M_frame_80 : decode b_M_frame 80 = .ok (.bipush 8, 2) := by decide +kernel
theorem d_M_frame_82 : decode b_M_frame 82 = .ok (.irem, 1) := by decide +kernel
theorem d_M_frame_83 : decode b_M_frame 83 = .ok (.goto 25, 3) := by decide +kernel
theorem d_M_frame_86 : decode b_M_frame 86 = .ok (.iload_n 3, 1) := by decide +kernel
theorem d_M_frame_87 : decode b_M_frame 87 = .ok (.iconst 1, 1) := by decide +kernel
theorem d_M_frame_88 : decode b_M_frame 88 = .ok (.if_icmp .ne 13, 3) := by decide +kernel
theorem d_M_frame_91 : decode b_M_frame 91 = .ok (.aload_n 0, 1) := by decide +kernel
theorem d_M_frame_92 : decode b_M_frame 92 = .ok (.getfield 54, 3) := by decide +kernel
theorem d_M_frame_95 : decode b_M_frame 95 = .ok (.iload 4, 2) := by decide +kernel
theorem d_M_frame_97 : decode b_M_frame 97 = .ok (.iaload, 1) := by decide +kernel
theorem d_M_frame_98 : decode b_M_frame 98 = .ok (.goto 10, 3) := by decide +kernel
theorem d_M_frame_101 : decode b_M_frame 101 = .ok (.aload_n 0, 1) := by decide +kernel
theorem d_M_frame_102 : decode b_M_frame 102 = .ok (.getfield 57, 3) := by decide +kernel
theorem d_M_frame_105 : decode b_M_frame 105 = .ok (.iload 4, 2) := by decide +kernel
theorem d_M_frame_107 : decode b_M_frame 107 = .ok (.iaload, 1) := by decide +kernel
theorem d_M_frame_108 : decode b_M_frame 108 = .ok (.ireturn, 1) := by decide +kernel
theorem d_M_patches_0 : decode b_M_patches 0 = .ok (.aload_n 0, 1) := by decide +kernel
theorem d_M_patches_1 : decode b_M_patches 1 = .ok (.iconst 0, 1) := by decide +kernel
theorem d_M_patches_2 : decode b_M_patches 2 = .ok (.putfield 63, 3) := by decide +kernel
theorem d_M_patches_5 : decode b_M_patches 5 = .ok (.aload_n 0, 1) := by decide +kernel
theorem d_M_patches_6 : decode b_M_patches 6 = .ok (.getfield 69, 3) := by decide +kernel
theorem d_M_patches_9 : decode b_M_patches 9 = .ok (.ireturn, 1) := by decide +kernel
theorem d_M_target_0 : decode b_M_target 0 = .ok (.aload_n 0, 1) := by decide +kernel
theorem d_M_target_1 : decode b_M_target 1 = .ok (.iconst 0, 1) := by decide +kernel
theorem d_M_target_2 : decode b_M_target 2 = .ok (.putfield 63, 3) := by decide +kernel
theorem d_M_target_5 : decode b_M_target 5 = .ok (.aload_n 0, 1) := by decide +kernel
theorem d_M_target_6 : decode b_M_target 6 = .ok (.getfield 26, 3) := by decide +kernel
theorem d_M_target_9 : decode b_M_target 9 = .ok (.ireturn, 1) := by decide +kernel
theorem d_M_body_0 : decode b_M_body 0 = .ok (.aload_n 0, 1) := by decide +kernel
theorem d_M_body_1 : decode b_M_body 1 = .ok (.iload_n 1, 1) := by decide +kernel
theorem d_M_body_2 : decode b_M_body 2 = .ok (.iconst 0, 1) := by decide +kernel
theorem d_M_body_3 : decode b_M_body 3 = .ok (.aload_n 0, 1) := by decide +kernel
theorem d_M_body_4 : decode b_M_body 4 = .ok (.getfield 76, 3) := by decide +kernel
theorem d_M_body_7 : decode b_M_body 7 = .ok (.iconst 1, 1) := by decide +kernel
theorem d_M_body_8 : decode b_M_body 8 = .ok (.isub, 1) := by decide +kernel
theorem d_M_body_9 : decode b_M_body 9 = .ok (.invokestatic 72, 3) := by decide +kernel
theorem d_M_body_12 : decode b_M_body 12 = .ok (.ifCond .ne 7, 3) := by decide +kernel
theorem d_M_body_15 : decode b_M_body 15 = .ok (.iconst 1, 1) := by decide +kernel
theorem d_M_body_16 : decode b_M_body 16 = .ok (.goto 20, 3) := by decide +kernel
theorem d_M_body_19 : decode b_M_body 19 = .ok (.iload_n 2, 1) := by decide +kernel
theorem d_M_body_20 : decode b_M_body 20 = .ok (.iconst 0, 1) := by decide +kernel
theorem d_M_body_21 : decode b_M_body 21 = .ok (.aload_n 0, 1) := by decide +kernel
theorem d_M_body_22 : decode b_M_body 22 = .ok (.getfield 69, 3) := by decide +kernel
theorem d_M_body_25 : decode b_M_body 25 = .ok (.invokestatic 72, 3) := by decide +kernel
theorem d_M_body_28 : decode b_M_body 28 = .ok (.ifCond .eq 7, 3) := by decide +kernel
theorem d_M_body_31 : decode b_M_body 31 = .ok (.iconst 0, 1) := by decide +kernel
theorem d_M_body_32 : decode b_M_body 32 = .ok (.goto 4, 3) := by decide +kernel
theorem d_M_body_35 : decode b_M_body 35 = .ok (.iconst 2, 1) := by decide +kernel
theorem d_M_body_36 : decode b_M_body 36 = .ok (.putfield 63, 3) := by decide +kernel
theorem d_M_body_39 : decode b_M_body 39 = .ok (.aload_n 0, 1) := by decide +kernel
theorem d_M_body_40 : decode b_M_body 40 = .ok (.getfield 63, 3) := by decide +kernel
theorem d_M_body_43 : decode b_M_body 43 = .ok (.ifCond .le 7, 3) := by decide +kernel
theorem d_M_body_46 : decode b_M_body 46 = .ok (.iconst 0, 1) := by decide +kernel
theorem d_M_body_47 : decode b_M_body 47 = .ok (.goto 14, 3) := by decide +kernel
theorem d_M_body_50 : decode b_M_body 50 = .ok (.aload_n 0, 1) := by decide +kernel
theorem d_M_body_51 : decode b_M_body 51 = .ok (.getfield 17, 3) := by decide +kernel
theorem d_M_body_54 : decode b_M_body 54 = .ok (.aload_n 0, 1) := by decide +kernel
theorem d_M_body_55 : decode b_M_body 55 = .ok (.iload_n 1, 1) := by decide +kernel
theorem d_M_body_56 : decode b_M_body 56 = .ok (.iload_n 2, 1) := by decide +kernel
theorem d_M_body_57 : decode b_M_body 57 = .ok (.invokevirtual 93, 3) := by decide +kernel
theorem d_M_body_60 : decode b_M_body 60 = .ok (.iaload, 1) := by decide +kernel
theorem d_M_body_61 : decode b_M_body 61 = .ok (.ireturn, 1) := by decide +kernel
