theorem dX7_isIn_0 : decode cX7_isIn 0 = .ok (.lload_n 0, 1) := by decide +kernel
theorem dX7_isIn_1 : decode cX7_isIn 1 = .ok (.lload_n 2, 1) := by decide +kernel
theorem dX7_isIn_2 : decode cX7_isIn 2 = .ok (.lcmp, 1) := by decide +kernel
theorem dX7_isIn_3 : decode cX7_isIn 3 = .ok (.ifCond .lt 14, 3) := by decide +kernel
theorem dX7_isIn_6 : decode cX7_isIn 6 = .ok (.lload_n 0, 1) := by decide +kernel
theorem dX7_isIn_7 : decode cX7_isIn 7 = .ok (.lload 4, 2) := by decide +kernel
theorem dX7_isIn_9 : decode cX7_isIn 9 = .ok (.lcmp, 1) := by decide +kernel
theorem dX7_isIn_10 : decode cX7_isIn 10 = .ok (.ifCond .gt 7, 3) := by decide +kernel
theorem dX7_isIn_13 : decode cX7_isIn 13 = .ok (.iconst 1, 1) := by decide +kernel
theorem dX7_isIn_14 : decode cX7_isIn 14 = .ok (.goto 4, 3) := by decide +kernel
theorem dX7_isIn_17 : decode cX7_isIn 17 = .ok (.iconst 0, 1) := by decide +kernel
theorem dX7_isIn_18 : decode cX7_isIn 18 = .ok (.ireturn, 1) := by decide +kernel
theorem dX7_isInput_0 : decode cX7_isInput 0 = .ok (.iload_n 0, 1) := by decide +kernel
theorem dX7_isInput_1 : decode cX7_isInput 1 = .ok (.i2l, 1) := by decide +kernel
theorem dX7_isInput_2 : decode cX7_isInput 2 = .ok (.lconst 0, 1) := by decide +kernel
theorem dX7_isInput_3 : decode cX7_isInput 3 = .ok (.ldc2_w 5, 3) := by decide +kernel
theorem dX7_isInput_6 : decode cX7_isInput 6 = .ok (.invokestatic 7, 3) := by decide +kernel
theorem dX7_isInput_9 : decode cX7_isInput 9 = .ok (.ireturn, 1) := by decide +kernel
theorem dX7_isTarget_0 : decode cX7_isTarget 0 = .ok (.iload_n 0, 1) := by decide +kernel
theorem dX7_isTarget_1 : decode cX7_isTarget 1 = .ok (.i2l, 1) := by decide +kernel
theorem dX7_isTarget_2 : decode cX7_isTarget 2 = .ok (.ldc2_w 11, 3) := by decide +kernel
theorem dX7_isTarget_5 : decode cX7_isTarget 5 = .ok (.ldc2_w 13, 3) := by decide +kernel
theorem dX7_isTarget_8 : decode cX7_isTarget 8 = .ok (.invokestatic 7, 3) := by decide +kernel
theorem dX7_isTarget_11 : decode cX7_isTarget 11 = .ok (.ireturn, 1) := by decide +kernel
theorem dX7_isKey_0 : decode cX7_isKey 0 = .ok (.iload_n 0, 1) := by decide +kernel
theorem dX7_isKey_1 : decode cX7_isKey 1 = .ok (.i2l, 1) := by decide +kernel
theorem dX7_isKey_2 : decode cX7_isKey 2 = .ok (.lconst 0, 1) := by decide +kernel
theorem dX7_isKey_3 : decode cX7_isKey 3 = .ok (.ldc2_w 13, 3) := by decide +kernel
theorem dX7_isKey_6 : decode cX7_isKey 6 = .ok (.invokestatic 7, 3) := by decide +kernel
theorem dX7_isKey_9 : decode cX7_isKey 9 = .ok (.ireturn, 1) := by decide +kernel
theorem dX7_numberResult_0 : decode cX7_numberResult 0 = .ok (.iload_n 0, 1) := by decide +kernel
theorem dX7_numberResult_1 : decode cX7_numberResult 1 = .ok (.ldc 15, 2) := by decide +kernel
theorem dX7_numberResult_3 : decode cX7_numberResult 3 = .ok (.iadd, 1) := by decide +kernel
theorem dX7_numberResult_4 : decode cX7_numberResult 4 = .ok (.iconst 2, 1) := by decide +kernel
theorem dX7_numberResult_5 : decode cX7_numberResult 5 = .ok (.imul, 1) := by decide +kernel
theorem dX7_numberResult_6 : decode cX7_numberResult 6 = .ok (.ireturn, 1) := by decide +kernel
theorem dX7_fails_0 : decode cX7_fails 0 = .ok (.iconst 0, 1) := by decide +kernel
theorem dX7_fails_1 : decode cX7_fails 1 = .ok (.istore 5, 2) := by decide +kernel
theorem dX7_fails_3 : decode cX7_fails 3 = .ok (.iload 5, 2) := by decide +kernel
theorem dX7_fails_5 : decode cX7_fails 5 = .ok (.aload_n 0, 1) := by decide +kernel
theorem dX7_fails_6 : decode cX7_fails 6 = .ok (.getfield 16, 3) := by decide +kernel
theorem dX7_fails_9 : decode cX7_fails 9 = .ok (.if_icmp .ge 61, 3) := by decide +kernel
theorem dX7_fails_12 : decode cX7_fails 12 = .ok (.aload_n 0, 1) := by decide +kernel
theorem dX7_fails_13 : decode cX7_fails 13 = .ok (.getfield 20, 3) := by decide +kernel
theorem dX7_fails_16 : decode cX7_fails 16 = .ok (.iload 5, 2) := by decide +kernel
theorem dX7_fails_18 : decode cX7_fails 18 = .ok (.iaload, 1) := by decide +kernel
theorem dX7_fails_19 : decode cX7_fails 19 = .ok (.iload_n 1, 1) := by decide +kernel
theorem dX7_fails_20 : decode cX7_fails 20 = .ok (.if_icmp .ne 44, 3) := by decide +kernel
theorem dX7_fails_23 : decode cX7_fails 23 = .ok (.aload_n 0, 1) := by decide +kernel
theorem dX7_fails_24 : decode cX7_fails 24 = .ok (.getfield 24, 3) := by decide +kernel
theorem dX7_fails_27 : decode cX7_fails 27 = .ok (.iload 5, 2) := by decide +kernel
theorem dX7_fails_29 : decode cX7_fails 29 = .ok (.iaload, 1) := by decide +kernel
theorem dX7_fails_30 : decode cX7_fails 30 = .ok (.iload_n 2, 1) := by decide +kernel
theorem dX7_fails_31 : decode cX7_fails 31 = .ok (.if_icmp .ne 33, 3) := by decide +kernel
theorem dX7_fails_34 : decode cX7_fails 34 = .ok (.aload_n 0, 1) := by decide +kernel
theorem dX7_fails_35 : decode cX7_fails 35 = .ok (.getfield 27, 3) := by decide +kernel
theorem dX7_fails_38 : decode cX7_fails 38 = .ok (.iload 5, 2) := by decide +kernel
theorem dX7_fails_40 : decode cX7_fails 40 = .ok (.iaload, 1) := by decide +kernel
theorem dX7_fails_41 : decode cX7_fails 41 = .ok (.iload_n 3, 1) := by decide +kernel
theorem dX7_fails_42 : decode cX7_fails 42 = .ok (.if_icmp .ne 22, 3) := by decide +kernel
theorem dX7_fails_45 : decode cX7_fails 45 = .ok (.aload_n 0, 1) := by decide +kernel
theorem dX7_fails_46 : decode cX7_fails 46 = .ok (.getfield 30, 3) := by decide +kernel
theorem dX7_fails_49 : decode cX7_fails 49 = .ok (.iload 5, 2) := by decide +kernel
theorem dX7_fails_51 : decode cX7_fails 51 = .ok (.iaload, 1) := by decide +kernel
theorem dX7_fails_52 : decode cX7_fails 52 = .ok (.iload 4, 2) := by decide +kernel
theorem dX7_fails_54 : decode cX7_fails 54 = .ok (.if_icmp .ne 10, 3) := by decide +kernel
theorem dX7_fails_57 : decode cX7_fails 57 = .ok (.iconst 2, 1) := by decide +kernel
theorem dX7_fails_58 : decode cX7_fails 58 = .ok (.iload 5, 2) := by decide +kernel
theorem dX7_fails_60 : decode cX7_fails 60 = .ok (.imul, 1) := by decide +kernel
theorem dX7_fails_61 : decode cX7_fails 61 = .ok (.iconst 1, 1) := by decide +kernel
theorem dX7_fails_62 : decode cX7_fails 62 = .ok (.iadd, 1) := by decide +kernel
theorem dX7_fails_63 : decode cX7_fails 63 = .ok (.ireturn, 1) := by decide +kernel
theorem dX7_fails_64 : decode cX7_fails 64 = .ok (.iinc 5 1, 3) := by decide +kernel
theorem dX7_fails_67 : decode cX7_fails 67 = .ok (.goto (-64), 3) := by decide +kernel
theorem dX7_fails_70 : decode cX7_fails 70 = .ok (.aload_n 0, 1) := by decide +kernel
theorem dX7_fails_71 : decode cX7_fails 71 = .ok (.getfield 20, 3) := by decide +kernel
theorem dX7_fails_74 : decode cX7_fails 74 = .ok (.aload_n 0, 1) := by decide +kernel
theorem dX7_fails_75 : decode cX7_fails 75 = .ok (.getfield 16, 3) := by decide +kernel
theorem dX7_fails_78 : decode cX7_fails 78 = .ok (.iload_n 1, 1) := by decide +kernel
theorem dX7_fails_79 : decode cX7_fails 79 = .ok (.iastore, 1) := by decide +kernel
theorem dX7_fails_80 : decode cX7_fails 80 = .ok (.aload_n 0, 1) := by decide +kernel
theorem dX7_fails_81 : decode cX7_fails 81 = .ok (.getfield 24, 3) := by decide +kernel
theorem dX7_fails_84 : decode cX7_fails 84 = .ok (.aload_n 0, 1) := by decide +kernel
theorem dX7_fails_85 : decode cX7_fails 85 = .ok (.getfield 16, 3) := by decide +kernel
theorem dX7_fails_88 : decode cX7_fails 88 = .ok (.iload_n 2, 1) := by decide +kernel
theorem dX7_fails_89 : decode cX7_fails 89 = .ok (.iastore, 1) := by decide +kernel
theorem dX7_fails_90 : decode cX7_fails 90 = .ok (.aload_n 0, 1) := by decide +kernel
theorem dX7_fails_91 : decode cX7_fails 91 = .ok (.getfield 27, 3) := by decide +kernel
theorem dX7_fails_94 : decode cX7_fails 94 = .ok (.aload_n 0, 1) := by decide +kernel
theorem dX7_fails_95 : decode cX7_fails 95 = .ok (.getfield 16, 3) := by decide +kernel
theorem dX7_fails_98 : decode cX7_fails 98 = .ok (.iload_n 3, 1) := by decide +kernel
theorem dX7_fails_99 : decode cX7_fails 99 = .ok (.iastore, 1) := by decide +kernel
theorem dX7_fails_100 : decode cX7_fails 100 = .ok (.aload_n 0, 1) := by decide +kernel
theorem dX7_fails_101 : decode cX7_fails 101 = .ok (.getfield 30, 3) := by decide +kernel
theorem dX7_fails_104 : decode cX7_fails 104 = .ok (.aload_n 0, 1) := by decide +kernel
theorem dX7_fails_105 : decode cX7_fails 105 = .ok (.getfield 16, 3) := by decide +kernel
theorem dX7_fails_108 : decode cX7_fails 108 = .ok (.iload 4, 2) := by decide +kernel
theorem dX7_fails_110 : decode cX7_fails 110 = .ok (.iastore, 1) := by decide +kernel
theorem dX7_fails_111 : decode cX7_fails 111 = .ok (.aload_n 0, 1) := by decide +kernel
theorem dX7_fails_112 : decode cX7_fails 112 = .ok (.dup, 1) := by decide +kernel
theorem dX7_fails_113 : decode cX7_fails 113 = .ok (.getfield 16, 3) := by decide +kernel
theorem dX7_fails_116 : decode cX7_fails 116 = .ok (.iconst 1, 1) := by decide +kernel
theorem dX7_fails_117 : decode cX7_fails 117 = .ok (.iadd, 1) := by decide +kernel
theorem dX7_fails_118 : decode cX7_fails 118 = .ok (.putfield 16, 3) := by decide +kernel
theorem dX7_fails_121 : decode cX7_fails 121 = .ok (.iconst 2, 1) := by decide +kernel
theorem dX7_fails_122 : decode cX7_fails 122 = .ok (.aload_n 0, 1) := by decide +kernel
theorem dX7_fails_123 : decode cX7_fails 123 = .ok (.getfield 16, 3) := by decide +kernel
theorem dX7_fails_126 : decode cX7_fails 126 = .ok (.imul, 1) := by decide +kernel
theorem dX7_fails_127 : decode cX7_fails 127 = .ok (.iconst 1, 1) := by decide +kernel
theorem dX7_fails_128 : decode cX7_fails 128 = .ok (.isub, 1) := by decide +kernel
theorem dX7_fails_129 : decode cX7_fails 129 = .ok (.ireturn, 1) := by decide +kernel
theorem dX7_isFailure_0 : decode cX7_isFailure 0 = .ok (.iload_n 0, 1) := by decide +kernel
theorem dX7_isFailure_1 : decode cX7_isFailure 1 = .ok (.ifCond .lt 14, 3) := by decide +kernel
theorem dX7_isFailure_4 : decode cX7_isFailure 4 = .ok (.iload_n 0, 1) := by decide +kernel
theorem dX7_isFailure_5 : decode cX7_isFailure 5 = .ok (.iconst 2, 1) := by decide +kernel
theorem dX7_isFailure_6 : decode cX7_isFailure 6 = .ok (.irem, 1) := by decide +kernel
theorem dX7_isFailure_7 : decode cX7_isFailure 7 = .ok (.iconst 1, 1) := by decide +kernel
theorem dX7_isFailure_8 : decode cX7_isFailure 8 = .ok (.if_icmp .ne 7, 3) := by decide +kernel
theorem dX7_isFailure_11 : decode cX7_isFailure 11 = .ok (.iconst 1, 1) := by decide +kernel
theorem dX7_isFailure_12 : decode cX7_isFailure 12 = .ok (.goto 4, 3) := by decide +kernel
theorem dX7_isFailure_15 : decode cX7_isFailure 15 = .ok (.iconst 0, 1) := by decide +kernel
theorem dX7_isFailure_16 : decode cX7_isFailure 16 = .ok (.ireturn, 1) := by decide +kernel
theorem dX7_numberOf_0 : decode cX7_numberOf 0 = .ok (.iload_n 0, 1) := by decide +kernel
theorem dX7_numberOf_1 : decode cX7_numberOf 1 = .ok (.iconst 2, 1) := by decide +kernel
theorem dX7_numberOf_2 : decode cX7_numberOf 2 = .ok (.idiv, 1) := by decide +kernel
theorem dX7_numberOf_3 : decode cX7_numberOf 3 = .ok (.ldc 15, 2) := by decide +kernel
theorem dX7_numberOf_5 : decode cX7_numberOf 5 = .ok (.isub, 1) := by decide +kernel
theorem dX7_numberOf_6 : decode cX7_numberOf 6 = .ok (.ireturn, 1) := by decide +kernel
theorem dX7_toldOf_0 : decode cX7_toldOf 0 = .ok (.iload_n 1, 1) := by decide +kernel
theorem dX7_toldOf_1 : decode cX7_toldOf 1 = .ok (.ifCond .ge 8, 3) := by decide +kernel
theorem dX7_toldOf_4 : decode cX7_toldOf 4 = .ok (.ldc 33, 2) := by decide +kernel
theorem dX7_toldOf_6 : decode cX7_toldOf 6 = .ok (.goto 28, 3) := by decide +kernel
theorem dX7_toldOf_9 : decode cX7_toldOf 9 = .ok (.iload_n 1, 1) := by decide +kernel
theorem dX7_toldOf_10 : decode cX7_toldOf 10 = .ok (.invokestatic 34, 3) := by decide +kernel
theorem dX7_toldOf_13 : decode cX7_toldOf 13 = .ok (.ifCond .eq 17, 3) := by decide +kernel
theorem dX7_toldOf_16 : decode cX7_toldOf 16 = .ok (.ldc 33, 2) := by decide +kernel
theorem dX7_toldOf_18 : decode cX7_toldOf 18 = .ok (.aload_n 0, 1) := by decide +kernel
theorem dX7_toldOf_19 : decode cX7_toldOf 19 = .ok (.getfield 24, 3) := by decide +kernel
theorem dX7_toldOf_22 : decode cX7_toldOf 22 = .ok (.iload_n 1, 1) := by decide +kernel
theorem dX7_toldOf_23 : decode cX7_toldOf 23 = .ok (.iconst 2, 1) := by decide +kernel
theorem dX7_toldOf_24 : decode cX7_toldOf 24 = .ok (.idiv, 1) := by decide +kernel
theorem dX7_toldOf_25 : decode cX7_toldOf 25 = .ok (.iaload, 1) := by decide +kernel
theorem dX7_toldOf_26 : decode cX7_toldOf 26 = .ok (.iadd, 1) := by decide +kernel
theorem dX7_toldOf_27 : decode cX7_toldOf 27 = .ok (.goto 7, 3) := by decide +kernel
theorem dX7_toldOf_30 : decode cX7_toldOf 30 = .ok (.iload_n 1, 1) := by decide +kernel
theorem dX7_toldOf_31 : decode cX7_toldOf 31 = .ok (.invokestatic 38, 3) := by decide +kernel
theorem dX7_toldOf_34 : decode cX7_toldOf 34 = .ok (.ireturn, 1) := by decide +kernel
theorem dX7_init_0 : decode cX7_init 0 = .ok (.aload_n 0, 1) := by decide +kernel
theorem dX7_init_1 : decode cX7_init 1 = .ok (.invokespecial 42, 3) := by decide +kernel
theorem dX7_init_4 : decode cX7_init 4 = .ok (.aload_n 0, 1) := by decide +kernel
theorem dX7_init_5 : decode cX7_init 5 = .ok (.sipush 9000, 3) := by decide +kernel
theorem dX7_init_8 : decode cX7_init 8 = .ok (.newarray .int, 2) := by decide +kernel
theorem dX7_init_10 : decode cX7_init 10 = .ok (.putfield 20, 3) := by decide +kernel
theorem dX7_init_13 : decode cX7_init 13 = .ok (.aload_n 0, 1) := by decide +kernel
theorem dX7_init_14 : decode cX7_init 14 = .ok (.sipush 9000, 3) := by decide +kernel
theorem dX7_init_17 : decode cX7_init 17 = .ok (.newarray .int, 2) := by decide +kernel
theorem dX7_init_19 : decode cX7_init 19 = .ok (.putfield 24, 3) := by decide +kernel
theorem dX7_init_22 : decode cX7_init 22 = .ok (.aload_n 0, 1) := by decide +kernel
theorem dX7_init_23 : decode cX7_init 23 = .ok (.sipush 9000, 3) := by decide +kernel
theorem dX7_init_26 : decode cX7_init 26 = .ok (.newarray .int, 2) := by decide +kernel
theorem dX7_init_28 : decode cX7_init 28 = .ok (.putfield 27, 3) := by decide +kernel
theorem dX7_init_31 : decode cX7_init 31 = .ok (.aload_n 0, 1) := by decide +kernel
theorem dX7_init_32 : decode cX7_init 32 = .ok (.sipush 9000, 3) := by decide +kernel
theorem dX7_init_35 : decode cX7_init 35 = .ok (.newarray .int, 2) := by decide +kernel
theorem dX7_init_37 : decode cX7_init 37 = .ok (.putfield 30, 3) := by decide +kernel
theorem dX7_init_40 : decode cX7_init 40 = .ok (.aload_n 0, 1) := by decide +kernel
theorem dX7_init_41 : decode cX7_init 41 = .ok (.sipush 824, 3) := by decide +kernel
theorem dX7_init_44 : decode cX7_init 44 = .ok (.newarray .int, 2) := by decide +kernel
theorem dX7_init_46 : decode cX7_init 46 = .ok (.putfield 48, 3) := by decide +kernel
theorem dX7_init_49 : decode cX7_init 49 = .ok (.aload_n 0, 1) := by decide +kernel
theorem dX7_init_50 : decode cX7_init 50 = .ok (.sipush 824, 3) := by decide +kernel
theorem dX7_init_53 : decode cX7_init 53 = .ok (.newarray .int, 2) := by decide +kernel
theorem dX7_init_55 : decode cX7_init 55 = .ok (.putfield 51, 3) := by decide +kernel
theorem dX7_init_58 : decode cX7_init 58 = .ok (.aload_n 0, 1) := by decide +kernel
theorem dX7_init_59 : decode cX7_init 59 = .ok (.sipush 824, 3) := by decide +kernel
theorem dX7_init_62 : decode cX7_init 62 = .ok (.newarray .int, 2) := by decide +kernel
theorem dX7_init_64 : decode cX7_init 64 = .ok (.putfield 54, 3) := by decide +kernel
theorem dX7_init_67 : decode cX7_init 67 = .ok (.aload_n 0, 1) := by decide +kernel
theorem dX7_init_68 : decode cX7_init 68 = .ok (.bipush 50, 2) := by decide +kernel
theorem dX7_init_70 : decode cX7_init 70 = .ok (.newarray .int, 2) := by decide +kernel
theorem dX7_init_72 : decode cX7_init 72 = .ok (.putfield 57, 3) := by decide +kernel
theorem dX7_init_75 : decode cX7_init 75 = .ok (.aload_n 0, 1) := by decide +kernel
theorem dX7_init_76 : decode cX7_init 76 = .ok (.bipush 24, 2) := by decide +kernel
theorem dX7_init_78 : decode cX7_init 78 = .ok (.newarray .boolean, 2) := by decide +kernel
theorem dX7_init_80 : decode cX7_init 80 = .ok (.putfield 60, 3) := by decide +kernel
theorem dX7_init_83 : decode cX7_init 83 = .ok (.aload_n 0, 1) := by decide +kernel
theorem dX7_init_84 : decode cX7_init 84 = .ok (.bipush 24, 2) := by decide +kernel
theorem dX7_init_86 : decode cX7_init 86 = .ok (.newarray .boolean, 2) := by decide +kernel
theorem dX7_init_88 : decode cX7_init 88 = .ok (.putfield 64, 3) := by decide +kernel
theorem dX7_init_91 : decode cX7_init 91 = .ok (.aload_n 0, 1) := by decide +kernel
theorem dX7_init_92 : decode cX7_init 92 = .ok (.bipush 16, 2) := by decide +kernel
theorem dX7_init_94 : decode cX7_init 94 = .ok (.newarray .int, 2) := by decide +kernel
theorem dX7_init_96 : decode cX7_init 96 = .ok (.putfield 67, 3) := by decide +kernel
theorem dX7_init_99 : decode cX7_init 99 = .ok (.aload_n 0, 1) := by decide +kernel
theorem dX7_init_100 : decode cX7_init 100 = .ok (.bipush (-5), 2) := by decide +kernel
theorem dX7_init_102 : decode cX7_init 102 = .ok (.putfield 70, 3) := by decide +kernel
theorem dX7_init_105 : decode cX7_init 105 = .ok (.aload_n 0, 1) := by decide +kernel
theorem dX7_init_106 : decode cX7_init 106 = .ok (.bipush 12, 2) := by decide +kernel
theorem dX7_init_108 : decode cX7_init 108 = .ok (.newarray .int, 2) := by decide +kernel
theorem dX7_init_110 : decode cX7_init 110 = .ok (.putfield 73, 3) := by decide +kernel
theorem dX7_init_113 : decode cX7_init 113 = .ok (.aload_n 0, 1) := by decide +kernel
theorem dX7_init_114 : decode cX7_init 114 = .ok (.bipush 12, 2) := by decide +kernel
theorem dX7_init_116 : decode cX7_init 116 = .ok (.newarray .int, 2) := by decide +kernel
theorem dX7_init_118 : decode cX7_init 118 = .ok (.putfield 76, 3) := by decide +kernel
theorem dX7_init_121 : decode cX7_init 121 = .ok (.aload_n 0, 1) := by decide +kernel
theorem dX7_init_122 : decode cX7_init 122 = .ok (.bipush 24, 2) := by decide +kernel
theorem dX7_init_124 : decode cX7_init 124 = .ok (.newarray .boolean, 2) := by decide +kernel
theorem dX7_init_126 : decode cX7_init 126 = .ok (.putfield 79, 3) := by decide +kernel
theorem dX7_init_129 : decode cX7_init 129 = .ok (.aload_n 0, 1) := by decide +kernel
theorem dX7_init_130 : decode cX7_init 130 = .ok (.bipush 16, 2) := by decide +kernel
theorem dX7_init_132 : decode cX7_init 132 = .ok (.newarray .int, 2) := by decide +kernel
theorem dX7_init_134 : decode cX7_init 134 = .ok (.putfield 82, 3) := by decide +kernel
theorem dX7_init_137 : decode cX7_init 137 = .ok (.aload_n 0, 1) := by decide +kernel
theorem dX7_init_138 : decode cX7_init 138 = .ok (.bipush 24, 2) := by decide +kernel
theorem dX7_init_140 : decode cX7_init 140 = .ok (.newarray .int, 2) := by decide +kernel
theorem dX7_init_142 : decode cX7_init 142 = .ok (.putfield 85, 3) := by decide +kernel
theorem dX7_init_145 : decode cX7_init 145 = .ok (.aload_n 0, 1) := by decide +kernel
theorem dX7_init_146 : decode cX7_init 146 = .ok (.iconst 4, 1) := by decide +kernel
theorem dX7_init_147 : decode cX7_init 147 = .ok (.newarray .int, 2) := by decide +kernel
theorem dX7_init_149 : decode cX7_init 149 = .ok (.dup, 1) := by decide +kernel
theorem dX7_init_150 : decode cX7_init 150 = .ok (.iconst 0, 1) := by decide +kernel
theorem dX7_init_151 : decode cX7_init 151 = .ok (.iconst (-1), 1) := by decide +kernel
theorem dX7_init_152 : decode cX7_init 152 = .ok (.iastore, 1) := by decide +kernel
theorem dX7_init_153 : decode cX7_init 153 = .ok (.dup, 1) := by decide +kernel
theorem dX7_init_154 : decode cX7_init 154 = .ok (.iconst 1, 1) := by decide +kernel
theorem dX7_init_155 : decode cX7_init 155 = .ok (.iconst (-1), 1) := by decide +kernel
theorem dX7_init_156 : decode cX7_init 156 = .ok (.iastore, 1) := by decide +kernel
theorem dX7_init_157 : decode cX7_init 157 = .ok (.dup, 1) := by decide +kernel
theorem dX7_init_158 : decode cX7_init 158 = .ok (.iconst 2, 1) := by decide +kernel
theorem dX7_init_159 : decode cX7_init 159 = .ok (.iconst (-1), 1) := by decide +kernel
theorem dX7_init_160 : decode cX7_init 160 = .ok (.iastore, 1) := by decide +kernel
theorem dX7_init_161 : decode cX7_init 161 = .ok (.dup, 1) := by decide +kernel
theorem dX7_init_162 : decode cX7_init 162 = .ok (.iconst 3, 1) := by decide +kernel
theorem dX7_init_163 : decode cX7_init 163 = .ok (.iconst (-1), 1) := by decide +kernel
theorem dX7_init_164 : decode cX7_init 164 = .ok (.iastore, 1) := by decide +kernel
theorem dX7_init_165 : decode cX7_init 165 = .ok (.putfield 88, 3) := by decide +kernel
theorem dX7_init_168 : decode cX7_init 168 = .ok (.aload_n 0, 1) := by decide +kernel
theorem dX7_init_169 : decode cX7_init 169 = .ok (.bipush 80, 2) := by decide +kernel
theorem dX7_init_171 : decode cX7_init 171 = .ok (.newarray .long, 2) := by decide +kernel
theorem dX7_init_173 : decode cX7_init 173 = .ok (.putfield 91, 3) := by decide +kernel
theorem dX7_init_176 : decode cX7_init 176 = .ok (.aload_n 0, 1) := by decide +kernel
theorem dX7_init_177 : decode cX7_init 177 = .ok (.bipush 20, 2) := by decide +kernel
theorem dX7_init_179 : decode cX7_init 179 = .ok (.newarray .long, 2) := by decide +kernel
theorem dX7_init_181 : decode cX7_init 181 = .ok (.putfield 95, 3) := by decide +kernel
theorem dX7_init_184 : decode cX7_init 184 = .ok (.iconst 0, 1) := by decide +kernel
theorem dX7_init_185 : decode cX7_init 185 = .ok (.istore_n 1, 1) := by decide +kernel
theorem dX7_init_186 : decode cX7_init 186 = .ok (.iload_n 1, 1) := by decide +kernel
theorem dX7_init_187 : decode cX7_init 187 = .ok (.bipush 8, 2) := by decide +kernel
theorem dX7_init_189 : decode cX7_init 189 = .ok (.if_icmp .ge 16, 3) := by decide +kernel
theorem dX7_init_192 : decode cX7_init 192 = .ok (.aload_n 0, 1) := by decide +kernel
theorem dX7_init_193 : decode cX7_init 193 = .ok (.getfield 48, 3) := by decide +kernel
theorem dX7_init_196 : decode cX7_init 196 = .ok (.iload_n 1, 1) := by decide +kernel
theorem dX7_init_197 : decode cX7_init 197 = .ok (.iconst (-1), 1) := by decide +kernel
theorem dX7_init_198 : decode cX7_init 198 = .ok (.iastore, 1) := by decide +kernel
theorem dX7_init_199 : decode cX7_init 199 = .ok (.iinc 1 1, 3) := by decide +kernel
theorem dX7_init_202 : decode cX7_init 202 = .ok (.goto (-16), 3) := by decide +kernel
theorem dX7_init_205 : decode cX7_init 205 = .ok (.iconst 0, 1) := by decide +kernel
theorem dX7_init_206 : decode cX7_init 206 = .ok (.istore_n 1, 1) := by decide +kernel
theorem dX7_init_207 : decode cX7_init 207 = .ok (.iload_n 1, 1) := by decide +kernel
theorem dX7_init_208 : decode cX7_init 208 = .ok (.bipush 16, 2) := by decide +kernel
theorem dX7_init_210 : decode cX7_init 210 = .ok (.if_icmp .ge 34, 3) := by decide +kernel
theorem dX7_init_213 : decode cX7_init 213 = .ok (.aload_n 0, 1) := by decide +kernel
theorem dX7_init_214 : decode cX7_init 214 = .ok (.getfield 48, 3) := by decide +kernel
theorem dX7_init_217 : decode cX7_init 217 = .ok (.sipush 408, 3) := by decide +kernel
theorem dX7_init_220 : decode cX7_init 220 = .ok (.iload_n 1, 1) := by decide +kernel
theorem dX7_init_221 : decode cX7_init 221 = .ok (.iadd, 1) := by decide +kernel
theorem dX7_init_222 : decode cX7_init 222 = .ok (.iconst (-1), 1) := by decide +kernel
theorem dX7_init_223 : decode cX7_init 223 = .ok (.iastore, 1) := by decide +kernel
theorem dX7_init_224 : decode cX7_init 224 = .ok (.aload_n 0, 1) := by decide +kernel
theorem dX7_init_225 : decode cX7_init 225 = .ok (.getfield 48, 3) := by decide +kernel
theorem dX7_init_228 : decode cX7_init 228 = .ok (.sipush 424, 3) := by decide +kernel
theorem dX7_init_231 : decode cX7_init 231 = .ok (.bipush 25, 2) := by decide +kernel
theorem dX7_init_233 : decode cX7_init 233 = .ok (.iload_n 1, 1) := by decide +kernel
theorem dX7_init_234 : decode cX7_init 234 = .ok (.imul, 1) := by decide +kernel
theorem dX7_init_235 : decode cX7_init 235 = .ok (.iadd, 1) := by decide +kernel
theorem dX7_init_236 : decode cX7_init 236 = .ok (.iconst (-1), 1) := by decide +kernel
theorem dX7_init_237 : decode cX7_init 237 = .ok (.iastore, 1) := by decide +kernel
theorem dX7_init_238 : decode cX7_init 238 = .ok (.iinc 1 1, 3) := by decide +kernel
theorem dX7_init_241 : decode cX7_init 241 = .ok (.goto (-34), 3) := by decide +kernel
theorem dX7_init_244 : decode cX7_init 244 = .ok (.return_, 1) := by decide +kernel
theorem dX7_pours_0 : decode cX7_pours 0 = .ok (.iconst 0, 1) := by decide +kernel
theorem dX7_pours_1 : decode cX7_pours 1 = .ok (.istore_n 2, 1) := by decide +kernel
theorem dX7_pours_2 : decode cX7_pours 2 = .ok (.iload_n 2, 1) := by decide +kernel
theorem dX7_pours_3 : decode cX7_pours 3 = .ok (.sipush 824, 3) := by decide +kernel
theorem dX7_pours_6 : decode cX7_pours 6 = .ok (.if_icmp .ge 15, 3) := by decide +kernel
theorem dX7_pours_9 : decode cX7_pours 9 = .ok (.aload_n 1, 1) := by decide +kernel
theorem dX7_pours_10 : decode cX7_pours 10 = .ok (.iload_n 2, 1) := by decide +kernel
theorem dX7_pours_11 : decode cX7_pours 11 = .ok (.aload_n 0, 1) := by decide +kernel
theorem dX7_pours_12 : decode cX7_pours 12 = .ok (.iload_n 2, 1) := by decide +kernel
theorem dX7_pours_13 : decode cX7_pours 13 = .ok (.iaload, 1) := by decide +kernel
theorem dX7_pours_14 : decode cX7_pours 14 = .ok (.iastore, 1) := by decide +kernel
theorem dX7_pours_15 : decode cX7_pours 15 = .ok (.iinc 2 1, 3) := by decide +kernel
theorem dX7_pours_18 : decode cX7_pours 18 = .ok (.goto (-16), 3) := by decide +kernel
theorem dX7_pours_21 : decode cX7_pours 21 = .ok (.return_, 1) := by decide +kernel
theorem dX7_ruled_0 : decode cX7_ruled 0 = .ok (.aload_n 0, 1) := by decide +kernel
theorem dX7_ruled_1 : decode cX7_ruled 1 = .ok (.getfield 48, 3) := by decide +kernel
theorem dX7_ruled_4 : decode cX7_ruled 4 = .ok (.bipush 8, 2) := by decide +kernel
theorem dX7_ruled_6 : decode cX7_ruled 6 = .ok (.bipush 25, 2) := by decide +kernel
theorem dX7_ruled_8 : decode cX7_ruled 8 = .ok (.iload_n 1, 1) := by decide +kernel
theorem dX7_ruled_9 : decode cX7_ruled 9 = .ok (.bipush 8, 2) := by decide +kernel
theorem dX7_ruled_11 : decode cX7_ruled 11 = .ok (.isub, 1) := by decide +kernel
theorem dX7_ruled_12 : decode cX7_ruled 12 = .ok (.imul, 1) := by decide +kernel
theorem dX7_ruled_13 : decode cX7_ruled 13 = .ok (.iadd, 1) := by decide +kernel
theorem dX7_ruled_14 : decode cX7_ruled 14 = .ok (.iload_n 2, 1) := by decide +kernel
theorem dX7_ruled_15 : decode cX7_ruled 15 = .ok (.iadd, 1) := by decide +kernel
theorem dX7_ruled_16 : decode cX7_ruled 16 = .ok (.iaload, 1) := by decide +kernel
theorem dX7_ruled_17 : decode cX7_ruled 17 = .ok (.ireturn, 1) := by decide +kernel
theorem dX7_traceAt_0 : decode cX7_traceAt 0 = .ok (.sipush 424, 3) := by decide +kernel
theorem dX7_traceAt_3 : decode cX7_traceAt 3 = .ok (.bipush 25, 2) := by decide +kernel
theorem dX7_traceAt_5 : decode cX7_traceAt 5 = .ok (.iload_n 1, 1) := by decide +kernel
theorem dX7_traceAt_6 : decode cX7_traceAt 6 = .ok (.bipush 8, 2) := by decide +kernel
theorem dX7_traceAt_8 : decode cX7_traceAt 8 = .ok (.isub, 1) := by decide +kernel
theorem dX7_traceAt_9 : decode cX7_traceAt 9 = .ok (.imul, 1) := by decide +kernel
theorem dX7_traceAt_10 : decode cX7_traceAt 10 = .ok (.iadd, 1) := by decide +kernel
theorem dX7_traceAt_11 : decode cX7_traceAt 11 = .ok (.ireturn, 1) := by decide +kernel
theorem dX7_traced_0 : decode cX7_traced 0 = .ok (.aload_n 0, 1) := by decide +kernel
theorem dX7_traced_1 : decode cX7_traced 1 = .ok (.getfield 48, 3) := by decide +kernel
theorem dX7_traced_4 : decode cX7_traced 4 = .ok (.aload_n 0, 1) := by decide +kernel
theorem dX7_traced_5 : decode cX7_traced 5 = .ok (.iload_n 1, 1) := by decide +kernel
theorem dX7_traced_6 : decode cX7_traced 6 = .ok (.invokevirtual 98, 3) := by decide +kernel
theorem dX7_traced_9 : decode cX7_traced 9 = .ok (.iaload, 1) := by decide +kernel
theorem dX7_traced_10 : decode cX7_traced 10 = .ok (.ireturn, 1) := by decide +kernel
theorem dX7_has_0 : decode cX7_has 0 = .ok (.iload_n 1, 1) := by decide +kernel
theorem dX7_has_1 : decode cX7_has 1 = .ok (.invokestatic 101, 3) := by decide +kernel
theorem dX7_has_4 : decode cX7_has 4 = .ok (.ifCond .eq 17, 3) := by decide +kernel
theorem dX7_has_7 : decode cX7_has 7 = .ok (.aload_n 0, 1) := by decide +kernel
theorem dX7_has_8 : decode cX7_has 8 = .ok (.getfield 48, 3) := by decide +kernel
theorem dX7_has_11 : decode cX7_has 11 = .ok (.sipush 408, 3) := by decide +kernel
theorem dX7_has_14 : decode cX7_has 14 = .ok (.iload_n 1, 1) := by decide +kernel
theorem dX7_has_15 : decode cX7_has 15 = .ok (.iadd, 1) := by decide +kernel
theorem dX7_has_16 : decode cX7_has 16 = .ok (.bipush 8, 2) := by decide +kernel
theorem dX7_has_18 : decode cX7_has 18 = .ok (.isub, 1) := by decide +kernel
theorem dX7_has_19 : decode cX7_has 19 = .ok (.iaload, 1) := by decide +kernel
theorem dX7_has_20 : decode cX7_has 20 = .ok (.ireturn, 1) := by decide +kernel
theorem dX7_has_21 : decode cX7_has 21 = .ok (.aload_n 0, 1) := by decide +kernel
theorem dX7_has_22 : decode cX7_has 22 = .ok (.getfield 48, 3) := by decide +kernel
theorem dX7_has_25 : decode cX7_has 25 = .ok (.iload_n 1, 1) := by decide +kernel
theorem dX7_has_26 : decode cX7_has 26 = .ok (.iaload, 1) := by decide +kernel
theorem dX7_has_27 : decode cX7_has 27 = .ok (.ifCond .ge 15, 3) := by decide +kernel
theorem dX7_has_30 : decode cX7_has 30 = .ok (.aload_n 0, 1) := by decide +kernel
theorem dX7_has_31 : decode cX7_has 31 = .ok (.iload_n 1, 1) := by decide +kernel
theorem dX7_has_32 : decode cX7_has 32 = .ok (.bipush 6, 2) := by decide +kernel
theorem dX7_has_34 : decode cX7_has 34 = .ok (.iconst (-1), 1) := by decide +kernel
theorem dX7_has_35 : decode cX7_has 35 = .ok (.iconst (-1), 1) := by decide +kernel
theorem dX7_has_36 : decode cX7_has 36 = .ok (.invokevirtual 104, 3) := by decide +kernel
theorem dX7_has_39 : decode cX7_has 39 = .ok (.goto 9, 3) := by decide +kernel
theorem dX7_has_42 : decode cX7_has 42 = .ok (.aload_n 0, 1) := by decide +kernel
theorem dX7_has_43 : decode cX7_has 43 = .ok (.getfield 48, 3) := by decide +kernel
theorem dX7_has_46 : decode cX7_has 46 = .ok (.iload_n 1, 1) := by decide +kernel
theorem dX7_has_47 : decode cX7_has 47 = .ok (.iaload, 1) := by decide +kernel
theorem dX7_has_48 : decode cX7_has 48 = .ok (.ireturn, 1) := by decide +kernel
theorem dX7_give_0 : decode cX7_give 0 = .ok (.iload_n 1, 1) := by decide +kernel
theorem dX7_give_1 : decode cX7_give 1 = .ok (.invokestatic 108, 3) := by decide +kernel
theorem dX7_give_4 : decode cX7_give 4 = .ok (.ifCond .ne 5, 3) := by decide +kernel
theorem dX7_give_7 : decode cX7_give 7 = .ok (.iconst (-1), 1) := by decide +kernel
theorem dX7_give_8 : decode cX7_give 8 = .ok (.ireturn, 1) := by decide +kernel
theorem dX7_give_9 : decode cX7_give 9 = .ok (.iload_n 2, 1) := by decide +kernel
theorem dX7_give_10 : decode cX7_give 10 = .ok (.i2l, 1) := by decide +kernel
theorem dX7_give_11 : decode cX7_give 11 = .ok (.ldc2_w 111, 3) := by decide +kernel
theorem dX7_give_14 : decode cX7_give 14 = .ok (.ldc2_w 113, 3) := by decide +kernel
theorem dX7_give_17 : decode cX7_give 17 = .ok (.invokestatic 7, 3) := by decide +kernel
theorem dX7_give_20 : decode cX7_give 20 = .ok (.ifCond .ne 6, 3) := by decide +kernel
theorem dX7_give_23 : decode cX7_give 23 = .ok (.bipush (-2), 2) := by decide +kernel
theorem dX7_give_25 : decode cX7_give 25 = .ok (.ireturn, 1) := by decide +kernel
theorem dX7_give_26 : decode cX7_give 26 = .ok (.aload_n 0, 1) := by decide +kernel
theorem dX7_give_27 : decode cX7_give 27 = .ok (.getfield 48, 3) := by decide +kernel
theorem dX7_give_30 : decode cX7_give 30 = .ok (.iload_n 1, 1) := by decide +kernel
theorem dX7_give_31 : decode cX7_give 31 = .ok (.iaload, 1) := by decide +kernel
theorem dX7_give_32 : decode cX7_give 32 = .ok (.istore_n 3, 1) := by decide +kernel
theorem dX7_give_33 : decode cX7_give 33 = .ok (.aload_n 0, 1) := by decide +kernel
theorem dX7_give_34 : decode cX7_give 34 = .ok (.getfield 48, 3) := by decide +kernel
theorem dX7_give_37 : decode cX7_give 37 = .ok (.iload_n 1, 1) := by decide +kernel
theorem dX7_give_38 : decode cX7_give 38 = .ok (.iload_n 2, 1) := by decide +kernel
theorem dX7_give_39 : decode cX7_give 39 = .ok (.invokestatic 115, 3) := by decide +kernel
theorem dX7_give_42 : decode cX7_give 42 = .ok (.iastore, 1) := by decide +kernel
theorem dX7_give_43 : decode cX7_give 43 = .ok (.iload_n 3, 1) := by decide +kernel
theorem dX7_give_44 : decode cX7_give 44 = .ok (.aload_n 0, 1) := by decide +kernel
theorem dX7_give_45 : decode cX7_give 45 = .ok (.getfield 48, 3) := by decide +kernel
theorem dX7_give_48 : decode cX7_give 48 = .ok (.iload_n 1, 1) := by decide +kernel
theorem dX7_give_49 : decode cX7_give 49 = .ok (.iaload, 1) := by decide +kernel
theorem dX7_give_50 : decode cX7_give 50 = .ok (.if_icmp .ne 7, 3) := by decide +kernel
theorem dX7_give_53 : decode cX7_give 53 = .ok (.iconst 0, 1) := by decide +kernel
theorem dX7_give_54 : decode cX7_give 54 = .ok (.goto 4, 3) := by decide +kernel
theorem dX7_give_57 : decode cX7_give 57 = .ok (.iconst 1, 1) := by decide +kernel
theorem dX7_give_58 : decode cX7_give 58 = .ok (.ireturn, 1) := by decide +kernel
theorem dX7_take_0 : decode cX7_take 0 = .ok (.iload_n 1, 1) := by decide +kernel
theorem dX7_take_1 : decode cX7_take 1 = .ok (.invokestatic 108, 3) := by decide +kernel
theorem dX7_take_4 : decode cX7_take 4 = .ok (.ifCond .ne 5, 3) := by decide +kernel
theorem dX7_take_7 : decode cX7_take 7 = .ok (.iconst (-1), 1) := by decide +kernel
theorem dX7_take_8 : decode cX7_take 8 = .ok (.ireturn, 1) := by decide +kernel
theorem dX7_take_9 : decode cX7_take 9 = .ok (.aload_n 0, 1) := by decide +kernel
theorem dX7_take_10 : decode cX7_take 10 = .ok (.getfield 48, 3) := by decide +kernel
theorem dX7_take_13 : decode cX7_take 13 = .ok (.iload_n 1, 1) := by decide +kernel
theorem dX7_take_14 : decode cX7_take 14 = .ok (.iaload, 1) := by decide +kernel
theorem dX7_take_15 : decode cX7_take 15 = .ok (.ifCond .ge 6, 3) := by decide +kernel
theorem dX7_take_18 : decode cX7_take 18 = .ok (.bipush (-3), 2) := by decide +kernel
theorem dX7_take_20 : decode cX7_take 20 = .ok (.ireturn, 1) := by decide +kernel
theorem dX7_take_21 : decode cX7_take 21 = .ok (.aload_n 0, 1) := by decide +kernel
theorem dX7_take_22 : decode cX7_take 22 = .ok (.getfield 48, 3) := by decide +kernel
theorem dX7_take_25 : decode cX7_take 25 = .ok (.iload_n 1, 1) := by decide +kernel
theorem dX7_take_26 : decode cX7_take 26 = .ok (.iaload, 1) := by decide +kernel
theorem dX7_take_27 : decode cX7_take 27 = .ok (.invokestatic 38, 3) := by decide +kernel
theorem dX7_take_30 : decode cX7_take 30 = .ok (.istore_n 2, 1) := by decide +kernel
theorem dX7_take_31 : decode cX7_take 31 = .ok (.aload_n 0, 1) := by decide +kernel
theorem dX7_take_32 : decode cX7_take 32 = .ok (.getfield 48, 3) := by decide +kernel
theorem dX7_take_35 : decode cX7_take 35 = .ok (.iload_n 1, 1) := by decide +kernel
theorem dX7_take_36 : decode cX7_take 36 = .ok (.iconst (-1), 1) := by decide +kernel
theorem dX7_take_37 : decode cX7_take 37 = .ok (.iastore, 1) := by decide +kernel
theorem dX7_take_38 : decode cX7_take 38 = .ok (.iload_n 2, 1) := by decide +kernel
theorem dX7_take_39 : decode cX7_take 39 = .ok (.ireturn, 1) := by decide +kernel
theorem dX7_feed_0 : decode cX7_feed 0 = .ok (.iload_n 1, 1) := by decide +kernel
theorem dX7_feed_1 : decode cX7_feed 1 = .ok (.i2l, 1) := by decide +kernel
theorem dX7_feed_2 : decode cX7_feed 2 = .ok (.lconst 1, 1) := by decide +kernel
theorem dX7_feed_3 : decode cX7_feed 3 = .ok (.ldc2_w 118, 3) := by decide +kernel
theorem dX7_feed_6 : decode cX7_feed 6 = .ok (.invokestatic 7, 3) := by decide +kernel
theorem dX7_feed_9 : decode cX7_feed 9 = .ok (.ifCond .ne 6, 3) := by decide +kernel
theorem dX7_feed_12 : decode cX7_feed 12 = .ok (.bipush (-2), 2) := by decide +kernel
theorem dX7_feed_14 : decode cX7_feed 14 = .ok (.ireturn, 1) := by decide +kernel
theorem dX7_feed_15 : decode cX7_feed 15 = .ok (.aload_n 0, 1) := by decide +kernel
theorem dX7_feed_16 : decode cX7_feed 16 = .ok (.getfield 120, 3) := by decide +kernel
theorem dX7_feed_19 : decode cX7_feed 19 = .ok (.bipush 50, 2) := by decide +kernel
theorem dX7_feed_21 : decode cX7_feed 21 = .ok (.if_icmp .ne 6, 3) := by decide +kernel
theorem dX7_feed_24 : decode cX7_feed 24 = .ok (.bipush (-4), 2) := by decide +kernel
theorem dX7_feed_26 : decode cX7_feed 26 = .ok (.ireturn, 1) := by decide +kernel
theorem dX7_feed_27 : decode cX7_feed 27 = .ok (.aload_n 0, 1) := by decide +kernel
theorem dX7_feed_28 : decode cX7_feed 28 = .ok (.getfield 57, 3) := by decide +kernel
theorem dX7_feed_31 : decode cX7_feed 31 = .ok (.aload_n 0, 1) := by decide +kernel
theorem dX7_feed_32 : decode cX7_feed 32 = .ok (.getfield 120, 3) := by decide +kernel
theorem dX7_feed_35 : decode cX7_feed 35 = .ok (.iload_n 1, 1) := by decide +kernel
theorem dX7_feed_36 : decode cX7_feed 36 = .ok (.iastore, 1) := by decide +kernel
theorem dX7_feed_37 : decode cX7_feed 37 = .ok (.aload_n 0, 1) := by decide +kernel
theorem dX7_feed_38 : decode cX7_feed 38 = .ok (.dup, 1) := by decide +kernel
theorem dX7_feed_39 : decode cX7_feed 39 = .ok (.getfield 120, 3) := by decide +kernel
theorem dX7_feed_42 : decode cX7_feed 42 = .ok (.iconst 1, 1) := by decide +kernel
theorem dX7_feed_43 : decode cX7_feed 43 = .ok (.iadd, 1) := by decide +kernel
theorem dX7_feed_44 : decode cX7_feed 44 = .ok (.putfield 120, 3) := by decide +kernel
theorem dX7_feed_47 : decode cX7_feed 47 = .ok (.aload_n 0, 1) := by decide +kernel
theorem dX7_feed_48 : decode cX7_feed 48 = .ok (.getfield 120, 3) := by decide +kernel
theorem dX7_feed_51 : decode cX7_feed 51 = .ok (.ireturn, 1) := by decide +kernel
theorem dX7_clear_0 : decode cX7_clear 0 = .ok (.aload_n 0, 1) := by decide +kernel
theorem dX7_clear_1 : decode cX7_clear 1 = .ok (.getfield 120, 3) := by decide +kernel
theorem dX7_clear_4 : decode cX7_clear 4 = .ok (.istore_n 1, 1) := by decide +kernel
theorem dX7_clear_5 : decode cX7_clear 5 = .ok (.aload_n 0, 1) := by decide +kernel
theorem dX7_clear_6 : decode cX7_clear 6 = .ok (.iconst 0, 1) := by decide +kernel
theorem dX7_clear_7 : decode cX7_clear 7 = .ok (.putfield 120, 3) := by decide +kernel
theorem dX7_clear_10 : decode cX7_clear 10 = .ok (.iload_n 1, 1) := by decide +kernel
theorem dX7_clear_11 : decode cX7_clear 11 = .ok (.ireturn, 1) := by decide +kernel
theorem dX7_isAsking_0 : decode cX7_isAsking 0 = .ok (.iload_n 0, 1) := by decide +kernel
theorem dX7_isAsking_1 : decode cX7_isAsking 1 = .ok (.bipush 43, 2) := by decide +kernel
theorem dX7_isAsking_3 : decode cX7_isAsking 3 = .ok (.if_icmp .eq 27, 3) := by decide +kernel
theorem dX7_isAsking_6 : decode cX7_isAsking 6 = .ok (.iload_n 0, 1) := by decide +kernel
theorem dX7_isAsking_7 : decode cX7_isAsking 7 = .ok (.bipush 45, 2) := by decide +kernel
theorem dX7_isAsking_9 : decode cX7_isAsking 9 = .ok (.if_icmp .eq 21, 3) := by decide +kernel
theorem dX7_isAsking_12 : decode cX7_isAsking 12 = .ok (.iload_n 0, 1) := by decide +kernel
theorem dX7_isAsking_13 : decode cX7_isAsking 13 = .ok (.bipush 42, 2) := by decide +kernel
theorem dX7_isAsking_15 : decode cX7_isAsking 15 = .ok (.if_icmp .eq 15, 3) := by decide +kernel
theorem dX7_isAsking_18 : decode cX7_isAsking 18 = .ok (.iload_n 0, 1) := by decide +kernel
theorem dX7_isAsking_19 : decode cX7_isAsking 19 = .ok (.bipush 47, 2) := by decide +kernel
theorem dX7_isAsking_21 : decode cX7_isAsking 21 = .ok (.if_icmp .eq 9, 3) := by decide +kernel
theorem dX7_isAsking_24 : decode cX7_isAsking 24 = .ok (.iload_n 0, 1) := by decide +kernel
theorem dX7_isAsking_25 : decode cX7_isAsking 25 = .ok (.bipush 38, 2) := by decide +kernel
theorem dX7_isAsking_27 : decode cX7_isAsking 27 = .ok (.if_icmp .ne 7, 3) := by decide +kernel
theorem dX7_isAsking_30 : decode cX7_isAsking 30 = .ok (.iconst 1, 1) := by decide +kernel
theorem dX7_isAsking_31 : decode cX7_isAsking 31 = .ok (.goto 4, 3) := by decide +kernel
theorem dX7_isAsking_34 : decode cX7_isAsking 34 = .ok (.iconst 0, 1) := by decide +kernel
theorem dX7_isAsking_35 : decode cX7_isAsking 35 = .ok (.ireturn, 1) := by decide +kernel
theorem dX7_isSign_0 : decode cX7_isSign 0 = .ok (.iload_n 0, 1) := by decide +kernel
theorem dX7_isSign_1 : decode cX7_isSign 1 = .ok (.invokestatic 123, 3) := by decide +kernel
theorem dX7_isSign_4 : decode cX7_isSign 4 = .ok (.ifCond .ne 33, 3) := by decide +kernel
theorem dX7_isSign_7 : decode cX7_isSign 7 = .ok (.iload_n 0, 1) := by decide +kernel
theorem dX7_isSign_8 : decode cX7_isSign 8 = .ok (.bipush 61, 2) := by decide +kernel
theorem dX7_isSign_10 : decode cX7_isSign 10 = .ok (.if_icmp .eq 27, 3) := by decide +kernel
theorem dX7_isSign_13 : decode cX7_isSign 13 = .ok (.iload_n 0, 1) := by decide +kernel
theorem dX7_isSign_14 : decode cX7_isSign 14 = .ok (.bipush 37, 2) := by decide +kernel
theorem dX7_isSign_16 : decode cX7_isSign 16 = .ok (.if_icmp .eq 21, 3) := by decide +kernel
theorem dX7_isSign_19 : decode cX7_isSign 19 = .ok (.iload_n 0, 1) := by decide +kernel
theorem dX7_isSign_20 : decode cX7_isSign 20 = .ok (.bipush 33, 2) := by decide +kernel
theorem dX7_isSign_22 : decode cX7_isSign 22 = .ok (.if_icmp .eq 15, 3) := by decide +kernel
theorem dX7_isSign_25 : decode cX7_isSign 25 = .ok (.iload_n 0, 1) := by decide +kernel
theorem dX7_isSign_26 : decode cX7_isSign 26 = .ok (.bipush 63, 2) := by decide +kernel
theorem dX7_isSign_28 : decode cX7_isSign 28 = .ok (.if_icmp .eq 9, 3) := by decide +kernel
theorem dX7_isSign_31 : decode cX7_isSign 31 = .ok (.iload_n 0, 1) := by decide +kernel
theorem dX7_isSign_32 : decode cX7_isSign 32 = .ok (.bipush 94, 2) := by decide +kernel
theorem dX7_isSign_34 : decode cX7_isSign 34 = .ok (.if_icmp .ne 7, 3) := by decide +kernel
theorem dX7_isSign_37 : decode cX7_isSign 37 = .ok (.iconst 1, 1) := by decide +kernel
theorem dX7_isSign_38 : decode cX7_isSign 38 = .ok (.goto 4, 3) := by decide +kernel
theorem dX7_isSign_41 : decode cX7_isSign 41 = .ok (.iconst 0, 1) := by decide +kernel
theorem dX7_isSign_42 : decode cX7_isSign 42 = .ok (.ireturn, 1) := by decide +kernel
theorem dX7_isFigure_0 : decode cX7_isFigure 0 = .ok (.iload_n 1, 1) := by decide +kernel
theorem dX7_isFigure_1 : decode cX7_isFigure 1 = .ok (.aload_n 0, 1) := by decide +kernel
theorem dX7_isFigure_2 : decode cX7_isFigure 2 = .ok (.getfield 120, 3) := by decide +kernel
theorem dX7_isFigure_5 : decode cX7_isFigure 5 = .ok (.if_icmp .ge 26, 3) := by decide +kernel
theorem dX7_isFigure_8 : decode cX7_isFigure 8 = .ok (.aload_n 0, 1) := by decide +kernel
theorem dX7_isFigure_9 : decode cX7_isFigure 9 = .ok (.getfield 57, 3) := by decide +kernel
theorem dX7_isFigure_12 : decode cX7_isFigure 12 = .ok (.iload_n 1, 1) := by decide +kernel
theorem dX7_isFigure_13 : decode cX7_isFigure 13 = .ok (.iaload, 1) := by decide +kernel
theorem dX7_isFigure_14 : decode cX7_isFigure 14 = .ok (.i2l, 1) := by decide +kernel
theorem dX7_isFigure_15 : decode cX7_isFigure 15 = .ok (.ldc2_w 126, 3) := by decide +kernel
theorem dX7_isFigure_18 : decode cX7_isFigure 18 = .ok (.ldc2_w 128, 3) := by decide +kernel
theorem dX7_isFigure_21 : decode cX7_isFigure 21 = .ok (.invokestatic 7, 3) := by decide +kernel
theorem dX7_isFigure_24 : decode cX7_isFigure 24 = .ok (.ifCond .eq 7, 3) := by decide +kernel
theorem dX7_isFigure_27 : decode cX7_isFigure 27 = .ok (.iconst 1, 1) := by decide +kernel
theorem dX7_isFigure_28 : decode cX7_isFigure 28 = .ok (.goto 4, 3) := by decide +kernel
theorem dX7_isFigure_31 : decode cX7_isFigure 31 = .ok (.iconst 0, 1) := by decide +kernel
theorem dX7_isFigure_32 : decode cX7_isFigure 32 = .ok (.ireturn, 1) := by decide +kernel
theorem dX7_fault_0 : decode cX7_fault 0 = .ok (.iconst 0, 1) := by decide +kernel
theorem dX7_fault_1 : decode cX7_fault 1 = .ok (.istore_n 1, 1) := by decide +kernel
theorem dX7_fault_2 : decode cX7_fault 2 = .ok (.iconst 0, 1) := by decide +kernel
theorem dX7_fault_3 : decode cX7_fault 3 = .ok (.istore_n 2, 1) := by decide +kernel
theorem dX7_fault_4 : decode cX7_fault 4 = .ok (.iload_n 2, 1) := by decide +kernel
theorem dX7_fault_5 : decode cX7_fault 5 = .ok (.bipush 12, 2) := by decide +kernel
theorem dX7_fault_7 : decode cX7_fault 7 = .ok (.if_icmp .ge 143, 3) := by decide +kernel
theorem dX7_fault_10 : decode cX7_fault 10 = .ok (.iload_n 2, 1) := by decide +kernel
theorem dX7_fault_11 : decode cX7_fault 11 = .ok (.ifCond .eq 11, 3) := by decide +kernel
theorem dX7_fault_14 : decode cX7_fault 14 = .ok (.iload_n 1, 1) := by decide +kernel
theorem dX7_fault_15 : decode cX7_fault 15 = .ok (.aload_n 0, 1) := by decide +kernel
theorem dX7_fault_16 : decode cX7_fault 16 = .ok (.getfield 120, 3) := by decide +kernel
theorem dX7_fault_19 : decode cX7_fault 19 = .ok (.if_icmp .ge 131, 3) := by decide +kernel
theorem dX7_fault_22 : decode cX7_fault 22 = .ok (.iload_n 1, 1) := by decide +kernel
theorem dX7_fault_23 : decode cX7_fault 23 = .ok (.aload_n 0, 1) := by decide +kernel
theorem dX7_fault_24 : decode cX7_fault 24 = .ok (.getfield 120, 3) := by decide +kernel
theorem dX7_fault_27 : decode cX7_fault 27 = .ok (.if_icmp .ge 15, 3) := by decide +kernel
theorem dX7_fault_30 : decode cX7_fault 30 = .ok (.aload_n 0, 1) := by decide +kernel
theorem dX7_fault_31 : decode cX7_fault 31 = .ok (.getfield 57, 3) := by decide +kernel
theorem dX7_fault_34 : decode cX7_fault 34 = .ok (.iload_n 1, 1) := by decide +kernel
theorem dX7_fault_35 : decode cX7_fault 35 = .ok (.iaload, 1) := by decide +kernel
theorem dX7_fault_36 : decode cX7_fault 36 = .ok (.invokestatic 130, 3) := by decide +kernel
theorem dX7_fault_39 : decode cX7_fault 39 = .ok (.ifCond .ne 5, 3) := by decide +kernel
theorem dX7_fault_42 : decode cX7_fault 42 = .ok (.iload_n 1, 1) := by decide +kernel
theorem dX7_fault_43 : decode cX7_fault 43 = .ok (.ireturn, 1) := by decide +kernel
theorem dX7_fault_44 : decode cX7_fault 44 = .ok (.aload_n 0, 1) := by decide +kernel
theorem dX7_fault_45 : decode cX7_fault 45 = .ok (.getfield 57, 3) := by decide +kernel
theorem dX7_fault_48 : decode cX7_fault 48 = .ok (.iload_n 1, 1) := by decide +kernel
theorem dX7_fault_49 : decode cX7_fault 49 = .ok (.iaload, 1) := by decide +kernel
theorem dX7_fault_50 : decode cX7_fault 50 = .ok (.istore_n 3, 1) := by decide +kernel
theorem dX7_fault_51 : decode cX7_fault 51 = .ok (.aload_n 0, 1) := by decide +kernel
theorem dX7_fault_52 : decode cX7_fault 52 = .ok (.iload_n 1, 1) := by decide +kernel
theorem dX7_fault_53 : decode cX7_fault 53 = .ok (.iconst 1, 1) := by decide +kernel
theorem dX7_fault_54 : decode cX7_fault 54 = .ok (.iadd, 1) := by decide +kernel
theorem dX7_fault_55 : decode cX7_fault 55 = .ok (.invokevirtual 133, 3) := by decide +kernel
theorem dX7_fault_58 : decode cX7_fault 58 = .ok (.ifCond .eq 23, 3) := by decide +kernel
theorem dX7_fault_61 : decode cX7_fault 61 = .ok (.iload_n 3, 1) := by decide +kernel
theorem dX7_fault_62 : decode cX7_fault 62 = .ok (.invokestatic 123, 3) := by decide +kernel
theorem dX7_fault_65 : decode cX7_fault 65 = .ok (.ifCond .eq 20, 3) := by decide +kernel
theorem dX7_fault_68 : decode cX7_fault 68 = .ok (.aload_n 0, 1) := by decide +kernel
theorem dX7_fault_69 : decode cX7_fault 69 = .ok (.getfield 57, 3) := by decide +kernel
theorem dX7_fault_72 : decode cX7_fault 72 = .ok (.iload_n 1, 1) := by decide +kernel
theorem dX7_fault_73 : decode cX7_fault 73 = .ok (.iconst 1, 1) := by decide +kernel
theorem dX7_fault_74 : decode cX7_fault 74 = .ok (.iadd, 1) := by decide +kernel
theorem dX7_fault_75 : decode cX7_fault 75 = .ok (.iaload, 1) := by decide +kernel
theorem dX7_fault_76 : decode cX7_fault 76 = .ok (.bipush 50, 2) := by decide +kernel
theorem dX7_fault_78 : decode cX7_fault 78 = .ok (.if_icmp .le 7, 3) := by decide +kernel
theorem dX7_fault_81 : decode cX7_fault 81 = .ok (.iload_n 1, 1) := by decide +kernel
theorem dX7_fault_82 : decode cX7_fault 82 = .ok (.iconst 1, 1) := by decide +kernel
theorem dX7_fault_83 : decode cX7_fault 83 = .ok (.iadd, 1) := by decide +kernel
theorem dX7_fault_84 : decode cX7_fault 84 = .ok (.ireturn, 1) := by decide +kernel
theorem dX7_fault_85 : decode cX7_fault 85 = .ok (.aload_n 0, 1) := by decide +kernel
theorem dX7_fault_86 : decode cX7_fault 86 = .ok (.iload_n 1, 1) := by decide +kernel
theorem dX7_fault_87 : decode cX7_fault 87 = .ok (.iconst 2, 1) := by decide +kernel
theorem dX7_fault_88 : decode cX7_fault 88 = .ok (.iadd, 1) := by decide +kernel
theorem dX7_fault_89 : decode cX7_fault 89 = .ok (.invokevirtual 133, 3) := by decide +kernel
theorem dX7_fault_92 : decode cX7_fault 92 = .ok (.ifCond .ne 7, 3) := by decide +kernel
theorem dX7_fault_95 : decode cX7_fault 95 = .ok (.iload_n 1, 1) := by decide +kernel
theorem dX7_fault_96 : decode cX7_fault 96 = .ok (.iconst 2, 1) := by decide +kernel
theorem dX7_fault_97 : decode cX7_fault 97 = .ok (.iadd, 1) := by decide +kernel
theorem dX7_fault_98 : decode cX7_fault 98 = .ok (.ireturn, 1) := by decide +kernel
theorem dX7_fault_99 : decode cX7_fault 99 = .ok (.iload_n 3, 1) := by decide +kernel
theorem dX7_fault_100 : decode cX7_fault 100 = .ok (.invokestatic 123, 3) := by decide +kernel
theorem dX7_fault_103 : decode cX7_fault 103 = .ok (.ifCond .eq 38, 3) := by decide +kernel
theorem dX7_fault_106 : decode cX7_fault 106 = .ok (.bipush 10, 2) := by decide +kernel
theorem dX7_fault_108 : decode cX7_fault 108 = .ok (.aload_n 0, 1) := by decide +kernel
theorem dX7_fault_109 : decode cX7_fault 109 = .ok (.getfield 57, 3) := by decide +kernel
theorem dX7_fault_112 : decode cX7_fault 112 = .ok (.iload_n 1, 1) := by decide +kernel
theorem dX7_fault_113 : decode cX7_fault 113 = .ok (.iconst 1, 1) := by decide +kernel
theorem dX7_fault_114 : decode cX7_fault 114 = .ok (.iadd, 1) := by decide +kernel
theorem dX7_fault_115 : decode cX7_fault 115 = .ok (.iaload, 1) := by decide +kernel
theorem dX7_fault_116 : decode cX7_fault 116 = .ok (.bipush 48, 2) := by decide +kernel
theorem dX7_fault_118 : decode cX7_fault 118 = .ok (.isub, 1) := by decide +kernel
theorem dX7_fault_119 : decode cX7_fault 119 = .ok (.imul, 1) := by decide +kernel
theorem dX7_fault_120 : decode cX7_fault 120 = .ok (.aload_n 0, 1) := by decide +kernel
theorem dX7_fault_121 : decode cX7_fault 121 = .ok (.getfield 57, 3) := by decide +kernel
theorem dX7_fault_124 : decode cX7_fault 124 = .ok (.iload_n 1, 1) := by decide +kernel
theorem dX7_fault_125 : decode cX7_fault 125 = .ok (.iconst 2, 1) := by decide +kernel
theorem dX7_fault_126 : decode cX7_fault 126 = .ok (.iadd, 1) := by decide +kernel
theorem dX7_fault_127 : decode cX7_fault 127 = .ok (.iaload, 1) := by decide +kernel
theorem dX7_fault_128 : decode cX7_fault 128 = .ok (.iadd, 1) := by decide +kernel
theorem dX7_fault_129 : decode cX7_fault 129 = .ok (.bipush 48, 2) := by decide +kernel
theorem dX7_fault_131 : decode cX7_fault 131 = .ok (.isub, 1) := by decide +kernel
theorem dX7_fault_132 : decode cX7_fault 132 = .ok (.bipush 24, 2) := by decide +kernel
theorem dX7_fault_134 : decode cX7_fault 134 = .ok (.if_icmp .lt 7, 3) := by decide +kernel
theorem dX7_fault_137 : decode cX7_fault 137 = .ok (.iload_n 1, 1) := by decide +kernel
theorem dX7_fault_138 : decode cX7_fault 138 = .ok (.iconst 1, 1) := by decide +kernel
theorem dX7_fault_139 : decode cX7_fault 139 = .ok (.iadd, 1) := by decide +kernel
theorem dX7_fault_140 : decode cX7_fault 140 = .ok (.ireturn, 1) := by decide +kernel
theorem dX7_fault_141 : decode cX7_fault 141 = .ok (.iinc 1 3, 3) := by decide +kernel
theorem dX7_fault_144 : decode cX7_fault 144 = .ok (.iinc 2 1, 3) := by decide +kernel
theorem dX7_fault_147 : decode cX7_fault 147 = .ok (.goto (-143), 3) := by decide +kernel
theorem dX7_fault_150 : decode cX7_fault 150 = .ok (.iload_n 1, 1) := by decide +kernel
theorem dX7_fault_151 : decode cX7_fault 151 = .ok (.aload_n 0, 1) := by decide +kernel
theorem dX7_fault_152 : decode cX7_fault 152 = .ok (.getfield 120, 3) := by decide +kernel
theorem dX7_fault_155 : decode cX7_fault 155 = .ok (.if_icmp .ge 7, 3) := by decide +kernel
theorem dX7_fault_158 : decode cX7_fault 158 = .ok (.iload_n 1, 1) := by decide +kernel
theorem dX7_fault_159 : decode cX7_fault 159 = .ok (.goto 4, 3) := by decide +kernel
theorem dX7_fault_162 : decode cX7_fault 162 = .ok (.iconst (-1), 1) := by decide +kernel
theorem dX7_fault_163 : decode cX7_fault 163 = .ok (.ireturn, 1) := by decide +kernel
theorem dX7_rule_0 : decode cX7_rule 0 = .ok (.iload_n 1, 1) := by decide +kernel
theorem dX7_rule_1 : decode cX7_rule 1 = .ok (.invokestatic 101, 3) := by decide +kernel
theorem dX7_rule_4 : decode cX7_rule 4 = .ok (.ifCond .ne 5, 3) := by decide +kernel
theorem dX7_rule_7 : decode cX7_rule 7 = .ok (.iconst (-1), 1) := by decide +kernel
theorem dX7_rule_8 : decode cX7_rule 8 = .ok (.ireturn, 1) := by decide +kernel
theorem dX7_rule_9 : decode cX7_rule 9 = .ok (.aload_n 0, 1) := by decide +kernel
theorem dX7_rule_10 : decode cX7_rule 10 = .ok (.invokevirtual 136, 3) := by decide +kernel
theorem dX7_rule_13 : decode cX7_rule 13 = .ok (.istore_n 2, 1) := by decide +kernel
theorem dX7_rule_14 : decode cX7_rule 14 = .ok (.aload_n 0, 1) := by decide +kernel
theorem dX7_rule_15 : decode cX7_rule 15 = .ok (.getfield 120, 3) := by decide +kernel
theorem dX7_rule_18 : decode cX7_rule 18 = .ok (.iconst 3, 1) := by decide +kernel
theorem dX7_rule_19 : decode cX7_rule 19 = .ok (.idiv, 1) := by decide +kernel
theorem dX7_rule_20 : decode cX7_rule 20 = .ok (.istore_n 3, 1) := by decide +kernel
theorem dX7_rule_21 : decode cX7_rule 21 = .ok (.aload_n 0, 1) := by decide +kernel
theorem dX7_rule_22 : decode cX7_rule 22 = .ok (.iconst 0, 1) := by decide +kernel
theorem dX7_rule_23 : decode cX7_rule 23 = .ok (.putfield 120, 3) := by decide +kernel
theorem dX7_rule_26 : decode cX7_rule 26 = .ok (.iload_n 2, 1) := by decide +kernel
theorem dX7_rule_27 : decode cX7_rule 27 = .ok (.ifCond .lt 8, 3) := by decide +kernel
theorem dX7_rule_30 : decode cX7_rule 30 = .ok (.bipush (-100), 2) := by decide +kernel
theorem dX7_rule_32 : decode cX7_rule 32 = .ok (.iload_n 2, 1) := by decide +kernel
theorem dX7_rule_33 : decode cX7_rule 33 = .ok (.isub, 1) := by decide +kernel
theorem dX7_rule_34 : decode cX7_rule 34 = .ok (.ireturn, 1) := by decide +kernel
theorem dX7_rule_35 : decode cX7_rule 35 = .ok (.bipush 8, 2) := by decide +kernel
theorem dX7_rule_37 : decode cX7_rule 37 = .ok (.bipush 25, 2) := by decide +kernel
theorem dX7_rule_39 : decode cX7_rule 39 = .ok (.iload_n 1, 1) := by decide +kernel
theorem dX7_rule_40 : decode cX7_rule 40 = .ok (.bipush 8, 2) := by decide +kernel
theorem dX7_rule_42 : decode cX7_rule 42 = .ok (.isub, 1) := by decide +kernel
theorem dX7_rule_43 : decode cX7_rule 43 = .ok (.imul, 1) := by decide +kernel
theorem dX7_rule_44 : decode cX7_rule 44 = .ok (.iadd, 1) := by decide +kernel
theorem dX7_rule_45 : decode cX7_rule 45 = .ok (.istore 4, 2) := by decide +kernel
theorem dX7_rule_47 : decode cX7_rule 47 = .ok (.aload_n 0, 1) := by decide +kernel
theorem dX7_rule_48 : decode cX7_rule 48 = .ok (.getfield 48, 3) := by decide +kernel
theorem dX7_rule_51 : decode cX7_rule 51 = .ok (.iload 4, 2) := by decide +kernel
theorem dX7_rule_53 : decode cX7_rule 53 = .ok (.iload_n 3, 1) := by decide +kernel
theorem dX7_rule_54 : decode cX7_rule 54 = .ok (.iastore, 1) := by decide +kernel
theorem dX7_rule_55 : decode cX7_rule 55 = .ok (.iconst 0, 1) := by decide +kernel
theorem dX7_rule_56 : decode cX7_rule 56 = .ok (.istore 5, 2) := by decide +kernel
theorem dX7_rule_58 : decode cX7_rule 58 = .ok (.iload 5, 2) := by decide +kernel
theorem dX7_rule_60 : decode cX7_rule 60 = .ok (.iload_n 3, 1) := by decide +kernel
theorem dX7_rule_61 : decode cX7_rule 61 = .ok (.if_icmp .ge 78, 3) := by decide +kernel
theorem dX7_rule_64 : decode cX7_rule 64 = .ok (.aload_n 0, 1) := by decide +kernel
theorem dX7_rule_65 : decode cX7_rule 65 = .ok (.getfield 48, 3) := by decide +kernel
theorem dX7_rule_68 : decode cX7_rule 68 = .ok (.iload 4, 2) := by decide +kernel
theorem dX7_rule_70 : decode cX7_rule 70 = .ok (.iconst 1, 1) := by decide +kernel
theorem dX7_rule_71 : decode cX7_rule 71 = .ok (.iadd, 1) := by decide +kernel
theorem dX7_rule_72 : decode cX7_rule 72 = .ok (.iconst 2, 1) := by decide +kernel
theorem dX7_rule_73 : decode cX7_rule 73 = .ok (.iload 5, 2) := by decide +kernel
theorem dX7_rule_75 : decode cX7_rule 75 = .ok (.imul, 1) := by decide +kernel
theorem dX7_rule_76 : decode cX7_rule 76 = .ok (.iadd, 1) := by decide +kernel
theorem dX7_rule_77 : decode cX7_rule 77 = .ok (.aload_n 0, 1) := by decide +kernel
theorem dX7_rule_78 : decode cX7_rule 78 = .ok (.getfield 57, 3) := by decide +kernel
theorem dX7_rule_81 : decode cX7_rule 81 = .ok (.iconst 3, 1) := by decide +kernel
theorem dX7_rule_82 : decode cX7_rule 82 = .ok (.iload 5, 2) := by decide +kernel
theorem dX7_rule_84 : decode cX7_rule 84 = .ok (.imul, 1) := by decide +kernel
theorem dX7_rule_85 : decode cX7_rule 85 = .ok (.iaload, 1) := by decide +kernel
theorem dX7_rule_86 : decode cX7_rule 86 = .ok (.iastore, 1) := by decide +kernel
theorem dX7_rule_87 : decode cX7_rule 87 = .ok (.aload_n 0, 1) := by decide +kernel
theorem dX7_rule_88 : decode cX7_rule 88 = .ok (.getfield 48, 3) := by decide +kernel
theorem dX7_rule_91 : decode cX7_rule 91 = .ok (.iload 4, 2) := by decide +kernel
theorem dX7_rule_93 : decode cX7_rule 93 = .ok (.iconst 2, 1) := by decide +kernel
theorem dX7_rule_94 : decode cX7_rule 94 = .ok (.iadd, 1) := by decide +kernel
theorem dX7_rule_95 : decode cX7_rule 95 = .ok (.iconst 2, 1) := by decide +kernel
theorem dX7_rule_96 : decode cX7_rule 96 = .ok (.iload 5, 2) := by decide +kernel
theorem dX7_rule_98 : decode cX7_rule 98 = .ok (.imul, 1) := by decide +kernel
theorem dX7_rule_99 : decode cX7_rule 99 = .ok (.iadd, 1) := by decide +kernel
theorem dX7_rule_100 : decode cX7_rule 100 = .ok (.bipush 10, 2) := by decide +kernel
theorem dX7_rule_102 : decode cX7_rule 102 = .ok (.aload_n 0, 1) := by decide +kernel
theorem dX7_rule_103 : decode cX7_rule 103 = .ok (.getfield 57, 3) := by decide +kernel
theorem dX7_rule_106 : decode cX7_rule 106 = .ok (.iconst 3, 1) := by decide +kernel
theorem dX7_rule_107 : decode cX7_rule 107 = .ok (.iload 5, 2) := by decide +kernel
theorem dX7_rule_109 : decode cX7_rule 109 = .ok (.imul, 1) := by decide +kernel
theorem dX7_rule_110 : decode cX7_rule 110 = .ok (.iconst 1, 1) := by decide +kernel
theorem dX7_rule_111 : decode cX7_rule 111 = .ok (.iadd, 1) := by decide +kernel
theorem dX7_rule_112 : decode cX7_rule 112 = .ok (.iaload, 1) := by decide +kernel
theorem dX7_rule_113 : decode cX7_rule 113 = .ok (.bipush 48, 2) := by decide +kernel
theorem dX7_rule_115 : decode cX7_rule 115 = .ok (.isub, 1) := by decide +kernel
theorem dX7_rule_116 : decode cX7_rule 116 = .ok (.imul, 1) := by decide +kernel
theorem dX7_rule_117 : decode cX7_rule 117 = .ok (.aload_n 0, 1) := by decide +kernel
theorem dX7_rule_118 : decode cX7_rule 118 = .ok (.getfield 57, 3) := by decide +kernel
theorem dX7_rule_121 : decode cX7_rule 121 = .ok (.iconst 3, 1) := by decide +kernel
theorem dX7_rule_122 : decode cX7_rule 122 = .ok (.iload 5, 2) := by decide +kernel
theorem dX7_rule_124 : decode cX7_rule 124 = .ok (.imul, 1) := by decide +kernel
theorem dX7_rule_125 : decode cX7_rule 125 = .ok (.iconst 2, 1) := by decide +kernel
theorem dX7_rule_126 : decode cX7_rule 126 = .ok (.iadd, 1) := by decide +kernel
theorem dX7_rule_127 : decode cX7_rule 127 = .ok (.iaload, 1) := by decide +kernel
theorem dX7_rule_128 : decode cX7_rule 128 = .ok (.iadd, 1) := by decide +kernel
theorem dX7_rule_129 : decode cX7_rule 129 = .ok (.bipush 48, 2) := by decide +kernel
theorem dX7_rule_131 : decode cX7_rule 131 = .ok (.isub, 1) := by decide +kernel
theorem dX7_rule_132 : decode cX7_rule 132 = .ok (.iastore, 1) := by decide +kernel
theorem dX7_rule_133 : decode cX7_rule 133 = .ok (.iinc 5 1, 3) := by decide +kernel
theorem dX7_rule_136 : decode cX7_rule 136 = .ok (.goto (-78), 3) := by decide +kernel
theorem dX7_rule_139 : decode cX7_rule 139 = .ok (.aload_n 0, 1) := by decide +kernel
theorem dX7_rule_140 : decode cX7_rule 140 = .ok (.getfield 48, 3) := by decide +kernel
theorem dX7_rule_143 : decode cX7_rule 143 = .ok (.aload_n 0, 1) := by decide +kernel
theorem dX7_rule_144 : decode cX7_rule 144 = .ok (.iload_n 1, 1) := by decide +kernel
theorem dX7_rule_145 : decode cX7_rule 145 = .ok (.invokevirtual 98, 3) := by decide +kernel
theorem dX7_rule_148 : decode cX7_rule 148 = .ok (.iconst (-1), 1) := by decide +kernel
theorem dX7_rule_149 : decode cX7_rule 149 = .ok (.iastore, 1) := by decide +kernel
theorem dX7_rule_150 : decode cX7_rule 150 = .ok (.iload_n 3, 1) := by decide +kernel
theorem dX7_rule_151 : decode cX7_rule 151 = .ok (.ireturn, 1) := by decide +kernel
theorem dX7_drop_0 : decode cX7_drop 0 = .ok (.iload_n 1, 1) := by decide +kernel
theorem dX7_drop_1 : decode cX7_drop 1 = .ok (.invokestatic 101, 3) := by decide +kernel
theorem dX7_drop_4 : decode cX7_drop 4 = .ok (.ifCond .ne 5, 3) := by decide +kernel
theorem dX7_drop_7 : decode cX7_drop 7 = .ok (.iconst (-1), 1) := by decide +kernel
theorem dX7_drop_8 : decode cX7_drop 8 = .ok (.ireturn, 1) := by decide +kernel
theorem dX7_drop_9 : decode cX7_drop 9 = .ok (.aload_n 0, 1) := by decide +kernel
theorem dX7_drop_10 : decode cX7_drop 10 = .ok (.iload_n 1, 1) := by decide +kernel
theorem dX7_drop_11 : decode cX7_drop 11 = .ok (.iconst 0, 1) := by decide +kernel
theorem dX7_drop_12 : decode cX7_drop 12 = .ok (.invokevirtual 140, 3) := by decide +kernel
theorem dX7_drop_15 : decode cX7_drop 15 = .ok (.istore_n 2, 1) := by decide +kernel
theorem dX7_drop_16 : decode cX7_drop 16 = .ok (.iload_n 2, 1) := by decide +kernel
theorem dX7_drop_17 : decode cX7_drop 17 = .ok (.ifCond .ne 6, 3) := by decide +kernel
theorem dX7_drop_20 : decode cX7_drop 20 = .ok (.bipush (-3), 2) := by decide +kernel
theorem dX7_drop_22 : decode cX7_drop 22 = .ok (.ireturn, 1) := by decide +kernel
theorem dX7_drop_23 : decode cX7_drop 23 = .ok (.aload_n 0, 1) := by decide +kernel
theorem dX7_drop_24 : decode cX7_drop 24 = .ok (.getfield 48, 3) := by decide +kernel
theorem dX7_drop_27 : decode cX7_drop 27 = .ok (.bipush 8, 2) := by decide +kernel
theorem dX7_drop_29 : decode cX7_drop 29 = .ok (.bipush 25, 2) := by decide +kernel
theorem dX7_drop_31 : decode cX7_drop 31 = .ok (.iload_n 1, 1) := by decide +kernel
theorem dX7_drop_32 : decode cX7_drop 32 = .ok (.bipush 8, 2) := by decide +kernel
theorem dX7_drop_34 : decode cX7_drop 34 = .ok (.isub, 1) := by decide +kernel
theorem dX7_drop_35 : decode cX7_drop 35 = .ok (.imul, 1) := by decide +kernel
theorem dX7_drop_36 : decode cX7_drop 36 = .ok (.iadd, 1) := by decide +kernel
theorem dX7_drop_37 : decode cX7_drop 37 = .ok (.iconst 0, 1) := by decide +kernel
theorem dX7_drop_38 : decode cX7_drop 38 = .ok (.iastore, 1) := by decide +kernel
theorem dX7_drop_39 : decode cX7_drop 39 = .ok (.aload_n 0, 1) := by decide +kernel
theorem dX7_drop_40 : decode cX7_drop 40 = .ok (.getfield 48, 3) := by decide +kernel
theorem dX7_drop_43 : decode cX7_drop 43 = .ok (.aload_n 0, 1) := by decide +kernel
theorem dX7_drop_44 : decode cX7_drop 44 = .ok (.iload_n 1, 1) := by decide +kernel
theorem dX7_drop_45 : decode cX7_drop 45 = .ok (.invokevirtual 98, 3) := by decide +kernel
theorem dX7_drop_48 : decode cX7_drop 48 = .ok (.iconst (-1), 1) := by decide +kernel
theorem dX7_drop_49 : decode cX7_drop 49 = .ok (.iastore, 1) := by decide +kernel
theorem dX7_drop_50 : decode cX7_drop 50 = .ok (.iload_n 2, 1) := by decide +kernel
theorem dX7_drop_51 : decode cX7_drop 51 = .ok (.ireturn, 1) := by decide +kernel
theorem dX7_copy_0 : decode cX7_copy 0 = .ok (.iload_n 1, 1) := by decide +kernel
theorem dX7_copy_1 : decode cX7_copy 1 = .ok (.invokestatic 101, 3) := by decide +kernel
theorem dX7_copy_4 : decode cX7_copy 4 = .ok (.ifCond .eq 10, 3) := by decide +kernel
theorem dX7_copy_7 : decode cX7_copy 7 = .ok (.iload_n 2, 1) := by decide +kernel
theorem dX7_copy_8 : decode cX7_copy 8 = .ok (.invokestatic 101, 3) := by decide +kernel
theorem dX7_copy_11 : decode cX7_copy 11 = .ok (.ifCond .ne 5, 3) := by decide +kernel
theorem dX7_copy_14 : decode cX7_copy 14 = .ok (.iconst (-1), 1) := by decide +kernel
theorem dX7_copy_15 : decode cX7_copy 15 = .ok (.ireturn, 1) := by decide +kernel
theorem dX7_copy_16 : decode cX7_copy 16 = .ok (.aload_n 0, 1) := by decide +kernel
theorem dX7_copy_17 : decode cX7_copy 17 = .ok (.iload_n 1, 1) := by decide +kernel
theorem dX7_copy_18 : decode cX7_copy 18 = .ok (.iconst 0, 1) := by decide +kernel
theorem dX7_copy_19 : decode cX7_copy 19 = .ok (.invokevirtual 140, 3) := by decide +kernel
theorem dX7_copy_22 : decode cX7_copy 22 = .ok (.ifCond .ne 6, 3) := by decide +kernel
theorem dX7_copy_25 : decode cX7_copy 25 = .ok (.bipush (-3), 2) := by decide +kernel
theorem dX7_copy_27 : decode cX7_copy 27 = .ok (.ireturn, 1) := by decide +kernel
theorem dX7_copy_28 : decode cX7_copy 28 = .ok (.iconst 0, 1) := by decide +kernel
theorem dX7_copy_29 : decode cX7_copy 29 = .ok (.istore_n 3, 1) := by decide +kernel
theorem dX7_copy_30 : decode cX7_copy 30 = .ok (.iload_n 3, 1) := by decide +kernel
theorem dX7_copy_31 : decode cX7_copy 31 = .ok (.bipush 25, 2) := by decide +kernel
theorem dX7_copy_33 : decode cX7_copy 33 = .ok (.if_icmp .ge 32, 3) := by decide +kernel
theorem dX7_copy_36 : decode cX7_copy 36 = .ok (.aload_n 0, 1) := by decide +kernel
theorem dX7_copy_37 : decode cX7_copy 37 = .ok (.getfield 48, 3) := by decide +kernel
theorem dX7_copy_40 : decode cX7_copy 40 = .ok (.bipush 8, 2) := by decide +kernel
theorem dX7_copy_42 : decode cX7_copy 42 = .ok (.bipush 25, 2) := by decide +kernel
theorem dX7_copy_44 : decode cX7_copy 44 = .ok (.iload_n 2, 1) := by decide +kernel
theorem dX7_copy_45 : decode cX7_copy 45 = .ok (.bipush 8, 2) := by decide +kernel
theorem dX7_copy_47 : decode cX7_copy 47 = .ok (.isub, 1) := by decide +kernel
theorem dX7_copy_48 : decode cX7_copy 48 = .ok (.imul, 1) := by decide +kernel
theorem dX7_copy_49 : decode cX7_copy 49 = .ok (.iadd, 1) := by decide +kernel
theorem dX7_copy_50 : decode cX7_copy 50 = .ok (.iload_n 3, 1) := by decide +kernel
theorem dX7_copy_51 : decode cX7_copy 51 = .ok (.iadd, 1) := by decide +kernel
theorem dX7_copy_52 : decode cX7_copy 52 = .ok (.aload_n 0, 1) := by decide +kernel
theorem dX7_copy_53 : decode cX7_copy 53 = .ok (.iload_n 1, 1) := by decide +kernel
theorem dX7_copy_54 : decode cX7_copy 54 = .ok (.iload_n 3, 1) := by decide +kernel
theorem dX7_copy_55 : decode cX7_copy 55 = .ok (.invokevirtual 140, 3) := by decide +kernel
theorem dX7_copy_58 : decode cX7_copy 58 = .ok (.iastore, 1) := by decide +kernel
theorem dX7_copy_59 : decode cX7_copy 59 = .ok (.iinc 3 1, 3) := by decide +kernel
theorem dX7_copy_62 : decode cX7_copy 62 = .ok (.goto (-32), 3) := by decide +kernel
theorem dX7_copy_65 : decode cX7_copy 65 = .ok (.aload_n 0, 1) := by decide +kernel
theorem dX7_copy_66 : decode cX7_copy 66 = .ok (.getfield 48, 3) := by decide +kernel
theorem dX7_copy_69 : decode cX7_copy 69 = .ok (.aload_n 0, 1) := by decide +kernel
theorem dX7_copy_70 : decode cX7_copy 70 = .ok (.iload_n 2, 1) := by decide +kernel
theorem dX7_copy_71 : decode cX7_copy 71 = .ok (.invokevirtual 98, 3) := by decide +kernel
theorem dX7_copy_74 : decode cX7_copy 74 = .ok (.iconst (-1), 1) := by decide +kernel
theorem dX7_copy_75 : decode cX7_copy 75 = .ok (.iastore, 1) := by decide +kernel
theorem dX7_copy_76 : decode cX7_copy 76 = .ok (.aload_n 0, 1) := by decide +kernel
theorem dX7_copy_77 : decode cX7_copy 77 = .ok (.iload_n 1, 1) := by decide +kernel
theorem dX7_copy_78 : decode cX7_copy 78 = .ok (.iconst 0, 1) := by decide +kernel
theorem dX7_copy_79 : decode cX7_copy 79 = .ok (.invokevirtual 140, 3) := by decide +kernel
theorem dX7_copy_82 : decode cX7_copy 82 = .ok (.ireturn, 1) := by decide +kernel
theorem dX7_step_0 : decode cX7_step 0 = .ok (.iload_n 1, 1) := by decide +kernel
theorem dX7_step_1 : decode cX7_step 1 = .ok (.invokestatic 101, 3) := by decide +kernel
theorem dX7_step_4 : decode cX7_step 4 = .ok (.ifCond .ne 5, 3) := by decide +kernel
theorem dX7_step_7 : decode cX7_step 7 = .ok (.iconst (-1), 1) := by decide +kernel
theorem dX7_step_8 : decode cX7_step 8 = .ok (.ireturn, 1) := by decide +kernel
theorem dX7_step_9 : decode cX7_step 9 = .ok (.aload_n 0, 1) := by decide +kernel
theorem dX7_step_10 : decode cX7_step 10 = .ok (.iload_n 1, 1) := by decide +kernel
theorem dX7_step_11 : decode cX7_step 11 = .ok (.iconst 0, 1) := by decide +kernel
theorem dX7_step_12 : decode cX7_step 12 = .ok (.invokevirtual 140, 3) := by decide +kernel
theorem dX7_step_15 : decode cX7_step 15 = .ok (.istore_n 3, 1) := by decide +kernel
theorem dX7_step_16 : decode cX7_step 16 = .ok (.iload_n 3, 1) := by decide +kernel
theorem dX7_step_17 : decode cX7_step 17 = .ok (.ifCond .ne 15, 3) := by decide +kernel
theorem dX7_step_20 : decode cX7_step 20 = .ok (.iload_n 2, 1) := by decide +kernel
theorem dX7_step_21 : decode cX7_step 21 = .ok (.iconst (-1), 1) := by decide +kernel
theorem dX7_step_22 : decode cX7_step 22 = .ok (.if_icmp .ge 7, 3) := by decide +kernel
theorem dX7_step_25 : decode cX7_step 25 = .ok (.iconst (-1), 1) := by decide +kernel
theorem dX7_step_26 : decode cX7_step 26 = .ok (.goto 5, 3) := by decide +kernel
theorem dX7_step_29 : decode cX7_step 29 = .ok (.bipush (-3), 2) := by decide +kernel
theorem dX7_step_31 : decode cX7_step 31 = .ok (.ireturn, 1) := by decide +kernel
theorem dX7_step_32 : decode cX7_step 32 = .ok (.iload_n 2, 1) := by decide +kernel
theorem dX7_step_33 : decode cX7_step 33 = .ok (.iconst (-1), 1) := by decide +kernel
theorem dX7_step_34 : decode cX7_step 34 = .ok (.if_icmp .ne 7, 3) := by decide +kernel
theorem dX7_step_37 : decode cX7_step 37 = .ok (.iload_n 3, 1) := by decide +kernel
theorem dX7_step_38 : decode cX7_step 38 = .ok (.goto 44, 3) := by decide +kernel
theorem dX7_step_41 : decode cX7_step 41 = .ok (.iload_n 2, 1) := by decide +kernel
theorem dX7_step_42 : decode cX7_step 42 = .ok (.i2l, 1) := by decide +kernel
theorem dX7_step_43 : decode cX7_step 43 = .ok (.lconst 0, 1) := by decide +kernel
theorem dX7_step_44 : decode cX7_step 44 = .ok (.iload_n 3, 1) := by decide +kernel
theorem dX7_step_45 : decode cX7_step 45 = .ok (.iconst 1, 1) := by decide +kernel
theorem dX7_step_46 : decode cX7_step 46 = .ok (.isub, 1) := by decide +kernel
theorem dX7_step_47 : decode cX7_step 47 = .ok (.i2l, 1) := by decide +kernel
theorem dX7_step_48 : decode cX7_step 48 = .ok (.invokestatic 7, 3) := by decide +kernel
theorem dX7_step_51 : decode cX7_step 51 = .ok (.ifCond .eq 30, 3) := by decide +kernel
theorem dX7_step_54 : decode cX7_step 54 = .ok (.bipush 100, 2) := by decide +kernel
theorem dX7_step_56 : decode cX7_step 56 = .ok (.aload_n 0, 1) := by decide +kernel
theorem dX7_step_57 : decode cX7_step 57 = .ok (.iload_n 1, 1) := by decide +kernel
theorem dX7_step_58 : decode cX7_step 58 = .ok (.iconst 1, 1) := by decide +kernel
theorem dX7_step_59 : decode cX7_step 59 = .ok (.iconst 2, 1) := by decide +kernel
theorem dX7_step_60 : decode cX7_step 60 = .ok (.iload_n 2, 1) := by decide +kernel
theorem dX7_step_61 : decode cX7_step 61 = .ok (.imul, 1) := by decide +kernel
theorem dX7_step_62 : decode cX7_step 62 = .ok (.iadd, 1) := by decide +kernel
theorem dX7_step_63 : decode cX7_step 63 = .ok (.invokevirtual 140, 3) := by decide +kernel
theorem dX7_step_66 : decode cX7_step 66 = .ok (.imul, 1) := by decide +kernel
theorem dX7_step_67 : decode cX7_step 67 = .ok (.aload_n 0, 1) := by decide +kernel
theorem dX7_step_68 : decode cX7_step 68 = .ok (.iload_n 1, 1) := by decide +kernel
theorem dX7_step_69 : decode cX7_step 69 = .ok (.iconst 2, 1) := by decide +kernel
theorem dX7_step_70 : decode cX7_step 70 = .ok (.iconst 2, 1) := by decide +kernel
theorem dX7_step_71 : decode cX7_step 71 = .ok (.iload_n 2, 1) := by decide +kernel
theorem dX7_step_72 : decode cX7_step 72 = .ok (.imul, 1) := by decide +kernel
theorem dX7_step_73 : decode cX7_step 73 = .ok (.iadd, 1) := by decide +kernel
theorem dX7_step_74 : decode cX7_step 74 = .ok (.invokevirtual 140, 3) := by decide +kernel
theorem dX7_step_77 : decode cX7_step 77 = .ok (.iadd, 1) := by decide +kernel
theorem dX7_step_78 : decode cX7_step 78 = .ok (.goto 4, 3) := by decide +kernel
theorem dX7_step_81 : decode cX7_step 81 = .ok (.iconst (-1), 1) := by decide +kernel
theorem dX7_step_82 : decode cX7_step 82 = .ok (.ireturn, 1) := by decide +kernel
theorem dX7_isDone_0 : decode cX7_isDone 0 = .ok (.iload_n 1, 1) := by decide +kernel
theorem dX7_isDone_1 : decode cX7_isDone 1 = .ok (.invokestatic 108, 3) := by decide +kernel
theorem dX7_isDone_4 : decode cX7_isDone 4 = .ok (.ifCond .ne 12, 3) := by decide +kernel
theorem dX7_isDone_7 : decode cX7_isDone 7 = .ok (.aload_n 0, 1) := by decide +kernel
theorem dX7_isDone_8 : decode cX7_isDone 8 = .ok (.getfield 60, 3) := by decide +kernel
theorem dX7_isDone_11 : decode cX7_isDone 11 = .ok (.iload_n 1, 1) := by decide +kernel
theorem dX7_isDone_12 : decode cX7_isDone 12 = .ok (.baload, 1) := by decide +kernel
theorem dX7_isDone_13 : decode cX7_isDone 13 = .ok (.ifCond .eq 7, 3) := by decide +kernel
theorem dX7_isDone_16 : decode cX7_isDone 16 = .ok (.iconst 1, 1) := by decide +kernel
theorem dX7_isDone_17 : decode cX7_isDone 17 = .ok (.goto 4, 3) := by decide +kernel
theorem dX7_isDone_20 : decode cX7_isDone 20 = .ok (.iconst 0, 1) := by decide +kernel
theorem dX7_isDone_21 : decode cX7_isDone 21 = .ok (.ireturn, 1) := by decide +kernel
theorem dX7_finishes_0 : decode cX7_finishes 0 = .ok (.aload_n 0, 1) := by decide +kernel
theorem dX7_finishes_1 : decode cX7_finishes 1 = .ok (.getfield 64, 3) := by decide +kernel
theorem dX7_finishes_4 : decode cX7_finishes 4 = .ok (.iload_n 1, 1) := by decide +kernel
theorem dX7_finishes_5 : decode cX7_finishes 5 = .ok (.iconst 0, 1) := by decide +kernel
theorem dX7_finishes_6 : decode cX7_finishes 6 = .ok (.bastore, 1) := by decide +kernel
theorem dX7_finishes_7 : decode cX7_finishes 7 = .ok (.aload_n 0, 1) := by decide +kernel
theorem dX7_finishes_8 : decode cX7_finishes 8 = .ok (.getfield 60, 3) := by decide +kernel
theorem dX7_finishes_11 : decode cX7_finishes 11 = .ok (.iload_n 1, 1) := by decide +kernel
theorem dX7_finishes_12 : decode cX7_finishes 12 = .ok (.iconst 1, 1) := by decide +kernel
theorem dX7_finishes_13 : decode cX7_finishes 13 = .ok (.bastore, 1) := by decide +kernel
theorem dX7_finishes_14 : decode cX7_finishes 14 = .ok (.aload_n 0, 1) := by decide +kernel
theorem dX7_finishes_15 : decode cX7_finishes 15 = .ok (.getfield 67, 3) := by decide +kernel
theorem dX7_finishes_18 : decode cX7_finishes 18 = .ok (.aload_n 0, 1) := by decide +kernel
theorem dX7_finishes_19 : decode cX7_finishes 19 = .ok (.getfield 144, 3) := by decide +kernel
theorem dX7_finishes_22 : decode cX7_finishes 22 = .ok (.iload_n 1, 1) := by decide +kernel
theorem dX7_finishes_23 : decode cX7_finishes 23 = .ok (.iastore, 1) := by decide +kernel
theorem dX7_finishes_24 : decode cX7_finishes 24 = .ok (.aload_n 0, 1) := by decide +kernel
theorem dX7_finishes_25 : decode cX7_finishes 25 = .ok (.dup, 1) := by decide +kernel
theorem dX7_finishes_26 : decode cX7_finishes 26 = .ok (.getfield 144, 3) := by decide +kernel
theorem dX7_finishes_29 : decode cX7_finishes 29 = .ok (.iconst 1, 1) := by decide +kernel
theorem dX7_finishes_30 : decode cX7_finishes 30 = .ok (.iadd, 1) := by decide +kernel
theorem dX7_finishes_31 : decode cX7_finishes 31 = .ok (.putfield 144, 3) := by decide +kernel
theorem dX7_finishes_34 : decode cX7_finishes 34 = .ok (.return_, 1) := by decide +kernel
theorem dX7_builds_0 : decode cX7_builds 0 = .ok (.aload_n 0, 1) := by decide +kernel
theorem dX7_builds_1 : decode cX7_builds 1 = .ok (.getfield 64, 3) := by decide +kernel
theorem dX7_builds_4 : decode cX7_builds 4 = .ok (.iload_n 1, 1) := by decide +kernel
theorem dX7_builds_5 : decode cX7_builds 5 = .ok (.iconst 1, 1) := by decide +kernel
theorem dX7_builds_6 : decode cX7_builds 6 = .ok (.bastore, 1) := by decide +kernel
theorem dX7_builds_7 : decode cX7_builds 7 = .ok (.aload_n 0, 1) := by decide +kernel
theorem dX7_builds_8 : decode cX7_builds 8 = .ok (.iload_n 1, 1) := by decide +kernel
theorem dX7_builds_9 : decode cX7_builds 9 = .ok (.iconst 0, 1) := by decide +kernel
theorem dX7_builds_10 : decode cX7_builds 10 = .ok (.invokevirtual 140, 3) := by decide +kernel
theorem dX7_builds_13 : decode cX7_builds 13 = .ok (.ifCond .ne 39, 3) := by decide +kernel
theorem dX7_builds_16 : decode cX7_builds 16 = .ok (.aload_n 0, 1) := by decide +kernel
theorem dX7_builds_17 : decode cX7_builds 17 = .ok (.getfield 48, 3) := by decide +kernel
theorem dX7_builds_20 : decode cX7_builds 20 = .ok (.sipush 408, 3) := by decide +kernel
theorem dX7_builds_23 : decode cX7_builds 23 = .ok (.iload_n 1, 1) := by decide +kernel
theorem dX7_builds_24 : decode cX7_builds 24 = .ok (.iadd, 1) := by decide +kernel
theorem dX7_builds_25 : decode cX7_builds 25 = .ok (.bipush 8, 2) := by decide +kernel
theorem dX7_builds_27 : decode cX7_builds 27 = .ok (.isub, 1) := by decide +kernel
theorem dX7_builds_28 : decode cX7_builds 28 = .ok (.aload_n 0, 1) := by decide +kernel
theorem dX7_builds_29 : decode cX7_builds 29 = .ok (.iload_n 1, 1) := by decide +kernel
theorem dX7_builds_30 : decode cX7_builds 30 = .ok (.bipush 6, 2) := by decide +kernel
theorem dX7_builds_32 : decode cX7_builds 32 = .ok (.iconst (-1), 1) := by decide +kernel
theorem dX7_builds_33 : decode cX7_builds 33 = .ok (.iconst (-1), 1) := by decide +kernel
theorem dX7_builds_34 : decode cX7_builds 34 = .ok (.invokevirtual 104, 3) := by decide +kernel
theorem dX7_builds_37 : decode cX7_builds 37 = .ok (.iastore, 1) := by decide +kernel
theorem dX7_builds_38 : decode cX7_builds 38 = .ok (.aload_n 0, 1) := by decide +kernel
theorem dX7_builds_39 : decode cX7_builds 39 = .ok (.getfield 48, 3) := by decide +kernel
theorem dX7_builds_42 : decode cX7_builds 42 = .ok (.aload_n 0, 1) := by decide +kernel
theorem dX7_builds_43 : decode cX7_builds 43 = .ok (.iload_n 1, 1) := by decide +kernel
theorem dX7_builds_44 : decode cX7_builds 44 = .ok (.invokevirtual 98, 3) := by decide +kernel
theorem dX7_builds_47 : decode cX7_builds 47 = .ok (.iconst (-1), 1) := by decide +kernel
theorem dX7_builds_48 : decode cX7_builds 48 = .ok (.iastore, 1) := by decide +kernel
theorem dX7_builds_49 : decode cX7_builds 49 = .ok (.goto 81, 3) := by decide +kernel
theorem dX7_builds_52 : decode cX7_builds 52 = .ok (.aload_n 0, 1) := by decide +kernel
theorem dX7_builds_53 : decode cX7_builds 53 = .ok (.iload_n 1, 1) := by decide +kernel
theorem dX7_builds_54 : decode cX7_builds 54 = .ok (.invokevirtual 147, 3) := by decide +kernel
theorem dX7_builds_57 : decode cX7_builds 57 = .ok (.ifCond .lt 24, 3) := by decide +kernel
theorem dX7_builds_60 : decode cX7_builds 60 = .ok (.aload_n 0, 1) := by decide +kernel
theorem dX7_builds_61 : decode cX7_builds 61 = .ok (.iload_n 1, 1) := by decide +kernel
theorem dX7_builds_62 : decode cX7_builds 62 = .ok (.invokevirtual 150, 3) := by decide +kernel
theorem dX7_builds_65 : decode cX7_builds 65 = .ok (.ifCond .eq 16, 3) := by decide +kernel
theorem dX7_builds_68 : decode cX7_builds 68 = .ok (.aload_n 0, 1) := by decide +kernel
theorem dX7_builds_69 : decode cX7_builds 69 = .ok (.dup, 1) := by decide +kernel
theorem dX7_builds_70 : decode cX7_builds 70 = .ok (.getfield 153, 3) := by decide +kernel
theorem dX7_builds_73 : decode cX7_builds 73 = .ok (.iconst 1, 1) := by decide +kernel
theorem dX7_builds_74 : decode cX7_builds 74 = .ok (.iadd, 1) := by decide +kernel
theorem dX7_builds_75 : decode cX7_builds 75 = .ok (.putfield 153, 3) := by decide +kernel
theorem dX7_builds_78 : decode cX7_builds 78 = .ok (.goto 52, 3) := by decide +kernel
theorem dX7_builds_81 : decode cX7_builds 81 = .ok (.aload_n 0, 1) := by decide +kernel
theorem dX7_builds_82 : decode cX7_builds 82 = .ok (.iload_n 1, 1) := by decide +kernel
theorem dX7_builds_83 : decode cX7_builds 83 = .ok (.invokevirtual 156, 3) := by decide +kernel
theorem dX7_builds_86 : decode cX7_builds 86 = .ok (.istore_n 2, 1) := by decide +kernel
theorem dX7_builds_87 : decode cX7_builds 87 = .ok (.aload_n 0, 1) := by decide +kernel
theorem dX7_builds_88 : decode cX7_builds 88 = .ok (.iload_n 1, 1) := by decide +kernel
theorem dX7_builds_89 : decode cX7_builds 89 = .ok (.invokevirtual 159, 3) := by decide +kernel
theorem dX7_builds_92 : decode cX7_builds 92 = .ok (.istore_n 3, 1) := by decide +kernel
theorem dX7_builds_93 : decode cX7_builds 93 = .ok (.aload_n 0, 1) := by decide +kernel
theorem dX7_builds_94 : decode cX7_builds 94 = .ok (.dup, 1) := by decide +kernel
theorem dX7_builds_95 : decode cX7_builds 95 = .ok (.getfield 162, 3) := by decide +kernel
theorem dX7_builds_98 : decode cX7_builds 98 = .ok (.iload_n 2, 1) := by decide +kernel
theorem dX7_builds_99 : decode cX7_builds 99 = .ok (.ifCond .lt 12, 3) := by decide +kernel
theorem dX7_builds_102 : decode cX7_builds 102 = .ok (.iload_n 2, 1) := by decide +kernel
theorem dX7_builds_103 : decode cX7_builds 103 = .ok (.iload_n 3, 1) := by decide +kernel
theorem dX7_builds_104 : decode cX7_builds 104 = .ok (.if_icmp .ne 7, 3) := by decide +kernel
theorem dX7_builds_107 : decode cX7_builds 107 = .ok (.iconst 1, 1) := by decide +kernel
theorem dX7_builds_108 : decode cX7_builds 108 = .ok (.goto 4, 3) := by decide +kernel
theorem dX7_builds_111 : decode cX7_builds 111 = .ok (.iconst 0, 1) := by decide +kernel
theorem dX7_builds_112 : decode cX7_builds 112 = .ok (.iadd, 1) := by decide +kernel
theorem dX7_builds_113 : decode cX7_builds 113 = .ok (.putfield 162, 3) := by decide +kernel
theorem dX7_builds_116 : decode cX7_builds 116 = .ok (.aload_n 0, 1) := by decide +kernel
theorem dX7_builds_117 : decode cX7_builds 117 = .ok (.getfield 48, 3) := by decide +kernel
theorem dX7_builds_120 : decode cX7_builds 120 = .ok (.sipush 408, 3) := by decide +kernel
theorem dX7_builds_123 : decode cX7_builds 123 = .ok (.iload_n 1, 1) := by decide +kernel
theorem dX7_builds_124 : decode cX7_builds 124 = .ok (.iadd, 1) := by decide +kernel
theorem dX7_builds_125 : decode cX7_builds 125 = .ok (.bipush 8, 2) := by decide +kernel
theorem dX7_builds_127 : decode cX7_builds 127 = .ok (.isub, 1) := by decide +kernel
theorem dX7_builds_128 : decode cX7_builds 128 = .ok (.iload_n 3, 1) := by decide +kernel
theorem dX7_builds_129 : decode cX7_builds 129 = .ok (.iastore, 1) := by decide +kernel
theorem dX7_builds_130 : decode cX7_builds 130 = .ok (.aload_n 0, 1) := by decide +kernel
theorem dX7_builds_131 : decode cX7_builds 131 = .ok (.iload_n 1, 1) := by decide +kernel
theorem dX7_builds_132 : decode cX7_builds 132 = .ok (.invokevirtual 165, 3) := by decide +kernel
theorem dX7_builds_135 : decode cX7_builds 135 = .ok (.return_, 1) := by decide +kernel
theorem dX7_isAsSeen_0 : decode cX7_isAsSeen 0 = .ok (.aload_n 0, 1) := by decide +kernel
theorem dX7_isAsSeen_1 : decode cX7_isAsSeen 1 = .ok (.iload_n 1, 1) := by decide +kernel
theorem dX7_isAsSeen_2 : decode cX7_isAsSeen 2 = .ok (.invokevirtual 98, 3) := by decide +kernel
theorem dX7_isAsSeen_5 : decode cX7_isAsSeen 5 = .ok (.istore_n 2, 1) := by decide +kernel
theorem dX7_isAsSeen_6 : decode cX7_isAsSeen 6 = .ok (.iconst 1, 1) := by decide +kernel
theorem dX7_isAsSeen_7 : decode cX7_isAsSeen 7 = .ok (.istore_n 3, 1) := by decide +kernel
theorem dX7_isAsSeen_8 : decode cX7_isAsSeen 8 = .ok (.iconst 0, 1) := by decide +kernel
theorem dX7_isAsSeen_9 : decode cX7_isAsSeen 9 = .ok (.istore 4, 2) := by decide +kernel
theorem dX7_isAsSeen_11 : decode cX7_isAsSeen 11 = .ok (.iload 4, 2) := by decide +kernel
theorem dX7_isAsSeen_13 : decode cX7_isAsSeen 13 = .ok (.aload_n 0, 1) := by decide +kernel
theorem dX7_isAsSeen_14 : decode cX7_isAsSeen 14 = .ok (.getfield 48, 3) := by decide +kernel
theorem dX7_isAsSeen_17 : decode cX7_isAsSeen 17 = .ok (.iload_n 2, 1) := by decide +kernel
theorem dX7_isAsSeen_18 : decode cX7_isAsSeen 18 = .ok (.iaload, 1) := by decide +kernel
theorem dX7_isAsSeen_19 : decode cX7_isAsSeen 19 = .ok (.if_icmp .ge 100, 3) := by decide +kernel
theorem dX7_isAsSeen_22 : decode cX7_isAsSeen 22 = .ok (.iload_n 3, 1) := by decide +kernel
theorem dX7_isAsSeen_23 : decode cX7_isAsSeen 23 = .ok (.ifCond .eq 96, 3) := by decide +kernel
theorem dX7_isAsSeen_26 : decode cX7_isAsSeen 26 = .ok (.aload_n 0, 1) := by decide +kernel
theorem dX7_isAsSeen_27 : decode cX7_isAsSeen 27 = .ok (.getfield 48, 3) := by decide +kernel
theorem dX7_isAsSeen_30 : decode cX7_isAsSeen 30 = .ok (.iload_n 2, 1) := by decide +kernel
theorem dX7_isAsSeen_31 : decode cX7_isAsSeen 31 = .ok (.iconst 1, 1) := by decide +kernel
theorem dX7_isAsSeen_32 : decode cX7_isAsSeen 32 = .ok (.iadd, 1) := by decide +kernel
theorem dX7_isAsSeen_33 : decode cX7_isAsSeen 33 = .ok (.iload 4, 2) := by decide +kernel
theorem dX7_isAsSeen_35 : decode cX7_isAsSeen 35 = .ok (.iadd, 1) := by decide +kernel
theorem dX7_isAsSeen_36 : decode cX7_isAsSeen 36 = .ok (.iaload, 1) := by decide +kernel
theorem dX7_isAsSeen_37 : decode cX7_isAsSeen 37 = .ok (.istore 5, 2) := by decide +kernel
theorem dX7_isAsSeen_39 : decode cX7_isAsSeen 39 = .ok (.iload 5, 2) := by decide +kernel
theorem dX7_isAsSeen_41 : decode cX7_isAsSeen 41 = .ok (.invokestatic 108, 3) := by decide +kernel
theorem dX7_isAsSeen_44 : decode cX7_isAsSeen 44 = .ok (.ifCond .ne 13, 3) := by decide +kernel
theorem dX7_isAsSeen_47 : decode cX7_isAsSeen 47 = .ok (.aload_n 0, 1) := by decide +kernel
theorem dX7_isAsSeen_48 : decode cX7_isAsSeen 48 = .ok (.getfield 64, 3) := by decide +kernel
theorem dX7_isAsSeen_51 : decode cX7_isAsSeen 51 = .ok (.iload 5, 2) := by decide +kernel
theorem dX7_isAsSeen_53 : decode cX7_isAsSeen 53 = .ok (.baload, 1) := by decide +kernel
theorem dX7_isAsSeen_54 : decode cX7_isAsSeen 54 = .ok (.ifCond .ne 7, 3) := by decide +kernel
theorem dX7_isAsSeen_57 : decode cX7_isAsSeen 57 = .ok (.iconst 1, 1) := by decide +kernel
theorem dX7_isAsSeen_58 : decode cX7_isAsSeen 58 = .ok (.goto 4, 3) := by decide +kernel
theorem dX7_isAsSeen_61 : decode cX7_isAsSeen 61 = .ok (.iconst 0, 1) := by decide +kernel
theorem dX7_isAsSeen_62 : decode cX7_isAsSeen 62 = .ok (.istore_n 3, 1) := by decide +kernel
theorem dX7_isAsSeen_63 : decode cX7_isAsSeen 63 = .ok (.iload_n 3, 1) := by decide +kernel
theorem dX7_isAsSeen_64 : decode cX7_isAsSeen 64 = .ok (.ifCond .eq 18, 3) := by decide +kernel
theorem dX7_isAsSeen_67 : decode cX7_isAsSeen 67 = .ok (.aload_n 0, 1) := by decide +kernel
theorem dX7_isAsSeen_68 : decode cX7_isAsSeen 68 = .ok (.iload 5, 2) := by decide +kernel
theorem dX7_isAsSeen_70 : decode cX7_isAsSeen 70 = .ok (.invokevirtual 169, 3) := by decide +kernel
theorem dX7_isAsSeen_73 : decode cX7_isAsSeen 73 = .ok (.ifCond .ne 9, 3) := by decide +kernel
theorem dX7_isAsSeen_76 : decode cX7_isAsSeen 76 = .ok (.aload_n 0, 1) := by decide +kernel
theorem dX7_isAsSeen_77 : decode cX7_isAsSeen 77 = .ok (.iload 5, 2) := by decide +kernel
theorem dX7_isAsSeen_79 : decode cX7_isAsSeen 79 = .ok (.invokevirtual 172, 3) := by decide +kernel
theorem dX7_isAsSeen_82 : decode cX7_isAsSeen 82 = .ok (.iload_n 3, 1) := by decide +kernel
theorem dX7_isAsSeen_83 : decode cX7_isAsSeen 83 = .ok (.ifCond .eq 28, 3) := by decide +kernel
theorem dX7_isAsSeen_86 : decode cX7_isAsSeen 86 = .ok (.aload_n 0, 1) := by decide +kernel
theorem dX7_isAsSeen_87 : decode cX7_isAsSeen 87 = .ok (.iload 5, 2) := by decide +kernel
theorem dX7_isAsSeen_89 : decode cX7_isAsSeen 89 = .ok (.invokevirtual 156, 3) := by decide +kernel
theorem dX7_isAsSeen_92 : decode cX7_isAsSeen 92 = .ok (.aload_n 0, 1) := by decide +kernel
theorem dX7_isAsSeen_93 : decode cX7_isAsSeen 93 = .ok (.getfield 48, 3) := by decide +kernel
theorem dX7_isAsSeen_96 : decode cX7_isAsSeen 96 = .ok (.iload_n 2, 1) := by decide +kernel
theorem dX7_isAsSeen_97 : decode cX7_isAsSeen 97 = .ok (.bipush 13, 2) := by decide +kernel
theorem dX7_isAsSeen_99 : decode cX7_isAsSeen 99 = .ok (.iadd, 1) := by decide +kernel
theorem dX7_isAsSeen_100 : decode cX7_isAsSeen 100 = .ok (.iload 4, 2) := by decide +kernel
theorem dX7_isAsSeen_102 : decode cX7_isAsSeen 102 = .ok (.iadd, 1) := by decide +kernel
theorem dX7_isAsSeen_103 : decode cX7_isAsSeen 103 = .ok (.iaload, 1) := by decide +kernel
theorem dX7_isAsSeen_104 : decode cX7_isAsSeen 104 = .ok (.if_icmp .ne 7, 3) := by decide +kernel
theorem dX7_isAsSeen_107 : decode cX7_isAsSeen 107 = .ok (.iconst 1, 1) := by decide +kernel
theorem dX7_isAsSeen_108 : decode cX7_isAsSeen 108 = .ok (.goto 4, 3) := by decide +kernel
theorem dX7_isAsSeen_111 : decode cX7_isAsSeen 111 = .ok (.iconst 0, 1) := by decide +kernel
theorem dX7_isAsSeen_112 : decode cX7_isAsSeen 112 = .ok (.istore_n 3, 1) := by decide +kernel
theorem dX7_isAsSeen_113 : decode cX7_isAsSeen 113 = .ok (.iinc 4 1, 3) := by decide +kernel
theorem dX7_isAsSeen_116 : decode cX7_isAsSeen 116 = .ok (.goto (-105), 3) := by decide +kernel
theorem dX7_isAsSeen_119 : decode cX7_isAsSeen 119 = .ok (.iload_n 3, 1) := by decide +kernel
theorem dX7_isAsSeen_120 : decode cX7_isAsSeen 120 = .ok (.ireturn, 1) := by decide +kernel
theorem dX7_notes_0 : decode cX7_notes 0 = .ok (.iconst 0, 1) := by decide +kernel
theorem dX7_notes_1 : decode cX7_notes 1 = .ok (.istore_n 3, 1) := by decide +kernel
theorem dX7_notes_2 : decode cX7_notes 2 = .ok (.iconst 0, 1) := by decide +kernel
theorem dX7_notes_3 : decode cX7_notes 3 = .ok (.istore 4, 2) := by decide +kernel
theorem dX7_notes_5 : decode cX7_notes 5 = .ok (.iload 4, 2) := by decide +kernel
theorem dX7_notes_7 : decode cX7_notes 7 = .ok (.aload_n 0, 1) := by decide +kernel
theorem dX7_notes_8 : decode cX7_notes 8 = .ok (.getfield 175, 3) := by decide +kernel
theorem dX7_notes_11 : decode cX7_notes 11 = .ok (.if_icmp .ge 30, 3) := by decide +kernel
theorem dX7_notes_14 : decode cX7_notes 14 = .ok (.iload_n 3, 1) := by decide +kernel
theorem dX7_notes_15 : decode cX7_notes 15 = .ok (.ifCond .ne 14, 3) := by decide +kernel
theorem dX7_notes_18 : decode cX7_notes 18 = .ok (.aload_n 0, 1) := by decide +kernel
theorem dX7_notes_19 : decode cX7_notes 19 = .ok (.getfield 73, 3) := by decide +kernel
theorem dX7_notes_22 : decode cX7_notes 22 = .ok (.iload 4, 2) := by decide +kernel
theorem dX7_notes_24 : decode cX7_notes 24 = .ok (.iaload, 1) := by decide +kernel
theorem dX7_notes_25 : decode cX7_notes 25 = .ok (.iload_n 1, 1) := by decide +kernel
theorem dX7_notes_26 : decode cX7_notes 26 = .ok (.if_icmp .ne 7, 3) := by decide +kernel
theorem dX7_notes_29 : decode cX7_notes 29 = .ok (.iconst 1, 1) := by decide +kernel
theorem dX7_notes_30 : decode cX7_notes 30 = .ok (.goto 4, 3) := by decide +kernel
theorem dX7_notes_33 : decode cX7_notes 33 = .ok (.iconst 0, 1) := by decide +kernel
theorem dX7_notes_34 : decode cX7_notes 34 = .ok (.istore_n 3, 1) := by decide +kernel
theorem dX7_notes_35 : decode cX7_notes 35 = .ok (.iinc 4 1, 3) := by decide +kernel
theorem dX7_notes_38 : decode cX7_notes 38 = .ok (.goto (-33), 3) := by decide +kernel
theorem dX7_notes_41 : decode cX7_notes 41 = .ok (.iload_n 3, 1) := by decide +kernel
theorem dX7_notes_42 : decode cX7_notes 42 = .ok (.ifCond .ne 33, 3) := by decide +kernel
theorem dX7_notes_45 : decode cX7_notes 45 = .ok (.aload_n 0, 1) := by decide +kernel
theorem dX7_notes_46 : decode cX7_notes 46 = .ok (.getfield 73, 3) := by decide +kernel
theorem dX7_notes_49 : decode cX7_notes 49 = .ok (.aload_n 0, 1) := by decide +kernel
theorem dX7_notes_50 : decode cX7_notes 50 = .ok (.getfield 175, 3) := by decide +kernel
theorem dX7_notes_53 : decode cX7_notes 53 = .ok (.iload_n 1, 1) := by decide +kernel
theorem dX7_notes_54 : decode cX7_notes 54 = .ok (.iastore, 1) := by decide +kernel
theorem dX7_notes_55 : decode cX7_notes 55 = .ok (.aload_n 0, 1) := by decide +kernel
theorem dX7_notes_56 : decode cX7_notes 56 = .ok (.getfield 76, 3) := by decide +kernel
theorem dX7_notes_59 : decode cX7_notes 59 = .ok (.aload_n 0, 1) := by decide +kernel
theorem dX7_notes_60 : decode cX7_notes 60 = .ok (.getfield 175, 3) := by decide +kernel
theorem dX7_notes_63 : decode cX7_notes 63 = .ok (.iload_n 2, 1) := by decide +kernel
theorem dX7_notes_64 : decode cX7_notes 64 = .ok (.iastore, 1) := by decide +kernel
theorem dX7_notes_65 : decode cX7_notes 65 = .ok (.aload_n 0, 1) := by decide +kernel
theorem dX7_notes_66 : decode cX7_notes 66 = .ok (.dup, 1) := by decide +kernel
theorem dX7_notes_67 : decode cX7_notes 67 = .ok (.getfield 175, 3) := by decide +kernel
theorem dX7_notes_70 : decode cX7_notes 70 = .ok (.iconst 1, 1) := by decide +kernel
theorem dX7_notes_71 : decode cX7_notes 71 = .ok (.iadd, 1) := by decide +kernel
theorem dX7_notes_72 : decode cX7_notes 72 = .ok (.putfield 175, 3) := by decide +kernel
theorem dX7_notes_75 : decode cX7_notes 75 = .ok (.return_, 1) := by decide +kernel
theorem dX7_isOfRing_0 : decode cX7_isOfRing 0 = .ok (.iconst 0, 1) := by decide +kernel
theorem dX7_isOfRing_1 : decode cX7_isOfRing 1 = .ok (.istore_n 2, 1) := by decide +kernel
theorem dX7_isOfRing_2 : decode cX7_isOfRing 2 = .ok (.iload_n 1, 1) := by decide +kernel
theorem dX7_isOfRing_3 : decode cX7_isOfRing 3 = .ok (.istore_n 3, 1) := by decide +kernel
theorem dX7_isOfRing_4 : decode cX7_isOfRing 4 = .ok (.iload_n 3, 1) := by decide +kernel
theorem dX7_isOfRing_5 : decode cX7_isOfRing 5 = .ok (.invokestatic 34, 3) := by decide +kernel
theorem dX7_isOfRing_8 : decode cX7_isOfRing 8 = .ok (.ifCond .eq 37, 3) := by decide +kernel
theorem dX7_isOfRing_11 : decode cX7_isOfRing 11 = .ok (.iload_n 2, 1) := by decide +kernel
theorem dX7_isOfRing_12 : decode cX7_isOfRing 12 = .ok (.ifCond .ne 15, 3) := by decide +kernel
theorem dX7_isOfRing_15 : decode cX7_isOfRing 15 = .ok (.aload_n 0, 1) := by decide +kernel
theorem dX7_isOfRing_16 : decode cX7_isOfRing 16 = .ok (.getfield 24, 3) := by decide +kernel
theorem dX7_isOfRing_19 : decode cX7_isOfRing 19 = .ok (.iload_n 3, 1) := by decide +kernel
theorem dX7_isOfRing_20 : decode cX7_isOfRing 20 = .ok (.iconst 2, 1) := by decide +kernel
theorem dX7_isOfRing_21 : decode cX7_isOfRing 21 = .ok (.idiv, 1) := by decide +kernel
theorem dX7_isOfRing_22 : decode cX7_isOfRing 22 = .ok (.iaload, 1) := by decide +kernel
theorem dX7_isOfRing_23 : decode cX7_isOfRing 23 = .ok (.iconst 1, 1) := by decide +kernel
theorem dX7_isOfRing_24 : decode cX7_isOfRing 24 = .ok (.if_icmp .ne 7, 3) := by decide +kernel
theorem dX7_isOfRing_27 : decode cX7_isOfRing 27 = .ok (.iconst 1, 1) := by decide +kernel
theorem dX7_isOfRing_28 : decode cX7_isOfRing 28 = .ok (.goto 4, 3) := by decide +kernel
theorem dX7_isOfRing_31 : decode cX7_isOfRing 31 = .ok (.iconst 0, 1) := by decide +kernel
theorem dX7_isOfRing_32 : decode cX7_isOfRing 32 = .ok (.istore_n 2, 1) := by decide +kernel
theorem dX7_isOfRing_33 : decode cX7_isOfRing 33 = .ok (.aload_n 0, 1) := by decide +kernel
theorem dX7_isOfRing_34 : decode cX7_isOfRing 34 = .ok (.getfield 30, 3) := by decide +kernel
theorem dX7_isOfRing_37 : decode cX7_isOfRing 37 = .ok (.iload_n 3, 1) := by decide +kernel
theorem dX7_isOfRing_38 : decode cX7_isOfRing 38 = .ok (.iconst 2, 1) := by decide +kernel
theorem dX7_isOfRing_39 : decode cX7_isOfRing 39 = .ok (.idiv, 1) := by decide +kernel
theorem dX7_isOfRing_40 : decode cX7_isOfRing 40 = .ok (.iaload, 1) := by decide +kernel
theorem dX7_isOfRing_41 : decode cX7_isOfRing 41 = .ok (.istore_n 3, 1) := by decide +kernel
theorem dX7_isOfRing_42 : decode cX7_isOfRing 42 = .ok (.goto (-38), 3) := by decide +kernel
theorem dX7_isOfRing_45 : decode cX7_isOfRing 45 = .ok (.iload_n 2, 1) := by decide +kernel
theorem dX7_isOfRing_46 : decode cX7_isOfRing 46 = .ok (.ireturn, 1) := by decide +kernel
theorem dX7_runs_0 : decode cX7_runs 0 = .ok (.iconst (-1), 1) := by decide +kernel
theorem dX7_runs_1 : decode cX7_runs 1 = .ok (.istore_n 2, 1) := by decide +kernel
theorem dX7_runs_2 : decode cX7_runs 2 = .ok (.iload_n 2, 1) := by decide +kernel
theorem dX7_runs_3 : decode cX7_runs 3 = .ok (.ifCond .ge 49, 3) := by decide +kernel
theorem dX7_runs_6 : decode cX7_runs 6 = .ok (.aload_n 0, 1) := by decide +kernel
theorem dX7_runs_7 : decode cX7_runs 7 = .ok (.dup, 1) := by decide +kernel
theorem dX7_runs_8 : decode cX7_runs 8 = .ok (.getfield 178, 3) := by decide +kernel
theorem dX7_runs_11 : decode cX7_runs 11 = .ok (.iconst 1, 1) := by decide +kernel
theorem dX7_runs_12 : decode cX7_runs 12 = .ok (.iadd, 1) := by decide +kernel
theorem dX7_runs_13 : decode cX7_runs 13 = .ok (.putfield 178, 3) := by decide +kernel
theorem dX7_runs_16 : decode cX7_runs 16 = .ok (.aload_n 0, 1) := by decide +kernel
theorem dX7_runs_17 : decode cX7_runs 17 = .ok (.iconst 0, 1) := by decide +kernel
theorem dX7_runs_18 : decode cX7_runs 18 = .ok (.putfield 175, 3) := by decide +kernel
theorem dX7_runs_21 : decode cX7_runs 21 = .ok (.aload_n 0, 1) := by decide +kernel
theorem dX7_runs_22 : decode cX7_runs 22 = .ok (.iload_n 1, 1) := by decide +kernel
theorem dX7_runs_23 : decode cX7_runs 23 = .ok (.invokevirtual 181, 3) := by decide +kernel
theorem dX7_runs_26 : decode cX7_runs 26 = .ok (.istore_n 2, 1) := by decide +kernel
theorem dX7_runs_27 : decode cX7_runs 27 = .ok (.iload_n 2, 1) := by decide +kernel
theorem dX7_runs_28 : decode cX7_runs 28 = .ok (.ifCond .ge (-26), 3) := by decide +kernel
theorem dX7_runs_31 : decode cX7_runs 31 = .ok (.aload_n 0, 1) := by decide +kernel
theorem dX7_runs_32 : decode cX7_runs 32 = .ok (.dup, 1) := by decide +kernel
theorem dX7_runs_33 : decode cX7_runs 33 = .ok (.getfield 184, 3) := by decide +kernel
theorem dX7_runs_36 : decode cX7_runs 36 = .ok (.iconst 1, 1) := by decide +kernel
theorem dX7_runs_37 : decode cX7_runs 37 = .ok (.iadd, 1) := by decide +kernel
theorem dX7_runs_38 : decode cX7_runs 38 = .ok (.putfield 184, 3) := by decide +kernel
theorem dX7_runs_41 : decode cX7_runs 41 = .ok (.aload_n 0, 1) := by decide +kernel
theorem dX7_runs_42 : decode cX7_runs 42 = .ok (.bipush (-10), 2) := by decide +kernel
theorem dX7_runs_44 : decode cX7_runs 44 = .ok (.iload_n 2, 1) := by decide +kernel
theorem dX7_runs_45 : decode cX7_runs 45 = .ok (.isub, 1) := by decide +kernel
theorem dX7_runs_46 : decode cX7_runs 46 = .ok (.invokevirtual 172, 3) := by decide +kernel
theorem dX7_runs_49 : decode cX7_runs 49 = .ok (.goto (-47), 3) := by decide +kernel
theorem dX7_runs_52 : decode cX7_runs 52 = .ok (.aload_n 0, 1) := by decide +kernel
theorem dX7_runs_53 : decode cX7_runs 53 = .ok (.iload_n 1, 1) := by decide +kernel
theorem dX7_runs_54 : decode cX7_runs 54 = .ok (.invokevirtual 98, 3) := by decide +kernel
theorem dX7_runs_57 : decode cX7_runs 57 = .ok (.istore_n 3, 1) := by decide +kernel
theorem dX7_runs_58 : decode cX7_runs 58 = .ok (.aload_n 0, 1) := by decide +kernel
theorem dX7_runs_59 : decode cX7_runs 59 = .ok (.iload_n 2, 1) := by decide +kernel
theorem dX7_runs_60 : decode cX7_runs 60 = .ok (.invokevirtual 187, 3) := by decide +kernel
theorem dX7_runs_63 : decode cX7_runs 63 = .ok (.istore 4, 2) := by decide +kernel
theorem dX7_runs_65 : decode cX7_runs 65 = .ok (.aload_n 0, 1) := by decide +kernel
theorem dX7_runs_66 : decode cX7_runs 66 = .ok (.getfield 48, 3) := by decide +kernel
theorem dX7_runs_69 : decode cX7_runs 69 = .ok (.iload_n 3, 1) := by decide +kernel
theorem dX7_runs_70 : decode cX7_runs 70 = .ok (.iload 4, 2) := by decide +kernel
theorem dX7_runs_72 : decode cX7_runs 72 = .ok (.ifCond .eq 7, 3) := by decide +kernel
theorem dX7_runs_75 : decode cX7_runs 75 = .ok (.iconst (-1), 1) := by decide +kernel
theorem dX7_runs_76 : decode cX7_runs 76 = .ok (.goto 7, 3) := by decide +kernel
theorem dX7_runs_79 : decode cX7_runs 79 = .ok (.aload_n 0, 1) := by decide +kernel
theorem dX7_runs_80 : decode cX7_runs 80 = .ok (.getfield 175, 3) := by decide +kernel
theorem dX7_runs_83 : decode cX7_runs 83 = .ok (.iastore, 1) := by decide +kernel
theorem dX7_runs_84 : decode cX7_runs 84 = .ok (.iconst 0, 1) := by decide +kernel
theorem dX7_runs_85 : decode cX7_runs 85 = .ok (.istore 5, 2) := by decide +kernel
theorem dX7_runs_87 : decode cX7_runs 87 = .ok (.iload 5, 2) := by decide +kernel
theorem dX7_runs_89 : decode cX7_runs 89 = .ok (.aload_n 0, 1) := by decide +kernel
theorem dX7_runs_90 : decode cX7_runs 90 = .ok (.getfield 175, 3) := by decide +kernel
theorem dX7_runs_93 : decode cX7_runs 93 = .ok (.if_icmp .ge 51, 3) := by decide +kernel
theorem dX7_runs_96 : decode cX7_runs 96 = .ok (.iload 4, 2) := by decide +kernel
theorem dX7_runs_98 : decode cX7_runs 98 = .ok (.ifCond .ne 46, 3) := by decide +kernel
theorem dX7_runs_101 : decode cX7_runs 101 = .ok (.aload_n 0, 1) := by decide +kernel
theorem dX7_runs_102 : decode cX7_runs 102 = .ok (.getfield 48, 3) := by decide +kernel
theorem dX7_runs_105 : decode cX7_runs 105 = .ok (.iload_n 3, 1) := by decide +kernel
theorem dX7_runs_106 : decode cX7_runs 106 = .ok (.iconst 1, 1) := by decide +kernel
theorem dX7_runs_107 : decode cX7_runs 107 = .ok (.iadd, 1) := by decide +kernel
theorem dX7_runs_108 : decode cX7_runs 108 = .ok (.iload 5, 2) := by decide +kernel
theorem dX7_runs_110 : decode cX7_runs 110 = .ok (.iadd, 1) := by decide +kernel
theorem dX7_runs_111 : decode cX7_runs 111 = .ok (.aload_n 0, 1) := by decide +kernel
theorem dX7_runs_112 : decode cX7_runs 112 = .ok (.getfield 73, 3) := by decide +kernel
theorem dX7_runs_115 : decode cX7_runs 115 = .ok (.iload 5, 2) := by decide +kernel
theorem dX7_runs_117 : decode cX7_runs 117 = .ok (.iaload, 1) := by decide +kernel
theorem dX7_runs_118 : decode cX7_runs 118 = .ok (.iastore, 1) := by decide +kernel
theorem dX7_runs_119 : decode cX7_runs 119 = .ok (.aload_n 0, 1) := by decide +kernel
theorem dX7_runs_120 : decode cX7_runs 120 = .ok (.getfield 48, 3) := by decide +kernel
theorem dX7_runs_123 : decode cX7_runs 123 = .ok (.iload_n 3, 1) := by decide +kernel
theorem dX7_runs_124 : decode cX7_runs 124 = .ok (.bipush 13, 2) := by decide +kernel
theorem dX7_runs_126 : decode cX7_runs 126 = .ok (.iadd, 1) := by decide +kernel
theorem dX7_runs_127 : decode cX7_runs 127 = .ok (.iload 5, 2) := by decide +kernel
theorem dX7_runs_129 : decode cX7_runs 129 = .ok (.iadd, 1) := by decide +kernel
theorem dX7_runs_130 : decode cX7_runs 130 = .ok (.aload_n 0, 1) := by decide +kernel
theorem dX7_runs_131 : decode cX7_runs 131 = .ok (.getfield 76, 3) := by decide +kernel
theorem dX7_runs_134 : decode cX7_runs 134 = .ok (.iload 5, 2) := by decide +kernel
theorem dX7_runs_136 : decode cX7_runs 136 = .ok (.iaload, 1) := by decide +kernel
theorem dX7_runs_137 : decode cX7_runs 137 = .ok (.iastore, 1) := by decide +kernel
theorem dX7_runs_138 : decode cX7_runs 138 = .ok (.iinc 5 1, 3) := by decide +kernel
theorem dX7_runs_141 : decode cX7_runs 141 = .ok (.goto (-54), 3) := by decide +kernel
theorem dX7_runs_144 : decode cX7_runs 144 = .ok (.iload_n 2, 1) := by decide +kernel
theorem dX7_runs_145 : decode cX7_runs 145 = .ok (.ireturn, 1) := by decide +kernel
theorem dX7_goes_0 : decode cX7_goes 0 = .ok (.lconst 0, 1) := by decide +kernel
theorem dX7_goes_1 : decode cX7_goes 1 = .ok (.lstore_n 2, 1) := by decide +kernel
theorem dX7_goes_2 : decode cX7_goes 2 = .ok (.aload_n 0, 1) := by decide +kernel
theorem dX7_goes_3 : decode cX7_goes 3 = .ok (.iload_n 1, 1) := by decide +kernel
theorem dX7_goes_4 : decode cX7_goes 4 = .ok (.iconst 0, 1) := by decide +kernel
theorem dX7_goes_5 : decode cX7_goes 5 = .ok (.invokevirtual 140, 3) := by decide +kernel
theorem dX7_goes_8 : decode cX7_goes 8 = .ok (.istore 4, 2) := by decide +kernel
theorem dX7_goes_10 : decode cX7_goes 10 = .ok (.iconst 0, 1) := by decide +kernel
theorem dX7_goes_11 : decode cX7_goes 11 = .ok (.istore 5, 2) := by decide +kernel
theorem dX7_goes_13 : decode cX7_goes 13 = .ok (.iload 5, 2) := by decide +kernel
theorem dX7_goes_15 : decode cX7_goes 15 = .ok (.iload 4, 2) := by decide +kernel
theorem dX7_goes_17 : decode cX7_goes 17 = .ok (.if_icmp .ge 341, 3) := by decide +kernel
theorem dX7_goes_20 : decode cX7_goes 20 = .ok (.aload_n 0, 1) := by decide +kernel
theorem dX7_goes_21 : decode cX7_goes 21 = .ok (.iload_n 1, 1) := by decide +kernel
theorem dX7_goes_22 : decode cX7_goes 22 = .ok (.iconst 1, 1) := by decide +kernel
theorem dX7_goes_23 : decode cX7_goes 23 = .ok (.iconst 2, 1) := by decide +kernel
theorem dX7_goes_24 : decode cX7_goes 24 = .ok (.iload 5, 2) := by decide +kernel
theorem dX7_goes_26 : decode cX7_goes 26 = .ok (.imul, 1) := by decide +kernel
theorem dX7_goes_27 : decode cX7_goes 27 = .ok (.iadd, 1) := by decide +kernel
theorem dX7_goes_28 : decode cX7_goes 28 = .ok (.invokevirtual 140, 3) := by decide +kernel
theorem dX7_goes_31 : decode cX7_goes 31 = .ok (.istore 6, 2) := by decide +kernel
theorem dX7_goes_33 : decode cX7_goes 33 = .ok (.aload_n 0, 1) := by decide +kernel
theorem dX7_goes_34 : decode cX7_goes 34 = .ok (.iload_n 1, 1) := by decide +kernel
theorem dX7_goes_35 : decode cX7_goes 35 = .ok (.iconst 2, 1) := by decide +kernel
theorem dX7_goes_36 : decode cX7_goes 36 = .ok (.iconst 2, 1) := by decide +kernel
theorem dX7_goes_37 : decode cX7_goes 37 = .ok (.iload 5, 2) := by decide +kernel
theorem dX7_goes_39 : decode cX7_goes 39 = .ok (.imul, 1) := by decide +kernel
theorem dX7_goes_40 : decode cX7_goes 40 = .ok (.iadd, 1) := by decide +kernel
theorem dX7_goes_41 : decode cX7_goes 41 = .ok (.invokevirtual 140, 3) := by decide +kernel
theorem dX7_goes_44 : decode cX7_goes 44 = .ok (.istore 7, 2) := by decide +kernel
theorem dX7_goes_46 : decode cX7_goes 46 = .ok (.iload 7, 2) := by decide +kernel
theorem dX7_goes_48 : decode cX7_goes 48 = .ok (.i2l, 1) := by decide +kernel
theorem dX7_goes_49 : decode cX7_goes 49 = .ok (.lstore 8, 2) := by decide +kernel
theorem dX7_goes_51 : decode cX7_goes 51 = .ok (.iload 6, 2) := by decide +kernel
theorem dX7_goes_53 : decode cX7_goes 53 = .ok (.invokestatic 123, 3) := by decide +kernel
theorem dX7_goes_56 : decode cX7_goes 56 = .ok (.ifCond .eq 89, 3) := by decide +kernel
theorem dX7_goes_59 : decode cX7_goes 59 = .ok (.iload 7, 2) := by decide +kernel
theorem dX7_goes_61 : decode cX7_goes 61 = .ok (.invokestatic 108, 3) := by decide +kernel
theorem dX7_goes_64 : decode cX7_goes 64 = .ok (.ifCond .ne 23, 3) := by decide +kernel
theorem dX7_goes_67 : decode cX7_goes 67 = .ok (.aload_n 0, 1) := by decide +kernel
theorem dX7_goes_68 : decode cX7_goes 68 = .ok (.getfield 64, 3) := by decide +kernel
theorem dX7_goes_71 : decode cX7_goes 71 = .ok (.iload 7, 2) := by decide +kernel
theorem dX7_goes_73 : decode cX7_goes 73 = .ok (.baload, 1) := by decide +kernel
theorem dX7_goes_74 : decode cX7_goes 74 = .ok (.ifCond .eq 13, 3) := by decide +kernel
theorem dX7_goes_77 : decode cX7_goes 77 = .ok (.aload_n 0, 1) := by decide +kernel
theorem dX7_goes_78 : decode cX7_goes 78 = .ok (.iload_n 1, 1) := by decide +kernel
theorem dX7_goes_79 : decode cX7_goes 79 = .ok (.iconst 1, 1) := by decide +kernel
theorem dX7_goes_80 : decode cX7_goes 80 = .ok (.iload 5, 2) := by decide +kernel
theorem dX7_goes_82 : decode cX7_goes 82 = .ok (.iconst (-1), 1) := by decide +kernel
theorem dX7_goes_83 : decode cX7_goes 83 = .ok (.invokevirtual 104, 3) := by decide +kernel
theorem dX7_goes_86 : decode cX7_goes 86 = .ok (.ireturn, 1) := by decide +kernel
theorem dX7_goes_87 : decode cX7_goes 87 = .ok (.aload_n 0, 1) := by decide +kernel
theorem dX7_goes_88 : decode cX7_goes 88 = .ok (.iload 7, 2) := by decide +kernel
theorem dX7_goes_90 : decode cX7_goes 90 = .ok (.invokevirtual 169, 3) := by decide +kernel
theorem dX7_goes_93 : decode cX7_goes 93 = .ok (.ifCond .ne 9, 3) := by decide +kernel
theorem dX7_goes_96 : decode cX7_goes 96 = .ok (.bipush (-10), 2) := by decide +kernel
theorem dX7_goes_98 : decode cX7_goes 98 = .ok (.iload 7, 2) := by decide +kernel
theorem dX7_goes_100 : decode cX7_goes 100 = .ok (.isub, 1) := by decide +kernel
theorem dX7_goes_101 : decode cX7_goes 101 = .ok (.ireturn, 1) := by decide +kernel
theorem dX7_goes_102 : decode cX7_goes 102 = .ok (.aload_n 0, 1) := by decide +kernel
theorem dX7_goes_103 : decode cX7_goes 103 = .ok (.iload 7, 2) := by decide +kernel
theorem dX7_goes_105 : decode cX7_goes 105 = .ok (.invokevirtual 156, 3) := by decide +kernel
theorem dX7_goes_108 : decode cX7_goes 108 = .ok (.istore 10, 2) := by decide +kernel
theorem dX7_goes_110 : decode cX7_goes 110 = .ok (.aload_n 0, 1) := by decide +kernel
theorem dX7_goes_111 : decode cX7_goes 111 = .ok (.iload 7, 2) := by decide +kernel
theorem dX7_goes_113 : decode cX7_goes 113 = .ok (.iload 10, 2) := by decide +kernel
theorem dX7_goes_115 : decode cX7_goes 115 = .ok (.invokevirtual 190, 3) := by decide +kernel
theorem dX7_goes_118 : decode cX7_goes 118 = .ok (.iload 10, 2) := by decide +kernel
theorem dX7_goes_120 : decode cX7_goes 120 = .ok (.invokestatic 34, 3) := by decide +kernel
theorem dX7_goes_123 : decode cX7_goes 123 = .ok (.ifCond .eq 14, 3) := by decide +kernel
theorem dX7_goes_126 : decode cX7_goes 126 = .ok (.aload_n 0, 1) := by decide +kernel
theorem dX7_goes_127 : decode cX7_goes 127 = .ok (.iload_n 1, 1) := by decide +kernel
theorem dX7_goes_128 : decode cX7_goes 128 = .ok (.iconst 5, 1) := by decide +kernel
theorem dX7_goes_129 : decode cX7_goes 129 = .ok (.iload 5, 2) := by decide +kernel
theorem dX7_goes_131 : decode cX7_goes 131 = .ok (.iload 10, 2) := by decide +kernel
theorem dX7_goes_133 : decode cX7_goes 133 = .ok (.invokevirtual 104, 3) := by decide +kernel
theorem dX7_goes_136 : decode cX7_goes 136 = .ok (.ireturn, 1) := by decide +kernel
theorem dX7_goes_137 : decode cX7_goes 137 = .ok (.iload 10, 2) := by decide +kernel
theorem dX7_goes_139 : decode cX7_goes 139 = .ok (.invokestatic 38, 3) := by decide +kernel
theorem dX7_goes_142 : decode cX7_goes 142 = .ok (.i2l, 1) := by decide +kernel
theorem dX7_goes_143 : decode cX7_goes 143 = .ok (.lstore 8, 2) := by decide +kernel
theorem dX7_goes_145 : decode cX7_goes 145 = .ok (.lload 8, 2) := by decide +kernel
theorem dX7_goes_147 : decode cX7_goes 147 = .ok (.lconst 0, 1) := by decide +kernel
theorem dX7_goes_148 : decode cX7_goes 148 = .ok (.lcmp, 1) := by decide +kernel
theorem dX7_goes_149 : decode cX7_goes 149 = .ok (.ifCond .ne 27, 3) := by decide +kernel
theorem dX7_goes_152 : decode cX7_goes 152 = .ok (.iload 6, 2) := by decide +kernel
theorem dX7_goes_154 : decode cX7_goes 154 = .ok (.bipush 47, 2) := by decide +kernel
theorem dX7_goes_156 : decode cX7_goes 156 = .ok (.if_icmp .eq 10, 3) := by decide +kernel
theorem dX7_goes_159 : decode cX7_goes 159 = .ok (.iload 6, 2) := by decide +kernel
theorem dX7_goes_161 : decode cX7_goes 161 = .ok (.bipush 37, 2) := by decide +kernel
theorem dX7_goes_163 : decode cX7_goes 163 = .ok (.if_icmp .ne 13, 3) := by decide +kernel
theorem dX7_goes_166 : decode cX7_goes 166 = .ok (.aload_n 0, 1) := by decide +kernel
theorem dX7_goes_167 : decode cX7_goes 167 = .ok (.iload_n 1, 1) := by decide +kernel
theorem dX7_goes_168 : decode cX7_goes 168 = .ok (.iconst 2, 1) := by decide +kernel
theorem dX7_goes_169 : decode cX7_goes 169 = .ok (.iload 5, 2) := by decide +kernel
theorem dX7_goes_171 : decode cX7_goes 171 = .ok (.iconst (-1), 1) := by decide +kernel
theorem dX7_goes_172 : decode cX7_goes 172 = .ok (.invokevirtual 104, 3) := by decide +kernel
theorem dX7_goes_175 : decode cX7_goes 175 = .ok (.ireturn, 1) := by decide +kernel
theorem dX7_goes_176 : decode cX7_goes 176 = .ok (.iload 6, 2) := by decide +kernel
theorem dX7_goes_178 : decode cX7_goes 178 = .ok (.bipush 33, 2) := by decide +kernel
theorem dX7_goes_180 : decode cX7_goes 180 = .ok (.if_icmp .ne 21, 3) := by decide +kernel
theorem dX7_goes_183 : decode cX7_goes 183 = .ok (.lload_n 2, 1) := by decide +kernel
theorem dX7_goes_184 : decode cX7_goes 184 = .ok (.iload 7, 2) := by decide +kernel
theorem dX7_goes_186 : decode cX7_goes 186 = .ok (.i2l, 1) := by decide +kernel
theorem dX7_goes_187 : decode cX7_goes 187 = .ok (.lcmp, 1) := by decide +kernel
theorem dX7_goes_188 : decode cX7_goes 188 = .ok (.ifCond .le 13, 3) := by decide +kernel
theorem dX7_goes_191 : decode cX7_goes 191 = .ok (.aload_n 0, 1) := by decide +kernel
theorem dX7_goes_192 : decode cX7_goes 192 = .ok (.iload_n 1, 1) := by decide +kernel
theorem dX7_goes_193 : decode cX7_goes 193 = .ok (.iconst 4, 1) := by decide +kernel
theorem dX7_goes_194 : decode cX7_goes 194 = .ok (.iload 5, 2) := by decide +kernel
theorem dX7_goes_196 : decode cX7_goes 196 = .ok (.iconst (-1), 1) := by decide +kernel
theorem dX7_goes_197 : decode cX7_goes 197 = .ok (.invokevirtual 104, 3) := by decide +kernel
theorem dX7_goes_200 : decode cX7_goes 200 = .ok (.ireturn, 1) := by decide +kernel
theorem dX7_goes_201 : decode cX7_goes 201 = .ok (.iload 5, 2) := by decide +kernel
theorem dX7_goes_203 : decode cX7_goes 203 = .ok (.iload 6, 2) := by decide +kernel
theorem dX7_goes_205 : decode cX7_goes 205 = .ok (.bipush 63, 2) := by decide +kernel
theorem dX7_goes_207 : decode cX7_goes 207 = .ok (.if_icmp .ne 9, 3) := by decide +kernel
theorem dX7_goes_210 : decode cX7_goes 210 = .ok (.lload_n 2, 1) := by decide +kernel
theorem dX7_goes_211 : decode cX7_goes 211 = .ok (.lconst 0, 1) := by decide +kernel
theorem dX7_goes_212 : decode cX7_goes 212 = .ok (.lcmp, 1) := by decide +kernel
theorem dX7_goes_213 : decode cX7_goes 213 = .ok (.ifCond .eq 16, 3) := by decide +kernel
theorem dX7_goes_216 : decode cX7_goes 216 = .ok (.iload 6, 2) := by decide +kernel
theorem dX7_goes_218 : decode cX7_goes 218 = .ok (.bipush 94, 2) := by decide +kernel
theorem dX7_goes_220 : decode cX7_goes 220 = .ok (.if_icmp .ne 14, 3) := by decide +kernel
theorem dX7_goes_223 : decode cX7_goes 223 = .ok (.lload_n 2, 1) := by decide +kernel
theorem dX7_goes_224 : decode cX7_goes 224 = .ok (.lconst 0, 1) := by decide +kernel
theorem dX7_goes_225 : decode cX7_goes 225 = .ok (.lcmp, 1) := by decide +kernel
theorem dX7_goes_226 : decode cX7_goes 226 = .ok (.ifCond .ge 8, 3) := by decide +kernel
theorem dX7_goes_229 : decode cX7_goes 229 = .ok (.iload 7, 2) := by decide +kernel
theorem dX7_goes_231 : decode cX7_goes 231 = .ok (.goto 4, 3) := by decide +kernel
theorem dX7_goes_234 : decode cX7_goes 234 = .ok (.iconst 0, 1) := by decide +kernel
theorem dX7_goes_235 : decode cX7_goes 235 = .ok (.iadd, 1) := by decide +kernel
theorem dX7_goes_236 : decode cX7_goes 236 = .ok (.istore 5, 2) := by decide +kernel
theorem dX7_goes_238 : decode cX7_goes 238 = .ok (.iload 6, 2) := by decide +kernel
theorem dX7_goes_240 : decode cX7_goes 240 = .ok (.bipush 43, 2) := by decide +kernel
theorem dX7_goes_242 : decode cX7_goes 242 = .ok (.if_icmp .ne 10, 3) := by decide +kernel
theorem dX7_goes_245 : decode cX7_goes 245 = .ok (.lload_n 2, 1) := by decide +kernel
theorem dX7_goes_246 : decode cX7_goes 246 = .ok (.lload 8, 2) := by decide +kernel
theorem dX7_goes_248 : decode cX7_goes 248 = .ok (.ladd, 1) := by decide +kernel
theorem dX7_goes_249 : decode cX7_goes 249 = .ok (.goto 79, 3) := by decide +kernel
theorem dX7_goes_252 : decode cX7_goes 252 = .ok (.iload 6, 2) := by decide +kernel
theorem dX7_goes_254 : decode cX7_goes 254 = .ok (.bipush 45, 2) := by decide +kernel
theorem dX7_goes_256 : decode cX7_goes 256 = .ok (.if_icmp .ne 10, 3) := by decide +kernel
theorem dX7_goes_259 : decode cX7_goes 259 = .ok (.lload_n 2, 1) := by decide +kernel
theorem dX7_goes_260 : decode cX7_goes 260 = .ok (.lload 8, 2) := by decide +kernel
theorem dX7_goes_262 : decode cX7_goes 262 = .ok (.lsub, 1) := by decide +kernel
theorem dX7_goes_263 : decode cX7_goes 263 = .ok (.goto 65, 3) := by decide +kernel
theorem dX7_goes_266 : decode cX7_goes 266 = .ok (.iload 6, 2) := by decide +kernel
theorem dX7_goes_268 : decode cX7_goes 268 = .ok (.bipush 42, 2) := by decide +kernel
theorem dX7_goes_270 : decode cX7_goes 270 = .ok (.if_icmp .ne 10, 3) := by decide +kernel
theorem dX7_goes_273 : decode cX7_goes 273 = .ok (.lload_n 2, 1) := by decide +kernel
theorem dX7_goes_274 : decode cX7_goes 274 = .ok (.lload 8, 2) := by decide +kernel
theorem dX7_goes_276 : decode cX7_goes 276 = .ok (.lmul, 1) := by decide +kernel
theorem dX7_goes_277 : decode cX7_goes 277 = .ok (.goto 51, 3) := by decide +kernel
theorem dX7_goes_280 : decode cX7_goes 280 = .ok (.iload 6, 2) := by decide +kernel
theorem dX7_goes_282 : decode cX7_goes 282 = .ok (.bipush 47, 2) := by decide +kernel
theorem dX7_goes_284 : decode cX7_goes 284 = .ok (.if_icmp .ne 10, 3) := by decide +kernel
theorem dX7_goes_287 : decode cX7_goes 287 = .ok (.lload_n 2, 1) := by decide +kernel
theorem dX7_goes_288 : decode cX7_goes 288 = .ok (.lload 8, 2) := by decide +kernel
theorem dX7_goes_290 : decode cX7_goes 290 = .ok (.ldiv, 1) := by decide +kernel
theorem dX7_goes_291 : decode cX7_goes 291 = .ok (.goto 37, 3) := by decide +kernel
theorem dX7_goes_294 : decode cX7_goes 294 = .ok (.iload 6, 2) := by decide +kernel
theorem dX7_goes_296 : decode cX7_goes 296 = .ok (.bipush 38, 2) := by decide +kernel
theorem dX7_goes_298 : decode cX7_goes 298 = .ok (.if_icmp .eq 10, 3) := by decide +kernel
theorem dX7_goes_301 : decode cX7_goes 301 = .ok (.iload 6, 2) := by decide +kernel
theorem dX7_goes_303 : decode cX7_goes 303 = .ok (.bipush 61, 2) := by decide +kernel
theorem dX7_goes_305 : decode cX7_goes 305 = .ok (.if_icmp .ne 8, 3) := by decide +kernel
theorem dX7_goes_308 : decode cX7_goes 308 = .ok (.lload 8, 2) := by decide +kernel
theorem dX7_goes_310 : decode cX7_goes 310 = .ok (.goto 18, 3) := by decide +kernel
theorem dX7_goes_313 : decode cX7_goes 313 = .ok (.iload 6, 2) := by decide +kernel
theorem dX7_goes_315 : decode cX7_goes 315 = .ok (.bipush 37, 2) := by decide +kernel
theorem dX7_goes_317 : decode cX7_goes 317 = .ok (.if_icmp .ne 10, 3) := by decide +kernel
theorem dX7_goes_320 : decode cX7_goes 320 = .ok (.lload_n 2, 1) := by decide +kernel
theorem dX7_goes_321 : decode cX7_goes 321 = .ok (.lload 8, 2) := by decide +kernel
theorem dX7_goes_323 : decode cX7_goes 323 = .ok (.lrem, 1) := by decide +kernel
theorem dX7_goes_324 : decode cX7_goes 324 = .ok (.goto 4, 3) := by decide +kernel
theorem dX7_goes_327 : decode cX7_goes 327 = .ok (.lload_n 2, 1) := by decide +kernel
theorem dX7_goes_328 : decode cX7_goes 328 = .ok (.lstore_n 2, 1) := by decide +kernel
theorem dX7_goes_329 : decode cX7_goes 329 = .ok (.lload_n 2, 1) := by decide +kernel
theorem dX7_goes_330 : decode cX7_goes 330 = .ok (.ldc2_w 111, 3) := by decide +kernel
theorem dX7_goes_333 : decode cX7_goes 333 = .ok (.ldc2_w 113, 3) := by decide +kernel
theorem dX7_goes_336 : decode cX7_goes 336 = .ok (.invokestatic 7, 3) := by decide +kernel
theorem dX7_goes_339 : decode cX7_goes 339 = .ok (.ifCond .ne 13, 3) := by decide +kernel
theorem dX7_goes_342 : decode cX7_goes 342 = .ok (.aload_n 0, 1) := by decide +kernel
theorem dX7_goes_343 : decode cX7_goes 343 = .ok (.iload_n 1, 1) := by decide +kernel
theorem dX7_goes_344 : decode cX7_goes 344 = .ok (.iconst 3, 1) := by decide +kernel
theorem dX7_goes_345 : decode cX7_goes 345 = .ok (.iload 5, 2) := by decide +kernel
theorem dX7_goes_347 : decode cX7_goes 347 = .ok (.iconst (-1), 1) := by decide +kernel
theorem dX7_goes_348 : decode cX7_goes 348 = .ok (.invokevirtual 104, 3) := by decide +kernel
theorem dX7_goes_351 : decode cX7_goes 351 = .ok (.ireturn, 1) := by decide +kernel
theorem dX7_goes_352 : decode cX7_goes 352 = .ok (.iinc 5 1, 3) := by decide +kernel
theorem dX7_goes_355 : decode cX7_goes 355 = .ok (.goto (-342), 3) := by decide +kernel
theorem dX7_goes_358 : decode cX7_goes 358 = .ok (.lload_n 2, 1) := by decide +kernel
theorem dX7_goes_359 : decode cX7_goes 359 = .ok (.l2i, 1) := by decide +kernel
theorem dX7_goes_360 : decode cX7_goes 360 = .ok (.invokestatic 115, 3) := by decide +kernel
theorem dX7_goes_363 : decode cX7_goes 363 = .ok (.ireturn, 1) := by decide +kernel
theorem dX7_manyDone_0 : decode cX7_manyDone 0 = .ok (.iconst 0, 1) := by decide +kernel
theorem dX7_manyDone_1 : decode cX7_manyDone 1 = .ok (.istore_n 1, 1) := by decide +kernel
theorem dX7_manyDone_2 : decode cX7_manyDone 2 = .ok (.bipush 8, 2) := by decide +kernel
theorem dX7_manyDone_4 : decode cX7_manyDone 4 = .ok (.istore_n 2, 1) := by decide +kernel
theorem dX7_manyDone_5 : decode cX7_manyDone 5 = .ok (.iload_n 2, 1) := by decide +kernel
theorem dX7_manyDone_6 : decode cX7_manyDone 6 = .ok (.bipush 24, 2) := by decide +kernel
theorem dX7_manyDone_8 : decode cX7_manyDone 8 = .ok (.if_icmp .ge 26, 3) := by decide +kernel
theorem dX7_manyDone_11 : decode cX7_manyDone 11 = .ok (.iload_n 1, 1) := by decide +kernel
theorem dX7_manyDone_12 : decode cX7_manyDone 12 = .ok (.aload_n 0, 1) := by decide +kernel
theorem dX7_manyDone_13 : decode cX7_manyDone 13 = .ok (.getfield 60, 3) := by decide +kernel
theorem dX7_manyDone_16 : decode cX7_manyDone 16 = .ok (.iload_n 2, 1) := by decide +kernel
theorem dX7_manyDone_17 : decode cX7_manyDone 17 = .ok (.baload, 1) := by decide +kernel
theorem dX7_manyDone_18 : decode cX7_manyDone 18 = .ok (.ifCond .eq 7, 3) := by decide +kernel
theorem dX7_manyDone_21 : decode cX7_manyDone 21 = .ok (.iconst 1, 1) := by decide +kernel
theorem dX7_manyDone_22 : decode cX7_manyDone 22 = .ok (.goto 4, 3) := by decide +kernel
theorem dX7_manyDone_25 : decode cX7_manyDone 25 = .ok (.iconst 0, 1) := by decide +kernel
theorem dX7_manyDone_26 : decode cX7_manyDone 26 = .ok (.iadd, 1) := by decide +kernel
theorem dX7_manyDone_27 : decode cX7_manyDone 27 = .ok (.istore_n 1, 1) := by decide +kernel
theorem dX7_manyDone_28 : decode cX7_manyDone 28 = .ok (.iinc 2 1, 3) := by decide +kernel
theorem dX7_manyDone_31 : decode cX7_manyDone 31 = .ok (.goto (-26), 3) := by decide +kernel
theorem dX7_manyDone_34 : decode cX7_manyDone 34 = .ok (.iload_n 1, 1) := by decide +kernel
theorem dX7_manyDone_35 : decode cX7_manyDone 35 = .ok (.ireturn, 1) := by decide +kernel
theorem dX7_built_0 : decode cX7_built 0 = .ok (.iconst 0, 1) := by decide +kernel
theorem dX7_built_1 : decode cX7_built 1 = .ok (.istore_n 3, 1) := by decide +kernel
theorem dX7_built_2 : decode cX7_built 2 = .ok (.iload_n 3, 1) := by decide +kernel
theorem dX7_built_3 : decode cX7_built 3 = .ok (.bipush 24, 2) := by decide +kernel
theorem dX7_built_5 : decode cX7_built 5 = .ok (.if_icmp .ge 23, 3) := by decide +kernel
theorem dX7_built_8 : decode cX7_built 8 = .ok (.aload_n 0, 1) := by decide +kernel
theorem dX7_built_9 : decode cX7_built 9 = .ok (.getfield 60, 3) := by decide +kernel
theorem dX7_built_12 : decode cX7_built 12 = .ok (.iload_n 3, 1) := by decide +kernel
theorem dX7_built_13 : decode cX7_built 13 = .ok (.iconst 0, 1) := by decide +kernel
theorem dX7_built_14 : decode cX7_built 14 = .ok (.bastore, 1) := by decide +kernel
theorem dX7_built_15 : decode cX7_built 15 = .ok (.aload_n 0, 1) := by decide +kernel
theorem dX7_built_16 : decode cX7_built 16 = .ok (.getfield 64, 3) := by decide +kernel
theorem dX7_built_19 : decode cX7_built 19 = .ok (.iload_n 3, 1) := by decide +kernel
theorem dX7_built_20 : decode cX7_built 20 = .ok (.iconst 0, 1) := by decide +kernel
theorem dX7_built_21 : decode cX7_built 21 = .ok (.bastore, 1) := by decide +kernel
theorem dX7_built_22 : decode cX7_built 22 = .ok (.iinc 3 1, 3) := by decide +kernel
theorem dX7_built_25 : decode cX7_built 25 = .ok (.goto (-23), 3) := by decide +kernel
theorem dX7_built_28 : decode cX7_built 28 = .ok (.aload_n 0, 1) := by decide +kernel
theorem dX7_built_29 : decode cX7_built 29 = .ok (.iconst 0, 1) := by decide +kernel
theorem dX7_built_30 : decode cX7_built 30 = .ok (.putfield 144, 3) := by decide +kernel
theorem dX7_built_33 : decode cX7_built 33 = .ok (.aload_n 0, 1) := by decide +kernel
theorem dX7_built_34 : decode cX7_built 34 = .ok (.bipush (-5), 2) := by decide +kernel
theorem dX7_built_36 : decode cX7_built 36 = .ok (.putfield 70, 3) := by decide +kernel
theorem dX7_built_39 : decode cX7_built 39 = .ok (.iconst 0, 1) := by decide +kernel
theorem dX7_built_40 : decode cX7_built 40 = .ok (.istore_n 3, 1) := by decide +kernel
theorem dX7_built_41 : decode cX7_built 41 = .ok (.iload_n 3, 1) := by decide +kernel
theorem dX7_built_42 : decode cX7_built 42 = .ok (.bipush 16, 2) := by decide +kernel
theorem dX7_built_44 : decode cX7_built 44 = .ok (.if_icmp .ge 74, 3) := by decide +kernel
theorem dX7_built_47 : decode cX7_built 47 = .ok (.aload_n 0, 1) := by decide +kernel
theorem dX7_built_48 : decode cX7_built 48 = .ok (.getfield 70, 3) := by decide +kernel
theorem dX7_built_51 : decode cX7_built 51 = .ok (.ifCond .ge 67, 3) := by decide +kernel
theorem dX7_built_54 : decode cX7_built 54 = .ok (.bipush 8, 2) := by decide +kernel
theorem dX7_built_56 : decode cX7_built 56 = .ok (.iload_n 3, 1) := by decide +kernel
theorem dX7_built_57 : decode cX7_built 57 = .ok (.iadd, 1) := by decide +kernel
theorem dX7_built_58 : decode cX7_built 58 = .ok (.istore 4, 2) := by decide +kernel
theorem dX7_built_60 : decode cX7_built 60 = .ok (.iload_n 1, 1) := by decide +kernel
theorem dX7_built_61 : decode cX7_built 61 = .ok (.iload_n 3, 1) := by decide +kernel
theorem dX7_built_62 : decode cX7_built 62 = .ok (.ishr, 1) := by decide +kernel
theorem dX7_built_63 : decode cX7_built 63 = .ok (.iconst 1, 1) := by decide +kernel
theorem dX7_built_64 : decode cX7_built 64 = .ok (.iand, 1) := by decide +kernel
theorem dX7_built_65 : decode cX7_built 65 = .ok (.iconst 1, 1) := by decide +kernel
theorem dX7_built_66 : decode cX7_built 66 = .ok (.if_icmp .ne 46, 3) := by decide +kernel
theorem dX7_built_69 : decode cX7_built 69 = .ok (.aload_n 0, 1) := by decide +kernel
theorem dX7_built_70 : decode cX7_built 70 = .ok (.getfield 60, 3) := by decide +kernel
theorem dX7_built_73 : decode cX7_built 73 = .ok (.iload 4, 2) := by decide +kernel
theorem dX7_built_75 : decode cX7_built 75 = .ok (.baload, 1) := by decide +kernel
theorem dX7_built_76 : decode cX7_built 76 = .ok (.ifCond .ne 9, 3) := by decide +kernel
theorem dX7_built_79 : decode cX7_built 79 = .ok (.aload_n 0, 1) := by decide +kernel
theorem dX7_built_80 : decode cX7_built 80 = .ok (.iload 4, 2) := by decide +kernel
theorem dX7_built_82 : decode cX7_built 82 = .ok (.invokevirtual 172, 3) := by decide +kernel
theorem dX7_built_85 : decode cX7_built 85 = .ok (.aload_n 0, 1) := by decide +kernel
theorem dX7_built_86 : decode cX7_built 86 = .ok (.iload_n 2, 1) := by decide +kernel
theorem dX7_built_87 : decode cX7_built 87 = .ok (.ifCond .eq 20, 3) := by decide +kernel
theorem dX7_built_90 : decode cX7_built 90 = .ok (.aload_n 0, 1) := by decide +kernel
theorem dX7_built_91 : decode cX7_built 91 = .ok (.iload 4, 2) := by decide +kernel
theorem dX7_built_93 : decode cX7_built 93 = .ok (.invokevirtual 156, 3) := by decide +kernel
theorem dX7_built_96 : decode cX7_built 96 = .ok (.invokestatic 34, 3) := by decide +kernel
theorem dX7_built_99 : decode cX7_built 99 = .ok (.ifCond .eq 8, 3) := by decide +kernel
theorem dX7_built_102 : decode cX7_built 102 = .ok (.iload 4, 2) := by decide +kernel
theorem dX7_built_104 : decode cX7_built 104 = .ok (.goto 5, 3) := by decide +kernel
theorem dX7_built_107 : decode cX7_built 107 = .ok (.bipush (-5), 2) := by decide +kernel
theorem dX7_built_109 : decode cX7_built 109 = .ok (.putfield 70, 3) := by decide +kernel
theorem dX7_built_112 : decode cX7_built 112 = .ok (.iinc 3 1, 3) := by decide +kernel
theorem dX7_built_115 : decode cX7_built 115 = .ok (.goto (-74), 3) := by decide +kernel
theorem dX7_built_118 : decode cX7_built 118 = .ok (.aload_n 0, 1) := by decide +kernel
theorem dX7_built_119 : decode cX7_built 119 = .ok (.invokevirtual 194, 3) := by decide +kernel
theorem dX7_built_122 : decode cX7_built 122 = .ok (.ireturn, 1) := by decide +kernel
theorem dX7_build_0 : decode cX7_build 0 = .ok (.iload_n 1, 1) := by decide +kernel
theorem dX7_build_1 : decode cX7_build 1 = .ok (.invokestatic 101, 3) := by decide +kernel
theorem dX7_build_4 : decode cX7_build 4 = .ok (.ifCond .ne 5, 3) := by decide +kernel
theorem dX7_build_7 : decode cX7_build 7 = .ok (.iconst (-1), 1) := by decide +kernel
theorem dX7_build_8 : decode cX7_build 8 = .ok (.ireturn, 1) := by decide +kernel
theorem dX7_build_9 : decode cX7_build 9 = .ok (.aload_n 0, 1) := by decide +kernel
theorem dX7_build_10 : decode cX7_build 10 = .ok (.getfield 178, 3) := by decide +kernel
theorem dX7_build_13 : decode cX7_build 13 = .ok (.istore_n 2, 1) := by decide +kernel
theorem dX7_build_14 : decode cX7_build 14 = .ok (.aload_n 0, 1) := by decide +kernel
theorem dX7_build_15 : decode cX7_build 15 = .ok (.iconst 1, 1) := by decide +kernel
theorem dX7_build_16 : decode cX7_build 16 = .ok (.iload_n 1, 1) := by decide +kernel
theorem dX7_build_17 : decode cX7_build 17 = .ok (.bipush 8, 2) := by decide +kernel
theorem dX7_build_19 : decode cX7_build 19 = .ok (.isub, 1) := by decide +kernel
theorem dX7_build_20 : decode cX7_build 20 = .ok (.ishl, 1) := by decide +kernel
theorem dX7_build_21 : decode cX7_build 21 = .ok (.iconst 0, 1) := by decide +kernel
theorem dX7_build_22 : decode cX7_build 22 = .ok (.invokevirtual 197, 3) := by decide +kernel
theorem dX7_build_25 : decode cX7_build 25 = .ok (.pop, 1) := by decide +kernel
theorem dX7_build_26 : decode cX7_build 26 = .ok (.aload_n 0, 1) := by decide +kernel
theorem dX7_build_27 : decode cX7_build 27 = .ok (.getfield 178, 3) := by decide +kernel
theorem dX7_build_30 : decode cX7_build 30 = .ok (.iload_n 2, 1) := by decide +kernel
theorem dX7_build_31 : decode cX7_build 31 = .ok (.isub, 1) := by decide +kernel
theorem dX7_build_32 : decode cX7_build 32 = .ok (.ireturn, 1) := by decide +kernel
theorem dX7_all_0 : decode cX7_all 0 = .ok (.iload_n 1, 1) := by decide +kernel
theorem dX7_all_1 : decode cX7_all 1 = .ok (.i2l, 1) := by decide +kernel
theorem dX7_all_2 : decode cX7_all 2 = .ok (.lconst 0, 1) := by decide +kernel
theorem dX7_all_3 : decode cX7_all 3 = .ok (.lconst 1, 1) := by decide +kernel
theorem dX7_all_4 : decode cX7_all 4 = .ok (.invokestatic 7, 3) := by decide +kernel
theorem dX7_all_7 : decode cX7_all 7 = .ok (.ifCond .eq 22, 3) := by decide +kernel
theorem dX7_all_10 : decode cX7_all 10 = .ok (.aload_n 0, 1) := by decide +kernel
theorem dX7_all_11 : decode cX7_all 11 = .ok (.ldc 201, 2) := by decide +kernel
theorem dX7_all_13 : decode cX7_all 13 = .ok (.iload_n 1, 1) := by decide +kernel
theorem dX7_all_14 : decode cX7_all 14 = .ok (.iconst 1, 1) := by decide +kernel
theorem dX7_all_15 : decode cX7_all 15 = .ok (.if_icmp .ne 7, 3) := by decide +kernel
theorem dX7_all_18 : decode cX7_all 18 = .ok (.iconst 1, 1) := by decide +kernel
theorem dX7_all_19 : decode cX7_all 19 = .ok (.goto 4, 3) := by decide +kernel
theorem dX7_all_22 : decode cX7_all 22 = .ok (.iconst 0, 1) := by decide +kernel
theorem dX7_all_23 : decode cX7_all 23 = .ok (.invokevirtual 197, 3) := by decide +kernel
theorem dX7_all_26 : decode cX7_all 26 = .ok (.goto 4, 3) := by decide +kernel
theorem dX7_all_29 : decode cX7_all 29 = .ok (.iconst (-1), 1) := by decide +kernel
theorem dX7_all_30 : decode cX7_all 30 = .ok (.ireturn, 1) := by decide +kernel
theorem dX7_some_0 : decode cX7_some 0 = .ok (.iload_n 1, 1) := by decide +kernel
theorem dX7_some_1 : decode cX7_some 1 = .ok (.i2l, 1) := by decide +kernel
theorem dX7_some_2 : decode cX7_some 2 = .ok (.lconst 0, 1) := by decide +kernel
theorem dX7_some_3 : decode cX7_some 3 = .ok (.ldc2_w 202, 3) := by decide +kernel
theorem dX7_some_6 : decode cX7_some 6 = .ok (.invokestatic 7, 3) := by decide +kernel
theorem dX7_some_9 : decode cX7_some 9 = .ok (.ifCond .ne 6, 3) := by decide +kernel
theorem dX7_some_12 : decode cX7_some 12 = .ok (.bipush (-2), 2) := by decide +kernel
theorem dX7_some_14 : decode cX7_some 14 = .ok (.ireturn, 1) := by decide +kernel
theorem dX7_some_15 : decode cX7_some 15 = .ok (.iload_n 2, 1) := by decide +kernel
theorem dX7_some_16 : decode cX7_some 16 = .ok (.i2l, 1) := by decide +kernel
theorem dX7_some_17 : decode cX7_some 17 = .ok (.lconst 0, 1) := by decide +kernel
theorem dX7_some_18 : decode cX7_some 18 = .ok (.lconst 1, 1) := by decide +kernel
theorem dX7_some_19 : decode cX7_some 19 = .ok (.invokestatic 7, 3) := by decide +kernel
theorem dX7_some_22 : decode cX7_some 22 = .ok (.ifCond .eq 21, 3) := by decide +kernel
theorem dX7_some_25 : decode cX7_some 25 = .ok (.aload_n 0, 1) := by decide +kernel
theorem dX7_some_26 : decode cX7_some 26 = .ok (.iload_n 1, 1) := by decide +kernel
theorem dX7_some_27 : decode cX7_some 27 = .ok (.iload_n 2, 1) := by decide +kernel
theorem dX7_some_28 : decode cX7_some 28 = .ok (.iconst 1, 1) := by decide +kernel
theorem dX7_some_29 : decode cX7_some 29 = .ok (.if_icmp .ne 7, 3) := by decide +kernel
theorem dX7_some_32 : decode cX7_some 32 = .ok (.iconst 1, 1) := by decide +kernel
theorem dX7_some_33 : decode cX7_some 33 = .ok (.goto 4, 3) := by decide +kernel
theorem dX7_some_36 : decode cX7_some 36 = .ok (.iconst 0, 1) := by decide +kernel
theorem dX7_some_37 : decode cX7_some 37 = .ok (.invokevirtual 197, 3) := by decide +kernel
theorem dX7_some_40 : decode cX7_some 40 = .ok (.goto 4, 3) := by decide +kernel
theorem dX7_some_43 : decode cX7_some 43 = .ok (.iconst (-1), 1) := by decide +kernel
theorem dX7_some_44 : decode cX7_some 44 = .ok (.ireturn, 1) := by decide +kernel
theorem dX7_tried_0 : decode cX7_tried 0 = .ok (.iload_n 1, 1) := by decide +kernel
theorem dX7_tried_1 : decode cX7_tried 1 = .ok (.invokestatic 101, 3) := by decide +kernel
theorem dX7_tried_4 : decode cX7_tried 4 = .ok (.ifCond .eq 10, 3) := by decide +kernel
theorem dX7_tried_7 : decode cX7_tried 7 = .ok (.iload_n 2, 1) := by decide +kernel
theorem dX7_tried_8 : decode cX7_tried 8 = .ok (.invokestatic 108, 3) := by decide +kernel
theorem dX7_tried_11 : decode cX7_tried 11 = .ok (.ifCond .ne 5, 3) := by decide +kernel
theorem dX7_tried_14 : decode cX7_tried 14 = .ok (.iconst (-1), 1) := by decide +kernel
theorem dX7_tried_15 : decode cX7_tried 15 = .ok (.ireturn, 1) := by decide +kernel
theorem dX7_tried_16 : decode cX7_tried 16 = .ok (.iload_n 3, 1) := by decide +kernel
theorem dX7_tried_17 : decode cX7_tried 17 = .ok (.i2l, 1) := by decide +kernel
theorem dX7_tried_18 : decode cX7_tried 18 = .ok (.ldc2_w 111, 3) := by decide +kernel
theorem dX7_tried_21 : decode cX7_tried 21 = .ok (.ldc2_w 113, 3) := by decide +kernel
theorem dX7_tried_24 : decode cX7_tried 24 = .ok (.invokestatic 7, 3) := by decide +kernel
theorem dX7_tried_27 : decode cX7_tried 27 = .ok (.ifCond .ne 6, 3) := by decide +kernel
theorem dX7_tried_30 : decode cX7_tried 30 = .ok (.bipush (-2), 2) := by decide +kernel
theorem dX7_tried_32 : decode cX7_tried 32 = .ok (.ireturn, 1) := by decide +kernel
theorem dX7_tried_33 : decode cX7_tried 33 = .ok (.aload_n 0, 1) := by decide +kernel
theorem dX7_tried_34 : decode cX7_tried 34 = .ok (.getfield 48, 3) := by decide +kernel
theorem dX7_tried_37 : decode cX7_tried 37 = .ok (.aload_n 0, 1) := by decide +kernel
theorem dX7_tried_38 : decode cX7_tried 38 = .ok (.getfield 54, 3) := by decide +kernel
theorem dX7_tried_41 : decode cX7_tried 41 = .ok (.invokestatic 204, 3) := by decide +kernel
theorem dX7_tried_44 : decode cX7_tried 44 = .ok (.iconst 0, 1) := by decide +kernel
theorem dX7_tried_45 : decode cX7_tried 45 = .ok (.istore 4, 2) := by decide +kernel
theorem dX7_tried_47 : decode cX7_tried 47 = .ok (.iload 4, 2) := by decide +kernel
theorem dX7_tried_49 : decode cX7_tried 49 = .ok (.bipush 24, 2) := by decide +kernel
theorem dX7_tried_51 : decode cX7_tried 51 = .ok (.if_icmp .ge 23, 3) := by decide +kernel
theorem dX7_tried_54 : decode cX7_tried 54 = .ok (.aload_n 0, 1) := by decide +kernel
theorem dX7_tried_55 : decode cX7_tried 55 = .ok (.getfield 79, 3) := by decide +kernel
theorem dX7_tried_58 : decode cX7_tried 58 = .ok (.iload 4, 2) := by decide +kernel
theorem dX7_tried_60 : decode cX7_tried 60 = .ok (.aload_n 0, 1) := by decide +kernel
theorem dX7_tried_61 : decode cX7_tried 61 = .ok (.getfield 60, 3) := by decide +kernel
theorem dX7_tried_64 : decode cX7_tried 64 = .ok (.iload 4, 2) := by decide +kernel
theorem dX7_tried_66 : decode cX7_tried 66 = .ok (.baload, 1) := by decide +kernel
theorem dX7_tried_67 : decode cX7_tried 67 = .ok (.bastore, 1) := by decide +kernel
theorem dX7_tried_68 : decode cX7_tried 68 = .ok (.iinc 4 1, 3) := by decide +kernel
theorem dX7_tried_71 : decode cX7_tried 71 = .ok (.goto (-24), 3) := by decide +kernel
theorem dX7_tried_74 : decode cX7_tried 74 = .ok (.iconst 0, 1) := by decide +kernel
theorem dX7_tried_75 : decode cX7_tried 75 = .ok (.istore 4, 2) := by decide +kernel
theorem dX7_tried_77 : decode cX7_tried 77 = .ok (.iload 4, 2) := by decide +kernel
theorem dX7_tried_79 : decode cX7_tried 79 = .ok (.bipush 16, 2) := by decide +kernel
theorem dX7_tried_81 : decode cX7_tried 81 = .ok (.if_icmp .ge 23, 3) := by decide +kernel
theorem dX7_tried_84 : decode cX7_tried 84 = .ok (.aload_n 0, 1) := by decide +kernel
theorem dX7_tried_85 : decode cX7_tried 85 = .ok (.getfield 82, 3) := by decide +kernel
theorem dX7_tried_88 : decode cX7_tried 88 = .ok (.iload 4, 2) := by decide +kernel
theorem dX7_tried_90 : decode cX7_tried 90 = .ok (.aload_n 0, 1) := by decide +kernel
theorem dX7_tried_91 : decode cX7_tried 91 = .ok (.getfield 67, 3) := by decide +kernel
theorem dX7_tried_94 : decode cX7_tried 94 = .ok (.iload 4, 2) := by decide +kernel
theorem dX7_tried_96 : decode cX7_tried 96 = .ok (.iaload, 1) := by decide +kernel
theorem dX7_tried_97 : decode cX7_tried 97 = .ok (.iastore, 1) := by decide +kernel
theorem dX7_tried_98 : decode cX7_tried 98 = .ok (.iinc 4 1, 3) := by decide +kernel
theorem dX7_tried_101 : decode cX7_tried 101 = .ok (.goto (-24), 3) := by decide +kernel
theorem dX7_tried_104 : decode cX7_tried 104 = .ok (.aload_n 0, 1) := by decide +kernel
theorem dX7_tried_105 : decode cX7_tried 105 = .ok (.getfield 144, 3) := by decide +kernel
theorem dX7_tried_108 : decode cX7_tried 108 = .ok (.istore 4, 2) := by decide +kernel
theorem dX7_tried_110 : decode cX7_tried 110 = .ok (.aload_n 0, 1) := by decide +kernel
theorem dX7_tried_111 : decode cX7_tried 111 = .ok (.getfield 70, 3) := by decide +kernel
theorem dX7_tried_114 : decode cX7_tried 114 = .ok (.istore 5, 2) := by decide +kernel
theorem dX7_tried_116 : decode cX7_tried 116 = .ok (.aload_n 0, 1) := by decide +kernel
theorem dX7_tried_117 : decode cX7_tried 117 = .ok (.getfield 178, 3) := by decide +kernel
theorem dX7_tried_120 : decode cX7_tried 120 = .ok (.istore 6, 2) := by decide +kernel
theorem dX7_tried_122 : decode cX7_tried 122 = .ok (.aload_n 0, 1) := by decide +kernel
theorem dX7_tried_123 : decode cX7_tried 123 = .ok (.getfield 184, 3) := by decide +kernel
theorem dX7_tried_126 : decode cX7_tried 126 = .ok (.istore 7, 2) := by decide +kernel
theorem dX7_tried_128 : decode cX7_tried 128 = .ok (.aload_n 0, 1) := by decide +kernel
theorem dX7_tried_129 : decode cX7_tried 129 = .ok (.getfield 153, 3) := by decide +kernel
theorem dX7_tried_132 : decode cX7_tried 132 = .ok (.istore 8, 2) := by decide +kernel
theorem dX7_tried_134 : decode cX7_tried 134 = .ok (.aload_n 0, 1) := by decide +kernel
theorem dX7_tried_135 : decode cX7_tried 135 = .ok (.getfield 162, 3) := by decide +kernel
theorem dX7_tried_138 : decode cX7_tried 138 = .ok (.istore 9, 2) := by decide +kernel
theorem dX7_tried_140 : decode cX7_tried 140 = .ok (.aload_n 0, 1) := by decide +kernel
theorem dX7_tried_141 : decode cX7_tried 141 = .ok (.getfield 48, 3) := by decide +kernel
theorem dX7_tried_144 : decode cX7_tried 144 = .ok (.iload_n 2, 1) := by decide +kernel
theorem dX7_tried_145 : decode cX7_tried 145 = .ok (.iload_n 3, 1) := by decide +kernel
theorem dX7_tried_146 : decode cX7_tried 146 = .ok (.invokestatic 115, 3) := by decide +kernel
theorem dX7_tried_149 : decode cX7_tried 149 = .ok (.iastore, 1) := by decide +kernel
theorem dX7_tried_150 : decode cX7_tried 150 = .ok (.aload_n 0, 1) := by decide +kernel
theorem dX7_tried_151 : decode cX7_tried 151 = .ok (.iconst 1, 1) := by decide +kernel
theorem dX7_tried_152 : decode cX7_tried 152 = .ok (.iload_n 1, 1) := by decide +kernel
theorem dX7_tried_153 : decode cX7_tried 153 = .ok (.bipush 8, 2) := by decide +kernel
theorem dX7_tried_155 : decode cX7_tried 155 = .ok (.isub, 1) := by decide +kernel
theorem dX7_tried_156 : decode cX7_tried 156 = .ok (.ishl, 1) := by decide +kernel
theorem dX7_tried_157 : decode cX7_tried 157 = .ok (.iconst 0, 1) := by decide +kernel
theorem dX7_tried_158 : decode cX7_tried 158 = .ok (.invokevirtual 197, 3) := by decide +kernel
theorem dX7_tried_161 : decode cX7_tried 161 = .ok (.pop, 1) := by decide +kernel
theorem dX7_tried_162 : decode cX7_tried 162 = .ok (.aload_n 0, 1) := by decide +kernel
theorem dX7_tried_163 : decode cX7_tried 163 = .ok (.getfield 178, 3) := by decide +kernel
theorem dX7_tried_166 : decode cX7_tried 166 = .ok (.iload 6, 2) := by decide +kernel
theorem dX7_tried_168 : decode cX7_tried 168 = .ok (.isub, 1) := by decide +kernel
theorem dX7_tried_169 : decode cX7_tried 169 = .ok (.istore 10, 2) := by decide +kernel
theorem dX7_tried_171 : decode cX7_tried 171 = .ok (.aload_n 0, 1) := by decide +kernel
theorem dX7_tried_172 : decode cX7_tried 172 = .ok (.getfield 54, 3) := by decide +kernel
theorem dX7_tried_175 : decode cX7_tried 175 = .ok (.aload_n 0, 1) := by decide +kernel
theorem dX7_tried_176 : decode cX7_tried 176 = .ok (.getfield 48, 3) := by decide +kernel
theorem dX7_tried_179 : decode cX7_tried 179 = .ok (.invokestatic 204, 3) := by decide +kernel
theorem dX7_tried_182 : decode cX7_tried 182 = .ok (.iconst 0, 1) := by decide +kernel
theorem dX7_tried_183 : decode cX7_tried 183 = .ok (.istore 11, 2) := by decide +kernel
theorem dX7_tried_185 : decode cX7_tried 185 = .ok (.iload 11, 2) := by decide +kernel
theorem dX7_tried_187 : decode cX7_tried 187 = .ok (.bipush 24, 2) := by decide +kernel
theorem dX7_tried_189 : decode cX7_tried 189 = .ok (.if_icmp .ge 23, 3) := by decide +kernel
theorem dX7_tried_192 : decode cX7_tried 192 = .ok (.aload_n 0, 1) := by decide +kernel
theorem dX7_tried_193 : decode cX7_tried 193 = .ok (.getfield 60, 3) := by decide +kernel
theorem dX7_tried_196 : decode cX7_tried 196 = .ok (.iload 11, 2) := by decide +kernel
theorem dX7_tried_198 : decode cX7_tried 198 = .ok (.aload_n 0, 1) := by decide +kernel
theorem dX7_tried_199 : decode cX7_tried 199 = .ok (.getfield 79, 3) := by decide +kernel
theorem dX7_tried_202 : decode cX7_tried 202 = .ok (.iload 11, 2) := by decide +kernel
theorem dX7_tried_204 : decode cX7_tried 204 = .ok (.baload, 1) := by decide +kernel
theorem dX7_tried_205 : decode cX7_tried 205 = .ok (.bastore, 1) := by decide +kernel
theorem dX7_tried_206 : decode cX7_tried 206 = .ok (.iinc 11 1, 3) := by decide +kernel
theorem dX7_tried_209 : decode cX7_tried 209 = .ok (.goto (-24), 3) := by decide +kernel
theorem dX7_tried_212 : decode cX7_tried 212 = .ok (.iconst 0, 1) := by decide +kernel
theorem dX7_tried_213 : decode cX7_tried 213 = .ok (.istore 11, 2) := by decide +kernel
theorem dX7_tried_215 : decode cX7_tried 215 = .ok (.iload 11, 2) := by decide +kernel
theorem dX7_tried_217 : decode cX7_tried 217 = .ok (.bipush 16, 2) := by decide +kernel
theorem dX7_tried_219 : decode cX7_tried 219 = .ok (.if_icmp .ge 23, 3) := by decide +kernel
theorem dX7_tried_222 : decode cX7_tried 222 = .ok (.aload_n 0, 1) := by decide +kernel
theorem dX7_tried_223 : decode cX7_tried 223 = .ok (.getfield 67, 3) := by decide +kernel
theorem dX7_tried_226 : decode cX7_tried 226 = .ok (.iload 11, 2) := by decide +kernel
theorem dX7_tried_228 : decode cX7_tried 228 = .ok (.aload_n 0, 1) := by decide +kernel
theorem dX7_tried_229 : decode cX7_tried 229 = .ok (.getfield 82, 3) := by decide +kernel
theorem dX7_tried_232 : decode cX7_tried 232 = .ok (.iload 11, 2) := by decide +kernel
theorem dX7_tried_234 : decode cX7_tried 234 = .ok (.iaload, 1) := by decide +kernel
theorem dX7_tried_235 : decode cX7_tried 235 = .ok (.iastore, 1) := by decide +kernel
theorem dX7_tried_236 : decode cX7_tried 236 = .ok (.iinc 11 1, 3) := by decide +kernel
theorem dX7_tried_239 : decode cX7_tried 239 = .ok (.goto (-24), 3) := by decide +kernel
theorem dX7_tried_242 : decode cX7_tried 242 = .ok (.aload_n 0, 1) := by decide +kernel
theorem dX7_tried_243 : decode cX7_tried 243 = .ok (.iload 4, 2) := by decide +kernel
theorem dX7_tried_245 : decode cX7_tried 245 = .ok (.putfield 144, 3) := by decide +kernel
theorem dX7_tried_248 : decode cX7_tried 248 = .ok (.aload_n 0, 1) := by decide +kernel
theorem dX7_tried_249 : decode cX7_tried 249 = .ok (.iload 5, 2) := by decide +kernel
theorem dX7_tried_251 : decode cX7_tried 251 = .ok (.putfield 70, 3) := by decide +kernel
theorem dX7_tried_254 : decode cX7_tried 254 = .ok (.aload_n 0, 1) := by decide +kernel
theorem dX7_tried_255 : decode cX7_tried 255 = .ok (.iload 6, 2) := by decide +kernel
theorem dX7_tried_257 : decode cX7_tried 257 = .ok (.putfield 178, 3) := by decide +kernel
theorem dX7_tried_260 : decode cX7_tried 260 = .ok (.aload_n 0, 1) := by decide +kernel
theorem dX7_tried_261 : decode cX7_tried 261 = .ok (.iload 7, 2) := by decide +kernel
theorem dX7_tried_263 : decode cX7_tried 263 = .ok (.putfield 184, 3) := by decide +kernel
theorem dX7_tried_266 : decode cX7_tried 266 = .ok (.aload_n 0, 1) := by decide +kernel
theorem dX7_tried_267 : decode cX7_tried 267 = .ok (.iload 8, 2) := by decide +kernel
theorem dX7_tried_269 : decode cX7_tried 269 = .ok (.putfield 153, 3) := by decide +kernel
theorem dX7_tried_272 : decode cX7_tried 272 = .ok (.aload_n 0, 1) := by decide +kernel
theorem dX7_tried_273 : decode cX7_tried 273 = .ok (.iload 9, 2) := by decide +kernel
theorem dX7_tried_275 : decode cX7_tried 275 = .ok (.putfield 162, 3) := by decide +kernel
theorem dX7_tried_278 : decode cX7_tried 278 = .ok (.iload 10, 2) := by decide +kernel
theorem dX7_tried_280 : decode cX7_tried 280 = .ok (.ireturn, 1) := by decide +kernel
theorem dX7_result_0 : decode cX7_result 0 = .ok (.iload_n 1, 1) := by decide +kernel
theorem dX7_result_1 : decode cX7_result 1 = .ok (.invokestatic 208, 3) := by decide +kernel
theorem dX7_result_4 : decode cX7_result 4 = .ok (.ifCond .eq 15, 3) := by decide +kernel
theorem dX7_result_7 : decode cX7_result 7 = .ok (.aload_n 0, 1) := by decide +kernel
theorem dX7_result_8 : decode cX7_result 8 = .ok (.aload_n 0, 1) := by decide +kernel
theorem dX7_result_9 : decode cX7_result 9 = .ok (.iload_n 1, 1) := by decide +kernel
theorem dX7_result_10 : decode cX7_result 10 = .ok (.invokevirtual 156, 3) := by decide +kernel
theorem dX7_result_13 : decode cX7_result 13 = .ok (.invokevirtual 211, 3) := by decide +kernel
theorem dX7_result_16 : decode cX7_result 16 = .ok (.goto 4, 3) := by decide +kernel
theorem dX7_result_19 : decode cX7_result 19 = .ok (.iconst (-1), 1) := by decide +kernel
theorem dX7_result_20 : decode cX7_result 20 = .ok (.ireturn, 1) := by decide +kernel
theorem dX7_causeOf_0 : decode cX7_causeOf 0 = .ok (.iload_n 1, 1) := by decide +kernel
theorem dX7_causeOf_1 : decode cX7_causeOf 1 = .ok (.invokestatic 34, 3) := by decide +kernel
theorem dX7_causeOf_4 : decode cX7_causeOf 4 = .ok (.ifCond .eq 7, 3) := by decide +kernel
theorem dX7_causeOf_7 : decode cX7_causeOf 7 = .ok (.iload_n 1, 1) := by decide +kernel
theorem dX7_causeOf_8 : decode cX7_causeOf 8 = .ok (.goto 4, 3) := by decide +kernel
theorem dX7_causeOf_11 : decode cX7_causeOf 11 = .ok (.iconst (-1), 1) := by decide +kernel
theorem dX7_causeOf_12 : decode cX7_causeOf 12 = .ok (.istore_n 3, 1) := by decide +kernel
theorem dX7_causeOf_13 : decode cX7_causeOf 13 = .ok (.iconst 0, 1) := by decide +kernel
theorem dX7_causeOf_14 : decode cX7_causeOf 14 = .ok (.istore 4, 2) := by decide +kernel
theorem dX7_causeOf_16 : decode cX7_causeOf 16 = .ok (.iload 4, 2) := by decide +kernel
theorem dX7_causeOf_18 : decode cX7_causeOf 18 = .ok (.iload_n 2, 1) := by decide +kernel
theorem dX7_causeOf_19 : decode cX7_causeOf 19 = .ok (.if_icmp .ge 22, 3) := by decide +kernel
theorem dX7_causeOf_22 : decode cX7_causeOf 22 = .ok (.iload_n 3, 1) := by decide +kernel
theorem dX7_causeOf_23 : decode cX7_causeOf 23 = .ok (.ifCond .lt 18, 3) := by decide +kernel
theorem dX7_causeOf_26 : decode cX7_causeOf 26 = .ok (.aload_n 0, 1) := by decide +kernel
theorem dX7_causeOf_27 : decode cX7_causeOf 27 = .ok (.getfield 30, 3) := by decide +kernel
theorem dX7_causeOf_30 : decode cX7_causeOf 30 = .ok (.iload_n 3, 1) := by decide +kernel
theorem dX7_causeOf_31 : decode cX7_causeOf 31 = .ok (.iconst 2, 1) := by decide +kernel
theorem dX7_causeOf_32 : decode cX7_causeOf 32 = .ok (.idiv, 1) := by decide +kernel
theorem dX7_causeOf_33 : decode cX7_causeOf 33 = .ok (.iaload, 1) := by decide +kernel
theorem dX7_causeOf_34 : decode cX7_causeOf 34 = .ok (.istore_n 3, 1) := by decide +kernel
theorem dX7_causeOf_35 : decode cX7_causeOf 35 = .ok (.iinc 4 1, 3) := by decide +kernel
theorem dX7_causeOf_38 : decode cX7_causeOf 38 = .ok (.goto (-22), 3) := by decide +kernel
theorem dX7_causeOf_41 : decode cX7_causeOf 41 = .ok (.iload_n 3, 1) := by decide +kernel
theorem dX7_causeOf_42 : decode cX7_causeOf 42 = .ok (.ireturn, 1) := by decide +kernel
theorem dX7_failure_0 : decode cX7_failure 0 = .ok (.iload_n 1, 1) := by decide +kernel
theorem dX7_failure_1 : decode cX7_failure 1 = .ok (.invokestatic 101, 3) := by decide +kernel
theorem dX7_failure_4 : decode cX7_failure 4 = .ok (.ifCond .eq 15, 3) := by decide +kernel
theorem dX7_failure_7 : decode cX7_failure 7 = .ok (.iload_n 3, 1) := by decide +kernel
theorem dX7_failure_8 : decode cX7_failure 8 = .ok (.i2l, 1) := by decide +kernel
theorem dX7_failure_9 : decode cX7_failure 9 = .ok (.lconst 0, 1) := by decide +kernel
theorem dX7_failure_10 : decode cX7_failure 10 = .ok (.ldc2_w 214, 3) := by decide +kernel
theorem dX7_failure_13 : decode cX7_failure 13 = .ok (.invokestatic 7, 3) := by decide +kernel
theorem dX7_failure_16 : decode cX7_failure 16 = .ok (.ifCond .ne 5, 3) := by decide +kernel
theorem dX7_failure_19 : decode cX7_failure 19 = .ok (.iconst (-1), 1) := by decide +kernel
theorem dX7_failure_20 : decode cX7_failure 20 = .ok (.ireturn, 1) := by decide +kernel
theorem dX7_failure_21 : decode cX7_failure 21 = .ok (.iload_n 2, 1) := by decide +kernel
theorem dX7_failure_22 : decode cX7_failure 22 = .ok (.ifCond .ge 7, 3) := by decide +kernel
theorem dX7_failure_25 : decode cX7_failure 25 = .ok (.iconst (-1), 1) := by decide +kernel
theorem dX7_failure_26 : decode cX7_failure 26 = .ok (.goto 13, 3) := by decide +kernel
theorem dX7_failure_29 : decode cX7_failure 29 = .ok (.aload_n 0, 1) := by decide +kernel
theorem dX7_failure_30 : decode cX7_failure 30 = .ok (.aload_n 0, 1) := by decide +kernel
theorem dX7_failure_31 : decode cX7_failure 31 = .ok (.iload_n 1, 1) := by decide +kernel
theorem dX7_failure_32 : decode cX7_failure 32 = .ok (.invokevirtual 156, 3) := by decide +kernel
theorem dX7_failure_35 : decode cX7_failure 35 = .ok (.iload_n 2, 1) := by decide +kernel
theorem dX7_failure_36 : decode cX7_failure 36 = .ok (.invokevirtual 216, 3) := by decide +kernel
theorem dX7_failure_39 : decode cX7_failure 39 = .ok (.istore 4, 2) := by decide +kernel
theorem dX7_failure_41 : decode cX7_failure 41 = .ok (.iload 4, 2) := by decide +kernel
theorem dX7_failure_43 : decode cX7_failure 43 = .ok (.ifCond .ge 6, 3) := by decide +kernel
theorem dX7_failure_46 : decode cX7_failure 46 = .ok (.bipush (-3), 2) := by decide +kernel
theorem dX7_failure_48 : decode cX7_failure 48 = .ok (.ireturn, 1) := by decide +kernel
theorem dX7_failure_49 : decode cX7_failure 49 = .ok (.iload_n 3, 1) := by decide +kernel
theorem dX7_failure_50 : decode cX7_failure 50 = .ok (.ifCond .ne 15, 3) := by decide +kernel
theorem dX7_failure_53 : decode cX7_failure 53 = .ok (.aload_n 0, 1) := by decide +kernel
theorem dX7_failure_54 : decode cX7_failure 54 = .ok (.getfield 20, 3) := by decide +kernel
theorem dX7_failure_57 : decode cX7_failure 57 = .ok (.iload 4, 2) := by decide +kernel
theorem dX7_failure_59 : decode cX7_failure 59 = .ok (.iconst 2, 1) := by decide +kernel
theorem dX7_failure_60 : decode cX7_failure 60 = .ok (.idiv, 1) := by decide +kernel
theorem dX7_failure_61 : decode cX7_failure 61 = .ok (.iaload, 1) := by decide +kernel
theorem dX7_failure_62 : decode cX7_failure 62 = .ok (.goto 29, 3) := by decide +kernel
theorem dX7_failure_65 : decode cX7_failure 65 = .ok (.iload_n 3, 1) := by decide +kernel
theorem dX7_failure_66 : decode cX7_failure 66 = .ok (.iconst 1, 1) := by decide +kernel
theorem dX7_failure_67 : decode cX7_failure 67 = .ok (.if_icmp .ne 15, 3) := by decide +kernel
theorem dX7_failure_70 : decode cX7_failure 70 = .ok (.aload_n 0, 1) := by decide +kernel
theorem dX7_failure_71 : decode cX7_failure 71 = .ok (.getfield 24, 3) := by decide +kernel
theorem dX7_failure_74 : decode cX7_failure 74 = .ok (.iload 4, 2) := by decide +kernel
theorem dX7_failure_76 : decode cX7_failure 76 = .ok (.iconst 2, 1) := by decide +kernel
theorem dX7_failure_77 : decode cX7_failure 77 = .ok (.idiv, 1) := by decide +kernel
theorem dX7_failure_78 : decode cX7_failure 78 = .ok (.iaload, 1) := by decide +kernel
theorem dX7_failure_79 : decode cX7_failure 79 = .ok (.goto 12, 3) := by decide +kernel
theorem dX7_failure_82 : decode cX7_failure 82 = .ok (.aload_n 0, 1) := by decide +kernel
theorem dX7_failure_83 : decode cX7_failure 83 = .ok (.getfield 27, 3) := by decide +kernel
theorem dX7_failure_86 : decode cX7_failure 86 = .ok (.iload 4, 2) := by decide +kernel
theorem dX7_failure_88 : decode cX7_failure 88 = .ok (.iconst 2, 1) := by decide +kernel
theorem dX7_failure_89 : decode cX7_failure 89 = .ok (.idiv, 1) := by decide +kernel
theorem dX7_failure_90 : decode cX7_failure 90 = .ok (.iaload, 1) := by decide +kernel
theorem dX7_failure_91 : decode cX7_failure 91 = .ok (.ireturn, 1) := by decide +kernel
theorem dX7_causes_0 : decode cX7_causes 0 = .ok (.iload_n 1, 1) := by decide +kernel
theorem dX7_causes_1 : decode cX7_causes 1 = .ok (.invokestatic 101, 3) := by decide +kernel
theorem dX7_causes_4 : decode cX7_causes 4 = .ok (.ifCond .ne 5, 3) := by decide +kernel
theorem dX7_causes_7 : decode cX7_causes 7 = .ok (.iconst (-1), 1) := by decide +kernel
theorem dX7_causes_8 : decode cX7_causes 8 = .ok (.ireturn, 1) := by decide +kernel
theorem dX7_causes_9 : decode cX7_causes 9 = .ok (.bipush (-5), 2) := by decide +kernel
theorem dX7_causes_11 : decode cX7_causes 11 = .ok (.istore_n 2, 1) := by decide +kernel
theorem dX7_causes_12 : decode cX7_causes 12 = .ok (.aload_n 0, 1) := by decide +kernel
theorem dX7_causes_13 : decode cX7_causes 13 = .ok (.aload_n 0, 1) := by decide +kernel
theorem dX7_causes_14 : decode cX7_causes 14 = .ok (.iload_n 1, 1) := by decide +kernel
theorem dX7_causes_15 : decode cX7_causes 15 = .ok (.invokevirtual 156, 3) := by decide +kernel
theorem dX7_causes_18 : decode cX7_causes 18 = .ok (.iconst 0, 1) := by decide +kernel
theorem dX7_causes_19 : decode cX7_causes 19 = .ok (.invokevirtual 216, 3) := by decide +kernel
theorem dX7_causes_22 : decode cX7_causes 22 = .ok (.istore_n 3, 1) := by decide +kernel
theorem dX7_causes_23 : decode cX7_causes 23 = .ok (.iload_n 3, 1) := by decide +kernel
theorem dX7_causes_24 : decode cX7_causes 24 = .ok (.ifCond .lt 27, 3) := by decide +kernel
theorem dX7_causes_27 : decode cX7_causes 27 = .ok (.iload_n 2, 1) := by decide +kernel
theorem dX7_causes_28 : decode cX7_causes 28 = .ok (.ifCond .ge 7, 3) := by decide +kernel
theorem dX7_causes_31 : decode cX7_causes 31 = .ok (.iconst 0, 1) := by decide +kernel
theorem dX7_causes_32 : decode cX7_causes 32 = .ok (.goto 6, 3) := by decide +kernel
theorem dX7_causes_35 : decode cX7_causes 35 = .ok (.iload_n 2, 1) := by decide +kernel
theorem dX7_causes_36 : decode cX7_causes 36 = .ok (.iconst 1, 1) := by decide +kernel
theorem dX7_causes_37 : decode cX7_causes 37 = .ok (.iadd, 1) := by decide +kernel
theorem dX7_causes_38 : decode cX7_causes 38 = .ok (.istore_n 2, 1) := by decide +kernel
theorem dX7_causes_39 : decode cX7_causes 39 = .ok (.aload_n 0, 1) := by decide +kernel
theorem dX7_causes_40 : decode cX7_causes 40 = .ok (.getfield 30, 3) := by decide +kernel
theorem dX7_causes_43 : decode cX7_causes 43 = .ok (.iload_n 3, 1) := by decide +kernel
theorem dX7_causes_44 : decode cX7_causes 44 = .ok (.iconst 2, 1) := by decide +kernel
theorem dX7_causes_45 : decode cX7_causes 45 = .ok (.idiv, 1) := by decide +kernel
theorem dX7_causes_46 : decode cX7_causes 46 = .ok (.iaload, 1) := by decide +kernel
theorem dX7_causes_47 : decode cX7_causes 47 = .ok (.istore_n 3, 1) := by decide +kernel
theorem dX7_causes_48 : decode cX7_causes 48 = .ok (.goto (-25), 3) := by decide +kernel
theorem dX7_causes_51 : decode cX7_causes 51 = .ok (.iload_n 2, 1) := by decide +kernel
theorem dX7_causes_52 : decode cX7_causes 52 = .ok (.ireturn, 1) := by decide +kernel
theorem dX7_root_0 : decode cX7_root 0 = .ok (.iload_n 1, 1) := by decide +kernel
theorem dX7_root_1 : decode cX7_root 1 = .ok (.invokestatic 101, 3) := by decide +kernel
theorem dX7_root_4 : decode cX7_root 4 = .ok (.ifCond .ne 5, 3) := by decide +kernel
theorem dX7_root_7 : decode cX7_root 7 = .ok (.iconst (-1), 1) := by decide +kernel
theorem dX7_root_8 : decode cX7_root 8 = .ok (.ireturn, 1) := by decide +kernel
theorem dX7_root_9 : decode cX7_root 9 = .ok (.bipush (-5), 2) := by decide +kernel
theorem dX7_root_11 : decode cX7_root 11 = .ok (.istore_n 2, 1) := by decide +kernel
theorem dX7_root_12 : decode cX7_root 12 = .ok (.aload_n 0, 1) := by decide +kernel
theorem dX7_root_13 : decode cX7_root 13 = .ok (.aload_n 0, 1) := by decide +kernel
theorem dX7_root_14 : decode cX7_root 14 = .ok (.iload_n 1, 1) := by decide +kernel
theorem dX7_root_15 : decode cX7_root 15 = .ok (.invokevirtual 156, 3) := by decide +kernel
theorem dX7_root_18 : decode cX7_root 18 = .ok (.iconst 0, 1) := by decide +kernel
theorem dX7_root_19 : decode cX7_root 19 = .ok (.invokevirtual 216, 3) := by decide +kernel
theorem dX7_root_22 : decode cX7_root 22 = .ok (.istore_n 3, 1) := by decide +kernel
theorem dX7_root_23 : decode cX7_root 23 = .ok (.iload_n 3, 1) := by decide +kernel
theorem dX7_root_24 : decode cX7_root 24 = .ok (.ifCond .lt 24, 3) := by decide +kernel
theorem dX7_root_27 : decode cX7_root 27 = .ok (.aload_n 0, 1) := by decide +kernel
theorem dX7_root_28 : decode cX7_root 28 = .ok (.getfield 20, 3) := by decide +kernel
theorem dX7_root_31 : decode cX7_root 31 = .ok (.iload_n 3, 1) := by decide +kernel
theorem dX7_root_32 : decode cX7_root 32 = .ok (.iconst 2, 1) := by decide +kernel
theorem dX7_root_33 : decode cX7_root 33 = .ok (.idiv, 1) := by decide +kernel
theorem dX7_root_34 : decode cX7_root 34 = .ok (.iaload, 1) := by decide +kernel
theorem dX7_root_35 : decode cX7_root 35 = .ok (.istore_n 2, 1) := by decide +kernel
theorem dX7_root_36 : decode cX7_root 36 = .ok (.aload_n 0, 1) := by decide +kernel
theorem dX7_root_37 : decode cX7_root 37 = .ok (.getfield 30, 3) := by decide +kernel
theorem dX7_root_40 : decode cX7_root 40 = .ok (.iload_n 3, 1) := by decide +kernel
theorem dX7_root_41 : decode cX7_root 41 = .ok (.iconst 2, 1) := by decide +kernel
theorem dX7_root_42 : decode cX7_root 42 = .ok (.idiv, 1) := by decide +kernel
theorem dX7_root_43 : decode cX7_root 43 = .ok (.iaload, 1) := by decide +kernel
theorem dX7_root_44 : decode cX7_root 44 = .ok (.istore_n 3, 1) := by decide +kernel
theorem dX7_root_45 : decode cX7_root 45 = .ok (.goto (-22), 3) := by decide +kernel
theorem dX7_root_48 : decode cX7_root 48 = .ok (.iload_n 2, 1) := by decide +kernel
theorem dX7_root_49 : decode cX7_root 49 = .ok (.ireturn, 1) := by decide +kernel
theorem dX7_blamed_0 : decode cX7_blamed 0 = .ok (.iload_n 1, 1) := by decide +kernel
theorem dX7_blamed_1 : decode cX7_blamed 1 = .ok (.invokestatic 208, 3) := by decide +kernel
theorem dX7_blamed_4 : decode cX7_blamed 4 = .ok (.ifCond .ne 5, 3) := by decide +kernel
theorem dX7_blamed_7 : decode cX7_blamed 7 = .ok (.iconst (-1), 1) := by decide +kernel
theorem dX7_blamed_8 : decode cX7_blamed 8 = .ok (.ireturn, 1) := by decide +kernel
theorem dX7_blamed_9 : decode cX7_blamed 9 = .ok (.iconst 0, 1) := by decide +kernel
theorem dX7_blamed_10 : decode cX7_blamed 10 = .ok (.istore_n 2, 1) := by decide +kernel
theorem dX7_blamed_11 : decode cX7_blamed 11 = .ok (.iconst 0, 1) := by decide +kernel
theorem dX7_blamed_12 : decode cX7_blamed 12 = .ok (.istore_n 3, 1) := by decide +kernel
theorem dX7_blamed_13 : decode cX7_blamed 13 = .ok (.iload_n 3, 1) := by decide +kernel
theorem dX7_blamed_14 : decode cX7_blamed 14 = .ok (.bipush 16, 2) := by decide +kernel
theorem dX7_blamed_16 : decode cX7_blamed 16 = .ok (.if_icmp .ge 66, 3) := by decide +kernel
theorem dX7_blamed_19 : decode cX7_blamed 19 = .ok (.aload_n 0, 1) := by decide +kernel
theorem dX7_blamed_20 : decode cX7_blamed 20 = .ok (.aload_n 0, 1) := by decide +kernel
theorem dX7_blamed_21 : decode cX7_blamed 21 = .ok (.bipush 8, 2) := by decide +kernel
theorem dX7_blamed_23 : decode cX7_blamed 23 = .ok (.iload_n 3, 1) := by decide +kernel
theorem dX7_blamed_24 : decode cX7_blamed 24 = .ok (.iadd, 1) := by decide +kernel
theorem dX7_blamed_25 : decode cX7_blamed 25 = .ok (.invokevirtual 156, 3) := by decide +kernel
theorem dX7_blamed_28 : decode cX7_blamed 28 = .ok (.iconst 0, 1) := by decide +kernel
theorem dX7_blamed_29 : decode cX7_blamed 29 = .ok (.invokevirtual 216, 3) := by decide +kernel
theorem dX7_blamed_32 : decode cX7_blamed 32 = .ok (.istore 4, 2) := by decide +kernel
theorem dX7_blamed_34 : decode cX7_blamed 34 = .ok (.iload 4, 2) := by decide +kernel
theorem dX7_blamed_36 : decode cX7_blamed 36 = .ok (.ifCond .lt 40, 3) := by decide +kernel
theorem dX7_blamed_39 : decode cX7_blamed 39 = .ok (.iload_n 2, 1) := by decide +kernel
theorem dX7_blamed_40 : decode cX7_blamed 40 = .ok (.aload_n 0, 1) := by decide +kernel
theorem dX7_blamed_41 : decode cX7_blamed 41 = .ok (.getfield 20, 3) := by decide +kernel
theorem dX7_blamed_44 : decode cX7_blamed 44 = .ok (.iload 4, 2) := by decide +kernel
theorem dX7_blamed_46 : decode cX7_blamed 46 = .ok (.iconst 2, 1) := by decide +kernel
theorem dX7_blamed_47 : decode cX7_blamed 47 = .ok (.idiv, 1) := by decide +kernel
theorem dX7_blamed_48 : decode cX7_blamed 48 = .ok (.iaload, 1) := by decide +kernel
theorem dX7_blamed_49 : decode cX7_blamed 49 = .ok (.iload_n 1, 1) := by decide +kernel
theorem dX7_blamed_50 : decode cX7_blamed 50 = .ok (.if_icmp .ne 9, 3) := by decide +kernel
theorem dX7_blamed_53 : decode cX7_blamed 53 = .ok (.iconst 1, 1) := by decide +kernel
theorem dX7_blamed_54 : decode cX7_blamed 54 = .ok (.iload_n 3, 1) := by decide +kernel
theorem dX7_blamed_55 : decode cX7_blamed 55 = .ok (.ishl, 1) := by decide +kernel
theorem dX7_blamed_56 : decode cX7_blamed 56 = .ok (.goto 4, 3) := by decide +kernel
theorem dX7_blamed_59 : decode cX7_blamed 59 = .ok (.iconst 0, 1) := by decide +kernel
theorem dX7_blamed_60 : decode cX7_blamed 60 = .ok (.ior, 1) := by decide +kernel
theorem dX7_blamed_61 : decode cX7_blamed 61 = .ok (.istore_n 2, 1) := by decide +kernel
theorem dX7_blamed_62 : decode cX7_blamed 62 = .ok (.aload_n 0, 1) := by decide +kernel
theorem dX7_blamed_63 : decode cX7_blamed 63 = .ok (.getfield 30, 3) := by decide +kernel
theorem dX7_blamed_66 : decode cX7_blamed 66 = .ok (.iload 4, 2) := by decide +kernel
theorem dX7_blamed_68 : decode cX7_blamed 68 = .ok (.iconst 2, 1) := by decide +kernel
theorem dX7_blamed_69 : decode cX7_blamed 69 = .ok (.idiv, 1) := by decide +kernel
theorem dX7_blamed_70 : decode cX7_blamed 70 = .ok (.iaload, 1) := by decide +kernel
theorem dX7_blamed_71 : decode cX7_blamed 71 = .ok (.istore 4, 2) := by decide +kernel
theorem dX7_blamed_73 : decode cX7_blamed 73 = .ok (.goto (-39), 3) := by decide +kernel
theorem dX7_blamed_76 : decode cX7_blamed 76 = .ok (.iinc 3 1, 3) := by decide +kernel
theorem dX7_blamed_79 : decode cX7_blamed 79 = .ok (.goto (-66), 3) := by decide +kernel
theorem dX7_blamed_82 : decode cX7_blamed 82 = .ok (.iload_n 2, 1) := by decide +kernel
theorem dX7_blamed_83 : decode cX7_blamed 83 = .ok (.ireturn, 1) := by decide +kernel
theorem dX7_amiss_0 : decode cX7_amiss 0 = .ok (.iload_n 1, 1) := by decide +kernel
theorem dX7_amiss_1 : decode cX7_amiss 1 = .ok (.invokestatic 101, 3) := by decide +kernel
theorem dX7_amiss_4 : decode cX7_amiss 4 = .ok (.ifCond .ne 5, 3) := by decide +kernel
theorem dX7_amiss_7 : decode cX7_amiss 7 = .ok (.iconst (-1), 1) := by decide +kernel
theorem dX7_amiss_8 : decode cX7_amiss 8 = .ok (.ireturn, 1) := by decide +kernel
theorem dX7_amiss_9 : decode cX7_amiss 9 = .ok (.iload_n 2, 1) := by decide +kernel
theorem dX7_amiss_10 : decode cX7_amiss 10 = .ok (.ifCond .ge 7, 3) := by decide +kernel
theorem dX7_amiss_13 : decode cX7_amiss 13 = .ok (.iconst (-1), 1) := by decide +kernel
theorem dX7_amiss_14 : decode cX7_amiss 14 = .ok (.goto 38, 3) := by decide +kernel
theorem dX7_amiss_17 : decode cX7_amiss 17 = .ok (.aload_n 0, 1) := by decide +kernel
theorem dX7_amiss_18 : decode cX7_amiss 18 = .ok (.iload_n 1, 1) := by decide +kernel
theorem dX7_amiss_19 : decode cX7_amiss 19 = .ok (.invokevirtual 147, 3) := by decide +kernel
theorem dX7_amiss_22 : decode cX7_amiss 22 = .ok (.ifCond .ge 8, 3) := by decide +kernel
theorem dX7_amiss_25 : decode cX7_amiss 25 = .ok (.bipush (-3), 2) := by decide +kernel
theorem dX7_amiss_27 : decode cX7_amiss 27 = .ok (.goto 25, 3) := by decide +kernel
theorem dX7_amiss_30 : decode cX7_amiss 30 = .ok (.iload_n 2, 1) := by decide +kernel
theorem dX7_amiss_31 : decode cX7_amiss 31 = .ok (.i2l, 1) := by decide +kernel
theorem dX7_amiss_32 : decode cX7_amiss 32 = .ok (.lconst 0, 1) := by decide +kernel
theorem dX7_amiss_33 : decode cX7_amiss 33 = .ok (.aload_n 0, 1) := by decide +kernel
theorem dX7_amiss_34 : decode cX7_amiss 34 = .ok (.iload_n 1, 1) := by decide +kernel
theorem dX7_amiss_35 : decode cX7_amiss 35 = .ok (.invokevirtual 147, 3) := by decide +kernel
theorem dX7_amiss_38 : decode cX7_amiss 38 = .ok (.iconst 1, 1) := by decide +kernel
theorem dX7_amiss_39 : decode cX7_amiss 39 = .ok (.isub, 1) := by decide +kernel
theorem dX7_amiss_40 : decode cX7_amiss 40 = .ok (.i2l, 1) := by decide +kernel
theorem dX7_amiss_41 : decode cX7_amiss 41 = .ok (.invokestatic 7, 3) := by decide +kernel
theorem dX7_amiss_44 : decode cX7_amiss 44 = .ok (.ifCond .eq 7, 3) := by decide +kernel
theorem dX7_amiss_47 : decode cX7_amiss 47 = .ok (.iconst 0, 1) := by decide +kernel
theorem dX7_amiss_48 : decode cX7_amiss 48 = .ok (.goto 4, 3) := by decide +kernel
theorem dX7_amiss_51 : decode cX7_amiss 51 = .ok (.iconst (-1), 1) := by decide +kernel
theorem dX7_amiss_52 : decode cX7_amiss 52 = .ok (.ireturn, 1) := by decide +kernel
theorem dX7_trace_0 : decode cX7_trace 0 = .ok (.aload_n 0, 1) := by decide +kernel
theorem dX7_trace_1 : decode cX7_trace 1 = .ok (.iload_n 1, 1) := by decide +kernel
theorem dX7_trace_2 : decode cX7_trace 2 = .ok (.iload_n 2, 1) := by decide +kernel
theorem dX7_trace_3 : decode cX7_trace 3 = .ok (.invokevirtual 219, 3) := by decide +kernel
theorem dX7_trace_6 : decode cX7_trace 6 = .ok (.istore_n 3, 1) := by decide +kernel
theorem dX7_trace_7 : decode cX7_trace 7 = .ok (.iload_n 3, 1) := by decide +kernel
theorem dX7_trace_8 : decode cX7_trace 8 = .ok (.iconst (-1), 1) := by decide +kernel
theorem dX7_trace_9 : decode cX7_trace 9 = .ok (.if_icmp .ne 34, 3) := by decide +kernel
theorem dX7_trace_12 : decode cX7_trace 12 = .ok (.iload_n 2, 1) := by decide +kernel
theorem dX7_trace_13 : decode cX7_trace 13 = .ok (.iconst (-1), 1) := by decide +kernel
theorem dX7_trace_14 : decode cX7_trace 14 = .ok (.if_icmp .ne 29, 3) := by decide +kernel
theorem dX7_trace_17 : decode cX7_trace 17 = .ok (.iload_n 1, 1) := by decide +kernel
theorem dX7_trace_18 : decode cX7_trace 18 = .ok (.invokestatic 101, 3) := by decide +kernel
theorem dX7_trace_21 : decode cX7_trace 21 = .ok (.ifCond .eq 22, 3) := by decide +kernel
theorem dX7_trace_24 : decode cX7_trace 24 = .ok (.aload_n 0, 1) := by decide +kernel
theorem dX7_trace_25 : decode cX7_trace 25 = .ok (.iload_n 1, 1) := by decide +kernel
theorem dX7_trace_26 : decode cX7_trace 26 = .ok (.invokevirtual 147, 3) := by decide +kernel
theorem dX7_trace_29 : decode cX7_trace 29 = .ok (.ifCond .ge 8, 3) := by decide +kernel
theorem dX7_trace_32 : decode cX7_trace 32 = .ok (.bipush (-3), 2) := by decide +kernel
theorem dX7_trace_34 : decode cX7_trace 34 = .ok (.goto 8, 3) := by decide +kernel
theorem dX7_trace_37 : decode cX7_trace 37 = .ok (.aload_n 0, 1) := by decide +kernel
theorem dX7_trace_38 : decode cX7_trace 38 = .ok (.iload_n 1, 1) := by decide +kernel
theorem dX7_trace_39 : decode cX7_trace 39 = .ok (.invokevirtual 147, 3) := by decide +kernel
theorem dX7_trace_42 : decode cX7_trace 42 = .ok (.ireturn, 1) := by decide +kernel
theorem dX7_trace_43 : decode cX7_trace 43 = .ok (.iload_n 3, 1) := by decide +kernel
theorem dX7_trace_44 : decode cX7_trace 44 = .ok (.ifCond .eq 7, 3) := by decide +kernel
theorem dX7_trace_47 : decode cX7_trace 47 = .ok (.iload_n 3, 1) := by decide +kernel
theorem dX7_trace_48 : decode cX7_trace 48 = .ok (.goto 17, 3) := by decide +kernel
theorem dX7_trace_51 : decode cX7_trace 51 = .ok (.aload_n 0, 1) := by decide +kernel
theorem dX7_trace_52 : decode cX7_trace 52 = .ok (.getfield 48, 3) := by decide +kernel
theorem dX7_trace_55 : decode cX7_trace 55 = .ok (.aload_n 0, 1) := by decide +kernel
theorem dX7_trace_56 : decode cX7_trace 56 = .ok (.iload_n 1, 1) := by decide +kernel
theorem dX7_trace_57 : decode cX7_trace 57 = .ok (.invokevirtual 98, 3) := by decide +kernel
theorem dX7_trace_60 : decode cX7_trace 60 = .ok (.iconst 1, 1) := by decide +kernel
theorem dX7_trace_61 : decode cX7_trace 61 = .ok (.iadd, 1) := by decide +kernel
theorem dX7_trace_62 : decode cX7_trace 62 = .ok (.iload_n 2, 1) := by decide +kernel
theorem dX7_trace_63 : decode cX7_trace 63 = .ok (.iadd, 1) := by decide +kernel
theorem dX7_trace_64 : decode cX7_trace 64 = .ok (.iaload, 1) := by decide +kernel
theorem dX7_trace_65 : decode cX7_trace 65 = .ok (.ireturn, 1) := by decide +kernel
theorem dX7_seen_0 : decode cX7_seen 0 = .ok (.aload_n 0, 1) := by decide +kernel
theorem dX7_seen_1 : decode cX7_seen 1 = .ok (.iload_n 1, 1) := by decide +kernel
theorem dX7_seen_2 : decode cX7_seen 2 = .ok (.iload_n 2, 1) := by decide +kernel
theorem dX7_seen_3 : decode cX7_seen 3 = .ok (.invokevirtual 219, 3) := by decide +kernel
theorem dX7_seen_6 : decode cX7_seen 6 = .ok (.istore_n 3, 1) := by decide +kernel
theorem dX7_seen_7 : decode cX7_seen 7 = .ok (.iload_n 3, 1) := by decide +kernel
theorem dX7_seen_8 : decode cX7_seen 8 = .ok (.ifCond .eq 7, 3) := by decide +kernel
theorem dX7_seen_11 : decode cX7_seen 11 = .ok (.iload_n 3, 1) := by decide +kernel
theorem dX7_seen_12 : decode cX7_seen 12 = .ok (.goto 22, 3) := by decide +kernel
theorem dX7_seen_15 : decode cX7_seen 15 = .ok (.aload_n 0, 1) := by decide +kernel
theorem dX7_seen_16 : decode cX7_seen 16 = .ok (.aload_n 0, 1) := by decide +kernel
theorem dX7_seen_17 : decode cX7_seen 17 = .ok (.getfield 48, 3) := by decide +kernel
theorem dX7_seen_20 : decode cX7_seen 20 = .ok (.aload_n 0, 1) := by decide +kernel
theorem dX7_seen_21 : decode cX7_seen 21 = .ok (.iload_n 1, 1) := by decide +kernel
theorem dX7_seen_22 : decode cX7_seen 22 = .ok (.invokevirtual 98, 3) := by decide +kernel
theorem dX7_seen_25 : decode cX7_seen 25 = .ok (.bipush 13, 2) := by decide +kernel
theorem dX7_seen_27 : decode cX7_seen 27 = .ok (.iadd, 1) := by decide +kernel
theorem dX7_seen_28 : decode cX7_seen 28 = .ok (.iload_n 2, 1) := by decide +kernel
theorem dX7_seen_29 : decode cX7_seen 29 = .ok (.iadd, 1) := by decide +kernel
theorem dX7_seen_30 : decode cX7_seen 30 = .ok (.iaload, 1) := by decide +kernel
theorem dX7_seen_31 : decode cX7_seen 31 = .ok (.invokevirtual 211, 3) := by decide +kernel
theorem dX7_seen_34 : decode cX7_seen 34 = .ok (.ireturn, 1) := by decide +kernel
theorem dX7_isTraced_0 : decode cX7_isTraced 0 = .ok (.iconst 0, 1) := by decide +kernel
theorem dX7_isTraced_1 : decode cX7_isTraced 1 = .ok (.istore_n 3, 1) := by decide +kernel
theorem dX7_isTraced_2 : decode cX7_isTraced 2 = .ok (.iconst 0, 1) := by decide +kernel
theorem dX7_isTraced_3 : decode cX7_isTraced 3 = .ok (.istore 4, 2) := by decide +kernel
theorem dX7_isTraced_5 : decode cX7_isTraced 5 = .ok (.iload 4, 2) := by decide +kernel
theorem dX7_isTraced_7 : decode cX7_isTraced 7 = .ok (.aload_n 0, 1) := by decide +kernel
theorem dX7_isTraced_8 : decode cX7_isTraced 8 = .ok (.iload_n 1, 1) := by decide +kernel
theorem dX7_isTraced_9 : decode cX7_isTraced 9 = .ok (.invokevirtual 147, 3) := by decide +kernel
theorem dX7_isTraced_12 : decode cX7_isTraced 12 = .ok (.if_icmp .ge 38, 3) := by decide +kernel
theorem dX7_isTraced_15 : decode cX7_isTraced 15 = .ok (.iload_n 3, 1) := by decide +kernel
theorem dX7_isTraced_16 : decode cX7_isTraced 16 = .ok (.ifCond .ne 22, 3) := by decide +kernel
theorem dX7_isTraced_19 : decode cX7_isTraced 19 = .ok (.aload_n 0, 1) := by decide +kernel
theorem dX7_isTraced_20 : decode cX7_isTraced 20 = .ok (.getfield 48, 3) := by decide +kernel
theorem dX7_isTraced_23 : decode cX7_isTraced 23 = .ok (.aload_n 0, 1) := by decide +kernel
theorem dX7_isTraced_24 : decode cX7_isTraced 24 = .ok (.iload_n 1, 1) := by decide +kernel
theorem dX7_isTraced_25 : decode cX7_isTraced 25 = .ok (.invokevirtual 98, 3) := by decide +kernel
theorem dX7_isTraced_28 : decode cX7_isTraced 28 = .ok (.iconst 1, 1) := by decide +kernel
theorem dX7_isTraced_29 : decode cX7_isTraced 29 = .ok (.iadd, 1) := by decide +kernel
theorem dX7_isTraced_30 : decode cX7_isTraced 30 = .ok (.iload 4, 2) := by decide +kernel
theorem dX7_isTraced_32 : decode cX7_isTraced 32 = .ok (.iadd, 1) := by decide +kernel
theorem dX7_isTraced_33 : decode cX7_isTraced 33 = .ok (.iaload, 1) := by decide +kernel
theorem dX7_isTraced_34 : decode cX7_isTraced 34 = .ok (.iload_n 2, 1) := by decide +kernel
theorem dX7_isTraced_35 : decode cX7_isTraced 35 = .ok (.if_icmp .ne 7, 3) := by decide +kernel
theorem dX7_isTraced_38 : decode cX7_isTraced 38 = .ok (.iconst 1, 1) := by decide +kernel
theorem dX7_isTraced_39 : decode cX7_isTraced 39 = .ok (.goto 4, 3) := by decide +kernel
theorem dX7_isTraced_42 : decode cX7_isTraced 42 = .ok (.iconst 0, 1) := by decide +kernel
theorem dX7_isTraced_43 : decode cX7_isTraced 43 = .ok (.istore_n 3, 1) := by decide +kernel
theorem dX7_isTraced_44 : decode cX7_isTraced 44 = .ok (.iinc 4 1, 3) := by decide +kernel
theorem dX7_isTraced_47 : decode cX7_isTraced 47 = .ok (.goto (-42), 3) := by decide +kernel
theorem dX7_isTraced_50 : decode cX7_isTraced 50 = .ok (.iload_n 3, 1) := by decide +kernel
theorem dX7_isTraced_51 : decode cX7_isTraced 51 = .ok (.ireturn, 1) := by decide +kernel
theorem dX7_users_0 : decode cX7_users 0 = .ok (.iload_n 1, 1) := by decide +kernel
theorem dX7_users_1 : decode cX7_users 1 = .ok (.invokestatic 208, 3) := by decide +kernel
theorem dX7_users_4 : decode cX7_users 4 = .ok (.ifCond .ne 5, 3) := by decide +kernel
theorem dX7_users_7 : decode cX7_users 7 = .ok (.iconst (-1), 1) := by decide +kernel
theorem dX7_users_8 : decode cX7_users 8 = .ok (.ireturn, 1) := by decide +kernel
theorem dX7_users_9 : decode cX7_users 9 = .ok (.iconst 0, 1) := by decide +kernel
theorem dX7_users_10 : decode cX7_users 10 = .ok (.istore_n 2, 1) := by decide +kernel
theorem dX7_users_11 : decode cX7_users 11 = .ok (.iconst 0, 1) := by decide +kernel
theorem dX7_users_12 : decode cX7_users 12 = .ok (.istore_n 3, 1) := by decide +kernel
theorem dX7_users_13 : decode cX7_users 13 = .ok (.iload_n 3, 1) := by decide +kernel
theorem dX7_users_14 : decode cX7_users 14 = .ok (.bipush 16, 2) := by decide +kernel
theorem dX7_users_16 : decode cX7_users 16 = .ok (.if_icmp .ge 31, 3) := by decide +kernel
theorem dX7_users_19 : decode cX7_users 19 = .ok (.iload_n 2, 1) := by decide +kernel
theorem dX7_users_20 : decode cX7_users 20 = .ok (.aload_n 0, 1) := by decide +kernel
theorem dX7_users_21 : decode cX7_users 21 = .ok (.bipush 8, 2) := by decide +kernel
theorem dX7_users_23 : decode cX7_users 23 = .ok (.iload_n 3, 1) := by decide +kernel
theorem dX7_users_24 : decode cX7_users 24 = .ok (.iadd, 1) := by decide +kernel
theorem dX7_users_25 : decode cX7_users 25 = .ok (.iload_n 1, 1) := by decide +kernel
theorem dX7_users_26 : decode cX7_users 26 = .ok (.invokevirtual 222, 3) := by decide +kernel
theorem dX7_users_29 : decode cX7_users 29 = .ok (.ifCond .eq 9, 3) := by decide +kernel
theorem dX7_users_32 : decode cX7_users 32 = .ok (.iconst 1, 1) := by decide +kernel
theorem dX7_users_33 : decode cX7_users 33 = .ok (.iload_n 3, 1) := by decide +kernel
theorem dX7_users_34 : decode cX7_users 34 = .ok (.ishl, 1) := by decide +kernel
theorem dX7_users_35 : decode cX7_users 35 = .ok (.goto 4, 3) := by decide +kernel
theorem dX7_users_38 : decode cX7_users 38 = .ok (.iconst 0, 1) := by decide +kernel
theorem dX7_users_39 : decode cX7_users 39 = .ok (.ior, 1) := by decide +kernel
theorem dX7_users_40 : decode cX7_users 40 = .ok (.istore_n 2, 1) := by decide +kernel
theorem dX7_users_41 : decode cX7_users 41 = .ok (.iinc 3 1, 3) := by decide +kernel
theorem dX7_users_44 : decode cX7_users 44 = .ok (.goto (-31), 3) := by decide +kernel
theorem dX7_users_47 : decode cX7_users 47 = .ok (.iload_n 2, 1) := by decide +kernel
theorem dX7_users_48 : decode cX7_users 48 = .ok (.ireturn, 1) := by decide +kernel
theorem dX7_depth_0 : decode cX7_depth 0 = .ok (.iload_n 1, 1) := by decide +kernel
theorem dX7_depth_1 : decode cX7_depth 1 = .ok (.invokestatic 208, 3) := by decide +kernel
theorem dX7_depth_4 : decode cX7_depth 4 = .ok (.ifCond .ne 5, 3) := by decide +kernel
theorem dX7_depth_7 : decode cX7_depth 7 = .ok (.iconst (-1), 1) := by decide +kernel
theorem dX7_depth_8 : decode cX7_depth 8 = .ok (.ireturn, 1) := by decide +kernel
theorem dX7_depth_9 : decode cX7_depth 9 = .ok (.iconst 0, 1) := by decide +kernel
theorem dX7_depth_10 : decode cX7_depth 10 = .ok (.istore_n 2, 1) := by decide +kernel
theorem dX7_depth_11 : decode cX7_depth 11 = .ok (.iload_n 2, 1) := by decide +kernel
theorem dX7_depth_12 : decode cX7_depth 12 = .ok (.bipush 24, 2) := by decide +kernel
theorem dX7_depth_14 : decode cX7_depth 14 = .ok (.if_icmp .ge 16, 3) := by decide +kernel
theorem dX7_depth_17 : decode cX7_depth 17 = .ok (.aload_n 0, 1) := by decide +kernel
theorem dX7_depth_18 : decode cX7_depth 18 = .ok (.getfield 85, 3) := by decide +kernel
theorem dX7_depth_21 : decode cX7_depth 21 = .ok (.iload_n 2, 1) := by decide +kernel
theorem dX7_depth_22 : decode cX7_depth 22 = .ok (.iconst 0, 1) := by decide +kernel
theorem dX7_depth_23 : decode cX7_depth 23 = .ok (.iastore, 1) := by decide +kernel
theorem dX7_depth_24 : decode cX7_depth 24 = .ok (.iinc 2 1, 3) := by decide +kernel
theorem dX7_depth_27 : decode cX7_depth 27 = .ok (.goto (-16), 3) := by decide +kernel
theorem dX7_depth_30 : decode cX7_depth 30 = .ok (.iconst 0, 1) := by decide +kernel
theorem dX7_depth_31 : decode cX7_depth 31 = .ok (.istore_n 2, 1) := by decide +kernel
theorem dX7_depth_32 : decode cX7_depth 32 = .ok (.iload_n 2, 1) := by decide +kernel
theorem dX7_depth_33 : decode cX7_depth 33 = .ok (.bipush 24, 2) := by decide +kernel
theorem dX7_depth_35 : decode cX7_depth 35 = .ok (.if_icmp .ge 96, 3) := by decide +kernel
theorem dX7_depth_38 : decode cX7_depth 38 = .ok (.bipush 8, 2) := by decide +kernel
theorem dX7_depth_40 : decode cX7_depth 40 = .ok (.istore_n 3, 1) := by decide +kernel
theorem dX7_depth_41 : decode cX7_depth 41 = .ok (.iload_n 3, 1) := by decide +kernel
theorem dX7_depth_42 : decode cX7_depth 42 = .ok (.bipush 24, 2) := by decide +kernel
theorem dX7_depth_44 : decode cX7_depth 44 = .ok (.if_icmp .ge 81, 3) := by decide +kernel
theorem dX7_depth_47 : decode cX7_depth 47 = .ok (.iconst 0, 1) := by decide +kernel
theorem dX7_depth_48 : decode cX7_depth 48 = .ok (.istore 4, 2) := by decide +kernel
theorem dX7_depth_50 : decode cX7_depth 50 = .ok (.iconst 0, 1) := by decide +kernel
theorem dX7_depth_51 : decode cX7_depth 51 = .ok (.istore 5, 2) := by decide +kernel
theorem dX7_depth_53 : decode cX7_depth 53 = .ok (.iload 5, 2) := by decide +kernel
theorem dX7_depth_55 : decode cX7_depth 55 = .ok (.aload_n 0, 1) := by decide +kernel
theorem dX7_depth_56 : decode cX7_depth 56 = .ok (.iload_n 3, 1) := by decide +kernel
theorem dX7_depth_57 : decode cX7_depth 57 = .ok (.invokevirtual 147, 3) := by decide +kernel
theorem dX7_depth_60 : decode cX7_depth 60 = .ok (.if_icmp .ge 36, 3) := by decide +kernel
theorem dX7_depth_63 : decode cX7_depth 63 = .ok (.iload 4, 2) := by decide +kernel
theorem dX7_depth_65 : decode cX7_depth 65 = .ok (.aload_n 0, 1) := by decide +kernel
theorem dX7_depth_66 : decode cX7_depth 66 = .ok (.getfield 85, 3) := by decide +kernel
theorem dX7_depth_69 : decode cX7_depth 69 = .ok (.aload_n 0, 1) := by decide +kernel
theorem dX7_depth_70 : decode cX7_depth 70 = .ok (.getfield 48, 3) := by decide +kernel
theorem dX7_depth_73 : decode cX7_depth 73 = .ok (.aload_n 0, 1) := by decide +kernel
theorem dX7_depth_74 : decode cX7_depth 74 = .ok (.iload_n 3, 1) := by decide +kernel
theorem dX7_depth_75 : decode cX7_depth 75 = .ok (.invokevirtual 98, 3) := by decide +kernel
theorem dX7_depth_78 : decode cX7_depth 78 = .ok (.iconst 1, 1) := by decide +kernel
theorem dX7_depth_79 : decode cX7_depth 79 = .ok (.iadd, 1) := by decide +kernel
theorem dX7_depth_80 : decode cX7_depth 80 = .ok (.iload 5, 2) := by decide +kernel
theorem dX7_depth_82 : decode cX7_depth 82 = .ok (.iadd, 1) := by decide +kernel
theorem dX7_depth_83 : decode cX7_depth 83 = .ok (.iaload, 1) := by decide +kernel
theorem dX7_depth_84 : decode cX7_depth 84 = .ok (.iaload, 1) := by decide +kernel
theorem dX7_depth_85 : decode cX7_depth 85 = .ok (.invokestatic 226, 3) := by decide +kernel
theorem dX7_depth_88 : decode cX7_depth 88 = .ok (.istore 4, 2) := by decide +kernel
theorem dX7_depth_90 : decode cX7_depth 90 = .ok (.iinc 5 1, 3) := by decide +kernel
theorem dX7_depth_93 : decode cX7_depth 93 = .ok (.goto (-40), 3) := by decide +kernel
theorem dX7_depth_96 : decode cX7_depth 96 = .ok (.aload_n 0, 1) := by decide +kernel
theorem dX7_depth_97 : decode cX7_depth 97 = .ok (.getfield 85, 3) := by decide +kernel
theorem dX7_depth_100 : decode cX7_depth 100 = .ok (.iload_n 3, 1) := by decide +kernel
theorem dX7_depth_101 : decode cX7_depth 101 = .ok (.aload_n 0, 1) := by decide +kernel
theorem dX7_depth_102 : decode cX7_depth 102 = .ok (.iload_n 3, 1) := by decide +kernel
theorem dX7_depth_103 : decode cX7_depth 103 = .ok (.invokevirtual 147, 3) := by decide +kernel
theorem dX7_depth_106 : decode cX7_depth 106 = .ok (.iconst 1, 1) := by decide +kernel
theorem dX7_depth_107 : decode cX7_depth 107 = .ok (.if_icmp .ge 7, 3) := by decide +kernel
theorem dX7_depth_110 : decode cX7_depth 110 = .ok (.iconst 0, 1) := by decide +kernel
theorem dX7_depth_111 : decode cX7_depth 111 = .ok (.goto 7, 3) := by decide +kernel
theorem dX7_depth_114 : decode cX7_depth 114 = .ok (.iload 4, 2) := by decide +kernel
theorem dX7_depth_116 : decode cX7_depth 116 = .ok (.iconst 1, 1) := by decide +kernel
theorem dX7_depth_117 : decode cX7_depth 117 = .ok (.iadd, 1) := by decide +kernel
theorem dX7_depth_118 : decode cX7_depth 118 = .ok (.iastore, 1) := by decide +kernel
theorem dX7_depth_119 : decode cX7_depth 119 = .ok (.iinc 3 1, 3) := by decide +kernel
theorem dX7_depth_122 : decode cX7_depth 122 = .ok (.goto (-81), 3) := by decide +kernel
theorem dX7_depth_125 : decode cX7_depth 125 = .ok (.iinc 2 1, 3) := by decide +kernel
theorem dX7_depth_128 : decode cX7_depth 128 = .ok (.goto (-96), 3) := by decide +kernel
theorem dX7_depth_131 : decode cX7_depth 131 = .ok (.aload_n 0, 1) := by decide +kernel
theorem dX7_depth_132 : decode cX7_depth 132 = .ok (.getfield 85, 3) := by decide +kernel
theorem dX7_depth_135 : decode cX7_depth 135 = .ok (.iload_n 1, 1) := by decide +kernel
theorem dX7_depth_136 : decode cX7_depth 136 = .ok (.iaload, 1) := by decide +kernel
theorem dX7_depth_137 : decode cX7_depth 137 = .ok (.ireturn, 1) := by decide +kernel
theorem dX7_order_0 : decode cX7_order 0 = .ok (.iload_n 1, 1) := by decide +kernel
theorem dX7_order_1 : decode cX7_order 1 = .ok (.ifCond .ge 7, 3) := by decide +kernel
theorem dX7_order_4 : decode cX7_order 4 = .ok (.iconst (-1), 1) := by decide +kernel
theorem dX7_order_5 : decode cX7_order 5 = .ok (.goto 22, 3) := by decide +kernel
theorem dX7_order_8 : decode cX7_order 8 = .ok (.iload_n 1, 1) := by decide +kernel
theorem dX7_order_9 : decode cX7_order 9 = .ok (.aload_n 0, 1) := by decide +kernel
theorem dX7_order_10 : decode cX7_order 10 = .ok (.getfield 144, 3) := by decide +kernel
theorem dX7_order_13 : decode cX7_order 13 = .ok (.if_icmp .ge 12, 3) := by decide +kernel
theorem dX7_order_16 : decode cX7_order 16 = .ok (.aload_n 0, 1) := by decide +kernel
theorem dX7_order_17 : decode cX7_order 17 = .ok (.getfield 67, 3) := by decide +kernel
theorem dX7_order_20 : decode cX7_order 20 = .ok (.iload_n 1, 1) := by decide +kernel
theorem dX7_order_21 : decode cX7_order 21 = .ok (.iaload, 1) := by decide +kernel
theorem dX7_order_22 : decode cX7_order 22 = .ok (.goto 5, 3) := by decide +kernel
theorem dX7_order_25 : decode cX7_order 25 = .ok (.bipush (-5), 2) := by decide +kernel
theorem dX7_order_27 : decode cX7_order 27 = .ok (.ireturn, 1) := by decide +kernel
theorem dX7_unlike_0 : decode cX7_unlike 0 = .ok (.iconst 0, 1) := by decide +kernel
theorem dX7_unlike_1 : decode cX7_unlike 1 = .ok (.istore_n 1, 1) := by decide +kernel
theorem dX7_unlike_2 : decode cX7_unlike 2 = .ok (.iconst 0, 1) := by decide +kernel
theorem dX7_unlike_3 : decode cX7_unlike 3 = .ok (.istore_n 2, 1) := by decide +kernel
theorem dX7_unlike_4 : decode cX7_unlike 4 = .ok (.iload_n 2, 1) := by decide +kernel
theorem dX7_unlike_5 : decode cX7_unlike 5 = .ok (.bipush 16, 2) := by decide +kernel
theorem dX7_unlike_7 : decode cX7_unlike 7 = .ok (.if_icmp .ge 86, 3) := by decide +kernel
theorem dX7_unlike_10 : decode cX7_unlike 10 = .ok (.aload_n 0, 1) := by decide +kernel
theorem dX7_unlike_11 : decode cX7_unlike 11 = .ok (.getfield 48, 3) := by decide +kernel
theorem dX7_unlike_14 : decode cX7_unlike 14 = .ok (.sipush 408, 3) := by decide +kernel
theorem dX7_unlike_17 : decode cX7_unlike 17 = .ok (.iload_n 2, 1) := by decide +kernel
theorem dX7_unlike_18 : decode cX7_unlike 18 = .ok (.iadd, 1) := by decide +kernel
theorem dX7_unlike_19 : decode cX7_unlike 19 = .ok (.iaload, 1) := by decide +kernel
theorem dX7_unlike_20 : decode cX7_unlike 20 = .ok (.istore_n 3, 1) := by decide +kernel
theorem dX7_unlike_21 : decode cX7_unlike 21 = .ok (.iload_n 3, 1) := by decide +kernel
theorem dX7_unlike_22 : decode cX7_unlike 22 = .ok (.ifCond .lt 7, 3) := by decide +kernel
theorem dX7_unlike_25 : decode cX7_unlike 25 = .ok (.iconst 1, 1) := by decide +kernel
theorem dX7_unlike_26 : decode cX7_unlike 26 = .ok (.goto 4, 3) := by decide +kernel
theorem dX7_unlike_29 : decode cX7_unlike 29 = .ok (.iconst 0, 1) := by decide +kernel
theorem dX7_unlike_30 : decode cX7_unlike 30 = .ok (.istore 4, 2) := by decide +kernel
theorem dX7_unlike_32 : decode cX7_unlike 32 = .ok (.iconst 0, 1) := by decide +kernel
theorem dX7_unlike_33 : decode cX7_unlike 33 = .ok (.istore 5, 2) := by decide +kernel
theorem dX7_unlike_35 : decode cX7_unlike 35 = .ok (.iload 5, 2) := by decide +kernel
theorem dX7_unlike_37 : decode cX7_unlike 37 = .ok (.iload_n 2, 1) := by decide +kernel
theorem dX7_unlike_38 : decode cX7_unlike 38 = .ok (.if_icmp .ge 36, 3) := by decide +kernel
theorem dX7_unlike_41 : decode cX7_unlike 41 = .ok (.iload 4, 2) := by decide +kernel
theorem dX7_unlike_43 : decode cX7_unlike 43 = .ok (.ifCond .eq 22, 3) := by decide +kernel
theorem dX7_unlike_46 : decode cX7_unlike 46 = .ok (.aload_n 0, 1) := by decide +kernel
theorem dX7_unlike_47 : decode cX7_unlike 47 = .ok (.getfield 48, 3) := by decide +kernel
theorem dX7_unlike_50 : decode cX7_unlike 50 = .ok (.sipush 408, 3) := by decide +kernel
theorem dX7_unlike_53 : decode cX7_unlike 53 = .ok (.iload 5, 2) := by decide +kernel
theorem dX7_unlike_55 : decode cX7_unlike 55 = .ok (.iadd, 1) := by decide +kernel
theorem dX7_unlike_56 : decode cX7_unlike 56 = .ok (.iaload, 1) := by decide +kernel
theorem dX7_unlike_57 : decode cX7_unlike 57 = .ok (.iload_n 3, 1) := by decide +kernel
theorem dX7_unlike_58 : decode cX7_unlike 58 = .ok (.if_icmp .eq 7, 3) := by decide +kernel
theorem dX7_unlike_61 : decode cX7_unlike 61 = .ok (.iconst 1, 1) := by decide +kernel
theorem dX7_unlike_62 : decode cX7_unlike 62 = .ok (.goto 4, 3) := by decide +kernel
theorem dX7_unlike_65 : decode cX7_unlike 65 = .ok (.iconst 0, 1) := by decide +kernel
theorem dX7_unlike_66 : decode cX7_unlike 66 = .ok (.istore 4, 2) := by decide +kernel
theorem dX7_unlike_68 : decode cX7_unlike 68 = .ok (.iinc 5 1, 3) := by decide +kernel
theorem dX7_unlike_71 : decode cX7_unlike 71 = .ok (.goto (-36), 3) := by decide +kernel
theorem dX7_unlike_74 : decode cX7_unlike 74 = .ok (.iload_n 1, 1) := by decide +kernel
theorem dX7_unlike_75 : decode cX7_unlike 75 = .ok (.iload 4, 2) := by decide +kernel
theorem dX7_unlike_77 : decode cX7_unlike 77 = .ok (.ifCond .eq 7, 3) := by decide +kernel
theorem dX7_unlike_80 : decode cX7_unlike 80 = .ok (.iconst 1, 1) := by decide +kernel
theorem dX7_unlike_81 : decode cX7_unlike 81 = .ok (.goto 4, 3) := by decide +kernel
theorem dX7_unlike_84 : decode cX7_unlike 84 = .ok (.iconst 0, 1) := by decide +kernel
theorem dX7_unlike_85 : decode cX7_unlike 85 = .ok (.iadd, 1) := by decide +kernel
theorem dX7_unlike_86 : decode cX7_unlike 86 = .ok (.istore_n 1, 1) := by decide +kernel
theorem dX7_unlike_87 : decode cX7_unlike 87 = .ok (.iinc 2 1, 3) := by decide +kernel
theorem dX7_unlike_90 : decode cX7_unlike 90 = .ok (.goto (-86), 3) := by decide +kernel
theorem dX7_unlike_93 : decode cX7_unlike 93 = .ok (.iload_n 1, 1) := by decide +kernel
theorem dX7_unlike_94 : decode cX7_unlike 94 = .ok (.ireturn, 1) := by decide +kernel
theorem dX7_fresh_0 : decode cX7_fresh 0 = .ok (.iconst 0, 1) := by decide +kernel
theorem dX7_fresh_1 : decode cX7_fresh 1 = .ok (.istore_n 1, 1) := by decide +kernel
theorem dX7_fresh_2 : decode cX7_fresh 2 = .ok (.iconst 0, 1) := by decide +kernel
theorem dX7_fresh_3 : decode cX7_fresh 3 = .ok (.istore_n 2, 1) := by decide +kernel
theorem dX7_fresh_4 : decode cX7_fresh 4 = .ok (.iload_n 2, 1) := by decide +kernel
theorem dX7_fresh_5 : decode cX7_fresh 5 = .ok (.bipush 16, 2) := by decide +kernel
theorem dX7_fresh_7 : decode cX7_fresh 7 = .ok (.if_icmp .ge 111, 3) := by decide +kernel
theorem dX7_fresh_10 : decode cX7_fresh 10 = .ok (.sipush 424, 3) := by decide +kernel
theorem dX7_fresh_13 : decode cX7_fresh 13 = .ok (.bipush 25, 2) := by decide +kernel
theorem dX7_fresh_15 : decode cX7_fresh 15 = .ok (.iload_n 2, 1) := by decide +kernel
theorem dX7_fresh_16 : decode cX7_fresh 16 = .ok (.imul, 1) := by decide +kernel
theorem dX7_fresh_17 : decode cX7_fresh 17 = .ok (.iadd, 1) := by decide +kernel
theorem dX7_fresh_18 : decode cX7_fresh 18 = .ok (.istore_n 3, 1) := by decide +kernel
theorem dX7_fresh_19 : decode cX7_fresh 19 = .ok (.aload_n 0, 1) := by decide +kernel
theorem dX7_fresh_20 : decode cX7_fresh 20 = .ok (.getfield 48, 3) := by decide +kernel
theorem dX7_fresh_23 : decode cX7_fresh 23 = .ok (.iload_n 3, 1) := by decide +kernel
theorem dX7_fresh_24 : decode cX7_fresh 24 = .ok (.iaload, 1) := by decide +kernel
theorem dX7_fresh_25 : decode cX7_fresh 25 = .ok (.ifCond .lt 7, 3) := by decide +kernel
theorem dX7_fresh_28 : decode cX7_fresh 28 = .ok (.iconst 1, 1) := by decide +kernel
theorem dX7_fresh_29 : decode cX7_fresh 29 = .ok (.goto 4, 3) := by decide +kernel
theorem dX7_fresh_32 : decode cX7_fresh 32 = .ok (.iconst 0, 1) := by decide +kernel
theorem dX7_fresh_33 : decode cX7_fresh 33 = .ok (.istore 4, 2) := by decide +kernel
theorem dX7_fresh_35 : decode cX7_fresh 35 = .ok (.iconst 0, 1) := by decide +kernel
theorem dX7_fresh_36 : decode cX7_fresh 36 = .ok (.istore 5, 2) := by decide +kernel
theorem dX7_fresh_38 : decode cX7_fresh 38 = .ok (.iload 5, 2) := by decide +kernel
theorem dX7_fresh_40 : decode cX7_fresh 40 = .ok (.aload_n 0, 1) := by decide +kernel
theorem dX7_fresh_41 : decode cX7_fresh 41 = .ok (.getfield 48, 3) := by decide +kernel
theorem dX7_fresh_44 : decode cX7_fresh 44 = .ok (.iload_n 3, 1) := by decide +kernel
theorem dX7_fresh_45 : decode cX7_fresh 45 = .ok (.iaload, 1) := by decide +kernel
theorem dX7_fresh_46 : decode cX7_fresh 46 = .ok (.if_icmp .ge 51, 3) := by decide +kernel
theorem dX7_fresh_49 : decode cX7_fresh 49 = .ok (.iload 4, 2) := by decide +kernel
theorem dX7_fresh_51 : decode cX7_fresh 51 = .ok (.ifCond .eq 37, 3) := by decide +kernel
theorem dX7_fresh_54 : decode cX7_fresh 54 = .ok (.aload_n 0, 1) := by decide +kernel
theorem dX7_fresh_55 : decode cX7_fresh 55 = .ok (.aload_n 0, 1) := by decide +kernel
theorem dX7_fresh_56 : decode cX7_fresh 56 = .ok (.getfield 48, 3) := by decide +kernel
theorem dX7_fresh_59 : decode cX7_fresh 59 = .ok (.iload_n 3, 1) := by decide +kernel
theorem dX7_fresh_60 : decode cX7_fresh 60 = .ok (.iconst 1, 1) := by decide +kernel
theorem dX7_fresh_61 : decode cX7_fresh 61 = .ok (.iadd, 1) := by decide +kernel
theorem dX7_fresh_62 : decode cX7_fresh 62 = .ok (.iload 5, 2) := by decide +kernel
theorem dX7_fresh_64 : decode cX7_fresh 64 = .ok (.iadd, 1) := by decide +kernel
theorem dX7_fresh_65 : decode cX7_fresh 65 = .ok (.iaload, 1) := by decide +kernel
theorem dX7_fresh_66 : decode cX7_fresh 66 = .ok (.invokevirtual 156, 3) := by decide +kernel
theorem dX7_fresh_69 : decode cX7_fresh 69 = .ok (.aload_n 0, 1) := by decide +kernel
theorem dX7_fresh_70 : decode cX7_fresh 70 = .ok (.getfield 48, 3) := by decide +kernel
theorem dX7_fresh_73 : decode cX7_fresh 73 = .ok (.iload_n 3, 1) := by decide +kernel
theorem dX7_fresh_74 : decode cX7_fresh 74 = .ok (.bipush 13, 2) := by decide +kernel
theorem dX7_fresh_76 : decode cX7_fresh 76 = .ok (.iadd, 1) := by decide +kernel
theorem dX7_fresh_77 : decode cX7_fresh 77 = .ok (.iload 5, 2) := by decide +kernel
theorem dX7_fresh_79 : decode cX7_fresh 79 = .ok (.iadd, 1) := by decide +kernel
theorem dX7_fresh_80 : decode cX7_fresh 80 = .ok (.iaload, 1) := by decide +kernel
theorem dX7_fresh_81 : decode cX7_fresh 81 = .ok (.if_icmp .ne 7, 3) := by decide +kernel
theorem dX7_fresh_84 : decode cX7_fresh 84 = .ok (.iconst 1, 1) := by decide +kernel
theorem dX7_fresh_85 : decode cX7_fresh 85 = .ok (.goto 4, 3) := by decide +kernel
theorem dX7_fresh_88 : decode cX7_fresh 88 = .ok (.iconst 0, 1) := by decide +kernel
theorem dX7_fresh_89 : decode cX7_fresh 89 = .ok (.istore 4, 2) := by decide +kernel
theorem dX7_fresh_91 : decode cX7_fresh 91 = .ok (.iinc 5 1, 3) := by decide +kernel
theorem dX7_fresh_94 : decode cX7_fresh 94 = .ok (.goto (-56), 3) := by decide +kernel
theorem dX7_fresh_97 : decode cX7_fresh 97 = .ok (.iload_n 1, 1) := by decide +kernel
theorem dX7_fresh_98 : decode cX7_fresh 98 = .ok (.iload 4, 2) := by decide +kernel
theorem dX7_fresh_100 : decode cX7_fresh 100 = .ok (.ifCond .eq 9, 3) := by decide +kernel
theorem dX7_fresh_103 : decode cX7_fresh 103 = .ok (.iconst 1, 1) := by decide +kernel
theorem dX7_fresh_104 : decode cX7_fresh 104 = .ok (.iload_n 2, 1) := by decide +kernel
theorem dX7_fresh_105 : decode cX7_fresh 105 = .ok (.ishl, 1) := by decide +kernel
theorem dX7_fresh_106 : decode cX7_fresh 106 = .ok (.goto 4, 3) := by decide +kernel
theorem dX7_fresh_109 : decode cX7_fresh 109 = .ok (.iconst 0, 1) := by decide +kernel
theorem dX7_fresh_110 : decode cX7_fresh 110 = .ok (.ior, 1) := by decide +kernel
theorem dX7_fresh_111 : decode cX7_fresh 111 = .ok (.istore_n 1, 1) := by decide +kernel
theorem dX7_fresh_112 : decode cX7_fresh 112 = .ok (.iinc 2 1, 3) := by decide +kernel
theorem dX7_fresh_115 : decode cX7_fresh 115 = .ok (.goto (-111), 3) := by decide +kernel
theorem dX7_fresh_118 : decode cX7_fresh 118 = .ok (.iload_n 1, 1) := by decide +kernel
theorem dX7_fresh_119 : decode cX7_fresh 119 = .ok (.ireturn, 1) := by decide +kernel
theorem dX7_forget_0 : decode cX7_forget 0 = .ok (.iload_n 1, 1) := by decide +kernel
theorem dX7_forget_1 : decode cX7_forget 1 = .ok (.invokestatic 101, 3) := by decide +kernel
theorem dX7_forget_4 : decode cX7_forget 4 = .ok (.ifCond .ne 5, 3) := by decide +kernel
theorem dX7_forget_7 : decode cX7_forget 7 = .ok (.iconst (-1), 1) := by decide +kernel
theorem dX7_forget_8 : decode cX7_forget 8 = .ok (.ireturn, 1) := by decide +kernel
theorem dX7_forget_9 : decode cX7_forget 9 = .ok (.aload_n 0, 1) := by decide +kernel
theorem dX7_forget_10 : decode cX7_forget 10 = .ok (.iload_n 1, 1) := by decide +kernel
theorem dX7_forget_11 : decode cX7_forget 11 = .ok (.invokevirtual 156, 3) := by decide +kernel
theorem dX7_forget_14 : decode cX7_forget 14 = .ok (.ifCond .ge 11, 3) := by decide +kernel
theorem dX7_forget_17 : decode cX7_forget 17 = .ok (.aload_n 0, 1) := by decide +kernel
theorem dX7_forget_18 : decode cX7_forget 18 = .ok (.iload_n 1, 1) := by decide +kernel
theorem dX7_forget_19 : decode cX7_forget 19 = .ok (.invokevirtual 147, 3) := by decide +kernel
theorem dX7_forget_22 : decode cX7_forget 22 = .ok (.ifCond .lt 7, 3) := by decide +kernel
theorem dX7_forget_25 : decode cX7_forget 25 = .ok (.iconst 1, 1) := by decide +kernel
theorem dX7_forget_26 : decode cX7_forget 26 = .ok (.goto 4, 3) := by decide +kernel
theorem dX7_forget_29 : decode cX7_forget 29 = .ok (.iconst 0, 1) := by decide +kernel
theorem dX7_forget_30 : decode cX7_forget 30 = .ok (.istore_n 2, 1) := by decide +kernel
theorem dX7_forget_31 : decode cX7_forget 31 = .ok (.aload_n 0, 1) := by decide +kernel
theorem dX7_forget_32 : decode cX7_forget 32 = .ok (.getfield 48, 3) := by decide +kernel
theorem dX7_forget_35 : decode cX7_forget 35 = .ok (.sipush 408, 3) := by decide +kernel
theorem dX7_forget_38 : decode cX7_forget 38 = .ok (.iload_n 1, 1) := by decide +kernel
theorem dX7_forget_39 : decode cX7_forget 39 = .ok (.iadd, 1) := by decide +kernel
theorem dX7_forget_40 : decode cX7_forget 40 = .ok (.bipush 8, 2) := by decide +kernel
theorem dX7_forget_42 : decode cX7_forget 42 = .ok (.isub, 1) := by decide +kernel
theorem dX7_forget_43 : decode cX7_forget 43 = .ok (.iconst (-1), 1) := by decide +kernel
theorem dX7_forget_44 : decode cX7_forget 44 = .ok (.iastore, 1) := by decide +kernel
theorem dX7_forget_45 : decode cX7_forget 45 = .ok (.aload_n 0, 1) := by decide +kernel
theorem dX7_forget_46 : decode cX7_forget 46 = .ok (.getfield 48, 3) := by decide +kernel
theorem dX7_forget_49 : decode cX7_forget 49 = .ok (.aload_n 0, 1) := by decide +kernel
theorem dX7_forget_50 : decode cX7_forget 50 = .ok (.iload_n 1, 1) := by decide +kernel
theorem dX7_forget_51 : decode cX7_forget 51 = .ok (.invokevirtual 98, 3) := by decide +kernel
theorem dX7_forget_54 : decode cX7_forget 54 = .ok (.iconst (-1), 1) := by decide +kernel
theorem dX7_forget_55 : decode cX7_forget 55 = .ok (.iastore, 1) := by decide +kernel
theorem dX7_forget_56 : decode cX7_forget 56 = .ok (.iload_n 2, 1) := by decide +kernel
theorem dX7_forget_57 : decode cX7_forget 57 = .ok (.ifCond .eq 7, 3) := by decide +kernel
theorem dX7_forget_60 : decode cX7_forget 60 = .ok (.iconst 1, 1) := by decide +kernel
theorem dX7_forget_61 : decode cX7_forget 61 = .ok (.goto 4, 3) := by decide +kernel
theorem dX7_forget_64 : decode cX7_forget 64 = .ok (.iconst 0, 1) := by decide +kernel
theorem dX7_forget_65 : decode cX7_forget 65 = .ok (.ireturn, 1) := by decide +kernel
theorem dX7_having_0 : decode cX7_having 0 = .ok (.iconst 0, 1) := by decide +kernel
theorem dX7_having_1 : decode cX7_having 1 = .ok (.istore_n 2, 1) := by decide +kernel
theorem dX7_having_2 : decode cX7_having 2 = .ok (.bipush 8, 2) := by decide +kernel
theorem dX7_having_4 : decode cX7_having 4 = .ok (.istore_n 3, 1) := by decide +kernel
theorem dX7_having_5 : decode cX7_having 5 = .ok (.iload_n 3, 1) := by decide +kernel
theorem dX7_having_6 : decode cX7_having 6 = .ok (.bipush 24, 2) := by decide +kernel
theorem dX7_having_8 : decode cX7_having 8 = .ok (.if_icmp .ge 95, 3) := by decide +kernel
theorem dX7_having_11 : decode cX7_having 11 = .ok (.iload_n 1, 1) := by decide +kernel
theorem dX7_having_12 : decode cX7_having 12 = .ok (.ifCond .ne 20, 3) := by decide +kernel
theorem dX7_having_15 : decode cX7_having 15 = .ok (.aload_n 0, 1) := by decide +kernel
theorem dX7_having_16 : decode cX7_having 16 = .ok (.iload_n 3, 1) := by decide +kernel
theorem dX7_having_17 : decode cX7_having 17 = .ok (.iconst 0, 1) := by decide +kernel
theorem dX7_having_18 : decode cX7_having 18 = .ok (.invokevirtual 140, 3) := by decide +kernel
theorem dX7_having_21 : decode cX7_having 21 = .ok (.ifCond .le 7, 3) := by decide +kernel
theorem dX7_having_24 : decode cX7_having 24 = .ok (.iconst 1, 1) := by decide +kernel
theorem dX7_having_25 : decode cX7_having 25 = .ok (.goto 57, 3) := by decide +kernel
theorem dX7_having_28 : decode cX7_having 28 = .ok (.iconst 0, 1) := by decide +kernel
theorem dX7_having_29 : decode cX7_having 29 = .ok (.goto 53, 3) := by decide +kernel
theorem dX7_having_32 : decode cX7_having 32 = .ok (.iload_n 1, 1) := by decide +kernel
theorem dX7_having_33 : decode cX7_having 33 = .ok (.iconst 1, 1) := by decide +kernel
theorem dX7_having_34 : decode cX7_having 34 = .ok (.if_icmp .ne 19, 3) := by decide +kernel
theorem dX7_having_37 : decode cX7_having 37 = .ok (.aload_n 0, 1) := by decide +kernel
theorem dX7_having_38 : decode cX7_having 38 = .ok (.iload_n 3, 1) := by decide +kernel
theorem dX7_having_39 : decode cX7_having 39 = .ok (.invokevirtual 156, 3) := by decide +kernel
theorem dX7_having_42 : decode cX7_having 42 = .ok (.ifCond .lt 7, 3) := by decide +kernel
theorem dX7_having_45 : decode cX7_having 45 = .ok (.iconst 1, 1) := by decide +kernel
theorem dX7_having_46 : decode cX7_having 46 = .ok (.goto 36, 3) := by decide +kernel
theorem dX7_having_49 : decode cX7_having 49 = .ok (.iconst 0, 1) := by decide +kernel
theorem dX7_having_50 : decode cX7_having 50 = .ok (.goto 32, 3) := by decide +kernel
theorem dX7_having_53 : decode cX7_having 53 = .ok (.iload_n 1, 1) := by decide +kernel
theorem dX7_having_54 : decode cX7_having 54 = .ok (.iconst 2, 1) := by decide +kernel
theorem dX7_having_55 : decode cX7_having 55 = .ok (.if_icmp .ne 14, 3) := by decide +kernel
theorem dX7_having_58 : decode cX7_having 58 = .ok (.aload_n 0, 1) := by decide +kernel
theorem dX7_having_59 : decode cX7_having 59 = .ok (.iload_n 3, 1) := by decide +kernel
theorem dX7_having_60 : decode cX7_having 60 = .ok (.invokevirtual 156, 3) := by decide +kernel
theorem dX7_having_63 : decode cX7_having 63 = .ok (.invokestatic 34, 3) := by decide +kernel
theorem dX7_having_66 : decode cX7_having 66 = .ok (.goto 16, 3) := by decide +kernel
theorem dX7_having_69 : decode cX7_having 69 = .ok (.aload_n 0, 1) := by decide +kernel
theorem dX7_having_70 : decode cX7_having 70 = .ok (.iload_n 3, 1) := by decide +kernel
theorem dX7_having_71 : decode cX7_having 71 = .ok (.invokevirtual 147, 3) := by decide +kernel
theorem dX7_having_74 : decode cX7_having 74 = .ok (.ifCond .lt 7, 3) := by decide +kernel
theorem dX7_having_77 : decode cX7_having 77 = .ok (.iconst 1, 1) := by decide +kernel
theorem dX7_having_78 : decode cX7_having 78 = .ok (.goto 4, 3) := by decide +kernel
theorem dX7_having_81 : decode cX7_having 81 = .ok (.iconst 0, 1) := by decide +kernel
theorem dX7_having_82 : decode cX7_having 82 = .ok (.istore 4, 2) := by decide +kernel
theorem dX7_having_84 : decode cX7_having 84 = .ok (.iload_n 2, 1) := by decide +kernel
theorem dX7_having_85 : decode cX7_having 85 = .ok (.iload 4, 2) := by decide +kernel
theorem dX7_having_87 : decode cX7_having 87 = .ok (.ifCond .eq 7, 3) := by decide +kernel
theorem dX7_having_90 : decode cX7_having 90 = .ok (.iconst 1, 1) := by decide +kernel
theorem dX7_having_91 : decode cX7_having 91 = .ok (.goto 4, 3) := by decide +kernel
theorem dX7_having_94 : decode cX7_having 94 = .ok (.iconst 0, 1) := by decide +kernel
theorem dX7_having_95 : decode cX7_having 95 = .ok (.iadd, 1) := by decide +kernel
theorem dX7_having_96 : decode cX7_having 96 = .ok (.istore_n 2, 1) := by decide +kernel
theorem dX7_having_97 : decode cX7_having 97 = .ok (.iinc 3 1, 3) := by decide +kernel
theorem dX7_having_100 : decode cX7_having 100 = .ok (.goto (-95), 3) := by decide +kernel
theorem dX7_having_103 : decode cX7_having 103 = .ok (.iload_n 2, 1) := by decide +kernel
theorem dX7_having_104 : decode cX7_having 104 = .ok (.ireturn, 1) := by decide +kernel
theorem dX7_told_0 : decode cX7_told 0 = .ok (.iload_n 1, 1) := by decide +kernel
theorem dX7_told_1 : decode cX7_told 1 = .ok (.tableswitch 102 0 10 #[59, 64, 69, 74, 79, 79, 79, 79, 87, 92, 97], 59) := by decide +kernel
theorem dX7_told_60 : decode cX7_told 60 = .ok (.aload_n 0, 1) := by decide +kernel
theorem dX7_told_61 : decode cX7_told 61 = .ok (.getfield 178, 3) := by decide +kernel
theorem dX7_told_64 : decode cX7_told 64 = .ok (.ireturn, 1) := by decide +kernel
theorem dX7_told_65 : decode cX7_told 65 = .ok (.aload_n 0, 1) := by decide +kernel
theorem dX7_told_66 : decode cX7_told 66 = .ok (.getfield 184, 3) := by decide +kernel
theorem dX7_told_69 : decode cX7_told 69 = .ok (.ireturn, 1) := by decide +kernel
theorem dX7_told_70 : decode cX7_told 70 = .ok (.aload_n 0, 1) := by decide +kernel
theorem dX7_told_71 : decode cX7_told 71 = .ok (.getfield 153, 3) := by decide +kernel
theorem dX7_told_74 : decode cX7_told 74 = .ok (.ireturn, 1) := by decide +kernel
theorem dX7_told_75 : decode cX7_told 75 = .ok (.aload_n 0, 1) := by decide +kernel
theorem dX7_told_76 : decode cX7_told 76 = .ok (.getfield 162, 3) := by decide +kernel
theorem dX7_told_79 : decode cX7_told 79 = .ok (.ireturn, 1) := by decide +kernel
theorem dX7_told_80 : decode cX7_told 80 = .ok (.aload_n 0, 1) := by decide +kernel
theorem dX7_told_81 : decode cX7_told 81 = .ok (.iload_n 1, 1) := by decide +kernel
theorem dX7_told_82 : decode cX7_told 82 = .ok (.iconst 4, 1) := by decide +kernel
theorem dX7_told_83 : decode cX7_told 83 = .ok (.isub, 1) := by decide +kernel
theorem dX7_told_84 : decode cX7_told 84 = .ok (.invokevirtual 231, 3) := by decide +kernel
theorem dX7_told_87 : decode cX7_told 87 = .ok (.ireturn, 1) := by decide +kernel
theorem dX7_told_88 : decode cX7_told 88 = .ok (.aload_n 0, 1) := by decide +kernel
theorem dX7_told_89 : decode cX7_told 89 = .ok (.getfield 120, 3) := by decide +kernel
theorem dX7_told_92 : decode cX7_told 92 = .ok (.ireturn, 1) := by decide +kernel
theorem dX7_told_93 : decode cX7_told 93 = .ok (.aload_n 0, 1) := by decide +kernel
theorem dX7_told_94 : decode cX7_told 94 = .ok (.getfield 144, 3) := by decide +kernel
theorem dX7_told_97 : decode cX7_told 97 = .ok (.ireturn, 1) := by decide +kernel
theorem dX7_told_98 : decode cX7_told 98 = .ok (.aload_n 0, 1) := by decide +kernel
theorem dX7_told_99 : decode cX7_told 99 = .ok (.getfield 70, 3) := by decide +kernel
theorem dX7_told_102 : decode cX7_told 102 = .ok (.ireturn, 1) := by decide +kernel
theorem dX7_told_103 : decode cX7_told 103 = .ok (.iconst (-1), 1) := by decide +kernel
theorem dX7_told_104 : decode cX7_told 104 = .ok (.ireturn, 1) := by decide +kernel
theorem dX7_isList_0 : decode cX7_isList 0 = .ok (.iload_n 0, 1) := by decide +kernel
theorem dX7_isList_1 : decode cX7_isList 1 = .ok (.i2l, 1) := by decide +kernel
theorem dX7_isList_2 : decode cX7_isList 2 = .ok (.lconst 0, 1) := by decide +kernel
theorem dX7_isList_3 : decode cX7_isList 3 = .ok (.ldc2_w 234, 3) := by decide +kernel
theorem dX7_isList_6 : decode cX7_isList 6 = .ok (.invokestatic 7, 3) := by decide +kernel
theorem dX7_isList_9 : decode cX7_isList 9 = .ok (.ireturn, 1) := by decide +kernel
theorem dX7_list_0 : decode cX7_list 0 = .ok (.iload_n 1, 1) := by decide +kernel
theorem dX7_list_1 : decode cX7_list 1 = .ok (.invokestatic 236, 3) := by decide +kernel
theorem dX7_list_4 : decode cX7_list 4 = .ok (.ifCond .ne 5, 3) := by decide +kernel
theorem dX7_list_7 : decode cX7_list 7 = .ok (.iconst (-1), 1) := by decide +kernel
theorem dX7_list_8 : decode cX7_list 8 = .ok (.ireturn, 1) := by decide +kernel
theorem dX7_list_9 : decode cX7_list 9 = .ok (.iload_n 2, 1) := by decide +kernel
theorem dX7_list_10 : decode cX7_list 10 = .ok (.bipush 20, 2) := by decide +kernel
theorem dX7_list_12 : decode cX7_list 12 = .ok (.if_icmp .le 6, 3) := by decide +kernel
theorem dX7_list_15 : decode cX7_list 15 = .ok (.bipush (-2), 2) := by decide +kernel
theorem dX7_list_17 : decode cX7_list 17 = .ok (.ireturn, 1) := by decide +kernel
theorem dX7_list_18 : decode cX7_list 18 = .ok (.iload_n 2, 1) := by decide +kernel
theorem dX7_list_19 : decode cX7_list 19 = .ok (.ifCond .ge 6, 3) := by decide +kernel
theorem dX7_list_22 : decode cX7_list 22 = .ok (.bipush (-14), 2) := by decide +kernel
theorem dX7_list_24 : decode cX7_list 24 = .ok (.ireturn, 1) := by decide +kernel
theorem dX7_list_25 : decode cX7_list 25 = .ok (.aload_n 0, 1) := by decide +kernel
theorem dX7_list_26 : decode cX7_list 26 = .ok (.getfield 88, 3) := by decide +kernel
theorem dX7_list_29 : decode cX7_list 29 = .ok (.iload_n 1, 1) := by decide +kernel
theorem dX7_list_30 : decode cX7_list 30 = .ok (.iload_n 2, 1) := by decide +kernel
theorem dX7_list_31 : decode cX7_list 31 = .ok (.iastore, 1) := by decide +kernel
theorem dX7_list_32 : decode cX7_list 32 = .ok (.iconst 0, 1) := by decide +kernel
theorem dX7_list_33 : decode cX7_list 33 = .ok (.istore_n 3, 1) := by decide +kernel
theorem dX7_list_34 : decode cX7_list 34 = .ok (.iload_n 3, 1) := by decide +kernel
theorem dX7_list_35 : decode cX7_list 35 = .ok (.bipush 20, 2) := by decide +kernel
theorem dX7_list_37 : decode cX7_list 37 = .ok (.if_icmp .ge 21, 3) := by decide +kernel
theorem dX7_list_40 : decode cX7_list 40 = .ok (.aload_n 0, 1) := by decide +kernel
theorem dX7_list_41 : decode cX7_list 41 = .ok (.getfield 91, 3) := by decide +kernel
theorem dX7_list_44 : decode cX7_list 44 = .ok (.bipush 20, 2) := by decide +kernel
theorem dX7_list_46 : decode cX7_list 46 = .ok (.iload_n 1, 1) := by decide +kernel
theorem dX7_list_47 : decode cX7_list 47 = .ok (.imul, 1) := by decide +kernel
theorem dX7_list_48 : decode cX7_list 48 = .ok (.iload_n 3, 1) := by decide +kernel
theorem dX7_list_49 : decode cX7_list 49 = .ok (.iadd, 1) := by decide +kernel
theorem dX7_list_50 : decode cX7_list 50 = .ok (.lconst 0, 1) := by decide +kernel
theorem dX7_list_51 : decode cX7_list 51 = .ok (.lastore, 1) := by decide +kernel
theorem dX7_list_52 : decode cX7_list 52 = .ok (.iinc 3 1, 3) := by decide +kernel
theorem dX7_list_55 : decode cX7_list 55 = .ok (.goto (-21), 3) := by decide +kernel
theorem dX7_list_58 : decode cX7_list 58 = .ok (.iconst 1, 1) := by decide +kernel
theorem dX7_list_59 : decode cX7_list 59 = .ok (.ireturn, 1) := by decide +kernel
theorem dX7_put_0 : decode cX7_put 0 = .ok (.iload_n 1, 1) := by decide +kernel
theorem dX7_put_1 : decode cX7_put 1 = .ok (.invokestatic 236, 3) := by decide +kernel
theorem dX7_put_4 : decode cX7_put 4 = .ok (.ifCond .ne 5, 3) := by decide +kernel
theorem dX7_put_7 : decode cX7_put 7 = .ok (.iconst (-1), 1) := by decide +kernel
theorem dX7_put_8 : decode cX7_put 8 = .ok (.ireturn, 1) := by decide +kernel
theorem dX7_put_9 : decode cX7_put 9 = .ok (.aload_n 0, 1) := by decide +kernel
theorem dX7_put_10 : decode cX7_put 10 = .ok (.getfield 88, 3) := by decide +kernel
theorem dX7_put_13 : decode cX7_put 13 = .ok (.iload_n 1, 1) := by decide +kernel
theorem dX7_put_14 : decode cX7_put 14 = .ok (.iaload, 1) := by decide +kernel
theorem dX7_put_15 : decode cX7_put 15 = .ok (.ifCond .ge 6, 3) := by decide +kernel
theorem dX7_put_18 : decode cX7_put 18 = .ok (.bipush (-11), 2) := by decide +kernel
theorem dX7_put_20 : decode cX7_put 20 = .ok (.ireturn, 1) := by decide +kernel
theorem dX7_put_21 : decode cX7_put 21 = .ok (.iload_n 2, 1) := by decide +kernel
theorem dX7_put_22 : decode cX7_put 22 = .ok (.i2l, 1) := by decide +kernel
theorem dX7_put_23 : decode cX7_put 23 = .ok (.lconst 0, 1) := by decide +kernel
theorem dX7_put_24 : decode cX7_put 24 = .ok (.aload_n 0, 1) := by decide +kernel
theorem dX7_put_25 : decode cX7_put 25 = .ok (.getfield 88, 3) := by decide +kernel
theorem dX7_put_28 : decode cX7_put 28 = .ok (.iload_n 1, 1) := by decide +kernel
theorem dX7_put_29 : decode cX7_put 29 = .ok (.iaload, 1) := by decide +kernel
theorem dX7_put_30 : decode cX7_put 30 = .ok (.iconst 1, 1) := by decide +kernel
theorem dX7_put_31 : decode cX7_put 31 = .ok (.isub, 1) := by decide +kernel
theorem dX7_put_32 : decode cX7_put 32 = .ok (.i2l, 1) := by decide +kernel
theorem dX7_put_33 : decode cX7_put 33 = .ok (.invokestatic 7, 3) := by decide +kernel
theorem dX7_put_36 : decode cX7_put 36 = .ok (.ifCond .ne 6, 3) := by decide +kernel
theorem dX7_put_39 : decode cX7_put 39 = .ok (.bipush (-13), 2) := by decide +kernel
theorem dX7_put_41 : decode cX7_put 41 = .ok (.ireturn, 1) := by decide +kernel
theorem dX7_put_42 : decode cX7_put 42 = .ok (.aload_n 0, 1) := by decide +kernel
theorem dX7_put_43 : decode cX7_put 43 = .ok (.getfield 91, 3) := by decide +kernel
theorem dX7_put_46 : decode cX7_put 46 = .ok (.bipush 20, 2) := by decide +kernel
theorem dX7_put_48 : decode cX7_put 48 = .ok (.iload_n 1, 1) := by decide +kernel
theorem dX7_put_49 : decode cX7_put 49 = .ok (.imul, 1) := by decide +kernel
theorem dX7_put_50 : decode cX7_put 50 = .ok (.iload_n 2, 1) := by decide +kernel
theorem dX7_put_51 : decode cX7_put 51 = .ok (.iadd, 1) := by decide +kernel
theorem dX7_put_52 : decode cX7_put 52 = .ok (.lload_n 3, 1) := by decide +kernel
theorem dX7_put_53 : decode cX7_put 53 = .ok (.lastore, 1) := by decide +kernel
theorem dX7_put_54 : decode cX7_put 54 = .ok (.iconst 1, 1) := by decide +kernel
theorem dX7_put_55 : decode cX7_put 55 = .ok (.ireturn, 1) := by decide +kernel
theorem dX7_get_0 : decode cX7_get 0 = .ok (.iload_n 1, 1) := by decide +kernel
theorem dX7_get_1 : decode cX7_get 1 = .ok (.invokestatic 236, 3) := by decide +kernel
theorem dX7_get_4 : decode cX7_get 4 = .ok (.ifCond .eq 35, 3) := by decide +kernel
theorem dX7_get_7 : decode cX7_get 7 = .ok (.iload_n 2, 1) := by decide +kernel
theorem dX7_get_8 : decode cX7_get 8 = .ok (.i2l, 1) := by decide +kernel
theorem dX7_get_9 : decode cX7_get 9 = .ok (.lconst 0, 1) := by decide +kernel
theorem dX7_get_10 : decode cX7_get 10 = .ok (.aload_n 0, 1) := by decide +kernel
theorem dX7_get_11 : decode cX7_get 11 = .ok (.getfield 88, 3) := by decide +kernel
theorem dX7_get_14 : decode cX7_get 14 = .ok (.iload_n 1, 1) := by decide +kernel
theorem dX7_get_15 : decode cX7_get 15 = .ok (.iaload, 1) := by decide +kernel
theorem dX7_get_16 : decode cX7_get 16 = .ok (.iconst 1, 1) := by decide +kernel
theorem dX7_get_17 : decode cX7_get 17 = .ok (.isub, 1) := by decide +kernel
theorem dX7_get_18 : decode cX7_get 18 = .ok (.i2l, 1) := by decide +kernel
theorem dX7_get_19 : decode cX7_get 19 = .ok (.invokestatic 7, 3) := by decide +kernel
theorem dX7_get_22 : decode cX7_get 22 = .ok (.ifCond .eq 17, 3) := by decide +kernel
theorem dX7_get_25 : decode cX7_get 25 = .ok (.aload_n 0, 1) := by decide +kernel
theorem dX7_get_26 : decode cX7_get 26 = .ok (.getfield 91, 3) := by decide +kernel
theorem dX7_get_29 : decode cX7_get 29 = .ok (.bipush 20, 2) := by decide +kernel
theorem dX7_get_31 : decode cX7_get 31 = .ok (.iload_n 1, 1) := by decide +kernel
theorem dX7_get_32 : decode cX7_get 32 = .ok (.imul, 1) := by decide +kernel
theorem dX7_get_33 : decode cX7_get 33 = .ok (.iload_n 2, 1) := by decide +kernel
theorem dX7_get_34 : decode cX7_get 34 = .ok (.iadd, 1) := by decide +kernel
theorem dX7_get_35 : decode cX7_get 35 = .ok (.laload, 1) := by decide +kernel
theorem dX7_get_36 : decode cX7_get 36 = .ok (.goto 6, 3) := by decide +kernel
theorem dX7_get_39 : decode cX7_get 39 = .ok (.ldc2_w 239, 3) := by decide +kernel
theorem dX7_get_42 : decode cX7_get 42 = .ok (.lreturn, 1) := by decide +kernel
theorem dX7_move_0 : decode cX7_move 0 = .ok (.iload_n 1, 1) := by decide +kernel
theorem dX7_move_1 : decode cX7_move 1 = .ok (.invokestatic 236, 3) := by decide +kernel
theorem dX7_move_4 : decode cX7_move 4 = .ok (.ifCond .eq 10, 3) := by decide +kernel
theorem dX7_move_7 : decode cX7_move 7 = .ok (.iload_n 3, 1) := by decide +kernel
theorem dX7_move_8 : decode cX7_move 8 = .ok (.invokestatic 236, 3) := by decide +kernel
theorem dX7_move_11 : decode cX7_move 11 = .ok (.ifCond .ne 5, 3) := by decide +kernel
theorem dX7_move_14 : decode cX7_move 14 = .ok (.iconst (-1), 1) := by decide +kernel
theorem dX7_move_15 : decode cX7_move 15 = .ok (.ireturn, 1) := by decide +kernel
theorem dX7_move_16 : decode cX7_move 16 = .ok (.aload_n 0, 1) := by decide +kernel
theorem dX7_move_17 : decode cX7_move 17 = .ok (.getfield 88, 3) := by decide +kernel
theorem dX7_move_20 : decode cX7_move 20 = .ok (.iload_n 1, 1) := by decide +kernel
theorem dX7_move_21 : decode cX7_move 21 = .ok (.iaload, 1) := by decide +kernel
theorem dX7_move_22 : decode cX7_move 22 = .ok (.ifCond .lt 12, 3) := by decide +kernel
theorem dX7_move_25 : decode cX7_move 25 = .ok (.aload_n 0, 1) := by decide +kernel
theorem dX7_move_26 : decode cX7_move 26 = .ok (.getfield 88, 3) := by decide +kernel
theorem dX7_move_29 : decode cX7_move 29 = .ok (.iload_n 3, 1) := by decide +kernel
theorem dX7_move_30 : decode cX7_move 30 = .ok (.iaload, 1) := by decide +kernel
theorem dX7_move_31 : decode cX7_move 31 = .ok (.ifCond .ge 6, 3) := by decide +kernel
theorem dX7_move_34 : decode cX7_move 34 = .ok (.bipush (-11), 2) := by decide +kernel
theorem dX7_move_36 : decode cX7_move 36 = .ok (.ireturn, 1) := by decide +kernel
theorem dX7_move_37 : decode cX7_move 37 = .ok (.iload 5, 2) := by decide +kernel
theorem dX7_move_39 : decode cX7_move 39 = .ok (.ifCond .lt 39, 3) := by decide +kernel
theorem dX7_move_42 : decode cX7_move 42 = .ok (.iload_n 2, 1) := by decide +kernel
theorem dX7_move_43 : decode cX7_move 43 = .ok (.ifCond .lt 35, 3) := by decide +kernel
theorem dX7_move_46 : decode cX7_move 46 = .ok (.iload 4, 2) := by decide +kernel
theorem dX7_move_48 : decode cX7_move 48 = .ok (.ifCond .lt 30, 3) := by decide +kernel
theorem dX7_move_51 : decode cX7_move 51 = .ok (.iload 5, 2) := by decide +kernel
theorem dX7_move_53 : decode cX7_move 53 = .ok (.aload_n 0, 1) := by decide +kernel
theorem dX7_move_54 : decode cX7_move 54 = .ok (.getfield 88, 3) := by decide +kernel
theorem dX7_move_57 : decode cX7_move 57 = .ok (.iload_n 1, 1) := by decide +kernel
theorem dX7_move_58 : decode cX7_move 58 = .ok (.iaload, 1) := by decide +kernel
theorem dX7_move_59 : decode cX7_move 59 = .ok (.iload_n 2, 1) := by decide +kernel
theorem dX7_move_60 : decode cX7_move 60 = .ok (.isub, 1) := by decide +kernel
theorem dX7_move_61 : decode cX7_move 61 = .ok (.if_icmp .gt 17, 3) := by decide +kernel
theorem dX7_move_64 : decode cX7_move 64 = .ok (.iload 5, 2) := by decide +kernel
theorem dX7_move_66 : decode cX7_move 66 = .ok (.aload_n 0, 1) := by decide +kernel
theorem dX7_move_67 : decode cX7_move 67 = .ok (.getfield 88, 3) := by decide +kernel
theorem dX7_move_70 : decode cX7_move 70 = .ok (.iload_n 3, 1) := by decide +kernel
theorem dX7_move_71 : decode cX7_move 71 = .ok (.iaload, 1) := by decide +kernel
theorem dX7_move_72 : decode cX7_move 72 = .ok (.iload 4, 2) := by decide +kernel
theorem dX7_move_74 : decode cX7_move 74 = .ok (.isub, 1) := by decide +kernel
theorem dX7_move_75 : decode cX7_move 75 = .ok (.if_icmp .le 6, 3) := by decide +kernel
theorem dX7_move_78 : decode cX7_move 78 = .ok (.bipush (-13), 2) := by decide +kernel
theorem dX7_move_80 : decode cX7_move 80 = .ok (.ireturn, 1) := by decide +kernel
theorem dX7_move_81 : decode cX7_move 81 = .ok (.iconst 0, 1) := by decide +kernel
theorem dX7_move_82 : decode cX7_move 82 = .ok (.istore 6, 2) := by decide +kernel
theorem dX7_move_84 : decode cX7_move 84 = .ok (.iload 6, 2) := by decide +kernel
theorem dX7_move_86 : decode cX7_move 86 = .ok (.iload 5, 2) := by decide +kernel
theorem dX7_move_88 : decode cX7_move 88 = .ok (.if_icmp .ge 30, 3) := by decide +kernel
theorem dX7_move_91 : decode cX7_move 91 = .ok (.aload_n 0, 1) := by decide +kernel
theorem dX7_move_92 : decode cX7_move 92 = .ok (.getfield 95, 3) := by decide +kernel
theorem dX7_move_95 : decode cX7_move 95 = .ok (.iload 6, 2) := by decide +kernel
theorem dX7_move_97 : decode cX7_move 97 = .ok (.aload_n 0, 1) := by decide +kernel
theorem dX7_move_98 : decode cX7_move 98 = .ok (.getfield 91, 3) := by decide +kernel
theorem dX7_move_101 : decode cX7_move 101 = .ok (.bipush 20, 2) := by decide +kernel
theorem dX7_move_103 : decode cX7_move 103 = .ok (.iload_n 1, 1) := by decide +kernel
theorem dX7_move_104 : decode cX7_move 104 = .ok (.imul, 1) := by decide +kernel
theorem dX7_move_105 : decode cX7_move 105 = .ok (.iload_n 2, 1) := by decide +kernel
theorem dX7_move_106 : decode cX7_move 106 = .ok (.iadd, 1) := by decide +kernel
theorem dX7_move_107 : decode cX7_move 107 = .ok (.iload 6, 2) := by decide +kernel
theorem dX7_move_109 : decode cX7_move 109 = .ok (.iadd, 1) := by decide +kernel
theorem dX7_move_110 : decode cX7_move 110 = .ok (.laload, 1) := by decide +kernel
theorem dX7_move_111 : decode cX7_move 111 = .ok (.lastore, 1) := by decide +kernel
theorem dX7_move_112 : decode cX7_move 112 = .ok (.iinc 6 1, 3) := by decide +kernel
theorem dX7_move_115 : decode cX7_move 115 = .ok (.goto (-31), 3) := by decide +kernel
theorem dX7_move_118 : decode cX7_move 118 = .ok (.iconst 0, 1) := by decide +kernel
theorem dX7_move_119 : decode cX7_move 119 = .ok (.istore 6, 2) := by decide +kernel
theorem dX7_move_121 : decode cX7_move 121 = .ok (.iload 6, 2) := by decide +kernel
theorem dX7_move_123 : decode cX7_move 123 = .ok (.iload 5, 2) := by decide +kernel
theorem dX7_move_125 : decode cX7_move 125 = .ok (.if_icmp .ge 31, 3) := by decide +kernel
theorem dX7_move_128 : decode cX7_move 128 = .ok (.aload_n 0, 1) := by decide +kernel
theorem dX7_move_129 : decode cX7_move 129 = .ok (.getfield 91, 3) := by decide +kernel
theorem dX7_move_132 : decode cX7_move 132 = .ok (.bipush 20, 2) := by decide +kernel
theorem dX7_move_134 : decode cX7_move 134 = .ok (.iload_n 3, 1) := by decide +kernel
theorem dX7_move_135 : decode cX7_move 135 = .ok (.imul, 1) := by decide +kernel
theorem dX7_move_136 : decode cX7_move 136 = .ok (.iload 4, 2) := by decide +kernel
theorem dX7_move_138 : decode cX7_move 138 = .ok (.iadd, 1) := by decide +kernel
theorem dX7_move_139 : decode cX7_move 139 = .ok (.iload 6, 2) := by decide +kernel
theorem dX7_move_141 : decode cX7_move 141 = .ok (.iadd, 1) := by decide +kernel
theorem dX7_move_142 : decode cX7_move 142 = .ok (.aload_n 0, 1) := by decide +kernel
theorem dX7_move_143 : decode cX7_move 143 = .ok (.getfield 95, 3) := by decide +kernel
theorem dX7_move_146 : decode cX7_move 146 = .ok (.iload 6, 2) := by decide +kernel
theorem dX7_move_148 : decode cX7_move 148 = .ok (.laload, 1) := by decide +kernel
theorem dX7_move_149 : decode cX7_move 149 = .ok (.lastore, 1) := by decide +kernel
theorem dX7_move_150 : decode cX7_move 150 = .ok (.iinc 6 1, 3) := by decide +kernel
theorem dX7_move_153 : decode cX7_move 153 = .ok (.goto (-32), 3) := by decide +kernel
theorem dX7_move_156 : decode cX7_move 156 = .ok (.iload 5, 2) := by decide +kernel
theorem dX7_move_158 : decode cX7_move 158 = .ok (.ireturn, 1) := by decide +kernel
theorem dX7_lay_0 : decode cX7_lay 0 = .ok (.iload_n 1, 1) := by decide +kernel
theorem dX7_lay_1 : decode cX7_lay 1 = .ok (.invokestatic 236, 3) := by decide +kernel
theorem dX7_lay_4 : decode cX7_lay 4 = .ok (.ifCond .ne 5, 3) := by decide +kernel
theorem dX7_lay_7 : decode cX7_lay 7 = .ok (.iconst (-1), 1) := by decide +kernel
theorem dX7_lay_8 : decode cX7_lay 8 = .ok (.ireturn, 1) := by decide +kernel
theorem dX7_lay_9 : decode cX7_lay 9 = .ok (.aload_n 0, 1) := by decide +kernel
theorem dX7_lay_10 : decode cX7_lay 10 = .ok (.getfield 88, 3) := by decide +kernel
theorem dX7_lay_13 : decode cX7_lay 13 = .ok (.iload_n 1, 1) := by decide +kernel
theorem dX7_lay_14 : decode cX7_lay 14 = .ok (.iaload, 1) := by decide +kernel
theorem dX7_lay_15 : decode cX7_lay 15 = .ok (.ifCond .ge 6, 3) := by decide +kernel
theorem dX7_lay_18 : decode cX7_lay 18 = .ok (.bipush (-11), 2) := by decide +kernel
theorem dX7_lay_20 : decode cX7_lay 20 = .ok (.ireturn, 1) := by decide +kernel
theorem dX7_lay_21 : decode cX7_lay 21 = .ok (.iconst 0, 1) := by decide +kernel
theorem dX7_lay_22 : decode cX7_lay 22 = .ok (.istore_n 3, 1) := by decide +kernel
theorem dX7_lay_23 : decode cX7_lay 23 = .ok (.iload_n 3, 1) := by decide +kernel
theorem dX7_lay_24 : decode cX7_lay 24 = .ok (.bipush 16, 2) := by decide +kernel
theorem dX7_lay_26 : decode cX7_lay 26 = .ok (.if_icmp .ge 60, 3) := by decide +kernel
theorem dX7_lay_29 : decode cX7_lay 29 = .ok (.iload_n 2, 1) := by decide +kernel
theorem dX7_lay_30 : decode cX7_lay 30 = .ok (.ifCond .lt 19, 3) := by decide +kernel
theorem dX7_lay_33 : decode cX7_lay 33 = .ok (.iload_n 2, 1) := by decide +kernel
theorem dX7_lay_34 : decode cX7_lay 34 = .ok (.i2l, 1) := by decide +kernel
theorem dX7_lay_35 : decode cX7_lay 35 = .ok (.iload_n 3, 1) := by decide +kernel
theorem dX7_lay_36 : decode cX7_lay 36 = .ok (.i2l, 1) := by decide +kernel
theorem dX7_lay_37 : decode cX7_lay 37 = .ok (.ladd, 1) := by decide +kernel
theorem dX7_lay_38 : decode cX7_lay 38 = .ok (.aload_n 0, 1) := by decide +kernel
theorem dX7_lay_39 : decode cX7_lay 39 = .ok (.getfield 88, 3) := by decide +kernel
theorem dX7_lay_42 : decode cX7_lay 42 = .ok (.iload_n 1, 1) := by decide +kernel
theorem dX7_lay_43 : decode cX7_lay 43 = .ok (.iaload, 1) := by decide +kernel
theorem dX7_lay_44 : decode cX7_lay 44 = .ok (.i2l, 1) := by decide +kernel
theorem dX7_lay_45 : decode cX7_lay 45 = .ok (.lcmp, 1) := by decide +kernel
theorem dX7_lay_46 : decode cX7_lay 46 = .ok (.ifCond .lt 6, 3) := by decide +kernel
theorem dX7_lay_49 : decode cX7_lay 49 = .ok (.bipush (-13), 2) := by decide +kernel
theorem dX7_lay_51 : decode cX7_lay 51 = .ok (.ireturn, 1) := by decide +kernel
theorem dX7_lay_52 : decode cX7_lay 52 = .ok (.aload_n 0, 1) := by decide +kernel
theorem dX7_lay_53 : decode cX7_lay 53 = .ok (.getfield 91, 3) := by decide +kernel
theorem dX7_lay_56 : decode cX7_lay 56 = .ok (.bipush 20, 2) := by decide +kernel
theorem dX7_lay_58 : decode cX7_lay 58 = .ok (.iload_n 1, 1) := by decide +kernel
theorem dX7_lay_59 : decode cX7_lay 59 = .ok (.imul, 1) := by decide +kernel
theorem dX7_lay_60 : decode cX7_lay 60 = .ok (.iload_n 2, 1) := by decide +kernel
theorem dX7_lay_61 : decode cX7_lay 61 = .ok (.iadd, 1) := by decide +kernel
theorem dX7_lay_62 : decode cX7_lay 62 = .ok (.iload_n 3, 1) := by decide +kernel
theorem dX7_lay_63 : decode cX7_lay 63 = .ok (.iadd, 1) := by decide +kernel
theorem dX7_lay_64 : decode cX7_lay 64 = .ok (.aload_n 0, 1) := by decide +kernel
theorem dX7_lay_65 : decode cX7_lay 65 = .ok (.aload_n 0, 1) := by decide +kernel
theorem dX7_lay_66 : decode cX7_lay 66 = .ok (.getfield 48, 3) := by decide +kernel
theorem dX7_lay_69 : decode cX7_lay 69 = .ok (.sipush 408, 3) := by decide +kernel
theorem dX7_lay_72 : decode cX7_lay 72 = .ok (.iload_n 3, 1) := by decide +kernel
theorem dX7_lay_73 : decode cX7_lay 73 = .ok (.iadd, 1) := by decide +kernel
theorem dX7_lay_74 : decode cX7_lay 74 = .ok (.iaload, 1) := by decide +kernel
theorem dX7_lay_75 : decode cX7_lay 75 = .ok (.invokevirtual 211, 3) := by decide +kernel
theorem dX7_lay_78 : decode cX7_lay 78 = .ok (.i2l, 1) := by decide +kernel
theorem dX7_lay_79 : decode cX7_lay 79 = .ok (.lastore, 1) := by decide +kernel
theorem dX7_lay_80 : decode cX7_lay 80 = .ok (.iinc 3 1, 3) := by decide +kernel
theorem dX7_lay_83 : decode cX7_lay 83 = .ok (.goto (-60), 3) := by decide +kernel
theorem dX7_lay_86 : decode cX7_lay 86 = .ok (.bipush 16, 2) := by decide +kernel
theorem dX7_lay_88 : decode cX7_lay 88 = .ok (.ireturn, 1) := by decide +kernel
theorem dX7_judge_0 : decode cX7_judge 0 = .ok (.iload_n 1, 1) := by decide +kernel
theorem dX7_judge_1 : decode cX7_judge 1 = .ok (.invokestatic 236, 3) := by decide +kernel
theorem dX7_judge_4 : decode cX7_judge 4 = .ok (.ifCond .ne 5, 3) := by decide +kernel
theorem dX7_judge_7 : decode cX7_judge 7 = .ok (.iconst (-1), 1) := by decide +kernel
theorem dX7_judge_8 : decode cX7_judge 8 = .ok (.ireturn, 1) := by decide +kernel
theorem dX7_judge_9 : decode cX7_judge 9 = .ok (.aload_n 0, 1) := by decide +kernel
theorem dX7_judge_10 : decode cX7_judge 10 = .ok (.getfield 88, 3) := by decide +kernel
theorem dX7_judge_13 : decode cX7_judge 13 = .ok (.iload_n 1, 1) := by decide +kernel
theorem dX7_judge_14 : decode cX7_judge 14 = .ok (.iaload, 1) := by decide +kernel
theorem dX7_judge_15 : decode cX7_judge 15 = .ok (.ifCond .ge 6, 3) := by decide +kernel
theorem dX7_judge_18 : decode cX7_judge 18 = .ok (.bipush (-11), 2) := by decide +kernel
theorem dX7_judge_20 : decode cX7_judge 20 = .ok (.ireturn, 1) := by decide +kernel
theorem dX7_judge_21 : decode cX7_judge 21 = .ok (.iconst 0, 1) := by decide +kernel
theorem dX7_judge_22 : decode cX7_judge 22 = .ok (.istore_n 3, 1) := by decide +kernel
theorem dX7_judge_23 : decode cX7_judge 23 = .ok (.iload_n 3, 1) := by decide +kernel
theorem dX7_judge_24 : decode cX7_judge 24 = .ok (.bipush 16, 2) := by decide +kernel
theorem dX7_judge_26 : decode cX7_judge 26 = .ok (.if_icmp .ge 68, 3) := by decide +kernel
theorem dX7_judge_29 : decode cX7_judge 29 = .ok (.iload_n 2, 1) := by decide +kernel
theorem dX7_judge_30 : decode cX7_judge 30 = .ok (.ifCond .lt 19, 3) := by decide +kernel
theorem dX7_judge_33 : decode cX7_judge 33 = .ok (.iload_n 2, 1) := by decide +kernel
theorem dX7_judge_34 : decode cX7_judge 34 = .ok (.i2l, 1) := by decide +kernel
theorem dX7_judge_35 : decode cX7_judge 35 = .ok (.iload_n 3, 1) := by decide +kernel
theorem dX7_judge_36 : decode cX7_judge 36 = .ok (.i2l, 1) := by decide +kernel
theorem dX7_judge_37 : decode cX7_judge 37 = .ok (.ladd, 1) := by decide +kernel
theorem dX7_judge_38 : decode cX7_judge 38 = .ok (.aload_n 0, 1) := by decide +kernel
theorem dX7_judge_39 : decode cX7_judge 39 = .ok (.getfield 88, 3) := by decide +kernel
theorem dX7_judge_42 : decode cX7_judge 42 = .ok (.iload_n 1, 1) := by decide +kernel
theorem dX7_judge_43 : decode cX7_judge 43 = .ok (.iaload, 1) := by decide +kernel
theorem dX7_judge_44 : decode cX7_judge 44 = .ok (.i2l, 1) := by decide +kernel
theorem dX7_judge_45 : decode cX7_judge 45 = .ok (.lcmp, 1) := by decide +kernel
theorem dX7_judge_46 : decode cX7_judge 46 = .ok (.ifCond .lt 8, 3) := by decide +kernel
theorem dX7_judge_49 : decode cX7_judge 49 = .ok (.bipush 100, 2) := by decide +kernel
theorem dX7_judge_51 : decode cX7_judge 51 = .ok (.iload_n 3, 1) := by decide +kernel
theorem dX7_judge_52 : decode cX7_judge 52 = .ok (.iadd, 1) := by decide +kernel
theorem dX7_judge_53 : decode cX7_judge 53 = .ok (.ireturn, 1) := by decide +kernel
theorem dX7_judge_54 : decode cX7_judge 54 = .ok (.aload_n 0, 1) := by decide +kernel
theorem dX7_judge_55 : decode cX7_judge 55 = .ok (.getfield 91, 3) := by decide +kernel
theorem dX7_judge_58 : decode cX7_judge 58 = .ok (.bipush 20, 2) := by decide +kernel
theorem dX7_judge_60 : decode cX7_judge 60 = .ok (.iload_n 1, 1) := by decide +kernel
theorem dX7_judge_61 : decode cX7_judge 61 = .ok (.imul, 1) := by decide +kernel
theorem dX7_judge_62 : decode cX7_judge 62 = .ok (.iload_n 2, 1) := by decide +kernel
theorem dX7_judge_63 : decode cX7_judge 63 = .ok (.iadd, 1) := by decide +kernel
theorem dX7_judge_64 : decode cX7_judge 64 = .ok (.iload_n 3, 1) := by decide +kernel
theorem dX7_judge_65 : decode cX7_judge 65 = .ok (.iadd, 1) := by decide +kernel
theorem dX7_judge_66 : decode cX7_judge 66 = .ok (.laload, 1) := by decide +kernel
theorem dX7_judge_67 : decode cX7_judge 67 = .ok (.aload_n 0, 1) := by decide +kernel
theorem dX7_judge_68 : decode cX7_judge 68 = .ok (.aload_n 0, 1) := by decide +kernel
theorem dX7_judge_69 : decode cX7_judge 69 = .ok (.getfield 48, 3) := by decide +kernel
theorem dX7_judge_72 : decode cX7_judge 72 = .ok (.sipush 408, 3) := by decide +kernel
theorem dX7_judge_75 : decode cX7_judge 75 = .ok (.iload_n 3, 1) := by decide +kernel
theorem dX7_judge_76 : decode cX7_judge 76 = .ok (.iadd, 1) := by decide +kernel
theorem dX7_judge_77 : decode cX7_judge 77 = .ok (.iaload, 1) := by decide +kernel
theorem dX7_judge_78 : decode cX7_judge 78 = .ok (.invokevirtual 211, 3) := by decide +kernel
theorem dX7_judge_81 : decode cX7_judge 81 = .ok (.i2l, 1) := by decide +kernel
theorem dX7_judge_82 : decode cX7_judge 82 = .ok (.lcmp, 1) := by decide +kernel
theorem dX7_judge_83 : decode cX7_judge 83 = .ok (.ifCond .eq 5, 3) := by decide +kernel
theorem dX7_judge_86 : decode cX7_judge 86 = .ok (.iload_n 3, 1) := by decide +kernel
theorem dX7_judge_87 : decode cX7_judge 87 = .ok (.ireturn, 1) := by decide +kernel
theorem dX7_judge_88 : decode cX7_judge 88 = .ok (.iinc 3 1, 3) := by decide +kernel
theorem dX7_judge_91 : decode cX7_judge 91 = .ok (.goto (-68), 3) := by decide +kernel
theorem dX7_judge_94 : decode cX7_judge 94 = .ok (.bipush (-5), 2) := by decide +kernel
theorem dX7_judge_96 : decode cX7_judge 96 = .ok (.ireturn, 1) := by decide +kernel
theorem dX7_image_0 : decode cX7_image 0 = .ok (.aload_n 0, 1) := by decide +kernel
theorem dX7_image_1 : decode cX7_image 1 = .ok (.getfield 48, 3) := by decide +kernel
theorem dX7_image_4 : decode cX7_image 4 = .ok (.aload_n 0, 1) := by decide +kernel
theorem dX7_image_5 : decode cX7_image 5 = .ok (.getfield 51, 3) := by decide +kernel
theorem dX7_image_8 : decode cX7_image 8 = .ok (.invokestatic 204, 3) := by decide +kernel
theorem dX7_image_11 : decode cX7_image 11 = .ok (.aload_n 0, 1) := by decide +kernel
theorem dX7_image_12 : decode cX7_image 12 = .ok (.iconst 1, 1) := by decide +kernel
theorem dX7_image_13 : decode cX7_image 13 = .ok (.putfield 241, 3) := by decide +kernel
theorem dX7_image_16 : decode cX7_image 16 = .ok (.aload_n 0, 1) := by decide +kernel
theorem dX7_image_17 : decode cX7_image 17 = .ok (.iconst 1, 1) := by decide +kernel
theorem dX7_image_18 : decode cX7_image 18 = .ok (.invokevirtual 231, 3) := by decide +kernel
theorem dX7_image_21 : decode cX7_image 21 = .ok (.ireturn, 1) := by decide +kernel
theorem dX7_undo_0 : decode cX7_undo 0 = .ok (.aload_n 0, 1) := by decide +kernel
theorem dX7_undo_1 : decode cX7_undo 1 = .ok (.getfield 241, 3) := by decide +kernel
theorem dX7_undo_4 : decode cX7_undo 4 = .ok (.ifCond .ne 6, 3) := by decide +kernel
theorem dX7_undo_7 : decode cX7_undo 7 = .ok (.bipush (-3), 2) := by decide +kernel
theorem dX7_undo_9 : decode cX7_undo 9 = .ok (.ireturn, 1) := by decide +kernel
theorem dX7_undo_10 : decode cX7_undo 10 = .ok (.aload_n 0, 1) := by decide +kernel
theorem dX7_undo_11 : decode cX7_undo 11 = .ok (.getfield 51, 3) := by decide +kernel
theorem dX7_undo_14 : decode cX7_undo 14 = .ok (.aload_n 0, 1) := by decide +kernel
theorem dX7_undo_15 : decode cX7_undo 15 = .ok (.getfield 48, 3) := by decide +kernel
theorem dX7_undo_18 : decode cX7_undo 18 = .ok (.invokestatic 204, 3) := by decide +kernel
theorem dX7_undo_21 : decode cX7_undo 21 = .ok (.iconst 0, 1) := by decide +kernel
theorem dX7_undo_22 : decode cX7_undo 22 = .ok (.istore_n 1, 1) := by decide +kernel
theorem dX7_undo_23 : decode cX7_undo 23 = .ok (.iload_n 1, 1) := by decide +kernel
theorem dX7_undo_24 : decode cX7_undo 24 = .ok (.bipush 24, 2) := by decide +kernel
theorem dX7_undo_26 : decode cX7_undo 26 = .ok (.if_icmp .ge 16, 3) := by decide +kernel
theorem dX7_undo_29 : decode cX7_undo 29 = .ok (.aload_n 0, 1) := by decide +kernel
theorem dX7_undo_30 : decode cX7_undo 30 = .ok (.getfield 60, 3) := by decide +kernel
theorem dX7_undo_33 : decode cX7_undo 33 = .ok (.iload_n 1, 1) := by decide +kernel
theorem dX7_undo_34 : decode cX7_undo 34 = .ok (.iconst 0, 1) := by decide +kernel
theorem dX7_undo_35 : decode cX7_undo 35 = .ok (.bastore, 1) := by decide +kernel
theorem dX7_undo_36 : decode cX7_undo 36 = .ok (.iinc 1 1, 3) := by decide +kernel
theorem dX7_undo_39 : decode cX7_undo 39 = .ok (.goto (-16), 3) := by decide +kernel
theorem dX7_undo_42 : decode cX7_undo 42 = .ok (.aload_n 0, 1) := by decide +kernel
theorem dX7_undo_43 : decode cX7_undo 43 = .ok (.iconst 0, 1) := by decide +kernel
theorem dX7_undo_44 : decode cX7_undo 44 = .ok (.putfield 144, 3) := by decide +kernel
theorem dX7_undo_47 : decode cX7_undo 47 = .ok (.aload_n 0, 1) := by decide +kernel
theorem dX7_undo_48 : decode cX7_undo 48 = .ok (.bipush (-5), 2) := by decide +kernel
theorem dX7_undo_50 : decode cX7_undo 50 = .ok (.putfield 70, 3) := by decide +kernel
theorem dX7_undo_53 : decode cX7_undo 53 = .ok (.aload_n 0, 1) := by decide +kernel
theorem dX7_undo_54 : decode cX7_undo 54 = .ok (.iconst 1, 1) := by decide +kernel
theorem dX7_undo_55 : decode cX7_undo 55 = .ok (.invokevirtual 231, 3) := by decide +kernel
theorem dX7_undo_58 : decode cX7_undo 58 = .ok (.ireturn, 1) := by decide +kernel
