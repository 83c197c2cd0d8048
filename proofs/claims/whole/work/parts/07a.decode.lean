theorem dX0_init_0 : decode cX0_init 0 = .ok (.aload_n 0, 1) := by decide +kernel
theorem dX0_init_1 : decode cX0_init 1 = .ok (.invokespecial 3, 3) := by decide +kernel
theorem dX0_init_4 : decode cX0_init 4 = .ok (.aload_n 0, 1) := by decide +kernel
theorem dX0_init_5 : decode cX0_init 5 = .ok (.new 9, 3) := by decide +kernel
theorem dX0_init_8 : decode cX0_init 8 = .ok (.dup, 1) := by decide +kernel
theorem dX0_init_9 : decode cX0_init 9 = .ok (.invokespecial 11, 3) := by decide +kernel
theorem dX0_init_12 : decode cX0_init 12 = .ok (.putfield 12, 3) := by decide +kernel
theorem dX0_init_15 : decode cX0_init 15 = .ok (.aload_n 0, 1) := by decide +kernel
theorem dX0_init_16 : decode cX0_init 16 = .ok (.bipush 16, 2) := by decide +kernel
theorem dX0_init_18 : decode cX0_init 18 = .ok (.newarray .int, 2) := by decide +kernel
theorem dX0_init_20 : decode cX0_init 20 = .ok (.putfield 18, 3) := by decide +kernel
theorem dX0_init_23 : decode cX0_init 23 = .ok (.aload_n 0, 1) := by decide +kernel
theorem dX0_init_24 : decode cX0_init 24 = .ok (.bipush (-5), 2) := by decide +kernel
theorem dX0_init_26 : decode cX0_init 26 = .ok (.putfield 22, 3) := by decide +kernel
theorem dX0_init_29 : decode cX0_init 29 = .ok (.return_, 1) := by decide +kernel
theorem dX0_forgetBuild_0 : decode cX0_forgetBuild 0 = .ok (.aload_n 0, 1) := by decide +kernel
theorem dX0_forgetBuild_1 : decode cX0_forgetBuild 1 = .ok (.iconst 0, 1) := by decide +kernel
theorem dX0_forgetBuild_2 : decode cX0_forgetBuild 2 = .ok (.putfield 26, 3) := by decide +kernel
theorem dX0_forgetBuild_5 : decode cX0_forgetBuild 5 = .ok (.aload_n 0, 1) := by decide +kernel
theorem dX0_forgetBuild_6 : decode cX0_forgetBuild 6 = .ok (.iconst 0, 1) := by decide +kernel
theorem dX0_forgetBuild_7 : decode cX0_forgetBuild 7 = .ok (.putfield 29, 3) := by decide +kernel
theorem dX0_forgetBuild_10 : decode cX0_forgetBuild 10 = .ok (.aload_n 0, 1) := by decide +kernel
theorem dX0_forgetBuild_11 : decode cX0_forgetBuild 11 = .ok (.iconst 0, 1) := by decide +kernel
theorem dX0_forgetBuild_12 : decode cX0_forgetBuild 12 = .ok (.putfield 32, 3) := by decide +kernel
theorem dX0_forgetBuild_15 : decode cX0_forgetBuild 15 = .ok (.aload_n 0, 1) := by decide +kernel
theorem dX0_forgetBuild_16 : decode cX0_forgetBuild 16 = .ok (.bipush (-5), 2) := by decide +kernel
theorem dX0_forgetBuild_18 : decode cX0_forgetBuild 18 = .ok (.putfield 22, 3) := by decide +kernel
theorem dX0_forgetBuild_21 : decode cX0_forgetBuild 21 = .ok (.return_, 1) := by decide +kernel
theorem dX0_doneAt_0 : decode cX0_doneAt 0 = .ok (.iload_n 1, 1) := by decide +kernel
theorem dX0_doneAt_1 : decode cX0_doneAt 1 = .ok (.ifCond .lt 20, 3) := by decide +kernel
theorem dX0_doneAt_4 : decode cX0_doneAt 4 = .ok (.iload_n 1, 1) := by decide +kernel
theorem dX0_doneAt_5 : decode cX0_doneAt 5 = .ok (.aload_n 0, 1) := by decide +kernel
theorem dX0_doneAt_6 : decode cX0_doneAt 6 = .ok (.getfield 26, 3) := by decide +kernel
theorem dX0_doneAt_9 : decode cX0_doneAt 9 = .ok (.if_icmp .ge 12, 3) := by decide +kernel
theorem dX0_doneAt_12 : decode cX0_doneAt 12 = .ok (.aload_n 0, 1) := by decide +kernel
theorem dX0_doneAt_13 : decode cX0_doneAt 13 = .ok (.getfield 18, 3) := by decide +kernel
theorem dX0_doneAt_16 : decode cX0_doneAt 16 = .ok (.iload_n 1, 1) := by decide +kernel
theorem dX0_doneAt_17 : decode cX0_doneAt 17 = .ok (.iaload, 1) := by decide +kernel
theorem dX0_doneAt_18 : decode cX0_doneAt 18 = .ok (.goto 5, 3) := by decide +kernel
theorem dX0_doneAt_21 : decode cX0_doneAt 21 = .ok (.bipush (-5), 2) := by decide +kernel
theorem dX0_doneAt_23 : decode cX0_doneAt 23 = .ok (.ireturn, 1) := by decide +kernel
theorem dX0_startsFor_0 : decode cX0_startsFor 0 = .ok (.aload_n 0, 1) := by decide +kernel
theorem dX0_startsFor_1 : decode cX0_startsFor 1 = .ok (.getfield 35, 3) := by decide +kernel
theorem dX0_startsFor_4 : decode cX0_startsFor 4 = .ok (.istore_n 2, 1) := by decide +kernel
theorem dX0_startsFor_5 : decode cX0_startsFor 5 = .ok (.aload_n 0, 1) := by decide +kernel
theorem dX0_startsFor_6 : decode cX0_startsFor 6 = .ok (.invokevirtual 38, 3) := by decide +kernel
theorem dX0_startsFor_9 : decode cX0_startsFor 9 = .ok (.aload_n 0, 1) := by decide +kernel
theorem dX0_startsFor_10 : decode cX0_startsFor 10 = .ok (.iload_n 1, 1) := by decide +kernel
theorem dX0_startsFor_11 : decode cX0_startsFor 11 = .ok (.iconst 1, 1) := by decide +kernel
theorem dX0_startsFor_12 : decode cX0_startsFor 12 = .ok (.invokevirtual 41, 3) := by decide +kernel
theorem dX0_startsFor_15 : decode cX0_startsFor 15 = .ok (.aload_n 0, 1) := by decide +kernel
theorem dX0_startsFor_16 : decode cX0_startsFor 16 = .ok (.getfield 35, 3) := by decide +kernel
theorem dX0_startsFor_19 : decode cX0_startsFor 19 = .ok (.iload_n 2, 1) := by decide +kernel
theorem dX0_startsFor_20 : decode cX0_startsFor 20 = .ok (.isub, 1) := by decide +kernel
theorem dX0_startsFor_21 : decode cX0_startsFor 21 = .ok (.ireturn, 1) := by decide +kernel
theorem dX0_buildEach_0 : decode cX0_buildEach 0 = .ok (.aload_n 0, 1) := by decide +kernel
theorem dX0_buildEach_1 : decode cX0_buildEach 1 = .ok (.invokevirtual 38, 3) := by decide +kernel
theorem dX0_buildEach_4 : decode cX0_buildEach 4 = .ok (.bipush 8, 2) := by decide +kernel
theorem dX0_buildEach_6 : decode cX0_buildEach 6 = .ok (.istore_n 3, 1) := by decide +kernel
theorem dX0_buildEach_7 : decode cX0_buildEach 7 = .ok (.iload_n 3, 1) := by decide +kernel
theorem dX0_buildEach_8 : decode cX0_buildEach 8 = .ok (.bipush 24, 2) := by decide +kernel
theorem dX0_buildEach_10 : decode cX0_buildEach 10 = .ok (.if_icmp .ge 49, 3) := by decide +kernel
theorem dX0_buildEach_13 : decode cX0_buildEach 13 = .ok (.iload_n 1, 1) := by decide +kernel
theorem dX0_buildEach_14 : decode cX0_buildEach 14 = .ok (.iload_n 3, 1) := by decide +kernel
theorem dX0_buildEach_15 : decode cX0_buildEach 15 = .ok (.invokestatic 45, 3) := by decide +kernel
theorem dX0_buildEach_18 : decode cX0_buildEach 18 = .ok (.ifCond .ne 6, 3) := by decide +kernel
theorem dX0_buildEach_21 : decode cX0_buildEach 21 = .ok (.goto 32, 3) := by decide +kernel
theorem dX0_buildEach_24 : decode cX0_buildEach 24 = .ok (.aload_n 0, 1) := by decide +kernel
theorem dX0_buildEach_25 : decode cX0_buildEach 25 = .ok (.iload_n 3, 1) := by decide +kernel
theorem dX0_buildEach_26 : decode cX0_buildEach 26 = .ok (.iconst 1, 1) := by decide +kernel
theorem dX0_buildEach_27 : decode cX0_buildEach 27 = .ok (.invokevirtual 41, 3) := by decide +kernel
theorem dX0_buildEach_30 : decode cX0_buildEach 30 = .ok (.iload_n 2, 1) := by decide +kernel
theorem dX0_buildEach_31 : decode cX0_buildEach 31 = .ok (.ifCond .eq 22, 3) := by decide +kernel
theorem dX0_buildEach_34 : decode cX0_buildEach 34 = .ok (.aload_n 0, 1) := by decide +kernel
theorem dX0_buildEach_35 : decode cX0_buildEach 35 = .ok (.getfield 12, 3) := by decide +kernel
theorem dX0_buildEach_38 : decode cX0_buildEach 38 = .ok (.iload_n 3, 1) := by decide +kernel
theorem dX0_buildEach_39 : decode cX0_buildEach 39 = .ok (.invokevirtual 49, 3) := by decide +kernel
theorem dX0_buildEach_42 : decode cX0_buildEach 42 = .ok (.ifnull 11, 3) := by decide +kernel
theorem dX0_buildEach_45 : decode cX0_buildEach 45 = .ok (.aload_n 0, 1) := by decide +kernel
theorem dX0_buildEach_46 : decode cX0_buildEach 46 = .ok (.iload_n 3, 1) := by decide +kernel
theorem dX0_buildEach_47 : decode cX0_buildEach 47 = .ok (.putfield 22, 3) := by decide +kernel
theorem dX0_buildEach_50 : decode cX0_buildEach 50 = .ok (.goto 9, 3) := by decide +kernel
theorem dX0_buildEach_53 : decode cX0_buildEach 53 = .ok (.iinc 3 1, 3) := by decide +kernel
theorem dX0_buildEach_56 : decode cX0_buildEach 56 = .ok (.goto (-49), 3) := by decide +kernel
theorem dX0_buildEach_59 : decode cX0_buildEach 59 = .ok (.aload_n 0, 1) := by decide +kernel
theorem dX0_buildEach_60 : decode cX0_buildEach 60 = .ok (.getfield 26, 3) := by decide +kernel
theorem dX0_buildEach_63 : decode cX0_buildEach 63 = .ok (.ireturn, 1) := by decide +kernel
theorem dX0_buildTarget_0 : decode cX0_buildTarget 0 = .ok (.aload_n 0, 1) := by decide +kernel
theorem dX0_buildTarget_1 : decode cX0_buildTarget 1 = .ok (.getfield 12, 3) := by decide +kernel
theorem dX0_buildTarget_4 : decode cX0_buildTarget 4 = .ok (.iload_n 1, 1) := by decide +kernel
theorem dX0_buildTarget_5 : decode cX0_buildTarget 5 = .ok (.invokevirtual 53, 3) := by decide +kernel
theorem dX0_buildTarget_8 : decode cX0_buildTarget 8 = .ok (.astore_n 3, 1) := by decide +kernel
theorem dX0_buildTarget_9 : decode cX0_buildTarget 9 = .ok (.aload_n 3, 1) := by decide +kernel
theorem dX0_buildTarget_10 : decode cX0_buildTarget 10 = .ok (.ifnull 25, 3) := by decide +kernel
theorem dX0_buildTarget_13 : decode cX0_buildTarget 13 = .ok (.aload_n 0, 1) := by decide +kernel
theorem dX0_buildTarget_14 : decode cX0_buildTarget 14 = .ok (.getfield 29, 3) := by decide +kernel
theorem dX0_buildTarget_17 : decode cX0_buildTarget 17 = .ok (.aload_n 0, 1) := by decide +kernel
theorem dX0_buildTarget_18 : decode cX0_buildTarget 18 = .ok (.getfield 32, 3) := by decide +kernel
theorem dX0_buildTarget_21 : decode cX0_buildTarget 21 = .ok (.ior, 1) := by decide +kernel
theorem dX0_buildTarget_22 : decode cX0_buildTarget 22 = .ok (.iload_n 1, 1) := by decide +kernel
theorem dX0_buildTarget_23 : decode cX0_buildTarget 23 = .ok (.invokestatic 45, 3) := by decide +kernel
theorem dX0_buildTarget_26 : decode cX0_buildTarget 26 = .ok (.ifCond .ne 9, 3) := by decide +kernel
theorem dX0_buildTarget_29 : decode cX0_buildTarget 29 = .ok (.iload_n 2, 1) := by decide +kernel
theorem dX0_buildTarget_30 : decode cX0_buildTarget 30 = .ok (.bipush 16, 2) := by decide +kernel
theorem dX0_buildTarget_32 : decode cX0_buildTarget 32 = .ok (.if_icmp .le 4, 3) := by decide +kernel
theorem dX0_buildTarget_35 : decode cX0_buildTarget 35 = .ok (.return_, 1) := by decide +kernel
theorem dX0_buildTarget_36 : decode cX0_buildTarget 36 = .ok (.aload_n 0, 1) := by decide +kernel
theorem dX0_buildTarget_37 : decode cX0_buildTarget 37 = .ok (.dup, 1) := by decide +kernel
theorem dX0_buildTarget_38 : decode cX0_buildTarget 38 = .ok (.getfield 32, 3) := by decide +kernel
theorem dX0_buildTarget_41 : decode cX0_buildTarget 41 = .ok (.iload_n 1, 1) := by decide +kernel
theorem dX0_buildTarget_42 : decode cX0_buildTarget 42 = .ok (.invokestatic 57, 3) := by decide +kernel
theorem dX0_buildTarget_45 : decode cX0_buildTarget 45 = .ok (.ior, 1) := by decide +kernel
theorem dX0_buildTarget_46 : decode cX0_buildTarget 46 = .ok (.putfield 32, 3) := by decide +kernel
theorem dX0_buildTarget_49 : decode cX0_buildTarget 49 = .ok (.aload_n 3, 1) := by decide +kernel
theorem dX0_buildTarget_50 : decode cX0_buildTarget 50 = .ok (.getfield 61, 3) := by decide +kernel
theorem dX0_buildTarget_53 : decode cX0_buildTarget 53 = .ok (.ifCond .ne 18, 3) := by decide +kernel
theorem dX0_buildTarget_56 : decode cX0_buildTarget 56 = .ok (.aload_n 3, 1) := by decide +kernel
theorem dX0_buildTarget_57 : decode cX0_buildTarget 57 = .ok (.aload_n 0, 1) := by decide +kernel
theorem dX0_buildTarget_58 : decode cX0_buildTarget 58 = .ok (.getfield 12, 3) := by decide +kernel
theorem dX0_buildTarget_61 : decode cX0_buildTarget 61 = .ok (.iload_n 1, 1) := by decide +kernel
theorem dX0_buildTarget_62 : decode cX0_buildTarget 62 = .ok (.invokevirtual 66, 3) := by decide +kernel
theorem dX0_buildTarget_65 : decode cX0_buildTarget 65 = .ok (.putfield 69, 3) := by decide +kernel
theorem dX0_buildTarget_68 : decode cX0_buildTarget 68 = .ok (.goto 32, 3) := by decide +kernel
theorem dX0_buildTarget_71 : decode cX0_buildTarget 71 = .ok (.aload_n 0, 1) := by decide +kernel
theorem dX0_buildTarget_72 : decode cX0_buildTarget 72 = .ok (.aload_n 3, 1) := by decide +kernel
theorem dX0_buildTarget_73 : decode cX0_buildTarget 73 = .ok (.iload_n 2, 1) := by decide +kernel
theorem dX0_buildTarget_74 : decode cX0_buildTarget 74 = .ok (.invokevirtual 73, 3) := by decide +kernel
theorem dX0_buildTarget_77 : decode cX0_buildTarget 77 = .ok (.ifCond .eq 16, 3) := by decide +kernel
theorem dX0_buildTarget_80 : decode cX0_buildTarget 80 = .ok (.aload_n 0, 1) := by decide +kernel
theorem dX0_buildTarget_81 : decode cX0_buildTarget 81 = .ok (.dup, 1) := by decide +kernel
theorem dX0_buildTarget_82 : decode cX0_buildTarget 82 = .ok (.getfield 77, 3) := by decide +kernel
theorem dX0_buildTarget_85 : decode cX0_buildTarget 85 = .ok (.iconst 1, 1) := by decide +kernel
theorem dX0_buildTarget_86 : decode cX0_buildTarget 86 = .ok (.iadd, 1) := by decide +kernel
theorem dX0_buildTarget_87 : decode cX0_buildTarget 87 = .ok (.putfield 77, 3) := by decide +kernel
theorem dX0_buildTarget_90 : decode cX0_buildTarget 90 = .ok (.goto 10, 3) := by decide +kernel
theorem dX0_buildTarget_93 : decode cX0_buildTarget 93 = .ok (.aload_n 0, 1) := by decide +kernel
theorem dX0_buildTarget_94 : decode cX0_buildTarget 94 = .ok (.iload_n 1, 1) := by decide +kernel
theorem dX0_buildTarget_95 : decode cX0_buildTarget 95 = .ok (.aload_n 3, 1) := by decide +kernel
theorem dX0_buildTarget_96 : decode cX0_buildTarget 96 = .ok (.iload_n 2, 1) := by decide +kernel
theorem dX0_buildTarget_97 : decode cX0_buildTarget 97 = .ok (.invokevirtual 80, 3) := by decide +kernel
theorem dX0_buildTarget_100 : decode cX0_buildTarget 100 = .ok (.aload_n 0, 1) := by decide +kernel
theorem dX0_buildTarget_101 : decode cX0_buildTarget 101 = .ok (.dup, 1) := by decide +kernel
theorem dX0_buildTarget_102 : decode cX0_buildTarget 102 = .ok (.getfield 32, 3) := by decide +kernel
theorem dX0_buildTarget_105 : decode cX0_buildTarget 105 = .ok (.iload_n 1, 1) := by decide +kernel
theorem dX0_buildTarget_106 : decode cX0_buildTarget 106 = .ok (.invokestatic 57, 3) := by decide +kernel
theorem dX0_buildTarget_109 : decode cX0_buildTarget 109 = .ok (.iconst (-1), 1) := by decide +kernel
theorem dX0_buildTarget_110 : decode cX0_buildTarget 110 = .ok (.ixor, 1) := by decide +kernel
theorem dX0_buildTarget_111 : decode cX0_buildTarget 111 = .ok (.iand, 1) := by decide +kernel
theorem dX0_buildTarget_112 : decode cX0_buildTarget 112 = .ok (.putfield 32, 3) := by decide +kernel
theorem dX0_buildTarget_115 : decode cX0_buildTarget 115 = .ok (.aload_n 0, 1) := by decide +kernel
theorem dX0_buildTarget_116 : decode cX0_buildTarget 116 = .ok (.iload_n 1, 1) := by decide +kernel
theorem dX0_buildTarget_117 : decode cX0_buildTarget 117 = .ok (.invokevirtual 84, 3) := by decide +kernel
theorem dX0_buildTarget_120 : decode cX0_buildTarget 120 = .ok (.return_, 1) := by decide +kernel
theorem dX0_noteDone_0 : decode cX0_noteDone 0 = .ok (.aload_n 0, 1) := by decide +kernel
theorem dX0_noteDone_1 : decode cX0_noteDone 1 = .ok (.getfield 26, 3) := by decide +kernel
theorem dX0_noteDone_4 : decode cX0_noteDone 4 = .ok (.ifCond .lt 32, 3) := by decide +kernel
theorem dX0_noteDone_7 : decode cX0_noteDone 7 = .ok (.aload_n 0, 1) := by decide +kernel
theorem dX0_noteDone_8 : decode cX0_noteDone 8 = .ok (.getfield 26, 3) := by decide +kernel
theorem dX0_noteDone_11 : decode cX0_noteDone 11 = .ok (.bipush 16, 2) := by decide +kernel
theorem dX0_noteDone_13 : decode cX0_noteDone 13 = .ok (.if_icmp .ge 23, 3) := by decide +kernel
theorem dX0_noteDone_16 : decode cX0_noteDone 16 = .ok (.aload_n 0, 1) := by decide +kernel
theorem dX0_noteDone_17 : decode cX0_noteDone 17 = .ok (.getfield 18, 3) := by decide +kernel
theorem dX0_noteDone_20 : decode cX0_noteDone 20 = .ok (.aload_n 0, 1) := by decide +kernel
theorem dX0_noteDone_21 : decode cX0_noteDone 21 = .ok (.getfield 26, 3) := by decide +kernel
theorem dX0_noteDone_24 : decode cX0_noteDone 24 = .ok (.iload_n 1, 1) := by decide +kernel
theorem dX0_noteDone_25 : decode cX0_noteDone 25 = .ok (.iastore, 1) := by decide +kernel
theorem dX0_noteDone_26 : decode cX0_noteDone 26 = .ok (.aload_n 0, 1) := by decide +kernel
theorem dX0_noteDone_27 : decode cX0_noteDone 27 = .ok (.dup, 1) := by decide +kernel
theorem dX0_noteDone_28 : decode cX0_noteDone 28 = .ok (.getfield 26, 3) := by decide +kernel
theorem dX0_noteDone_31 : decode cX0_noteDone 31 = .ok (.iconst 1, 1) := by decide +kernel
theorem dX0_noteDone_32 : decode cX0_noteDone 32 = .ok (.iadd, 1) := by decide +kernel
theorem dX0_noteDone_33 : decode cX0_noteDone 33 = .ok (.putfield 26, 3) := by decide +kernel
theorem dX0_noteDone_36 : decode cX0_noteDone 36 = .ok (.aload_n 0, 1) := by decide +kernel
theorem dX0_noteDone_37 : decode cX0_noteDone 37 = .ok (.dup, 1) := by decide +kernel
theorem dX0_noteDone_38 : decode cX0_noteDone 38 = .ok (.getfield 29, 3) := by decide +kernel
theorem dX0_noteDone_41 : decode cX0_noteDone 41 = .ok (.iload_n 1, 1) := by decide +kernel
theorem dX0_noteDone_42 : decode cX0_noteDone 42 = .ok (.invokestatic 57, 3) := by decide +kernel
theorem dX0_noteDone_45 : decode cX0_noteDone 45 = .ok (.ior, 1) := by decide +kernel
theorem dX0_noteDone_46 : decode cX0_noteDone 46 = .ok (.putfield 29, 3) := by decide +kernel
theorem dX0_noteDone_49 : decode cX0_noteDone 49 = .ok (.return_, 1) := by decide +kernel
theorem dX0_isStillSame_0 : decode cX0_isStillSame 0 = .ok (.aload_n 1, 1) := by decide +kernel
theorem dX0_isStillSame_1 : decode cX0_isStillSame 1 = .ok (.invokevirtual 88, 3) := by decide +kernel
theorem dX0_isStillSame_4 : decode cX0_isStillSame 4 = .ok (.ifCond .ne 5, 3) := by decide +kernel
theorem dX0_isStillSame_7 : decode cX0_isStillSame 7 = .ok (.iconst 0, 1) := by decide +kernel
theorem dX0_isStillSame_8 : decode cX0_isStillSame 8 = .ok (.ireturn, 1) := by decide +kernel
theorem dX0_isStillSame_9 : decode cX0_isStillSame 9 = .ok (.iconst 0, 1) := by decide +kernel
theorem dX0_isStillSame_10 : decode cX0_isStillSame 10 = .ok (.istore_n 3, 1) := by decide +kernel
theorem dX0_isStillSame_11 : decode cX0_isStillSame 11 = .ok (.iload_n 3, 1) := by decide +kernel
theorem dX0_isStillSame_12 : decode cX0_isStillSame 12 = .ok (.aload_n 1, 1) := by decide +kernel
theorem dX0_isStillSame_13 : decode cX0_isStillSame 13 = .ok (.getfield 92, 3) := by decide +kernel
theorem dX0_isStillSame_16 : decode cX0_isStillSame 16 = .ok (.if_icmp .ge 61, 3) := by decide +kernel
theorem dX0_isStillSame_19 : decode cX0_isStillSame 19 = .ok (.aload_n 1, 1) := by decide +kernel
theorem dX0_isStillSame_20 : decode cX0_isStillSame 20 = .ok (.iload_n 3, 1) := by decide +kernel
theorem dX0_isStillSame_21 : decode cX0_isStillSame 21 = .ok (.invokevirtual 95, 3) := by decide +kernel
theorem dX0_isStillSame_24 : decode cX0_isStillSame 24 = .ok (.istore 4, 2) := by decide +kernel
theorem dX0_isStillSame_26 : decode cX0_isStillSame 26 = .ok (.aload_n 0, 1) := by decide +kernel
theorem dX0_isStillSame_27 : decode cX0_isStillSame 27 = .ok (.getfield 32, 3) := by decide +kernel
theorem dX0_isStillSame_30 : decode cX0_isStillSame 30 = .ok (.iload 4, 2) := by decide +kernel
theorem dX0_isStillSame_32 : decode cX0_isStillSame 32 = .ok (.invokestatic 45, 3) := by decide +kernel
theorem dX0_isStillSame_35 : decode cX0_isStillSame 35 = .ok (.ifCond .eq 5, 3) := by decide +kernel
theorem dX0_isStillSame_38 : decode cX0_isStillSame 38 = .ok (.iconst 0, 1) := by decide +kernel
theorem dX0_isStillSame_39 : decode cX0_isStillSame 39 = .ok (.ireturn, 1) := by decide +kernel
theorem dX0_isStillSame_40 : decode cX0_isStillSame 40 = .ok (.aload_n 0, 1) := by decide +kernel
theorem dX0_isStillSame_41 : decode cX0_isStillSame 41 = .ok (.iload 4, 2) := by decide +kernel
theorem dX0_isStillSame_43 : decode cX0_isStillSame 43 = .ok (.iload_n 2, 1) := by decide +kernel
theorem dX0_isStillSame_44 : decode cX0_isStillSame 44 = .ok (.iconst 1, 1) := by decide +kernel
theorem dX0_isStillSame_45 : decode cX0_isStillSame 45 = .ok (.iadd, 1) := by decide +kernel
theorem dX0_isStillSame_46 : decode cX0_isStillSame 46 = .ok (.invokevirtual 41, 3) := by decide +kernel
theorem dX0_isStillSame_49 : decode cX0_isStillSame 49 = .ok (.aload_n 0, 1) := by decide +kernel
theorem dX0_isStillSame_50 : decode cX0_isStillSame 50 = .ok (.getfield 12, 3) := by decide +kernel
theorem dX0_isStillSame_53 : decode cX0_isStillSame 53 = .ok (.iload 4, 2) := by decide +kernel
theorem dX0_isStillSame_55 : decode cX0_isStillSame 55 = .ok (.invokevirtual 98, 3) := by decide +kernel
theorem dX0_isStillSame_58 : decode cX0_isStillSame 58 = .ok (.aload_n 1, 1) := by decide +kernel
theorem dX0_isStillSame_59 : decode cX0_isStillSame 59 = .ok (.iload_n 3, 1) := by decide +kernel
theorem dX0_isStillSame_60 : decode cX0_isStillSame 60 = .ok (.invokevirtual 101, 3) := by decide +kernel
theorem dX0_isStillSame_63 : decode cX0_isStillSame 63 = .ok (.invokestatic 104, 3) := by decide +kernel
theorem dX0_isStillSame_66 : decode cX0_isStillSame 66 = .ok (.ifCond .ne 5, 3) := by decide +kernel
theorem dX0_isStillSame_69 : decode cX0_isStillSame 69 = .ok (.iconst 0, 1) := by decide +kernel
theorem dX0_isStillSame_70 : decode cX0_isStillSame 70 = .ok (.ireturn, 1) := by decide +kernel
theorem dX0_isStillSame_71 : decode cX0_isStillSame 71 = .ok (.iinc 3 1, 3) := by decide +kernel
theorem dX0_isStillSame_74 : decode cX0_isStillSame 74 = .ok (.goto (-63), 3) := by decide +kernel
theorem dX0_isStillSame_77 : decode cX0_isStillSame 77 = .ok (.iconst 1, 1) := by decide +kernel
theorem dX0_isStillSame_78 : decode cX0_isStillSame 78 = .ok (.ireturn, 1) := by decide +kernel
theorem dX0_runToEnd_0 : decode cX0_runToEnd 0 = .ok (.aload_n 0, 1) := by decide +kernel
theorem dX0_runToEnd_1 : decode cX0_runToEnd 1 = .ok (.iload_n 1, 1) := by decide +kernel
theorem dX0_runToEnd_2 : decode cX0_runToEnd 2 = .ok (.aload_n 2, 1) := by decide +kernel
theorem dX0_runToEnd_3 : decode cX0_runToEnd 3 = .ok (.invokevirtual 110, 3) := by decide +kernel
theorem dX0_runToEnd_6 : decode cX0_runToEnd 6 = .ok (.astore 4, 2) := by decide +kernel
theorem dX0_runToEnd_8 : decode cX0_runToEnd 8 = .ok (.iconst 0, 1) := by decide +kernel
theorem dX0_runToEnd_9 : decode cX0_runToEnd 9 = .ok (.istore 5, 2) := by decide +kernel
theorem dX0_runToEnd_11 : decode cX0_runToEnd 11 = .ok (.aload 4, 2) := by decide +kernel
theorem dX0_runToEnd_13 : decode cX0_runToEnd 13 = .ok (.ifnonnull 45, 3) := by decide +kernel
theorem dX0_runToEnd_16 : decode cX0_runToEnd 16 = .ok (.iload 5, 2) := by decide +kernel
theorem dX0_runToEnd_18 : decode cX0_runToEnd 18 = .ok (.bipush 16, 2) := by decide +kernel
theorem dX0_runToEnd_20 : decode cX0_runToEnd 20 = .ok (.if_icmp .ge 38, 3) := by decide +kernel
theorem dX0_runToEnd_23 : decode cX0_runToEnd 23 = .ok (.aload_n 0, 1) := by decide +kernel
theorem dX0_runToEnd_24 : decode cX0_runToEnd 24 = .ok (.dup, 1) := by decide +kernel
theorem dX0_runToEnd_25 : decode cX0_runToEnd 25 = .ok (.getfield 114, 3) := by decide +kernel
theorem dX0_runToEnd_28 : decode cX0_runToEnd 28 = .ok (.iconst 1, 1) := by decide +kernel
theorem dX0_runToEnd_29 : decode cX0_runToEnd 29 = .ok (.iadd, 1) := by decide +kernel
theorem dX0_runToEnd_30 : decode cX0_runToEnd 30 = .ok (.putfield 114, 3) := by decide +kernel
theorem dX0_runToEnd_33 : decode cX0_runToEnd 33 = .ok (.aload_n 0, 1) := by decide +kernel
theorem dX0_runToEnd_34 : decode cX0_runToEnd 34 = .ok (.aload_n 0, 1) := by decide +kernel
theorem dX0_runToEnd_35 : decode cX0_runToEnd 35 = .ok (.getfield 117, 3) := by decide +kernel
theorem dX0_runToEnd_38 : decode cX0_runToEnd 38 = .ok (.iload_n 3, 1) := by decide +kernel
theorem dX0_runToEnd_39 : decode cX0_runToEnd 39 = .ok (.iconst 1, 1) := by decide +kernel
theorem dX0_runToEnd_40 : decode cX0_runToEnd 40 = .ok (.iadd, 1) := by decide +kernel
theorem dX0_runToEnd_41 : decode cX0_runToEnd 41 = .ok (.invokevirtual 41, 3) := by decide +kernel
theorem dX0_runToEnd_44 : decode cX0_runToEnd 44 = .ok (.aload_n 0, 1) := by decide +kernel
theorem dX0_runToEnd_45 : decode cX0_runToEnd 45 = .ok (.iload_n 1, 1) := by decide +kernel
theorem dX0_runToEnd_46 : decode cX0_runToEnd 46 = .ok (.aload_n 2, 1) := by decide +kernel
theorem dX0_runToEnd_47 : decode cX0_runToEnd 47 = .ok (.invokevirtual 110, 3) := by decide +kernel
theorem dX0_runToEnd_50 : decode cX0_runToEnd 50 = .ok (.astore 4, 2) := by decide +kernel
theorem dX0_runToEnd_52 : decode cX0_runToEnd 52 = .ok (.iinc 5 1, 3) := by decide +kernel
theorem dX0_runToEnd_55 : decode cX0_runToEnd 55 = .ok (.goto (-44), 3) := by decide +kernel
theorem dX0_runToEnd_58 : decode cX0_runToEnd 58 = .ok (.aload 4, 2) := by decide +kernel
theorem dX0_runToEnd_60 : decode cX0_runToEnd 60 = .ok (.ifnonnull 4, 3) := by decide +kernel
theorem dX0_runToEnd_63 : decode cX0_runToEnd 63 = .ok (.return_, 1) := by decide +kernel
theorem dX0_runToEnd_64 : decode cX0_runToEnd 64 = .ok (.aload_n 2, 1) := by decide +kernel
theorem dX0_runToEnd_65 : decode cX0_runToEnd 65 = .ok (.getfield 69, 3) := by decide +kernel
theorem dX0_runToEnd_68 : decode cX0_runToEnd 68 = .ok (.aload 4, 2) := by decide +kernel
theorem dX0_runToEnd_70 : decode cX0_runToEnd 70 = .ok (.invokestatic 104, 3) := by decide +kernel
theorem dX0_runToEnd_73 : decode cX0_runToEnd 73 = .ok (.ifCond .eq 13, 3) := by decide +kernel
theorem dX0_runToEnd_76 : decode cX0_runToEnd 76 = .ok (.aload_n 0, 1) := by decide +kernel
theorem dX0_runToEnd_77 : decode cX0_runToEnd 77 = .ok (.dup, 1) := by decide +kernel
theorem dX0_runToEnd_78 : decode cX0_runToEnd 78 = .ok (.getfield 120, 3) := by decide +kernel
theorem dX0_runToEnd_81 : decode cX0_runToEnd 81 = .ok (.iconst 1, 1) := by decide +kernel
theorem dX0_runToEnd_82 : decode cX0_runToEnd 82 = .ok (.iadd, 1) := by decide +kernel
theorem dX0_runToEnd_83 : decode cX0_runToEnd 83 = .ok (.putfield 120, 3) := by decide +kernel
theorem dX0_runToEnd_86 : decode cX0_runToEnd 86 = .ok (.aload_n 2, 1) := by decide +kernel
theorem dX0_runToEnd_87 : decode cX0_runToEnd 87 = .ok (.aload 4, 2) := by decide +kernel
theorem dX0_runToEnd_89 : decode cX0_runToEnd 89 = .ok (.putfield 69, 3) := by decide +kernel
theorem dX0_runToEnd_92 : decode cX0_runToEnd 92 = .ok (.aload 4, 2) := by decide +kernel
theorem dX0_runToEnd_94 : decode cX0_runToEnd 94 = .ok (.iconst 1, 1) := by decide +kernel
theorem dX0_runToEnd_95 : decode cX0_runToEnd 95 = .ok (.invokevirtual 123, 3) := by decide +kernel
theorem dX0_runToEnd_98 : decode cX0_runToEnd 98 = .ok (.ifCond .eq 7, 3) := by decide +kernel
theorem dX0_runToEnd_101 : decode cX0_runToEnd 101 = .ok (.aload_n 2, 1) := by decide +kernel
theorem dX0_runToEnd_102 : decode cX0_runToEnd 102 = .ok (.invokevirtual 127, 3) := by decide +kernel
theorem dX0_runToEnd_105 : decode cX0_runToEnd 105 = .ok (.return_, 1) := by decide +kernel
theorem dX0_runOnce_0 : decode cX0_runOnce 0 = .ok (.aload_n 0, 1) := by decide +kernel
theorem dX0_runOnce_1 : decode cX0_runOnce 1 = .ok (.dup, 1) := by decide +kernel
theorem dX0_runOnce_2 : decode cX0_runOnce 2 = .ok (.getfield 35, 3) := by decide +kernel
theorem dX0_runOnce_5 : decode cX0_runOnce 5 = .ok (.iconst 1, 1) := by decide +kernel
theorem dX0_runOnce_6 : decode cX0_runOnce 6 = .ok (.iadd, 1) := by decide +kernel
theorem dX0_runOnce_7 : decode cX0_runOnce 7 = .ok (.putfield 35, 3) := by decide +kernel
theorem dX0_runOnce_10 : decode cX0_runOnce 10 = .ok (.aload_n 2, 1) := by decide +kernel
theorem dX0_runOnce_11 : decode cX0_runOnce 11 = .ok (.invokevirtual 130, 3) := by decide +kernel
theorem dX0_runOnce_14 : decode cX0_runOnce 14 = .ok (.lconst 0, 1) := by decide +kernel
theorem dX0_runOnce_15 : decode cX0_runOnce 15 = .ok (.lstore_n 3, 1) := by decide +kernel
theorem dX0_runOnce_16 : decode cX0_runOnce 16 = .ok (.iconst 0, 1) := by decide +kernel
theorem dX0_runOnce_17 : decode cX0_runOnce 17 = .ok (.istore 5, 2) := by decide +kernel
theorem dX0_runOnce_19 : decode cX0_runOnce 19 = .ok (.iconst 0, 1) := by decide +kernel
theorem dX0_runOnce_20 : decode cX0_runOnce 20 = .ok (.istore 6, 2) := by decide +kernel
theorem dX0_runOnce_22 : decode cX0_runOnce 22 = .ok (.iload 6, 2) := by decide +kernel
theorem dX0_runOnce_24 : decode cX0_runOnce 24 = .ok (.aload_n 2, 1) := by decide +kernel
theorem dX0_runOnce_25 : decode cX0_runOnce 25 = .ok (.getfield 61, 3) := by decide +kernel
theorem dX0_runOnce_28 : decode cX0_runOnce 28 = .ok (.if_icmp .ge 202, 3) := by decide +kernel
theorem dX0_runOnce_31 : decode cX0_runOnce 31 = .ok (.iload 5, 2) := by decide +kernel
theorem dX0_runOnce_33 : decode cX0_runOnce 33 = .ok (.ifCond .le 9, 3) := by decide +kernel
theorem dX0_runOnce_36 : decode cX0_runOnce 36 = .ok (.iinc 5 (-1), 3) := by decide +kernel
theorem dX0_runOnce_39 : decode cX0_runOnce 39 = .ok (.goto 185, 3) := by decide +kernel
theorem dX0_runOnce_42 : decode cX0_runOnce 42 = .ok (.aload_n 2, 1) := by decide +kernel
theorem dX0_runOnce_43 : decode cX0_runOnce 43 = .ok (.iload 6, 2) := by decide +kernel
theorem dX0_runOnce_45 : decode cX0_runOnce 45 = .ok (.invokevirtual 133, 3) := by decide +kernel
theorem dX0_runOnce_48 : decode cX0_runOnce 48 = .ok (.istore 7, 2) := by decide +kernel
theorem dX0_runOnce_50 : decode cX0_runOnce 50 = .ok (.aload_n 2, 1) := by decide +kernel
theorem dX0_runOnce_51 : decode cX0_runOnce 51 = .ok (.iload 6, 2) := by decide +kernel
theorem dX0_runOnce_53 : decode cX0_runOnce 53 = .ok (.invokevirtual 136, 3) := by decide +kernel
theorem dX0_runOnce_56 : decode cX0_runOnce 56 = .ok (.istore 8, 2) := by decide +kernel
theorem dX0_runOnce_58 : decode cX0_runOnce 58 = .ok (.iload 8, 2) := by decide +kernel
theorem dX0_runOnce_60 : decode cX0_runOnce 60 = .ok (.i2l, 1) := by decide +kernel
theorem dX0_runOnce_61 : decode cX0_runOnce 61 = .ok (.lstore 9, 2) := by decide +kernel
theorem dX0_runOnce_63 : decode cX0_runOnce 63 = .ok (.iload 7, 2) := by decide +kernel
theorem dX0_runOnce_65 : decode cX0_runOnce 65 = .ok (.invokestatic 139, 3) := by decide +kernel
theorem dX0_runOnce_68 : decode cX0_runOnce 68 = .ok (.ifCond .eq 106, 3) := by decide +kernel
theorem dX0_runOnce_71 : decode cX0_runOnce 71 = .ok (.aload_n 0, 1) := by decide +kernel
theorem dX0_runOnce_72 : decode cX0_runOnce 72 = .ok (.getfield 32, 3) := by decide +kernel
theorem dX0_runOnce_75 : decode cX0_runOnce 75 = .ok (.iload 8, 2) := by decide +kernel
theorem dX0_runOnce_77 : decode cX0_runOnce 77 = .ok (.invokestatic 45, 3) := by decide +kernel
theorem dX0_runOnce_80 : decode cX0_runOnce 80 = .ok (.ifCond .eq 12, 3) := by decide +kernel
theorem dX0_runOnce_83 : decode cX0_runOnce 83 = .ok (.iload_n 1, 1) := by decide +kernel
theorem dX0_runOnce_84 : decode cX0_runOnce 84 = .ok (.iconst 1, 1) := by decide +kernel
theorem dX0_runOnce_85 : decode cX0_runOnce 85 = .ok (.iload 6, 2) := by decide +kernel
theorem dX0_runOnce_87 : decode cX0_runOnce 87 = .ok (.aconst_null, 1) := by decide +kernel
theorem dX0_runOnce_88 : decode cX0_runOnce 88 = .ok (.invokestatic 142, 3) := by decide +kernel
theorem dX0_runOnce_91 : decode cX0_runOnce 91 = .ok (.areturn, 1) := by decide +kernel
theorem dX0_runOnce_92 : decode cX0_runOnce 92 = .ok (.iload 8, 2) := by decide +kernel
theorem dX0_runOnce_94 : decode cX0_runOnce 94 = .ok (.invokestatic 146, 3) := by decide +kernel
theorem dX0_runOnce_97 : decode cX0_runOnce 97 = .ok (.ifCond .ne 15, 3) := by decide +kernel
theorem dX0_runOnce_100 : decode cX0_runOnce 100 = .ok (.aload_n 0, 1) := by decide +kernel
theorem dX0_runOnce_101 : decode cX0_runOnce 101 = .ok (.getfield 29, 3) := by decide +kernel
theorem dX0_runOnce_104 : decode cX0_runOnce 104 = .ok (.iload 8, 2) := by decide +kernel
theorem dX0_runOnce_106 : decode cX0_runOnce 106 = .ok (.invokestatic 45, 3) := by decide +kernel
theorem dX0_runOnce_109 : decode cX0_runOnce 109 = .ok (.ifCond .eq 15, 3) := by decide +kernel
theorem dX0_runOnce_112 : decode cX0_runOnce 112 = .ok (.aload_n 0, 1) := by decide +kernel
theorem dX0_runOnce_113 : decode cX0_runOnce 113 = .ok (.getfield 12, 3) := by decide +kernel
theorem dX0_runOnce_116 : decode cX0_runOnce 116 = .ok (.iload 8, 2) := by decide +kernel
theorem dX0_runOnce_118 : decode cX0_runOnce 118 = .ok (.invokevirtual 98, 3) := by decide +kernel
theorem dX0_runOnce_121 : decode cX0_runOnce 121 = .ok (.goto 4, 3) := by decide +kernel
theorem dX0_runOnce_124 : decode cX0_runOnce 124 = .ok (.aconst_null, 1) := by decide +kernel
theorem dX0_runOnce_125 : decode cX0_runOnce 125 = .ok (.astore 11, 2) := by decide +kernel
theorem dX0_runOnce_127 : decode cX0_runOnce 127 = .ok (.aload 11, 2) := by decide +kernel
theorem dX0_runOnce_129 : decode cX0_runOnce 129 = .ok (.ifnonnull 11, 3) := by decide +kernel
theorem dX0_runOnce_132 : decode cX0_runOnce 132 = .ok (.aload_n 0, 1) := by decide +kernel
theorem dX0_runOnce_133 : decode cX0_runOnce 133 = .ok (.iload 8, 2) := by decide +kernel
theorem dX0_runOnce_135 : decode cX0_runOnce 135 = .ok (.putfield 117, 3) := by decide +kernel
theorem dX0_runOnce_138 : decode cX0_runOnce 138 = .ok (.aconst_null, 1) := by decide +kernel
theorem dX0_runOnce_139 : decode cX0_runOnce 139 = .ok (.areturn, 1) := by decide +kernel
theorem dX0_runOnce_140 : decode cX0_runOnce 140 = .ok (.aload_n 2, 1) := by decide +kernel
theorem dX0_runOnce_141 : decode cX0_runOnce 141 = .ok (.iload 8, 2) := by decide +kernel
theorem dX0_runOnce_143 : decode cX0_runOnce 143 = .ok (.aload 11, 2) := by decide +kernel
theorem dX0_runOnce_145 : decode cX0_runOnce 145 = .ok (.invokevirtual 149, 3) := by decide +kernel
theorem dX0_runOnce_148 : decode cX0_runOnce 148 = .ok (.aload 11, 2) := by decide +kernel
theorem dX0_runOnce_150 : decode cX0_runOnce 150 = .ok (.invokevirtual 153, 3) := by decide +kernel
theorem dX0_runOnce_153 : decode cX0_runOnce 153 = .ok (.ifCond .eq 13, 3) := by decide +kernel
theorem dX0_runOnce_156 : decode cX0_runOnce 156 = .ok (.iload_n 1, 1) := by decide +kernel
theorem dX0_runOnce_157 : decode cX0_runOnce 157 = .ok (.iconst 5, 1) := by decide +kernel
theorem dX0_runOnce_158 : decode cX0_runOnce 158 = .ok (.iload 6, 2) := by decide +kernel
theorem dX0_runOnce_160 : decode cX0_runOnce 160 = .ok (.aload 11, 2) := by decide +kernel
theorem dX0_runOnce_162 : decode cX0_runOnce 162 = .ok (.invokestatic 142, 3) := by decide +kernel
theorem dX0_runOnce_165 : decode cX0_runOnce 165 = .ok (.areturn, 1) := by decide +kernel
theorem dX0_runOnce_166 : decode cX0_runOnce 166 = .ok (.aload 11, 2) := by decide +kernel
theorem dX0_runOnce_168 : decode cX0_runOnce 168 = .ok (.getfield 156, 3) := by decide +kernel
theorem dX0_runOnce_171 : decode cX0_runOnce 171 = .ok (.i2l, 1) := by decide +kernel
theorem dX0_runOnce_172 : decode cX0_runOnce 172 = .ok (.lstore 9, 2) := by decide +kernel
theorem dX0_runOnce_174 : decode cX0_runOnce 174 = .ok (.iload 7, 2) := by decide +kernel
theorem dX0_runOnce_176 : decode cX0_runOnce 176 = .ok (.lload_n 3, 1) := by decide +kernel
theorem dX0_runOnce_177 : decode cX0_runOnce 177 = .ok (.lload 9, 2) := by decide +kernel
theorem dX0_runOnce_179 : decode cX0_runOnce 179 = .ok (.invokestatic 159, 3) := by decide +kernel
theorem dX0_runOnce_182 : decode cX0_runOnce 182 = .ok (.lstore 11, 2) := by decide +kernel
theorem dX0_runOnce_184 : decode cX0_runOnce 184 = .ok (.iload 7, 2) := by decide +kernel
theorem dX0_runOnce_186 : decode cX0_runOnce 186 = .ok (.lload_n 3, 1) := by decide +kernel
theorem dX0_runOnce_187 : decode cX0_runOnce 187 = .ok (.lload 9, 2) := by decide +kernel
theorem dX0_runOnce_189 : decode cX0_runOnce 189 = .ok (.lload 11, 2) := by decide +kernel
theorem dX0_runOnce_191 : decode cX0_runOnce 191 = .ok (.invokestatic 163, 3) := by decide +kernel
theorem dX0_runOnce_194 : decode cX0_runOnce 194 = .ok (.istore 13, 2) := by decide +kernel
theorem dX0_runOnce_196 : decode cX0_runOnce 196 = .ok (.iload 13, 2) := by decide +kernel
theorem dX0_runOnce_198 : decode cX0_runOnce 198 = .ok (.ifCond .eq 13, 3) := by decide +kernel
theorem dX0_runOnce_201 : decode cX0_runOnce 201 = .ok (.iload_n 1, 1) := by decide +kernel
theorem dX0_runOnce_202 : decode cX0_runOnce 202 = .ok (.iload 13, 2) := by decide +kernel
theorem dX0_runOnce_204 : decode cX0_runOnce 204 = .ok (.iload 6, 2) := by decide +kernel
theorem dX0_runOnce_206 : decode cX0_runOnce 206 = .ok (.aconst_null, 1) := by decide +kernel
theorem dX0_runOnce_207 : decode cX0_runOnce 207 = .ok (.invokestatic 142, 3) := by decide +kernel
theorem dX0_runOnce_210 : decode cX0_runOnce 210 = .ok (.areturn, 1) := by decide +kernel
theorem dX0_runOnce_211 : decode cX0_runOnce 211 = .ok (.lload 11, 2) := by decide +kernel
theorem dX0_runOnce_213 : decode cX0_runOnce 213 = .ok (.lstore_n 3, 1) := by decide +kernel
theorem dX0_runOnce_214 : decode cX0_runOnce 214 = .ok (.iload 7, 2) := by decide +kernel
theorem dX0_runOnce_216 : decode cX0_runOnce 216 = .ok (.lload_n 3, 1) := by decide +kernel
theorem dX0_runOnce_217 : decode cX0_runOnce 217 = .ok (.iload 8, 2) := by decide +kernel
theorem dX0_runOnce_219 : decode cX0_runOnce 219 = .ok (.invokestatic 167, 3) := by decide +kernel
theorem dX0_runOnce_222 : decode cX0_runOnce 222 = .ok (.istore 5, 2) := by decide +kernel
theorem dX0_runOnce_224 : decode cX0_runOnce 224 = .ok (.iinc 6 1, 3) := by decide +kernel
theorem dX0_runOnce_227 : decode cX0_runOnce 227 = .ok (.goto (-205), 3) := by decide +kernel
theorem dX0_runOnce_230 : decode cX0_runOnce 230 = .ok (.lload_n 3, 1) := by decide +kernel
theorem dX0_runOnce_231 : decode cX0_runOnce 231 = .ok (.l2i, 1) := by decide +kernel
theorem dX0_runOnce_232 : decode cX0_runOnce 232 = .ok (.invokestatic 171, 3) := by decide +kernel
theorem dX0_runOnce_235 : decode cX0_runOnce 235 = .ok (.areturn, 1) := by decide +kernel
theorem dX0_worked_0 : decode cX0_worked 0 = .ok (.iload_n 0, 1) := by decide +kernel
theorem dX0_worked_1 : decode cX0_worked 1 = .ok (.tableswitch 159 37 61 #[141, 155, 159, 159, 159, 123, 115, 159, 119, 159, 127, 159, 159, 159, 159, 159, 159, 159, 159, 159, 159, 159, 159, 159, 157], 115) := by decide +kernel
theorem dX0_worked_116 : decode cX0_worked 116 = .ok (.lload_n 1, 1) := by decide +kernel
theorem dX0_worked_117 : decode cX0_worked 117 = .ok (.lload_n 3, 1) := by decide +kernel
theorem dX0_worked_118 : decode cX0_worked 118 = .ok (.ladd, 1) := by decide +kernel
theorem dX0_worked_119 : decode cX0_worked 119 = .ok (.lreturn, 1) := by decide +kernel
theorem dX0_worked_120 : decode cX0_worked 120 = .ok (.lload_n 1, 1) := by decide +kernel
theorem dX0_worked_121 : decode cX0_worked 121 = .ok (.lload_n 3, 1) := by decide +kernel
theorem dX0_worked_122 : decode cX0_worked 122 = .ok (.lsub, 1) := by decide +kernel
theorem dX0_worked_123 : decode cX0_worked 123 = .ok (.lreturn, 1) := by decide +kernel
theorem dX0_worked_124 : decode cX0_worked 124 = .ok (.lload_n 1, 1) := by decide +kernel
theorem dX0_worked_125 : decode cX0_worked 125 = .ok (.lload_n 3, 1) := by decide +kernel
theorem dX0_worked_126 : decode cX0_worked 126 = .ok (.lmul, 1) := by decide +kernel
theorem dX0_worked_127 : decode cX0_worked 127 = .ok (.lreturn, 1) := by decide +kernel
theorem dX0_worked_128 : decode cX0_worked 128 = .ok (.lload_n 3, 1) := by decide +kernel
theorem dX0_worked_129 : decode cX0_worked 129 = .ok (.lconst 0, 1) := by decide +kernel
theorem dX0_worked_130 : decode cX0_worked 130 = .ok (.lcmp, 1) := by decide +kernel
theorem dX0_worked_131 : decode cX0_worked 131 = .ok (.ifCond .ne 7, 3) := by decide +kernel
theorem dX0_worked_134 : decode cX0_worked 134 = .ok (.lload_n 1, 1) := by decide +kernel
theorem dX0_worked_135 : decode cX0_worked 135 = .ok (.goto 6, 3) := by decide +kernel
theorem dX0_worked_138 : decode cX0_worked 138 = .ok (.lload_n 1, 1) := by decide +kernel
theorem dX0_worked_139 : decode cX0_worked 139 = .ok (.lload_n 3, 1) := by decide +kernel
theorem dX0_worked_140 : decode cX0_worked 140 = .ok (.ldiv, 1) := by decide +kernel
theorem dX0_worked_141 : decode cX0_worked 141 = .ok (.lreturn, 1) := by decide +kernel
theorem dX0_worked_142 : decode cX0_worked 142 = .ok (.lload_n 3, 1) := by decide +kernel
theorem dX0_worked_143 : decode cX0_worked 143 = .ok (.lconst 0, 1) := by decide +kernel
theorem dX0_worked_144 : decode cX0_worked 144 = .ok (.lcmp, 1) := by decide +kernel
theorem dX0_worked_145 : decode cX0_worked 145 = .ok (.ifCond .ne 7, 3) := by decide +kernel
theorem dX0_worked_148 : decode cX0_worked 148 = .ok (.lload_n 1, 1) := by decide +kernel
theorem dX0_worked_149 : decode cX0_worked 149 = .ok (.goto 6, 3) := by decide +kernel
theorem dX0_worked_152 : decode cX0_worked 152 = .ok (.lload_n 1, 1) := by decide +kernel
theorem dX0_worked_153 : decode cX0_worked 153 = .ok (.lload_n 3, 1) := by decide +kernel
theorem dX0_worked_154 : decode cX0_worked 154 = .ok (.lrem, 1) := by decide +kernel
theorem dX0_worked_155 : decode cX0_worked 155 = .ok (.lreturn, 1) := by decide +kernel
theorem dX0_worked_156 : decode cX0_worked 156 = .ok (.lload_n 3, 1) := by decide +kernel
theorem dX0_worked_157 : decode cX0_worked 157 = .ok (.lreturn, 1) := by decide +kernel
theorem dX0_worked_158 : decode cX0_worked 158 = .ok (.lload_n 3, 1) := by decide +kernel
theorem dX0_worked_159 : decode cX0_worked 159 = .ok (.lreturn, 1) := by decide +kernel
theorem dX0_worked_160 : decode cX0_worked 160 = .ok (.lload_n 1, 1) := by decide +kernel
theorem dX0_worked_161 : decode cX0_worked 161 = .ok (.lreturn, 1) := by decide +kernel
theorem dX0_failingSort_0 : decode cX0_failingSort 0 = .ok (.iload_n 0, 1) := by decide +kernel
theorem dX0_failingSort_1 : decode cX0_failingSort 1 = .ok (.bipush 47, 2) := by decide +kernel
theorem dX0_failingSort_3 : decode cX0_failingSort 3 = .ok (.if_icmp .eq 9, 3) := by decide +kernel
theorem dX0_failingSort_6 : decode cX0_failingSort 6 = .ok (.iload_n 0, 1) := by decide +kernel
theorem dX0_failingSort_7 : decode cX0_failingSort 7 = .ok (.bipush 37, 2) := by decide +kernel
theorem dX0_failingSort_9 : decode cX0_failingSort 9 = .ok (.if_icmp .ne 11, 3) := by decide +kernel
theorem dX0_failingSort_12 : decode cX0_failingSort 12 = .ok (.lload_n 3, 1) := by decide +kernel
theorem dX0_failingSort_13 : decode cX0_failingSort 13 = .ok (.lconst 0, 1) := by decide +kernel
theorem dX0_failingSort_14 : decode cX0_failingSort 14 = .ok (.lcmp, 1) := by decide +kernel
theorem dX0_failingSort_15 : decode cX0_failingSort 15 = .ok (.ifCond .ne 5, 3) := by decide +kernel
theorem dX0_failingSort_18 : decode cX0_failingSort 18 = .ok (.iconst 2, 1) := by decide +kernel
theorem dX0_failingSort_19 : decode cX0_failingSort 19 = .ok (.ireturn, 1) := by decide +kernel
theorem dX0_failingSort_20 : decode cX0_failingSort 20 = .ok (.iload_n 0, 1) := by decide +kernel
theorem dX0_failingSort_21 : decode cX0_failingSort 21 = .ok (.bipush 33, 2) := by decide +kernel
theorem dX0_failingSort_23 : decode cX0_failingSort 23 = .ok (.if_icmp .ne 11, 3) := by decide +kernel
theorem dX0_failingSort_26 : decode cX0_failingSort 26 = .ok (.lload_n 1, 1) := by decide +kernel
theorem dX0_failingSort_27 : decode cX0_failingSort 27 = .ok (.lload_n 3, 1) := by decide +kernel
theorem dX0_failingSort_28 : decode cX0_failingSort 28 = .ok (.lcmp, 1) := by decide +kernel
theorem dX0_failingSort_29 : decode cX0_failingSort 29 = .ok (.ifCond .le 5, 3) := by decide +kernel
theorem dX0_failingSort_32 : decode cX0_failingSort 32 = .ok (.iconst 4, 1) := by decide +kernel
theorem dX0_failingSort_33 : decode cX0_failingSort 33 = .ok (.ireturn, 1) := by decide +kernel
theorem dX0_failingSort_34 : decode cX0_failingSort 34 = .ok (.lload 5, 2) := by decide +kernel
theorem dX0_failingSort_36 : decode cX0_failingSort 36 = .ok (.invokestatic 174, 3) := by decide +kernel
theorem dX0_failingSort_39 : decode cX0_failingSort 39 = .ok (.ifCond .eq 7, 3) := by decide +kernel
theorem dX0_failingSort_42 : decode cX0_failingSort 42 = .ok (.iconst 0, 1) := by decide +kernel
theorem dX0_failingSort_43 : decode cX0_failingSort 43 = .ok (.goto 4, 3) := by decide +kernel
theorem dX0_failingSort_46 : decode cX0_failingSort 46 = .ok (.iconst 3, 1) := by decide +kernel
theorem dX0_failingSort_47 : decode cX0_failingSort 47 = .ok (.ireturn, 1) := by decide +kernel
theorem dX0_stepsToPass_0 : decode cX0_stepsToPass 0 = .ok (.iload_n 0, 1) := by decide +kernel
theorem dX0_stepsToPass_1 : decode cX0_stepsToPass 1 = .ok (.bipush 63, 2) := by decide +kernel
theorem dX0_stepsToPass_3 : decode cX0_stepsToPass 3 = .ok (.if_icmp .ne 9, 3) := by decide +kernel
theorem dX0_stepsToPass_6 : decode cX0_stepsToPass 6 = .ok (.lload_n 1, 1) := by decide +kernel
theorem dX0_stepsToPass_7 : decode cX0_stepsToPass 7 = .ok (.lconst 0, 1) := by decide +kernel
theorem dX0_stepsToPass_8 : decode cX0_stepsToPass 8 = .ok (.lcmp, 1) := by decide +kernel
theorem dX0_stepsToPass_9 : decode cX0_stepsToPass 9 = .ok (.ifCond .eq 15, 3) := by decide +kernel
theorem dX0_stepsToPass_12 : decode cX0_stepsToPass 12 = .ok (.iload_n 0, 1) := by decide +kernel
theorem dX0_stepsToPass_13 : decode cX0_stepsToPass 13 = .ok (.bipush 94, 2) := by decide +kernel
theorem dX0_stepsToPass_15 : decode cX0_stepsToPass 15 = .ok (.if_icmp .ne 13, 3) := by decide +kernel
theorem dX0_stepsToPass_18 : decode cX0_stepsToPass 18 = .ok (.lload_n 1, 1) := by decide +kernel
theorem dX0_stepsToPass_19 : decode cX0_stepsToPass 19 = .ok (.lconst 0, 1) := by decide +kernel
theorem dX0_stepsToPass_20 : decode cX0_stepsToPass 20 = .ok (.lcmp, 1) := by decide +kernel
theorem dX0_stepsToPass_21 : decode cX0_stepsToPass 21 = .ok (.ifCond .ge 7, 3) := by decide +kernel
theorem dX0_stepsToPass_24 : decode cX0_stepsToPass 24 = .ok (.iload_n 3, 1) := by decide +kernel
theorem dX0_stepsToPass_25 : decode cX0_stepsToPass 25 = .ok (.goto 4, 3) := by decide +kernel
theorem dX0_stepsToPass_28 : decode cX0_stepsToPass 28 = .ok (.iconst 0, 1) := by decide +kernel
theorem dX0_stepsToPass_29 : decode cX0_stepsToPass 29 = .ok (.ireturn, 1) := by decide +kernel
theorem dX0_bitOf_0 : decode cX0_bitOf 0 = .ok (.iload_n 0, 1) := by decide +kernel
theorem dX0_bitOf_1 : decode cX0_bitOf 1 = .ok (.invokestatic 178, 3) := by decide +kernel
theorem dX0_bitOf_4 : decode cX0_bitOf 4 = .ok (.ifCond .eq 12, 3) := by decide +kernel
theorem dX0_bitOf_7 : decode cX0_bitOf 7 = .ok (.iconst 1, 1) := by decide +kernel
theorem dX0_bitOf_8 : decode cX0_bitOf 8 = .ok (.iload_n 0, 1) := by decide +kernel
theorem dX0_bitOf_9 : decode cX0_bitOf 9 = .ok (.bipush 8, 2) := by decide +kernel
theorem dX0_bitOf_11 : decode cX0_bitOf 11 = .ok (.isub, 1) := by decide +kernel
theorem dX0_bitOf_12 : decode cX0_bitOf 12 = .ok (.ishl, 1) := by decide +kernel
theorem dX0_bitOf_13 : decode cX0_bitOf 13 = .ok (.goto 4, 3) := by decide +kernel
theorem dX0_bitOf_16 : decode cX0_bitOf 16 = .ok (.iconst 0, 1) := by decide +kernel
theorem dX0_bitOf_17 : decode cX0_bitOf 17 = .ok (.ireturn, 1) := by decide +kernel
theorem dX0_isIn_0 : decode cX0_isIn 0 = .ok (.iload_n 1, 1) := by decide +kernel
theorem dX0_isIn_1 : decode cX0_isIn 1 = .ok (.invokestatic 178, 3) := by decide +kernel
theorem dX0_isIn_4 : decode cX0_isIn 4 = .ok (.ifCond .eq 19, 3) := by decide +kernel
theorem dX0_isIn_7 : decode cX0_isIn 7 = .ok (.iload_n 0, 1) := by decide +kernel
theorem dX0_isIn_8 : decode cX0_isIn 8 = .ok (.iload_n 1, 1) := by decide +kernel
theorem dX0_isIn_9 : decode cX0_isIn 9 = .ok (.bipush 8, 2) := by decide +kernel
theorem dX0_isIn_11 : decode cX0_isIn 11 = .ok (.isub, 1) := by decide +kernel
theorem dX0_isIn_12 : decode cX0_isIn 12 = .ok (.ishr, 1) := by decide +kernel
theorem dX0_isIn_13 : decode cX0_isIn 13 = .ok (.iconst 1, 1) := by decide +kernel
theorem dX0_isIn_14 : decode cX0_isIn 14 = .ok (.iand, 1) := by decide +kernel
theorem dX0_isIn_15 : decode cX0_isIn 15 = .ok (.iconst 1, 1) := by decide +kernel
theorem dX0_isIn_16 : decode cX0_isIn 16 = .ok (.if_icmp .ne 7, 3) := by decide +kernel
theorem dX0_isIn_19 : decode cX0_isIn 19 = .ok (.iconst 1, 1) := by decide +kernel
theorem dX0_isIn_20 : decode cX0_isIn 20 = .ok (.goto 4, 3) := by decide +kernel
theorem dX0_isIn_23 : decode cX0_isIn 23 = .ok (.iconst 0, 1) := by decide +kernel
theorem dX0_isIn_24 : decode cX0_isIn 24 = .ok (.ireturn, 1) := by decide +kernel
theorem dX1_init_0 : decode cX1_init 0 = .ok (.aload_n 0, 1) := by decide +kernel
theorem dX1_init_1 : decode cX1_init 1 = .ok (.invokespecial 3, 3) := by decide +kernel
theorem dX1_init_4 : decode cX1_init 4 = .ok (.aload_n 0, 1) := by decide +kernel
theorem dX1_init_5 : decode cX1_init 5 = .ok (.iload_n 1, 1) := by decide +kernel
theorem dX1_init_6 : decode cX1_init 6 = .ok (.putfield 9, 3) := by decide +kernel
theorem dX1_init_9 : decode cX1_init 9 = .ok (.aload_n 0, 1) := by decide +kernel
theorem dX1_init_10 : decode cX1_init 10 = .ok (.iload_n 2, 1) := by decide +kernel
theorem dX1_init_11 : decode cX1_init 11 = .ok (.putfield 15, 3) := by decide +kernel
theorem dX1_init_14 : decode cX1_init 14 = .ok (.aload_n 0, 1) := by decide +kernel
theorem dX1_init_15 : decode cX1_init 15 = .ok (.iload_n 3, 1) := by decide +kernel
theorem dX1_init_16 : decode cX1_init 16 = .ok (.putfield 18, 3) := by decide +kernel
theorem dX1_init_19 : decode cX1_init 19 = .ok (.aload_n 0, 1) := by decide +kernel
theorem dX1_init_20 : decode cX1_init 20 = .ok (.iload 4, 2) := by decide +kernel
theorem dX1_init_22 : decode cX1_init 22 = .ok (.putfield 21, 3) := by decide +kernel
theorem dX1_init_25 : decode cX1_init 25 = .ok (.aload_n 0, 1) := by decide +kernel
theorem dX1_init_26 : decode cX1_init 26 = .ok (.aload 5, 2) := by decide +kernel
theorem dX1_init_28 : decode cX1_init 28 = .ok (.putfield 24, 3) := by decide +kernel
theorem dX1_init_31 : decode cX1_init 31 = .ok (.return_, 1) := by decide +kernel
theorem dX1_ofContent_0 : decode cX1_ofContent 0 = .ok (.new 10, 3) := by decide +kernel
theorem dX1_ofContent_3 : decode cX1_ofContent 3 = .ok (.dup, 1) := by decide +kernel
theorem dX1_ofContent_4 : decode cX1_ofContent 4 = .ok (.iload_n 0, 1) := by decide +kernel
theorem dX1_ofContent_5 : decode cX1_ofContent 5 = .ok (.iconst (-1), 1) := by decide +kernel
theorem dX1_ofContent_6 : decode cX1_ofContent 6 = .ok (.iconst 0, 1) := by decide +kernel
theorem dX1_ofContent_7 : decode cX1_ofContent 7 = .ok (.iconst (-1), 1) := by decide +kernel
theorem dX1_ofContent_8 : decode cX1_ofContent 8 = .ok (.aconst_null, 1) := by decide +kernel
theorem dX1_ofContent_9 : decode cX1_ofContent 9 = .ok (.invokespecial 28, 3) := by decide +kernel
theorem dX1_ofContent_12 : decode cX1_ofContent 12 = .ok (.areturn, 1) := by decide +kernel
theorem dX1_ofFailure_0 : decode cX1_ofFailure 0 = .ok (.new 10, 3) := by decide +kernel
theorem dX1_ofFailure_3 : decode cX1_ofFailure 3 = .ok (.dup, 1) := by decide +kernel
theorem dX1_ofFailure_4 : decode cX1_ofFailure 4 = .ok (.iconst 0, 1) := by decide +kernel
theorem dX1_ofFailure_5 : decode cX1_ofFailure 5 = .ok (.iload_n 0, 1) := by decide +kernel
theorem dX1_ofFailure_6 : decode cX1_ofFailure 6 = .ok (.iload_n 1, 1) := by decide +kernel
theorem dX1_ofFailure_7 : decode cX1_ofFailure 7 = .ok (.iload_n 2, 1) := by decide +kernel
theorem dX1_ofFailure_8 : decode cX1_ofFailure 8 = .ok (.aload_n 3, 1) := by decide +kernel
theorem dX1_ofFailure_9 : decode cX1_ofFailure 9 = .ok (.invokespecial 28, 3) := by decide +kernel
theorem dX1_ofFailure_12 : decode cX1_ofFailure 12 = .ok (.areturn, 1) := by decide +kernel
theorem dX1_isFailure_0 : decode cX1_isFailure 0 = .ok (.aload_n 0, 1) := by decide +kernel
theorem dX1_isFailure_1 : decode cX1_isFailure 1 = .ok (.getfield 18, 3) := by decide +kernel
theorem dX1_isFailure_4 : decode cX1_isFailure 4 = .ok (.ifCond .eq 7, 3) := by decide +kernel
theorem dX1_isFailure_7 : decode cX1_isFailure 7 = .ok (.iconst 1, 1) := by decide +kernel
theorem dX1_isFailure_8 : decode cX1_isFailure 8 = .ok (.goto 4, 3) := by decide +kernel
theorem dX1_isFailure_11 : decode cX1_isFailure 11 = .ok (.iconst 0, 1) := by decide +kernel
theorem dX1_isFailure_12 : decode cX1_isFailure 12 = .ok (.ireturn, 1) := by decide +kernel
theorem dX1_asTold_0 : decode cX1_asTold 0 = .ok (.aload_n 0, 1) := by decide +kernel
theorem dX1_asTold_1 : decode cX1_asTold 1 = .ok (.invokevirtual 31, 3) := by decide +kernel
theorem dX1_asTold_4 : decode cX1_asTold 4 = .ok (.ifCond .eq 13, 3) := by decide +kernel
theorem dX1_asTold_7 : decode cX1_asTold 7 = .ok (.ldc 35, 2) := by decide +kernel
theorem dX1_asTold_9 : decode cX1_asTold 9 = .ok (.aload_n 0, 1) := by decide +kernel
theorem dX1_asTold_10 : decode cX1_asTold 10 = .ok (.getfield 18, 3) := by decide +kernel
theorem dX1_asTold_13 : decode cX1_asTold 13 = .ok (.iadd, 1) := by decide +kernel
theorem dX1_asTold_14 : decode cX1_asTold 14 = .ok (.goto 7, 3) := by decide +kernel
theorem dX1_asTold_17 : decode cX1_asTold 17 = .ok (.aload_n 0, 1) := by decide +kernel
theorem dX1_asTold_18 : decode cX1_asTold 18 = .ok (.getfield 9, 3) := by decide +kernel
theorem dX1_asTold_21 : decode cX1_asTold 21 = .ok (.ireturn, 1) := by decide +kernel
theorem dX1_causeCount_0 : decode cX1_causeCount 0 = .ok (.iconst 0, 1) := by decide +kernel
theorem dX1_causeCount_1 : decode cX1_causeCount 1 = .ok (.istore_n 1, 1) := by decide +kernel
theorem dX1_causeCount_2 : decode cX1_causeCount 2 = .ok (.aload_n 0, 1) := by decide +kernel
theorem dX1_causeCount_3 : decode cX1_causeCount 3 = .ok (.getfield 24, 3) := by decide +kernel
theorem dX1_causeCount_6 : decode cX1_causeCount 6 = .ok (.astore_n 2, 1) := by decide +kernel
theorem dX1_causeCount_7 : decode cX1_causeCount 7 = .ok (.aload_n 2, 1) := by decide +kernel
theorem dX1_causeCount_8 : decode cX1_causeCount 8 = .ok (.ifnull 14, 3) := by decide +kernel
theorem dX1_causeCount_11 : decode cX1_causeCount 11 = .ok (.iinc 1 1, 3) := by decide +kernel
theorem dX1_causeCount_14 : decode cX1_causeCount 14 = .ok (.aload_n 2, 1) := by decide +kernel
theorem dX1_causeCount_15 : decode cX1_causeCount 15 = .ok (.getfield 24, 3) := by decide +kernel
theorem dX1_causeCount_18 : decode cX1_causeCount 18 = .ok (.astore_n 2, 1) := by decide +kernel
theorem dX1_causeCount_19 : decode cX1_causeCount 19 = .ok (.goto (-12), 3) := by decide +kernel
theorem dX1_causeCount_22 : decode cX1_causeCount 22 = .ok (.iload_n 1, 1) := by decide +kernel
theorem dX1_causeCount_23 : decode cX1_causeCount 23 = .ok (.ireturn, 1) := by decide +kernel
theorem dX1_rootKey_0 : decode cX1_rootKey 0 = .ok (.aload_n 0, 1) := by decide +kernel
theorem dX1_rootKey_1 : decode cX1_rootKey 1 = .ok (.getfield 15, 3) := by decide +kernel
theorem dX1_rootKey_4 : decode cX1_rootKey 4 = .ok (.istore_n 1, 1) := by decide +kernel
theorem dX1_rootKey_5 : decode cX1_rootKey 5 = .ok (.aload_n 0, 1) := by decide +kernel
theorem dX1_rootKey_6 : decode cX1_rootKey 6 = .ok (.getfield 24, 3) := by decide +kernel
theorem dX1_rootKey_9 : decode cX1_rootKey 9 = .ok (.astore_n 2, 1) := by decide +kernel
theorem dX1_rootKey_10 : decode cX1_rootKey 10 = .ok (.aload_n 2, 1) := by decide +kernel
theorem dX1_rootKey_11 : decode cX1_rootKey 11 = .ok (.ifnull 16, 3) := by decide +kernel
theorem dX1_rootKey_14 : decode cX1_rootKey 14 = .ok (.aload_n 2, 1) := by decide +kernel
theorem dX1_rootKey_15 : decode cX1_rootKey 15 = .ok (.getfield 15, 3) := by decide +kernel
theorem dX1_rootKey_18 : decode cX1_rootKey 18 = .ok (.istore_n 1, 1) := by decide +kernel
theorem dX1_rootKey_19 : decode cX1_rootKey 19 = .ok (.aload_n 2, 1) := by decide +kernel
theorem dX1_rootKey_20 : decode cX1_rootKey 20 = .ok (.getfield 24, 3) := by decide +kernel
theorem dX1_rootKey_23 : decode cX1_rootKey 23 = .ok (.astore_n 2, 1) := by decide +kernel
theorem dX1_rootKey_24 : decode cX1_rootKey 24 = .ok (.goto (-14), 3) := by decide +kernel
theorem dX1_rootKey_27 : decode cX1_rootKey 27 = .ok (.iload_n 1, 1) := by decide +kernel
theorem dX1_rootKey_28 : decode cX1_rootKey 28 = .ok (.ireturn, 1) := by decide +kernel
theorem dX1_isOrComesOfSort_0 : decode cX1_isOrComesOfSort 0 = .ok (.aload_n 0, 1) := by decide +kernel
theorem dX1_isOrComesOfSort_1 : decode cX1_isOrComesOfSort 1 = .ok (.astore_n 2, 1) := by decide +kernel
theorem dX1_isOrComesOfSort_2 : decode cX1_isOrComesOfSort 2 = .ok (.aload_n 2, 1) := by decide +kernel
theorem dX1_isOrComesOfSort_3 : decode cX1_isOrComesOfSort 3 = .ok (.ifnull 21, 3) := by decide +kernel
theorem dX1_isOrComesOfSort_6 : decode cX1_isOrComesOfSort 6 = .ok (.aload_n 2, 1) := by decide +kernel
theorem dX1_isOrComesOfSort_7 : decode cX1_isOrComesOfSort 7 = .ok (.getfield 18, 3) := by decide +kernel
theorem dX1_isOrComesOfSort_10 : decode cX1_isOrComesOfSort 10 = .ok (.iload_n 1, 1) := by decide +kernel
theorem dX1_isOrComesOfSort_11 : decode cX1_isOrComesOfSort 11 = .ok (.if_icmp .ne 5, 3) := by decide +kernel
theorem dX1_isOrComesOfSort_14 : decode cX1_isOrComesOfSort 14 = .ok (.iconst 1, 1) := by decide +kernel
theorem dX1_isOrComesOfSort_15 : decode cX1_isOrComesOfSort 15 = .ok (.ireturn, 1) := by decide +kernel
theorem dX1_isOrComesOfSort_16 : decode cX1_isOrComesOfSort 16 = .ok (.aload_n 2, 1) := by decide +kernel
theorem dX1_isOrComesOfSort_17 : decode cX1_isOrComesOfSort 17 = .ok (.getfield 24, 3) := by decide +kernel
theorem dX1_isOrComesOfSort_20 : decode cX1_isOrComesOfSort 20 = .ok (.astore_n 2, 1) := by decide +kernel
theorem dX1_isOrComesOfSort_21 : decode cX1_isOrComesOfSort 21 = .ok (.goto (-19), 3) := by decide +kernel
theorem dX1_isOrComesOfSort_24 : decode cX1_isOrComesOfSort 24 = .ok (.iconst 0, 1) := by decide +kernel
theorem dX1_isOrComesOfSort_25 : decode cX1_isOrComesOfSort 25 = .ok (.ireturn, 1) := by decide +kernel
theorem dX1_isOrComesOfKey_0 : decode cX1_isOrComesOfKey 0 = .ok (.aload_n 0, 1) := by decide +kernel
theorem dX1_isOrComesOfKey_1 : decode cX1_isOrComesOfKey 1 = .ok (.astore_n 2, 1) := by decide +kernel
theorem dX1_isOrComesOfKey_2 : decode cX1_isOrComesOfKey 2 = .ok (.aload_n 2, 1) := by decide +kernel
theorem dX1_isOrComesOfKey_3 : decode cX1_isOrComesOfKey 3 = .ok (.ifnull 21, 3) := by decide +kernel
theorem dX1_isOrComesOfKey_6 : decode cX1_isOrComesOfKey 6 = .ok (.aload_n 2, 1) := by decide +kernel
theorem dX1_isOrComesOfKey_7 : decode cX1_isOrComesOfKey 7 = .ok (.getfield 15, 3) := by decide +kernel
theorem dX1_isOrComesOfKey_10 : decode cX1_isOrComesOfKey 10 = .ok (.iload_n 1, 1) := by decide +kernel
theorem dX1_isOrComesOfKey_11 : decode cX1_isOrComesOfKey 11 = .ok (.if_icmp .ne 5, 3) := by decide +kernel
theorem dX1_isOrComesOfKey_14 : decode cX1_isOrComesOfKey 14 = .ok (.iconst 1, 1) := by decide +kernel
theorem dX1_isOrComesOfKey_15 : decode cX1_isOrComesOfKey 15 = .ok (.ireturn, 1) := by decide +kernel
theorem dX1_isOrComesOfKey_16 : decode cX1_isOrComesOfKey 16 = .ok (.aload_n 2, 1) := by decide +kernel
theorem dX1_isOrComesOfKey_17 : decode cX1_isOrComesOfKey 17 = .ok (.getfield 24, 3) := by decide +kernel
theorem dX1_isOrComesOfKey_20 : decode cX1_isOrComesOfKey 20 = .ok (.astore_n 2, 1) := by decide +kernel
theorem dX1_isOrComesOfKey_21 : decode cX1_isOrComesOfKey 21 = .ok (.goto (-19), 3) := by decide +kernel
theorem dX1_isOrComesOfKey_24 : decode cX1_isOrComesOfKey 24 = .ok (.iconst 0, 1) := by decide +kernel
theorem dX1_isOrComesOfKey_25 : decode cX1_isOrComesOfKey 25 = .ok (.ireturn, 1) := by decide +kernel
theorem dX1_areSame_0 : decode cX1_areSame 0 = .ok (.aload_n 0, 1) := by decide +kernel
theorem dX1_areSame_1 : decode cX1_areSame 1 = .ok (.ifnull 7, 3) := by decide +kernel
theorem dX1_areSame_4 : decode cX1_areSame 4 = .ok (.aload_n 1, 1) := by decide +kernel
theorem dX1_areSame_5 : decode cX1_areSame 5 = .ok (.ifnonnull 5, 3) := by decide +kernel
theorem dX1_areSame_8 : decode cX1_areSame 8 = .ok (.iconst 0, 1) := by decide +kernel
theorem dX1_areSame_9 : decode cX1_areSame 9 = .ok (.ireturn, 1) := by decide +kernel
theorem dX1_areSame_10 : decode cX1_areSame 10 = .ok (.aload_n 0, 1) := by decide +kernel
theorem dX1_areSame_11 : decode cX1_areSame 11 = .ok (.astore_n 2, 1) := by decide +kernel
theorem dX1_areSame_12 : decode cX1_areSame 12 = .ok (.aload_n 1, 1) := by decide +kernel
theorem dX1_areSame_13 : decode cX1_areSame 13 = .ok (.astore_n 3, 1) := by decide +kernel
theorem dX1_areSame_14 : decode cX1_areSame 14 = .ok (.aload_n 2, 1) := by decide +kernel
theorem dX1_areSame_15 : decode cX1_areSame 15 = .ok (.ifnull 66, 3) := by decide +kernel
theorem dX1_areSame_18 : decode cX1_areSame 18 = .ok (.aload_n 3, 1) := by decide +kernel
theorem dX1_areSame_19 : decode cX1_areSame 19 = .ok (.ifnull 62, 3) := by decide +kernel
theorem dX1_areSame_22 : decode cX1_areSame 22 = .ok (.aload_n 2, 1) := by decide +kernel
theorem dX1_areSame_23 : decode cX1_areSame 23 = .ok (.getfield 9, 3) := by decide +kernel
theorem dX1_areSame_26 : decode cX1_areSame 26 = .ok (.aload_n 3, 1) := by decide +kernel
theorem dX1_areSame_27 : decode cX1_areSame 27 = .ok (.getfield 9, 3) := by decide +kernel
theorem dX1_areSame_30 : decode cX1_areSame 30 = .ok (.if_icmp .ne 36, 3) := by decide +kernel
theorem dX1_areSame_33 : decode cX1_areSame 33 = .ok (.aload_n 2, 1) := by decide +kernel
theorem dX1_areSame_34 : decode cX1_areSame 34 = .ok (.getfield 15, 3) := by decide +kernel
theorem dX1_areSame_37 : decode cX1_areSame 37 = .ok (.aload_n 3, 1) := by decide +kernel
theorem dX1_areSame_38 : decode cX1_areSame 38 = .ok (.getfield 15, 3) := by decide +kernel
theorem dX1_areSame_41 : decode cX1_areSame 41 = .ok (.if_icmp .ne 25, 3) := by decide +kernel
theorem dX1_areSame_44 : decode cX1_areSame 44 = .ok (.aload_n 2, 1) := by decide +kernel
theorem dX1_areSame_45 : decode cX1_areSame 45 = .ok (.getfield 18, 3) := by decide +kernel
theorem dX1_areSame_48 : decode cX1_areSame 48 = .ok (.aload_n 3, 1) := by decide +kernel
theorem dX1_areSame_49 : decode cX1_areSame 49 = .ok (.getfield 18, 3) := by decide +kernel
theorem dX1_areSame_52 : decode cX1_areSame 52 = .ok (.if_icmp .ne 14, 3) := by decide +kernel
theorem dX1_areSame_55 : decode cX1_areSame 55 = .ok (.aload_n 2, 1) := by decide +kernel
theorem dX1_areSame_56 : decode cX1_areSame 56 = .ok (.getfield 21, 3) := by decide +kernel
theorem dX1_areSame_59 : decode cX1_areSame 59 = .ok (.aload_n 3, 1) := by decide +kernel
theorem dX1_areSame_60 : decode cX1_areSame 60 = .ok (.getfield 21, 3) := by decide +kernel
theorem dX1_areSame_63 : decode cX1_areSame 63 = .ok (.if_icmp .eq 5, 3) := by decide +kernel
theorem dX1_areSame_66 : decode cX1_areSame 66 = .ok (.iconst 0, 1) := by decide +kernel
theorem dX1_areSame_67 : decode cX1_areSame 67 = .ok (.ireturn, 1) := by decide +kernel
theorem dX1_areSame_68 : decode cX1_areSame 68 = .ok (.aload_n 2, 1) := by decide +kernel
theorem dX1_areSame_69 : decode cX1_areSame 69 = .ok (.getfield 24, 3) := by decide +kernel
theorem dX1_areSame_72 : decode cX1_areSame 72 = .ok (.astore_n 2, 1) := by decide +kernel
theorem dX1_areSame_73 : decode cX1_areSame 73 = .ok (.aload_n 3, 1) := by decide +kernel
theorem dX1_areSame_74 : decode cX1_areSame 74 = .ok (.getfield 24, 3) := by decide +kernel
theorem dX1_areSame_77 : decode cX1_areSame 77 = .ok (.astore_n 3, 1) := by decide +kernel
theorem dX1_areSame_78 : decode cX1_areSame 78 = .ok (.goto (-64), 3) := by decide +kernel
theorem dX1_areSame_81 : decode cX1_areSame 81 = .ok (.aload_n 2, 1) := by decide +kernel
theorem dX1_areSame_82 : decode cX1_areSame 82 = .ok (.ifnonnull 11, 3) := by decide +kernel
theorem dX1_areSame_85 : decode cX1_areSame 85 = .ok (.aload_n 3, 1) := by decide +kernel
theorem dX1_areSame_86 : decode cX1_areSame 86 = .ok (.ifnonnull 7, 3) := by decide +kernel
theorem dX1_areSame_89 : decode cX1_areSame 89 = .ok (.iconst 1, 1) := by decide +kernel
theorem dX1_areSame_90 : decode cX1_areSame 90 = .ok (.goto 4, 3) := by decide +kernel
theorem dX1_areSame_93 : decode cX1_areSame 93 = .ok (.iconst 0, 1) := by decide +kernel
theorem dX1_areSame_94 : decode cX1_areSame 94 = .ok (.ireturn, 1) := by decide +kernel
theorem dX2_init_0 : decode cX2_init 0 = .ok (.aload_n 0, 1) := by decide +kernel
theorem dX2_init_1 : decode cX2_init 1 = .ok (.invokespecial 3, 3) := by decide +kernel
theorem dX2_init_4 : decode cX2_init 4 = .ok (.aload_n 0, 1) := by decide +kernel
theorem dX2_init_5 : decode cX2_init 5 = .ok (.bipush 20, 2) := by decide +kernel
theorem dX2_init_7 : decode cX2_init 7 = .ok (.newarray .long, 2) := by decide +kernel
theorem dX2_init_9 : decode cX2_init 9 = .ok (.putfield 9, 3) := by decide +kernel
theorem dX2_init_12 : decode cX2_init 12 = .ok (.return_, 1) := by decide +kernel
theorem dX2_hold_0 : decode cX2_hold 0 = .ok (.aload_n 0, 1) := by decide +kernel
theorem dX2_hold_1 : decode cX2_hold 1 = .ok (.iconst 1, 1) := by decide +kernel
theorem dX2_hold_2 : decode cX2_hold 2 = .ok (.putfield 15, 3) := by decide +kernel
theorem dX2_hold_5 : decode cX2_hold 5 = .ok (.aload_n 0, 1) := by decide +kernel
theorem dX2_hold_6 : decode cX2_hold 6 = .ok (.iconst 0, 1) := by decide +kernel
theorem dX2_hold_7 : decode cX2_hold 7 = .ok (.iload_n 1, 1) := by decide +kernel
theorem dX2_hold_8 : decode cX2_hold 8 = .ok (.bipush 20, 2) := by decide +kernel
theorem dX2_hold_10 : decode cX2_hold 10 = .ok (.invokestatic 19, 3) := by decide +kernel
theorem dX2_hold_13 : decode cX2_hold 13 = .ok (.invokestatic 25, 3) := by decide +kernel
theorem dX2_hold_16 : decode cX2_hold 16 = .ok (.putfield 28, 3) := by decide +kernel
theorem dX2_hold_19 : decode cX2_hold 19 = .ok (.aload_n 0, 1) := by decide +kernel
theorem dX2_hold_20 : decode cX2_hold 20 = .ok (.getfield 9, 3) := by decide +kernel
theorem dX2_hold_23 : decode cX2_hold 23 = .ok (.lconst 0, 1) := by decide +kernel
theorem dX2_hold_24 : decode cX2_hold 24 = .ok (.invokestatic 32, 3) := by decide +kernel
theorem dX2_hold_27 : decode cX2_hold 27 = .ok (.return_, 1) := by decide +kernel
theorem dX2_hasPlace_0 : decode cX2_hasPlace 0 = .ok (.iload_n 1, 1) := by decide +kernel
theorem dX2_hasPlace_1 : decode cX2_hasPlace 1 = .ok (.ifCond .lt 15, 3) := by decide +kernel
theorem dX2_hasPlace_4 : decode cX2_hasPlace 4 = .ok (.iload_n 1, 1) := by decide +kernel
theorem dX2_hasPlace_5 : decode cX2_hasPlace 5 = .ok (.aload_n 0, 1) := by decide +kernel
theorem dX2_hasPlace_6 : decode cX2_hasPlace 6 = .ok (.getfield 28, 3) := by decide +kernel
theorem dX2_hasPlace_9 : decode cX2_hasPlace 9 = .ok (.if_icmp .ge 7, 3) := by decide +kernel
theorem dX2_hasPlace_12 : decode cX2_hasPlace 12 = .ok (.iconst 1, 1) := by decide +kernel
theorem dX2_hasPlace_13 : decode cX2_hasPlace 13 = .ok (.goto 4, 3) := by decide +kernel
theorem dX2_hasPlace_16 : decode cX2_hasPlace 16 = .ok (.iconst 0, 1) := by decide +kernel
theorem dX2_hasPlace_17 : decode cX2_hasPlace 17 = .ok (.ireturn, 1) := by decide +kernel
theorem dX2_hasSpan_0 : decode cX2_hasSpan 0 = .ok (.iload_n 1, 1) := by decide +kernel
theorem dX2_hasSpan_1 : decode cX2_hasSpan 1 = .ok (.ifCond .lt 21, 3) := by decide +kernel
theorem dX2_hasSpan_4 : decode cX2_hasSpan 4 = .ok (.iload_n 2, 1) := by decide +kernel
theorem dX2_hasSpan_5 : decode cX2_hasSpan 5 = .ok (.ifCond .lt 17, 3) := by decide +kernel
theorem dX2_hasSpan_8 : decode cX2_hasSpan 8 = .ok (.iload_n 1, 1) := by decide +kernel
theorem dX2_hasSpan_9 : decode cX2_hasSpan 9 = .ok (.aload_n 0, 1) := by decide +kernel
theorem dX2_hasSpan_10 : decode cX2_hasSpan 10 = .ok (.getfield 28, 3) := by decide +kernel
theorem dX2_hasSpan_13 : decode cX2_hasSpan 13 = .ok (.iload_n 2, 1) := by decide +kernel
theorem dX2_hasSpan_14 : decode cX2_hasSpan 14 = .ok (.isub, 1) := by decide +kernel
theorem dX2_hasSpan_15 : decode cX2_hasSpan 15 = .ok (.if_icmp .gt 7, 3) := by decide +kernel
theorem dX2_hasSpan_18 : decode cX2_hasSpan 18 = .ok (.iconst 1, 1) := by decide +kernel
theorem dX2_hasSpan_19 : decode cX2_hasSpan 19 = .ok (.goto 4, 3) := by decide +kernel
theorem dX2_hasSpan_22 : decode cX2_hasSpan 22 = .ok (.iconst 0, 1) := by decide +kernel
theorem dX2_hasSpan_23 : decode cX2_hasSpan 23 = .ok (.ireturn, 1) := by decide +kernel
theorem dX2_read_0 : decode cX2_read 0 = .ok (.aload_n 0, 1) := by decide +kernel
theorem dX2_read_1 : decode cX2_read 1 = .ok (.iload_n 1, 1) := by decide +kernel
theorem dX2_read_2 : decode cX2_read 2 = .ok (.invokevirtual 38, 3) := by decide +kernel
theorem dX2_read_5 : decode cX2_read 5 = .ok (.ifCond .eq 12, 3) := by decide +kernel
theorem dX2_read_8 : decode cX2_read 8 = .ok (.aload_n 0, 1) := by decide +kernel
theorem dX2_read_9 : decode cX2_read 9 = .ok (.getfield 9, 3) := by decide +kernel
theorem dX2_read_12 : decode cX2_read 12 = .ok (.iload_n 1, 1) := by decide +kernel
theorem dX2_read_13 : decode cX2_read 13 = .ok (.laload, 1) := by decide +kernel
theorem dX2_read_14 : decode cX2_read 14 = .ok (.goto 6, 3) := by decide +kernel
theorem dX2_read_17 : decode cX2_read 17 = .ok (.ldc2_w 42, 3) := by decide +kernel
theorem dX2_read_20 : decode cX2_read 20 = .ok (.lreturn, 1) := by decide +kernel
theorem dX2_write_0 : decode cX2_write 0 = .ok (.aload_n 0, 1) := by decide +kernel
theorem dX2_write_1 : decode cX2_write 1 = .ok (.iload_n 1, 1) := by decide +kernel
theorem dX2_write_2 : decode cX2_write 2 = .ok (.invokevirtual 38, 3) := by decide +kernel
theorem dX2_write_5 : decode cX2_write 5 = .ok (.ifCond .ne 5, 3) := by decide +kernel
theorem dX2_write_8 : decode cX2_write 8 = .ok (.iconst 0, 1) := by decide +kernel
theorem dX2_write_9 : decode cX2_write 9 = .ok (.ireturn, 1) := by decide +kernel
theorem dX2_write_10 : decode cX2_write 10 = .ok (.aload_n 0, 1) := by decide +kernel
theorem dX2_write_11 : decode cX2_write 11 = .ok (.getfield 9, 3) := by decide +kernel
theorem dX2_write_14 : decode cX2_write 14 = .ok (.iload_n 1, 1) := by decide +kernel
theorem dX2_write_15 : decode cX2_write 15 = .ok (.lload_n 2, 1) := by decide +kernel
theorem dX2_write_16 : decode cX2_write 16 = .ok (.lastore, 1) := by decide +kernel
theorem dX2_write_17 : decode cX2_write 17 = .ok (.iconst 1, 1) := by decide +kernel
theorem dX2_write_18 : decode cX2_write 18 = .ok (.ireturn, 1) := by decide +kernel
theorem dX3_init_0 : decode cX3_init 0 = .ok (.aload_n 0, 1) := by decide +kernel
theorem dX3_init_1 : decode cX3_init 1 = .ok (.invokespecial 3, 3) := by decide +kernel
theorem dX3_init_4 : decode cX3_init 4 = .ok (.aload_n 0, 1) := by decide +kernel
theorem dX3_init_5 : decode cX3_init 5 = .ok (.bipush 50, 2) := by decide +kernel
theorem dX3_init_7 : decode cX3_init 7 = .ok (.newarray .int, 2) := by decide +kernel
theorem dX3_init_9 : decode cX3_init 9 = .ok (.putfield 9, 3) := by decide +kernel
theorem dX3_init_12 : decode cX3_init 12 = .ok (.return_, 1) := by decide +kernel
theorem dX3_append_0 : decode cX3_append 0 = .ok (.aload_n 0, 1) := by decide +kernel
theorem dX3_append_1 : decode cX3_append 1 = .ok (.getfield 15, 3) := by decide +kernel
theorem dX3_append_4 : decode cX3_append 4 = .ok (.ifCond .lt 12, 3) := by decide +kernel
theorem dX3_append_7 : decode cX3_append 7 = .ok (.aload_n 0, 1) := by decide +kernel
theorem dX3_append_8 : decode cX3_append 8 = .ok (.getfield 15, 3) := by decide +kernel
theorem dX3_append_11 : decode cX3_append 11 = .ok (.bipush 50, 2) := by decide +kernel
theorem dX3_append_13 : decode cX3_append 13 = .ok (.if_icmp .lt 5, 3) := by decide +kernel
theorem dX3_append_16 : decode cX3_append 16 = .ok (.iconst 0, 1) := by decide +kernel
theorem dX3_append_17 : decode cX3_append 17 = .ok (.ireturn, 1) := by decide +kernel
theorem dX3_append_18 : decode cX3_append 18 = .ok (.aload_n 0, 1) := by decide +kernel
theorem dX3_append_19 : decode cX3_append 19 = .ok (.getfield 9, 3) := by decide +kernel
theorem dX3_append_22 : decode cX3_append 22 = .ok (.aload_n 0, 1) := by decide +kernel
theorem dX3_append_23 : decode cX3_append 23 = .ok (.getfield 15, 3) := by decide +kernel
theorem dX3_append_26 : decode cX3_append 26 = .ok (.iload_n 1, 1) := by decide +kernel
theorem dX3_append_27 : decode cX3_append 27 = .ok (.iastore, 1) := by decide +kernel
theorem dX3_append_28 : decode cX3_append 28 = .ok (.aload_n 0, 1) := by decide +kernel
theorem dX3_append_29 : decode cX3_append 29 = .ok (.dup, 1) := by decide +kernel
theorem dX3_append_30 : decode cX3_append 30 = .ok (.getfield 15, 3) := by decide +kernel
theorem dX3_append_33 : decode cX3_append 33 = .ok (.iconst 1, 1) := by decide +kernel
theorem dX3_append_34 : decode cX3_append 34 = .ok (.iadd, 1) := by decide +kernel
theorem dX3_append_35 : decode cX3_append 35 = .ok (.putfield 15, 3) := by decide +kernel
theorem dX3_append_38 : decode cX3_append 38 = .ok (.iconst 1, 1) := by decide +kernel
theorem dX3_append_39 : decode cX3_append 39 = .ok (.ireturn, 1) := by decide +kernel
theorem dX3_empty_0 : decode cX3_empty 0 = .ok (.aload_n 0, 1) := by decide +kernel
theorem dX3_empty_1 : decode cX3_empty 1 = .ok (.getfield 15, 3) := by decide +kernel
theorem dX3_empty_4 : decode cX3_empty 4 = .ok (.istore_n 1, 1) := by decide +kernel
theorem dX3_empty_5 : decode cX3_empty 5 = .ok (.aload_n 0, 1) := by decide +kernel
theorem dX3_empty_6 : decode cX3_empty 6 = .ok (.iconst 0, 1) := by decide +kernel
theorem dX3_empty_7 : decode cX3_empty 7 = .ok (.putfield 15, 3) := by decide +kernel
theorem dX3_empty_10 : decode cX3_empty 10 = .ok (.iload_n 1, 1) := by decide +kernel
theorem dX3_empty_11 : decode cX3_empty 11 = .ok (.ireturn, 1) := by decide +kernel
theorem dX3_letterAt_0 : decode cX3_letterAt 0 = .ok (.iload_n 1, 1) := by decide +kernel
theorem dX3_letterAt_1 : decode cX3_letterAt 1 = .ok (.ifCond .lt 20, 3) := by decide +kernel
theorem dX3_letterAt_4 : decode cX3_letterAt 4 = .ok (.iload_n 1, 1) := by decide +kernel
theorem dX3_letterAt_5 : decode cX3_letterAt 5 = .ok (.aload_n 0, 1) := by decide +kernel
theorem dX3_letterAt_6 : decode cX3_letterAt 6 = .ok (.getfield 15, 3) := by decide +kernel
theorem dX3_letterAt_9 : decode cX3_letterAt 9 = .ok (.if_icmp .ge 12, 3) := by decide +kernel
theorem dX3_letterAt_12 : decode cX3_letterAt 12 = .ok (.aload_n 0, 1) := by decide +kernel
theorem dX3_letterAt_13 : decode cX3_letterAt 13 = .ok (.getfield 9, 3) := by decide +kernel
theorem dX3_letterAt_16 : decode cX3_letterAt 16 = .ok (.iload_n 1, 1) := by decide +kernel
theorem dX3_letterAt_17 : decode cX3_letterAt 17 = .ok (.iaload, 1) := by decide +kernel
theorem dX3_letterAt_18 : decode cX3_letterAt 18 = .ok (.goto 4, 3) := by decide +kernel
theorem dX3_letterAt_21 : decode cX3_letterAt 21 = .ok (.iconst (-1), 1) := by decide +kernel
theorem dX3_letterAt_22 : decode cX3_letterAt 22 = .ok (.ireturn, 1) := by decide +kernel
theorem dX3_numberAt_0 : decode cX3_numberAt 0 = .ok (.bipush 10, 2) := by decide +kernel
theorem dX3_numberAt_2 : decode cX3_numberAt 2 = .ok (.aload_n 0, 1) := by decide +kernel
theorem dX3_numberAt_3 : decode cX3_numberAt 3 = .ok (.iload_n 1, 1) := by decide +kernel
theorem dX3_numberAt_4 : decode cX3_numberAt 4 = .ok (.invokevirtual 19, 3) := by decide +kernel
theorem dX3_numberAt_7 : decode cX3_numberAt 7 = .ok (.bipush 48, 2) := by decide +kernel
theorem dX3_numberAt_9 : decode cX3_numberAt 9 = .ok (.isub, 1) := by decide +kernel
theorem dX3_numberAt_10 : decode cX3_numberAt 10 = .ok (.imul, 1) := by decide +kernel
theorem dX3_numberAt_11 : decode cX3_numberAt 11 = .ok (.aload_n 0, 1) := by decide +kernel
theorem dX3_numberAt_12 : decode cX3_numberAt 12 = .ok (.iload_n 1, 1) := by decide +kernel
theorem dX3_numberAt_13 : decode cX3_numberAt 13 = .ok (.iconst 1, 1) := by decide +kernel
theorem dX3_numberAt_14 : decode cX3_numberAt 14 = .ok (.iadd, 1) := by decide +kernel
theorem dX3_numberAt_15 : decode cX3_numberAt 15 = .ok (.invokevirtual 19, 3) := by decide +kernel
theorem dX3_numberAt_18 : decode cX3_numberAt 18 = .ok (.iadd, 1) := by decide +kernel
theorem dX3_numberAt_19 : decode cX3_numberAt 19 = .ok (.bipush 48, 2) := by decide +kernel
theorem dX3_numberAt_21 : decode cX3_numberAt 21 = .ok (.isub, 1) := by decide +kernel
theorem dX3_numberAt_22 : decode cX3_numberAt 22 = .ok (.ireturn, 1) := by decide +kernel
theorem dX3_faultAsRule_0 : decode cX3_faultAsRule 0 = .ok (.iconst 0, 1) := by decide +kernel
theorem dX3_faultAsRule_1 : decode cX3_faultAsRule 1 = .ok (.istore_n 1, 1) := by decide +kernel
theorem dX3_faultAsRule_2 : decode cX3_faultAsRule 2 = .ok (.iload_n 1, 1) := by decide +kernel
theorem dX3_faultAsRule_3 : decode cX3_faultAsRule 3 = .ok (.aload_n 0, 1) := by decide +kernel
theorem dX3_faultAsRule_4 : decode cX3_faultAsRule 4 = .ok (.getfield 15, 3) := by decide +kernel
theorem dX3_faultAsRule_7 : decode cX3_faultAsRule 7 = .ok (.if_icmp .ge 69, 3) := by decide +kernel
theorem dX3_faultAsRule_10 : decode cX3_faultAsRule 10 = .ok (.iload_n 1, 1) := by decide +kernel
theorem dX3_faultAsRule_11 : decode cX3_faultAsRule 11 = .ok (.iconst 3, 1) := by decide +kernel
theorem dX3_faultAsRule_12 : decode cX3_faultAsRule 12 = .ok (.irem, 1) := by decide +kernel
theorem dX3_faultAsRule_13 : decode cX3_faultAsRule 13 = .ok (.istore_n 2, 1) := by decide +kernel
theorem dX3_faultAsRule_14 : decode cX3_faultAsRule 14 = .ok (.aload_n 0, 1) := by decide +kernel
theorem dX3_faultAsRule_15 : decode cX3_faultAsRule 15 = .ok (.iload_n 1, 1) := by decide +kernel
theorem dX3_faultAsRule_16 : decode cX3_faultAsRule 16 = .ok (.invokevirtual 19, 3) := by decide +kernel
theorem dX3_faultAsRule_19 : decode cX3_faultAsRule 19 = .ok (.istore_n 3, 1) := by decide +kernel
theorem dX3_faultAsRule_20 : decode cX3_faultAsRule 20 = .ok (.iload_n 1, 1) := by decide +kernel
theorem dX3_faultAsRule_21 : decode cX3_faultAsRule 21 = .ok (.bipush 36, 2) := by decide +kernel
theorem dX3_faultAsRule_23 : decode cX3_faultAsRule 23 = .ok (.if_icmp .ge 24, 3) := by decide +kernel
theorem dX3_faultAsRule_26 : decode cX3_faultAsRule 26 = .ok (.iload_n 2, 1) := by decide +kernel
theorem dX3_faultAsRule_27 : decode cX3_faultAsRule 27 = .ok (.ifCond .ne 13, 3) := by decide +kernel
theorem dX3_faultAsRule_30 : decode cX3_faultAsRule 30 = .ok (.iload_n 3, 1) := by decide +kernel
theorem dX3_faultAsRule_31 : decode cX3_faultAsRule 31 = .ok (.invokestatic 23, 3) := by decide +kernel
theorem dX3_faultAsRule_34 : decode cX3_faultAsRule 34 = .ok (.ifCond .eq 13, 3) := by decide +kernel
theorem dX3_faultAsRule_37 : decode cX3_faultAsRule 37 = .ok (.goto 12, 3) := by decide +kernel
theorem dX3_faultAsRule_40 : decode cX3_faultAsRule 40 = .ok (.iload_n 3, 1) := by decide +kernel
theorem dX3_faultAsRule_41 : decode cX3_faultAsRule 41 = .ok (.invokestatic 27, 3) := by decide +kernel
theorem dX3_faultAsRule_44 : decode cX3_faultAsRule 44 = .ok (.ifCond .ne 5, 3) := by decide +kernel
theorem dX3_faultAsRule_47 : decode cX3_faultAsRule 47 = .ok (.iload_n 1, 1) := by decide +kernel
theorem dX3_faultAsRule_48 : decode cX3_faultAsRule 48 = .ok (.ireturn, 1) := by decide +kernel
theorem dX3_faultAsRule_49 : decode cX3_faultAsRule 49 = .ok (.iload_n 2, 1) := by decide +kernel
theorem dX3_faultAsRule_50 : decode cX3_faultAsRule 50 = .ok (.ifCond .le 20, 3) := by decide +kernel
theorem dX3_faultAsRule_53 : decode cX3_faultAsRule 53 = .ok (.aload_n 0, 1) := by decide +kernel
theorem dX3_faultAsRule_54 : decode cX3_faultAsRule 54 = .ok (.iload_n 1, 1) := by decide +kernel
theorem dX3_faultAsRule_55 : decode cX3_faultAsRule 55 = .ok (.iload_n 2, 1) := by decide +kernel
theorem dX3_faultAsRule_56 : decode cX3_faultAsRule 56 = .ok (.isub, 1) := by decide +kernel
theorem dX3_faultAsRule_57 : decode cX3_faultAsRule 57 = .ok (.iload_n 2, 1) := by decide +kernel
theorem dX3_faultAsRule_58 : decode cX3_faultAsRule 58 = .ok (.invokevirtual 30, 3) := by decide +kernel
theorem dX3_faultAsRule_61 : decode cX3_faultAsRule 61 = .ok (.ifCond .eq 9, 3) := by decide +kernel
theorem dX3_faultAsRule_64 : decode cX3_faultAsRule 64 = .ok (.iload_n 1, 1) := by decide +kernel
theorem dX3_faultAsRule_65 : decode cX3_faultAsRule 65 = .ok (.iload_n 2, 1) := by decide +kernel
theorem dX3_faultAsRule_66 : decode cX3_faultAsRule 66 = .ok (.isub, 1) := by decide +kernel
theorem dX3_faultAsRule_67 : decode cX3_faultAsRule 67 = .ok (.iconst 1, 1) := by decide +kernel
theorem dX3_faultAsRule_68 : decode cX3_faultAsRule 68 = .ok (.iadd, 1) := by decide +kernel
theorem dX3_faultAsRule_69 : decode cX3_faultAsRule 69 = .ok (.ireturn, 1) := by decide +kernel
theorem dX3_faultAsRule_70 : decode cX3_faultAsRule 70 = .ok (.iinc 1 1, 3) := by decide +kernel
theorem dX3_faultAsRule_73 : decode cX3_faultAsRule 73 = .ok (.goto (-71), 3) := by decide +kernel
theorem dX3_faultAsRule_76 : decode cX3_faultAsRule 76 = .ok (.aload_n 0, 1) := by decide +kernel
theorem dX3_faultAsRule_77 : decode cX3_faultAsRule 77 = .ok (.getfield 15, 3) := by decide +kernel
theorem dX3_faultAsRule_80 : decode cX3_faultAsRule 80 = .ok (.ifCond .le 16, 3) := by decide +kernel
theorem dX3_faultAsRule_83 : decode cX3_faultAsRule 83 = .ok (.aload_n 0, 1) := by decide +kernel
theorem dX3_faultAsRule_84 : decode cX3_faultAsRule 84 = .ok (.getfield 15, 3) := by decide +kernel
theorem dX3_faultAsRule_87 : decode cX3_faultAsRule 87 = .ok (.iconst 3, 1) := by decide +kernel
theorem dX3_faultAsRule_88 : decode cX3_faultAsRule 88 = .ok (.irem, 1) := by decide +kernel
theorem dX3_faultAsRule_89 : decode cX3_faultAsRule 89 = .ok (.ifCond .ne 7, 3) := by decide +kernel
theorem dX3_faultAsRule_92 : decode cX3_faultAsRule 92 = .ok (.iconst (-1), 1) := by decide +kernel
theorem dX3_faultAsRule_93 : decode cX3_faultAsRule 93 = .ok (.goto 7, 3) := by decide +kernel
theorem dX3_faultAsRule_96 : decode cX3_faultAsRule 96 = .ok (.aload_n 0, 1) := by decide +kernel
theorem dX3_faultAsRule_97 : decode cX3_faultAsRule 97 = .ok (.getfield 15, 3) := by decide +kernel
theorem dX3_faultAsRule_100 : decode cX3_faultAsRule 100 = .ok (.ireturn, 1) := by decide +kernel
theorem dX3_tellsNoKey_0 : decode cX3_tellsNoKey 0 = .ok (.iload_n 2, 1) := by decide +kernel
theorem dX3_tellsNoKey_1 : decode cX3_tellsNoKey 1 = .ok (.iconst 1, 1) := by decide +kernel
theorem dX3_tellsNoKey_2 : decode cX3_tellsNoKey 2 = .ok (.if_icmp .ne 19, 3) := by decide +kernel
theorem dX3_tellsNoKey_5 : decode cX3_tellsNoKey 5 = .ok (.bipush 10, 2) := by decide +kernel
theorem dX3_tellsNoKey_7 : decode cX3_tellsNoKey 7 = .ok (.aload_n 0, 1) := by decide +kernel
theorem dX3_tellsNoKey_8 : decode cX3_tellsNoKey 8 = .ok (.iload_n 1, 1) := by decide +kernel
theorem dX3_tellsNoKey_9 : decode cX3_tellsNoKey 9 = .ok (.iconst 1, 1) := by decide +kernel
theorem dX3_tellsNoKey_10 : decode cX3_tellsNoKey 10 = .ok (.iadd, 1) := by decide +kernel
theorem dX3_tellsNoKey_11 : decode cX3_tellsNoKey 11 = .ok (.invokevirtual 19, 3) := by decide +kernel
theorem dX3_tellsNoKey_14 : decode cX3_tellsNoKey 14 = .ok (.bipush 48, 2) := by decide +kernel
theorem dX3_tellsNoKey_16 : decode cX3_tellsNoKey 16 = .ok (.isub, 1) := by decide +kernel
theorem dX3_tellsNoKey_17 : decode cX3_tellsNoKey 17 = .ok (.imul, 1) := by decide +kernel
theorem dX3_tellsNoKey_18 : decode cX3_tellsNoKey 18 = .ok (.goto 10, 3) := by decide +kernel
theorem dX3_tellsNoKey_21 : decode cX3_tellsNoKey 21 = .ok (.aload_n 0, 1) := by decide +kernel
theorem dX3_tellsNoKey_22 : decode cX3_tellsNoKey 22 = .ok (.iload_n 1, 1) := by decide +kernel
theorem dX3_tellsNoKey_23 : decode cX3_tellsNoKey 23 = .ok (.iconst 1, 1) := by decide +kernel
theorem dX3_tellsNoKey_24 : decode cX3_tellsNoKey 24 = .ok (.iadd, 1) := by decide +kernel
theorem dX3_tellsNoKey_25 : decode cX3_tellsNoKey 25 = .ok (.invokevirtual 34, 3) := by decide +kernel
theorem dX3_tellsNoKey_28 : decode cX3_tellsNoKey 28 = .ok (.istore_n 3, 1) := by decide +kernel
theorem dX3_tellsNoKey_29 : decode cX3_tellsNoKey 29 = .ok (.aload_n 0, 1) := by decide +kernel
theorem dX3_tellsNoKey_30 : decode cX3_tellsNoKey 30 = .ok (.iload_n 1, 1) := by decide +kernel
theorem dX3_tellsNoKey_31 : decode cX3_tellsNoKey 31 = .ok (.invokevirtual 19, 3) := by decide +kernel
theorem dX3_tellsNoKey_34 : decode cX3_tellsNoKey 34 = .ok (.invokestatic 37, 3) := by decide +kernel
theorem dX3_tellsNoKey_37 : decode cX3_tellsNoKey 37 = .ok (.ifCond .eq 14, 3) := by decide +kernel
theorem dX3_tellsNoKey_40 : decode cX3_tellsNoKey 40 = .ok (.iload_n 3, 1) := by decide +kernel
theorem dX3_tellsNoKey_41 : decode cX3_tellsNoKey 41 = .ok (.invokestatic 40, 3) := by decide +kernel
theorem dX3_tellsNoKey_44 : decode cX3_tellsNoKey 44 = .ok (.ifCond .ne 7, 3) := by decide +kernel
theorem dX3_tellsNoKey_47 : decode cX3_tellsNoKey 47 = .ok (.iconst 1, 1) := by decide +kernel
theorem dX3_tellsNoKey_48 : decode cX3_tellsNoKey 48 = .ok (.goto 4, 3) := by decide +kernel
theorem dX3_tellsNoKey_51 : decode cX3_tellsNoKey 51 = .ok (.iconst 0, 1) := by decide +kernel
theorem dX3_tellsNoKey_52 : decode cX3_tellsNoKey 52 = .ok (.ireturn, 1) := by decide +kernel
