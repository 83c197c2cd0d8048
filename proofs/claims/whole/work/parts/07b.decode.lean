theorem dX4_init_0 : decode cX4_init 0 = .ok (.aload_n 0, 1) := by decide +kernel
theorem dX4_init_1 : decode cX4_init 1 = .ok (.invokespecial 3, 3) := by decide +kernel
theorem dX4_init_4 : decode cX4_init 4 = .ok (.aload_n 0, 1) := by decide +kernel
theorem dX4_init_5 : decode cX4_init 5 = .ok (.bipush 12, 2) := by decide +kernel
theorem dX4_init_7 : decode cX4_init 7 = .ok (.newarray .int, 2) := by decide +kernel
theorem dX4_init_9 : decode cX4_init 9 = .ok (.putfield 9, 3) := by decide +kernel
theorem dX4_init_12 : decode cX4_init 12 = .ok (.aload_n 0, 1) := by decide +kernel
theorem dX4_init_13 : decode cX4_init 13 = .ok (.bipush 12, 2) := by decide +kernel
theorem dX4_init_15 : decode cX4_init 15 = .ok (.newarray .int, 2) := by decide +kernel
theorem dX4_init_17 : decode cX4_init 17 = .ok (.putfield 15, 3) := by decide +kernel
theorem dX4_init_20 : decode cX4_init 20 = .ok (.aload_n 0, 1) := by decide +kernel
theorem dX4_init_21 : decode cX4_init 21 = .ok (.iconst (-1), 1) := by decide +kernel
theorem dX4_init_22 : decode cX4_init 22 = .ok (.putfield 18, 3) := by decide +kernel
theorem dX4_init_25 : decode cX4_init 25 = .ok (.aload_n 0, 1) := by decide +kernel
theorem dX4_init_26 : decode cX4_init 26 = .ok (.bipush 12, 2) := by decide +kernel
theorem dX4_init_28 : decode cX4_init 28 = .ok (.newarray .int, 2) := by decide +kernel
theorem dX4_init_30 : decode cX4_init 30 = .ok (.putfield 22, 3) := by decide +kernel
theorem dX4_init_33 : decode cX4_init 33 = .ok (.aload_n 0, 1) := by decide +kernel
theorem dX4_init_34 : decode cX4_init 34 = .ok (.bipush 12, 2) := by decide +kernel
theorem dX4_init_36 : decode cX4_init 36 = .ok (.anewarray 25, 3) := by decide +kernel
theorem dX4_init_39 : decode cX4_init 39 = .ok (.putfield 27, 3) := by decide +kernel
theorem dX4_init_42 : decode cX4_init 42 = .ok (.return_, 1) := by decide +kernel
theorem dX4_signAt_0 : decode cX4_signAt 0 = .ok (.iload_n 1, 1) := by decide +kernel
theorem dX4_signAt_1 : decode cX4_signAt 1 = .ok (.ifCond .lt 20, 3) := by decide +kernel
theorem dX4_signAt_4 : decode cX4_signAt 4 = .ok (.iload_n 1, 1) := by decide +kernel
theorem dX4_signAt_5 : decode cX4_signAt 5 = .ok (.aload_n 0, 1) := by decide +kernel
theorem dX4_signAt_6 : decode cX4_signAt 6 = .ok (.getfield 31, 3) := by decide +kernel
theorem dX4_signAt_9 : decode cX4_signAt 9 = .ok (.if_icmp .ge 12, 3) := by decide +kernel
theorem dX4_signAt_12 : decode cX4_signAt 12 = .ok (.aload_n 0, 1) := by decide +kernel
theorem dX4_signAt_13 : decode cX4_signAt 13 = .ok (.getfield 9, 3) := by decide +kernel
theorem dX4_signAt_16 : decode cX4_signAt 16 = .ok (.iload_n 1, 1) := by decide +kernel
theorem dX4_signAt_17 : decode cX4_signAt 17 = .ok (.iaload, 1) := by decide +kernel
theorem dX4_signAt_18 : decode cX4_signAt 18 = .ok (.goto 4, 3) := by decide +kernel
theorem dX4_signAt_21 : decode cX4_signAt 21 = .ok (.iconst (-1), 1) := by decide +kernel
theorem dX4_signAt_22 : decode cX4_signAt 22 = .ok (.ireturn, 1) := by decide +kernel
theorem dX4_figuresAt_0 : decode cX4_figuresAt 0 = .ok (.iload_n 1, 1) := by decide +kernel
theorem dX4_figuresAt_1 : decode cX4_figuresAt 1 = .ok (.ifCond .lt 20, 3) := by decide +kernel
theorem dX4_figuresAt_4 : decode cX4_figuresAt 4 = .ok (.iload_n 1, 1) := by decide +kernel
theorem dX4_figuresAt_5 : decode cX4_figuresAt 5 = .ok (.aload_n 0, 1) := by decide +kernel
theorem dX4_figuresAt_6 : decode cX4_figuresAt 6 = .ok (.getfield 31, 3) := by decide +kernel
theorem dX4_figuresAt_9 : decode cX4_figuresAt 9 = .ok (.if_icmp .ge 12, 3) := by decide +kernel
theorem dX4_figuresAt_12 : decode cX4_figuresAt 12 = .ok (.aload_n 0, 1) := by decide +kernel
theorem dX4_figuresAt_13 : decode cX4_figuresAt 13 = .ok (.getfield 15, 3) := by decide +kernel
theorem dX4_figuresAt_16 : decode cX4_figuresAt 16 = .ok (.iload_n 1, 1) := by decide +kernel
theorem dX4_figuresAt_17 : decode cX4_figuresAt 17 = .ok (.iaload, 1) := by decide +kernel
theorem dX4_figuresAt_18 : decode cX4_figuresAt 18 = .ok (.goto 4, 3) := by decide +kernel
theorem dX4_figuresAt_21 : decode cX4_figuresAt 21 = .ok (.iconst (-1), 1) := by decide +kernel
theorem dX4_figuresAt_22 : decode cX4_figuresAt 22 = .ok (.ireturn, 1) := by decide +kernel
theorem dX4_readRule_0 : decode cX4_readRule 0 = .ok (.aload_n 0, 1) := by decide +kernel
theorem dX4_readRule_1 : decode cX4_readRule 1 = .ok (.aload_n 1, 1) := by decide +kernel
theorem dX4_readRule_2 : decode cX4_readRule 2 = .ok (.getfield 34, 3) := by decide +kernel
theorem dX4_readRule_5 : decode cX4_readRule 5 = .ok (.iconst 3, 1) := by decide +kernel
theorem dX4_readRule_6 : decode cX4_readRule 6 = .ok (.idiv, 1) := by decide +kernel
theorem dX4_readRule_7 : decode cX4_readRule 7 = .ok (.bipush 12, 2) := by decide +kernel
theorem dX4_readRule_9 : decode cX4_readRule 9 = .ok (.invokestatic 39, 3) := by decide +kernel
theorem dX4_readRule_12 : decode cX4_readRule 12 = .ok (.putfield 31, 3) := by decide +kernel
theorem dX4_readRule_15 : decode cX4_readRule 15 = .ok (.iconst 0, 1) := by decide +kernel
theorem dX4_readRule_16 : decode cX4_readRule 16 = .ok (.istore_n 2, 1) := by decide +kernel
theorem dX4_readRule_17 : decode cX4_readRule 17 = .ok (.iload_n 2, 1) := by decide +kernel
theorem dX4_readRule_18 : decode cX4_readRule 18 = .ok (.aload_n 0, 1) := by decide +kernel
theorem dX4_readRule_19 : decode cX4_readRule 19 = .ok (.getfield 31, 3) := by decide +kernel
theorem dX4_readRule_22 : decode cX4_readRule 22 = .ok (.if_icmp .ge 37, 3) := by decide +kernel
theorem dX4_readRule_25 : decode cX4_readRule 25 = .ok (.aload_n 0, 1) := by decide +kernel
theorem dX4_readRule_26 : decode cX4_readRule 26 = .ok (.getfield 9, 3) := by decide +kernel
theorem dX4_readRule_29 : decode cX4_readRule 29 = .ok (.iload_n 2, 1) := by decide +kernel
theorem dX4_readRule_30 : decode cX4_readRule 30 = .ok (.aload_n 1, 1) := by decide +kernel
theorem dX4_readRule_31 : decode cX4_readRule 31 = .ok (.iload_n 2, 1) := by decide +kernel
theorem dX4_readRule_32 : decode cX4_readRule 32 = .ok (.iconst 3, 1) := by decide +kernel
theorem dX4_readRule_33 : decode cX4_readRule 33 = .ok (.imul, 1) := by decide +kernel
theorem dX4_readRule_34 : decode cX4_readRule 34 = .ok (.invokevirtual 45, 3) := by decide +kernel
theorem dX4_readRule_37 : decode cX4_readRule 37 = .ok (.iastore, 1) := by decide +kernel
theorem dX4_readRule_38 : decode cX4_readRule 38 = .ok (.aload_n 0, 1) := by decide +kernel
theorem dX4_readRule_39 : decode cX4_readRule 39 = .ok (.getfield 15, 3) := by decide +kernel
theorem dX4_readRule_42 : decode cX4_readRule 42 = .ok (.iload_n 2, 1) := by decide +kernel
theorem dX4_readRule_43 : decode cX4_readRule 43 = .ok (.aload_n 1, 1) := by decide +kernel
theorem dX4_readRule_44 : decode cX4_readRule 44 = .ok (.iload_n 2, 1) := by decide +kernel
theorem dX4_readRule_45 : decode cX4_readRule 45 = .ok (.iconst 3, 1) := by decide +kernel
theorem dX4_readRule_46 : decode cX4_readRule 46 = .ok (.imul, 1) := by decide +kernel
theorem dX4_readRule_47 : decode cX4_readRule 47 = .ok (.iconst 1, 1) := by decide +kernel
theorem dX4_readRule_48 : decode cX4_readRule 48 = .ok (.iadd, 1) := by decide +kernel
theorem dX4_readRule_49 : decode cX4_readRule 49 = .ok (.invokevirtual 49, 3) := by decide +kernel
theorem dX4_readRule_52 : decode cX4_readRule 52 = .ok (.iastore, 1) := by decide +kernel
theorem dX4_readRule_53 : decode cX4_readRule 53 = .ok (.iinc 2 1, 3) := by decide +kernel
theorem dX4_readRule_56 : decode cX4_readRule 56 = .ok (.goto (-39), 3) := by decide +kernel
theorem dX4_readRule_59 : decode cX4_readRule 59 = .ok (.aload_n 0, 1) := by decide +kernel
theorem dX4_readRule_60 : decode cX4_readRule 60 = .ok (.invokevirtual 52, 3) := by decide +kernel
theorem dX4_readRule_63 : decode cX4_readRule 63 = .ok (.return_, 1) := by decide +kernel
theorem dX4_takeRule_0 : decode cX4_takeRule 0 = .ok (.aload_n 0, 1) := by decide +kernel
theorem dX4_takeRule_1 : decode cX4_takeRule 1 = .ok (.aload_n 1, 1) := by decide +kernel
theorem dX4_takeRule_2 : decode cX4_takeRule 2 = .ok (.invokevirtual 55, 3) := by decide +kernel
theorem dX4_takeRule_5 : decode cX4_takeRule 5 = .ok (.aload_n 0, 1) := by decide +kernel
theorem dX4_takeRule_6 : decode cX4_takeRule 6 = .ok (.invokevirtual 52, 3) := by decide +kernel
theorem dX4_takeRule_9 : decode cX4_takeRule 9 = .ok (.return_, 1) := by decide +kernel
theorem dX4_copyRule_0 : decode cX4_copyRule 0 = .ok (.aload_n 0, 1) := by decide +kernel
theorem dX4_copyRule_1 : decode cX4_copyRule 1 = .ok (.aload_n 1, 1) := by decide +kernel
theorem dX4_copyRule_2 : decode cX4_copyRule 2 = .ok (.getfield 31, 3) := by decide +kernel
theorem dX4_copyRule_5 : decode cX4_copyRule 5 = .ok (.putfield 31, 3) := by decide +kernel
theorem dX4_copyRule_8 : decode cX4_copyRule 8 = .ok (.aload_n 1, 1) := by decide +kernel
theorem dX4_copyRule_9 : decode cX4_copyRule 9 = .ok (.getfield 9, 3) := by decide +kernel
theorem dX4_copyRule_12 : decode cX4_copyRule 12 = .ok (.iconst 0, 1) := by decide +kernel
theorem dX4_copyRule_13 : decode cX4_copyRule 13 = .ok (.aload_n 0, 1) := by decide +kernel
theorem dX4_copyRule_14 : decode cX4_copyRule 14 = .ok (.getfield 9, 3) := by decide +kernel
theorem dX4_copyRule_17 : decode cX4_copyRule 17 = .ok (.iconst 0, 1) := by decide +kernel
theorem dX4_copyRule_18 : decode cX4_copyRule 18 = .ok (.bipush 12, 2) := by decide +kernel
theorem dX4_copyRule_20 : decode cX4_copyRule 20 = .ok (.invokestatic 59, 3) := by decide +kernel
theorem dX4_copyRule_23 : decode cX4_copyRule 23 = .ok (.aload_n 1, 1) := by decide +kernel
theorem dX4_copyRule_24 : decode cX4_copyRule 24 = .ok (.getfield 15, 3) := by decide +kernel
theorem dX4_copyRule_27 : decode cX4_copyRule 27 = .ok (.iconst 0, 1) := by decide +kernel
theorem dX4_copyRule_28 : decode cX4_copyRule 28 = .ok (.aload_n 0, 1) := by decide +kernel
theorem dX4_copyRule_29 : decode cX4_copyRule 29 = .ok (.getfield 15, 3) := by decide +kernel
theorem dX4_copyRule_32 : decode cX4_copyRule 32 = .ok (.iconst 0, 1) := by decide +kernel
theorem dX4_copyRule_33 : decode cX4_copyRule 33 = .ok (.bipush 12, 2) := by decide +kernel
theorem dX4_copyRule_35 : decode cX4_copyRule 35 = .ok (.invokestatic 59, 3) := by decide +kernel
theorem dX4_copyRule_38 : decode cX4_copyRule 38 = .ok (.return_, 1) := by decide +kernel
theorem dX4_dropRule_0 : decode cX4_dropRule 0 = .ok (.aload_n 0, 1) := by decide +kernel
theorem dX4_dropRule_1 : decode cX4_dropRule 1 = .ok (.iconst 0, 1) := by decide +kernel
theorem dX4_dropRule_2 : decode cX4_dropRule 2 = .ok (.putfield 31, 3) := by decide +kernel
theorem dX4_dropRule_5 : decode cX4_dropRule 5 = .ok (.aload_n 0, 1) := by decide +kernel
theorem dX4_dropRule_6 : decode cX4_dropRule 6 = .ok (.invokevirtual 52, 3) := by decide +kernel
theorem dX4_dropRule_9 : decode cX4_dropRule 9 = .ok (.return_, 1) := by decide +kernel
theorem dX4_hasTrace_0 : decode cX4_hasTrace 0 = .ok (.aload_n 0, 1) := by decide +kernel
theorem dX4_hasTrace_1 : decode cX4_hasTrace 1 = .ok (.getfield 18, 3) := by decide +kernel
theorem dX4_hasTrace_4 : decode cX4_hasTrace 4 = .ok (.iconst (-1), 1) := by decide +kernel
theorem dX4_hasTrace_5 : decode cX4_hasTrace 5 = .ok (.if_icmp .eq 7, 3) := by decide +kernel
theorem dX4_hasTrace_8 : decode cX4_hasTrace 8 = .ok (.iconst 1, 1) := by decide +kernel
theorem dX4_hasTrace_9 : decode cX4_hasTrace 9 = .ok (.goto 4, 3) := by decide +kernel
theorem dX4_hasTrace_12 : decode cX4_hasTrace 12 = .ok (.iconst 0, 1) := by decide +kernel
theorem dX4_hasTrace_13 : decode cX4_hasTrace 13 = .ok (.ireturn, 1) := by decide +kernel
theorem dX4_dropTrace_0 : decode cX4_dropTrace 0 = .ok (.aload_n 0, 1) := by decide +kernel
theorem dX4_dropTrace_1 : decode cX4_dropTrace 1 = .ok (.iconst (-1), 1) := by decide +kernel
theorem dX4_dropTrace_2 : decode cX4_dropTrace 2 = .ok (.putfield 18, 3) := by decide +kernel
theorem dX4_dropTrace_5 : decode cX4_dropTrace 5 = .ok (.return_, 1) := by decide +kernel
theorem dX4_startTrace_0 : decode cX4_startTrace 0 = .ok (.aload_n 0, 1) := by decide +kernel
theorem dX4_startTrace_1 : decode cX4_startTrace 1 = .ok (.iconst 0, 1) := by decide +kernel
theorem dX4_startTrace_2 : decode cX4_startTrace 2 = .ok (.putfield 18, 3) := by decide +kernel
theorem dX4_startTrace_5 : decode cX4_startTrace 5 = .ok (.return_, 1) := by decide +kernel
theorem dX4_noteInTrace_0 : decode cX4_noteInTrace 0 = .ok (.aload_n 0, 1) := by decide +kernel
theorem dX4_noteInTrace_1 : decode cX4_noteInTrace 1 = .ok (.iload_n 1, 1) := by decide +kernel
theorem dX4_noteInTrace_2 : decode cX4_noteInTrace 2 = .ok (.invokevirtual 65, 3) := by decide +kernel
theorem dX4_noteInTrace_5 : decode cX4_noteInTrace 5 = .ok (.ifCond .ne 19, 3) := by decide +kernel
theorem dX4_noteInTrace_8 : decode cX4_noteInTrace 8 = .ok (.aload_n 0, 1) := by decide +kernel
theorem dX4_noteInTrace_9 : decode cX4_noteInTrace 9 = .ok (.getfield 18, 3) := by decide +kernel
theorem dX4_noteInTrace_12 : decode cX4_noteInTrace 12 = .ok (.ifCond .lt 12, 3) := by decide +kernel
theorem dX4_noteInTrace_15 : decode cX4_noteInTrace 15 = .ok (.aload_n 0, 1) := by decide +kernel
theorem dX4_noteInTrace_16 : decode cX4_noteInTrace 16 = .ok (.getfield 18, 3) := by decide +kernel
theorem dX4_noteInTrace_19 : decode cX4_noteInTrace 19 = .ok (.bipush 12, 2) := by decide +kernel
theorem dX4_noteInTrace_21 : decode cX4_noteInTrace 21 = .ok (.if_icmp .lt 4, 3) := by decide +kernel
theorem dX4_noteInTrace_24 : decode cX4_noteInTrace 24 = .ok (.return_, 1) := by decide +kernel
theorem dX4_noteInTrace_25 : decode cX4_noteInTrace 25 = .ok (.aload_n 0, 1) := by decide +kernel
theorem dX4_noteInTrace_26 : decode cX4_noteInTrace 26 = .ok (.getfield 22, 3) := by decide +kernel
theorem dX4_noteInTrace_29 : decode cX4_noteInTrace 29 = .ok (.aload_n 0, 1) := by decide +kernel
theorem dX4_noteInTrace_30 : decode cX4_noteInTrace 30 = .ok (.getfield 18, 3) := by decide +kernel
theorem dX4_noteInTrace_33 : decode cX4_noteInTrace 33 = .ok (.iload_n 1, 1) := by decide +kernel
theorem dX4_noteInTrace_34 : decode cX4_noteInTrace 34 = .ok (.iastore, 1) := by decide +kernel
theorem dX4_noteInTrace_35 : decode cX4_noteInTrace 35 = .ok (.aload_n 0, 1) := by decide +kernel
theorem dX4_noteInTrace_36 : decode cX4_noteInTrace 36 = .ok (.getfield 27, 3) := by decide +kernel
theorem dX4_noteInTrace_39 : decode cX4_noteInTrace 39 = .ok (.aload_n 0, 1) := by decide +kernel
theorem dX4_noteInTrace_40 : decode cX4_noteInTrace 40 = .ok (.getfield 18, 3) := by decide +kernel
theorem dX4_noteInTrace_43 : decode cX4_noteInTrace 43 = .ok (.aload_n 2, 1) := by decide +kernel
theorem dX4_noteInTrace_44 : decode cX4_noteInTrace 44 = .ok (.aastore, 1) := by decide +kernel
theorem dX4_noteInTrace_45 : decode cX4_noteInTrace 45 = .ok (.aload_n 0, 1) := by decide +kernel
theorem dX4_noteInTrace_46 : decode cX4_noteInTrace 46 = .ok (.dup, 1) := by decide +kernel
theorem dX4_noteInTrace_47 : decode cX4_noteInTrace 47 = .ok (.getfield 18, 3) := by decide +kernel
theorem dX4_noteInTrace_50 : decode cX4_noteInTrace 50 = .ok (.iconst 1, 1) := by decide +kernel
theorem dX4_noteInTrace_51 : decode cX4_noteInTrace 51 = .ok (.iadd, 1) := by decide +kernel
theorem dX4_noteInTrace_52 : decode cX4_noteInTrace 52 = .ok (.putfield 18, 3) := by decide +kernel
theorem dX4_noteInTrace_55 : decode cX4_noteInTrace 55 = .ok (.return_, 1) := by decide +kernel
theorem dX4_traces_0 : decode cX4_traces 0 = .ok (.iconst 0, 1) := by decide +kernel
theorem dX4_traces_1 : decode cX4_traces 1 = .ok (.istore_n 2, 1) := by decide +kernel
theorem dX4_traces_2 : decode cX4_traces 2 = .ok (.iload_n 2, 1) := by decide +kernel
theorem dX4_traces_3 : decode cX4_traces 3 = .ok (.aload_n 0, 1) := by decide +kernel
theorem dX4_traces_4 : decode cX4_traces 4 = .ok (.getfield 18, 3) := by decide +kernel
theorem dX4_traces_7 : decode cX4_traces 7 = .ok (.if_icmp .ge 20, 3) := by decide +kernel
theorem dX4_traces_10 : decode cX4_traces 10 = .ok (.aload_n 0, 1) := by decide +kernel
theorem dX4_traces_11 : decode cX4_traces 11 = .ok (.iload_n 2, 1) := by decide +kernel
theorem dX4_traces_12 : decode cX4_traces 12 = .ok (.invokevirtual 69, 3) := by decide +kernel
theorem dX4_traces_15 : decode cX4_traces 15 = .ok (.iload_n 1, 1) := by decide +kernel
theorem dX4_traces_16 : decode cX4_traces 16 = .ok (.if_icmp .ne 5, 3) := by decide +kernel
theorem dX4_traces_19 : decode cX4_traces 19 = .ok (.iconst 1, 1) := by decide +kernel
theorem dX4_traces_20 : decode cX4_traces 20 = .ok (.ireturn, 1) := by decide +kernel
theorem dX4_traces_21 : decode cX4_traces 21 = .ok (.iinc 2 1, 3) := by decide +kernel
theorem dX4_traces_24 : decode cX4_traces 24 = .ok (.goto (-22), 3) := by decide +kernel
theorem dX4_traces_27 : decode cX4_traces 27 = .ok (.iconst 0, 1) := by decide +kernel
theorem dX4_traces_28 : decode cX4_traces 28 = .ok (.ireturn, 1) := by decide +kernel
theorem dX4_tracedKey_0 : decode cX4_tracedKey 0 = .ok (.iload_n 1, 1) := by decide +kernel
theorem dX4_tracedKey_1 : decode cX4_tracedKey 1 = .ok (.ifCond .lt 20, 3) := by decide +kernel
theorem dX4_tracedKey_4 : decode cX4_tracedKey 4 = .ok (.iload_n 1, 1) := by decide +kernel
theorem dX4_tracedKey_5 : decode cX4_tracedKey 5 = .ok (.aload_n 0, 1) := by decide +kernel
theorem dX4_tracedKey_6 : decode cX4_tracedKey 6 = .ok (.getfield 18, 3) := by decide +kernel
theorem dX4_tracedKey_9 : decode cX4_tracedKey 9 = .ok (.if_icmp .ge 12, 3) := by decide +kernel
theorem dX4_tracedKey_12 : decode cX4_tracedKey 12 = .ok (.aload_n 0, 1) := by decide +kernel
theorem dX4_tracedKey_13 : decode cX4_tracedKey 13 = .ok (.getfield 22, 3) := by decide +kernel
theorem dX4_tracedKey_16 : decode cX4_tracedKey 16 = .ok (.iload_n 1, 1) := by decide +kernel
theorem dX4_tracedKey_17 : decode cX4_tracedKey 17 = .ok (.iaload, 1) := by decide +kernel
theorem dX4_tracedKey_18 : decode cX4_tracedKey 18 = .ok (.goto 4, 3) := by decide +kernel
theorem dX4_tracedKey_21 : decode cX4_tracedKey 21 = .ok (.iconst (-1), 1) := by decide +kernel
theorem dX4_tracedKey_22 : decode cX4_tracedKey 22 = .ok (.ireturn, 1) := by decide +kernel
theorem dX4_tracedResult_0 : decode cX4_tracedResult 0 = .ok (.iload_n 1, 1) := by decide +kernel
theorem dX4_tracedResult_1 : decode cX4_tracedResult 1 = .ok (.ifCond .lt 20, 3) := by decide +kernel
theorem dX4_tracedResult_4 : decode cX4_tracedResult 4 = .ok (.iload_n 1, 1) := by decide +kernel
theorem dX4_tracedResult_5 : decode cX4_tracedResult 5 = .ok (.aload_n 0, 1) := by decide +kernel
theorem dX4_tracedResult_6 : decode cX4_tracedResult 6 = .ok (.getfield 18, 3) := by decide +kernel
theorem dX4_tracedResult_9 : decode cX4_tracedResult 9 = .ok (.if_icmp .ge 12, 3) := by decide +kernel
theorem dX4_tracedResult_12 : decode cX4_tracedResult 12 = .ok (.aload_n 0, 1) := by decide +kernel
theorem dX4_tracedResult_13 : decode cX4_tracedResult 13 = .ok (.getfield 27, 3) := by decide +kernel
theorem dX4_tracedResult_16 : decode cX4_tracedResult 16 = .ok (.iload_n 1, 1) := by decide +kernel
theorem dX4_tracedResult_17 : decode cX4_tracedResult 17 = .ok (.aaload, 1) := by decide +kernel
theorem dX4_tracedResult_18 : decode cX4_tracedResult 18 = .ok (.goto 4, 3) := by decide +kernel
theorem dX4_tracedResult_21 : decode cX4_tracedResult 21 = .ok (.aconst_null, 1) := by decide +kernel
theorem dX4_tracedResult_22 : decode cX4_tracedResult 22 = .ok (.areturn, 1) := by decide +kernel
theorem dX4_copyFrom_0 : decode cX4_copyFrom 0 = .ok (.aload_n 0, 1) := by decide +kernel
theorem dX4_copyFrom_1 : decode cX4_copyFrom 1 = .ok (.aload_n 1, 1) := by decide +kernel
theorem dX4_copyFrom_2 : decode cX4_copyFrom 2 = .ok (.invokevirtual 55, 3) := by decide +kernel
theorem dX4_copyFrom_5 : decode cX4_copyFrom 5 = .ok (.aload_n 0, 1) := by decide +kernel
theorem dX4_copyFrom_6 : decode cX4_copyFrom 6 = .ok (.aload_n 1, 1) := by decide +kernel
theorem dX4_copyFrom_7 : decode cX4_copyFrom 7 = .ok (.getfield 72, 3) := by decide +kernel
theorem dX4_copyFrom_10 : decode cX4_copyFrom 10 = .ok (.putfield 72, 3) := by decide +kernel
theorem dX4_copyFrom_13 : decode cX4_copyFrom 13 = .ok (.aload_n 0, 1) := by decide +kernel
theorem dX4_copyFrom_14 : decode cX4_copyFrom 14 = .ok (.aload_n 1, 1) := by decide +kernel
theorem dX4_copyFrom_15 : decode cX4_copyFrom 15 = .ok (.getfield 18, 3) := by decide +kernel
theorem dX4_copyFrom_18 : decode cX4_copyFrom 18 = .ok (.putfield 18, 3) := by decide +kernel
theorem dX4_copyFrom_21 : decode cX4_copyFrom 21 = .ok (.aload_n 1, 1) := by decide +kernel
theorem dX4_copyFrom_22 : decode cX4_copyFrom 22 = .ok (.getfield 22, 3) := by decide +kernel
theorem dX4_copyFrom_25 : decode cX4_copyFrom 25 = .ok (.iconst 0, 1) := by decide +kernel
theorem dX4_copyFrom_26 : decode cX4_copyFrom 26 = .ok (.aload_n 0, 1) := by decide +kernel
theorem dX4_copyFrom_27 : decode cX4_copyFrom 27 = .ok (.getfield 22, 3) := by decide +kernel
theorem dX4_copyFrom_30 : decode cX4_copyFrom 30 = .ok (.iconst 0, 1) := by decide +kernel
theorem dX4_copyFrom_31 : decode cX4_copyFrom 31 = .ok (.bipush 12, 2) := by decide +kernel
theorem dX4_copyFrom_33 : decode cX4_copyFrom 33 = .ok (.invokestatic 59, 3) := by decide +kernel
theorem dX4_copyFrom_36 : decode cX4_copyFrom 36 = .ok (.iconst 0, 1) := by decide +kernel
theorem dX4_copyFrom_37 : decode cX4_copyFrom 37 = .ok (.istore_n 2, 1) := by decide +kernel
theorem dX4_copyFrom_38 : decode cX4_copyFrom 38 = .ok (.iload_n 2, 1) := by decide +kernel
theorem dX4_copyFrom_39 : decode cX4_copyFrom 39 = .ok (.bipush 12, 2) := by decide +kernel
theorem dX4_copyFrom_41 : decode cX4_copyFrom 41 = .ok (.if_icmp .ge 21, 3) := by decide +kernel
theorem dX4_copyFrom_44 : decode cX4_copyFrom 44 = .ok (.aload_n 0, 1) := by decide +kernel
theorem dX4_copyFrom_45 : decode cX4_copyFrom 45 = .ok (.getfield 27, 3) := by decide +kernel
theorem dX4_copyFrom_48 : decode cX4_copyFrom 48 = .ok (.iload_n 2, 1) := by decide +kernel
theorem dX4_copyFrom_49 : decode cX4_copyFrom 49 = .ok (.aload_n 1, 1) := by decide +kernel
theorem dX4_copyFrom_50 : decode cX4_copyFrom 50 = .ok (.getfield 27, 3) := by decide +kernel
theorem dX4_copyFrom_53 : decode cX4_copyFrom 53 = .ok (.iload_n 2, 1) := by decide +kernel
theorem dX4_copyFrom_54 : decode cX4_copyFrom 54 = .ok (.aaload, 1) := by decide +kernel
theorem dX4_copyFrom_55 : decode cX4_copyFrom 55 = .ok (.aastore, 1) := by decide +kernel
theorem dX4_copyFrom_56 : decode cX4_copyFrom 56 = .ok (.iinc 2 1, 3) := by decide +kernel
theorem dX4_copyFrom_59 : decode cX4_copyFrom 59 = .ok (.goto (-21), 3) := by decide +kernel
theorem dX4_copyFrom_62 : decode cX4_copyFrom 62 = .ok (.return_, 1) := by decide +kernel
theorem dX5_init_0 : decode cX5_init 0 = .ok (.aload_n 0, 1) := by decide +kernel
theorem dX5_init_1 : decode cX5_init 1 = .ok (.invokespecial 3, 3) := by decide +kernel
theorem dX5_init_4 : decode cX5_init 4 = .ok (.aload_n 0, 1) := by decide +kernel
theorem dX5_init_5 : decode cX5_init 5 = .ok (.bipush 8, 2) := by decide +kernel
theorem dX5_init_7 : decode cX5_init 7 = .ok (.anewarray 9, 3) := by decide +kernel
theorem dX5_init_10 : decode cX5_init 10 = .ok (.putfield 11, 3) := by decide +kernel
theorem dX5_init_13 : decode cX5_init 13 = .ok (.aload_n 0, 1) := by decide +kernel
theorem dX5_init_14 : decode cX5_init 14 = .ok (.bipush 16, 2) := by decide +kernel
theorem dX5_init_16 : decode cX5_init 16 = .ok (.anewarray 17, 3) := by decide +kernel
theorem dX5_init_19 : decode cX5_init 19 = .ok (.putfield 19, 3) := by decide +kernel
theorem dX5_init_22 : decode cX5_init 22 = .ok (.aload_n 0, 1) := by decide +kernel
theorem dX5_init_23 : decode cX5_init 23 = .ok (.bipush 24, 2) := by decide +kernel
theorem dX5_init_25 : decode cX5_init 25 = .ok (.anewarray 9, 3) := by decide +kernel
theorem dX5_init_28 : decode cX5_init 28 = .ok (.putfield 23, 3) := by decide +kernel
theorem dX5_init_31 : decode cX5_init 31 = .ok (.aload_n 0, 1) := by decide +kernel
theorem dX5_init_32 : decode cX5_init 32 = .ok (.bipush 24, 2) := by decide +kernel
theorem dX5_init_34 : decode cX5_init 34 = .ok (.newarray .int, 2) := by decide +kernel
theorem dX5_init_36 : decode cX5_init 36 = .ok (.putfield 26, 3) := by decide +kernel
theorem dX5_init_39 : decode cX5_init 39 = .ok (.iconst 0, 1) := by decide +kernel
theorem dX5_init_40 : decode cX5_init 40 = .ok (.istore_n 1, 1) := by decide +kernel
theorem dX5_init_41 : decode cX5_init 41 = .ok (.iload_n 1, 1) := by decide +kernel
theorem dX5_init_42 : decode cX5_init 42 = .ok (.bipush 16, 2) := by decide +kernel
theorem dX5_init_44 : decode cX5_init 44 = .ok (.if_icmp .ge 22, 3) := by decide +kernel
theorem dX5_init_47 : decode cX5_init 47 = .ok (.aload_n 0, 1) := by decide +kernel
theorem dX5_init_48 : decode cX5_init 48 = .ok (.getfield 19, 3) := by decide +kernel
theorem dX5_init_51 : decode cX5_init 51 = .ok (.iload_n 1, 1) := by decide +kernel
theorem dX5_init_52 : decode cX5_init 52 = .ok (.new 17, 3) := by decide +kernel
theorem dX5_init_55 : decode cX5_init 55 = .ok (.dup, 1) := by decide +kernel
theorem dX5_init_56 : decode cX5_init 56 = .ok (.invokespecial 30, 3) := by decide +kernel
theorem dX5_init_59 : decode cX5_init 59 = .ok (.aastore, 1) := by decide +kernel
theorem dX5_init_60 : decode cX5_init 60 = .ok (.iinc 1 1, 3) := by decide +kernel
theorem dX5_init_63 : decode cX5_init 63 = .ok (.goto (-22), 3) := by decide +kernel
theorem dX5_init_66 : decode cX5_init 66 = .ok (.iconst 0, 1) := by decide +kernel
theorem dX5_init_67 : decode cX5_init 67 = .ok (.istore_n 1, 1) := by decide +kernel
theorem dX5_init_68 : decode cX5_init 68 = .ok (.iload_n 1, 1) := by decide +kernel
theorem dX5_init_69 : decode cX5_init 69 = .ok (.bipush 24, 2) := by decide +kernel
theorem dX5_init_71 : decode cX5_init 71 = .ok (.if_icmp .ge 23, 3) := by decide +kernel
theorem dX5_init_74 : decode cX5_init 74 = .ok (.aload_n 0, 1) := by decide +kernel
theorem dX5_init_75 : decode cX5_init 75 = .ok (.getfield 23, 3) := by decide +kernel
theorem dX5_init_78 : decode cX5_init 78 = .ok (.iload_n 1, 1) := by decide +kernel
theorem dX5_init_79 : decode cX5_init 79 = .ok (.iload_n 1, 1) := by decide +kernel
theorem dX5_init_80 : decode cX5_init 80 = .ok (.bipush 6, 2) := by decide +kernel
theorem dX5_init_82 : decode cX5_init 82 = .ok (.iconst (-1), 1) := by decide +kernel
theorem dX5_init_83 : decode cX5_init 83 = .ok (.aconst_null, 1) := by decide +kernel
theorem dX5_init_84 : decode cX5_init 84 = .ok (.invokestatic 31, 3) := by decide +kernel
theorem dX5_init_87 : decode cX5_init 87 = .ok (.aastore, 1) := by decide +kernel
theorem dX5_init_88 : decode cX5_init 88 = .ok (.iinc 1 1, 3) := by decide +kernel
theorem dX5_init_91 : decode cX5_init 91 = .ok (.goto (-23), 3) := by decide +kernel
theorem dX5_init_94 : decode cX5_init 94 = .ok (.return_, 1) := by decide +kernel
theorem dX5_targetOf_0 : decode cX5_targetOf 0 = .ok (.iload_n 1, 1) := by decide +kernel
theorem dX5_targetOf_1 : decode cX5_targetOf 1 = .ok (.invokestatic 35, 3) := by decide +kernel
theorem dX5_targetOf_4 : decode cX5_targetOf 4 = .ok (.ifCond .eq 15, 3) := by decide +kernel
theorem dX5_targetOf_7 : decode cX5_targetOf 7 = .ok (.aload_n 0, 1) := by decide +kernel
theorem dX5_targetOf_8 : decode cX5_targetOf 8 = .ok (.getfield 19, 3) := by decide +kernel
theorem dX5_targetOf_11 : decode cX5_targetOf 11 = .ok (.iload_n 1, 1) := by decide +kernel
theorem dX5_targetOf_12 : decode cX5_targetOf 12 = .ok (.bipush 8, 2) := by decide +kernel
theorem dX5_targetOf_14 : decode cX5_targetOf 14 = .ok (.isub, 1) := by decide +kernel
theorem dX5_targetOf_15 : decode cX5_targetOf 15 = .ok (.aaload, 1) := by decide +kernel
theorem dX5_targetOf_16 : decode cX5_targetOf 16 = .ok (.goto 4, 3) := by decide +kernel
theorem dX5_targetOf_19 : decode cX5_targetOf 19 = .ok (.aconst_null, 1) := by decide +kernel
theorem dX5_targetOf_20 : decode cX5_targetOf 20 = .ok (.areturn, 1) := by decide +kernel
theorem dX5_contentOf_0 : decode cX5_contentOf 0 = .ok (.iload_n 1, 1) := by decide +kernel
theorem dX5_contentOf_1 : decode cX5_contentOf 1 = .ok (.invokestatic 39, 3) := by decide +kernel
theorem dX5_contentOf_4 : decode cX5_contentOf 4 = .ok (.ifCond .eq 12, 3) := by decide +kernel
theorem dX5_contentOf_7 : decode cX5_contentOf 7 = .ok (.aload_n 0, 1) := by decide +kernel
theorem dX5_contentOf_8 : decode cX5_contentOf 8 = .ok (.getfield 11, 3) := by decide +kernel
theorem dX5_contentOf_11 : decode cX5_contentOf 11 = .ok (.iload_n 1, 1) := by decide +kernel
theorem dX5_contentOf_12 : decode cX5_contentOf 12 = .ok (.aaload, 1) := by decide +kernel
theorem dX5_contentOf_13 : decode cX5_contentOf 13 = .ok (.goto 4, 3) := by decide +kernel
theorem dX5_contentOf_16 : decode cX5_contentOf 16 = .ok (.aconst_null, 1) := by decide +kernel
theorem dX5_contentOf_17 : decode cX5_contentOf 17 = .ok (.areturn, 1) := by decide +kernel
theorem dX5_giveContent_0 : decode cX5_giveContent 0 = .ok (.aload_n 0, 1) := by decide +kernel
theorem dX5_giveContent_1 : decode cX5_giveContent 1 = .ok (.iload_n 1, 1) := by decide +kernel
theorem dX5_giveContent_2 : decode cX5_giveContent 2 = .ok (.invokevirtual 42, 3) := by decide +kernel
theorem dX5_giveContent_5 : decode cX5_giveContent 5 = .ok (.astore_n 3, 1) := by decide +kernel
theorem dX5_giveContent_6 : decode cX5_giveContent 6 = .ok (.iload_n 1, 1) := by decide +kernel
theorem dX5_giveContent_7 : decode cX5_giveContent 7 = .ok (.invokestatic 39, 3) := by decide +kernel
theorem dX5_giveContent_10 : decode cX5_giveContent 10 = .ok (.ifCond .eq 15, 3) := by decide +kernel
theorem dX5_giveContent_13 : decode cX5_giveContent 13 = .ok (.aload_n 3, 1) := by decide +kernel
theorem dX5_giveContent_14 : decode cX5_giveContent 14 = .ok (.ifnull 13, 3) := by decide +kernel
theorem dX5_giveContent_17 : decode cX5_giveContent 17 = .ok (.aload_n 3, 1) := by decide +kernel
theorem dX5_giveContent_18 : decode cX5_giveContent 18 = .ok (.getfield 46, 3) := by decide +kernel
theorem dX5_giveContent_21 : decode cX5_giveContent 21 = .ok (.iload_n 2, 1) := by decide +kernel
theorem dX5_giveContent_22 : decode cX5_giveContent 22 = .ok (.if_icmp .ne 5, 3) := by decide +kernel
theorem dX5_giveContent_25 : decode cX5_giveContent 25 = .ok (.iconst 0, 1) := by decide +kernel
theorem dX5_giveContent_26 : decode cX5_giveContent 26 = .ok (.ireturn, 1) := by decide +kernel
theorem dX5_giveContent_27 : decode cX5_giveContent 27 = .ok (.aload_n 0, 1) := by decide +kernel
theorem dX5_giveContent_28 : decode cX5_giveContent 28 = .ok (.getfield 11, 3) := by decide +kernel
theorem dX5_giveContent_31 : decode cX5_giveContent 31 = .ok (.iload_n 1, 1) := by decide +kernel
theorem dX5_giveContent_32 : decode cX5_giveContent 32 = .ok (.iload_n 2, 1) := by decide +kernel
theorem dX5_giveContent_33 : decode cX5_giveContent 33 = .ok (.invokestatic 50, 3) := by decide +kernel
theorem dX5_giveContent_36 : decode cX5_giveContent 36 = .ok (.aastore, 1) := by decide +kernel
theorem dX5_giveContent_37 : decode cX5_giveContent 37 = .ok (.iconst 1, 1) := by decide +kernel
theorem dX5_giveContent_38 : decode cX5_giveContent 38 = .ok (.ireturn, 1) := by decide +kernel
theorem dX5_takeContent_0 : decode cX5_takeContent 0 = .ok (.iload_n 1, 1) := by decide +kernel
theorem dX5_takeContent_1 : decode cX5_takeContent 1 = .ok (.invokestatic 39, 3) := by decide +kernel
theorem dX5_takeContent_4 : decode cX5_takeContent 4 = .ok (.ifCond .eq 10, 3) := by decide +kernel
theorem dX5_takeContent_7 : decode cX5_takeContent 7 = .ok (.aload_n 0, 1) := by decide +kernel
theorem dX5_takeContent_8 : decode cX5_takeContent 8 = .ok (.getfield 11, 3) := by decide +kernel
theorem dX5_takeContent_11 : decode cX5_takeContent 11 = .ok (.iload_n 1, 1) := by decide +kernel
theorem dX5_takeContent_12 : decode cX5_takeContent 12 = .ok (.aconst_null, 1) := by decide +kernel
theorem dX5_takeContent_13 : decode cX5_takeContent 13 = .ok (.aastore, 1) := by decide +kernel
theorem dX5_takeContent_14 : decode cX5_takeContent 14 = .ok (.return_, 1) := by decide +kernel
theorem dX5_emptyOf_0 : decode cX5_emptyOf 0 = .ok (.iload_n 1, 1) := by decide +kernel
theorem dX5_emptyOf_1 : decode cX5_emptyOf 1 = .ok (.invokestatic 53, 3) := by decide +kernel
theorem dX5_emptyOf_4 : decode cX5_emptyOf 4 = .ok (.ifCond .eq 12, 3) := by decide +kernel
theorem dX5_emptyOf_7 : decode cX5_emptyOf 7 = .ok (.aload_n 0, 1) := by decide +kernel
theorem dX5_emptyOf_8 : decode cX5_emptyOf 8 = .ok (.getfield 23, 3) := by decide +kernel
theorem dX5_emptyOf_11 : decode cX5_emptyOf 11 = .ok (.iload_n 1, 1) := by decide +kernel
theorem dX5_emptyOf_12 : decode cX5_emptyOf 12 = .ok (.aaload, 1) := by decide +kernel
theorem dX5_emptyOf_13 : decode cX5_emptyOf 13 = .ok (.goto 4, 3) := by decide +kernel
theorem dX5_emptyOf_16 : decode cX5_emptyOf 16 = .ok (.aconst_null, 1) := by decide +kernel
theorem dX5_emptyOf_17 : decode cX5_emptyOf 17 = .ok (.areturn, 1) := by decide +kernel
theorem dX5_resultOf_0 : decode cX5_resultOf 0 = .ok (.aload_n 0, 1) := by decide +kernel
theorem dX5_resultOf_1 : decode cX5_resultOf 1 = .ok (.iload_n 1, 1) := by decide +kernel
theorem dX5_resultOf_2 : decode cX5_resultOf 2 = .ok (.invokevirtual 56, 3) := by decide +kernel
theorem dX5_resultOf_5 : decode cX5_resultOf 5 = .ok (.astore_n 2, 1) := by decide +kernel
theorem dX5_resultOf_6 : decode cX5_resultOf 6 = .ok (.aload_n 2, 1) := by decide +kernel
theorem dX5_resultOf_7 : decode cX5_resultOf 7 = .ok (.ifnull 8, 3) := by decide +kernel
theorem dX5_resultOf_10 : decode cX5_resultOf 10 = .ok (.aload_n 2, 1) := by decide +kernel
theorem dX5_resultOf_11 : decode cX5_resultOf 11 = .ok (.getfield 60, 3) := by decide +kernel
theorem dX5_resultOf_14 : decode cX5_resultOf 14 = .ok (.areturn, 1) := by decide +kernel
theorem dX5_resultOf_15 : decode cX5_resultOf 15 = .ok (.aload_n 0, 1) := by decide +kernel
theorem dX5_resultOf_16 : decode cX5_resultOf 16 = .ok (.iload_n 1, 1) := by decide +kernel
theorem dX5_resultOf_17 : decode cX5_resultOf 17 = .ok (.invokevirtual 42, 3) := by decide +kernel
theorem dX5_resultOf_20 : decode cX5_resultOf 20 = .ok (.astore_n 3, 1) := by decide +kernel
theorem dX5_resultOf_21 : decode cX5_resultOf 21 = .ok (.aload_n 3, 1) := by decide +kernel
theorem dX5_resultOf_22 : decode cX5_resultOf 22 = .ok (.ifnonnull 11, 3) := by decide +kernel
theorem dX5_resultOf_25 : decode cX5_resultOf 25 = .ok (.aload_n 0, 1) := by decide +kernel
theorem dX5_resultOf_26 : decode cX5_resultOf 26 = .ok (.iload_n 1, 1) := by decide +kernel
theorem dX5_resultOf_27 : decode cX5_resultOf 27 = .ok (.invokevirtual 64, 3) := by decide +kernel
theorem dX5_resultOf_30 : decode cX5_resultOf 30 = .ok (.goto 4, 3) := by decide +kernel
theorem dX5_resultOf_33 : decode cX5_resultOf 33 = .ok (.aload_n 3, 1) := by decide +kernel
theorem dX5_resultOf_34 : decode cX5_resultOf 34 = .ok (.areturn, 1) := by decide +kernel
theorem dX5_failureOf_0 : decode cX5_failureOf 0 = .ok (.aload_n 0, 1) := by decide +kernel
theorem dX5_failureOf_1 : decode cX5_failureOf 1 = .ok (.iload_n 1, 1) := by decide +kernel
theorem dX5_failureOf_2 : decode cX5_failureOf 2 = .ok (.invokevirtual 67, 3) := by decide +kernel
theorem dX5_failureOf_5 : decode cX5_failureOf 5 = .ok (.astore_n 2, 1) := by decide +kernel
theorem dX5_failureOf_6 : decode cX5_failureOf 6 = .ok (.aload_n 2, 1) := by decide +kernel
theorem dX5_failureOf_7 : decode cX5_failureOf 7 = .ok (.ifnull 14, 3) := by decide +kernel
theorem dX5_failureOf_10 : decode cX5_failureOf 10 = .ok (.aload_n 2, 1) := by decide +kernel
theorem dX5_failureOf_11 : decode cX5_failureOf 11 = .ok (.invokevirtual 70, 3) := by decide +kernel
theorem dX5_failureOf_14 : decode cX5_failureOf 14 = .ok (.ifCond .eq 7, 3) := by decide +kernel
theorem dX5_failureOf_17 : decode cX5_failureOf 17 = .ok (.aload_n 2, 1) := by decide +kernel
theorem dX5_failureOf_18 : decode cX5_failureOf 18 = .ok (.goto 4, 3) := by decide +kernel
theorem dX5_failureOf_21 : decode cX5_failureOf 21 = .ok (.aconst_null, 1) := by decide +kernel
theorem dX5_failureOf_22 : decode cX5_failureOf 22 = .ok (.areturn, 1) := by decide +kernel
theorem dX5_toldResult_0 : decode cX5_toldResult 0 = .ok (.aload_n 0, 1) := by decide +kernel
theorem dX5_toldResult_1 : decode cX5_toldResult 1 = .ok (.iload_n 1, 1) := by decide +kernel
theorem dX5_toldResult_2 : decode cX5_toldResult 2 = .ok (.invokevirtual 67, 3) := by decide +kernel
theorem dX5_toldResult_5 : decode cX5_toldResult 5 = .ok (.astore_n 2, 1) := by decide +kernel
theorem dX5_toldResult_6 : decode cX5_toldResult 6 = .ok (.aload_n 2, 1) := by decide +kernel
theorem dX5_toldResult_7 : decode cX5_toldResult 7 = .ok (.ifnonnull 8, 3) := by decide +kernel
theorem dX5_toldResult_10 : decode cX5_toldResult 10 = .ok (.ldc 74, 2) := by decide +kernel
theorem dX5_toldResult_12 : decode cX5_toldResult 12 = .ok (.goto 7, 3) := by decide +kernel
theorem dX5_toldResult_15 : decode cX5_toldResult 15 = .ok (.aload_n 2, 1) := by decide +kernel
theorem dX5_toldResult_16 : decode cX5_toldResult 16 = .ok (.invokevirtual 75, 3) := by decide +kernel
theorem dX5_toldResult_19 : decode cX5_toldResult 19 = .ok (.ireturn, 1) := by decide +kernel
theorem dX5_targetsFailingBy_0 : decode cX5_targetsFailingBy 0 = .ok (.iconst 0, 1) := by decide +kernel
theorem dX5_targetsFailingBy_1 : decode cX5_targetsFailingBy 1 = .ok (.istore_n 2, 1) := by decide +kernel
theorem dX5_targetsFailingBy_2 : decode cX5_targetsFailingBy 2 = .ok (.iconst 0, 1) := by decide +kernel
theorem dX5_targetsFailingBy_3 : decode cX5_targetsFailingBy 3 = .ok (.istore_n 3, 1) := by decide +kernel
theorem dX5_targetsFailingBy_4 : decode cX5_targetsFailingBy 4 = .ok (.iload_n 3, 1) := by decide +kernel
theorem dX5_targetsFailingBy_5 : decode cX5_targetsFailingBy 5 = .ok (.bipush 16, 2) := by decide +kernel
theorem dX5_targetsFailingBy_7 : decode cX5_targetsFailingBy 7 = .ok (.if_icmp .ge 39, 3) := by decide +kernel
theorem dX5_targetsFailingBy_10 : decode cX5_targetsFailingBy 10 = .ok (.aload_n 0, 1) := by decide +kernel
theorem dX5_targetsFailingBy_11 : decode cX5_targetsFailingBy 11 = .ok (.bipush 8, 2) := by decide +kernel
theorem dX5_targetsFailingBy_13 : decode cX5_targetsFailingBy 13 = .ok (.iload_n 3, 1) := by decide +kernel
theorem dX5_targetsFailingBy_14 : decode cX5_targetsFailingBy 14 = .ok (.iadd, 1) := by decide +kernel
theorem dX5_targetsFailingBy_15 : decode cX5_targetsFailingBy 15 = .ok (.invokevirtual 79, 3) := by decide +kernel
theorem dX5_targetsFailingBy_18 : decode cX5_targetsFailingBy 18 = .ok (.astore 4, 2) := by decide +kernel
theorem dX5_targetsFailingBy_20 : decode cX5_targetsFailingBy 20 = .ok (.aload 4, 2) := by decide +kernel
theorem dX5_targetsFailingBy_22 : decode cX5_targetsFailingBy 22 = .ok (.ifnull 18, 3) := by decide +kernel
theorem dX5_targetsFailingBy_25 : decode cX5_targetsFailingBy 25 = .ok (.aload 4, 2) := by decide +kernel
theorem dX5_targetsFailingBy_27 : decode cX5_targetsFailingBy 27 = .ok (.iload_n 1, 1) := by decide +kernel
theorem dX5_targetsFailingBy_28 : decode cX5_targetsFailingBy 28 = .ok (.invokevirtual 82, 3) := by decide +kernel
theorem dX5_targetsFailingBy_31 : decode cX5_targetsFailingBy 31 = .ok (.ifCond .eq 9, 3) := by decide +kernel
theorem dX5_targetsFailingBy_34 : decode cX5_targetsFailingBy 34 = .ok (.iload_n 2, 1) := by decide +kernel
theorem dX5_targetsFailingBy_35 : decode cX5_targetsFailingBy 35 = .ok (.iconst 1, 1) := by decide +kernel
theorem dX5_targetsFailingBy_36 : decode cX5_targetsFailingBy 36 = .ok (.iload_n 3, 1) := by decide +kernel
theorem dX5_targetsFailingBy_37 : decode cX5_targetsFailingBy 37 = .ok (.ishl, 1) := by decide +kernel
theorem dX5_targetsFailingBy_38 : decode cX5_targetsFailingBy 38 = .ok (.ior, 1) := by decide +kernel
theorem dX5_targetsFailingBy_39 : decode cX5_targetsFailingBy 39 = .ok (.istore_n 2, 1) := by decide +kernel
theorem dX5_targetsFailingBy_40 : decode cX5_targetsFailingBy 40 = .ok (.iinc 3 1, 3) := by decide +kernel
theorem dX5_targetsFailingBy_43 : decode cX5_targetsFailingBy 43 = .ok (.goto (-39), 3) := by decide +kernel
theorem dX5_targetsFailingBy_46 : decode cX5_targetsFailingBy 46 = .ok (.iload_n 2, 1) := by decide +kernel
theorem dX5_targetsFailingBy_47 : decode cX5_targetsFailingBy 47 = .ok (.ireturn, 1) := by decide +kernel
theorem dX5_targetsTracing_0 : decode cX5_targetsTracing 0 = .ok (.iconst 0, 1) := by decide +kernel
theorem dX5_targetsTracing_1 : decode cX5_targetsTracing 1 = .ok (.istore_n 2, 1) := by decide +kernel
theorem dX5_targetsTracing_2 : decode cX5_targetsTracing 2 = .ok (.iconst 0, 1) := by decide +kernel
theorem dX5_targetsTracing_3 : decode cX5_targetsTracing 3 = .ok (.istore_n 3, 1) := by decide +kernel
theorem dX5_targetsTracing_4 : decode cX5_targetsTracing 4 = .ok (.iload_n 3, 1) := by decide +kernel
theorem dX5_targetsTracing_5 : decode cX5_targetsTracing 5 = .ok (.bipush 16, 2) := by decide +kernel
theorem dX5_targetsTracing_7 : decode cX5_targetsTracing 7 = .ok (.if_icmp .ge 37, 3) := by decide +kernel
theorem dX5_targetsTracing_10 : decode cX5_targetsTracing 10 = .ok (.aload_n 0, 1) := by decide +kernel
theorem dX5_targetsTracing_11 : decode cX5_targetsTracing 11 = .ok (.getfield 19, 3) := by decide +kernel
theorem dX5_targetsTracing_14 : decode cX5_targetsTracing 14 = .ok (.iload_n 3, 1) := by decide +kernel
theorem dX5_targetsTracing_15 : decode cX5_targetsTracing 15 = .ok (.aaload, 1) := by decide +kernel
theorem dX5_targetsTracing_16 : decode cX5_targetsTracing 16 = .ok (.astore 4, 2) := by decide +kernel
theorem dX5_targetsTracing_18 : decode cX5_targetsTracing 18 = .ok (.aload 4, 2) := by decide +kernel
theorem dX5_targetsTracing_20 : decode cX5_targetsTracing 20 = .ok (.ifnull 18, 3) := by decide +kernel
theorem dX5_targetsTracing_23 : decode cX5_targetsTracing 23 = .ok (.aload 4, 2) := by decide +kernel
theorem dX5_targetsTracing_25 : decode cX5_targetsTracing 25 = .ok (.iload_n 1, 1) := by decide +kernel
theorem dX5_targetsTracing_26 : decode cX5_targetsTracing 26 = .ok (.invokevirtual 85, 3) := by decide +kernel
theorem dX5_targetsTracing_29 : decode cX5_targetsTracing 29 = .ok (.ifCond .eq 9, 3) := by decide +kernel
theorem dX5_targetsTracing_32 : decode cX5_targetsTracing 32 = .ok (.iload_n 2, 1) := by decide +kernel
theorem dX5_targetsTracing_33 : decode cX5_targetsTracing 33 = .ok (.iconst 1, 1) := by decide +kernel
theorem dX5_targetsTracing_34 : decode cX5_targetsTracing 34 = .ok (.iload_n 3, 1) := by decide +kernel
theorem dX5_targetsTracing_35 : decode cX5_targetsTracing 35 = .ok (.ishl, 1) := by decide +kernel
theorem dX5_targetsTracing_36 : decode cX5_targetsTracing 36 = .ok (.ior, 1) := by decide +kernel
theorem dX5_targetsTracing_37 : decode cX5_targetsTracing 37 = .ok (.istore_n 2, 1) := by decide +kernel
theorem dX5_targetsTracing_38 : decode cX5_targetsTracing 38 = .ok (.iinc 3 1, 3) := by decide +kernel
theorem dX5_targetsTracing_41 : decode cX5_targetsTracing 41 = .ok (.goto (-37), 3) := by decide +kernel
theorem dX5_targetsTracing_44 : decode cX5_targetsTracing 44 = .ok (.iload_n 2, 1) := by decide +kernel
theorem dX5_targetsTracing_45 : decode cX5_targetsTracing 45 = .ok (.ireturn, 1) := by decide +kernel
theorem dX5_targetsUpToDate_0 : decode cX5_targetsUpToDate 0 = .ok (.iconst 0, 1) := by decide +kernel
theorem dX5_targetsUpToDate_1 : decode cX5_targetsUpToDate 1 = .ok (.istore_n 1, 1) := by decide +kernel
theorem dX5_targetsUpToDate_2 : decode cX5_targetsUpToDate 2 = .ok (.iconst 0, 1) := by decide +kernel
theorem dX5_targetsUpToDate_3 : decode cX5_targetsUpToDate 3 = .ok (.istore_n 2, 1) := by decide +kernel
theorem dX5_targetsUpToDate_4 : decode cX5_targetsUpToDate 4 = .ok (.iload_n 2, 1) := by decide +kernel
theorem dX5_targetsUpToDate_5 : decode cX5_targetsUpToDate 5 = .ok (.bipush 16, 2) := by decide +kernel
theorem dX5_targetsUpToDate_7 : decode cX5_targetsUpToDate 7 = .ok (.if_icmp .ge 28, 3) := by decide +kernel
theorem dX5_targetsUpToDate_10 : decode cX5_targetsUpToDate 10 = .ok (.aload_n 0, 1) := by decide +kernel
theorem dX5_targetsUpToDate_11 : decode cX5_targetsUpToDate 11 = .ok (.aload_n 0, 1) := by decide +kernel
theorem dX5_targetsUpToDate_12 : decode cX5_targetsUpToDate 12 = .ok (.getfield 19, 3) := by decide +kernel
theorem dX5_targetsUpToDate_15 : decode cX5_targetsUpToDate 15 = .ok (.iload_n 2, 1) := by decide +kernel
theorem dX5_targetsUpToDate_16 : decode cX5_targetsUpToDate 16 = .ok (.aaload, 1) := by decide +kernel
theorem dX5_targetsUpToDate_17 : decode cX5_targetsUpToDate 17 = .ok (.invokevirtual 88, 3) := by decide +kernel
theorem dX5_targetsUpToDate_20 : decode cX5_targetsUpToDate 20 = .ok (.ifCond .eq 9, 3) := by decide +kernel
theorem dX5_targetsUpToDate_23 : decode cX5_targetsUpToDate 23 = .ok (.iload_n 1, 1) := by decide +kernel
theorem dX5_targetsUpToDate_24 : decode cX5_targetsUpToDate 24 = .ok (.iconst 1, 1) := by decide +kernel
theorem dX5_targetsUpToDate_25 : decode cX5_targetsUpToDate 25 = .ok (.iload_n 2, 1) := by decide +kernel
theorem dX5_targetsUpToDate_26 : decode cX5_targetsUpToDate 26 = .ok (.ishl, 1) := by decide +kernel
theorem dX5_targetsUpToDate_27 : decode cX5_targetsUpToDate 27 = .ok (.ior, 1) := by decide +kernel
theorem dX5_targetsUpToDate_28 : decode cX5_targetsUpToDate 28 = .ok (.istore_n 1, 1) := by decide +kernel
theorem dX5_targetsUpToDate_29 : decode cX5_targetsUpToDate 29 = .ok (.iinc 2 1, 3) := by decide +kernel
theorem dX5_targetsUpToDate_32 : decode cX5_targetsUpToDate 32 = .ok (.goto (-28), 3) := by decide +kernel
theorem dX5_targetsUpToDate_35 : decode cX5_targetsUpToDate 35 = .ok (.iload_n 1, 1) := by decide +kernel
theorem dX5_targetsUpToDate_36 : decode cX5_targetsUpToDate 36 = .ok (.ireturn, 1) := by decide +kernel
theorem dX5_isUpToDate_0 : decode cX5_isUpToDate 0 = .ok (.aload_n 1, 1) := by decide +kernel
theorem dX5_isUpToDate_1 : decode cX5_isUpToDate 1 = .ok (.ifnull 10, 3) := by decide +kernel
theorem dX5_isUpToDate_4 : decode cX5_isUpToDate 4 = .ok (.aload_n 1, 1) := by decide +kernel
theorem dX5_isUpToDate_5 : decode cX5_isUpToDate 5 = .ok (.invokevirtual 92, 3) := by decide +kernel
theorem dX5_isUpToDate_8 : decode cX5_isUpToDate 8 = .ok (.ifCond .ne 5, 3) := by decide +kernel
theorem dX5_isUpToDate_11 : decode cX5_isUpToDate 11 = .ok (.iconst 0, 1) := by decide +kernel
theorem dX5_isUpToDate_12 : decode cX5_isUpToDate 12 = .ok (.ireturn, 1) := by decide +kernel
theorem dX5_isUpToDate_13 : decode cX5_isUpToDate 13 = .ok (.iconst 0, 1) := by decide +kernel
theorem dX5_isUpToDate_14 : decode cX5_isUpToDate 14 = .ok (.istore_n 2, 1) := by decide +kernel
theorem dX5_isUpToDate_15 : decode cX5_isUpToDate 15 = .ok (.iload_n 2, 1) := by decide +kernel
theorem dX5_isUpToDate_16 : decode cX5_isUpToDate 16 = .ok (.aload_n 1, 1) := by decide +kernel
theorem dX5_isUpToDate_17 : decode cX5_isUpToDate 17 = .ok (.getfield 95, 3) := by decide +kernel
theorem dX5_isUpToDate_20 : decode cX5_isUpToDate 20 = .ok (.if_icmp .ge 31, 3) := by decide +kernel
theorem dX5_isUpToDate_23 : decode cX5_isUpToDate 23 = .ok (.aload_n 0, 1) := by decide +kernel
theorem dX5_isUpToDate_24 : decode cX5_isUpToDate 24 = .ok (.aload_n 1, 1) := by decide +kernel
theorem dX5_isUpToDate_25 : decode cX5_isUpToDate 25 = .ok (.iload_n 2, 1) := by decide +kernel
theorem dX5_isUpToDate_26 : decode cX5_isUpToDate 26 = .ok (.invokevirtual 98, 3) := by decide +kernel
theorem dX5_isUpToDate_29 : decode cX5_isUpToDate 29 = .ok (.invokevirtual 67, 3) := by decide +kernel
theorem dX5_isUpToDate_32 : decode cX5_isUpToDate 32 = .ok (.aload_n 1, 1) := by decide +kernel
theorem dX5_isUpToDate_33 : decode cX5_isUpToDate 33 = .ok (.iload_n 2, 1) := by decide +kernel
theorem dX5_isUpToDate_34 : decode cX5_isUpToDate 34 = .ok (.invokevirtual 102, 3) := by decide +kernel
theorem dX5_isUpToDate_37 : decode cX5_isUpToDate 37 = .ok (.invokestatic 105, 3) := by decide +kernel
theorem dX5_isUpToDate_40 : decode cX5_isUpToDate 40 = .ok (.ifCond .ne 5, 3) := by decide +kernel
theorem dX5_isUpToDate_43 : decode cX5_isUpToDate 43 = .ok (.iconst 0, 1) := by decide +kernel
theorem dX5_isUpToDate_44 : decode cX5_isUpToDate 44 = .ok (.ireturn, 1) := by decide +kernel
theorem dX5_isUpToDate_45 : decode cX5_isUpToDate 45 = .ok (.iinc 2 1, 3) := by decide +kernel
theorem dX5_isUpToDate_48 : decode cX5_isUpToDate 48 = .ok (.goto (-33), 3) := by decide +kernel
theorem dX5_isUpToDate_51 : decode cX5_isUpToDate 51 = .ok (.iconst 1, 1) := by decide +kernel
theorem dX5_isUpToDate_52 : decode cX5_isUpToDate 52 = .ok (.ireturn, 1) := by decide +kernel
theorem dX5_depthOf_0 : decode cX5_depthOf 0 = .ok (.aload_n 0, 1) := by decide +kernel
theorem dX5_depthOf_1 : decode cX5_depthOf 1 = .ok (.getfield 26, 3) := by decide +kernel
theorem dX5_depthOf_4 : decode cX5_depthOf 4 = .ok (.iconst 0, 1) := by decide +kernel
theorem dX5_depthOf_5 : decode cX5_depthOf 5 = .ok (.invokestatic 109, 3) := by decide +kernel
theorem dX5_depthOf_8 : decode cX5_depthOf 8 = .ok (.iconst 1, 1) := by decide +kernel
theorem dX5_depthOf_9 : decode cX5_depthOf 9 = .ok (.istore_n 2, 1) := by decide +kernel
theorem dX5_depthOf_10 : decode cX5_depthOf 10 = .ok (.iconst 0, 1) := by decide +kernel
theorem dX5_depthOf_11 : decode cX5_depthOf 11 = .ok (.istore_n 3, 1) := by decide +kernel
theorem dX5_depthOf_12 : decode cX5_depthOf 12 = .ok (.iload_n 2, 1) := by decide +kernel
theorem dX5_depthOf_13 : decode cX5_depthOf 13 = .ok (.ifCond .eq 20, 3) := by decide +kernel
theorem dX5_depthOf_16 : decode cX5_depthOf 16 = .ok (.iload_n 3, 1) := by decide +kernel
theorem dX5_depthOf_17 : decode cX5_depthOf 17 = .ok (.bipush 16, 2) := by decide +kernel
theorem dX5_depthOf_19 : decode cX5_depthOf 19 = .ok (.if_icmp .ge 14, 3) := by decide +kernel
theorem dX5_depthOf_22 : decode cX5_depthOf 22 = .ok (.aload_n 0, 1) := by decide +kernel
theorem dX5_depthOf_23 : decode cX5_depthOf 23 = .ok (.invokevirtual 115, 3) := by decide +kernel
theorem dX5_depthOf_26 : decode cX5_depthOf 26 = .ok (.istore_n 2, 1) := by decide +kernel
theorem dX5_depthOf_27 : decode cX5_depthOf 27 = .ok (.iinc 3 1, 3) := by decide +kernel
theorem dX5_depthOf_30 : decode cX5_depthOf 30 = .ok (.goto (-18), 3) := by decide +kernel
theorem dX5_depthOf_33 : decode cX5_depthOf 33 = .ok (.iload_n 1, 1) := by decide +kernel
theorem dX5_depthOf_34 : decode cX5_depthOf 34 = .ok (.invokestatic 53, 3) := by decide +kernel
theorem dX5_depthOf_37 : decode cX5_depthOf 37 = .ok (.ifCond .eq 12, 3) := by decide +kernel
theorem dX5_depthOf_40 : decode cX5_depthOf 40 = .ok (.aload_n 0, 1) := by decide +kernel
theorem dX5_depthOf_41 : decode cX5_depthOf 41 = .ok (.getfield 26, 3) := by decide +kernel
theorem dX5_depthOf_44 : decode cX5_depthOf 44 = .ok (.iload_n 1, 1) := by decide +kernel
theorem dX5_depthOf_45 : decode cX5_depthOf 45 = .ok (.iaload, 1) := by decide +kernel
theorem dX5_depthOf_46 : decode cX5_depthOf 46 = .ok (.goto 4, 3) := by decide +kernel
theorem dX5_depthOf_49 : decode cX5_depthOf 49 = .ok (.iconst 0, 1) := by decide +kernel
theorem dX5_depthOf_50 : decode cX5_depthOf 50 = .ok (.ireturn, 1) := by decide +kernel
theorem dX5_deepenAll_0 : decode cX5_deepenAll 0 = .ok (.iconst 0, 1) := by decide +kernel
theorem dX5_deepenAll_1 : decode cX5_deepenAll 1 = .ok (.istore_n 1, 1) := by decide +kernel
theorem dX5_deepenAll_2 : decode cX5_deepenAll 2 = .ok (.iconst 0, 1) := by decide +kernel
theorem dX5_deepenAll_3 : decode cX5_deepenAll 3 = .ok (.istore_n 2, 1) := by decide +kernel
theorem dX5_deepenAll_4 : decode cX5_deepenAll 4 = .ok (.iload_n 2, 1) := by decide +kernel
theorem dX5_deepenAll_5 : decode cX5_deepenAll 5 = .ok (.bipush 16, 2) := by decide +kernel
theorem dX5_deepenAll_7 : decode cX5_deepenAll 7 = .ok (.if_icmp .ge 45, 3) := by decide +kernel
theorem dX5_deepenAll_10 : decode cX5_deepenAll 10 = .ok (.aload_n 0, 1) := by decide +kernel
theorem dX5_deepenAll_11 : decode cX5_deepenAll 11 = .ok (.aload_n 0, 1) := by decide +kernel
theorem dX5_deepenAll_12 : decode cX5_deepenAll 12 = .ok (.getfield 19, 3) := by decide +kernel
theorem dX5_deepenAll_15 : decode cX5_deepenAll 15 = .ok (.iload_n 2, 1) := by decide +kernel
theorem dX5_deepenAll_16 : decode cX5_deepenAll 16 = .ok (.aaload, 1) := by decide +kernel
theorem dX5_deepenAll_17 : decode cX5_deepenAll 17 = .ok (.invokevirtual 118, 3) := by decide +kernel
theorem dX5_deepenAll_20 : decode cX5_deepenAll 20 = .ok (.istore_n 3, 1) := by decide +kernel
theorem dX5_deepenAll_21 : decode cX5_deepenAll 21 = .ok (.iload_n 3, 1) := by decide +kernel
theorem dX5_deepenAll_22 : decode cX5_deepenAll 22 = .ok (.aload_n 0, 1) := by decide +kernel
theorem dX5_deepenAll_23 : decode cX5_deepenAll 23 = .ok (.getfield 26, 3) := by decide +kernel
theorem dX5_deepenAll_26 : decode cX5_deepenAll 26 = .ok (.bipush 8, 2) := by decide +kernel
theorem dX5_deepenAll_28 : decode cX5_deepenAll 28 = .ok (.iload_n 2, 1) := by decide +kernel
theorem dX5_deepenAll_29 : decode cX5_deepenAll 29 = .ok (.iadd, 1) := by decide +kernel
theorem dX5_deepenAll_30 : decode cX5_deepenAll 30 = .ok (.iaload, 1) := by decide +kernel
theorem dX5_deepenAll_31 : decode cX5_deepenAll 31 = .ok (.if_icmp .le 15, 3) := by decide +kernel
theorem dX5_deepenAll_34 : decode cX5_deepenAll 34 = .ok (.aload_n 0, 1) := by decide +kernel
theorem dX5_deepenAll_35 : decode cX5_deepenAll 35 = .ok (.getfield 26, 3) := by decide +kernel
theorem dX5_deepenAll_38 : decode cX5_deepenAll 38 = .ok (.bipush 8, 2) := by decide +kernel
theorem dX5_deepenAll_40 : decode cX5_deepenAll 40 = .ok (.iload_n 2, 1) := by decide +kernel
theorem dX5_deepenAll_41 : decode cX5_deepenAll 41 = .ok (.iadd, 1) := by decide +kernel
theorem dX5_deepenAll_42 : decode cX5_deepenAll 42 = .ok (.iload_n 3, 1) := by decide +kernel
theorem dX5_deepenAll_43 : decode cX5_deepenAll 43 = .ok (.iastore, 1) := by decide +kernel
theorem dX5_deepenAll_44 : decode cX5_deepenAll 44 = .ok (.iconst 1, 1) := by decide +kernel
theorem dX5_deepenAll_45 : decode cX5_deepenAll 45 = .ok (.istore_n 1, 1) := by decide +kernel
theorem dX5_deepenAll_46 : decode cX5_deepenAll 46 = .ok (.iinc 2 1, 3) := by decide +kernel
theorem dX5_deepenAll_49 : decode cX5_deepenAll 49 = .ok (.goto (-45), 3) := by decide +kernel
theorem dX5_deepenAll_52 : decode cX5_deepenAll 52 = .ok (.iload_n 1, 1) := by decide +kernel
theorem dX5_deepenAll_53 : decode cX5_deepenAll 53 = .ok (.ireturn, 1) := by decide +kernel
theorem dX5_depthByTrace_0 : decode cX5_depthByTrace 0 = .ok (.aload_n 1, 1) := by decide +kernel
theorem dX5_depthByTrace_1 : decode cX5_depthByTrace 1 = .ok (.ifnull 11, 3) := by decide +kernel
theorem dX5_depthByTrace_4 : decode cX5_depthByTrace 4 = .ok (.aload_n 1, 1) := by decide +kernel
theorem dX5_depthByTrace_5 : decode cX5_depthByTrace 5 = .ok (.getfield 95, 3) := by decide +kernel
theorem dX5_depthByTrace_8 : decode cX5_depthByTrace 8 = .ok (.iconst 1, 1) := by decide +kernel
theorem dX5_depthByTrace_9 : decode cX5_depthByTrace 9 = .ok (.if_icmp .ge 5, 3) := by decide +kernel
theorem dX5_depthByTrace_12 : decode cX5_depthByTrace 12 = .ok (.iconst 0, 1) := by decide +kernel
theorem dX5_depthByTrace_13 : decode cX5_depthByTrace 13 = .ok (.ireturn, 1) := by decide +kernel
theorem dX5_depthByTrace_14 : decode cX5_depthByTrace 14 = .ok (.iconst 0, 1) := by decide +kernel
theorem dX5_depthByTrace_15 : decode cX5_depthByTrace 15 = .ok (.istore_n 2, 1) := by decide +kernel
theorem dX5_depthByTrace_16 : decode cX5_depthByTrace 16 = .ok (.iconst 0, 1) := by decide +kernel
theorem dX5_depthByTrace_17 : decode cX5_depthByTrace 17 = .ok (.istore_n 3, 1) := by decide +kernel
theorem dX5_depthByTrace_18 : decode cX5_depthByTrace 18 = .ok (.iload_n 3, 1) := by decide +kernel
theorem dX5_depthByTrace_19 : decode cX5_depthByTrace 19 = .ok (.aload_n 1, 1) := by decide +kernel
theorem dX5_depthByTrace_20 : decode cX5_depthByTrace 20 = .ok (.getfield 95, 3) := by decide +kernel
theorem dX5_depthByTrace_23 : decode cX5_depthByTrace 23 = .ok (.if_icmp .ge 36, 3) := by decide +kernel
theorem dX5_depthByTrace_26 : decode cX5_depthByTrace 26 = .ok (.aload_n 1, 1) := by decide +kernel
theorem dX5_depthByTrace_27 : decode cX5_depthByTrace 27 = .ok (.iload_n 3, 1) := by decide +kernel
theorem dX5_depthByTrace_28 : decode cX5_depthByTrace 28 = .ok (.invokevirtual 98, 3) := by decide +kernel
theorem dX5_depthByTrace_31 : decode cX5_depthByTrace 31 = .ok (.istore 4, 2) := by decide +kernel
theorem dX5_depthByTrace_33 : decode cX5_depthByTrace 33 = .ok (.iload 4, 2) := by decide +kernel
theorem dX5_depthByTrace_35 : decode cX5_depthByTrace 35 = .ok (.invokestatic 53, 3) := by decide +kernel
theorem dX5_depthByTrace_38 : decode cX5_depthByTrace 38 = .ok (.ifCond .eq 15, 3) := by decide +kernel
theorem dX5_depthByTrace_41 : decode cX5_depthByTrace 41 = .ok (.iload_n 2, 1) := by decide +kernel
theorem dX5_depthByTrace_42 : decode cX5_depthByTrace 42 = .ok (.aload_n 0, 1) := by decide +kernel
theorem dX5_depthByTrace_43 : decode cX5_depthByTrace 43 = .ok (.getfield 26, 3) := by decide +kernel
theorem dX5_depthByTrace_46 : decode cX5_depthByTrace 46 = .ok (.iload 4, 2) := by decide +kernel
theorem dX5_depthByTrace_48 : decode cX5_depthByTrace 48 = .ok (.iaload, 1) := by decide +kernel
theorem dX5_depthByTrace_49 : decode cX5_depthByTrace 49 = .ok (.invokestatic 122, 3) := by decide +kernel
theorem dX5_depthByTrace_52 : decode cX5_depthByTrace 52 = .ok (.istore_n 2, 1) := by decide +kernel
theorem dX5_depthByTrace_53 : decode cX5_depthByTrace 53 = .ok (.iinc 3 1, 3) := by decide +kernel
theorem dX5_depthByTrace_56 : decode cX5_depthByTrace 56 = .ok (.goto (-38), 3) := by decide +kernel
theorem dX5_depthByTrace_59 : decode cX5_depthByTrace 59 = .ok (.iload_n 2, 1) := by decide +kernel
theorem dX5_depthByTrace_60 : decode cX5_depthByTrace 60 = .ok (.iconst 1, 1) := by decide +kernel
theorem dX5_depthByTrace_61 : decode cX5_depthByTrace 61 = .ok (.iadd, 1) := by decide +kernel
theorem dX5_depthByTrace_62 : decode cX5_depthByTrace 62 = .ok (.ireturn, 1) := by decide +kernel
theorem dX5_unlikeResults_0 : decode cX5_unlikeResults 0 = .ok (.iconst 0, 1) := by decide +kernel
theorem dX5_unlikeResults_1 : decode cX5_unlikeResults 1 = .ok (.istore_n 1, 1) := by decide +kernel
theorem dX5_unlikeResults_2 : decode cX5_unlikeResults 2 = .ok (.bipush 8, 2) := by decide +kernel
theorem dX5_unlikeResults_4 : decode cX5_unlikeResults 4 = .ok (.istore_n 2, 1) := by decide +kernel
theorem dX5_unlikeResults_5 : decode cX5_unlikeResults 5 = .ok (.iload_n 2, 1) := by decide +kernel
theorem dX5_unlikeResults_6 : decode cX5_unlikeResults 6 = .ok (.bipush 24, 2) := by decide +kernel
theorem dX5_unlikeResults_8 : decode cX5_unlikeResults 8 = .ok (.if_icmp .ge 28, 3) := by decide +kernel
theorem dX5_unlikeResults_11 : decode cX5_unlikeResults 11 = .ok (.aload_n 0, 1) := by decide +kernel
theorem dX5_unlikeResults_12 : decode cX5_unlikeResults 12 = .ok (.iload_n 2, 1) := by decide +kernel
theorem dX5_unlikeResults_13 : decode cX5_unlikeResults 13 = .ok (.invokevirtual 67, 3) := by decide +kernel
theorem dX5_unlikeResults_16 : decode cX5_unlikeResults 16 = .ok (.ifnull 14, 3) := by decide +kernel
theorem dX5_unlikeResults_19 : decode cX5_unlikeResults 19 = .ok (.aload_n 0, 1) := by decide +kernel
theorem dX5_unlikeResults_20 : decode cX5_unlikeResults 20 = .ok (.iload_n 2, 1) := by decide +kernel
theorem dX5_unlikeResults_21 : decode cX5_unlikeResults 21 = .ok (.invokevirtual 128, 3) := by decide +kernel
theorem dX5_unlikeResults_24 : decode cX5_unlikeResults 24 = .ok (.ifCond .ne 6, 3) := by decide +kernel
theorem dX5_unlikeResults_27 : decode cX5_unlikeResults 27 = .ok (.iinc 1 1, 3) := by decide +kernel
theorem dX5_unlikeResults_30 : decode cX5_unlikeResults 30 = .ok (.iinc 2 1, 3) := by decide +kernel
theorem dX5_unlikeResults_33 : decode cX5_unlikeResults 33 = .ok (.goto (-28), 3) := by decide +kernel
theorem dX5_unlikeResults_36 : decode cX5_unlikeResults 36 = .ok (.iload_n 1, 1) := by decide +kernel
theorem dX5_unlikeResults_37 : decode cX5_unlikeResults 37 = .ok (.ireturn, 1) := by decide +kernel
theorem dX5_hasSameBelow_0 : decode cX5_hasSameBelow 0 = .ok (.bipush 8, 2) := by decide +kernel
theorem dX5_hasSameBelow_2 : decode cX5_hasSameBelow 2 = .ok (.istore_n 2, 1) := by decide +kernel
theorem dX5_hasSameBelow_3 : decode cX5_hasSameBelow 3 = .ok (.iload_n 2, 1) := by decide +kernel
theorem dX5_hasSameBelow_4 : decode cX5_hasSameBelow 4 = .ok (.iload_n 1, 1) := by decide +kernel
theorem dX5_hasSameBelow_5 : decode cX5_hasSameBelow 5 = .ok (.if_icmp .ge 27, 3) := by decide +kernel
theorem dX5_hasSameBelow_8 : decode cX5_hasSameBelow 8 = .ok (.aload_n 0, 1) := by decide +kernel
theorem dX5_hasSameBelow_9 : decode cX5_hasSameBelow 9 = .ok (.iload_n 2, 1) := by decide +kernel
theorem dX5_hasSameBelow_10 : decode cX5_hasSameBelow 10 = .ok (.invokevirtual 67, 3) := by decide +kernel
theorem dX5_hasSameBelow_13 : decode cX5_hasSameBelow 13 = .ok (.aload_n 0, 1) := by decide +kernel
theorem dX5_hasSameBelow_14 : decode cX5_hasSameBelow 14 = .ok (.iload_n 1, 1) := by decide +kernel
theorem dX5_hasSameBelow_15 : decode cX5_hasSameBelow 15 = .ok (.invokevirtual 67, 3) := by decide +kernel
theorem dX5_hasSameBelow_18 : decode cX5_hasSameBelow 18 = .ok (.invokestatic 105, 3) := by decide +kernel
theorem dX5_hasSameBelow_21 : decode cX5_hasSameBelow 21 = .ok (.ifCond .eq 5, 3) := by decide +kernel
theorem dX5_hasSameBelow_24 : decode cX5_hasSameBelow 24 = .ok (.iconst 1, 1) := by decide +kernel
theorem dX5_hasSameBelow_25 : decode cX5_hasSameBelow 25 = .ok (.ireturn, 1) := by decide +kernel
theorem dX5_hasSameBelow_26 : decode cX5_hasSameBelow 26 = .ok (.iinc 2 1, 3) := by decide +kernel
theorem dX5_hasSameBelow_29 : decode cX5_hasSameBelow 29 = .ok (.goto (-26), 3) := by decide +kernel
theorem dX5_hasSameBelow_32 : decode cX5_hasSameBelow 32 = .ok (.iconst 0, 1) := by decide +kernel
theorem dX5_hasSameBelow_33 : decode cX5_hasSameBelow 33 = .ok (.ireturn, 1) := by decide +kernel
theorem dX5_ruleCount_0 : decode cX5_ruleCount 0 = .ok (.iconst 0, 1) := by decide +kernel
theorem dX5_ruleCount_1 : decode cX5_ruleCount 1 = .ok (.istore_n 1, 1) := by decide +kernel
theorem dX5_ruleCount_2 : decode cX5_ruleCount 2 = .ok (.iconst 0, 1) := by decide +kernel
theorem dX5_ruleCount_3 : decode cX5_ruleCount 3 = .ok (.istore_n 2, 1) := by decide +kernel
theorem dX5_ruleCount_4 : decode cX5_ruleCount 4 = .ok (.iload_n 2, 1) := by decide +kernel
theorem dX5_ruleCount_5 : decode cX5_ruleCount 5 = .ok (.bipush 16, 2) := by decide +kernel
theorem dX5_ruleCount_7 : decode cX5_ruleCount 7 = .ok (.if_icmp .ge 30, 3) := by decide +kernel
theorem dX5_ruleCount_10 : decode cX5_ruleCount 10 = .ok (.aload_n 0, 1) := by decide +kernel
theorem dX5_ruleCount_11 : decode cX5_ruleCount 11 = .ok (.getfield 19, 3) := by decide +kernel
theorem dX5_ruleCount_14 : decode cX5_ruleCount 14 = .ok (.iload_n 2, 1) := by decide +kernel
theorem dX5_ruleCount_15 : decode cX5_ruleCount 15 = .ok (.aaload, 1) := by decide +kernel
theorem dX5_ruleCount_16 : decode cX5_ruleCount 16 = .ok (.astore_n 3, 1) := by decide +kernel
theorem dX5_ruleCount_17 : decode cX5_ruleCount 17 = .ok (.aload_n 3, 1) := by decide +kernel
theorem dX5_ruleCount_18 : decode cX5_ruleCount 18 = .ok (.ifnull 13, 3) := by decide +kernel
theorem dX5_ruleCount_21 : decode cX5_ruleCount 21 = .ok (.aload_n 3, 1) := by decide +kernel
theorem dX5_ruleCount_22 : decode cX5_ruleCount 22 = .ok (.getfield 131, 3) := by decide +kernel
theorem dX5_ruleCount_25 : decode cX5_ruleCount 25 = .ok (.ifCond .le 6, 3) := by decide +kernel
theorem dX5_ruleCount_28 : decode cX5_ruleCount 28 = .ok (.iinc 1 1, 3) := by decide +kernel
theorem dX5_ruleCount_31 : decode cX5_ruleCount 31 = .ok (.iinc 2 1, 3) := by decide +kernel
theorem dX5_ruleCount_34 : decode cX5_ruleCount 34 = .ok (.goto (-30), 3) := by decide +kernel
theorem dX5_ruleCount_37 : decode cX5_ruleCount 37 = .ok (.iload_n 1, 1) := by decide +kernel
theorem dX5_ruleCount_38 : decode cX5_ruleCount 38 = .ok (.ireturn, 1) := by decide +kernel
theorem dX5_traceCount_0 : decode cX5_traceCount 0 = .ok (.iconst 0, 1) := by decide +kernel
theorem dX5_traceCount_1 : decode cX5_traceCount 1 = .ok (.istore_n 1, 1) := by decide +kernel
theorem dX5_traceCount_2 : decode cX5_traceCount 2 = .ok (.iconst 0, 1) := by decide +kernel
theorem dX5_traceCount_3 : decode cX5_traceCount 3 = .ok (.istore_n 2, 1) := by decide +kernel
theorem dX5_traceCount_4 : decode cX5_traceCount 4 = .ok (.iload_n 2, 1) := by decide +kernel
theorem dX5_traceCount_5 : decode cX5_traceCount 5 = .ok (.bipush 16, 2) := by decide +kernel
theorem dX5_traceCount_7 : decode cX5_traceCount 7 = .ok (.if_icmp .ge 30, 3) := by decide +kernel
theorem dX5_traceCount_10 : decode cX5_traceCount 10 = .ok (.aload_n 0, 1) := by decide +kernel
theorem dX5_traceCount_11 : decode cX5_traceCount 11 = .ok (.getfield 19, 3) := by decide +kernel
theorem dX5_traceCount_14 : decode cX5_traceCount 14 = .ok (.iload_n 2, 1) := by decide +kernel
theorem dX5_traceCount_15 : decode cX5_traceCount 15 = .ok (.aaload, 1) := by decide +kernel
theorem dX5_traceCount_16 : decode cX5_traceCount 16 = .ok (.astore_n 3, 1) := by decide +kernel
theorem dX5_traceCount_17 : decode cX5_traceCount 17 = .ok (.aload_n 3, 1) := by decide +kernel
theorem dX5_traceCount_18 : decode cX5_traceCount 18 = .ok (.ifnull 13, 3) := by decide +kernel
theorem dX5_traceCount_21 : decode cX5_traceCount 21 = .ok (.aload_n 3, 1) := by decide +kernel
theorem dX5_traceCount_22 : decode cX5_traceCount 22 = .ok (.invokevirtual 92, 3) := by decide +kernel
theorem dX5_traceCount_25 : decode cX5_traceCount 25 = .ok (.ifCond .eq 6, 3) := by decide +kernel
theorem dX5_traceCount_28 : decode cX5_traceCount 28 = .ok (.iinc 1 1, 3) := by decide +kernel
theorem dX5_traceCount_31 : decode cX5_traceCount 31 = .ok (.iinc 2 1, 3) := by decide +kernel
theorem dX5_traceCount_34 : decode cX5_traceCount 34 = .ok (.goto (-30), 3) := by decide +kernel
theorem dX5_traceCount_37 : decode cX5_traceCount 37 = .ok (.iload_n 1, 1) := by decide +kernel
theorem dX5_traceCount_38 : decode cX5_traceCount 38 = .ok (.ireturn, 1) := by decide +kernel
theorem dX5_resultCount_0 : decode cX5_resultCount 0 = .ok (.iconst 0, 1) := by decide +kernel
theorem dX5_resultCount_1 : decode cX5_resultCount 1 = .ok (.istore_n 1, 1) := by decide +kernel
theorem dX5_resultCount_2 : decode cX5_resultCount 2 = .ok (.bipush 8, 2) := by decide +kernel
theorem dX5_resultCount_4 : decode cX5_resultCount 4 = .ok (.istore_n 2, 1) := by decide +kernel
theorem dX5_resultCount_5 : decode cX5_resultCount 5 = .ok (.iload_n 2, 1) := by decide +kernel
theorem dX5_resultCount_6 : decode cX5_resultCount 6 = .ok (.bipush 24, 2) := by decide +kernel
theorem dX5_resultCount_8 : decode cX5_resultCount 8 = .ok (.if_icmp .ge 20, 3) := by decide +kernel
theorem dX5_resultCount_11 : decode cX5_resultCount 11 = .ok (.aload_n 0, 1) := by decide +kernel
theorem dX5_resultCount_12 : decode cX5_resultCount 12 = .ok (.iload_n 2, 1) := by decide +kernel
theorem dX5_resultCount_13 : decode cX5_resultCount 13 = .ok (.invokevirtual 67, 3) := by decide +kernel
theorem dX5_resultCount_16 : decode cX5_resultCount 16 = .ok (.ifnull 6, 3) := by decide +kernel
theorem dX5_resultCount_19 : decode cX5_resultCount 19 = .ok (.iinc 1 1, 3) := by decide +kernel
theorem dX5_resultCount_22 : decode cX5_resultCount 22 = .ok (.iinc 2 1, 3) := by decide +kernel
theorem dX5_resultCount_25 : decode cX5_resultCount 25 = .ok (.goto (-20), 3) := by decide +kernel
theorem dX5_resultCount_28 : decode cX5_resultCount 28 = .ok (.iload_n 1, 1) := by decide +kernel
theorem dX5_resultCount_29 : decode cX5_resultCount 29 = .ok (.ireturn, 1) := by decide +kernel
theorem dX5_failureCount_0 : decode cX5_failureCount 0 = .ok (.iconst 0, 1) := by decide +kernel
theorem dX5_failureCount_1 : decode cX5_failureCount 1 = .ok (.istore_n 1, 1) := by decide +kernel
theorem dX5_failureCount_2 : decode cX5_failureCount 2 = .ok (.bipush 8, 2) := by decide +kernel
theorem dX5_failureCount_4 : decode cX5_failureCount 4 = .ok (.istore_n 2, 1) := by decide +kernel
theorem dX5_failureCount_5 : decode cX5_failureCount 5 = .ok (.iload_n 2, 1) := by decide +kernel
theorem dX5_failureCount_6 : decode cX5_failureCount 6 = .ok (.bipush 24, 2) := by decide +kernel
theorem dX5_failureCount_8 : decode cX5_failureCount 8 = .ok (.if_icmp .ge 20, 3) := by decide +kernel
theorem dX5_failureCount_11 : decode cX5_failureCount 11 = .ok (.aload_n 0, 1) := by decide +kernel
theorem dX5_failureCount_12 : decode cX5_failureCount 12 = .ok (.iload_n 2, 1) := by decide +kernel
theorem dX5_failureCount_13 : decode cX5_failureCount 13 = .ok (.invokevirtual 79, 3) := by decide +kernel
theorem dX5_failureCount_16 : decode cX5_failureCount 16 = .ok (.ifnull 6, 3) := by decide +kernel
theorem dX5_failureCount_19 : decode cX5_failureCount 19 = .ok (.iinc 1 1, 3) := by decide +kernel
theorem dX5_failureCount_22 : decode cX5_failureCount 22 = .ok (.iinc 2 1, 3) := by decide +kernel
theorem dX5_failureCount_25 : decode cX5_failureCount 25 = .ok (.goto (-20), 3) := by decide +kernel
theorem dX5_failureCount_28 : decode cX5_failureCount 28 = .ok (.iload_n 1, 1) := by decide +kernel
theorem dX5_failureCount_29 : decode cX5_failureCount 29 = .ok (.ireturn, 1) := by decide +kernel
theorem dX5_copyFrom_0 : decode cX5_copyFrom 0 = .ok (.iconst 0, 1) := by decide +kernel
theorem dX5_copyFrom_1 : decode cX5_copyFrom 1 = .ok (.istore_n 2, 1) := by decide +kernel
theorem dX5_copyFrom_2 : decode cX5_copyFrom 2 = .ok (.iload_n 2, 1) := by decide +kernel
theorem dX5_copyFrom_3 : decode cX5_copyFrom 3 = .ok (.bipush 8, 2) := by decide +kernel
theorem dX5_copyFrom_5 : decode cX5_copyFrom 5 = .ok (.if_icmp .ge 21, 3) := by decide +kernel
theorem dX5_copyFrom_8 : decode cX5_copyFrom 8 = .ok (.aload_n 0, 1) := by decide +kernel
theorem dX5_copyFrom_9 : decode cX5_copyFrom 9 = .ok (.getfield 11, 3) := by decide +kernel
theorem dX5_copyFrom_12 : decode cX5_copyFrom 12 = .ok (.iload_n 2, 1) := by decide +kernel
theorem dX5_copyFrom_13 : decode cX5_copyFrom 13 = .ok (.aload_n 1, 1) := by decide +kernel
theorem dX5_copyFrom_14 : decode cX5_copyFrom 14 = .ok (.getfield 11, 3) := by decide +kernel
theorem dX5_copyFrom_17 : decode cX5_copyFrom 17 = .ok (.iload_n 2, 1) := by decide +kernel
theorem dX5_copyFrom_18 : decode cX5_copyFrom 18 = .ok (.aaload, 1) := by decide +kernel
theorem dX5_copyFrom_19 : decode cX5_copyFrom 19 = .ok (.aastore, 1) := by decide +kernel
theorem dX5_copyFrom_20 : decode cX5_copyFrom 20 = .ok (.iinc 2 1, 3) := by decide +kernel
theorem dX5_copyFrom_23 : decode cX5_copyFrom 23 = .ok (.goto (-21), 3) := by decide +kernel
theorem dX5_copyFrom_26 : decode cX5_copyFrom 26 = .ok (.iconst 0, 1) := by decide +kernel
theorem dX5_copyFrom_27 : decode cX5_copyFrom 27 = .ok (.istore_n 2, 1) := by decide +kernel
theorem dX5_copyFrom_28 : decode cX5_copyFrom 28 = .ok (.iload_n 2, 1) := by decide +kernel
theorem dX5_copyFrom_29 : decode cX5_copyFrom 29 = .ok (.bipush 16, 2) := by decide +kernel
theorem dX5_copyFrom_31 : decode cX5_copyFrom 31 = .ok (.if_icmp .ge 39, 3) := by decide +kernel
theorem dX5_copyFrom_34 : decode cX5_copyFrom 34 = .ok (.aload_n 0, 1) := by decide +kernel
theorem dX5_copyFrom_35 : decode cX5_copyFrom 35 = .ok (.getfield 19, 3) := by decide +kernel
theorem dX5_copyFrom_38 : decode cX5_copyFrom 38 = .ok (.iload_n 2, 1) := by decide +kernel
theorem dX5_copyFrom_39 : decode cX5_copyFrom 39 = .ok (.aaload, 1) := by decide +kernel
theorem dX5_copyFrom_40 : decode cX5_copyFrom 40 = .ok (.astore_n 3, 1) := by decide +kernel
theorem dX5_copyFrom_41 : decode cX5_copyFrom 41 = .ok (.aload_n 1, 1) := by decide +kernel
theorem dX5_copyFrom_42 : decode cX5_copyFrom 42 = .ok (.getfield 19, 3) := by decide +kernel
theorem dX5_copyFrom_45 : decode cX5_copyFrom 45 = .ok (.iload_n 2, 1) := by decide +kernel
theorem dX5_copyFrom_46 : decode cX5_copyFrom 46 = .ok (.aaload, 1) := by decide +kernel
theorem dX5_copyFrom_47 : decode cX5_copyFrom 47 = .ok (.astore 4, 2) := by decide +kernel
theorem dX5_copyFrom_49 : decode cX5_copyFrom 49 = .ok (.aload_n 3, 1) := by decide +kernel
theorem dX5_copyFrom_50 : decode cX5_copyFrom 50 = .ok (.ifnull 14, 3) := by decide +kernel
theorem dX5_copyFrom_53 : decode cX5_copyFrom 53 = .ok (.aload 4, 2) := by decide +kernel
theorem dX5_copyFrom_55 : decode cX5_copyFrom 55 = .ok (.ifnull 9, 3) := by decide +kernel
theorem dX5_copyFrom_58 : decode cX5_copyFrom 58 = .ok (.aload_n 3, 1) := by decide +kernel
theorem dX5_copyFrom_59 : decode cX5_copyFrom 59 = .ok (.aload 4, 2) := by decide +kernel
theorem dX5_copyFrom_61 : decode cX5_copyFrom 61 = .ok (.invokevirtual 134, 3) := by decide +kernel
theorem dX5_copyFrom_64 : decode cX5_copyFrom 64 = .ok (.iinc 2 1, 3) := by decide +kernel
theorem dX5_copyFrom_67 : decode cX5_copyFrom 67 = .ok (.goto (-39), 3) := by decide +kernel
theorem dX5_copyFrom_70 : decode cX5_copyFrom 70 = .ok (.return_, 1) := by decide +kernel
