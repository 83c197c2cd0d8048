theorem dX6_init_0 : decode cX6_init 0 = .ok (.aload_n 0, 1) := by decide +kernel
theorem dX6_init_1 : decode cX6_init 1 = .ok (.invokespecial 5, 3) := by decide +kernel
theorem dX6_init_4 : decode cX6_init 4 = .ok (.aload_n 0, 1) := by decide +kernel
theorem dX6_init_5 : decode cX6_init 5 = .ok (.new 11, 3) := by decide +kernel
theorem dX6_init_8 : decode cX6_init 8 = .ok (.dup, 1) := by decide +kernel
theorem dX6_init_9 : decode cX6_init 9 = .ok (.invokespecial 13, 3) := by decide +kernel
theorem dX6_init_12 : decode cX6_init 12 = .ok (.putfield 14, 3) := by decide +kernel
theorem dX6_init_15 : decode cX6_init 15 = .ok (.aload_n 0, 1) := by decide +kernel
theorem dX6_init_16 : decode cX6_init 16 = .ok (.new 11, 3) := by decide +kernel
theorem dX6_init_19 : decode cX6_init 19 = .ok (.dup, 1) := by decide +kernel
theorem dX6_init_20 : decode cX6_init 20 = .ok (.invokespecial 13, 3) := by decide +kernel
theorem dX6_init_23 : decode cX6_init 23 = .ok (.putfield 18, 3) := by decide +kernel
theorem dX6_init_26 : decode cX6_init 26 = .ok (.aload_n 0, 1) := by decide +kernel
theorem dX6_init_27 : decode cX6_init 27 = .ok (.aload_n 0, 1) := by decide +kernel
theorem dX6_init_28 : decode cX6_init 28 = .ok (.getfield 14, 3) := by decide +kernel
theorem dX6_init_31 : decode cX6_init 31 = .ok (.getfield 21, 3) := by decide +kernel
theorem dX6_init_34 : decode cX6_init 34 = .ok (.putfield 25, 3) := by decide +kernel
theorem dX6_init_37 : decode cX6_init 37 = .ok (.aload_n 0, 1) := by decide +kernel
theorem dX6_init_38 : decode cX6_init 38 = .ok (.new 26, 3) := by decide +kernel
theorem dX6_init_41 : decode cX6_init 41 = .ok (.dup, 1) := by decide +kernel
theorem dX6_init_42 : decode cX6_init 42 = .ok (.invokespecial 28, 3) := by decide +kernel
theorem dX6_init_45 : decode cX6_init 45 = .ok (.putfield 29, 3) := by decide +kernel
theorem dX6_init_48 : decode cX6_init 48 = .ok (.aload_n 0, 1) := by decide +kernel
theorem dX6_init_49 : decode cX6_init 49 = .ok (.new 32, 3) := by decide +kernel
theorem dX6_init_52 : decode cX6_init 52 = .ok (.dup, 1) := by decide +kernel
theorem dX6_init_53 : decode cX6_init 53 = .ok (.invokespecial 34, 3) := by decide +kernel
theorem dX6_init_56 : decode cX6_init 56 = .ok (.putfield 35, 3) := by decide +kernel
theorem dX6_init_59 : decode cX6_init 59 = .ok (.aload_n 0, 1) := by decide +kernel
theorem dX6_init_60 : decode cX6_init 60 = .ok (.iconst 4, 1) := by decide +kernel
theorem dX6_init_61 : decode cX6_init 61 = .ok (.anewarray 39, 3) := by decide +kernel
theorem dX6_init_64 : decode cX6_init 64 = .ok (.putfield 41, 3) := by decide +kernel
theorem dX6_init_67 : decode cX6_init 67 = .ok (.iconst 0, 1) := by decide +kernel
theorem dX6_init_68 : decode cX6_init 68 = .ok (.istore_n 1, 1) := by decide +kernel
theorem dX6_init_69 : decode cX6_init 69 = .ok (.iload_n 1, 1) := by decide +kernel
theorem dX6_init_70 : decode cX6_init 70 = .ok (.iconst 4, 1) := by decide +kernel
theorem dX6_init_71 : decode cX6_init 71 = .ok (.if_icmp .ge 22, 3) := by decide +kernel
theorem dX6_init_74 : decode cX6_init 74 = .ok (.aload_n 0, 1) := by decide +kernel
theorem dX6_init_75 : decode cX6_init 75 = .ok (.getfield 41, 3) := by decide +kernel
theorem dX6_init_78 : decode cX6_init 78 = .ok (.iload_n 1, 1) := by decide +kernel
theorem dX6_init_79 : decode cX6_init 79 = .ok (.new 39, 3) := by decide +kernel
theorem dX6_init_82 : decode cX6_init 82 = .ok (.dup, 1) := by decide +kernel
theorem dX6_init_83 : decode cX6_init 83 = .ok (.invokespecial 45, 3) := by decide +kernel
theorem dX6_init_86 : decode cX6_init 86 = .ok (.aastore, 1) := by decide +kernel
theorem dX6_init_87 : decode cX6_init 87 = .ok (.iinc 1 1, 3) := by decide +kernel
theorem dX6_init_90 : decode cX6_init 90 = .ok (.goto (-21), 3) := by decide +kernel
theorem dX6_init_93 : decode cX6_init 93 = .ok (.return_, 1) := by decide +kernel
theorem dX6_give_0 : decode cX6_give 0 = .ok (.iload_n 1, 1) := by decide +kernel
theorem dX6_give_1 : decode cX6_give 1 = .ok (.invokestatic 46, 3) := by decide +kernel
theorem dX6_give_4 : decode cX6_give 4 = .ok (.ifCond .ne 5, 3) := by decide +kernel
theorem dX6_give_7 : decode cX6_give 7 = .ok (.iconst (-1), 1) := by decide +kernel
theorem dX6_give_8 : decode cX6_give 8 = .ok (.ireturn, 1) := by decide +kernel
theorem dX6_give_9 : decode cX6_give 9 = .ok (.iload_n 2, 1) := by decide +kernel
theorem dX6_give_10 : decode cX6_give 10 = .ok (.i2l, 1) := by decide +kernel
theorem dX6_give_11 : decode cX6_give 11 = .ok (.invokestatic 50, 3) := by decide +kernel
theorem dX6_give_14 : decode cX6_give 14 = .ok (.ifCond .ne 6, 3) := by decide +kernel
theorem dX6_give_17 : decode cX6_give 17 = .ok (.bipush (-2), 2) := by decide +kernel
theorem dX6_give_19 : decode cX6_give 19 = .ok (.ireturn, 1) := by decide +kernel
theorem dX6_give_20 : decode cX6_give 20 = .ok (.aload_n 0, 1) := by decide +kernel
theorem dX6_give_21 : decode cX6_give 21 = .ok (.getfield 25, 3) := by decide +kernel
theorem dX6_give_24 : decode cX6_give 24 = .ok (.iload_n 1, 1) := by decide +kernel
theorem dX6_give_25 : decode cX6_give 25 = .ok (.iload_n 2, 1) := by decide +kernel
theorem dX6_give_26 : decode cX6_give 26 = .ok (.invokevirtual 54, 3) := by decide +kernel
theorem dX6_give_29 : decode cX6_give 29 = .ok (.ifCond .eq 7, 3) := by decide +kernel
theorem dX6_give_32 : decode cX6_give 32 = .ok (.iconst 1, 1) := by decide +kernel
theorem dX6_give_33 : decode cX6_give 33 = .ok (.goto 4, 3) := by decide +kernel
theorem dX6_give_36 : decode cX6_give 36 = .ok (.iconst 0, 1) := by decide +kernel
theorem dX6_give_37 : decode cX6_give 37 = .ok (.ireturn, 1) := by decide +kernel
theorem dX6_take_0 : decode cX6_take 0 = .ok (.aload_n 0, 1) := by decide +kernel
theorem dX6_take_1 : decode cX6_take 1 = .ok (.getfield 25, 3) := by decide +kernel
theorem dX6_take_4 : decode cX6_take 4 = .ok (.iload_n 1, 1) := by decide +kernel
theorem dX6_take_5 : decode cX6_take 5 = .ok (.invokevirtual 58, 3) := by decide +kernel
theorem dX6_take_8 : decode cX6_take 8 = .ok (.astore_n 2, 1) := by decide +kernel
theorem dX6_take_9 : decode cX6_take 9 = .ok (.aload_n 2, 1) := by decide +kernel
theorem dX6_take_10 : decode cX6_take 10 = .ok (.ifnonnull 17, 3) := by decide +kernel
theorem dX6_take_13 : decode cX6_take 13 = .ok (.iload_n 1, 1) := by decide +kernel
theorem dX6_take_14 : decode cX6_take 14 = .ok (.invokestatic 46, 3) := by decide +kernel
theorem dX6_take_17 : decode cX6_take 17 = .ok (.ifCond .eq 8, 3) := by decide +kernel
theorem dX6_take_20 : decode cX6_take 20 = .ok (.bipush (-3), 2) := by decide +kernel
theorem dX6_take_22 : decode cX6_take 22 = .ok (.goto 4, 3) := by decide +kernel
theorem dX6_take_25 : decode cX6_take 25 = .ok (.iconst (-1), 1) := by decide +kernel
theorem dX6_take_26 : decode cX6_take 26 = .ok (.ireturn, 1) := by decide +kernel
theorem dX6_take_27 : decode cX6_take 27 = .ok (.aload_n 0, 1) := by decide +kernel
theorem dX6_take_28 : decode cX6_take 28 = .ok (.getfield 25, 3) := by decide +kernel
theorem dX6_take_31 : decode cX6_take 31 = .ok (.iload_n 1, 1) := by decide +kernel
theorem dX6_take_32 : decode cX6_take 32 = .ok (.invokevirtual 62, 3) := by decide +kernel
theorem dX6_take_35 : decode cX6_take 35 = .ok (.aload_n 2, 1) := by decide +kernel
theorem dX6_take_36 : decode cX6_take 36 = .ok (.getfield 66, 3) := by decide +kernel
theorem dX6_take_39 : decode cX6_take 39 = .ok (.ireturn, 1) := by decide +kernel
theorem dX6_feed_0 : decode cX6_feed 0 = .ok (.iload_n 1, 1) := by decide +kernel
theorem dX6_feed_1 : decode cX6_feed 1 = .ok (.iconst 1, 1) := by decide +kernel
theorem dX6_feed_2 : decode cX6_feed 2 = .ok (.if_icmp .lt 9, 3) := by decide +kernel
theorem dX6_feed_5 : decode cX6_feed 5 = .ok (.iload_n 1, 1) := by decide +kernel
theorem dX6_feed_6 : decode cX6_feed 6 = .ok (.bipush 127, 2) := by decide +kernel
theorem dX6_feed_8 : decode cX6_feed 8 = .ok (.if_icmp .le 6, 3) := by decide +kernel
theorem dX6_feed_11 : decode cX6_feed 11 = .ok (.bipush (-2), 2) := by decide +kernel
theorem dX6_feed_13 : decode cX6_feed 13 = .ok (.ireturn, 1) := by decide +kernel
theorem dX6_feed_14 : decode cX6_feed 14 = .ok (.aload_n 0, 1) := by decide +kernel
theorem dX6_feed_15 : decode cX6_feed 15 = .ok (.getfield 35, 3) := by decide +kernel
theorem dX6_feed_18 : decode cX6_feed 18 = .ok (.iload_n 1, 1) := by decide +kernel
theorem dX6_feed_19 : decode cX6_feed 19 = .ok (.invokevirtual 72, 3) := by decide +kernel
theorem dX6_feed_22 : decode cX6_feed 22 = .ok (.ifCond .eq 13, 3) := by decide +kernel
theorem dX6_feed_25 : decode cX6_feed 25 = .ok (.aload_n 0, 1) := by decide +kernel
theorem dX6_feed_26 : decode cX6_feed 26 = .ok (.getfield 35, 3) := by decide +kernel
theorem dX6_feed_29 : decode cX6_feed 29 = .ok (.getfield 75, 3) := by decide +kernel
theorem dX6_feed_32 : decode cX6_feed 32 = .ok (.goto 5, 3) := by decide +kernel
theorem dX6_feed_35 : decode cX6_feed 35 = .ok (.bipush (-4), 2) := by decide +kernel
theorem dX6_feed_37 : decode cX6_feed 37 = .ok (.ireturn, 1) := by decide +kernel
theorem dX6_clear_0 : decode cX6_clear 0 = .ok (.aload_n 0, 1) := by decide +kernel
theorem dX6_clear_1 : decode cX6_clear 1 = .ok (.getfield 35, 3) := by decide +kernel
theorem dX6_clear_4 : decode cX6_clear 4 = .ok (.invokevirtual 78, 3) := by decide +kernel
theorem dX6_clear_7 : decode cX6_clear 7 = .ok (.ireturn, 1) := by decide +kernel
theorem dX6_rule_0 : decode cX6_rule 0 = .ok (.aload_n 0, 1) := by decide +kernel
theorem dX6_rule_1 : decode cX6_rule 1 = .ok (.getfield 25, 3) := by decide +kernel
theorem dX6_rule_4 : decode cX6_rule 4 = .ok (.iload_n 1, 1) := by decide +kernel
theorem dX6_rule_5 : decode cX6_rule 5 = .ok (.invokevirtual 82, 3) := by decide +kernel
theorem dX6_rule_8 : decode cX6_rule 8 = .ok (.astore_n 2, 1) := by decide +kernel
theorem dX6_rule_9 : decode cX6_rule 9 = .ok (.aload_n 2, 1) := by decide +kernel
theorem dX6_rule_10 : decode cX6_rule 10 = .ok (.ifnonnull 5, 3) := by decide +kernel
theorem dX6_rule_13 : decode cX6_rule 13 = .ok (.iconst (-1), 1) := by decide +kernel
theorem dX6_rule_14 : decode cX6_rule 14 = .ok (.ireturn, 1) := by decide +kernel
theorem dX6_rule_15 : decode cX6_rule 15 = .ok (.aload_n 0, 1) := by decide +kernel
theorem dX6_rule_16 : decode cX6_rule 16 = .ok (.getfield 35, 3) := by decide +kernel
theorem dX6_rule_19 : decode cX6_rule 19 = .ok (.invokevirtual 86, 3) := by decide +kernel
theorem dX6_rule_22 : decode cX6_rule 22 = .ok (.istore_n 3, 1) := by decide +kernel
theorem dX6_rule_23 : decode cX6_rule 23 = .ok (.iload_n 3, 1) := by decide +kernel
theorem dX6_rule_24 : decode cX6_rule 24 = .ok (.iconst (-1), 1) := by decide +kernel
theorem dX6_rule_25 : decode cX6_rule 25 = .ok (.if_icmp .ne 11, 3) := by decide +kernel
theorem dX6_rule_28 : decode cX6_rule 28 = .ok (.aload_n 2, 1) := by decide +kernel
theorem dX6_rule_29 : decode cX6_rule 29 = .ok (.aload_n 0, 1) := by decide +kernel
theorem dX6_rule_30 : decode cX6_rule 30 = .ok (.getfield 35, 3) := by decide +kernel
theorem dX6_rule_33 : decode cX6_rule 33 = .ok (.invokevirtual 89, 3) := by decide +kernel
theorem dX6_rule_36 : decode cX6_rule 36 = .ok (.aload_n 0, 1) := by decide +kernel
theorem dX6_rule_37 : decode cX6_rule 37 = .ok (.getfield 35, 3) := by decide +kernel
theorem dX6_rule_40 : decode cX6_rule 40 = .ok (.invokevirtual 78, 3) := by decide +kernel
theorem dX6_rule_43 : decode cX6_rule 43 = .ok (.pop, 1) := by decide +kernel
theorem dX6_rule_44 : decode cX6_rule 44 = .ok (.iload_n 3, 1) := by decide +kernel
theorem dX6_rule_45 : decode cX6_rule 45 = .ok (.iconst (-1), 1) := by decide +kernel
theorem dX6_rule_46 : decode cX6_rule 46 = .ok (.if_icmp .ne 10, 3) := by decide +kernel
theorem dX6_rule_49 : decode cX6_rule 49 = .ok (.aload_n 2, 1) := by decide +kernel
theorem dX6_rule_50 : decode cX6_rule 50 = .ok (.getfield 95, 3) := by decide +kernel
theorem dX6_rule_53 : decode cX6_rule 53 = .ok (.goto 7, 3) := by decide +kernel
theorem dX6_rule_56 : decode cX6_rule 56 = .ok (.bipush (-100), 2) := by decide +kernel
theorem dX6_rule_58 : decode cX6_rule 58 = .ok (.iload_n 3, 1) := by decide +kernel
theorem dX6_rule_59 : decode cX6_rule 59 = .ok (.isub, 1) := by decide +kernel
theorem dX6_rule_60 : decode cX6_rule 60 = .ok (.ireturn, 1) := by decide +kernel
theorem dX6_drop_0 : decode cX6_drop 0 = .ok (.aload_n 0, 1) := by decide +kernel
theorem dX6_drop_1 : decode cX6_drop 1 = .ok (.getfield 25, 3) := by decide +kernel
theorem dX6_drop_4 : decode cX6_drop 4 = .ok (.iload_n 1, 1) := by decide +kernel
theorem dX6_drop_5 : decode cX6_drop 5 = .ok (.invokevirtual 82, 3) := by decide +kernel
theorem dX6_drop_8 : decode cX6_drop 8 = .ok (.astore_n 2, 1) := by decide +kernel
theorem dX6_drop_9 : decode cX6_drop 9 = .ok (.aload_n 2, 1) := by decide +kernel
theorem dX6_drop_10 : decode cX6_drop 10 = .ok (.ifnonnull 5, 3) := by decide +kernel
theorem dX6_drop_13 : decode cX6_drop 13 = .ok (.iconst (-1), 1) := by decide +kernel
theorem dX6_drop_14 : decode cX6_drop 14 = .ok (.ireturn, 1) := by decide +kernel
theorem dX6_drop_15 : decode cX6_drop 15 = .ok (.aload_n 2, 1) := by decide +kernel
theorem dX6_drop_16 : decode cX6_drop 16 = .ok (.getfield 95, 3) := by decide +kernel
theorem dX6_drop_19 : decode cX6_drop 19 = .ok (.istore_n 3, 1) := by decide +kernel
theorem dX6_drop_20 : decode cX6_drop 20 = .ok (.iload_n 3, 1) := by decide +kernel
theorem dX6_drop_21 : decode cX6_drop 21 = .ok (.ifCond .ne 6, 3) := by decide +kernel
theorem dX6_drop_24 : decode cX6_drop 24 = .ok (.bipush (-3), 2) := by decide +kernel
theorem dX6_drop_26 : decode cX6_drop 26 = .ok (.ireturn, 1) := by decide +kernel
theorem dX6_drop_27 : decode cX6_drop 27 = .ok (.aload_n 2, 1) := by decide +kernel
theorem dX6_drop_28 : decode cX6_drop 28 = .ok (.invokevirtual 98, 3) := by decide +kernel
theorem dX6_drop_31 : decode cX6_drop 31 = .ok (.iload_n 3, 1) := by decide +kernel
theorem dX6_drop_32 : decode cX6_drop 32 = .ok (.ireturn, 1) := by decide +kernel
theorem dX6_copy_0 : decode cX6_copy 0 = .ok (.aload_n 0, 1) := by decide +kernel
theorem dX6_copy_1 : decode cX6_copy 1 = .ok (.getfield 25, 3) := by decide +kernel
theorem dX6_copy_4 : decode cX6_copy 4 = .ok (.iload_n 1, 1) := by decide +kernel
theorem dX6_copy_5 : decode cX6_copy 5 = .ok (.invokevirtual 82, 3) := by decide +kernel
theorem dX6_copy_8 : decode cX6_copy 8 = .ok (.astore_n 3, 1) := by decide +kernel
theorem dX6_copy_9 : decode cX6_copy 9 = .ok (.aload_n 0, 1) := by decide +kernel
theorem dX6_copy_10 : decode cX6_copy 10 = .ok (.getfield 25, 3) := by decide +kernel
theorem dX6_copy_13 : decode cX6_copy 13 = .ok (.iload_n 2, 1) := by decide +kernel
theorem dX6_copy_14 : decode cX6_copy 14 = .ok (.invokevirtual 82, 3) := by decide +kernel
theorem dX6_copy_17 : decode cX6_copy 17 = .ok (.astore 4, 2) := by decide +kernel
theorem dX6_copy_19 : decode cX6_copy 19 = .ok (.aload_n 3, 1) := by decide +kernel
theorem dX6_copy_20 : decode cX6_copy 20 = .ok (.ifnull 8, 3) := by decide +kernel
theorem dX6_copy_23 : decode cX6_copy 23 = .ok (.aload 4, 2) := by decide +kernel
theorem dX6_copy_25 : decode cX6_copy 25 = .ok (.ifnonnull 5, 3) := by decide +kernel
theorem dX6_copy_28 : decode cX6_copy 28 = .ok (.iconst (-1), 1) := by decide +kernel
theorem dX6_copy_29 : decode cX6_copy 29 = .ok (.ireturn, 1) := by decide +kernel
theorem dX6_copy_30 : decode cX6_copy 30 = .ok (.aload_n 3, 1) := by decide +kernel
theorem dX6_copy_31 : decode cX6_copy 31 = .ok (.getfield 95, 3) := by decide +kernel
theorem dX6_copy_34 : decode cX6_copy 34 = .ok (.ifCond .ne 6, 3) := by decide +kernel
theorem dX6_copy_37 : decode cX6_copy 37 = .ok (.bipush (-3), 2) := by decide +kernel
theorem dX6_copy_39 : decode cX6_copy 39 = .ok (.ireturn, 1) := by decide +kernel
theorem dX6_copy_40 : decode cX6_copy 40 = .ok (.aload 4, 2) := by decide +kernel
theorem dX6_copy_42 : decode cX6_copy 42 = .ok (.aload_n 3, 1) := by decide +kernel
theorem dX6_copy_43 : decode cX6_copy 43 = .ok (.invokevirtual 101, 3) := by decide +kernel
theorem dX6_copy_46 : decode cX6_copy 46 = .ok (.aload 4, 2) := by decide +kernel
theorem dX6_copy_48 : decode cX6_copy 48 = .ok (.getfield 95, 3) := by decide +kernel
theorem dX6_copy_51 : decode cX6_copy 51 = .ok (.ireturn, 1) := by decide +kernel
theorem dX6_step_0 : decode cX6_step 0 = .ok (.aload_n 0, 1) := by decide +kernel
theorem dX6_step_1 : decode cX6_step 1 = .ok (.getfield 25, 3) := by decide +kernel
theorem dX6_step_4 : decode cX6_step 4 = .ok (.iload_n 1, 1) := by decide +kernel
theorem dX6_step_5 : decode cX6_step 5 = .ok (.invokevirtual 82, 3) := by decide +kernel
theorem dX6_step_8 : decode cX6_step 8 = .ok (.astore_n 3, 1) := by decide +kernel
theorem dX6_step_9 : decode cX6_step 9 = .ok (.aload_n 3, 1) := by decide +kernel
theorem dX6_step_10 : decode cX6_step 10 = .ok (.ifnull 8, 3) := by decide +kernel
theorem dX6_step_13 : decode cX6_step 13 = .ok (.iload_n 2, 1) := by decide +kernel
theorem dX6_step_14 : decode cX6_step 14 = .ok (.iconst (-1), 1) := by decide +kernel
theorem dX6_step_15 : decode cX6_step 15 = .ok (.if_icmp .ge 5, 3) := by decide +kernel
theorem dX6_step_18 : decode cX6_step 18 = .ok (.iconst (-1), 1) := by decide +kernel
theorem dX6_step_19 : decode cX6_step 19 = .ok (.ireturn, 1) := by decide +kernel
theorem dX6_step_20 : decode cX6_step 20 = .ok (.aload_n 3, 1) := by decide +kernel
theorem dX6_step_21 : decode cX6_step 21 = .ok (.getfield 95, 3) := by decide +kernel
theorem dX6_step_24 : decode cX6_step 24 = .ok (.ifCond .ne 6, 3) := by decide +kernel
theorem dX6_step_27 : decode cX6_step 27 = .ok (.bipush (-3), 2) := by decide +kernel
theorem dX6_step_29 : decode cX6_step 29 = .ok (.ireturn, 1) := by decide +kernel
theorem dX6_step_30 : decode cX6_step 30 = .ok (.iload_n 2, 1) := by decide +kernel
theorem dX6_step_31 : decode cX6_step 31 = .ok (.iconst (-1), 1) := by decide +kernel
theorem dX6_step_32 : decode cX6_step 32 = .ok (.if_icmp .ne 8, 3) := by decide +kernel
theorem dX6_step_35 : decode cX6_step 35 = .ok (.aload_n 3, 1) := by decide +kernel
theorem dX6_step_36 : decode cX6_step 36 = .ok (.getfield 95, 3) := by decide +kernel
theorem dX6_step_39 : decode cX6_step 39 = .ok (.ireturn, 1) := by decide +kernel
theorem dX6_step_40 : decode cX6_step 40 = .ok (.iload_n 2, 1) := by decide +kernel
theorem dX6_step_41 : decode cX6_step 41 = .ok (.aload_n 3, 1) := by decide +kernel
theorem dX6_step_42 : decode cX6_step 42 = .ok (.getfield 95, 3) := by decide +kernel
theorem dX6_step_45 : decode cX6_step 45 = .ok (.if_icmp .ge 20, 3) := by decide +kernel
theorem dX6_step_48 : decode cX6_step 48 = .ok (.bipush 100, 2) := by decide +kernel
theorem dX6_step_50 : decode cX6_step 50 = .ok (.aload_n 3, 1) := by decide +kernel
theorem dX6_step_51 : decode cX6_step 51 = .ok (.iload_n 2, 1) := by decide +kernel
theorem dX6_step_52 : decode cX6_step 52 = .ok (.invokevirtual 105, 3) := by decide +kernel
theorem dX6_step_55 : decode cX6_step 55 = .ok (.imul, 1) := by decide +kernel
theorem dX6_step_56 : decode cX6_step 56 = .ok (.aload_n 3, 1) := by decide +kernel
theorem dX6_step_57 : decode cX6_step 57 = .ok (.iload_n 2, 1) := by decide +kernel
theorem dX6_step_58 : decode cX6_step 58 = .ok (.invokevirtual 109, 3) := by decide +kernel
theorem dX6_step_61 : decode cX6_step 61 = .ok (.iadd, 1) := by decide +kernel
theorem dX6_step_62 : decode cX6_step 62 = .ok (.goto 4, 3) := by decide +kernel
theorem dX6_step_65 : decode cX6_step 65 = .ok (.iconst (-1), 1) := by decide +kernel
theorem dX6_step_66 : decode cX6_step 66 = .ok (.ireturn, 1) := by decide +kernel
theorem dX6_build_0 : decode cX6_build 0 = .ok (.iload_n 1, 1) := by decide +kernel
theorem dX6_build_1 : decode cX6_build 1 = .ok (.invokestatic 112, 3) := by decide +kernel
theorem dX6_build_4 : decode cX6_build 4 = .ok (.ifCond .eq 14, 3) := by decide +kernel
theorem dX6_build_7 : decode cX6_build 7 = .ok (.aload_n 0, 1) := by decide +kernel
theorem dX6_build_8 : decode cX6_build 8 = .ok (.getfield 14, 3) := by decide +kernel
theorem dX6_build_11 : decode cX6_build 11 = .ok (.iload_n 1, 1) := by decide +kernel
theorem dX6_build_12 : decode cX6_build 12 = .ok (.invokevirtual 115, 3) := by decide +kernel
theorem dX6_build_15 : decode cX6_build 15 = .ok (.goto 4, 3) := by decide +kernel
theorem dX6_build_18 : decode cX6_build 18 = .ok (.iconst (-1), 1) := by decide +kernel
theorem dX6_build_19 : decode cX6_build 19 = .ok (.ireturn, 1) := by decide +kernel
theorem dX6_all_0 : decode cX6_all 0 = .ok (.iload_n 1, 1) := by decide +kernel
theorem dX6_all_1 : decode cX6_all 1 = .ok (.invokestatic 118, 3) := by decide +kernel
theorem dX6_all_4 : decode cX6_all 4 = .ok (.ifCond .eq 25, 3) := by decide +kernel
theorem dX6_all_7 : decode cX6_all 7 = .ok (.aload_n 0, 1) := by decide +kernel
theorem dX6_all_8 : decode cX6_all 8 = .ok (.getfield 14, 3) := by decide +kernel
theorem dX6_all_11 : decode cX6_all 11 = .ok (.ldc 121, 2) := by decide +kernel
theorem dX6_all_13 : decode cX6_all 13 = .ok (.iload_n 1, 1) := by decide +kernel
theorem dX6_all_14 : decode cX6_all 14 = .ok (.iconst 1, 1) := by decide +kernel
theorem dX6_all_15 : decode cX6_all 15 = .ok (.if_icmp .ne 7, 3) := by decide +kernel
theorem dX6_all_18 : decode cX6_all 18 = .ok (.iconst 1, 1) := by decide +kernel
theorem dX6_all_19 : decode cX6_all 19 = .ok (.goto 4, 3) := by decide +kernel
theorem dX6_all_22 : decode cX6_all 22 = .ok (.iconst 0, 1) := by decide +kernel
theorem dX6_all_23 : decode cX6_all 23 = .ok (.invokevirtual 122, 3) := by decide +kernel
theorem dX6_all_26 : decode cX6_all 26 = .ok (.goto 4, 3) := by decide +kernel
theorem dX6_all_29 : decode cX6_all 29 = .ok (.iconst (-1), 1) := by decide +kernel
theorem dX6_all_30 : decode cX6_all 30 = .ok (.ireturn, 1) := by decide +kernel
theorem dX6_some_0 : decode cX6_some 0 = .ok (.iload_n 1, 1) := by decide +kernel
theorem dX6_some_1 : decode cX6_some 1 = .ok (.ifCond .lt 9, 3) := by decide +kernel
theorem dX6_some_4 : decode cX6_some 4 = .ok (.iload_n 1, 1) := by decide +kernel
theorem dX6_some_5 : decode cX6_some 5 = .ok (.ldc 121, 2) := by decide +kernel
theorem dX6_some_7 : decode cX6_some 7 = .ok (.if_icmp .le 6, 3) := by decide +kernel
theorem dX6_some_10 : decode cX6_some 10 = .ok (.bipush (-2), 2) := by decide +kernel
theorem dX6_some_12 : decode cX6_some 12 = .ok (.ireturn, 1) := by decide +kernel
theorem dX6_some_13 : decode cX6_some 13 = .ok (.iload_n 2, 1) := by decide +kernel
theorem dX6_some_14 : decode cX6_some 14 = .ok (.invokestatic 118, 3) := by decide +kernel
theorem dX6_some_17 : decode cX6_some 17 = .ok (.ifCond .eq 24, 3) := by decide +kernel
theorem dX6_some_20 : decode cX6_some 20 = .ok (.aload_n 0, 1) := by decide +kernel
theorem dX6_some_21 : decode cX6_some 21 = .ok (.getfield 14, 3) := by decide +kernel
theorem dX6_some_24 : decode cX6_some 24 = .ok (.iload_n 1, 1) := by decide +kernel
theorem dX6_some_25 : decode cX6_some 25 = .ok (.iload_n 2, 1) := by decide +kernel
theorem dX6_some_26 : decode cX6_some 26 = .ok (.iconst 1, 1) := by decide +kernel
theorem dX6_some_27 : decode cX6_some 27 = .ok (.if_icmp .ne 7, 3) := by decide +kernel
theorem dX6_some_30 : decode cX6_some 30 = .ok (.iconst 1, 1) := by decide +kernel
theorem dX6_some_31 : decode cX6_some 31 = .ok (.goto 4, 3) := by decide +kernel
theorem dX6_some_34 : decode cX6_some 34 = .ok (.iconst 0, 1) := by decide +kernel
theorem dX6_some_35 : decode cX6_some 35 = .ok (.invokevirtual 122, 3) := by decide +kernel
theorem dX6_some_38 : decode cX6_some 38 = .ok (.goto 4, 3) := by decide +kernel
theorem dX6_some_41 : decode cX6_some 41 = .ok (.iconst (-1), 1) := by decide +kernel
theorem dX6_some_42 : decode cX6_some 42 = .ok (.ireturn, 1) := by decide +kernel
theorem dX6_tried_0 : decode cX6_tried 0 = .ok (.iload_n 1, 1) := by decide +kernel
theorem dX6_tried_1 : decode cX6_tried 1 = .ok (.invokestatic 112, 3) := by decide +kernel
theorem dX6_tried_4 : decode cX6_tried 4 = .ok (.ifCond .eq 10, 3) := by decide +kernel
theorem dX6_tried_7 : decode cX6_tried 7 = .ok (.iload_n 2, 1) := by decide +kernel
theorem dX6_tried_8 : decode cX6_tried 8 = .ok (.invokestatic 46, 3) := by decide +kernel
theorem dX6_tried_11 : decode cX6_tried 11 = .ok (.ifCond .ne 5, 3) := by decide +kernel
theorem dX6_tried_14 : decode cX6_tried 14 = .ok (.iconst (-1), 1) := by decide +kernel
theorem dX6_tried_15 : decode cX6_tried 15 = .ok (.ireturn, 1) := by decide +kernel
theorem dX6_tried_16 : decode cX6_tried 16 = .ok (.iload_n 3, 1) := by decide +kernel
theorem dX6_tried_17 : decode cX6_tried 17 = .ok (.i2l, 1) := by decide +kernel
theorem dX6_tried_18 : decode cX6_tried 18 = .ok (.invokestatic 50, 3) := by decide +kernel
theorem dX6_tried_21 : decode cX6_tried 21 = .ok (.ifCond .ne 6, 3) := by decide +kernel
theorem dX6_tried_24 : decode cX6_tried 24 = .ok (.bipush (-2), 2) := by decide +kernel
theorem dX6_tried_26 : decode cX6_tried 26 = .ok (.ireturn, 1) := by decide +kernel
theorem dX6_tried_27 : decode cX6_tried 27 = .ok (.aload_n 0, 1) := by decide +kernel
theorem dX6_tried_28 : decode cX6_tried 28 = .ok (.getfield 18, 3) := by decide +kernel
theorem dX6_tried_31 : decode cX6_tried 31 = .ok (.getfield 21, 3) := by decide +kernel
theorem dX6_tried_34 : decode cX6_tried 34 = .ok (.aload_n 0, 1) := by decide +kernel
theorem dX6_tried_35 : decode cX6_tried 35 = .ok (.getfield 25, 3) := by decide +kernel
theorem dX6_tried_38 : decode cX6_tried 38 = .ok (.invokevirtual 126, 3) := by decide +kernel
theorem dX6_tried_41 : decode cX6_tried 41 = .ok (.aload_n 0, 1) := by decide +kernel
theorem dX6_tried_42 : decode cX6_tried 42 = .ok (.getfield 18, 3) := by decide +kernel
theorem dX6_tried_45 : decode cX6_tried 45 = .ok (.getfield 21, 3) := by decide +kernel
theorem dX6_tried_48 : decode cX6_tried 48 = .ok (.iload_n 2, 1) := by decide +kernel
theorem dX6_tried_49 : decode cX6_tried 49 = .ok (.iload_n 3, 1) := by decide +kernel
theorem dX6_tried_50 : decode cX6_tried 50 = .ok (.invokevirtual 54, 3) := by decide +kernel
theorem dX6_tried_53 : decode cX6_tried 53 = .ok (.pop, 1) := by decide +kernel
theorem dX6_tried_54 : decode cX6_tried 54 = .ok (.aload_n 0, 1) := by decide +kernel
theorem dX6_tried_55 : decode cX6_tried 55 = .ok (.getfield 18, 3) := by decide +kernel
theorem dX6_tried_58 : decode cX6_tried 58 = .ok (.iload_n 1, 1) := by decide +kernel
theorem dX6_tried_59 : decode cX6_tried 59 = .ok (.invokevirtual 115, 3) := by decide +kernel
theorem dX6_tried_62 : decode cX6_tried 62 = .ok (.ireturn, 1) := by decide +kernel
theorem dX6_result_0 : decode cX6_result 0 = .ok (.iload_n 1, 1) := by decide +kernel
theorem dX6_result_1 : decode cX6_result 1 = .ok (.invokestatic 130, 3) := by decide +kernel
theorem dX6_result_4 : decode cX6_result 4 = .ok (.ifCond .eq 14, 3) := by decide +kernel
theorem dX6_result_7 : decode cX6_result 7 = .ok (.aload_n 0, 1) := by decide +kernel
theorem dX6_result_8 : decode cX6_result 8 = .ok (.getfield 25, 3) := by decide +kernel
theorem dX6_result_11 : decode cX6_result 11 = .ok (.iload_n 1, 1) := by decide +kernel
theorem dX6_result_12 : decode cX6_result 12 = .ok (.invokevirtual 133, 3) := by decide +kernel
theorem dX6_result_15 : decode cX6_result 15 = .ok (.goto 4, 3) := by decide +kernel
theorem dX6_result_18 : decode cX6_result 18 = .ok (.iconst (-1), 1) := by decide +kernel
theorem dX6_result_19 : decode cX6_result 19 = .ok (.ireturn, 1) := by decide +kernel
theorem dX6_failure_0 : decode cX6_failure 0 = .ok (.iload_n 1, 1) := by decide +kernel
theorem dX6_failure_1 : decode cX6_failure 1 = .ok (.invokestatic 112, 3) := by decide +kernel
theorem dX6_failure_4 : decode cX6_failure 4 = .ok (.ifCond .eq 12, 3) := by decide +kernel
theorem dX6_failure_7 : decode cX6_failure 7 = .ok (.iload_n 3, 1) := by decide +kernel
theorem dX6_failure_8 : decode cX6_failure 8 = .ok (.ifCond .lt 8, 3) := by decide +kernel
theorem dX6_failure_11 : decode cX6_failure 11 = .ok (.iload_n 3, 1) := by decide +kernel
theorem dX6_failure_12 : decode cX6_failure 12 = .ok (.iconst 2, 1) := by decide +kernel
theorem dX6_failure_13 : decode cX6_failure 13 = .ok (.if_icmp .le 5, 3) := by decide +kernel
theorem dX6_failure_16 : decode cX6_failure 16 = .ok (.iconst (-1), 1) := by decide +kernel
theorem dX6_failure_17 : decode cX6_failure 17 = .ok (.ireturn, 1) := by decide +kernel
theorem dX6_failure_18 : decode cX6_failure 18 = .ok (.iload_n 2, 1) := by decide +kernel
theorem dX6_failure_19 : decode cX6_failure 19 = .ok (.ifCond .ge 7, 3) := by decide +kernel
theorem dX6_failure_22 : decode cX6_failure 22 = .ok (.aconst_null, 1) := by decide +kernel
theorem dX6_failure_23 : decode cX6_failure 23 = .ok (.goto 11, 3) := by decide +kernel
theorem dX6_failure_26 : decode cX6_failure 26 = .ok (.aload_n 0, 1) := by decide +kernel
theorem dX6_failure_27 : decode cX6_failure 27 = .ok (.getfield 25, 3) := by decide +kernel
theorem dX6_failure_30 : decode cX6_failure 30 = .ok (.iload_n 1, 1) := by decide +kernel
theorem dX6_failure_31 : decode cX6_failure 31 = .ok (.invokevirtual 136, 3) := by decide +kernel
theorem dX6_failure_34 : decode cX6_failure 34 = .ok (.astore 4, 2) := by decide +kernel
theorem dX6_failure_36 : decode cX6_failure 36 = .ok (.iconst 0, 1) := by decide +kernel
theorem dX6_failure_37 : decode cX6_failure 37 = .ok (.istore 5, 2) := by decide +kernel
theorem dX6_failure_39 : decode cX6_failure 39 = .ok (.aload 4, 2) := by decide +kernel
theorem dX6_failure_41 : decode cX6_failure 41 = .ok (.ifnull 22, 3) := by decide +kernel
theorem dX6_failure_44 : decode cX6_failure 44 = .ok (.iload 5, 2) := by decide +kernel
theorem dX6_failure_46 : decode cX6_failure 46 = .ok (.iload_n 2, 1) := by decide +kernel
theorem dX6_failure_47 : decode cX6_failure 47 = .ok (.if_icmp .ge 16, 3) := by decide +kernel
theorem dX6_failure_50 : decode cX6_failure 50 = .ok (.aload 4, 2) := by decide +kernel
theorem dX6_failure_52 : decode cX6_failure 52 = .ok (.getfield 139, 3) := by decide +kernel
theorem dX6_failure_55 : decode cX6_failure 55 = .ok (.astore 4, 2) := by decide +kernel
theorem dX6_failure_57 : decode cX6_failure 57 = .ok (.iinc 5 1, 3) := by decide +kernel
theorem dX6_failure_60 : decode cX6_failure 60 = .ok (.goto (-21), 3) := by decide +kernel
theorem dX6_failure_63 : decode cX6_failure 63 = .ok (.aload 4, 2) := by decide +kernel
theorem dX6_failure_65 : decode cX6_failure 65 = .ok (.ifnonnull 6, 3) := by decide +kernel
theorem dX6_failure_68 : decode cX6_failure 68 = .ok (.bipush (-3), 2) := by decide +kernel
theorem dX6_failure_70 : decode cX6_failure 70 = .ok (.ireturn, 1) := by decide +kernel
theorem dX6_failure_71 : decode cX6_failure 71 = .ok (.iload_n 3, 1) := by decide +kernel
theorem dX6_failure_72 : decode cX6_failure 72 = .ok (.ifCond .ne 9, 3) := by decide +kernel
theorem dX6_failure_75 : decode cX6_failure 75 = .ok (.aload 4, 2) := by decide +kernel
theorem dX6_failure_77 : decode cX6_failure 77 = .ok (.getfield 143, 3) := by decide +kernel
theorem dX6_failure_80 : decode cX6_failure 80 = .ok (.ireturn, 1) := by decide +kernel
theorem dX6_failure_81 : decode cX6_failure 81 = .ok (.iload_n 3, 1) := by decide +kernel
theorem dX6_failure_82 : decode cX6_failure 82 = .ok (.iconst 1, 1) := by decide +kernel
theorem dX6_failure_83 : decode cX6_failure 83 = .ok (.if_icmp .ne 11, 3) := by decide +kernel
theorem dX6_failure_86 : decode cX6_failure 86 = .ok (.aload 4, 2) := by decide +kernel
theorem dX6_failure_88 : decode cX6_failure 88 = .ok (.getfield 146, 3) := by decide +kernel
theorem dX6_failure_91 : decode cX6_failure 91 = .ok (.goto 8, 3) := by decide +kernel
theorem dX6_failure_94 : decode cX6_failure 94 = .ok (.aload 4, 2) := by decide +kernel
theorem dX6_failure_96 : decode cX6_failure 96 = .ok (.getfield 149, 3) := by decide +kernel
theorem dX6_failure_99 : decode cX6_failure 99 = .ok (.ireturn, 1) := by decide +kernel
theorem dX6_causes_0 : decode cX6_causes 0 = .ok (.iload_n 1, 1) := by decide +kernel
theorem dX6_causes_1 : decode cX6_causes 1 = .ok (.invokestatic 112, 3) := by decide +kernel
theorem dX6_causes_4 : decode cX6_causes 4 = .ok (.ifCond .ne 5, 3) := by decide +kernel
theorem dX6_causes_7 : decode cX6_causes 7 = .ok (.iconst (-1), 1) := by decide +kernel
theorem dX6_causes_8 : decode cX6_causes 8 = .ok (.ireturn, 1) := by decide +kernel
theorem dX6_causes_9 : decode cX6_causes 9 = .ok (.aload_n 0, 1) := by decide +kernel
theorem dX6_causes_10 : decode cX6_causes 10 = .ok (.getfield 25, 3) := by decide +kernel
theorem dX6_causes_13 : decode cX6_causes 13 = .ok (.iload_n 1, 1) := by decide +kernel
theorem dX6_causes_14 : decode cX6_causes 14 = .ok (.invokevirtual 136, 3) := by decide +kernel
theorem dX6_causes_17 : decode cX6_causes 17 = .ok (.astore_n 2, 1) := by decide +kernel
theorem dX6_causes_18 : decode cX6_causes 18 = .ok (.aload_n 2, 1) := by decide +kernel
theorem dX6_causes_19 : decode cX6_causes 19 = .ok (.ifnonnull 8, 3) := by decide +kernel
theorem dX6_causes_22 : decode cX6_causes 22 = .ok (.bipush (-5), 2) := by decide +kernel
theorem dX6_causes_24 : decode cX6_causes 24 = .ok (.goto 7, 3) := by decide +kernel
theorem dX6_causes_27 : decode cX6_causes 27 = .ok (.aload_n 2, 1) := by decide +kernel
theorem dX6_causes_28 : decode cX6_causes 28 = .ok (.invokevirtual 152, 3) := by decide +kernel
theorem dX6_causes_31 : decode cX6_causes 31 = .ok (.ireturn, 1) := by decide +kernel
theorem dX6_root_0 : decode cX6_root 0 = .ok (.iload_n 1, 1) := by decide +kernel
theorem dX6_root_1 : decode cX6_root 1 = .ok (.invokestatic 112, 3) := by decide +kernel
theorem dX6_root_4 : decode cX6_root 4 = .ok (.ifCond .ne 5, 3) := by decide +kernel
theorem dX6_root_7 : decode cX6_root 7 = .ok (.iconst (-1), 1) := by decide +kernel
theorem dX6_root_8 : decode cX6_root 8 = .ok (.ireturn, 1) := by decide +kernel
theorem dX6_root_9 : decode cX6_root 9 = .ok (.aload_n 0, 1) := by decide +kernel
theorem dX6_root_10 : decode cX6_root 10 = .ok (.getfield 25, 3) := by decide +kernel
theorem dX6_root_13 : decode cX6_root 13 = .ok (.iload_n 1, 1) := by decide +kernel
theorem dX6_root_14 : decode cX6_root 14 = .ok (.invokevirtual 136, 3) := by decide +kernel
theorem dX6_root_17 : decode cX6_root 17 = .ok (.astore_n 2, 1) := by decide +kernel
theorem dX6_root_18 : decode cX6_root 18 = .ok (.aload_n 2, 1) := by decide +kernel
theorem dX6_root_19 : decode cX6_root 19 = .ok (.ifnonnull 8, 3) := by decide +kernel
theorem dX6_root_22 : decode cX6_root 22 = .ok (.bipush (-5), 2) := by decide +kernel
theorem dX6_root_24 : decode cX6_root 24 = .ok (.goto 7, 3) := by decide +kernel
theorem dX6_root_27 : decode cX6_root 27 = .ok (.aload_n 2, 1) := by decide +kernel
theorem dX6_root_28 : decode cX6_root 28 = .ok (.invokevirtual 155, 3) := by decide +kernel
theorem dX6_root_31 : decode cX6_root 31 = .ok (.ireturn, 1) := by decide +kernel
theorem dX6_blamed_0 : decode cX6_blamed 0 = .ok (.iload_n 1, 1) := by decide +kernel
theorem dX6_blamed_1 : decode cX6_blamed 1 = .ok (.invokestatic 130, 3) := by decide +kernel
theorem dX6_blamed_4 : decode cX6_blamed 4 = .ok (.ifCond .eq 14, 3) := by decide +kernel
theorem dX6_blamed_7 : decode cX6_blamed 7 = .ok (.aload_n 0, 1) := by decide +kernel
theorem dX6_blamed_8 : decode cX6_blamed 8 = .ok (.getfield 25, 3) := by decide +kernel
theorem dX6_blamed_11 : decode cX6_blamed 11 = .ok (.iload_n 1, 1) := by decide +kernel
theorem dX6_blamed_12 : decode cX6_blamed 12 = .ok (.invokevirtual 158, 3) := by decide +kernel
theorem dX6_blamed_15 : decode cX6_blamed 15 = .ok (.goto 4, 3) := by decide +kernel
theorem dX6_blamed_18 : decode cX6_blamed 18 = .ok (.iconst (-1), 1) := by decide +kernel
theorem dX6_blamed_19 : decode cX6_blamed 19 = .ok (.ireturn, 1) := by decide +kernel
theorem dX6_trace_0 : decode cX6_trace 0 = .ok (.aload_n 0, 1) := by decide +kernel
theorem dX6_trace_1 : decode cX6_trace 1 = .ok (.getfield 25, 3) := by decide +kernel
theorem dX6_trace_4 : decode cX6_trace 4 = .ok (.iload_n 1, 1) := by decide +kernel
theorem dX6_trace_5 : decode cX6_trace 5 = .ok (.invokevirtual 82, 3) := by decide +kernel
theorem dX6_trace_8 : decode cX6_trace 8 = .ok (.astore_n 3, 1) := by decide +kernel
theorem dX6_trace_9 : decode cX6_trace 9 = .ok (.aload_n 3, 1) := by decide +kernel
theorem dX6_trace_10 : decode cX6_trace 10 = .ok (.ifnull 8, 3) := by decide +kernel
theorem dX6_trace_13 : decode cX6_trace 13 = .ok (.iload_n 2, 1) := by decide +kernel
theorem dX6_trace_14 : decode cX6_trace 14 = .ok (.iconst (-1), 1) := by decide +kernel
theorem dX6_trace_15 : decode cX6_trace 15 = .ok (.if_icmp .ge 5, 3) := by decide +kernel
theorem dX6_trace_18 : decode cX6_trace 18 = .ok (.iconst (-1), 1) := by decide +kernel
theorem dX6_trace_19 : decode cX6_trace 19 = .ok (.ireturn, 1) := by decide +kernel
theorem dX6_trace_20 : decode cX6_trace 20 = .ok (.aload_n 3, 1) := by decide +kernel
theorem dX6_trace_21 : decode cX6_trace 21 = .ok (.invokevirtual 161, 3) := by decide +kernel
theorem dX6_trace_24 : decode cX6_trace 24 = .ok (.ifCond .ne 6, 3) := by decide +kernel
theorem dX6_trace_27 : decode cX6_trace 27 = .ok (.bipush (-3), 2) := by decide +kernel
theorem dX6_trace_29 : decode cX6_trace 29 = .ok (.ireturn, 1) := by decide +kernel
theorem dX6_trace_30 : decode cX6_trace 30 = .ok (.iload_n 2, 1) := by decide +kernel
theorem dX6_trace_31 : decode cX6_trace 31 = .ok (.iconst (-1), 1) := by decide +kernel
theorem dX6_trace_32 : decode cX6_trace 32 = .ok (.if_icmp .ne 10, 3) := by decide +kernel
theorem dX6_trace_35 : decode cX6_trace 35 = .ok (.aload_n 3, 1) := by decide +kernel
theorem dX6_trace_36 : decode cX6_trace 36 = .ok (.getfield 165, 3) := by decide +kernel
theorem dX6_trace_39 : decode cX6_trace 39 = .ok (.goto 8, 3) := by decide +kernel
theorem dX6_trace_42 : decode cX6_trace 42 = .ok (.aload_n 3, 1) := by decide +kernel
theorem dX6_trace_43 : decode cX6_trace 43 = .ok (.iload_n 2, 1) := by decide +kernel
theorem dX6_trace_44 : decode cX6_trace 44 = .ok (.invokevirtual 168, 3) := by decide +kernel
theorem dX6_trace_47 : decode cX6_trace 47 = .ok (.ireturn, 1) := by decide +kernel
theorem dX6_seen_0 : decode cX6_seen 0 = .ok (.aload_n 0, 1) := by decide +kernel
theorem dX6_seen_1 : decode cX6_seen 1 = .ok (.getfield 25, 3) := by decide +kernel
theorem dX6_seen_4 : decode cX6_seen 4 = .ok (.iload_n 1, 1) := by decide +kernel
theorem dX6_seen_5 : decode cX6_seen 5 = .ok (.invokevirtual 82, 3) := by decide +kernel
theorem dX6_seen_8 : decode cX6_seen 8 = .ok (.astore_n 3, 1) := by decide +kernel
theorem dX6_seen_9 : decode cX6_seen 9 = .ok (.aload_n 3, 1) := by decide +kernel
theorem dX6_seen_10 : decode cX6_seen 10 = .ok (.ifnull 7, 3) := by decide +kernel
theorem dX6_seen_13 : decode cX6_seen 13 = .ok (.iload_n 2, 1) := by decide +kernel
theorem dX6_seen_14 : decode cX6_seen 14 = .ok (.ifCond .ge 5, 3) := by decide +kernel
theorem dX6_seen_17 : decode cX6_seen 17 = .ok (.iconst (-1), 1) := by decide +kernel
theorem dX6_seen_18 : decode cX6_seen 18 = .ok (.ireturn, 1) := by decide +kernel
theorem dX6_seen_19 : decode cX6_seen 19 = .ok (.aload_n 3, 1) := by decide +kernel
theorem dX6_seen_20 : decode cX6_seen 20 = .ok (.invokevirtual 161, 3) := by decide +kernel
theorem dX6_seen_23 : decode cX6_seen 23 = .ok (.ifCond .ne 6, 3) := by decide +kernel
theorem dX6_seen_26 : decode cX6_seen 26 = .ok (.bipush (-3), 2) := by decide +kernel
theorem dX6_seen_28 : decode cX6_seen 28 = .ok (.ireturn, 1) := by decide +kernel
theorem dX6_seen_29 : decode cX6_seen 29 = .ok (.aload_n 3, 1) := by decide +kernel
theorem dX6_seen_30 : decode cX6_seen 30 = .ok (.iload_n 2, 1) := by decide +kernel
theorem dX6_seen_31 : decode cX6_seen 31 = .ok (.invokevirtual 171, 3) := by decide +kernel
theorem dX6_seen_34 : decode cX6_seen 34 = .ok (.astore 4, 2) := by decide +kernel
theorem dX6_seen_36 : decode cX6_seen 36 = .ok (.aload 4, 2) := by decide +kernel
theorem dX6_seen_38 : decode cX6_seen 38 = .ok (.ifnonnull 7, 3) := by decide +kernel
theorem dX6_seen_41 : decode cX6_seen 41 = .ok (.iconst (-1), 1) := by decide +kernel
theorem dX6_seen_42 : decode cX6_seen 42 = .ok (.goto 8, 3) := by decide +kernel
theorem dX6_seen_45 : decode cX6_seen 45 = .ok (.aload 4, 2) := by decide +kernel
theorem dX6_seen_47 : decode cX6_seen 47 = .ok (.invokevirtual 174, 3) := by decide +kernel
theorem dX6_seen_50 : decode cX6_seen 50 = .ok (.ireturn, 1) := by decide +kernel
theorem dX6_users_0 : decode cX6_users 0 = .ok (.iload_n 1, 1) := by decide +kernel
theorem dX6_users_1 : decode cX6_users 1 = .ok (.invokestatic 130, 3) := by decide +kernel
theorem dX6_users_4 : decode cX6_users 4 = .ok (.ifCond .eq 14, 3) := by decide +kernel
theorem dX6_users_7 : decode cX6_users 7 = .ok (.aload_n 0, 1) := by decide +kernel
theorem dX6_users_8 : decode cX6_users 8 = .ok (.getfield 25, 3) := by decide +kernel
theorem dX6_users_11 : decode cX6_users 11 = .ok (.iload_n 1, 1) := by decide +kernel
theorem dX6_users_12 : decode cX6_users 12 = .ok (.invokevirtual 177, 3) := by decide +kernel
theorem dX6_users_15 : decode cX6_users 15 = .ok (.goto 4, 3) := by decide +kernel
theorem dX6_users_18 : decode cX6_users 18 = .ok (.iconst (-1), 1) := by decide +kernel
theorem dX6_users_19 : decode cX6_users 19 = .ok (.ireturn, 1) := by decide +kernel
theorem dX6_depth_0 : decode cX6_depth 0 = .ok (.iload_n 1, 1) := by decide +kernel
theorem dX6_depth_1 : decode cX6_depth 1 = .ok (.invokestatic 130, 3) := by decide +kernel
theorem dX6_depth_4 : decode cX6_depth 4 = .ok (.ifCond .eq 14, 3) := by decide +kernel
theorem dX6_depth_7 : decode cX6_depth 7 = .ok (.aload_n 0, 1) := by decide +kernel
theorem dX6_depth_8 : decode cX6_depth 8 = .ok (.getfield 25, 3) := by decide +kernel
theorem dX6_depth_11 : decode cX6_depth 11 = .ok (.iload_n 1, 1) := by decide +kernel
theorem dX6_depth_12 : decode cX6_depth 12 = .ok (.invokevirtual 180, 3) := by decide +kernel
theorem dX6_depth_15 : decode cX6_depth 15 = .ok (.goto 4, 3) := by decide +kernel
theorem dX6_depth_18 : decode cX6_depth 18 = .ok (.iconst (-1), 1) := by decide +kernel
theorem dX6_depth_19 : decode cX6_depth 19 = .ok (.ireturn, 1) := by decide +kernel
theorem dX6_order_0 : decode cX6_order 0 = .ok (.iload_n 1, 1) := by decide +kernel
theorem dX6_order_1 : decode cX6_order 1 = .ok (.ifCond .ge 7, 3) := by decide +kernel
theorem dX6_order_4 : decode cX6_order 4 = .ok (.iconst (-1), 1) := by decide +kernel
theorem dX6_order_5 : decode cX6_order 5 = .ok (.goto 11, 3) := by decide +kernel
theorem dX6_order_8 : decode cX6_order 8 = .ok (.aload_n 0, 1) := by decide +kernel
theorem dX6_order_9 : decode cX6_order 9 = .ok (.getfield 14, 3) := by decide +kernel
theorem dX6_order_12 : decode cX6_order 12 = .ok (.iload_n 1, 1) := by decide +kernel
theorem dX6_order_13 : decode cX6_order 13 = .ok (.invokevirtual 183, 3) := by decide +kernel
theorem dX6_order_16 : decode cX6_order 16 = .ok (.ireturn, 1) := by decide +kernel
theorem dX6_unlike_0 : decode cX6_unlike 0 = .ok (.aload_n 0, 1) := by decide +kernel
theorem dX6_unlike_1 : decode cX6_unlike 1 = .ok (.getfield 25, 3) := by decide +kernel
theorem dX6_unlike_4 : decode cX6_unlike 4 = .ok (.invokevirtual 186, 3) := by decide +kernel
theorem dX6_unlike_7 : decode cX6_unlike 7 = .ok (.ireturn, 1) := by decide +kernel
theorem dX6_fresh_0 : decode cX6_fresh 0 = .ok (.aload_n 0, 1) := by decide +kernel
theorem dX6_fresh_1 : decode cX6_fresh 1 = .ok (.getfield 25, 3) := by decide +kernel
theorem dX6_fresh_4 : decode cX6_fresh 4 = .ok (.invokevirtual 189, 3) := by decide +kernel
theorem dX6_fresh_7 : decode cX6_fresh 7 = .ok (.ireturn, 1) := by decide +kernel
theorem dX6_forget_0 : decode cX6_forget 0 = .ok (.aload_n 0, 1) := by decide +kernel
theorem dX6_forget_1 : decode cX6_forget 1 = .ok (.getfield 25, 3) := by decide +kernel
theorem dX6_forget_4 : decode cX6_forget 4 = .ok (.iload_n 1, 1) := by decide +kernel
theorem dX6_forget_5 : decode cX6_forget 5 = .ok (.invokevirtual 82, 3) := by decide +kernel
theorem dX6_forget_8 : decode cX6_forget 8 = .ok (.astore_n 2, 1) := by decide +kernel
theorem dX6_forget_9 : decode cX6_forget 9 = .ok (.aload_n 2, 1) := by decide +kernel
theorem dX6_forget_10 : decode cX6_forget 10 = .ok (.ifnonnull 5, 3) := by decide +kernel
theorem dX6_forget_13 : decode cX6_forget 13 = .ok (.iconst (-1), 1) := by decide +kernel
theorem dX6_forget_14 : decode cX6_forget 14 = .ok (.ireturn, 1) := by decide +kernel
theorem dX6_forget_15 : decode cX6_forget 15 = .ok (.aload_n 2, 1) := by decide +kernel
theorem dX6_forget_16 : decode cX6_forget 16 = .ok (.getfield 192, 3) := by decide +kernel
theorem dX6_forget_19 : decode cX6_forget 19 = .ok (.ifnonnull 10, 3) := by decide +kernel
theorem dX6_forget_22 : decode cX6_forget 22 = .ok (.aload_n 2, 1) := by decide +kernel
theorem dX6_forget_23 : decode cX6_forget 23 = .ok (.invokevirtual 161, 3) := by decide +kernel
theorem dX6_forget_26 : decode cX6_forget 26 = .ok (.ifCond .eq 7, 3) := by decide +kernel
theorem dX6_forget_29 : decode cX6_forget 29 = .ok (.iconst 1, 1) := by decide +kernel
theorem dX6_forget_30 : decode cX6_forget 30 = .ok (.goto 4, 3) := by decide +kernel
theorem dX6_forget_33 : decode cX6_forget 33 = .ok (.iconst 0, 1) := by decide +kernel
theorem dX6_forget_34 : decode cX6_forget 34 = .ok (.istore_n 3, 1) := by decide +kernel
theorem dX6_forget_35 : decode cX6_forget 35 = .ok (.aload_n 2, 1) := by decide +kernel
theorem dX6_forget_36 : decode cX6_forget 36 = .ok (.aconst_null, 1) := by decide +kernel
theorem dX6_forget_37 : decode cX6_forget 37 = .ok (.putfield 192, 3) := by decide +kernel
theorem dX6_forget_40 : decode cX6_forget 40 = .ok (.aload_n 2, 1) := by decide +kernel
theorem dX6_forget_41 : decode cX6_forget 41 = .ok (.invokevirtual 195, 3) := by decide +kernel
theorem dX6_forget_44 : decode cX6_forget 44 = .ok (.iload_n 3, 1) := by decide +kernel
theorem dX6_forget_45 : decode cX6_forget 45 = .ok (.ifCond .eq 7, 3) := by decide +kernel
theorem dX6_forget_48 : decode cX6_forget 48 = .ok (.iconst 1, 1) := by decide +kernel
theorem dX6_forget_49 : decode cX6_forget 49 = .ok (.goto 4, 3) := by decide +kernel
theorem dX6_forget_52 : decode cX6_forget 52 = .ok (.iconst 0, 1) := by decide +kernel
theorem dX6_forget_53 : decode cX6_forget 53 = .ok (.ireturn, 1) := by decide +kernel
theorem dX6_told_0 : decode cX6_told 0 = .ok (.iload_n 1, 1) := by decide +kernel
theorem dX6_told_1 : decode cX6_told 1 = .ok (.tableswitch 147 0 10 #[59, 67, 75, 83, 91, 99, 107, 115, 123, 131, 139], 59) := by decide +kernel
theorem dX6_told_60 : decode cX6_told 60 = .ok (.aload_n 0, 1) := by decide +kernel
theorem dX6_told_61 : decode cX6_told 61 = .ok (.getfield 14, 3) := by decide +kernel
theorem dX6_told_64 : decode cX6_told 64 = .ok (.getfield 198, 3) := by decide +kernel
theorem dX6_told_67 : decode cX6_told 67 = .ok (.ireturn, 1) := by decide +kernel
theorem dX6_told_68 : decode cX6_told 68 = .ok (.aload_n 0, 1) := by decide +kernel
theorem dX6_told_69 : decode cX6_told 69 = .ok (.getfield 14, 3) := by decide +kernel
theorem dX6_told_72 : decode cX6_told 72 = .ok (.getfield 201, 3) := by decide +kernel
theorem dX6_told_75 : decode cX6_told 75 = .ok (.ireturn, 1) := by decide +kernel
theorem dX6_told_76 : decode cX6_told 76 = .ok (.aload_n 0, 1) := by decide +kernel
theorem dX6_told_77 : decode cX6_told 77 = .ok (.getfield 14, 3) := by decide +kernel
theorem dX6_told_80 : decode cX6_told 80 = .ok (.getfield 204, 3) := by decide +kernel
theorem dX6_told_83 : decode cX6_told 83 = .ok (.ireturn, 1) := by decide +kernel
theorem dX6_told_84 : decode cX6_told 84 = .ok (.aload_n 0, 1) := by decide +kernel
theorem dX6_told_85 : decode cX6_told 85 = .ok (.getfield 14, 3) := by decide +kernel
theorem dX6_told_88 : decode cX6_told 88 = .ok (.getfield 207, 3) := by decide +kernel
theorem dX6_told_91 : decode cX6_told 91 = .ok (.ireturn, 1) := by decide +kernel
theorem dX6_told_92 : decode cX6_told 92 = .ok (.aload_n 0, 1) := by decide +kernel
theorem dX6_told_93 : decode cX6_told 93 = .ok (.getfield 25, 3) := by decide +kernel
theorem dX6_told_96 : decode cX6_told 96 = .ok (.invokevirtual 210, 3) := by decide +kernel
theorem dX6_told_99 : decode cX6_told 99 = .ok (.ireturn, 1) := by decide +kernel
theorem dX6_told_100 : decode cX6_told 100 = .ok (.aload_n 0, 1) := by decide +kernel
theorem dX6_told_101 : decode cX6_told 101 = .ok (.getfield 25, 3) := by decide +kernel
theorem dX6_told_104 : decode cX6_told 104 = .ok (.invokevirtual 213, 3) := by decide +kernel
theorem dX6_told_107 : decode cX6_told 107 = .ok (.ireturn, 1) := by decide +kernel
theorem dX6_told_108 : decode cX6_told 108 = .ok (.aload_n 0, 1) := by decide +kernel
theorem dX6_told_109 : decode cX6_told 109 = .ok (.getfield 25, 3) := by decide +kernel
theorem dX6_told_112 : decode cX6_told 112 = .ok (.invokevirtual 216, 3) := by decide +kernel
theorem dX6_told_115 : decode cX6_told 115 = .ok (.ireturn, 1) := by decide +kernel
theorem dX6_told_116 : decode cX6_told 116 = .ok (.aload_n 0, 1) := by decide +kernel
theorem dX6_told_117 : decode cX6_told 117 = .ok (.getfield 25, 3) := by decide +kernel
theorem dX6_told_120 : decode cX6_told 120 = .ok (.invokevirtual 219, 3) := by decide +kernel
theorem dX6_told_123 : decode cX6_told 123 = .ok (.ireturn, 1) := by decide +kernel
theorem dX6_told_124 : decode cX6_told 124 = .ok (.aload_n 0, 1) := by decide +kernel
theorem dX6_told_125 : decode cX6_told 125 = .ok (.getfield 35, 3) := by decide +kernel
theorem dX6_told_128 : decode cX6_told 128 = .ok (.getfield 75, 3) := by decide +kernel
theorem dX6_told_131 : decode cX6_told 131 = .ok (.ireturn, 1) := by decide +kernel
theorem dX6_told_132 : decode cX6_told 132 = .ok (.aload_n 0, 1) := by decide +kernel
theorem dX6_told_133 : decode cX6_told 133 = .ok (.getfield 14, 3) := by decide +kernel
theorem dX6_told_136 : decode cX6_told 136 = .ok (.getfield 222, 3) := by decide +kernel
theorem dX6_told_139 : decode cX6_told 139 = .ok (.ireturn, 1) := by decide +kernel
theorem dX6_told_140 : decode cX6_told 140 = .ok (.aload_n 0, 1) := by decide +kernel
theorem dX6_told_141 : decode cX6_told 141 = .ok (.getfield 14, 3) := by decide +kernel
theorem dX6_told_144 : decode cX6_told 144 = .ok (.getfield 225, 3) := by decide +kernel
theorem dX6_told_147 : decode cX6_told 147 = .ok (.ireturn, 1) := by decide +kernel
theorem dX6_told_148 : decode cX6_told 148 = .ok (.iconst (-1), 1) := by decide +kernel
theorem dX6_told_149 : decode cX6_told 149 = .ok (.ireturn, 1) := by decide +kernel
theorem dX6_list_0 : decode cX6_list 0 = .ok (.aload_n 0, 1) := by decide +kernel
theorem dX6_list_1 : decode cX6_list 1 = .ok (.iload_n 1, 1) := by decide +kernel
theorem dX6_list_2 : decode cX6_list 2 = .ok (.invokevirtual 228, 3) := by decide +kernel
theorem dX6_list_5 : decode cX6_list 5 = .ok (.astore_n 3, 1) := by decide +kernel
theorem dX6_list_6 : decode cX6_list 6 = .ok (.aload_n 3, 1) := by decide +kernel
theorem dX6_list_7 : decode cX6_list 7 = .ok (.ifnonnull 5, 3) := by decide +kernel
theorem dX6_list_10 : decode cX6_list 10 = .ok (.iconst (-1), 1) := by decide +kernel
theorem dX6_list_11 : decode cX6_list 11 = .ok (.ireturn, 1) := by decide +kernel
theorem dX6_list_12 : decode cX6_list 12 = .ok (.iload_n 2, 1) := by decide +kernel
theorem dX6_list_13 : decode cX6_list 13 = .ok (.bipush 20, 2) := by decide +kernel
theorem dX6_list_15 : decode cX6_list 15 = .ok (.if_icmp .le 6, 3) := by decide +kernel
theorem dX6_list_18 : decode cX6_list 18 = .ok (.bipush (-2), 2) := by decide +kernel
theorem dX6_list_20 : decode cX6_list 20 = .ok (.ireturn, 1) := by decide +kernel
theorem dX6_list_21 : decode cX6_list 21 = .ok (.iload_n 2, 1) := by decide +kernel
theorem dX6_list_22 : decode cX6_list 22 = .ok (.ifCond .ge 6, 3) := by decide +kernel
theorem dX6_list_25 : decode cX6_list 25 = .ok (.bipush (-14), 2) := by decide +kernel
theorem dX6_list_27 : decode cX6_list 27 = .ok (.ireturn, 1) := by decide +kernel
theorem dX6_list_28 : decode cX6_list 28 = .ok (.aload_n 3, 1) := by decide +kernel
theorem dX6_list_29 : decode cX6_list 29 = .ok (.iload_n 2, 1) := by decide +kernel
theorem dX6_list_30 : decode cX6_list 30 = .ok (.invokevirtual 232, 3) := by decide +kernel
theorem dX6_list_33 : decode cX6_list 33 = .ok (.iconst 1, 1) := by decide +kernel
theorem dX6_list_34 : decode cX6_list 34 = .ok (.ireturn, 1) := by decide +kernel
theorem dX6_put_0 : decode cX6_put 0 = .ok (.aload_n 0, 1) := by decide +kernel
theorem dX6_put_1 : decode cX6_put 1 = .ok (.iload_n 1, 1) := by decide +kernel
theorem dX6_put_2 : decode cX6_put 2 = .ok (.invokevirtual 228, 3) := by decide +kernel
theorem dX6_put_5 : decode cX6_put 5 = .ok (.astore 5, 2) := by decide +kernel
theorem dX6_put_7 : decode cX6_put 7 = .ok (.aload 5, 2) := by decide +kernel
theorem dX6_put_9 : decode cX6_put 9 = .ok (.ifnonnull 5, 3) := by decide +kernel
theorem dX6_put_12 : decode cX6_put 12 = .ok (.iconst (-1), 1) := by decide +kernel
theorem dX6_put_13 : decode cX6_put 13 = .ok (.ireturn, 1) := by decide +kernel
theorem dX6_put_14 : decode cX6_put 14 = .ok (.aload 5, 2) := by decide +kernel
theorem dX6_put_16 : decode cX6_put 16 = .ok (.getfield 235, 3) := by decide +kernel
theorem dX6_put_19 : decode cX6_put 19 = .ok (.ifCond .ne 6, 3) := by decide +kernel
theorem dX6_put_22 : decode cX6_put 22 = .ok (.bipush (-11), 2) := by decide +kernel
theorem dX6_put_24 : decode cX6_put 24 = .ok (.ireturn, 1) := by decide +kernel
theorem dX6_put_25 : decode cX6_put 25 = .ok (.aload 5, 2) := by decide +kernel
theorem dX6_put_27 : decode cX6_put 27 = .ok (.iload_n 2, 1) := by decide +kernel
theorem dX6_put_28 : decode cX6_put 28 = .ok (.lload_n 3, 1) := by decide +kernel
theorem dX6_put_29 : decode cX6_put 29 = .ok (.invokevirtual 239, 3) := by decide +kernel
theorem dX6_put_32 : decode cX6_put 32 = .ok (.ifCond .eq 7, 3) := by decide +kernel
theorem dX6_put_35 : decode cX6_put 35 = .ok (.iconst 1, 1) := by decide +kernel
theorem dX6_put_36 : decode cX6_put 36 = .ok (.goto 5, 3) := by decide +kernel
theorem dX6_put_39 : decode cX6_put 39 = .ok (.bipush (-13), 2) := by decide +kernel
theorem dX6_put_41 : decode cX6_put 41 = .ok (.ireturn, 1) := by decide +kernel
theorem dX6_get_0 : decode cX6_get 0 = .ok (.aload_n 0, 1) := by decide +kernel
theorem dX6_get_1 : decode cX6_get 1 = .ok (.iload_n 1, 1) := by decide +kernel
theorem dX6_get_2 : decode cX6_get 2 = .ok (.invokevirtual 228, 3) := by decide +kernel
theorem dX6_get_5 : decode cX6_get 5 = .ok (.astore_n 3, 1) := by decide +kernel
theorem dX6_get_6 : decode cX6_get 6 = .ok (.aload_n 3, 1) := by decide +kernel
theorem dX6_get_7 : decode cX6_get 7 = .ok (.ifnonnull 9, 3) := by decide +kernel
theorem dX6_get_10 : decode cX6_get 10 = .ok (.ldc2_w 243, 3) := by decide +kernel
theorem dX6_get_13 : decode cX6_get 13 = .ok (.goto 8, 3) := by decide +kernel
theorem dX6_get_16 : decode cX6_get 16 = .ok (.aload_n 3, 1) := by decide +kernel
theorem dX6_get_17 : decode cX6_get 17 = .ok (.iload_n 2, 1) := by decide +kernel
theorem dX6_get_18 : decode cX6_get 18 = .ok (.invokevirtual 245, 3) := by decide +kernel
theorem dX6_get_21 : decode cX6_get 21 = .ok (.lreturn, 1) := by decide +kernel
theorem dX6_move_0 : decode cX6_move 0 = .ok (.aload_n 0, 1) := by decide +kernel
theorem dX6_move_1 : decode cX6_move 1 = .ok (.iload_n 1, 1) := by decide +kernel
theorem dX6_move_2 : decode cX6_move 2 = .ok (.invokevirtual 228, 3) := by decide +kernel
theorem dX6_move_5 : decode cX6_move 5 = .ok (.astore 6, 2) := by decide +kernel
theorem dX6_move_7 : decode cX6_move 7 = .ok (.aload_n 0, 1) := by decide +kernel
theorem dX6_move_8 : decode cX6_move 8 = .ok (.iload_n 3, 1) := by decide +kernel
theorem dX6_move_9 : decode cX6_move 9 = .ok (.invokevirtual 228, 3) := by decide +kernel
theorem dX6_move_12 : decode cX6_move 12 = .ok (.astore 7, 2) := by decide +kernel
theorem dX6_move_14 : decode cX6_move 14 = .ok (.aload 6, 2) := by decide +kernel
theorem dX6_move_16 : decode cX6_move 16 = .ok (.ifnull 8, 3) := by decide +kernel
theorem dX6_move_19 : decode cX6_move 19 = .ok (.aload 7, 2) := by decide +kernel
theorem dX6_move_21 : decode cX6_move 21 = .ok (.ifnonnull 5, 3) := by decide +kernel
theorem dX6_move_24 : decode cX6_move 24 = .ok (.iconst (-1), 1) := by decide +kernel
theorem dX6_move_25 : decode cX6_move 25 = .ok (.ireturn, 1) := by decide +kernel
theorem dX6_move_26 : decode cX6_move 26 = .ok (.aload 6, 2) := by decide +kernel
theorem dX6_move_28 : decode cX6_move 28 = .ok (.getfield 235, 3) := by decide +kernel
theorem dX6_move_31 : decode cX6_move 31 = .ok (.ifCond .eq 11, 3) := by decide +kernel
theorem dX6_move_34 : decode cX6_move 34 = .ok (.aload 7, 2) := by decide +kernel
theorem dX6_move_36 : decode cX6_move 36 = .ok (.getfield 235, 3) := by decide +kernel
theorem dX6_move_39 : decode cX6_move 39 = .ok (.ifCond .ne 6, 3) := by decide +kernel
theorem dX6_move_42 : decode cX6_move 42 = .ok (.bipush (-11), 2) := by decide +kernel
theorem dX6_move_44 : decode cX6_move 44 = .ok (.ireturn, 1) := by decide +kernel
theorem dX6_move_45 : decode cX6_move 45 = .ok (.aload 6, 2) := by decide +kernel
theorem dX6_move_47 : decode cX6_move 47 = .ok (.iload_n 2, 1) := by decide +kernel
theorem dX6_move_48 : decode cX6_move 48 = .ok (.iload 5, 2) := by decide +kernel
theorem dX6_move_50 : decode cX6_move 50 = .ok (.invokevirtual 249, 3) := by decide +kernel
theorem dX6_move_53 : decode cX6_move 53 = .ok (.ifCond .eq 15, 3) := by decide +kernel
theorem dX6_move_56 : decode cX6_move 56 = .ok (.aload 7, 2) := by decide +kernel
theorem dX6_move_58 : decode cX6_move 58 = .ok (.iload 4, 2) := by decide +kernel
theorem dX6_move_60 : decode cX6_move 60 = .ok (.iload 5, 2) := by decide +kernel
theorem dX6_move_62 : decode cX6_move 62 = .ok (.invokevirtual 249, 3) := by decide +kernel
theorem dX6_move_65 : decode cX6_move 65 = .ok (.ifCond .ne 6, 3) := by decide +kernel
theorem dX6_move_68 : decode cX6_move 68 = .ok (.bipush (-13), 2) := by decide +kernel
theorem dX6_move_70 : decode cX6_move 70 = .ok (.ireturn, 1) := by decide +kernel
theorem dX6_move_71 : decode cX6_move 71 = .ok (.aload 6, 2) := by decide +kernel
theorem dX6_move_73 : decode cX6_move 73 = .ok (.getfield 252, 3) := by decide +kernel
theorem dX6_move_76 : decode cX6_move 76 = .ok (.iload_n 2, 1) := by decide +kernel
theorem dX6_move_77 : decode cX6_move 77 = .ok (.aload 7, 2) := by decide +kernel
theorem dX6_move_79 : decode cX6_move 79 = .ok (.getfield 252, 3) := by decide +kernel
theorem dX6_move_82 : decode cX6_move 82 = .ok (.iload 4, 2) := by decide +kernel
theorem dX6_move_84 : decode cX6_move 84 = .ok (.iload 5, 2) := by decide +kernel
theorem dX6_move_86 : decode cX6_move 86 = .ok (.invokestatic 256, 3) := by decide +kernel
theorem dX6_move_89 : decode cX6_move 89 = .ok (.iload 5, 2) := by decide +kernel
theorem dX6_move_91 : decode cX6_move 91 = .ok (.ireturn, 1) := by decide +kernel
theorem dX6_lay_0 : decode cX6_lay 0 = .ok (.aload_n 0, 1) := by decide +kernel
theorem dX6_lay_1 : decode cX6_lay 1 = .ok (.iload_n 1, 1) := by decide +kernel
theorem dX6_lay_2 : decode cX6_lay 2 = .ok (.invokevirtual 228, 3) := by decide +kernel
theorem dX6_lay_5 : decode cX6_lay 5 = .ok (.astore_n 3, 1) := by decide +kernel
theorem dX6_lay_6 : decode cX6_lay 6 = .ok (.aload_n 3, 1) := by decide +kernel
theorem dX6_lay_7 : decode cX6_lay 7 = .ok (.ifnonnull 5, 3) := by decide +kernel
theorem dX6_lay_10 : decode cX6_lay 10 = .ok (.iconst (-1), 1) := by decide +kernel
theorem dX6_lay_11 : decode cX6_lay 11 = .ok (.ireturn, 1) := by decide +kernel
theorem dX6_lay_12 : decode cX6_lay 12 = .ok (.aload_n 3, 1) := by decide +kernel
theorem dX6_lay_13 : decode cX6_lay 13 = .ok (.getfield 235, 3) := by decide +kernel
theorem dX6_lay_16 : decode cX6_lay 16 = .ok (.ifCond .ne 6, 3) := by decide +kernel
theorem dX6_lay_19 : decode cX6_lay 19 = .ok (.bipush (-11), 2) := by decide +kernel
theorem dX6_lay_21 : decode cX6_lay 21 = .ok (.ireturn, 1) := by decide +kernel
theorem dX6_lay_22 : decode cX6_lay 22 = .ok (.iconst 0, 1) := by decide +kernel
theorem dX6_lay_23 : decode cX6_lay 23 = .ok (.istore 4, 2) := by decide +kernel
theorem dX6_lay_25 : decode cX6_lay 25 = .ok (.iload 4, 2) := by decide +kernel
theorem dX6_lay_27 : decode cX6_lay 27 = .ok (.bipush 16, 2) := by decide +kernel
theorem dX6_lay_29 : decode cX6_lay 29 = .ok (.if_icmp .ge 36, 3) := by decide +kernel
theorem dX6_lay_32 : decode cX6_lay 32 = .ok (.aload_n 3, 1) := by decide +kernel
theorem dX6_lay_33 : decode cX6_lay 33 = .ok (.iload_n 2, 1) := by decide +kernel
theorem dX6_lay_34 : decode cX6_lay 34 = .ok (.iload 4, 2) := by decide +kernel
theorem dX6_lay_36 : decode cX6_lay 36 = .ok (.iadd, 1) := by decide +kernel
theorem dX6_lay_37 : decode cX6_lay 37 = .ok (.aload_n 0, 1) := by decide +kernel
theorem dX6_lay_38 : decode cX6_lay 38 = .ok (.getfield 25, 3) := by decide +kernel
theorem dX6_lay_41 : decode cX6_lay 41 = .ok (.bipush 8, 2) := by decide +kernel
theorem dX6_lay_43 : decode cX6_lay 43 = .ok (.iload 4, 2) := by decide +kernel
theorem dX6_lay_45 : decode cX6_lay 45 = .ok (.iadd, 1) := by decide +kernel
theorem dX6_lay_46 : decode cX6_lay 46 = .ok (.invokevirtual 133, 3) := by decide +kernel
theorem dX6_lay_49 : decode cX6_lay 49 = .ok (.i2l, 1) := by decide +kernel
theorem dX6_lay_50 : decode cX6_lay 50 = .ok (.invokevirtual 239, 3) := by decide +kernel
theorem dX6_lay_53 : decode cX6_lay 53 = .ok (.ifCond .ne 6, 3) := by decide +kernel
theorem dX6_lay_56 : decode cX6_lay 56 = .ok (.bipush (-13), 2) := by decide +kernel
theorem dX6_lay_58 : decode cX6_lay 58 = .ok (.ireturn, 1) := by decide +kernel
theorem dX6_lay_59 : decode cX6_lay 59 = .ok (.iinc 4 1, 3) := by decide +kernel
theorem dX6_lay_62 : decode cX6_lay 62 = .ok (.goto (-37), 3) := by decide +kernel
theorem dX6_lay_65 : decode cX6_lay 65 = .ok (.bipush 16, 2) := by decide +kernel
theorem dX6_lay_67 : decode cX6_lay 67 = .ok (.ireturn, 1) := by decide +kernel
theorem dX6_judge_0 : decode cX6_judge 0 = .ok (.aload_n 0, 1) := by decide +kernel
theorem dX6_judge_1 : decode cX6_judge 1 = .ok (.iload_n 1, 1) := by decide +kernel
theorem dX6_judge_2 : decode cX6_judge 2 = .ok (.invokevirtual 228, 3) := by decide +kernel
theorem dX6_judge_5 : decode cX6_judge 5 = .ok (.astore_n 3, 1) := by decide +kernel
theorem dX6_judge_6 : decode cX6_judge 6 = .ok (.aload_n 3, 1) := by decide +kernel
theorem dX6_judge_7 : decode cX6_judge 7 = .ok (.ifnonnull 5, 3) := by decide +kernel
theorem dX6_judge_10 : decode cX6_judge 10 = .ok (.iconst (-1), 1) := by decide +kernel
theorem dX6_judge_11 : decode cX6_judge 11 = .ok (.ireturn, 1) := by decide +kernel
theorem dX6_judge_12 : decode cX6_judge 12 = .ok (.aload_n 3, 1) := by decide +kernel
theorem dX6_judge_13 : decode cX6_judge 13 = .ok (.getfield 235, 3) := by decide +kernel
theorem dX6_judge_16 : decode cX6_judge 16 = .ok (.ifCond .ne 6, 3) := by decide +kernel
theorem dX6_judge_19 : decode cX6_judge 19 = .ok (.bipush (-11), 2) := by decide +kernel
theorem dX6_judge_21 : decode cX6_judge 21 = .ok (.ireturn, 1) := by decide +kernel
theorem dX6_judge_22 : decode cX6_judge 22 = .ok (.iconst 0, 1) := by decide +kernel
theorem dX6_judge_23 : decode cX6_judge 23 = .ok (.istore 4, 2) := by decide +kernel
theorem dX6_judge_25 : decode cX6_judge 25 = .ok (.iload 4, 2) := by decide +kernel
theorem dX6_judge_27 : decode cX6_judge 27 = .ok (.bipush 16, 2) := by decide +kernel
theorem dX6_judge_29 : decode cX6_judge 29 = .ok (.if_icmp .ge 54, 3) := by decide +kernel
theorem dX6_judge_32 : decode cX6_judge 32 = .ok (.aload_n 3, 1) := by decide +kernel
theorem dX6_judge_33 : decode cX6_judge 33 = .ok (.iload_n 2, 1) := by decide +kernel
theorem dX6_judge_34 : decode cX6_judge 34 = .ok (.iload 4, 2) := by decide +kernel
theorem dX6_judge_36 : decode cX6_judge 36 = .ok (.iadd, 1) := by decide +kernel
theorem dX6_judge_37 : decode cX6_judge 37 = .ok (.invokevirtual 262, 3) := by decide +kernel
theorem dX6_judge_40 : decode cX6_judge 40 = .ok (.ifCond .ne 9, 3) := by decide +kernel
theorem dX6_judge_43 : decode cX6_judge 43 = .ok (.bipush 100, 2) := by decide +kernel
theorem dX6_judge_45 : decode cX6_judge 45 = .ok (.iload 4, 2) := by decide +kernel
theorem dX6_judge_47 : decode cX6_judge 47 = .ok (.iadd, 1) := by decide +kernel
theorem dX6_judge_48 : decode cX6_judge 48 = .ok (.ireturn, 1) := by decide +kernel
theorem dX6_judge_49 : decode cX6_judge 49 = .ok (.aload_n 3, 1) := by decide +kernel
theorem dX6_judge_50 : decode cX6_judge 50 = .ok (.iload_n 2, 1) := by decide +kernel
theorem dX6_judge_51 : decode cX6_judge 51 = .ok (.iload 4, 2) := by decide +kernel
theorem dX6_judge_53 : decode cX6_judge 53 = .ok (.iadd, 1) := by decide +kernel
theorem dX6_judge_54 : decode cX6_judge 54 = .ok (.invokevirtual 245, 3) := by decide +kernel
theorem dX6_judge_57 : decode cX6_judge 57 = .ok (.aload_n 0, 1) := by decide +kernel
theorem dX6_judge_58 : decode cX6_judge 58 = .ok (.getfield 25, 3) := by decide +kernel
theorem dX6_judge_61 : decode cX6_judge 61 = .ok (.bipush 8, 2) := by decide +kernel
theorem dX6_judge_63 : decode cX6_judge 63 = .ok (.iload 4, 2) := by decide +kernel
theorem dX6_judge_65 : decode cX6_judge 65 = .ok (.iadd, 1) := by decide +kernel
theorem dX6_judge_66 : decode cX6_judge 66 = .ok (.invokevirtual 133, 3) := by decide +kernel
theorem dX6_judge_69 : decode cX6_judge 69 = .ok (.i2l, 1) := by decide +kernel
theorem dX6_judge_70 : decode cX6_judge 70 = .ok (.lcmp, 1) := by decide +kernel
theorem dX6_judge_71 : decode cX6_judge 71 = .ok (.ifCond .eq 6, 3) := by decide +kernel
theorem dX6_judge_74 : decode cX6_judge 74 = .ok (.iload 4, 2) := by decide +kernel
theorem dX6_judge_76 : decode cX6_judge 76 = .ok (.ireturn, 1) := by decide +kernel
theorem dX6_judge_77 : decode cX6_judge 77 = .ok (.iinc 4 1, 3) := by decide +kernel
theorem dX6_judge_80 : decode cX6_judge 80 = .ok (.goto (-55), 3) := by decide +kernel
theorem dX6_judge_83 : decode cX6_judge 83 = .ok (.bipush (-5), 2) := by decide +kernel
theorem dX6_judge_85 : decode cX6_judge 85 = .ok (.ireturn, 1) := by decide +kernel
theorem dX6_image_0 : decode cX6_image 0 = .ok (.aload_n 0, 1) := by decide +kernel
theorem dX6_image_1 : decode cX6_image 1 = .ok (.getfield 29, 3) := by decide +kernel
theorem dX6_image_4 : decode cX6_image 4 = .ok (.aload_n 0, 1) := by decide +kernel
theorem dX6_image_5 : decode cX6_image 5 = .ok (.getfield 25, 3) := by decide +kernel
theorem dX6_image_8 : decode cX6_image 8 = .ok (.invokevirtual 126, 3) := by decide +kernel
theorem dX6_image_11 : decode cX6_image 11 = .ok (.aload_n 0, 1) := by decide +kernel
theorem dX6_image_12 : decode cX6_image 12 = .ok (.iconst 1, 1) := by decide +kernel
theorem dX6_image_13 : decode cX6_image 13 = .ok (.putfield 265, 3) := by decide +kernel
theorem dX6_image_16 : decode cX6_image 16 = .ok (.aload_n 0, 1) := by decide +kernel
theorem dX6_image_17 : decode cX6_image 17 = .ok (.getfield 25, 3) := by decide +kernel
theorem dX6_image_20 : decode cX6_image 20 = .ok (.invokevirtual 213, 3) := by decide +kernel
theorem dX6_image_23 : decode cX6_image 23 = .ok (.ireturn, 1) := by decide +kernel
theorem dX6_undo_0 : decode cX6_undo 0 = .ok (.aload_n 0, 1) := by decide +kernel
theorem dX6_undo_1 : decode cX6_undo 1 = .ok (.getfield 265, 3) := by decide +kernel
theorem dX6_undo_4 : decode cX6_undo 4 = .ok (.ifCond .ne 6, 3) := by decide +kernel
theorem dX6_undo_7 : decode cX6_undo 7 = .ok (.bipush (-3), 2) := by decide +kernel
theorem dX6_undo_9 : decode cX6_undo 9 = .ok (.ireturn, 1) := by decide +kernel
theorem dX6_undo_10 : decode cX6_undo 10 = .ok (.aload_n 0, 1) := by decide +kernel
theorem dX6_undo_11 : decode cX6_undo 11 = .ok (.getfield 25, 3) := by decide +kernel
theorem dX6_undo_14 : decode cX6_undo 14 = .ok (.aload_n 0, 1) := by decide +kernel
theorem dX6_undo_15 : decode cX6_undo 15 = .ok (.getfield 29, 3) := by decide +kernel
theorem dX6_undo_18 : decode cX6_undo 18 = .ok (.invokevirtual 126, 3) := by decide +kernel
theorem dX6_undo_21 : decode cX6_undo 21 = .ok (.aload_n 0, 1) := by decide +kernel
theorem dX6_undo_22 : decode cX6_undo 22 = .ok (.getfield 14, 3) := by decide +kernel
theorem dX6_undo_25 : decode cX6_undo 25 = .ok (.invokevirtual 268, 3) := by decide +kernel
theorem dX6_undo_28 : decode cX6_undo 28 = .ok (.aload_n 0, 1) := by decide +kernel
theorem dX6_undo_29 : decode cX6_undo 29 = .ok (.getfield 25, 3) := by decide +kernel
theorem dX6_undo_32 : decode cX6_undo 32 = .ok (.invokevirtual 213, 3) := by decide +kernel
theorem dX6_undo_35 : decode cX6_undo 35 = .ok (.ireturn, 1) := by decide +kernel
theorem dX6_rowOf_0 : decode cX6_rowOf 0 = .ok (.iload_n 1, 1) := by decide +kernel
theorem dX6_rowOf_1 : decode cX6_rowOf 1 = .ok (.ifCond .lt 17, 3) := by decide +kernel
theorem dX6_rowOf_4 : decode cX6_rowOf 4 = .ok (.iload_n 1, 1) := by decide +kernel
theorem dX6_rowOf_5 : decode cX6_rowOf 5 = .ok (.iconst 4, 1) := by decide +kernel
theorem dX6_rowOf_6 : decode cX6_rowOf 6 = .ok (.if_icmp .ge 12, 3) := by decide +kernel
theorem dX6_rowOf_9 : decode cX6_rowOf 9 = .ok (.aload_n 0, 1) := by decide +kernel
theorem dX6_rowOf_10 : decode cX6_rowOf 10 = .ok (.getfield 41, 3) := by decide +kernel
theorem dX6_rowOf_13 : decode cX6_rowOf 13 = .ok (.iload_n 1, 1) := by decide +kernel
theorem dX6_rowOf_14 : decode cX6_rowOf 14 = .ok (.aaload, 1) := by decide +kernel
theorem dX6_rowOf_15 : decode cX6_rowOf 15 = .ok (.goto 4, 3) := by decide +kernel
theorem dX6_rowOf_18 : decode cX6_rowOf 18 = .ok (.aconst_null, 1) := by decide +kernel
theorem dX6_rowOf_19 : decode cX6_rowOf 19 = .ok (.areturn, 1) := by decide +kernel
theorem dX6_isInput_0 : decode cX6_isInput 0 = .ok (.iload_n 0, 1) := by decide +kernel
theorem dX6_isInput_1 : decode cX6_isInput 1 = .ok (.ifCond .lt 13, 3) := by decide +kernel
theorem dX6_isInput_4 : decode cX6_isInput 4 = .ok (.iload_n 0, 1) := by decide +kernel
theorem dX6_isInput_5 : decode cX6_isInput 5 = .ok (.bipush 8, 2) := by decide +kernel
theorem dX6_isInput_7 : decode cX6_isInput 7 = .ok (.if_icmp .ge 7, 3) := by decide +kernel
theorem dX6_isInput_10 : decode cX6_isInput 10 = .ok (.iconst 1, 1) := by decide +kernel
theorem dX6_isInput_11 : decode cX6_isInput 11 = .ok (.goto 4, 3) := by decide +kernel
theorem dX6_isInput_14 : decode cX6_isInput 14 = .ok (.iconst 0, 1) := by decide +kernel
theorem dX6_isInput_15 : decode cX6_isInput 15 = .ok (.ireturn, 1) := by decide +kernel
theorem dX6_isTarget_0 : decode cX6_isTarget 0 = .ok (.iload_n 0, 1) := by decide +kernel
theorem dX6_isTarget_1 : decode cX6_isTarget 1 = .ok (.bipush 8, 2) := by decide +kernel
theorem dX6_isTarget_3 : decode cX6_isTarget 3 = .ok (.if_icmp .lt 13, 3) := by decide +kernel
theorem dX6_isTarget_6 : decode cX6_isTarget 6 = .ok (.iload_n 0, 1) := by decide +kernel
theorem dX6_isTarget_7 : decode cX6_isTarget 7 = .ok (.bipush 24, 2) := by decide +kernel
theorem dX6_isTarget_9 : decode cX6_isTarget 9 = .ok (.if_icmp .ge 7, 3) := by decide +kernel
theorem dX6_isTarget_12 : decode cX6_isTarget 12 = .ok (.iconst 1, 1) := by decide +kernel
theorem dX6_isTarget_13 : decode cX6_isTarget 13 = .ok (.goto 4, 3) := by decide +kernel
theorem dX6_isTarget_16 : decode cX6_isTarget 16 = .ok (.iconst 0, 1) := by decide +kernel
theorem dX6_isTarget_17 : decode cX6_isTarget 17 = .ok (.ireturn, 1) := by decide +kernel
theorem dX6_isKey_0 : decode cX6_isKey 0 = .ok (.iload_n 0, 1) := by decide +kernel
theorem dX6_isKey_1 : decode cX6_isKey 1 = .ok (.ifCond .lt 13, 3) := by decide +kernel
theorem dX6_isKey_4 : decode cX6_isKey 4 = .ok (.iload_n 0, 1) := by decide +kernel
theorem dX6_isKey_5 : decode cX6_isKey 5 = .ok (.bipush 24, 2) := by decide +kernel
theorem dX6_isKey_7 : decode cX6_isKey 7 = .ok (.if_icmp .ge 7, 3) := by decide +kernel
theorem dX6_isKey_10 : decode cX6_isKey 10 = .ok (.iconst 1, 1) := by decide +kernel
theorem dX6_isKey_11 : decode cX6_isKey 11 = .ok (.goto 4, 3) := by decide +kernel
theorem dX6_isKey_14 : decode cX6_isKey 14 = .ok (.iconst 0, 1) := by decide +kernel
theorem dX6_isKey_15 : decode cX6_isKey 15 = .ok (.ireturn, 1) := by decide +kernel
theorem dX6_isContent_0 : decode cX6_isContent 0 = .ok (.lload_n 0, 1) := by decide +kernel
theorem dX6_isContent_1 : decode cX6_isContent 1 = .ok (.ldc2_w 271, 3) := by decide +kernel
theorem dX6_isContent_4 : decode cX6_isContent 4 = .ok (.lcmp, 1) := by decide +kernel
theorem dX6_isContent_5 : decode cX6_isContent 5 = .ok (.ifCond .lt 15, 3) := by decide +kernel
theorem dX6_isContent_8 : decode cX6_isContent 8 = .ok (.lload_n 0, 1) := by decide +kernel
theorem dX6_isContent_9 : decode cX6_isContent 9 = .ok (.ldc2_w 273, 3) := by decide +kernel
theorem dX6_isContent_12 : decode cX6_isContent 12 = .ok (.lcmp, 1) := by decide +kernel
theorem dX6_isContent_13 : decode cX6_isContent 13 = .ok (.ifCond .gt 7, 3) := by decide +kernel
theorem dX6_isContent_16 : decode cX6_isContent 16 = .ok (.iconst 1, 1) := by decide +kernel
theorem dX6_isContent_17 : decode cX6_isContent 17 = .ok (.goto 4, 3) := by decide +kernel
theorem dX6_isContent_20 : decode cX6_isContent 20 = .ok (.iconst 0, 1) := by decide +kernel
theorem dX6_isContent_21 : decode cX6_isContent 21 = .ok (.ireturn, 1) := by decide +kernel
theorem dX6_isStops_0 : decode cX6_isStops 0 = .ok (.iload_n 0, 1) := by decide +kernel
theorem dX6_isStops_1 : decode cX6_isStops 1 = .ok (.ifCond .eq 8, 3) := by decide +kernel
theorem dX6_isStops_4 : decode cX6_isStops 4 = .ok (.iload_n 0, 1) := by decide +kernel
theorem dX6_isStops_5 : decode cX6_isStops 5 = .ok (.iconst 1, 1) := by decide +kernel
theorem dX6_isStops_6 : decode cX6_isStops 6 = .ok (.if_icmp .ne 7, 3) := by decide +kernel
theorem dX6_isStops_9 : decode cX6_isStops 9 = .ok (.iconst 1, 1) := by decide +kernel
theorem dX6_isStops_10 : decode cX6_isStops 10 = .ok (.goto 4, 3) := by decide +kernel
theorem dX6_isStops_13 : decode cX6_isStops 13 = .ok (.iconst 0, 1) := by decide +kernel
theorem dX6_isStops_14 : decode cX6_isStops 14 = .ok (.ireturn, 1) := by decide +kernel
theorem dX6_asksForKey_0 : decode cX6_asksForKey 0 = .ok (.iload_n 0, 1) := by decide +kernel
theorem dX6_asksForKey_1 : decode cX6_asksForKey 1 = .ok (.bipush 43, 2) := by decide +kernel
theorem dX6_asksForKey_3 : decode cX6_asksForKey 3 = .ok (.if_icmp .eq 27, 3) := by decide +kernel
theorem dX6_asksForKey_6 : decode cX6_asksForKey 6 = .ok (.iload_n 0, 1) := by decide +kernel
theorem dX6_asksForKey_7 : decode cX6_asksForKey 7 = .ok (.bipush 45, 2) := by decide +kernel
theorem dX6_asksForKey_9 : decode cX6_asksForKey 9 = .ok (.if_icmp .eq 21, 3) := by decide +kernel
theorem dX6_asksForKey_12 : decode cX6_asksForKey 12 = .ok (.iload_n 0, 1) := by decide +kernel
theorem dX6_asksForKey_13 : decode cX6_asksForKey 13 = .ok (.bipush 42, 2) := by decide +kernel
theorem dX6_asksForKey_15 : decode cX6_asksForKey 15 = .ok (.if_icmp .eq 15, 3) := by decide +kernel
theorem dX6_asksForKey_18 : decode cX6_asksForKey 18 = .ok (.iload_n 0, 1) := by decide +kernel
theorem dX6_asksForKey_19 : decode cX6_asksForKey 19 = .ok (.bipush 47, 2) := by decide +kernel
theorem dX6_asksForKey_21 : decode cX6_asksForKey 21 = .ok (.if_icmp .eq 9, 3) := by decide +kernel
theorem dX6_asksForKey_24 : decode cX6_asksForKey 24 = .ok (.iload_n 0, 1) := by decide +kernel
theorem dX6_asksForKey_25 : decode cX6_asksForKey 25 = .ok (.bipush 38, 2) := by decide +kernel
theorem dX6_asksForKey_27 : decode cX6_asksForKey 27 = .ok (.if_icmp .ne 7, 3) := by decide +kernel
theorem dX6_asksForKey_30 : decode cX6_asksForKey 30 = .ok (.iconst 1, 1) := by decide +kernel
theorem dX6_asksForKey_31 : decode cX6_asksForKey 31 = .ok (.goto 4, 3) := by decide +kernel
theorem dX6_asksForKey_34 : decode cX6_asksForKey 34 = .ok (.iconst 0, 1) := by decide +kernel
theorem dX6_asksForKey_35 : decode cX6_asksForKey 35 = .ok (.ireturn, 1) := by decide +kernel
theorem dX6_isSign_0 : decode cX6_isSign 0 = .ok (.iload_n 0, 1) := by decide +kernel
theorem dX6_isSign_1 : decode cX6_isSign 1 = .ok (.invokestatic 275, 3) := by decide +kernel
theorem dX6_isSign_4 : decode cX6_isSign 4 = .ok (.ifCond .ne 33, 3) := by decide +kernel
theorem dX6_isSign_7 : decode cX6_isSign 7 = .ok (.iload_n 0, 1) := by decide +kernel
theorem dX6_isSign_8 : decode cX6_isSign 8 = .ok (.bipush 61, 2) := by decide +kernel
theorem dX6_isSign_10 : decode cX6_isSign 10 = .ok (.if_icmp .eq 27, 3) := by decide +kernel
theorem dX6_isSign_13 : decode cX6_isSign 13 = .ok (.iload_n 0, 1) := by decide +kernel
theorem dX6_isSign_14 : decode cX6_isSign 14 = .ok (.bipush 37, 2) := by decide +kernel
theorem dX6_isSign_16 : decode cX6_isSign 16 = .ok (.if_icmp .eq 21, 3) := by decide +kernel
theorem dX6_isSign_19 : decode cX6_isSign 19 = .ok (.iload_n 0, 1) := by decide +kernel
theorem dX6_isSign_20 : decode cX6_isSign 20 = .ok (.bipush 33, 2) := by decide +kernel
theorem dX6_isSign_22 : decode cX6_isSign 22 = .ok (.if_icmp .eq 15, 3) := by decide +kernel
theorem dX6_isSign_25 : decode cX6_isSign 25 = .ok (.iload_n 0, 1) := by decide +kernel
theorem dX6_isSign_26 : decode cX6_isSign 26 = .ok (.bipush 63, 2) := by decide +kernel
theorem dX6_isSign_28 : decode cX6_isSign 28 = .ok (.if_icmp .eq 9, 3) := by decide +kernel
theorem dX6_isSign_31 : decode cX6_isSign 31 = .ok (.iload_n 0, 1) := by decide +kernel
theorem dX6_isSign_32 : decode cX6_isSign 32 = .ok (.bipush 94, 2) := by decide +kernel
theorem dX6_isSign_34 : decode cX6_isSign 34 = .ok (.if_icmp .ne 7, 3) := by decide +kernel
theorem dX6_isSign_37 : decode cX6_isSign 37 = .ok (.iconst 1, 1) := by decide +kernel
theorem dX6_isSign_38 : decode cX6_isSign 38 = .ok (.goto 4, 3) := by decide +kernel
theorem dX6_isSign_41 : decode cX6_isSign 41 = .ok (.iconst 0, 1) := by decide +kernel
theorem dX6_isSign_42 : decode cX6_isSign 42 = .ok (.ireturn, 1) := by decide +kernel
theorem dX6_isFigure_0 : decode cX6_isFigure 0 = .ok (.iload_n 0, 1) := by decide +kernel
theorem dX6_isFigure_1 : decode cX6_isFigure 1 = .ok (.bipush 48, 2) := by decide +kernel
theorem dX6_isFigure_3 : decode cX6_isFigure 3 = .ok (.if_icmp .lt 13, 3) := by decide +kernel
theorem dX6_isFigure_6 : decode cX6_isFigure 6 = .ok (.iload_n 0, 1) := by decide +kernel
theorem dX6_isFigure_7 : decode cX6_isFigure 7 = .ok (.bipush 57, 2) := by decide +kernel
theorem dX6_isFigure_9 : decode cX6_isFigure 9 = .ok (.if_icmp .gt 7, 3) := by decide +kernel
theorem dX6_isFigure_12 : decode cX6_isFigure 12 = .ok (.iconst 1, 1) := by decide +kernel
theorem dX6_isFigure_13 : decode cX6_isFigure 13 = .ok (.goto 4, 3) := by decide +kernel
theorem dX6_isFigure_16 : decode cX6_isFigure 16 = .ok (.iconst 0, 1) := by decide +kernel
theorem dX6_isFigure_17 : decode cX6_isFigure 17 = .ok (.ireturn, 1) := by decide +kernel
