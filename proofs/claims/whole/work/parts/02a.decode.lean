theorem dX0_init_0 : decode cX0_init 0 = .ok (.aload_n 0, 1) := by decide +kernel
theorem dX0_init_1 : decode cX0_init 1 = .ok (.iload_n 1, 1) := by decide +kernel
theorem dX0_init_2 : decode cX0_init 2 = .ok (.iload_n 2, 1) := by decide +kernel
theorem dX0_init_3 : decode cX0_init 3 = .ok (.invokespecial 3, 3) := by decide +kernel
theorem dX0_init_6 : decode cX0_init 6 = .ok (.return_, 1) := by decide +kernel
theorem dX0_kind_0 : decode cX0_kind 0 = .ok (.iconst 2, 1) := by decide +kernel
theorem dX0_kind_1 : decode cX0_kind 1 = .ok (.ireturn, 1) := by decide +kernel
theorem dX0_bears_0 : decode cX0_bears 0 = .ok (.iconst 0, 1) := by decide +kernel
theorem dX0_bears_1 : decode cX0_bears 1 = .ok (.ireturn, 1) := by decide +kernel
theorem dX0_doesConfess_0 : decode cX0_doesConfess 0 = .ok (.iconst 0, 1) := by decide +kernel
theorem dX0_doesConfess_1 : decode cX0_doesConfess 1 = .ok (.ireturn, 1) := by decide +kernel
theorem dX1_init_0 : decode cX1_init 0 = .ok (.aload_n 0, 1) := by decide +kernel
theorem dX1_init_1 : decode cX1_init 1 = .ok (.invokespecial 1, 3) := by decide +kernel
theorem dX1_init_4 : decode cX1_init 4 = .ok (.aload_n 0, 1) := by decide +kernel
theorem dX1_init_5 : decode cX1_init 5 = .ok (.iload_n 1, 1) := by decide +kernel
theorem dX1_init_6 : decode cX1_init 6 = .ok (.putfield 7, 3) := by decide +kernel
theorem dX1_init_9 : decode cX1_init 9 = .ok (.aload_n 0, 1) := by decide +kernel
theorem dX1_init_10 : decode cX1_init 10 = .ok (.iload_n 2, 1) := by decide +kernel
theorem dX1_init_11 : decode cX1_init 11 = .ok (.putfield 13, 3) := by decide +kernel
theorem dX1_init_14 : decode cX1_init 14 = .ok (.aload_n 0, 1) := by decide +kernel
theorem dX1_init_15 : decode cX1_init 15 = .ok (.iload_n 3, 1) := by decide +kernel
theorem dX1_init_16 : decode cX1_init 16 = .ok (.putfield 16, 3) := by decide +kernel
theorem dX1_init_19 : decode cX1_init 19 = .ok (.return_, 1) := by decide +kernel
theorem dX2_init_0 : decode cX2_init 0 = .ok (.aload_n 0, 1) := by decide +kernel
theorem dX2_init_1 : decode cX2_init 1 = .ok (.iload_n 1, 1) := by decide +kernel
theorem dX2_init_2 : decode cX2_init 2 = .ok (.iload_n 2, 1) := by decide +kernel
theorem dX2_init_3 : decode cX2_init 3 = .ok (.invokespecial 3, 3) := by decide +kernel
theorem dX2_init_6 : decode cX2_init 6 = .ok (.return_, 1) := by decide +kernel
theorem dX2_kind_0 : decode cX2_kind 0 = .ok (.iconst 3, 1) := by decide +kernel
theorem dX2_kind_1 : decode cX2_kind 1 = .ok (.ireturn, 1) := by decide +kernel
theorem dX2_counted_0 : decode cX2_counted 0 = .ok (.iload_n 1, 1) := by decide +kernel
theorem dX2_counted_1 : decode cX2_counted 1 = .ok (.iconst 1, 1) := by decide +kernel
theorem dX2_counted_2 : decode cX2_counted 2 = .ok (.iadd, 1) := by decide +kernel
theorem dX2_counted_3 : decode cX2_counted 3 = .ok (.ireturn, 1) := by decide +kernel
theorem dX3_init_0 : decode cX3_init 0 = .ok (.aload_n 0, 1) := by decide +kernel
theorem dX3_init_1 : decode cX3_init 1 = .ok (.invokespecial 3, 3) := by decide +kernel
theorem dX3_init_4 : decode cX3_init 4 = .ok (.aload_n 0, 1) := by decide +kernel
theorem dX3_init_5 : decode cX3_init 5 = .ok (.iload_n 1, 1) := by decide +kernel
theorem dX3_init_6 : decode cX3_init 6 = .ok (.putfield 9, 3) := by decide +kernel
theorem dX3_init_9 : decode cX3_init 9 = .ok (.aload_n 0, 1) := by decide +kernel
theorem dX3_init_10 : decode cX3_init 10 = .ok (.iload_n 2, 1) := by decide +kernel
theorem dX3_init_11 : decode cX3_init 11 = .ok (.putfield 15, 3) := by decide +kernel
theorem dX3_init_14 : decode cX3_init 14 = .ok (.return_, 1) := by decide +kernel
theorem dX3_kind_0 : decode cX3_kind 0 = .ok (.iconst 0, 1) := by decide +kernel
theorem dX3_kind_1 : decode cX3_kind 1 = .ok (.ireturn, 1) := by decide +kernel
theorem dX3_bears_0 : decode cX3_bears 0 = .ok (.iconst 1, 1) := by decide +kernel
theorem dX3_bears_1 : decode cX3_bears 1 = .ok (.ireturn, 1) := by decide +kernel
theorem dX3_counted_0 : decode cX3_counted 0 = .ok (.iload_n 1, 1) := by decide +kernel
theorem dX3_counted_1 : decode cX3_counted 1 = .ok (.ireturn, 1) := by decide +kernel
theorem dX3_hasHandLike_0 : decode cX3_hasHandLike 0 = .ok (.aload_n 0, 1) := by decide +kernel
theorem dX3_hasHandLike_1 : decode cX3_hasHandLike 1 = .ok (.getfield 15, 3) := by decide +kernel
theorem dX3_hasHandLike_4 : decode cX3_hasHandLike 4 = .ok (.iload_n 1, 1) := by decide +kernel
theorem dX3_hasHandLike_5 : decode cX3_hasHandLike 5 = .ok (.if_icmp .ne 7, 3) := by decide +kernel
theorem dX3_hasHandLike_8 : decode cX3_hasHandLike 8 = .ok (.iconst 1, 1) := by decide +kernel
theorem dX3_hasHandLike_9 : decode cX3_hasHandLike 9 = .ok (.goto 4, 3) := by decide +kernel
theorem dX3_hasHandLike_12 : decode cX3_hasHandLike 12 = .ok (.iconst 0, 1) := by decide +kernel
theorem dX3_hasHandLike_13 : decode cX3_hasHandLike 13 = .ok (.ireturn, 1) := by decide +kernel
theorem dX3_doesConfess_0 : decode cX3_doesConfess 0 = .ok (.iconst 1, 1) := by decide +kernel
theorem dX3_doesConfess_1 : decode cX3_doesConfess 1 = .ok (.ireturn, 1) := by decide +kernel
theorem dX3_wouldFit_0 : decode cX3_wouldFit 0 = .ok (.aload_n 0, 1) := by decide +kernel
theorem dX3_wouldFit_1 : decode cX3_wouldFit 1 = .ok (.iload_n 3, 1) := by decide +kernel
theorem dX3_wouldFit_2 : decode cX3_wouldFit 2 = .ok (.invokevirtual 18, 3) := by decide +kernel
theorem dX3_wouldFit_5 : decode cX3_wouldFit 5 = .ok (.ifCond .eq 24, 3) := by decide +kernel
theorem dX3_wouldFit_8 : decode cX3_wouldFit 8 = .ok (.iload_n 2, 1) := by decide +kernel
theorem dX3_wouldFit_9 : decode cX3_wouldFit 9 = .ok (.aload_n 0, 1) := by decide +kernel
theorem dX3_wouldFit_10 : decode cX3_wouldFit 10 = .ok (.iload_n 1, 1) := by decide +kernel
theorem dX3_wouldFit_11 : decode cX3_wouldFit 11 = .ok (.invokevirtual 22, 3) := by decide +kernel
theorem dX3_wouldFit_14 : decode cX3_wouldFit 14 = .ok (.isub, 1) := by decide +kernel
theorem dX3_wouldFit_15 : decode cX3_wouldFit 15 = .ok (.invokestatic 26, 3) := by decide +kernel
theorem dX3_wouldFit_18 : decode cX3_wouldFit 18 = .ok (.aload_n 0, 1) := by decide +kernel
theorem dX3_wouldFit_19 : decode cX3_wouldFit 19 = .ok (.invokevirtual 31, 3) := by decide +kernel
theorem dX3_wouldFit_22 : decode cX3_wouldFit 22 = .ok (.if_icmp .gt 7, 3) := by decide +kernel
theorem dX3_wouldFit_25 : decode cX3_wouldFit 25 = .ok (.iconst 1, 1) := by decide +kernel
theorem dX3_wouldFit_26 : decode cX3_wouldFit 26 = .ok (.goto 4, 3) := by decide +kernel
theorem dX3_wouldFit_29 : decode cX3_wouldFit 29 = .ok (.iconst 0, 1) := by decide +kernel
theorem dX3_wouldFit_30 : decode cX3_wouldFit 30 = .ok (.ireturn, 1) := by decide +kernel
theorem dX4_init_0 : decode cX4_init 0 = .ok (.aload_n 0, 1) := by decide +kernel
theorem dX4_init_1 : decode cX4_init 1 = .ok (.invokespecial 3, 3) := by decide +kernel
theorem dX4_init_4 : decode cX4_init 4 = .ok (.aload_n 0, 1) := by decide +kernel
theorem dX4_init_5 : decode cX4_init 5 = .ok (.iconst 4, 1) := by decide +kernel
theorem dX4_init_6 : decode cX4_init 6 = .ok (.newarray .int, 2) := by decide +kernel
theorem dX4_init_8 : decode cX4_init 8 = .ok (.putfield 9, 3) := by decide +kernel
theorem dX4_init_11 : decode cX4_init 11 = .ok (.aload_n 0, 1) := by decide +kernel
theorem dX4_init_12 : decode cX4_init 12 = .ok (.iconst 4, 1) := by decide +kernel
theorem dX4_init_13 : decode cX4_init 13 = .ok (.newarray .int, 2) := by decide +kernel
theorem dX4_init_15 : decode cX4_init 15 = .ok (.putfield 15, 3) := by decide +kernel
theorem dX4_init_18 : decode cX4_init 18 = .ok (.aload_n 0, 1) := by decide +kernel
theorem dX4_init_19 : decode cX4_init 19 = .ok (.iconst 4, 1) := by decide +kernel
theorem dX4_init_20 : decode cX4_init 20 = .ok (.newarray .int, 2) := by decide +kernel
theorem dX4_init_22 : decode cX4_init 22 = .ok (.putfield 18, 3) := by decide +kernel
theorem dX4_init_25 : decode cX4_init 25 = .ok (.aload_n 0, 1) := by decide +kernel
theorem dX4_init_26 : decode cX4_init 26 = .ok (.iconst 4, 1) := by decide +kernel
theorem dX4_init_27 : decode cX4_init 27 = .ok (.newarray .int, 2) := by decide +kernel
theorem dX4_init_29 : decode cX4_init 29 = .ok (.putfield 21, 3) := by decide +kernel
theorem dX4_init_32 : decode cX4_init 32 = .ok (.return_, 1) := by decide +kernel
theorem dX4_begin_0 : decode cX4_begin 0 = .ok (.aload_n 0, 1) := by decide +kernel
theorem dX4_begin_1 : decode cX4_begin 1 = .ok (.iload_n 1, 1) := by decide +kernel
theorem dX4_begin_2 : decode cX4_begin 2 = .ok (.iconst 4, 1) := by decide +kernel
theorem dX4_begin_3 : decode cX4_begin 3 = .ok (.invokestatic 24, 3) := by decide +kernel
theorem dX4_begin_6 : decode cX4_begin 6 = .ok (.putfield 30, 3) := by decide +kernel
theorem dX4_begin_9 : decode cX4_begin 9 = .ok (.aload_n 0, 1) := by decide +kernel
theorem dX4_begin_10 : decode cX4_begin 10 = .ok (.iconst (-1), 1) := by decide +kernel
theorem dX4_begin_11 : decode cX4_begin 11 = .ok (.putfield 34, 3) := by decide +kernel
theorem dX4_begin_14 : decode cX4_begin 14 = .ok (.aload_n 0, 1) := by decide +kernel
theorem dX4_begin_15 : decode cX4_begin 15 = .ok (.iconst (-1), 1) := by decide +kernel
theorem dX4_begin_16 : decode cX4_begin 16 = .ok (.putfield 37, 3) := by decide +kernel
theorem dX4_begin_19 : decode cX4_begin 19 = .ok (.iconst 0, 1) := by decide +kernel
theorem dX4_begin_20 : decode cX4_begin 20 = .ok (.istore_n 2, 1) := by decide +kernel
theorem dX4_begin_21 : decode cX4_begin 21 = .ok (.iload_n 2, 1) := by decide +kernel
theorem dX4_begin_22 : decode cX4_begin 22 = .ok (.iconst 4, 1) := by decide +kernel
theorem dX4_begin_23 : decode cX4_begin 23 = .ok (.if_icmp .ge 30, 3) := by decide +kernel
theorem dX4_begin_26 : decode cX4_begin 26 = .ok (.aload_n 0, 1) := by decide +kernel
theorem dX4_begin_27 : decode cX4_begin 27 = .ok (.getfield 9, 3) := by decide +kernel
theorem dX4_begin_30 : decode cX4_begin 30 = .ok (.iload_n 2, 1) := by decide +kernel
theorem dX4_begin_31 : decode cX4_begin 31 = .ok (.iconst 0, 1) := by decide +kernel
theorem dX4_begin_32 : decode cX4_begin 32 = .ok (.iastore, 1) := by decide +kernel
theorem dX4_begin_33 : decode cX4_begin 33 = .ok (.aload_n 0, 1) := by decide +kernel
theorem dX4_begin_34 : decode cX4_begin 34 = .ok (.getfield 18, 3) := by decide +kernel
theorem dX4_begin_37 : decode cX4_begin 37 = .ok (.iload_n 2, 1) := by decide +kernel
theorem dX4_begin_38 : decode cX4_begin 38 = .ok (.iconst (-1), 1) := by decide +kernel
theorem dX4_begin_39 : decode cX4_begin 39 = .ok (.iastore, 1) := by decide +kernel
theorem dX4_begin_40 : decode cX4_begin 40 = .ok (.aload_n 0, 1) := by decide +kernel
theorem dX4_begin_41 : decode cX4_begin 41 = .ok (.getfield 21, 3) := by decide +kernel
theorem dX4_begin_44 : decode cX4_begin 44 = .ok (.iload_n 2, 1) := by decide +kernel
theorem dX4_begin_45 : decode cX4_begin 45 = .ok (.iconst (-1), 1) := by decide +kernel
theorem dX4_begin_46 : decode cX4_begin 46 = .ok (.iastore, 1) := by decide +kernel
theorem dX4_begin_47 : decode cX4_begin 47 = .ok (.iinc 2 1, 3) := by decide +kernel
theorem dX4_begin_50 : decode cX4_begin 50 = .ok (.goto (-29), 3) := by decide +kernel
theorem dX4_begin_53 : decode cX4_begin 53 = .ok (.return_, 1) := by decide +kernel
theorem dX4_allow_0 : decode cX4_allow 0 = .ok (.iload_n 1, 1) := by decide +kernel
theorem dX4_allow_1 : decode cX4_allow 1 = .ok (.ifCond .lt 24, 3) := by decide +kernel
theorem dX4_allow_4 : decode cX4_allow 4 = .ok (.iload_n 1, 1) := by decide +kernel
theorem dX4_allow_5 : decode cX4_allow 5 = .ok (.aload_n 0, 1) := by decide +kernel
theorem dX4_allow_6 : decode cX4_allow 6 = .ok (.getfield 9, 3) := by decide +kernel
theorem dX4_allow_9 : decode cX4_allow 9 = .ok (.arraylength, 1) := by decide +kernel
theorem dX4_allow_10 : decode cX4_allow 10 = .ok (.if_icmp .ge 15, 3) := by decide +kernel
theorem dX4_allow_13 : decode cX4_allow 13 = .ok (.aload_n 0, 1) := by decide +kernel
theorem dX4_allow_14 : decode cX4_allow 14 = .ok (.getfield 9, 3) := by decide +kernel
theorem dX4_allow_17 : decode cX4_allow 17 = .ok (.iload_n 1, 1) := by decide +kernel
theorem dX4_allow_18 : decode cX4_allow 18 = .ok (.dup2, 1) := by decide +kernel
theorem dX4_allow_19 : decode cX4_allow 19 = .ok (.iaload, 1) := by decide +kernel
theorem dX4_allow_20 : decode cX4_allow 20 = .ok (.iconst 1, 1) := by decide +kernel
theorem dX4_allow_21 : decode cX4_allow 21 = .ok (.iload_n 2, 1) := by decide +kernel
theorem dX4_allow_22 : decode cX4_allow 22 = .ok (.ishl, 1) := by decide +kernel
theorem dX4_allow_23 : decode cX4_allow 23 = .ok (.ior, 1) := by decide +kernel
theorem dX4_allow_24 : decode cX4_allow 24 = .ok (.iastore, 1) := by decide +kernel
theorem dX4_allow_25 : decode cX4_allow 25 = .ok (.return_, 1) := by decide +kernel
theorem dX4_reward_0 : decode cX4_reward 0 = .ok (.iload_n 1, 1) := by decide +kernel
theorem dX4_reward_1 : decode cX4_reward 1 = .ok (.ifCond .lt 19, 3) := by decide +kernel
theorem dX4_reward_4 : decode cX4_reward 4 = .ok (.iload_n 1, 1) := by decide +kernel
theorem dX4_reward_5 : decode cX4_reward 5 = .ok (.aload_n 0, 1) := by decide +kernel
theorem dX4_reward_6 : decode cX4_reward 6 = .ok (.getfield 15, 3) := by decide +kernel
theorem dX4_reward_9 : decode cX4_reward 9 = .ok (.arraylength, 1) := by decide +kernel
theorem dX4_reward_10 : decode cX4_reward 10 = .ok (.if_icmp .ge 10, 3) := by decide +kernel
theorem dX4_reward_13 : decode cX4_reward 13 = .ok (.aload_n 0, 1) := by decide +kernel
theorem dX4_reward_14 : decode cX4_reward 14 = .ok (.getfield 15, 3) := by decide +kernel
theorem dX4_reward_17 : decode cX4_reward 17 = .ok (.iload_n 1, 1) := by decide +kernel
theorem dX4_reward_18 : decode cX4_reward 18 = .ok (.iload_n 2, 1) := by decide +kernel
theorem dX4_reward_19 : decode cX4_reward 19 = .ok (.iastore, 1) := by decide +kernel
theorem dX4_reward_20 : decode cX4_reward 20 = .ok (.return_, 1) := by decide +kernel
theorem dX4_find_0 : decode cX4_find 0 = .ok (.aload_n 0, 1) := by decide +kernel
theorem dX4_find_1 : decode cX4_find 1 = .ok (.iconst 0, 1) := by decide +kernel
theorem dX4_find_2 : decode cX4_find 2 = .ok (.iconst 0, 1) := by decide +kernel
theorem dX4_find_3 : decode cX4_find 3 = .ok (.iconst 0, 1) := by decide +kernel
theorem dX4_find_4 : decode cX4_find 4 = .ok (.iconst 0, 1) := by decide +kernel
theorem dX4_find_5 : decode cX4_find 5 = .ok (.invokestatic 40, 3) := by decide +kernel
theorem dX4_find_8 : decode cX4_find 8 = .ok (.return_, 1) := by decide +kernel
theorem dX4_bestOn_0 : decode cX4_bestOn 0 = .ok (.iload_n 1, 1) := by decide +kernel
theorem dX4_bestOn_1 : decode cX4_bestOn 1 = .ok (.ifCond .lt 21, 3) := by decide +kernel
theorem dX4_bestOn_4 : decode cX4_bestOn 4 = .ok (.iload_n 1, 1) := by decide +kernel
theorem dX4_bestOn_5 : decode cX4_bestOn 5 = .ok (.aload_n 0, 1) := by decide +kernel
theorem dX4_bestOn_6 : decode cX4_bestOn 6 = .ok (.getfield 21, 3) := by decide +kernel
theorem dX4_bestOn_9 : decode cX4_bestOn 9 = .ok (.arraylength, 1) := by decide +kernel
theorem dX4_bestOn_10 : decode cX4_bestOn 10 = .ok (.if_icmp .ge 12, 3) := by decide +kernel
theorem dX4_bestOn_13 : decode cX4_bestOn 13 = .ok (.aload_n 0, 1) := by decide +kernel
theorem dX4_bestOn_14 : decode cX4_bestOn 14 = .ok (.getfield 21, 3) := by decide +kernel
theorem dX4_bestOn_17 : decode cX4_bestOn 17 = .ok (.iload_n 1, 1) := by decide +kernel
theorem dX4_bestOn_18 : decode cX4_bestOn 18 = .ok (.iaload, 1) := by decide +kernel
theorem dX4_bestOn_19 : decode cX4_bestOn 19 = .ok (.goto 4, 3) := by decide +kernel
theorem dX4_bestOn_22 : decode cX4_bestOn 22 = .ok (.iconst (-1), 1) := by decide +kernel
theorem dX4_bestOn_23 : decode cX4_bestOn 23 = .ok (.ireturn, 1) := by decide +kernel
theorem dX4_choose_0 : decode cX4_choose 0 = .ok (.iload_n 1, 1) := by decide +kernel
theorem dX4_choose_1 : decode cX4_choose 1 = .ok (.ifCond .lt 20, 3) := by decide +kernel
theorem dX4_choose_4 : decode cX4_choose 4 = .ok (.iload_n 1, 1) := by decide +kernel
theorem dX4_choose_5 : decode cX4_choose 5 = .ok (.aload_n 0, 1) := by decide +kernel
theorem dX4_choose_6 : decode cX4_choose 6 = .ok (.getfield 30, 3) := by decide +kernel
theorem dX4_choose_9 : decode cX4_choose 9 = .ok (.if_icmp .ge 12, 3) := by decide +kernel
theorem dX4_choose_12 : decode cX4_choose 12 = .ok (.iload_n 1, 1) := by decide +kernel
theorem dX4_choose_13 : decode cX4_choose 13 = .ok (.aload_n 0, 1) := by decide +kernel
theorem dX4_choose_14 : decode cX4_choose 14 = .ok (.getfield 18, 3) := by decide +kernel
theorem dX4_choose_17 : decode cX4_choose 17 = .ok (.arraylength, 1) := by decide +kernel
theorem dX4_choose_18 : decode cX4_choose 18 = .ok (.if_icmp .lt 11, 3) := by decide +kernel
theorem dX4_choose_21 : decode cX4_choose 21 = .ok (.aload_n 0, 1) := by decide +kernel
theorem dX4_choose_22 : decode cX4_choose 22 = .ok (.iload_n 3, 1) := by decide +kernel
theorem dX4_choose_23 : decode cX4_choose 23 = .ok (.iload 4, 2) := by decide +kernel
theorem dX4_choose_25 : decode cX4_choose 25 = .ok (.invokevirtual 44, 3) := by decide +kernel
theorem dX4_choose_28 : decode cX4_choose 28 = .ok (.return_, 1) := by decide +kernel
theorem dX4_choose_29 : decode cX4_choose 29 = .ok (.aload_n 0, 1) := by decide +kernel
theorem dX4_choose_30 : decode cX4_choose 30 = .ok (.getfield 18, 3) := by decide +kernel
theorem dX4_choose_33 : decode cX4_choose 33 = .ok (.iload_n 1, 1) := by decide +kernel
theorem dX4_choose_34 : decode cX4_choose 34 = .ok (.iconst (-1), 1) := by decide +kernel
theorem dX4_choose_35 : decode cX4_choose 35 = .ok (.iastore, 1) := by decide +kernel
theorem dX4_choose_36 : decode cX4_choose 36 = .ok (.aload_n 0, 1) := by decide +kernel
theorem dX4_choose_37 : decode cX4_choose 37 = .ok (.iload_n 1, 1) := by decide +kernel
theorem dX4_choose_38 : decode cX4_choose 38 = .ok (.iconst 1, 1) := by decide +kernel
theorem dX4_choose_39 : decode cX4_choose 39 = .ok (.iadd, 1) := by decide +kernel
theorem dX4_choose_40 : decode cX4_choose 40 = .ok (.iload_n 2, 1) := by decide +kernel
theorem dX4_choose_41 : decode cX4_choose 41 = .ok (.iload_n 3, 1) := by decide +kernel
theorem dX4_choose_42 : decode cX4_choose 42 = .ok (.iload 4, 2) := by decide +kernel
theorem dX4_choose_44 : decode cX4_choose 44 = .ok (.invokestatic 40, 3) := by decide +kernel
theorem dX4_choose_47 : decode cX4_choose 47 = .ok (.aload_n 0, 1) := by decide +kernel
theorem dX4_choose_48 : decode cX4_choose 48 = .ok (.getfield 9, 3) := by decide +kernel
theorem dX4_choose_51 : decode cX4_choose 51 = .ok (.iload_n 1, 1) := by decide +kernel
theorem dX4_choose_52 : decode cX4_choose 52 = .ok (.iaload, 1) := by decide +kernel
theorem dX4_choose_53 : decode cX4_choose 53 = .ok (.iload_n 2, 1) := by decide +kernel
theorem dX4_choose_54 : decode cX4_choose 54 = .ok (.iconst (-1), 1) := by decide +kernel
theorem dX4_choose_55 : decode cX4_choose 55 = .ok (.ixor, 1) := by decide +kernel
theorem dX4_choose_56 : decode cX4_choose 56 = .ok (.iand, 1) := by decide +kernel
theorem dX4_choose_57 : decode cX4_choose 57 = .ok (.istore 5, 2) := by decide +kernel
theorem dX4_choose_59 : decode cX4_choose 59 = .ok (.iconst 0, 1) := by decide +kernel
theorem dX4_choose_60 : decode cX4_choose 60 = .ok (.istore 6, 2) := by decide +kernel
theorem dX4_choose_62 : decode cX4_choose 62 = .ok (.iload 6, 2) := by decide +kernel
theorem dX4_choose_64 : decode cX4_choose 64 = .ok (.aload_n 0, 1) := by decide +kernel
theorem dX4_choose_65 : decode cX4_choose 65 = .ok (.getfield 15, 3) := by decide +kernel
theorem dX4_choose_68 : decode cX4_choose 68 = .ok (.arraylength, 1) := by decide +kernel
theorem dX4_choose_69 : decode cX4_choose 69 = .ok (.if_icmp .ge 56, 3) := by decide +kernel
theorem dX4_choose_72 : decode cX4_choose 72 = .ok (.iload 5, 2) := by decide +kernel
theorem dX4_choose_74 : decode cX4_choose 74 = .ok (.iload 6, 2) := by decide +kernel
theorem dX4_choose_76 : decode cX4_choose 76 = .ok (.ishr, 1) := by decide +kernel
theorem dX4_choose_77 : decode cX4_choose 77 = .ok (.iconst 1, 1) := by decide +kernel
theorem dX4_choose_78 : decode cX4_choose 78 = .ok (.iand, 1) := by decide +kernel
theorem dX4_choose_79 : decode cX4_choose 79 = .ok (.ifCond .ne 6, 3) := by decide +kernel
theorem dX4_choose_82 : decode cX4_choose 82 = .ok (.goto 37, 3) := by decide +kernel
theorem dX4_choose_85 : decode cX4_choose 85 = .ok (.aload_n 0, 1) := by decide +kernel
theorem dX4_choose_86 : decode cX4_choose 86 = .ok (.getfield 18, 3) := by decide +kernel
theorem dX4_choose_89 : decode cX4_choose 89 = .ok (.iload_n 1, 1) := by decide +kernel
theorem dX4_choose_90 : decode cX4_choose 90 = .ok (.iload 6, 2) := by decide +kernel
theorem dX4_choose_92 : decode cX4_choose 92 = .ok (.iastore, 1) := by decide +kernel
theorem dX4_choose_93 : decode cX4_choose 93 = .ok (.aload_n 0, 1) := by decide +kernel
theorem dX4_choose_94 : decode cX4_choose 94 = .ok (.iload_n 1, 1) := by decide +kernel
theorem dX4_choose_95 : decode cX4_choose 95 = .ok (.iconst 1, 1) := by decide +kernel
theorem dX4_choose_96 : decode cX4_choose 96 = .ok (.iadd, 1) := by decide +kernel
theorem dX4_choose_97 : decode cX4_choose 97 = .ok (.iload_n 2, 1) := by decide +kernel
theorem dX4_choose_98 : decode cX4_choose 98 = .ok (.iconst 1, 1) := by decide +kernel
theorem dX4_choose_99 : decode cX4_choose 99 = .ok (.iload 6, 2) := by decide +kernel
theorem dX4_choose_101 : decode cX4_choose 101 = .ok (.ishl, 1) := by decide +kernel
theorem dX4_choose_102 : decode cX4_choose 102 = .ok (.ior, 1) := by decide +kernel
theorem dX4_choose_103 : decode cX4_choose 103 = .ok (.iload_n 3, 1) := by decide +kernel
theorem dX4_choose_104 : decode cX4_choose 104 = .ok (.iconst 1, 1) := by decide +kernel
theorem dX4_choose_105 : decode cX4_choose 105 = .ok (.iadd, 1) := by decide +kernel
theorem dX4_choose_106 : decode cX4_choose 106 = .ok (.iload 4, 2) := by decide +kernel
theorem dX4_choose_108 : decode cX4_choose 108 = .ok (.aload_n 0, 1) := by decide +kernel
theorem dX4_choose_109 : decode cX4_choose 109 = .ok (.getfield 15, 3) := by decide +kernel
theorem dX4_choose_112 : decode cX4_choose 112 = .ok (.iload 6, 2) := by decide +kernel
theorem dX4_choose_114 : decode cX4_choose 114 = .ok (.iaload, 1) := by decide +kernel
theorem dX4_choose_115 : decode cX4_choose 115 = .ok (.iadd, 1) := by decide +kernel
theorem dX4_choose_116 : decode cX4_choose 116 = .ok (.invokestatic 40, 3) := by decide +kernel
theorem dX4_choose_119 : decode cX4_choose 119 = .ok (.iinc 6 1, 3) := by decide +kernel
theorem dX4_choose_122 : decode cX4_choose 122 = .ok (.goto (-60), 3) := by decide +kernel
theorem dX4_choose_125 : decode cX4_choose 125 = .ok (.return_, 1) := by decide +kernel
theorem dX4_keepIfBetter_0 : decode cX4_keepIfBetter 0 = .ok (.iload_n 1, 1) := by decide +kernel
theorem dX4_keepIfBetter_1 : decode cX4_keepIfBetter 1 = .ok (.aload_n 0, 1) := by decide +kernel
theorem dX4_keepIfBetter_2 : decode cX4_keepIfBetter 2 = .ok (.getfield 34, 3) := by decide +kernel
theorem dX4_keepIfBetter_5 : decode cX4_keepIfBetter 5 = .ok (.if_icmp .lt 19, 3) := by decide +kernel
theorem dX4_keepIfBetter_8 : decode cX4_keepIfBetter 8 = .ok (.iload_n 1, 1) := by decide +kernel
theorem dX4_keepIfBetter_9 : decode cX4_keepIfBetter 9 = .ok (.aload_n 0, 1) := by decide +kernel
theorem dX4_keepIfBetter_10 : decode cX4_keepIfBetter 10 = .ok (.getfield 34, 3) := by decide +kernel
theorem dX4_keepIfBetter_13 : decode cX4_keepIfBetter 13 = .ok (.if_icmp .ne 12, 3) := by decide +kernel
theorem dX4_keepIfBetter_16 : decode cX4_keepIfBetter 16 = .ok (.iload_n 2, 1) := by decide +kernel
theorem dX4_keepIfBetter_17 : decode cX4_keepIfBetter 17 = .ok (.aload_n 0, 1) := by decide +kernel
theorem dX4_keepIfBetter_18 : decode cX4_keepIfBetter 18 = .ok (.getfield 37, 3) := by decide +kernel
theorem dX4_keepIfBetter_21 : decode cX4_keepIfBetter 21 = .ok (.if_icmp .gt 4, 3) := by decide +kernel
theorem dX4_keepIfBetter_24 : decode cX4_keepIfBetter 24 = .ok (.return_, 1) := by decide +kernel
theorem dX4_keepIfBetter_25 : decode cX4_keepIfBetter 25 = .ok (.aload_n 0, 1) := by decide +kernel
theorem dX4_keepIfBetter_26 : decode cX4_keepIfBetter 26 = .ok (.iload_n 1, 1) := by decide +kernel
theorem dX4_keepIfBetter_27 : decode cX4_keepIfBetter 27 = .ok (.putfield 34, 3) := by decide +kernel
theorem dX4_keepIfBetter_30 : decode cX4_keepIfBetter 30 = .ok (.aload_n 0, 1) := by decide +kernel
theorem dX4_keepIfBetter_31 : decode cX4_keepIfBetter 31 = .ok (.iload_n 2, 1) := by decide +kernel
theorem dX4_keepIfBetter_32 : decode cX4_keepIfBetter 32 = .ok (.putfield 37, 3) := by decide +kernel
theorem dX4_keepIfBetter_35 : decode cX4_keepIfBetter 35 = .ok (.iconst 0, 1) := by decide +kernel
theorem dX4_keepIfBetter_36 : decode cX4_keepIfBetter 36 = .ok (.istore_n 3, 1) := by decide +kernel
theorem dX4_keepIfBetter_37 : decode cX4_keepIfBetter 37 = .ok (.iload_n 3, 1) := by decide +kernel
theorem dX4_keepIfBetter_38 : decode cX4_keepIfBetter 38 = .ok (.aload_n 0, 1) := by decide +kernel
theorem dX4_keepIfBetter_39 : decode cX4_keepIfBetter 39 = .ok (.getfield 21, 3) := by decide +kernel
theorem dX4_keepIfBetter_42 : decode cX4_keepIfBetter 42 = .ok (.arraylength, 1) := by decide +kernel
theorem dX4_keepIfBetter_43 : decode cX4_keepIfBetter 43 = .ok (.if_icmp .ge 30, 3) := by decide +kernel
theorem dX4_keepIfBetter_46 : decode cX4_keepIfBetter 46 = .ok (.iload_n 3, 1) := by decide +kernel
theorem dX4_keepIfBetter_47 : decode cX4_keepIfBetter 47 = .ok (.aload_n 0, 1) := by decide +kernel
theorem dX4_keepIfBetter_48 : decode cX4_keepIfBetter 48 = .ok (.getfield 18, 3) := by decide +kernel
theorem dX4_keepIfBetter_51 : decode cX4_keepIfBetter 51 = .ok (.arraylength, 1) := by decide +kernel
theorem dX4_keepIfBetter_52 : decode cX4_keepIfBetter 52 = .ok (.if_icmp .ge 21, 3) := by decide +kernel
theorem dX4_keepIfBetter_55 : decode cX4_keepIfBetter 55 = .ok (.aload_n 0, 1) := by decide +kernel
theorem dX4_keepIfBetter_56 : decode cX4_keepIfBetter 56 = .ok (.getfield 21, 3) := by decide +kernel
theorem dX4_keepIfBetter_59 : decode cX4_keepIfBetter 59 = .ok (.iload_n 3, 1) := by decide +kernel
theorem dX4_keepIfBetter_60 : decode cX4_keepIfBetter 60 = .ok (.aload_n 0, 1) := by decide +kernel
theorem dX4_keepIfBetter_61 : decode cX4_keepIfBetter 61 = .ok (.getfield 18, 3) := by decide +kernel
theorem dX4_keepIfBetter_64 : decode cX4_keepIfBetter 64 = .ok (.iload_n 3, 1) := by decide +kernel
theorem dX4_keepIfBetter_65 : decode cX4_keepIfBetter 65 = .ok (.iaload, 1) := by decide +kernel
theorem dX4_keepIfBetter_66 : decode cX4_keepIfBetter 66 = .ok (.iastore, 1) := by decide +kernel
theorem dX4_keepIfBetter_67 : decode cX4_keepIfBetter 67 = .ok (.iinc 3 1, 3) := by decide +kernel
theorem dX4_keepIfBetter_70 : decode cX4_keepIfBetter 70 = .ok (.goto (-33), 3) := by decide +kernel
theorem dX4_keepIfBetter_73 : decode cX4_keepIfBetter 73 = .ok (.return_, 1) := by decide +kernel
theorem dX5_init_0 : decode cX5_init 0 = .ok (.aload_n 0, 1) := by decide +kernel
theorem dX5_init_1 : decode cX5_init 1 = .ok (.invokespecial 3, 3) := by decide +kernel
theorem dX5_init_4 : decode cX5_init 4 = .ok (.aload_n 0, 1) := by decide +kernel
theorem dX5_init_5 : decode cX5_init 5 = .ok (.bipush 30, 2) := by decide +kernel
theorem dX5_init_7 : decode cX5_init 7 = .ok (.newarray .int, 2) := by decide +kernel
theorem dX5_init_9 : decode cX5_init 9 = .ok (.putfield 9, 3) := by decide +kernel
theorem dX5_init_12 : decode cX5_init 12 = .ok (.return_, 1) := by decide +kernel
theorem dX5_length_0 : decode cX5_length 0 = .ok (.aload_n 0, 1) := by decide +kernel
theorem dX5_length_1 : decode cX5_length 1 = .ok (.getfield 15, 3) := by decide +kernel
theorem dX5_length_4 : decode cX5_length 4 = .ok (.ireturn, 1) := by decide +kernel
theorem dX5_isFull_0 : decode cX5_isFull 0 = .ok (.aload_n 0, 1) := by decide +kernel
theorem dX5_isFull_1 : decode cX5_isFull 1 = .ok (.getfield 15, 3) := by decide +kernel
theorem dX5_isFull_4 : decode cX5_isFull 4 = .ok (.aload_n 0, 1) := by decide +kernel
theorem dX5_isFull_5 : decode cX5_isFull 5 = .ok (.getfield 9, 3) := by decide +kernel
theorem dX5_isFull_8 : decode cX5_isFull 8 = .ok (.arraylength, 1) := by decide +kernel
theorem dX5_isFull_9 : decode cX5_isFull 9 = .ok (.if_icmp .lt 7, 3) := by decide +kernel
theorem dX5_isFull_12 : decode cX5_isFull 12 = .ok (.iconst 1, 1) := by decide +kernel
theorem dX5_isFull_13 : decode cX5_isFull 13 = .ok (.goto 4, 3) := by decide +kernel
theorem dX5_isFull_16 : decode cX5_isFull 16 = .ok (.iconst 0, 1) := by decide +kernel
theorem dX5_isFull_17 : decode cX5_isFull 17 = .ok (.ireturn, 1) := by decide +kernel
theorem dX5_add_0 : decode cX5_add 0 = .ok (.aload_n 0, 1) := by decide +kernel
theorem dX5_add_1 : decode cX5_add 1 = .ok (.getfield 15, 3) := by decide +kernel
theorem dX5_add_4 : decode cX5_add 4 = .ok (.ifCond .lt 15, 3) := by decide +kernel
theorem dX5_add_7 : decode cX5_add 7 = .ok (.aload_n 0, 1) := by decide +kernel
theorem dX5_add_8 : decode cX5_add 8 = .ok (.getfield 15, 3) := by decide +kernel
theorem dX5_add_11 : decode cX5_add 11 = .ok (.aload_n 0, 1) := by decide +kernel
theorem dX5_add_12 : decode cX5_add 12 = .ok (.getfield 9, 3) := by decide +kernel
theorem dX5_add_15 : decode cX5_add 15 = .ok (.arraylength, 1) := by decide +kernel
theorem dX5_add_16 : decode cX5_add 16 = .ok (.if_icmp .lt 4, 3) := by decide +kernel
theorem dX5_add_19 : decode cX5_add 19 = .ok (.return_, 1) := by decide +kernel
theorem dX5_add_20 : decode cX5_add 20 = .ok (.aload_n 0, 1) := by decide +kernel
theorem dX5_add_21 : decode cX5_add 21 = .ok (.getfield 9, 3) := by decide +kernel
theorem dX5_add_24 : decode cX5_add 24 = .ok (.aload_n 0, 1) := by decide +kernel
theorem dX5_add_25 : decode cX5_add 25 = .ok (.getfield 15, 3) := by decide +kernel
theorem dX5_add_28 : decode cX5_add 28 = .ok (.iload_n 1, 1) := by decide +kernel
theorem dX5_add_29 : decode cX5_add 29 = .ok (.iastore, 1) := by decide +kernel
theorem dX5_add_30 : decode cX5_add 30 = .ok (.aload_n 0, 1) := by decide +kernel
theorem dX5_add_31 : decode cX5_add 31 = .ok (.dup, 1) := by decide +kernel
theorem dX5_add_32 : decode cX5_add 32 = .ok (.getfield 15, 3) := by decide +kernel
theorem dX5_add_35 : decode cX5_add 35 = .ok (.iconst 1, 1) := by decide +kernel
theorem dX5_add_36 : decode cX5_add 36 = .ok (.iadd, 1) := by decide +kernel
theorem dX5_add_37 : decode cX5_add 37 = .ok (.putfield 15, 3) := by decide +kernel
theorem dX5_add_40 : decode cX5_add 40 = .ok (.return_, 1) := by decide +kernel
theorem dX5_clear_0 : decode cX5_clear 0 = .ok (.aload_n 0, 1) := by decide +kernel
theorem dX5_clear_1 : decode cX5_clear 1 = .ok (.iconst 0, 1) := by decide +kernel
theorem dX5_clear_2 : decode cX5_clear 2 = .ok (.putfield 15, 3) := by decide +kernel
theorem dX5_clear_5 : decode cX5_clear 5 = .ok (.return_, 1) := by decide +kernel
theorem dX5_codeAt_0 : decode cX5_codeAt 0 = .ok (.iload_n 1, 1) := by decide +kernel
theorem dX5_codeAt_1 : decode cX5_codeAt 1 = .ok (.ifCond .lt 29, 3) := by decide +kernel
theorem dX5_codeAt_4 : decode cX5_codeAt 4 = .ok (.iload_n 1, 1) := by decide +kernel
theorem dX5_codeAt_5 : decode cX5_codeAt 5 = .ok (.aload_n 0, 1) := by decide +kernel
theorem dX5_codeAt_6 : decode cX5_codeAt 6 = .ok (.getfield 15, 3) := by decide +kernel
theorem dX5_codeAt_9 : decode cX5_codeAt 9 = .ok (.if_icmp .ge 21, 3) := by decide +kernel
theorem dX5_codeAt_12 : decode cX5_codeAt 12 = .ok (.iload_n 1, 1) := by decide +kernel
theorem dX5_codeAt_13 : decode cX5_codeAt 13 = .ok (.aload_n 0, 1) := by decide +kernel
theorem dX5_codeAt_14 : decode cX5_codeAt 14 = .ok (.getfield 9, 3) := by decide +kernel
theorem dX5_codeAt_17 : decode cX5_codeAt 17 = .ok (.arraylength, 1) := by decide +kernel
theorem dX5_codeAt_18 : decode cX5_codeAt 18 = .ok (.if_icmp .ge 12, 3) := by decide +kernel
theorem dX5_codeAt_21 : decode cX5_codeAt 21 = .ok (.aload_n 0, 1) := by decide +kernel
theorem dX5_codeAt_22 : decode cX5_codeAt 22 = .ok (.getfield 9, 3) := by decide +kernel
theorem dX5_codeAt_25 : decode cX5_codeAt 25 = .ok (.iload_n 1, 1) := by decide +kernel
theorem dX5_codeAt_26 : decode cX5_codeAt 26 = .ok (.iaload, 1) := by decide +kernel
theorem dX5_codeAt_27 : decode cX5_codeAt 27 = .ok (.goto 4, 3) := by decide +kernel
theorem dX5_codeAt_30 : decode cX5_codeAt 30 = .ok (.iconst (-1), 1) := by decide +kernel
theorem dX5_codeAt_31 : decode cX5_codeAt 31 = .ok (.ireturn, 1) := by decide +kernel
theorem dX5_digitAt_0 : decode cX5_digitAt 0 = .ok (.aload_n 0, 1) := by decide +kernel
theorem dX5_digitAt_1 : decode cX5_digitAt 1 = .ok (.iload_n 1, 1) := by decide +kernel
theorem dX5_digitAt_2 : decode cX5_digitAt 2 = .ok (.invokevirtual 19, 3) := by decide +kernel
theorem dX5_digitAt_5 : decode cX5_digitAt 5 = .ok (.bipush 48, 2) := by decide +kernel
theorem dX5_digitAt_7 : decode cX5_digitAt 7 = .ok (.isub, 1) := by decide +kernel
theorem dX5_digitAt_8 : decode cX5_digitAt 8 = .ok (.ireturn, 1) := by decide +kernel
theorem dX5_semicolon_0 : decode cX5_semicolon 0 = .ok (.iconst 0, 1) := by decide +kernel
theorem dX5_semicolon_1 : decode cX5_semicolon 1 = .ok (.istore_n 1, 1) := by decide +kernel
theorem dX5_semicolon_2 : decode cX5_semicolon 2 = .ok (.iload_n 1, 1) := by decide +kernel
theorem dX5_semicolon_3 : decode cX5_semicolon 3 = .ok (.aload_n 0, 1) := by decide +kernel
theorem dX5_semicolon_4 : decode cX5_semicolon 4 = .ok (.getfield 15, 3) := by decide +kernel
theorem dX5_semicolon_7 : decode cX5_semicolon 7 = .ok (.if_icmp .ge 21, 3) := by decide +kernel
theorem dX5_semicolon_10 : decode cX5_semicolon 10 = .ok (.aload_n 0, 1) := by decide +kernel
theorem dX5_semicolon_11 : decode cX5_semicolon 11 = .ok (.iload_n 1, 1) := by decide +kernel
theorem dX5_semicolon_12 : decode cX5_semicolon 12 = .ok (.invokevirtual 19, 3) := by decide +kernel
theorem dX5_semicolon_15 : decode cX5_semicolon 15 = .ok (.bipush 59, 2) := by decide +kernel
theorem dX5_semicolon_17 : decode cX5_semicolon 17 = .ok (.if_icmp .ne 5, 3) := by decide +kernel
theorem dX5_semicolon_20 : decode cX5_semicolon 20 = .ok (.iload_n 1, 1) := by decide +kernel
theorem dX5_semicolon_21 : decode cX5_semicolon 21 = .ok (.ireturn, 1) := by decide +kernel
theorem dX5_semicolon_22 : decode cX5_semicolon 22 = .ok (.iinc 1 1, 3) := by decide +kernel
theorem dX5_semicolon_25 : decode cX5_semicolon 25 = .ok (.goto (-23), 3) := by decide +kernel
theorem dX5_semicolon_28 : decode cX5_semicolon 28 = .ok (.aload_n 0, 1) := by decide +kernel
theorem dX5_semicolon_29 : decode cX5_semicolon 29 = .ok (.getfield 15, 3) := by decide +kernel
theorem dX5_semicolon_32 : decode cX5_semicolon 32 = .ok (.ireturn, 1) := by decide +kernel
theorem dX5_firstFault_0 : decode cX5_firstFault 0 = .ok (.aload_n 0, 1) := by decide +kernel
theorem dX5_firstFault_1 : decode cX5_firstFault 1 = .ok (.invokevirtual 23, 3) := by decide +kernel
theorem dX5_firstFault_4 : decode cX5_firstFault 4 = .ok (.istore_n 1, 1) := by decide +kernel
theorem dX5_firstFault_5 : decode cX5_firstFault 5 = .ok (.iconst 0, 1) := by decide +kernel
theorem dX5_firstFault_6 : decode cX5_firstFault 6 = .ok (.istore_n 2, 1) := by decide +kernel
theorem dX5_firstFault_7 : decode cX5_firstFault 7 = .ok (.iload_n 2, 1) := by decide +kernel
theorem dX5_firstFault_8 : decode cX5_firstFault 8 = .ok (.aload_n 0, 1) := by decide +kernel
theorem dX5_firstFault_9 : decode cX5_firstFault 9 = .ok (.getfield 15, 3) := by decide +kernel
theorem dX5_firstFault_12 : decode cX5_firstFault 12 = .ok (.if_icmp .ge 46, 3) := by decide +kernel
theorem dX5_firstFault_15 : decode cX5_firstFault 15 = .ok (.iload_n 2, 1) := by decide +kernel
theorem dX5_firstFault_16 : decode cX5_firstFault 16 = .ok (.iload_n 1, 1) := by decide +kernel
theorem dX5_firstFault_17 : decode cX5_firstFault 17 = .ok (.if_icmp .gt 15, 3) := by decide +kernel
theorem dX5_firstFault_20 : decode cX5_firstFault 20 = .ok (.aload_n 0, 1) := by decide +kernel
theorem dX5_firstFault_21 : decode cX5_firstFault 21 = .ok (.iload_n 2, 1) := by decide +kernel
theorem dX5_firstFault_22 : decode cX5_firstFault 22 = .ok (.invokevirtual 19, 3) := by decide +kernel
theorem dX5_firstFault_25 : decode cX5_firstFault 25 = .ok (.iload_n 2, 1) := by decide +kernel
theorem dX5_firstFault_26 : decode cX5_firstFault 26 = .ok (.invokestatic 27, 3) := by decide +kernel
theorem dX5_firstFault_29 : decode cX5_firstFault 29 = .ok (.goto 16, 3) := by decide +kernel
theorem dX5_firstFault_32 : decode cX5_firstFault 32 = .ok (.aload_n 0, 1) := by decide +kernel
theorem dX5_firstFault_33 : decode cX5_firstFault 33 = .ok (.iload_n 2, 1) := by decide +kernel
theorem dX5_firstFault_34 : decode cX5_firstFault 34 = .ok (.invokevirtual 19, 3) := by decide +kernel
theorem dX5_firstFault_37 : decode cX5_firstFault 37 = .ok (.iload_n 2, 1) := by decide +kernel
theorem dX5_firstFault_38 : decode cX5_firstFault 38 = .ok (.iload_n 1, 1) := by decide +kernel
theorem dX5_firstFault_39 : decode cX5_firstFault 39 = .ok (.isub, 1) := by decide +kernel
theorem dX5_firstFault_40 : decode cX5_firstFault 40 = .ok (.iconst 1, 1) := by decide +kernel
theorem dX5_firstFault_41 : decode cX5_firstFault 41 = .ok (.isub, 1) := by decide +kernel
theorem dX5_firstFault_42 : decode cX5_firstFault 42 = .ok (.invokestatic 31, 3) := by decide +kernel
theorem dX5_firstFault_45 : decode cX5_firstFault 45 = .ok (.istore_n 3, 1) := by decide +kernel
theorem dX5_firstFault_46 : decode cX5_firstFault 46 = .ok (.iload_n 3, 1) := by decide +kernel
theorem dX5_firstFault_47 : decode cX5_firstFault 47 = .ok (.ifCond .ne 5, 3) := by decide +kernel
theorem dX5_firstFault_50 : decode cX5_firstFault 50 = .ok (.iload_n 2, 1) := by decide +kernel
theorem dX5_firstFault_51 : decode cX5_firstFault 51 = .ok (.ireturn, 1) := by decide +kernel
theorem dX5_firstFault_52 : decode cX5_firstFault 52 = .ok (.iinc 2 1, 3) := by decide +kernel
theorem dX5_firstFault_55 : decode cX5_firstFault 55 = .ok (.goto (-48), 3) := by decide +kernel
theorem dX5_firstFault_58 : decode cX5_firstFault 58 = .ok (.aload_n 0, 1) := by decide +kernel
theorem dX5_firstFault_59 : decode cX5_firstFault 59 = .ok (.getfield 15, 3) := by decide +kernel
theorem dX5_firstFault_62 : decode cX5_firstFault 62 = .ok (.ireturn, 1) := by decide +kernel
theorem dX5_isStation_0 : decode cX5_isStation 0 = .ok (.aload_n 0, 1) := by decide +kernel
theorem dX5_isStation_1 : decode cX5_isStation 1 = .ok (.getfield 15, 3) := by decide +kernel
theorem dX5_isStation_4 : decode cX5_isStation 4 = .ok (.aload_n 0, 1) := by decide +kernel
theorem dX5_isStation_5 : decode cX5_isStation 5 = .ok (.invokevirtual 23, 3) := by decide +kernel
theorem dX5_isStation_8 : decode cX5_isStation 8 = .ok (.isub, 1) := by decide +kernel
theorem dX5_isStation_9 : decode cX5_isStation 9 = .ok (.iconst 1, 1) := by decide +kernel
theorem dX5_isStation_10 : decode cX5_isStation 10 = .ok (.isub, 1) := by decide +kernel
theorem dX5_isStation_11 : decode cX5_isStation 11 = .ok (.istore_n 1, 1) := by decide +kernel
theorem dX5_isStation_12 : decode cX5_isStation 12 = .ok (.aload_n 0, 1) := by decide +kernel
theorem dX5_isStation_13 : decode cX5_isStation 13 = .ok (.invokevirtual 34, 3) := by decide +kernel
theorem dX5_isStation_16 : decode cX5_isStation 16 = .ok (.aload_n 0, 1) := by decide +kernel
theorem dX5_isStation_17 : decode cX5_isStation 17 = .ok (.getfield 15, 3) := by decide +kernel
theorem dX5_isStation_20 : decode cX5_isStation 20 = .ok (.if_icmp .ne 17, 3) := by decide +kernel
theorem dX5_isStation_23 : decode cX5_isStation 23 = .ok (.iload_n 1, 1) := by decide +kernel
theorem dX5_isStation_24 : decode cX5_isStation 24 = .ok (.ifCond .le 13, 3) := by decide +kernel
theorem dX5_isStation_27 : decode cX5_isStation 27 = .ok (.iload_n 1, 1) := by decide +kernel
theorem dX5_isStation_28 : decode cX5_isStation 28 = .ok (.iconst 3, 1) := by decide +kernel
theorem dX5_isStation_29 : decode cX5_isStation 29 = .ok (.irem, 1) := by decide +kernel
theorem dX5_isStation_30 : decode cX5_isStation 30 = .ok (.ifCond .ne 7, 3) := by decide +kernel
theorem dX5_isStation_33 : decode cX5_isStation 33 = .ok (.iconst 1, 1) := by decide +kernel
theorem dX5_isStation_34 : decode cX5_isStation 34 = .ok (.goto 4, 3) := by decide +kernel
theorem dX5_isStation_37 : decode cX5_isStation 37 = .ok (.iconst 0, 1) := by decide +kernel
theorem dX5_isStation_38 : decode cX5_isStation 38 = .ok (.ireturn, 1) := by decide +kernel
theorem dX5_isOfPeople_0 : decode cX5_isOfPeople 0 = .ok (.iload_n 1, 1) := by decide +kernel
theorem dX5_isOfPeople_1 : decode cX5_isOfPeople 1 = .ok (.iconst 4, 1) := by decide +kernel
theorem dX5_isOfPeople_2 : decode cX5_isOfPeople 2 = .ok (.idiv, 1) := by decide +kernel
theorem dX5_isOfPeople_3 : decode cX5_isOfPeople 3 = .ok (.iconst 1, 1) := by decide +kernel
theorem dX5_isOfPeople_4 : decode cX5_isOfPeople 4 = .ok (.iadd, 1) := by decide +kernel
theorem dX5_isOfPeople_5 : decode cX5_isOfPeople 5 = .ok (.istore_n 2, 1) := by decide +kernel
theorem dX5_isOfPeople_6 : decode cX5_isOfPeople 6 = .ok (.iload_n 1, 1) := by decide +kernel
theorem dX5_isOfPeople_7 : decode cX5_isOfPeople 7 = .ok (.iconst 4, 1) := by decide +kernel
theorem dX5_isOfPeople_8 : decode cX5_isOfPeople 8 = .ok (.irem, 1) := by decide +kernel
theorem dX5_isOfPeople_9 : decode cX5_isOfPeople 9 = .ok (.tableswitch 47 0 2 #[27, 32, 40], 27) := by decide +kernel
theorem dX5_isOfPeople_36 : decode cX5_isOfPeople 36 = .ok (.iload_n 0, 1) := by decide +kernel
theorem dX5_isOfPeople_37 : decode cX5_isOfPeople 37 = .ok (.invokestatic 37, 3) := by decide +kernel
theorem dX5_isOfPeople_40 : decode cX5_isOfPeople 40 = .ok (.ireturn, 1) := by decide +kernel
theorem dX5_isOfPeople_41 : decode cX5_isOfPeople 41 = .ok (.iload_n 0, 1) := by decide +kernel
theorem dX5_isOfPeople_42 : decode cX5_isOfPeople 42 = .ok (.iconst 1, 1) := by decide +kernel
theorem dX5_isOfPeople_43 : decode cX5_isOfPeople 43 = .ok (.bipush 9, 2) := by decide +kernel
theorem dX5_isOfPeople_45 : decode cX5_isOfPeople 45 = .ok (.invokestatic 41, 3) := by decide +kernel
theorem dX5_isOfPeople_48 : decode cX5_isOfPeople 48 = .ok (.ireturn, 1) := by decide +kernel
theorem dX5_isOfPeople_49 : decode cX5_isOfPeople 49 = .ok (.iload_n 0, 1) := by decide +kernel
theorem dX5_isOfPeople_50 : decode cX5_isOfPeople 50 = .ok (.iconst 0, 1) := by decide +kernel
theorem dX5_isOfPeople_51 : decode cX5_isOfPeople 51 = .ok (.iconst 3, 1) := by decide +kernel
theorem dX5_isOfPeople_52 : decode cX5_isOfPeople 52 = .ok (.invokestatic 41, 3) := by decide +kernel
theorem dX5_isOfPeople_55 : decode cX5_isOfPeople 55 = .ok (.ireturn, 1) := by decide +kernel
theorem dX5_isOfPeople_56 : decode cX5_isOfPeople 56 = .ok (.iload_n 0, 1) := by decide +kernel
theorem dX5_isOfPeople_57 : decode cX5_isOfPeople 57 = .ok (.bipush 44, 2) := by decide +kernel
theorem dX5_isOfPeople_59 : decode cX5_isOfPeople 59 = .ok (.if_icmp .ne 8, 3) := by decide +kernel
theorem dX5_isOfPeople_62 : decode cX5_isOfPeople 62 = .ok (.iload_n 2, 1) := by decide +kernel
theorem dX5_isOfPeople_63 : decode cX5_isOfPeople 63 = .ok (.iconst 4, 1) := by decide +kernel
theorem dX5_isOfPeople_64 : decode cX5_isOfPeople 64 = .ok (.if_icmp .lt 19, 3) := by decide +kernel
theorem dX5_isOfPeople_67 : decode cX5_isOfPeople 67 = .ok (.iload_n 0, 1) := by decide +kernel
theorem dX5_isOfPeople_68 : decode cX5_isOfPeople 68 = .ok (.bipush 59, 2) := by decide +kernel
theorem dX5_isOfPeople_70 : decode cX5_isOfPeople 70 = .ok (.if_icmp .ne 17, 3) := by decide +kernel
theorem dX5_isOfPeople_73 : decode cX5_isOfPeople 73 = .ok (.iload_n 2, 1) := by decide +kernel
theorem dX5_isOfPeople_74 : decode cX5_isOfPeople 74 = .ok (.iconst 2, 1) := by decide +kernel
theorem dX5_isOfPeople_75 : decode cX5_isOfPeople 75 = .ok (.if_icmp .lt 12, 3) := by decide +kernel
theorem dX5_isOfPeople_78 : decode cX5_isOfPeople 78 = .ok (.iload_n 2, 1) := by decide +kernel
theorem dX5_isOfPeople_79 : decode cX5_isOfPeople 79 = .ok (.iconst 4, 1) := by decide +kernel
theorem dX5_isOfPeople_80 : decode cX5_isOfPeople 80 = .ok (.if_icmp .gt 7, 3) := by decide +kernel
theorem dX5_isOfPeople_83 : decode cX5_isOfPeople 83 = .ok (.iconst 1, 1) := by decide +kernel
theorem dX5_isOfPeople_84 : decode cX5_isOfPeople 84 = .ok (.goto 4, 3) := by decide +kernel
theorem dX5_isOfPeople_87 : decode cX5_isOfPeople 87 = .ok (.iconst 0, 1) := by decide +kernel
theorem dX5_isOfPeople_88 : decode cX5_isOfPeople 88 = .ok (.ireturn, 1) := by decide +kernel
theorem dX5_isOfCrimes_0 : decode cX5_isOfCrimes 0 = .ok (.iload_n 1, 1) := by decide +kernel
theorem dX5_isOfCrimes_1 : decode cX5_isOfCrimes 1 = .ok (.iconst 3, 1) := by decide +kernel
theorem dX5_isOfCrimes_2 : decode cX5_isOfCrimes 2 = .ok (.idiv, 1) := by decide +kernel
theorem dX5_isOfCrimes_3 : decode cX5_isOfCrimes 3 = .ok (.iconst 4, 1) := by decide +kernel
theorem dX5_isOfCrimes_4 : decode cX5_isOfCrimes 4 = .ok (.if_icmp .lt 5, 3) := by decide +kernel
theorem dX5_isOfCrimes_7 : decode cX5_isOfCrimes 7 = .ok (.iconst 0, 1) := by decide +kernel
theorem dX5_isOfCrimes_8 : decode cX5_isOfCrimes 8 = .ok (.ireturn, 1) := by decide +kernel
theorem dX5_isOfCrimes_9 : decode cX5_isOfCrimes 9 = .ok (.iload_n 1, 1) := by decide +kernel
theorem dX5_isOfCrimes_10 : decode cX5_isOfCrimes 10 = .ok (.iconst 3, 1) := by decide +kernel
theorem dX5_isOfCrimes_11 : decode cX5_isOfCrimes 11 = .ok (.irem, 1) := by decide +kernel
theorem dX5_isOfCrimes_12 : decode cX5_isOfCrimes 12 = .ok (.iconst 1, 1) := by decide +kernel
theorem dX5_isOfCrimes_13 : decode cX5_isOfCrimes 13 = .ok (.if_icmp .ne 12, 3) := by decide +kernel
theorem dX5_isOfCrimes_16 : decode cX5_isOfCrimes 16 = .ok (.iload_n 0, 1) := by decide +kernel
theorem dX5_isOfCrimes_17 : decode cX5_isOfCrimes 17 = .ok (.iconst 0, 1) := by decide +kernel
theorem dX5_isOfCrimes_18 : decode cX5_isOfCrimes 18 = .ok (.iconst 3, 1) := by decide +kernel
theorem dX5_isOfCrimes_19 : decode cX5_isOfCrimes 19 = .ok (.invokestatic 41, 3) := by decide +kernel
theorem dX5_isOfCrimes_22 : decode cX5_isOfCrimes 22 = .ok (.goto 10, 3) := by decide +kernel
theorem dX5_isOfCrimes_25 : decode cX5_isOfCrimes 25 = .ok (.iload_n 0, 1) := by decide +kernel
theorem dX5_isOfCrimes_26 : decode cX5_isOfCrimes 26 = .ok (.iconst 1, 1) := by decide +kernel
theorem dX5_isOfCrimes_27 : decode cX5_isOfCrimes 27 = .ok (.bipush 9, 2) := by decide +kernel
theorem dX5_isOfCrimes_29 : decode cX5_isOfCrimes 29 = .ok (.invokestatic 41, 3) := by decide +kernel
theorem dX5_isOfCrimes_32 : decode cX5_isOfCrimes 32 = .ok (.ireturn, 1) := by decide +kernel
theorem dX5_isKindLetter_0 : decode cX5_isKindLetter 0 = .ok (.iload_n 0, 1) := by decide +kernel
theorem dX5_isKindLetter_1 : decode cX5_isKindLetter 1 = .ok (.bipush 109, 2) := by decide +kernel
theorem dX5_isKindLetter_3 : decode cX5_isKindLetter 3 = .ok (.if_icmp .eq 27, 3) := by decide +kernel
theorem dX5_isKindLetter_6 : decode cX5_isKindLetter 6 = .ok (.iload_n 0, 1) := by decide +kernel
theorem dX5_isKindLetter_7 : decode cX5_isKindLetter 7 = .ok (.bipush 116, 2) := by decide +kernel
theorem dX5_isKindLetter_9 : decode cX5_isKindLetter 9 = .ok (.if_icmp .eq 21, 3) := by decide +kernel
theorem dX5_isKindLetter_12 : decode cX5_isKindLetter 12 = .ok (.iload_n 0, 1) := by decide +kernel
theorem dX5_isKindLetter_13 : decode cX5_isKindLetter 13 = .ok (.bipush 98, 2) := by decide +kernel
theorem dX5_isKindLetter_15 : decode cX5_isKindLetter 15 = .ok (.if_icmp .eq 15, 3) := by decide +kernel
theorem dX5_isKindLetter_18 : decode cX5_isKindLetter 18 = .ok (.iload_n 0, 1) := by decide +kernel
theorem dX5_isKindLetter_19 : decode cX5_isKindLetter 19 = .ok (.bipush 105, 2) := by decide +kernel
theorem dX5_isKindLetter_21 : decode cX5_isKindLetter 21 = .ok (.if_icmp .eq 9, 3) := by decide +kernel
theorem dX5_isKindLetter_24 : decode cX5_isKindLetter 24 = .ok (.iload_n 0, 1) := by decide +kernel
theorem dX5_isKindLetter_25 : decode cX5_isKindLetter 25 = .ok (.bipush 104, 2) := by decide +kernel
theorem dX5_isKindLetter_27 : decode cX5_isKindLetter 27 = .ok (.if_icmp .ne 7, 3) := by decide +kernel
theorem dX5_isKindLetter_30 : decode cX5_isKindLetter 30 = .ok (.iconst 1, 1) := by decide +kernel
theorem dX5_isKindLetter_31 : decode cX5_isKindLetter 31 = .ok (.goto 4, 3) := by decide +kernel
theorem dX5_isKindLetter_34 : decode cX5_isKindLetter 34 = .ok (.iconst 0, 1) := by decide +kernel
theorem dX5_isKindLetter_35 : decode cX5_isKindLetter 35 = .ok (.ireturn, 1) := by decide +kernel
theorem dX5_isDigit_0 : decode cX5_isDigit 0 = .ok (.iload_n 0, 1) := by decide +kernel
theorem dX5_isDigit_1 : decode cX5_isDigit 1 = .ok (.bipush 48, 2) := by decide +kernel
theorem dX5_isDigit_3 : decode cX5_isDigit 3 = .ok (.iload_n 1, 1) := by decide +kernel
theorem dX5_isDigit_4 : decode cX5_isDigit 4 = .ok (.iadd, 1) := by decide +kernel
theorem dX5_isDigit_5 : decode cX5_isDigit 5 = .ok (.if_icmp .lt 15, 3) := by decide +kernel
theorem dX5_isDigit_8 : decode cX5_isDigit 8 = .ok (.iload_n 0, 1) := by decide +kernel
theorem dX5_isDigit_9 : decode cX5_isDigit 9 = .ok (.bipush 48, 2) := by decide +kernel
theorem dX5_isDigit_11 : decode cX5_isDigit 11 = .ok (.iload_n 2, 1) := by decide +kernel
theorem dX5_isDigit_12 : decode cX5_isDigit 12 = .ok (.iadd, 1) := by decide +kernel
theorem dX5_isDigit_13 : decode cX5_isDigit 13 = .ok (.if_icmp .gt 7, 3) := by decide +kernel
theorem dX5_isDigit_16 : decode cX5_isDigit 16 = .ok (.iconst 1, 1) := by decide +kernel
theorem dX5_isDigit_17 : decode cX5_isDigit 17 = .ok (.goto 4, 3) := by decide +kernel
theorem dX5_isDigit_20 : decode cX5_isDigit 20 = .ok (.iconst 0, 1) := by decide +kernel
theorem dX5_isDigit_21 : decode cX5_isDigit 21 = .ok (.ireturn, 1) := by decide +kernel
theorem dX6_init_0 : decode cX6_init 0 = .ok (.aload_n 0, 1) := by decide +kernel
theorem dX6_init_1 : decode cX6_init 1 = .ok (.invokespecial 3, 3) := by decide +kernel
theorem dX6_init_4 : decode cX6_init 4 = .ok (.aload_n 0, 1) := by decide +kernel
theorem dX6_init_5 : decode cX6_init 5 = .ok (.iconst 4, 1) := by decide +kernel
theorem dX6_init_6 : decode cX6_init 6 = .ok (.anewarray 9, 3) := by decide +kernel
theorem dX6_init_9 : decode cX6_init 9 = .ok (.putfield 11, 3) := by decide +kernel
theorem dX6_init_12 : decode cX6_init 12 = .ok (.aload_n 0, 1) := by decide +kernel
theorem dX6_init_13 : decode cX6_init 13 = .ok (.iconst 4, 1) := by decide +kernel
theorem dX6_init_14 : decode cX6_init 14 = .ok (.anewarray 17, 3) := by decide +kernel
theorem dX6_init_17 : decode cX6_init 17 = .ok (.putfield 19, 3) := by decide +kernel
theorem dX6_init_20 : decode cX6_init 20 = .ok (.return_, 1) := by decide +kernel
theorem dX6_peopleMany_0 : decode cX6_peopleMany 0 = .ok (.aload_n 0, 1) := by decide +kernel
theorem dX6_peopleMany_1 : decode cX6_peopleMany 1 = .ok (.getfield 23, 3) := by decide +kernel
theorem dX6_peopleMany_4 : decode cX6_peopleMany 4 = .ok (.ireturn, 1) := by decide +kernel
theorem dX6_crimesMany_0 : decode cX6_crimesMany 0 = .ok (.aload_n 0, 1) := by decide +kernel
theorem dX6_crimesMany_1 : decode cX6_crimesMany 1 = .ok (.getfield 27, 3) := by decide +kernel
theorem dX6_crimesMany_4 : decode cX6_crimesMany 4 = .ok (.ireturn, 1) := by decide +kernel
theorem dX6_manOf_0 : decode cX6_manOf 0 = .ok (.iload_n 1, 1) := by decide +kernel
theorem dX6_manOf_1 : decode cX6_manOf 1 = .ok (.ifCond .lt 29, 3) := by decide +kernel
theorem dX6_manOf_4 : decode cX6_manOf 4 = .ok (.iload_n 1, 1) := by decide +kernel
theorem dX6_manOf_5 : decode cX6_manOf 5 = .ok (.aload_n 0, 1) := by decide +kernel
theorem dX6_manOf_6 : decode cX6_manOf 6 = .ok (.getfield 23, 3) := by decide +kernel
theorem dX6_manOf_9 : decode cX6_manOf 9 = .ok (.if_icmp .ge 21, 3) := by decide +kernel
theorem dX6_manOf_12 : decode cX6_manOf 12 = .ok (.iload_n 1, 1) := by decide +kernel
theorem dX6_manOf_13 : decode cX6_manOf 13 = .ok (.aload_n 0, 1) := by decide +kernel
theorem dX6_manOf_14 : decode cX6_manOf 14 = .ok (.getfield 11, 3) := by decide +kernel
theorem dX6_manOf_17 : decode cX6_manOf 17 = .ok (.arraylength, 1) := by decide +kernel
theorem dX6_manOf_18 : decode cX6_manOf 18 = .ok (.if_icmp .ge 12, 3) := by decide +kernel
theorem dX6_manOf_21 : decode cX6_manOf 21 = .ok (.aload_n 0, 1) := by decide +kernel
theorem dX6_manOf_22 : decode cX6_manOf 22 = .ok (.getfield 11, 3) := by decide +kernel
theorem dX6_manOf_25 : decode cX6_manOf 25 = .ok (.iload_n 1, 1) := by decide +kernel
theorem dX6_manOf_26 : decode cX6_manOf 26 = .ok (.aaload, 1) := by decide +kernel
theorem dX6_manOf_27 : decode cX6_manOf 27 = .ok (.goto 4, 3) := by decide +kernel
theorem dX6_manOf_30 : decode cX6_manOf 30 = .ok (.aconst_null, 1) := by decide +kernel
theorem dX6_manOf_31 : decode cX6_manOf 31 = .ok (.areturn, 1) := by decide +kernel
theorem dX6_crimeOf_0 : decode cX6_crimeOf 0 = .ok (.iload_n 1, 1) := by decide +kernel
theorem dX6_crimeOf_1 : decode cX6_crimeOf 1 = .ok (.ifCond .lt 29, 3) := by decide +kernel
theorem dX6_crimeOf_4 : decode cX6_crimeOf 4 = .ok (.iload_n 1, 1) := by decide +kernel
theorem dX6_crimeOf_5 : decode cX6_crimeOf 5 = .ok (.aload_n 0, 1) := by decide +kernel
theorem dX6_crimeOf_6 : decode cX6_crimeOf 6 = .ok (.getfield 27, 3) := by decide +kernel
theorem dX6_crimeOf_9 : decode cX6_crimeOf 9 = .ok (.if_icmp .ge 21, 3) := by decide +kernel
theorem dX6_crimeOf_12 : decode cX6_crimeOf 12 = .ok (.iload_n 1, 1) := by decide +kernel
theorem dX6_crimeOf_13 : decode cX6_crimeOf 13 = .ok (.aload_n 0, 1) := by decide +kernel
theorem dX6_crimeOf_14 : decode cX6_crimeOf 14 = .ok (.getfield 19, 3) := by decide +kernel
theorem dX6_crimeOf_17 : decode cX6_crimeOf 17 = .ok (.arraylength, 1) := by decide +kernel
theorem dX6_crimeOf_18 : decode cX6_crimeOf 18 = .ok (.if_icmp .ge 12, 3) := by decide +kernel
theorem dX6_crimeOf_21 : decode cX6_crimeOf 21 = .ok (.aload_n 0, 1) := by decide +kernel
theorem dX6_crimeOf_22 : decode cX6_crimeOf 22 = .ok (.getfield 19, 3) := by decide +kernel
theorem dX6_crimeOf_25 : decode cX6_crimeOf 25 = .ok (.iload_n 1, 1) := by decide +kernel
theorem dX6_crimeOf_26 : decode cX6_crimeOf 26 = .ok (.aaload, 1) := by decide +kernel
theorem dX6_crimeOf_27 : decode cX6_crimeOf 27 = .ok (.goto 4, 3) := by decide +kernel
theorem dX6_crimeOf_30 : decode cX6_crimeOf 30 = .ok (.aconst_null, 1) := by decide +kernel
theorem dX6_crimeOf_31 : decode cX6_crimeOf 31 = .ok (.areturn, 1) := by decide +kernel
theorem dX6_read_0 : decode cX6_read 0 = .ok (.aload_n 1, 1) := by decide +kernel
theorem dX6_read_1 : decode cX6_read 1 = .ok (.ifnonnull 4, 3) := by decide +kernel
theorem dX6_read_4 : decode cX6_read 4 = .ok (.return_, 1) := by decide +kernel
theorem dX6_read_5 : decode cX6_read 5 = .ok (.aload_n 1, 1) := by decide +kernel
theorem dX6_read_6 : decode cX6_read 6 = .ok (.invokevirtual 30, 3) := by decide +kernel
theorem dX6_read_9 : decode cX6_read 9 = .ok (.iconst 1, 1) := by decide +kernel
theorem dX6_read_10 : decode cX6_read 10 = .ok (.iadd, 1) := by decide +kernel
theorem dX6_read_11 : decode cX6_read 11 = .ok (.istore_n 2, 1) := by decide +kernel
theorem dX6_read_12 : decode cX6_read 12 = .ok (.aload_n 0, 1) := by decide +kernel
theorem dX6_read_13 : decode cX6_read 13 = .ok (.iload_n 2, 1) := by decide +kernel
theorem dX6_read_14 : decode cX6_read 14 = .ok (.iconst 4, 1) := by decide +kernel
theorem dX6_read_15 : decode cX6_read 15 = .ok (.idiv, 1) := by decide +kernel
theorem dX6_read_16 : decode cX6_read 16 = .ok (.aload_n 0, 1) := by decide +kernel
theorem dX6_read_17 : decode cX6_read 17 = .ok (.getfield 11, 3) := by decide +kernel
theorem dX6_read_20 : decode cX6_read 20 = .ok (.arraylength, 1) := by decide +kernel
theorem dX6_read_21 : decode cX6_read 21 = .ok (.invokestatic 36, 3) := by decide +kernel
theorem dX6_read_24 : decode cX6_read 24 = .ok (.putfield 23, 3) := by decide +kernel
theorem dX6_read_27 : decode cX6_read 27 = .ok (.iconst 0, 1) := by decide +kernel
theorem dX6_read_28 : decode cX6_read 28 = .ok (.istore_n 3, 1) := by decide +kernel
theorem dX6_read_29 : decode cX6_read 29 = .ok (.iload_n 3, 1) := by decide +kernel
theorem dX6_read_30 : decode cX6_read 30 = .ok (.aload_n 0, 1) := by decide +kernel
theorem dX6_read_31 : decode cX6_read 31 = .ok (.getfield 23, 3) := by decide +kernel
theorem dX6_read_34 : decode cX6_read 34 = .ok (.if_icmp .ge 31, 3) := by decide +kernel
theorem dX6_read_37 : decode cX6_read 37 = .ok (.iload_n 3, 1) := by decide +kernel
theorem dX6_read_38 : decode cX6_read 38 = .ok (.aload_n 0, 1) := by decide +kernel
theorem dX6_read_39 : decode cX6_read 39 = .ok (.getfield 11, 3) := by decide +kernel
theorem dX6_read_42 : decode cX6_read 42 = .ok (.arraylength, 1) := by decide +kernel
theorem dX6_read_43 : decode cX6_read 43 = .ok (.if_icmp .ge 22, 3) := by decide +kernel
theorem dX6_read_46 : decode cX6_read 46 = .ok (.aload_n 0, 1) := by decide +kernel
theorem dX6_read_47 : decode cX6_read 47 = .ok (.getfield 11, 3) := by decide +kernel
theorem dX6_read_50 : decode cX6_read 50 = .ok (.iload_n 3, 1) := by decide +kernel
theorem dX6_read_51 : decode cX6_read 51 = .ok (.aload_n 1, 1) := by decide +kernel
theorem dX6_read_52 : decode cX6_read 52 = .ok (.iload_n 3, 1) := by decide +kernel
theorem dX6_read_53 : decode cX6_read 53 = .ok (.iconst 4, 1) := by decide +kernel
theorem dX6_read_54 : decode cX6_read 54 = .ok (.imul, 1) := by decide +kernel
theorem dX6_read_55 : decode cX6_read 55 = .ok (.invokestatic 42, 3) := by decide +kernel
theorem dX6_read_58 : decode cX6_read 58 = .ok (.aastore, 1) := by decide +kernel
theorem dX6_read_59 : decode cX6_read 59 = .ok (.iinc 3 1, 3) := by decide +kernel
theorem dX6_read_62 : decode cX6_read 62 = .ok (.goto (-33), 3) := by decide +kernel
theorem dX6_read_65 : decode cX6_read 65 = .ok (.aload_n 0, 1) := by decide +kernel
theorem dX6_read_66 : decode cX6_read 66 = .ok (.aload_n 1, 1) := by decide +kernel
theorem dX6_read_67 : decode cX6_read 67 = .ok (.invokevirtual 46, 3) := by decide +kernel
theorem dX6_read_70 : decode cX6_read 70 = .ok (.iload_n 2, 1) := by decide +kernel
theorem dX6_read_71 : decode cX6_read 71 = .ok (.isub, 1) := by decide +kernel
theorem dX6_read_72 : decode cX6_read 72 = .ok (.iconst 3, 1) := by decide +kernel
theorem dX6_read_73 : decode cX6_read 73 = .ok (.idiv, 1) := by decide +kernel
theorem dX6_read_74 : decode cX6_read 74 = .ok (.aload_n 0, 1) := by decide +kernel
theorem dX6_read_75 : decode cX6_read 75 = .ok (.getfield 19, 3) := by decide +kernel
theorem dX6_read_78 : decode cX6_read 78 = .ok (.arraylength, 1) := by decide +kernel
theorem dX6_read_79 : decode cX6_read 79 = .ok (.invokestatic 36, 3) := by decide +kernel
theorem dX6_read_82 : decode cX6_read 82 = .ok (.putfield 27, 3) := by decide +kernel
theorem dX6_read_85 : decode cX6_read 85 = .ok (.iconst 0, 1) := by decide +kernel
theorem dX6_read_86 : decode cX6_read 86 = .ok (.istore_n 3, 1) := by decide +kernel
theorem dX6_read_87 : decode cX6_read 87 = .ok (.iload_n 3, 1) := by decide +kernel
theorem dX6_read_88 : decode cX6_read 88 = .ok (.aload_n 0, 1) := by decide +kernel
theorem dX6_read_89 : decode cX6_read 89 = .ok (.getfield 27, 3) := by decide +kernel
theorem dX6_read_92 : decode cX6_read 92 = .ok (.if_icmp .ge 33, 3) := by decide +kernel
theorem dX6_read_95 : decode cX6_read 95 = .ok (.iload_n 3, 1) := by decide +kernel
theorem dX6_read_96 : decode cX6_read 96 = .ok (.aload_n 0, 1) := by decide +kernel
theorem dX6_read_97 : decode cX6_read 97 = .ok (.getfield 19, 3) := by decide +kernel
theorem dX6_read_100 : decode cX6_read 100 = .ok (.arraylength, 1) := by decide +kernel
theorem dX6_read_101 : decode cX6_read 101 = .ok (.if_icmp .ge 24, 3) := by decide +kernel
theorem dX6_read_104 : decode cX6_read 104 = .ok (.aload_n 0, 1) := by decide +kernel
theorem dX6_read_105 : decode cX6_read 105 = .ok (.getfield 19, 3) := by decide +kernel
theorem dX6_read_108 : decode cX6_read 108 = .ok (.iload_n 3, 1) := by decide +kernel
theorem dX6_read_109 : decode cX6_read 109 = .ok (.aload_n 1, 1) := by decide +kernel
theorem dX6_read_110 : decode cX6_read 110 = .ok (.iload_n 2, 1) := by decide +kernel
theorem dX6_read_111 : decode cX6_read 111 = .ok (.iload_n 3, 1) := by decide +kernel
theorem dX6_read_112 : decode cX6_read 112 = .ok (.iconst 3, 1) := by decide +kernel
theorem dX6_read_113 : decode cX6_read 113 = .ok (.imul, 1) := by decide +kernel
theorem dX6_read_114 : decode cX6_read 114 = .ok (.iadd, 1) := by decide +kernel
theorem dX6_read_115 : decode cX6_read 115 = .ok (.invokestatic 49, 3) := by decide +kernel
theorem dX6_read_118 : decode cX6_read 118 = .ok (.aastore, 1) := by decide +kernel
theorem dX6_read_119 : decode cX6_read 119 = .ok (.iinc 3 1, 3) := by decide +kernel
theorem dX6_read_122 : decode cX6_read 122 = .ok (.goto (-35), 3) := by decide +kernel
theorem dX6_read_125 : decode cX6_read 125 = .ok (.return_, 1) := by decide +kernel
theorem dX6_manAt_0 : decode cX6_manAt 0 = .ok (.aload_n 0, 1) := by decide +kernel
theorem dX6_manAt_1 : decode cX6_manAt 1 = .ok (.iload_n 1, 1) := by decide +kernel
theorem dX6_manAt_2 : decode cX6_manAt 2 = .ok (.iconst 1, 1) := by decide +kernel
theorem dX6_manAt_3 : decode cX6_manAt 3 = .ok (.iadd, 1) := by decide +kernel
theorem dX6_manAt_4 : decode cX6_manAt 4 = .ok (.invokevirtual 53, 3) := by decide +kernel
theorem dX6_manAt_7 : decode cX6_manAt 7 = .ok (.istore_n 2, 1) := by decide +kernel
theorem dX6_manAt_8 : decode cX6_manAt 8 = .ok (.aload_n 0, 1) := by decide +kernel
theorem dX6_manAt_9 : decode cX6_manAt 9 = .ok (.iload_n 1, 1) := by decide +kernel
theorem dX6_manAt_10 : decode cX6_manAt 10 = .ok (.iconst 2, 1) := by decide +kernel
theorem dX6_manAt_11 : decode cX6_manAt 11 = .ok (.iadd, 1) := by decide +kernel
theorem dX6_manAt_12 : decode cX6_manAt 12 = .ok (.invokevirtual 53, 3) := by decide +kernel
theorem dX6_manAt_15 : decode cX6_manAt 15 = .ok (.istore_n 3, 1) := by decide +kernel
theorem dX6_manAt_16 : decode cX6_manAt 16 = .ok (.aload_n 0, 1) := by decide +kernel
theorem dX6_manAt_17 : decode cX6_manAt 17 = .ok (.iload_n 1, 1) := by decide +kernel
theorem dX6_manAt_18 : decode cX6_manAt 18 = .ok (.invokevirtual 57, 3) := by decide +kernel
theorem dX6_manAt_21 : decode cX6_manAt 21 = .ok (.lookupswitch 83 #[(98, 53), (104, 73), (105, 63), (116, 43)], 43) := by decide +kernel
theorem dX6_manAt_64 : decode cX6_manAt 64 = .ok (.new 60, 3) := by decide +kernel
theorem dX6_manAt_67 : decode cX6_manAt 67 = .ok (.dup, 1) := by decide +kernel
theorem dX6_manAt_68 : decode cX6_manAt 68 = .ok (.iload_n 2, 1) := by decide +kernel
theorem dX6_manAt_69 : decode cX6_manAt 69 = .ok (.iload_n 3, 1) := by decide +kernel
theorem dX6_manAt_70 : decode cX6_manAt 70 = .ok (.invokespecial 62, 3) := by decide +kernel
theorem dX6_manAt_73 : decode cX6_manAt 73 = .ok (.areturn, 1) := by decide +kernel
theorem dX6_manAt_74 : decode cX6_manAt 74 = .ok (.new 65, 3) := by decide +kernel
theorem dX6_manAt_77 : decode cX6_manAt 77 = .ok (.dup, 1) := by decide +kernel
theorem dX6_manAt_78 : decode cX6_manAt 78 = .ok (.iload_n 2, 1) := by decide +kernel
theorem dX6_manAt_79 : decode cX6_manAt 79 = .ok (.iload_n 3, 1) := by decide +kernel
theorem dX6_manAt_80 : decode cX6_manAt 80 = .ok (.invokespecial 67, 3) := by decide +kernel
theorem dX6_manAt_83 : decode cX6_manAt 83 = .ok (.areturn, 1) := by decide +kernel
theorem dX6_manAt_84 : decode cX6_manAt 84 = .ok (.new 68, 3) := by decide +kernel
theorem dX6_manAt_87 : decode cX6_manAt 87 = .ok (.dup, 1) := by decide +kernel
theorem dX6_manAt_88 : decode cX6_manAt 88 = .ok (.iload_n 2, 1) := by decide +kernel
theorem dX6_manAt_89 : decode cX6_manAt 89 = .ok (.iload_n 3, 1) := by decide +kernel
theorem dX6_manAt_90 : decode cX6_manAt 90 = .ok (.invokespecial 70, 3) := by decide +kernel
theorem dX6_manAt_93 : decode cX6_manAt 93 = .ok (.areturn, 1) := by decide +kernel
theorem dX6_manAt_94 : decode cX6_manAt 94 = .ok (.new 71, 3) := by decide +kernel
theorem dX6_manAt_97 : decode cX6_manAt 97 = .ok (.dup, 1) := by decide +kernel
theorem dX6_manAt_98 : decode cX6_manAt 98 = .ok (.iload_n 2, 1) := by decide +kernel
theorem dX6_manAt_99 : decode cX6_manAt 99 = .ok (.iload_n 3, 1) := by decide +kernel
theorem dX6_manAt_100 : decode cX6_manAt 100 = .ok (.invokespecial 73, 3) := by decide +kernel
theorem dX6_manAt_103 : decode cX6_manAt 103 = .ok (.areturn, 1) := by decide +kernel
theorem dX6_manAt_104 : decode cX6_manAt 104 = .ok (.new 9, 3) := by decide +kernel
theorem dX6_manAt_107 : decode cX6_manAt 107 = .ok (.dup, 1) := by decide +kernel
theorem dX6_manAt_108 : decode cX6_manAt 108 = .ok (.iload_n 2, 1) := by decide +kernel
theorem dX6_manAt_109 : decode cX6_manAt 109 = .ok (.iload_n 3, 1) := by decide +kernel
theorem dX6_manAt_110 : decode cX6_manAt 110 = .ok (.invokespecial 74, 3) := by decide +kernel
theorem dX6_manAt_113 : decode cX6_manAt 113 = .ok (.areturn, 1) := by decide +kernel
theorem dX6_crimeAt_0 : decode cX6_crimeAt 0 = .ok (.new 17, 3) := by decide +kernel
theorem dX6_crimeAt_3 : decode cX6_crimeAt 3 = .ok (.dup, 1) := by decide +kernel
theorem dX6_crimeAt_4 : decode cX6_crimeAt 4 = .ok (.aload_n 0, 1) := by decide +kernel
theorem dX6_crimeAt_5 : decode cX6_crimeAt 5 = .ok (.iload_n 1, 1) := by decide +kernel
theorem dX6_crimeAt_6 : decode cX6_crimeAt 6 = .ok (.invokevirtual 53, 3) := by decide +kernel
theorem dX6_crimeAt_9 : decode cX6_crimeAt 9 = .ok (.aload_n 0, 1) := by decide +kernel
theorem dX6_crimeAt_10 : decode cX6_crimeAt 10 = .ok (.iload_n 1, 1) := by decide +kernel
theorem dX6_crimeAt_11 : decode cX6_crimeAt 11 = .ok (.iconst 1, 1) := by decide +kernel
theorem dX6_crimeAt_12 : decode cX6_crimeAt 12 = .ok (.iadd, 1) := by decide +kernel
theorem dX6_crimeAt_13 : decode cX6_crimeAt 13 = .ok (.invokevirtual 53, 3) := by decide +kernel
theorem dX6_crimeAt_16 : decode cX6_crimeAt 16 = .ok (.aload_n 0, 1) := by decide +kernel
theorem dX6_crimeAt_17 : decode cX6_crimeAt 17 = .ok (.iload_n 1, 1) := by decide +kernel
theorem dX6_crimeAt_18 : decode cX6_crimeAt 18 = .ok (.iconst 2, 1) := by decide +kernel
theorem dX6_crimeAt_19 : decode cX6_crimeAt 19 = .ok (.iadd, 1) := by decide +kernel
theorem dX6_crimeAt_20 : decode cX6_crimeAt 20 = .ok (.invokevirtual 53, 3) := by decide +kernel
theorem dX6_crimeAt_23 : decode cX6_crimeAt 23 = .ok (.invokespecial 75, 3) := by decide +kernel
theorem dX6_crimeAt_26 : decode cX6_crimeAt 26 = .ok (.areturn, 1) := by decide +kernel
theorem dX7_init_0 : decode cX7_init 0 = .ok (.aload_n 0, 1) := by decide +kernel
theorem dX7_init_1 : decode cX7_init 1 = .ok (.invokespecial 3, 3) := by decide +kernel
theorem dX7_init_4 : decode cX7_init 4 = .ok (.aload_n 0, 1) := by decide +kernel
theorem dX7_init_5 : decode cX7_init 5 = .ok (.iconst 4, 1) := by decide +kernel
theorem dX7_init_6 : decode cX7_init 6 = .ok (.newarray .int, 2) := by decide +kernel
theorem dX7_init_8 : decode cX7_init 8 = .ok (.putfield 9, 3) := by decide +kernel
theorem dX7_init_11 : decode cX7_init 11 = .ok (.aload_n 0, 1) := by decide +kernel
theorem dX7_init_12 : decode cX7_init 12 = .ok (.iconst 4, 1) := by decide +kernel
theorem dX7_init_13 : decode cX7_init 13 = .ok (.newarray .int, 2) := by decide +kernel
theorem dX7_init_15 : decode cX7_init 15 = .ok (.putfield 15, 3) := by decide +kernel
theorem dX7_init_18 : decode cX7_init 18 = .ok (.aload_n 0, 1) := by decide +kernel
theorem dX7_init_19 : decode cX7_init 19 = .ok (.new 18, 3) := by decide +kernel
theorem dX7_init_22 : decode cX7_init 22 = .ok (.dup, 1) := by decide +kernel
theorem dX7_init_23 : decode cX7_init 23 = .ok (.invokespecial 20, 3) := by decide +kernel
theorem dX7_init_26 : decode cX7_init 26 = .ok (.putfield 21, 3) := by decide +kernel
theorem dX7_init_29 : decode cX7_init 29 = .ok (.iconst 0, 1) := by decide +kernel
theorem dX7_init_30 : decode cX7_init 30 = .ok (.istore_n 1, 1) := by decide +kernel
theorem dX7_init_31 : decode cX7_init 31 = .ok (.iload_n 1, 1) := by decide +kernel
theorem dX7_init_32 : decode cX7_init 32 = .ok (.aload_n 0, 1) := by decide +kernel
theorem dX7_init_33 : decode cX7_init 33 = .ok (.getfield 15, 3) := by decide +kernel
theorem dX7_init_36 : decode cX7_init 36 = .ok (.arraylength, 1) := by decide +kernel
theorem dX7_init_37 : decode cX7_init 37 = .ok (.if_icmp .ge 16, 3) := by decide +kernel
theorem dX7_init_40 : decode cX7_init 40 = .ok (.aload_n 0, 1) := by decide +kernel
theorem dX7_init_41 : decode cX7_init 41 = .ok (.getfield 15, 3) := by decide +kernel
theorem dX7_init_44 : decode cX7_init 44 = .ok (.iload_n 1, 1) := by decide +kernel
theorem dX7_init_45 : decode cX7_init 45 = .ok (.iconst (-1), 1) := by decide +kernel
theorem dX7_init_46 : decode cX7_init 46 = .ok (.iastore, 1) := by decide +kernel
theorem dX7_init_47 : decode cX7_init 47 = .ok (.iinc 1 1, 3) := by decide +kernel
theorem dX7_init_50 : decode cX7_init 50 = .ok (.goto (-19), 3) := by decide +kernel
theorem dX7_init_53 : decode cX7_init 53 = .ok (.return_, 1) := by decide +kernel
theorem dX7_begin_0 : decode cX7_begin 0 = .ok (.aload_n 1, 1) := by decide +kernel
theorem dX7_begin_1 : decode cX7_begin 1 = .ok (.ifnonnull 4, 3) := by decide +kernel
theorem dX7_begin_4 : decode cX7_begin 4 = .ok (.return_, 1) := by decide +kernel
theorem dX7_begin_5 : decode cX7_begin 5 = .ok (.iconst 0, 1) := by decide +kernel
theorem dX7_begin_6 : decode cX7_begin 6 = .ok (.istore_n 2, 1) := by decide +kernel
theorem dX7_begin_7 : decode cX7_begin 7 = .ok (.iload_n 2, 1) := by decide +kernel
theorem dX7_begin_8 : decode cX7_begin 8 = .ok (.aload_n 0, 1) := by decide +kernel
theorem dX7_begin_9 : decode cX7_begin 9 = .ok (.getfield 9, 3) := by decide +kernel
theorem dX7_begin_12 : decode cX7_begin 12 = .ok (.arraylength, 1) := by decide +kernel
theorem dX7_begin_13 : decode cX7_begin 13 = .ok (.if_icmp .ge 33, 3) := by decide +kernel
theorem dX7_begin_16 : decode cX7_begin 16 = .ok (.aload_n 1, 1) := by decide +kernel
theorem dX7_begin_17 : decode cX7_begin 17 = .ok (.iload_n 2, 1) := by decide +kernel
theorem dX7_begin_18 : decode cX7_begin 18 = .ok (.invokevirtual 25, 3) := by decide +kernel
theorem dX7_begin_21 : decode cX7_begin 21 = .ok (.astore_n 3, 1) := by decide +kernel
theorem dX7_begin_22 : decode cX7_begin 22 = .ok (.aload_n 0, 1) := by decide +kernel
theorem dX7_begin_23 : decode cX7_begin 23 = .ok (.getfield 9, 3) := by decide +kernel
theorem dX7_begin_26 : decode cX7_begin 26 = .ok (.iload_n 2, 1) := by decide +kernel
theorem dX7_begin_27 : decode cX7_begin 27 = .ok (.aload_n 3, 1) := by decide +kernel
theorem dX7_begin_28 : decode cX7_begin 28 = .ok (.ifnonnull 7, 3) := by decide +kernel
theorem dX7_begin_31 : decode cX7_begin 31 = .ok (.iconst 0, 1) := by decide +kernel
theorem dX7_begin_32 : decode cX7_begin 32 = .ok (.goto 7, 3) := by decide +kernel
theorem dX7_begin_35 : decode cX7_begin 35 = .ok (.aload_n 3, 1) := by decide +kernel
theorem dX7_begin_36 : decode cX7_begin 36 = .ok (.getfield 31, 3) := by decide +kernel
theorem dX7_begin_39 : decode cX7_begin 39 = .ok (.iastore, 1) := by decide +kernel
theorem dX7_begin_40 : decode cX7_begin 40 = .ok (.iinc 2 1, 3) := by decide +kernel
theorem dX7_begin_43 : decode cX7_begin 43 = .ok (.goto (-36), 3) := by decide +kernel
theorem dX7_begin_46 : decode cX7_begin 46 = .ok (.iconst 0, 1) := by decide +kernel
theorem dX7_begin_47 : decode cX7_begin 47 = .ok (.istore_n 2, 1) := by decide +kernel
theorem dX7_begin_48 : decode cX7_begin 48 = .ok (.iload_n 2, 1) := by decide +kernel
theorem dX7_begin_49 : decode cX7_begin 49 = .ok (.aload_n 0, 1) := by decide +kernel
theorem dX7_begin_50 : decode cX7_begin 50 = .ok (.getfield 15, 3) := by decide +kernel
theorem dX7_begin_53 : decode cX7_begin 53 = .ok (.arraylength, 1) := by decide +kernel
theorem dX7_begin_54 : decode cX7_begin 54 = .ok (.if_icmp .ge 16, 3) := by decide +kernel
theorem dX7_begin_57 : decode cX7_begin 57 = .ok (.aload_n 0, 1) := by decide +kernel
theorem dX7_begin_58 : decode cX7_begin 58 = .ok (.getfield 15, 3) := by decide +kernel
theorem dX7_begin_61 : decode cX7_begin 61 = .ok (.iload_n 2, 1) := by decide +kernel
theorem dX7_begin_62 : decode cX7_begin 62 = .ok (.iconst (-1), 1) := by decide +kernel
theorem dX7_begin_63 : decode cX7_begin 63 = .ok (.iastore, 1) := by decide +kernel
theorem dX7_begin_64 : decode cX7_begin 64 = .ok (.iinc 2 1, 3) := by decide +kernel
theorem dX7_begin_67 : decode cX7_begin 67 = .ok (.goto (-19), 3) := by decide +kernel
theorem dX7_begin_70 : decode cX7_begin 70 = .ok (.aload_n 0, 1) := by decide +kernel
theorem dX7_begin_71 : decode cX7_begin 71 = .ok (.getfield 21, 3) := by decide +kernel
theorem dX7_begin_74 : decode cX7_begin 74 = .ok (.invokevirtual 37, 3) := by decide +kernel
theorem dX7_begin_77 : decode cX7_begin 77 = .ok (.aload_n 0, 1) := by decide +kernel
theorem dX7_begin_78 : decode cX7_begin 78 = .ok (.iconst 0, 1) := by decide +kernel
theorem dX7_begin_79 : decode cX7_begin 79 = .ok (.putfield 40, 3) := by decide +kernel
theorem dX7_begin_82 : decode cX7_begin 82 = .ok (.aload_n 0, 1) := by decide +kernel
theorem dX7_begin_83 : decode cX7_begin 83 = .ok (.iconst 0, 1) := by decide +kernel
theorem dX7_begin_84 : decode cX7_begin 84 = .ok (.putfield 43, 3) := by decide +kernel
theorem dX7_begin_87 : decode cX7_begin 87 = .ok (.return_, 1) := by decide +kernel
theorem dX7_copyFrom_0 : decode cX7_copyFrom 0 = .ok (.aload_n 1, 1) := by decide +kernel
theorem dX7_copyFrom_1 : decode cX7_copyFrom 1 = .ok (.ifnonnull 4, 3) := by decide +kernel
theorem dX7_copyFrom_4 : decode cX7_copyFrom 4 = .ok (.return_, 1) := by decide +kernel
theorem dX7_copyFrom_5 : decode cX7_copyFrom 5 = .ok (.iconst 0, 1) := by decide +kernel
theorem dX7_copyFrom_6 : decode cX7_copyFrom 6 = .ok (.istore_n 2, 1) := by decide +kernel
theorem dX7_copyFrom_7 : decode cX7_copyFrom 7 = .ok (.iload_n 2, 1) := by decide +kernel
theorem dX7_copyFrom_8 : decode cX7_copyFrom 8 = .ok (.aload_n 0, 1) := by decide +kernel
theorem dX7_copyFrom_9 : decode cX7_copyFrom 9 = .ok (.getfield 9, 3) := by decide +kernel
theorem dX7_copyFrom_12 : decode cX7_copyFrom 12 = .ok (.arraylength, 1) := by decide +kernel
theorem dX7_copyFrom_13 : decode cX7_copyFrom 13 = .ok (.if_icmp .ge 20, 3) := by decide +kernel
theorem dX7_copyFrom_16 : decode cX7_copyFrom 16 = .ok (.aload_n 0, 1) := by decide +kernel
theorem dX7_copyFrom_17 : decode cX7_copyFrom 17 = .ok (.getfield 9, 3) := by decide +kernel
theorem dX7_copyFrom_20 : decode cX7_copyFrom 20 = .ok (.iload_n 2, 1) := by decide +kernel
theorem dX7_copyFrom_21 : decode cX7_copyFrom 21 = .ok (.aload_n 1, 1) := by decide +kernel
theorem dX7_copyFrom_22 : decode cX7_copyFrom 22 = .ok (.iload_n 2, 1) := by decide +kernel
theorem dX7_copyFrom_23 : decode cX7_copyFrom 23 = .ok (.invokevirtual 46, 3) := by decide +kernel
theorem dX7_copyFrom_26 : decode cX7_copyFrom 26 = .ok (.iastore, 1) := by decide +kernel
theorem dX7_copyFrom_27 : decode cX7_copyFrom 27 = .ok (.iinc 2 1, 3) := by decide +kernel
theorem dX7_copyFrom_30 : decode cX7_copyFrom 30 = .ok (.goto (-23), 3) := by decide +kernel
theorem dX7_copyFrom_33 : decode cX7_copyFrom 33 = .ok (.iconst 0, 1) := by decide +kernel
theorem dX7_copyFrom_34 : decode cX7_copyFrom 34 = .ok (.istore_n 2, 1) := by decide +kernel
theorem dX7_copyFrom_35 : decode cX7_copyFrom 35 = .ok (.iload_n 2, 1) := by decide +kernel
theorem dX7_copyFrom_36 : decode cX7_copyFrom 36 = .ok (.aload_n 0, 1) := by decide +kernel
theorem dX7_copyFrom_37 : decode cX7_copyFrom 37 = .ok (.getfield 15, 3) := by decide +kernel
theorem dX7_copyFrom_40 : decode cX7_copyFrom 40 = .ok (.arraylength, 1) := by decide +kernel
theorem dX7_copyFrom_41 : decode cX7_copyFrom 41 = .ok (.if_icmp .ge 20, 3) := by decide +kernel
theorem dX7_copyFrom_44 : decode cX7_copyFrom 44 = .ok (.aload_n 0, 1) := by decide +kernel
theorem dX7_copyFrom_45 : decode cX7_copyFrom 45 = .ok (.getfield 15, 3) := by decide +kernel
theorem dX7_copyFrom_48 : decode cX7_copyFrom 48 = .ok (.iload_n 2, 1) := by decide +kernel
theorem dX7_copyFrom_49 : decode cX7_copyFrom 49 = .ok (.aload_n 1, 1) := by decide +kernel
theorem dX7_copyFrom_50 : decode cX7_copyFrom 50 = .ok (.iload_n 2, 1) := by decide +kernel
theorem dX7_copyFrom_51 : decode cX7_copyFrom 51 = .ok (.invokevirtual 50, 3) := by decide +kernel
theorem dX7_copyFrom_54 : decode cX7_copyFrom 54 = .ok (.iastore, 1) := by decide +kernel
theorem dX7_copyFrom_55 : decode cX7_copyFrom 55 = .ok (.iinc 2 1, 3) := by decide +kernel
theorem dX7_copyFrom_58 : decode cX7_copyFrom 58 = .ok (.goto (-23), 3) := by decide +kernel
theorem dX7_copyFrom_61 : decode cX7_copyFrom 61 = .ok (.aload_n 0, 1) := by decide +kernel
theorem dX7_copyFrom_62 : decode cX7_copyFrom 62 = .ok (.getfield 21, 3) := by decide +kernel
theorem dX7_copyFrom_65 : decode cX7_copyFrom 65 = .ok (.aload_n 1, 1) := by decide +kernel
theorem dX7_copyFrom_66 : decode cX7_copyFrom 66 = .ok (.getfield 21, 3) := by decide +kernel
theorem dX7_copyFrom_69 : decode cX7_copyFrom 69 = .ok (.invokevirtual 53, 3) := by decide +kernel
theorem dX7_copyFrom_72 : decode cX7_copyFrom 72 = .ok (.aload_n 0, 1) := by decide +kernel
theorem dX7_copyFrom_73 : decode cX7_copyFrom 73 = .ok (.aload_n 1, 1) := by decide +kernel
theorem dX7_copyFrom_74 : decode cX7_copyFrom 74 = .ok (.getfield 40, 3) := by decide +kernel
theorem dX7_copyFrom_77 : decode cX7_copyFrom 77 = .ok (.putfield 40, 3) := by decide +kernel
theorem dX7_copyFrom_80 : decode cX7_copyFrom 80 = .ok (.aload_n 0, 1) := by decide +kernel
theorem dX7_copyFrom_81 : decode cX7_copyFrom 81 = .ok (.aload_n 1, 1) := by decide +kernel
theorem dX7_copyFrom_82 : decode cX7_copyFrom 82 = .ok (.getfield 43, 3) := by decide +kernel
theorem dX7_copyFrom_85 : decode cX7_copyFrom 85 = .ok (.putfield 43, 3) := by decide +kernel
theorem dX7_copyFrom_88 : decode cX7_copyFrom 88 = .ok (.return_, 1) := by decide +kernel
theorem dX7_sizeOf_0 : decode cX7_sizeOf 0 = .ok (.iload_n 1, 1) := by decide +kernel
theorem dX7_sizeOf_1 : decode cX7_sizeOf 1 = .ok (.ifCond .lt 21, 3) := by decide +kernel
theorem dX7_sizeOf_4 : decode cX7_sizeOf 4 = .ok (.iload_n 1, 1) := by decide +kernel
theorem dX7_sizeOf_5 : decode cX7_sizeOf 5 = .ok (.aload_n 0, 1) := by decide +kernel
theorem dX7_sizeOf_6 : decode cX7_sizeOf 6 = .ok (.getfield 9, 3) := by decide +kernel
theorem dX7_sizeOf_9 : decode cX7_sizeOf 9 = .ok (.arraylength, 1) := by decide +kernel
theorem dX7_sizeOf_10 : decode cX7_sizeOf 10 = .ok (.if_icmp .ge 12, 3) := by decide +kernel
theorem dX7_sizeOf_13 : decode cX7_sizeOf 13 = .ok (.aload_n 0, 1) := by decide +kernel
theorem dX7_sizeOf_14 : decode cX7_sizeOf 14 = .ok (.getfield 9, 3) := by decide +kernel
theorem dX7_sizeOf_17 : decode cX7_sizeOf 17 = .ok (.iload_n 1, 1) := by decide +kernel
theorem dX7_sizeOf_18 : decode cX7_sizeOf 18 = .ok (.iaload, 1) := by decide +kernel
theorem dX7_sizeOf_19 : decode cX7_sizeOf 19 = .ok (.goto 4, 3) := by decide +kernel
theorem dX7_sizeOf_22 : decode cX7_sizeOf 22 = .ok (.iconst 0, 1) := by decide +kernel
theorem dX7_sizeOf_23 : decode cX7_sizeOf 23 = .ok (.ireturn, 1) := by decide +kernel
theorem dX7_resize_0 : decode cX7_resize 0 = .ok (.iload_n 1, 1) := by decide +kernel
theorem dX7_resize_1 : decode cX7_resize 1 = .ok (.ifCond .lt 19, 3) := by decide +kernel
theorem dX7_resize_4 : decode cX7_resize 4 = .ok (.iload_n 1, 1) := by decide +kernel
theorem dX7_resize_5 : decode cX7_resize 5 = .ok (.aload_n 0, 1) := by decide +kernel
theorem dX7_resize_6 : decode cX7_resize 6 = .ok (.getfield 9, 3) := by decide +kernel
theorem dX7_resize_9 : decode cX7_resize 9 = .ok (.arraylength, 1) := by decide +kernel
theorem dX7_resize_10 : decode cX7_resize 10 = .ok (.if_icmp .ge 10, 3) := by decide +kernel
theorem dX7_resize_13 : decode cX7_resize 13 = .ok (.aload_n 0, 1) := by decide +kernel
theorem dX7_resize_14 : decode cX7_resize 14 = .ok (.getfield 9, 3) := by decide +kernel
theorem dX7_resize_17 : decode cX7_resize 17 = .ok (.iload_n 1, 1) := by decide +kernel
theorem dX7_resize_18 : decode cX7_resize 18 = .ok (.iload_n 2, 1) := by decide +kernel
theorem dX7_resize_19 : decode cX7_resize 19 = .ok (.iastore, 1) := by decide +kernel
theorem dX7_resize_20 : decode cX7_resize 20 = .ok (.return_, 1) := by decide +kernel
theorem dX7_crimeOn_0 : decode cX7_crimeOn 0 = .ok (.iload_n 1, 1) := by decide +kernel
theorem dX7_crimeOn_1 : decode cX7_crimeOn 1 = .ok (.ifCond .lt 21, 3) := by decide +kernel
theorem dX7_crimeOn_4 : decode cX7_crimeOn 4 = .ok (.iload_n 1, 1) := by decide +kernel
theorem dX7_crimeOn_5 : decode cX7_crimeOn 5 = .ok (.aload_n 0, 1) := by decide +kernel
