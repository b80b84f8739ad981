theorem dX7_crimeOn_6 : decode cX7_crimeOn 6 = .ok (.getfield 15, 3) := by decide +kernel
theorem dX7_crimeOn_9 : decode cX7_crimeOn 9 = .ok (.arraylength, 1) := by decide +kernel
theorem dX7_crimeOn_10 : decode cX7_crimeOn 10 = .ok (.if_icmp .ge 12, 3) := by decide +kernel
theorem dX7_crimeOn_13 : decode cX7_crimeOn 13 = .ok (.aload_n 0, 1) := by decide +kernel
theorem dX7_crimeOn_14 : decode cX7_crimeOn 14 = .ok (.getfield 15, 3) := by decide +kernel
theorem dX7_crimeOn_17 : decode cX7_crimeOn 17 = .ok (.iload_n 1, 1) := by decide +kernel
theorem dX7_crimeOn_18 : decode cX7_crimeOn 18 = .ok (.iaload, 1) := by decide +kernel
theorem dX7_crimeOn_19 : decode cX7_crimeOn 19 = .ok (.goto 4, 3) := by decide +kernel
theorem dX7_crimeOn_22 : decode cX7_crimeOn 22 = .ok (.iconst (-1), 1) := by decide +kernel
theorem dX7_crimeOn_23 : decode cX7_crimeOn 23 = .ok (.ireturn, 1) := by decide +kernel
theorem dX7_hangsOn_0 : decode cX7_hangsOn 0 = .ok (.iconst 0, 1) := by decide +kernel
theorem dX7_hangsOn_1 : decode cX7_hangsOn 1 = .ok (.istore_n 2, 1) := by decide +kernel
theorem dX7_hangsOn_2 : decode cX7_hangsOn 2 = .ok (.iload_n 2, 1) := by decide +kernel
theorem dX7_hangsOn_3 : decode cX7_hangsOn 3 = .ok (.aload_n 0, 1) := by decide +kernel
theorem dX7_hangsOn_4 : decode cX7_hangsOn 4 = .ok (.getfield 15, 3) := by decide +kernel
theorem dX7_hangsOn_7 : decode cX7_hangsOn 7 = .ok (.arraylength, 1) := by decide +kernel
theorem dX7_hangsOn_8 : decode cX7_hangsOn 8 = .ok (.if_icmp .ge 21, 3) := by decide +kernel
theorem dX7_hangsOn_11 : decode cX7_hangsOn 11 = .ok (.aload_n 0, 1) := by decide +kernel
theorem dX7_hangsOn_12 : decode cX7_hangsOn 12 = .ok (.getfield 15, 3) := by decide +kernel
theorem dX7_hangsOn_15 : decode cX7_hangsOn 15 = .ok (.iload_n 2, 1) := by decide +kernel
theorem dX7_hangsOn_16 : decode cX7_hangsOn 16 = .ok (.iaload, 1) := by decide +kernel
theorem dX7_hangsOn_17 : decode cX7_hangsOn 17 = .ok (.iload_n 1, 1) := by decide +kernel
theorem dX7_hangsOn_18 : decode cX7_hangsOn 18 = .ok (.if_icmp .ne 5, 3) := by decide +kernel
theorem dX7_hangsOn_21 : decode cX7_hangsOn 21 = .ok (.iload_n 2, 1) := by decide +kernel
theorem dX7_hangsOn_22 : decode cX7_hangsOn 22 = .ok (.ireturn, 1) := by decide +kernel
theorem dX7_hangsOn_23 : decode cX7_hangsOn 23 = .ok (.iinc 2 1, 3) := by decide +kernel
theorem dX7_hangsOn_26 : decode cX7_hangsOn 26 = .ok (.goto (-24), 3) := by decide +kernel
theorem dX7_hangsOn_29 : decode cX7_hangsOn 29 = .ok (.iconst (-1), 1) := by decide +kernel
theorem dX7_hangsOn_30 : decode cX7_hangsOn 30 = .ok (.ireturn, 1) := by decide +kernel
theorem dX7_hang_0 : decode cX7_hang 0 = .ok (.iload_n 1, 1) := by decide +kernel
theorem dX7_hang_1 : decode cX7_hang 1 = .ok (.ifCond .lt 19, 3) := by decide +kernel
theorem dX7_hang_4 : decode cX7_hang 4 = .ok (.iload_n 1, 1) := by decide +kernel
theorem dX7_hang_5 : decode cX7_hang 5 = .ok (.aload_n 0, 1) := by decide +kernel
theorem dX7_hang_6 : decode cX7_hang 6 = .ok (.getfield 15, 3) := by decide +kernel
theorem dX7_hang_9 : decode cX7_hang 9 = .ok (.arraylength, 1) := by decide +kernel
theorem dX7_hang_10 : decode cX7_hang 10 = .ok (.if_icmp .ge 10, 3) := by decide +kernel
theorem dX7_hang_13 : decode cX7_hang 13 = .ok (.aload_n 0, 1) := by decide +kernel
theorem dX7_hang_14 : decode cX7_hang 14 = .ok (.getfield 15, 3) := by decide +kernel
theorem dX7_hang_17 : decode cX7_hang 17 = .ok (.iload_n 1, 1) := by decide +kernel
theorem dX7_hang_18 : decode cX7_hang 18 = .ok (.iload_n 2, 1) := by decide +kernel
theorem dX7_hang_19 : decode cX7_hang 19 = .ok (.iastore, 1) := by decide +kernel
theorem dX7_hang_20 : decode cX7_hang 20 = .ok (.return_, 1) := by decide +kernel
theorem dX7_hanging_0 : decode cX7_hanging 0 = .ok (.iconst 0, 1) := by decide +kernel
theorem dX7_hanging_1 : decode cX7_hanging 1 = .ok (.istore_n 1, 1) := by decide +kernel
theorem dX7_hanging_2 : decode cX7_hanging 2 = .ok (.iconst 0, 1) := by decide +kernel
theorem dX7_hanging_3 : decode cX7_hanging 3 = .ok (.istore_n 2, 1) := by decide +kernel
theorem dX7_hanging_4 : decode cX7_hanging 4 = .ok (.iload_n 2, 1) := by decide +kernel
theorem dX7_hanging_5 : decode cX7_hanging 5 = .ok (.aload_n 0, 1) := by decide +kernel
theorem dX7_hanging_6 : decode cX7_hanging 6 = .ok (.getfield 15, 3) := by decide +kernel
theorem dX7_hanging_9 : decode cX7_hanging 9 = .ok (.arraylength, 1) := by decide +kernel
theorem dX7_hanging_10 : decode cX7_hanging 10 = .ok (.if_icmp .ge 22, 3) := by decide +kernel
theorem dX7_hanging_13 : decode cX7_hanging 13 = .ok (.aload_n 0, 1) := by decide +kernel
theorem dX7_hanging_14 : decode cX7_hanging 14 = .ok (.getfield 15, 3) := by decide +kernel
theorem dX7_hanging_17 : decode cX7_hanging 17 = .ok (.iload_n 2, 1) := by decide +kernel
theorem dX7_hanging_18 : decode cX7_hanging 18 = .ok (.iaload, 1) := by decide +kernel
theorem dX7_hanging_19 : decode cX7_hanging 19 = .ok (.iconst (-1), 1) := by decide +kernel
theorem dX7_hanging_20 : decode cX7_hanging 20 = .ok (.if_icmp .eq 6, 3) := by decide +kernel
theorem dX7_hanging_23 : decode cX7_hanging 23 = .ok (.iinc 1 1, 3) := by decide +kernel
theorem dX7_hanging_26 : decode cX7_hanging 26 = .ok (.iinc 2 1, 3) := by decide +kernel
theorem dX7_hanging_29 : decode cX7_hanging 29 = .ok (.goto (-25), 3) := by decide +kernel
theorem dX7_hanging_32 : decode cX7_hanging 32 = .ok (.iload_n 1, 1) := by decide +kernel
theorem dX7_hanging_33 : decode cX7_hanging 33 = .ok (.ireturn, 1) := by decide +kernel
theorem dX8_init_0 : decode cX8_init 0 = .ok (.aload_n 0, 1) := by decide +kernel
theorem dX8_init_1 : decode cX8_init 1 = .ok (.iload_n 1, 1) := by decide +kernel
theorem dX8_init_2 : decode cX8_init 2 = .ok (.iload_n 2, 1) := by decide +kernel
theorem dX8_init_3 : decode cX8_init 3 = .ok (.invokespecial 3, 3) := by decide +kernel
theorem dX8_init_6 : decode cX8_init 6 = .ok (.return_, 1) := by decide +kernel
theorem dX8_kind_0 : decode cX8_kind 0 = .ok (.iconst 1, 1) := by decide +kernel
theorem dX8_kind_1 : decode cX8_kind 1 = .ok (.ireturn, 1) := by decide +kernel
theorem dX8_bears_0 : decode cX8_bears 0 = .ok (.iconst 2, 1) := by decide +kernel
theorem dX8_bears_1 : decode cX8_bears 1 = .ok (.ireturn, 1) := by decide +kernel
theorem dX9_init_0 : decode cX9_init 0 = .ok (.aload_n 0, 1) := by decide +kernel
theorem dX9_init_1 : decode cX9_init 1 = .ok (.iload_n 1, 1) := by decide +kernel
theorem dX9_init_2 : decode cX9_init 2 = .ok (.iload_n 2, 1) := by decide +kernel
theorem dX9_init_3 : decode cX9_init 3 = .ok (.invokespecial 3, 3) := by decide +kernel
theorem dX9_init_6 : decode cX9_init 6 = .ok (.return_, 1) := by decide +kernel
theorem dX9_kind_0 : decode cX9_kind 0 = .ok (.iconst 4, 1) := by decide +kernel
theorem dX9_kind_1 : decode cX9_kind 1 = .ok (.ireturn, 1) := by decide +kernel
theorem dX9_hasHandLike_0 : decode cX9_hasHandLike 0 = .ok (.iconst 1, 1) := by decide +kernel
theorem dX9_hasHandLike_1 : decode cX9_hasHandLike 1 = .ok (.ireturn, 1) := by decide +kernel
theorem dX10_init_0 : decode cX10_init 0 = .ok (.aload_n 0, 1) := by decide +kernel
theorem dX10_init_1 : decode cX10_init 1 = .ok (.invokespecial 3, 3) := by decide +kernel
theorem dX10_init_4 : decode cX10_init 4 = .ok (.aload_n 0, 1) := by decide +kernel
theorem dX10_init_5 : decode cX10_init 5 = .ok (.bipush 6, 2) := by decide +kernel
theorem dX10_init_7 : decode cX10_init 7 = .ok (.newarray .int, 2) := by decide +kernel
theorem dX10_init_9 : decode cX10_init 9 = .ok (.putfield 9, 3) := by decide +kernel
theorem dX10_init_12 : decode cX10_init 12 = .ok (.aload_n 0, 1) := by decide +kernel
theorem dX10_init_13 : decode cX10_init 13 = .ok (.bipush 6, 2) := by decide +kernel
theorem dX10_init_15 : decode cX10_init 15 = .ok (.newarray .int, 2) := by decide +kernel
theorem dX10_init_17 : decode cX10_init 17 = .ok (.putfield 15, 3) := by decide +kernel
theorem dX10_init_20 : decode cX10_init 20 = .ok (.aload_n 0, 1) := by decide +kernel
theorem dX10_init_21 : decode cX10_init 21 = .ok (.bipush 6, 2) := by decide +kernel
theorem dX10_init_23 : decode cX10_init 23 = .ok (.newarray .int, 2) := by decide +kernel
theorem dX10_init_25 : decode cX10_init 25 = .ok (.putfield 18, 3) := by decide +kernel
theorem dX10_init_28 : decode cX10_init 28 = .ok (.aload_n 0, 1) := by decide +kernel
theorem dX10_init_29 : decode cX10_init 29 = .ok (.bipush 6, 2) := by decide +kernel
theorem dX10_init_31 : decode cX10_init 31 = .ok (.newarray .boolean, 2) := by decide +kernel
theorem dX10_init_33 : decode cX10_init 33 = .ok (.putfield 21, 3) := by decide +kernel
theorem dX10_init_36 : decode cX10_init 36 = .ok (.return_, 1) := by decide +kernel
theorem dX10_many_0 : decode cX10_many 0 = .ok (.aload_n 0, 1) := by decide +kernel
theorem dX10_many_1 : decode cX10_many 1 = .ok (.getfield 25, 3) := by decide +kernel
theorem dX10_many_4 : decode cX10_many 4 = .ok (.ireturn, 1) := by decide +kernel
theorem dX10_isFull_0 : decode cX10_isFull 0 = .ok (.aload_n 0, 1) := by decide +kernel
theorem dX10_isFull_1 : decode cX10_isFull 1 = .ok (.getfield 25, 3) := by decide +kernel
theorem dX10_isFull_4 : decode cX10_isFull 4 = .ok (.bipush 6, 2) := by decide +kernel
theorem dX10_isFull_6 : decode cX10_isFull 6 = .ok (.if_icmp .lt 7, 3) := by decide +kernel
theorem dX10_isFull_9 : decode cX10_isFull 9 = .ok (.iconst 1, 1) := by decide +kernel
theorem dX10_isFull_10 : decode cX10_isFull 10 = .ok (.goto 4, 3) := by decide +kernel
theorem dX10_isFull_13 : decode cX10_isFull 13 = .ok (.iconst 0, 1) := by decide +kernel
theorem dX10_isFull_14 : decode cX10_isFull 14 = .ok (.ireturn, 1) := by decide +kernel
theorem dX10_add_0 : decode cX10_add 0 = .ok (.aload_n 0, 1) := by decide +kernel
theorem dX10_add_1 : decode cX10_add 1 = .ok (.getfield 25, 3) := by decide +kernel
theorem dX10_add_4 : decode cX10_add 4 = .ok (.ifCond .lt 12, 3) := by decide +kernel
theorem dX10_add_7 : decode cX10_add 7 = .ok (.aload_n 0, 1) := by decide +kernel
theorem dX10_add_8 : decode cX10_add 8 = .ok (.getfield 25, 3) := by decide +kernel
theorem dX10_add_11 : decode cX10_add 11 = .ok (.bipush 6, 2) := by decide +kernel
theorem dX10_add_13 : decode cX10_add 13 = .ok (.if_icmp .lt 4, 3) := by decide +kernel
theorem dX10_add_16 : decode cX10_add 16 = .ok (.return_, 1) := by decide +kernel
theorem dX10_add_17 : decode cX10_add 17 = .ok (.aload_n 0, 1) := by decide +kernel
theorem dX10_add_18 : decode cX10_add 18 = .ok (.getfield 9, 3) := by decide +kernel
theorem dX10_add_21 : decode cX10_add 21 = .ok (.aload_n 0, 1) := by decide +kernel
theorem dX10_add_22 : decode cX10_add 22 = .ok (.getfield 25, 3) := by decide +kernel
theorem dX10_add_25 : decode cX10_add 25 = .ok (.iload_n 1, 1) := by decide +kernel
theorem dX10_add_26 : decode cX10_add 26 = .ok (.iastore, 1) := by decide +kernel
theorem dX10_add_27 : decode cX10_add 27 = .ok (.aload_n 0, 1) := by decide +kernel
theorem dX10_add_28 : decode cX10_add 28 = .ok (.getfield 15, 3) := by decide +kernel
theorem dX10_add_31 : decode cX10_add 31 = .ok (.aload_n 0, 1) := by decide +kernel
theorem dX10_add_32 : decode cX10_add 32 = .ok (.getfield 25, 3) := by decide +kernel
theorem dX10_add_35 : decode cX10_add 35 = .ok (.iload_n 2, 1) := by decide +kernel
theorem dX10_add_36 : decode cX10_add 36 = .ok (.iastore, 1) := by decide +kernel
theorem dX10_add_37 : decode cX10_add 37 = .ok (.aload_n 0, 1) := by decide +kernel
theorem dX10_add_38 : decode cX10_add 38 = .ok (.getfield 18, 3) := by decide +kernel
theorem dX10_add_41 : decode cX10_add 41 = .ok (.aload_n 0, 1) := by decide +kernel
theorem dX10_add_42 : decode cX10_add 42 = .ok (.getfield 25, 3) := by decide +kernel
theorem dX10_add_45 : decode cX10_add 45 = .ok (.iload_n 3, 1) := by decide +kernel
theorem dX10_add_46 : decode cX10_add 46 = .ok (.iastore, 1) := by decide +kernel
theorem dX10_add_47 : decode cX10_add 47 = .ok (.aload_n 0, 1) := by decide +kernel
theorem dX10_add_48 : decode cX10_add 48 = .ok (.getfield 21, 3) := by decide +kernel
theorem dX10_add_51 : decode cX10_add 51 = .ok (.aload_n 0, 1) := by decide +kernel
theorem dX10_add_52 : decode cX10_add 52 = .ok (.getfield 25, 3) := by decide +kernel
theorem dX10_add_55 : decode cX10_add 55 = .ok (.iload 4, 2) := by decide +kernel
theorem dX10_add_57 : decode cX10_add 57 = .ok (.bastore, 1) := by decide +kernel
theorem dX10_add_58 : decode cX10_add 58 = .ok (.aload_n 0, 1) := by decide +kernel
theorem dX10_add_59 : decode cX10_add 59 = .ok (.dup, 1) := by decide +kernel
theorem dX10_add_60 : decode cX10_add 60 = .ok (.getfield 25, 3) := by decide +kernel
theorem dX10_add_63 : decode cX10_add 63 = .ok (.iconst 1, 1) := by decide +kernel
theorem dX10_add_64 : decode cX10_add 64 = .ok (.iadd, 1) := by decide +kernel
theorem dX10_add_65 : decode cX10_add 65 = .ok (.putfield 25, 3) := by decide +kernel
theorem dX10_add_68 : decode cX10_add 68 = .ok (.return_, 1) := by decide +kernel
theorem dX10_clear_0 : decode cX10_clear 0 = .ok (.aload_n 0, 1) := by decide +kernel
theorem dX10_clear_1 : decode cX10_clear 1 = .ok (.iconst 0, 1) := by decide +kernel
theorem dX10_clear_2 : decode cX10_clear 2 = .ok (.putfield 25, 3) := by decide +kernel
theorem dX10_clear_5 : decode cX10_clear 5 = .ok (.return_, 1) := by decide +kernel
theorem dX10_copyFrom_0 : decode cX10_copyFrom 0 = .ok (.aload_n 1, 1) := by decide +kernel
theorem dX10_copyFrom_1 : decode cX10_copyFrom 1 = .ok (.ifnonnull 4, 3) := by decide +kernel
theorem dX10_copyFrom_4 : decode cX10_copyFrom 4 = .ok (.return_, 1) := by decide +kernel
theorem dX10_copyFrom_5 : decode cX10_copyFrom 5 = .ok (.aload_n 0, 1) := by decide +kernel
theorem dX10_copyFrom_6 : decode cX10_copyFrom 6 = .ok (.invokevirtual 29, 3) := by decide +kernel
theorem dX10_copyFrom_9 : decode cX10_copyFrom 9 = .ok (.iconst 0, 1) := by decide +kernel
theorem dX10_copyFrom_10 : decode cX10_copyFrom 10 = .ok (.istore_n 2, 1) := by decide +kernel
theorem dX10_copyFrom_11 : decode cX10_copyFrom 11 = .ok (.iload_n 2, 1) := by decide +kernel
theorem dX10_copyFrom_12 : decode cX10_copyFrom 12 = .ok (.aload_n 1, 1) := by decide +kernel
theorem dX10_copyFrom_13 : decode cX10_copyFrom 13 = .ok (.getfield 25, 3) := by decide +kernel
theorem dX10_copyFrom_16 : decode cX10_copyFrom 16 = .ok (.if_icmp .ge 43, 3) := by decide +kernel
theorem dX10_copyFrom_19 : decode cX10_copyFrom 19 = .ok (.iload_n 2, 1) := by decide +kernel
theorem dX10_copyFrom_20 : decode cX10_copyFrom 20 = .ok (.bipush 6, 2) := by decide +kernel
theorem dX10_copyFrom_22 : decode cX10_copyFrom 22 = .ok (.if_icmp .ge 37, 3) := by decide +kernel
theorem dX10_copyFrom_25 : decode cX10_copyFrom 25 = .ok (.aload_n 0, 1) := by decide +kernel
theorem dX10_copyFrom_26 : decode cX10_copyFrom 26 = .ok (.aload_n 1, 1) := by decide +kernel
theorem dX10_copyFrom_27 : decode cX10_copyFrom 27 = .ok (.getfield 9, 3) := by decide +kernel
theorem dX10_copyFrom_30 : decode cX10_copyFrom 30 = .ok (.iload_n 2, 1) := by decide +kernel
theorem dX10_copyFrom_31 : decode cX10_copyFrom 31 = .ok (.iaload, 1) := by decide +kernel
theorem dX10_copyFrom_32 : decode cX10_copyFrom 32 = .ok (.aload_n 1, 1) := by decide +kernel
theorem dX10_copyFrom_33 : decode cX10_copyFrom 33 = .ok (.getfield 15, 3) := by decide +kernel
theorem dX10_copyFrom_36 : decode cX10_copyFrom 36 = .ok (.iload_n 2, 1) := by decide +kernel
theorem dX10_copyFrom_37 : decode cX10_copyFrom 37 = .ok (.iaload, 1) := by decide +kernel
theorem dX10_copyFrom_38 : decode cX10_copyFrom 38 = .ok (.aload_n 1, 1) := by decide +kernel
theorem dX10_copyFrom_39 : decode cX10_copyFrom 39 = .ok (.getfield 18, 3) := by decide +kernel
theorem dX10_copyFrom_42 : decode cX10_copyFrom 42 = .ok (.iload_n 2, 1) := by decide +kernel
theorem dX10_copyFrom_43 : decode cX10_copyFrom 43 = .ok (.iaload, 1) := by decide +kernel
theorem dX10_copyFrom_44 : decode cX10_copyFrom 44 = .ok (.aload_n 1, 1) := by decide +kernel
theorem dX10_copyFrom_45 : decode cX10_copyFrom 45 = .ok (.getfield 21, 3) := by decide +kernel
theorem dX10_copyFrom_48 : decode cX10_copyFrom 48 = .ok (.iload_n 2, 1) := by decide +kernel
theorem dX10_copyFrom_49 : decode cX10_copyFrom 49 = .ok (.baload, 1) := by decide +kernel
theorem dX10_copyFrom_50 : decode cX10_copyFrom 50 = .ok (.invokevirtual 32, 3) := by decide +kernel
theorem dX10_copyFrom_53 : decode cX10_copyFrom 53 = .ok (.iinc 2 1, 3) := by decide +kernel
theorem dX10_copyFrom_56 : decode cX10_copyFrom 56 = .ok (.goto (-45), 3) := by decide +kernel
theorem dX10_copyFrom_59 : decode cX10_copyFrom 59 = .ok (.return_, 1) := by decide +kernel
theorem dX10_allow_0 : decode cX10_allow 0 = .ok (.aload_n 2, 1) := by decide +kernel
theorem dX10_allow_1 : decode cX10_allow 1 = .ok (.ifnonnull 5, 3) := by decide +kernel
theorem dX10_allow_4 : decode cX10_allow 4 = .ok (.iconst 0, 1) := by decide +kernel
theorem dX10_allow_5 : decode cX10_allow 5 = .ok (.ireturn, 1) := by decide +kernel
theorem dX10_allow_6 : decode cX10_allow 6 = .ok (.iconst 0, 1) := by decide +kernel
theorem dX10_allow_7 : decode cX10_allow 7 = .ok (.istore 4, 2) := by decide +kernel
theorem dX10_allow_9 : decode cX10_allow 9 = .ok (.iload 4, 2) := by decide +kernel
theorem dX10_allow_11 : decode cX10_allow 11 = .ok (.aload_n 0, 1) := by decide +kernel
theorem dX10_allow_12 : decode cX10_allow 12 = .ok (.getfield 25, 3) := by decide +kernel
theorem dX10_allow_15 : decode cX10_allow 15 = .ok (.if_icmp .ge 70, 3) := by decide +kernel
theorem dX10_allow_18 : decode cX10_allow 18 = .ok (.iload 4, 2) := by decide +kernel
theorem dX10_allow_20 : decode cX10_allow 20 = .ok (.bipush 6, 2) := by decide +kernel
theorem dX10_allow_22 : decode cX10_allow 22 = .ok (.if_icmp .ge 63, 3) := by decide +kernel
theorem dX10_allow_25 : decode cX10_allow 25 = .ok (.aload_n 0, 1) := by decide +kernel
theorem dX10_allow_26 : decode cX10_allow 26 = .ok (.getfield 9, 3) := by decide +kernel
theorem dX10_allow_29 : decode cX10_allow 29 = .ok (.iload 4, 2) := by decide +kernel
theorem dX10_allow_31 : decode cX10_allow 31 = .ok (.iaload, 1) := by decide +kernel
theorem dX10_allow_32 : decode cX10_allow 32 = .ok (.iload_n 1, 1) := by decide +kernel
theorem dX10_allow_33 : decode cX10_allow 33 = .ok (.if_icmp .ne 7, 3) := by decide +kernel
theorem dX10_allow_36 : decode cX10_allow 36 = .ok (.iconst 1, 1) := by decide +kernel
theorem dX10_allow_37 : decode cX10_allow 37 = .ok (.goto 4, 3) := by decide +kernel
theorem dX10_allow_40 : decode cX10_allow 40 = .ok (.iconst 0, 1) := by decide +kernel
theorem dX10_allow_41 : decode cX10_allow 41 = .ok (.istore 5, 2) := by decide +kernel
theorem dX10_allow_43 : decode cX10_allow 43 = .ok (.iload 5, 2) := by decide +kernel
theorem dX10_allow_45 : decode cX10_allow 45 = .ok (.ifCond .eq 34, 3) := by decide +kernel
theorem dX10_allow_48 : decode cX10_allow 48 = .ok (.aload_n 2, 1) := by decide +kernel
theorem dX10_allow_49 : decode cX10_allow 49 = .ok (.iload_n 3, 1) := by decide +kernel
theorem dX10_allow_50 : decode cX10_allow 50 = .ok (.aload_n 0, 1) := by decide +kernel
theorem dX10_allow_51 : decode cX10_allow 51 = .ok (.getfield 15, 3) := by decide +kernel
theorem dX10_allow_54 : decode cX10_allow 54 = .ok (.iload 4, 2) := by decide +kernel
theorem dX10_allow_56 : decode cX10_allow 56 = .ok (.iaload, 1) := by decide +kernel
theorem dX10_allow_57 : decode cX10_allow 57 = .ok (.aload_n 0, 1) := by decide +kernel
theorem dX10_allow_58 : decode cX10_allow 58 = .ok (.getfield 18, 3) := by decide +kernel
theorem dX10_allow_61 : decode cX10_allow 61 = .ok (.iload 4, 2) := by decide +kernel
theorem dX10_allow_63 : decode cX10_allow 63 = .ok (.iaload, 1) := by decide +kernel
theorem dX10_allow_64 : decode cX10_allow 64 = .ok (.invokevirtual 36, 3) := by decide +kernel
theorem dX10_allow_67 : decode cX10_allow 67 = .ok (.aload_n 0, 1) := by decide +kernel
theorem dX10_allow_68 : decode cX10_allow 68 = .ok (.getfield 21, 3) := by decide +kernel
theorem dX10_allow_71 : decode cX10_allow 71 = .ok (.iload 4, 2) := by decide +kernel
theorem dX10_allow_73 : decode cX10_allow 73 = .ok (.baload, 1) := by decide +kernel
theorem dX10_allow_74 : decode cX10_allow 74 = .ok (.if_icmp .eq 5, 3) := by decide +kernel
theorem dX10_allow_77 : decode cX10_allow 77 = .ok (.iconst 0, 1) := by decide +kernel
theorem dX10_allow_78 : decode cX10_allow 78 = .ok (.ireturn, 1) := by decide +kernel
theorem dX10_allow_79 : decode cX10_allow 79 = .ok (.iinc 4 1, 3) := by decide +kernel
theorem dX10_allow_82 : decode cX10_allow 82 = .ok (.goto (-73), 3) := by decide +kernel
theorem dX10_allow_85 : decode cX10_allow 85 = .ok (.iconst 1, 1) := by decide +kernel
theorem dX10_allow_86 : decode cX10_allow 86 = .ok (.ireturn, 1) := by decide +kernel
theorem dX11_init_0 : decode cX11_init 0 = .ok (.aload_n 0, 1) := by decide +kernel
theorem dX11_init_1 : decode cX11_init 1 = .ok (.invokespecial 1, 3) := by decide +kernel
theorem dX11_init_4 : decode cX11_init 4 = .ok (.aload_n 0, 1) := by decide +kernel
theorem dX11_init_5 : decode cX11_init 5 = .ok (.new 7, 3) := by decide +kernel
theorem dX11_init_8 : decode cX11_init 8 = .ok (.dup, 1) := by decide +kernel
theorem dX11_init_9 : decode cX11_init 9 = .ok (.invokespecial 9, 3) := by decide +kernel
theorem dX11_init_12 : decode cX11_init 12 = .ok (.putfield 10, 3) := by decide +kernel
theorem dX11_init_15 : decode cX11_init 15 = .ok (.aload_n 0, 1) := by decide +kernel
theorem dX11_init_16 : decode cX11_init 16 = .ok (.new 16, 3) := by decide +kernel
theorem dX11_init_19 : decode cX11_init 19 = .ok (.dup, 1) := by decide +kernel
theorem dX11_init_20 : decode cX11_init 20 = .ok (.invokespecial 18, 3) := by decide +kernel
theorem dX11_init_23 : decode cX11_init 23 = .ok (.putfield 19, 3) := by decide +kernel
theorem dX11_init_26 : decode cX11_init 26 = .ok (.aload_n 0, 1) := by decide +kernel
theorem dX11_init_27 : decode cX11_init 27 = .ok (.new 23, 3) := by decide +kernel
theorem dX11_init_30 : decode cX11_init 30 = .ok (.dup, 1) := by decide +kernel
theorem dX11_init_31 : decode cX11_init 31 = .ok (.invokespecial 25, 3) := by decide +kernel
theorem dX11_init_34 : decode cX11_init 34 = .ok (.putfield 26, 3) := by decide +kernel
theorem dX11_init_37 : decode cX11_init 37 = .ok (.aload_n 0, 1) := by decide +kernel
theorem dX11_init_38 : decode cX11_init 38 = .ok (.new 23, 3) := by decide +kernel
theorem dX11_init_41 : decode cX11_init 41 = .ok (.dup, 1) := by decide +kernel
theorem dX11_init_42 : decode cX11_init 42 = .ok (.invokespecial 25, 3) := by decide +kernel
theorem dX11_init_45 : decode cX11_init 45 = .ok (.putfield 30, 3) := by decide +kernel
theorem dX11_init_48 : decode cX11_init 48 = .ok (.aload_n 0, 1) := by decide +kernel
theorem dX11_init_49 : decode cX11_init 49 = .ok (.new 23, 3) := by decide +kernel
theorem dX11_init_52 : decode cX11_init 52 = .ok (.dup, 1) := by decide +kernel
theorem dX11_init_53 : decode cX11_init 53 = .ok (.invokespecial 25, 3) := by decide +kernel
theorem dX11_init_56 : decode cX11_init 56 = .ok (.putfield 33, 3) := by decide +kernel
theorem dX11_init_59 : decode cX11_init 59 = .ok (.aload_n 0, 1) := by decide +kernel
theorem dX11_init_60 : decode cX11_init 60 = .ok (.new 36, 3) := by decide +kernel
theorem dX11_init_63 : decode cX11_init 63 = .ok (.dup, 1) := by decide +kernel
theorem dX11_init_64 : decode cX11_init 64 = .ok (.invokespecial 38, 3) := by decide +kernel
theorem dX11_init_67 : decode cX11_init 67 = .ok (.putfield 39, 3) := by decide +kernel
theorem dX11_init_70 : decode cX11_init 70 = .ok (.return_, 1) := by decide +kernel
theorem dX11_letter_0 : decode cX11_letter 0 = .ok (.iload_n 1, 1) := by decide +kernel
theorem dX11_letter_1 : decode cX11_letter 1 = .ok (.bipush 32, 2) := by decide +kernel
theorem dX11_letter_3 : decode cX11_letter 3 = .ok (.if_icmp .lt 9, 3) := by decide +kernel
theorem dX11_letter_6 : decode cX11_letter 6 = .ok (.iload_n 1, 1) := by decide +kernel
theorem dX11_letter_7 : decode cX11_letter 7 = .ok (.bipush 126, 2) := by decide +kernel
theorem dX11_letter_9 : decode cX11_letter 9 = .ok (.if_icmp .le 6, 3) := by decide +kernel
theorem dX11_letter_12 : decode cX11_letter 12 = .ok (.bipush (-102), 2) := by decide +kernel
theorem dX11_letter_14 : decode cX11_letter 14 = .ok (.ireturn, 1) := by decide +kernel
theorem dX11_letter_15 : decode cX11_letter 15 = .ok (.aload_n 0, 1) := by decide +kernel
theorem dX11_letter_16 : decode cX11_letter 16 = .ok (.getfield 10, 3) := by decide +kernel
theorem dX11_letter_19 : decode cX11_letter 19 = .ok (.invokevirtual 43, 3) := by decide +kernel
theorem dX11_letter_22 : decode cX11_letter 22 = .ok (.ifCond .eq 6, 3) := by decide +kernel
theorem dX11_letter_25 : decode cX11_letter 25 = .ok (.bipush (-104), 2) := by decide +kernel
theorem dX11_letter_27 : decode cX11_letter 27 = .ok (.ireturn, 1) := by decide +kernel
theorem dX11_letter_28 : decode cX11_letter 28 = .ok (.aload_n 0, 1) := by decide +kernel
theorem dX11_letter_29 : decode cX11_letter 29 = .ok (.getfield 10, 3) := by decide +kernel
theorem dX11_letter_32 : decode cX11_letter 32 = .ok (.iload_n 1, 1) := by decide +kernel
theorem dX11_letter_33 : decode cX11_letter 33 = .ok (.invokevirtual 47, 3) := by decide +kernel
theorem dX11_letter_36 : decode cX11_letter 36 = .ok (.aload_n 0, 1) := by decide +kernel
theorem dX11_letter_37 : decode cX11_letter 37 = .ok (.getfield 10, 3) := by decide +kernel
theorem dX11_letter_40 : decode cX11_letter 40 = .ok (.invokevirtual 51, 3) := by decide +kernel
theorem dX11_letter_43 : decode cX11_letter 43 = .ok (.ireturn, 1) := by decide +kernel
theorem dX11_blank_0 : decode cX11_blank 0 = .ok (.aload_n 0, 1) := by decide +kernel
theorem dX11_blank_1 : decode cX11_blank 1 = .ok (.getfield 10, 3) := by decide +kernel
theorem dX11_blank_4 : decode cX11_blank 4 = .ok (.invokevirtual 51, 3) := by decide +kernel
theorem dX11_blank_7 : decode cX11_blank 7 = .ok (.istore_n 1, 1) := by decide +kernel
theorem dX11_blank_8 : decode cX11_blank 8 = .ok (.aload_n 0, 1) := by decide +kernel
theorem dX11_blank_9 : decode cX11_blank 9 = .ok (.getfield 10, 3) := by decide +kernel
theorem dX11_blank_12 : decode cX11_blank 12 = .ok (.invokevirtual 55, 3) := by decide +kernel
theorem dX11_blank_15 : decode cX11_blank 15 = .ok (.iload_n 1, 1) := by decide +kernel
theorem dX11_blank_16 : decode cX11_blank 16 = .ok (.ireturn, 1) := by decide +kernel
theorem dX11_fault_0 : decode cX11_fault 0 = .ok (.aload_n 0, 1) := by decide +kernel
theorem dX11_fault_1 : decode cX11_fault 1 = .ok (.getfield 10, 3) := by decide +kernel
theorem dX11_fault_4 : decode cX11_fault 4 = .ok (.invokevirtual 58, 3) := by decide +kernel
theorem dX11_fault_7 : decode cX11_fault 7 = .ok (.ireturn, 1) := by decide +kernel
theorem dX11_station_0 : decode cX11_station 0 = .ok (.aload_n 0, 1) := by decide +kernel
theorem dX11_station_1 : decode cX11_station 1 = .ok (.getfield 10, 3) := by decide +kernel
theorem dX11_station_4 : decode cX11_station 4 = .ok (.invokevirtual 61, 3) := by decide +kernel
theorem dX11_station_7 : decode cX11_station 7 = .ok (.ifCond .ne 6, 3) := by decide +kernel
theorem dX11_station_10 : decode cX11_station 10 = .ok (.bipush (-103), 2) := by decide +kernel
theorem dX11_station_12 : decode cX11_station 12 = .ok (.ireturn, 1) := by decide +kernel
theorem dX11_station_13 : decode cX11_station 13 = .ok (.aload_n 0, 1) := by decide +kernel
theorem dX11_station_14 : decode cX11_station 14 = .ok (.getfield 19, 3) := by decide +kernel
theorem dX11_station_17 : decode cX11_station 17 = .ok (.aload_n 0, 1) := by decide +kernel
theorem dX11_station_18 : decode cX11_station 18 = .ok (.getfield 10, 3) := by decide +kernel
theorem dX11_station_21 : decode cX11_station 21 = .ok (.invokevirtual 64, 3) := by decide +kernel
theorem dX11_station_24 : decode cX11_station 24 = .ok (.aload_n 0, 1) := by decide +kernel
theorem dX11_station_25 : decode cX11_station 25 = .ok (.getfield 26, 3) := by decide +kernel
theorem dX11_station_28 : decode cX11_station 28 = .ok (.aload_n 0, 1) := by decide +kernel
theorem dX11_station_29 : decode cX11_station 29 = .ok (.getfield 19, 3) := by decide +kernel
theorem dX11_station_32 : decode cX11_station 32 = .ok (.invokevirtual 68, 3) := by decide +kernel
theorem dX11_station_35 : decode cX11_station 35 = .ok (.aload_n 0, 1) := by decide +kernel
theorem dX11_station_36 : decode cX11_station 36 = .ok (.iconst 0, 1) := by decide +kernel
theorem dX11_station_37 : decode cX11_station 37 = .ok (.putfield 72, 3) := by decide +kernel
theorem dX11_station_40 : decode cX11_station 40 = .ok (.aload_n 0, 1) := by decide +kernel
theorem dX11_station_41 : decode cX11_station 41 = .ok (.getfield 10, 3) := by decide +kernel
theorem dX11_station_44 : decode cX11_station 44 = .ok (.invokevirtual 55, 3) := by decide +kernel
theorem dX11_station_47 : decode cX11_station 47 = .ok (.aload_n 0, 1) := by decide +kernel
theorem dX11_station_48 : decode cX11_station 48 = .ok (.dup, 1) := by decide +kernel
theorem dX11_station_49 : decode cX11_station 49 = .ok (.getfield 76, 3) := by decide +kernel
theorem dX11_station_52 : decode cX11_station 52 = .ok (.iconst 1, 1) := by decide +kernel
theorem dX11_station_53 : decode cX11_station 53 = .ok (.iadd, 1) := by decide +kernel
theorem dX11_station_54 : decode cX11_station 54 = .ok (.putfield 76, 3) := by decide +kernel
theorem dX11_station_57 : decode cX11_station 57 = .ok (.aload_n 0, 1) := by decide +kernel
theorem dX11_station_58 : decode cX11_station 58 = .ok (.getfield 19, 3) := by decide +kernel
theorem dX11_station_61 : decode cX11_station 61 = .ok (.invokevirtual 80, 3) := by decide +kernel
theorem dX11_station_64 : decode cX11_station 64 = .ok (.ireturn, 1) := by decide +kernel
theorem dX11_about_0 : decode cX11_about 0 = .ok (.aload_n 0, 1) := by decide +kernel
theorem dX11_about_1 : decode cX11_about 1 = .ok (.getfield 19, 3) := by decide +kernel
theorem dX11_about_4 : decode cX11_about 4 = .ok (.iload_n 1, 1) := by decide +kernel
theorem dX11_about_5 : decode cX11_about 5 = .ok (.invokevirtual 83, 3) := by decide +kernel
theorem dX11_about_8 : decode cX11_about 8 = .ok (.astore_n 3, 1) := by decide +kernel
theorem dX11_about_9 : decode cX11_about 9 = .ok (.aload_n 3, 1) := by decide +kernel
theorem dX11_about_10 : decode cX11_about 10 = .ok (.ifnonnull 6, 3) := by decide +kernel
theorem dX11_about_13 : decode cX11_about 13 = .ok (.bipush (-101), 2) := by decide +kernel
theorem dX11_about_15 : decode cX11_about 15 = .ok (.ireturn, 1) := by decide +kernel
theorem dX11_about_16 : decode cX11_about 16 = .ok (.iload_n 2, 1) := by decide +kernel
theorem dX11_about_17 : decode cX11_about 17 = .ok (.ifCond .lt 9, 3) := by decide +kernel
theorem dX11_about_20 : decode cX11_about 20 = .ok (.iload_n 2, 1) := by decide +kernel
theorem dX11_about_21 : decode cX11_about 21 = .ok (.bipush 8, 2) := by decide +kernel
theorem dX11_about_23 : decode cX11_about 23 = .ok (.if_icmp .le 6, 3) := by decide +kernel
theorem dX11_about_26 : decode cX11_about 26 = .ok (.bipush (-102), 2) := by decide +kernel
theorem dX11_about_28 : decode cX11_about 28 = .ok (.ireturn, 1) := by decide +kernel
theorem dX11_about_29 : decode cX11_about 29 = .ok (.iload_n 2, 1) := by decide +kernel
theorem dX11_about_30 : decode cX11_about 30 = .ok (.tableswitch 97 0 7 #[46, 51, 56, 61, 66, 75, 85, 91], 46) := by decide +kernel
theorem dX11_about_76 : decode cX11_about 76 = .ok (.aload_n 3, 1) := by decide +kernel
theorem dX11_about_77 : decode cX11_about 77 = .ok (.invokevirtual 87, 3) := by decide +kernel
theorem dX11_about_80 : decode cX11_about 80 = .ok (.ireturn, 1) := by decide +kernel
theorem dX11_about_81 : decode cX11_about 81 = .ok (.aload_n 3, 1) := by decide +kernel
theorem dX11_about_82 : decode cX11_about 82 = .ok (.getfield 92, 3) := by decide +kernel
theorem dX11_about_85 : decode cX11_about 85 = .ok (.ireturn, 1) := by decide +kernel
theorem dX11_about_86 : decode cX11_about 86 = .ok (.aload_n 3, 1) := by decide +kernel
theorem dX11_about_87 : decode cX11_about 87 = .ok (.getfield 95, 3) := by decide +kernel
theorem dX11_about_90 : decode cX11_about 90 = .ok (.ireturn, 1) := by decide +kernel
theorem dX11_about_91 : decode cX11_about 91 = .ok (.aload_n 3, 1) := by decide +kernel
theorem dX11_about_92 : decode cX11_about 92 = .ok (.invokevirtual 98, 3) := by decide +kernel
theorem dX11_about_95 : decode cX11_about 95 = .ok (.ireturn, 1) := by decide +kernel
theorem dX11_about_96 : decode cX11_about 96 = .ok (.aload_n 0, 1) := by decide +kernel
theorem dX11_about_97 : decode cX11_about 97 = .ok (.getfield 26, 3) := by decide +kernel
theorem dX11_about_100 : decode cX11_about 100 = .ok (.iload_n 1, 1) := by decide +kernel
theorem dX11_about_101 : decode cX11_about 101 = .ok (.invokevirtual 101, 3) := by decide +kernel
theorem dX11_about_104 : decode cX11_about 104 = .ok (.ireturn, 1) := by decide +kernel
theorem dX11_about_105 : decode cX11_about 105 = .ok (.aload_n 0, 1) := by decide +kernel
theorem dX11_about_106 : decode cX11_about 106 = .ok (.aload_n 0, 1) := by decide +kernel
theorem dX11_about_107 : decode cX11_about 107 = .ok (.getfield 26, 3) := by decide +kernel
theorem dX11_about_110 : decode cX11_about 110 = .ok (.iload_n 1, 1) := by decide +kernel
theorem dX11_about_111 : decode cX11_about 111 = .ok (.invokevirtual 105, 3) := by decide +kernel
theorem dX11_about_114 : decode cX11_about 114 = .ok (.ireturn, 1) := by decide +kernel
theorem dX11_about_115 : decode cX11_about 115 = .ok (.aload_n 0, 1) := by decide +kernel
theorem dX11_about_116 : decode cX11_about 116 = .ok (.iload_n 1, 1) := by decide +kernel
theorem dX11_about_117 : decode cX11_about 117 = .ok (.invokevirtual 109, 3) := by decide +kernel
theorem dX11_about_120 : decode cX11_about 120 = .ok (.ireturn, 1) := by decide +kernel
theorem dX11_about_121 : decode cX11_about 121 = .ok (.aload_n 0, 1) := by decide +kernel
theorem dX11_about_122 : decode cX11_about 122 = .ok (.iload_n 1, 1) := by decide +kernel
theorem dX11_about_123 : decode cX11_about 123 = .ok (.invokevirtual 112, 3) := by decide +kernel
theorem dX11_about_126 : decode cX11_about 126 = .ok (.ireturn, 1) := by decide +kernel
theorem dX11_about_127 : decode cX11_about 127 = .ok (.aload_n 0, 1) := by decide +kernel
theorem dX11_about_128 : decode cX11_about 128 = .ok (.iload_n 1, 1) := by decide +kernel
theorem dX11_about_129 : decode cX11_about 129 = .ok (.invokevirtual 115, 3) := by decide +kernel
theorem dX11_about_132 : decode cX11_about 132 = .ok (.ireturn, 1) := by decide +kernel
theorem dX11_as_0 : decode cX11_as 0 = .ok (.aload_n 0, 1) := by decide +kernel
theorem dX11_as_1 : decode cX11_as 1 = .ok (.getfield 19, 3) := by decide +kernel
theorem dX11_as_4 : decode cX11_as 4 = .ok (.iload_n 1, 1) := by decide +kernel
theorem dX11_as_5 : decode cX11_as 5 = .ok (.invokevirtual 83, 3) := by decide +kernel
theorem dX11_as_8 : decode cX11_as 8 = .ok (.astore_n 3, 1) := by decide +kernel
theorem dX11_as_9 : decode cX11_as 9 = .ok (.aload_n 3, 1) := by decide +kernel
theorem dX11_as_10 : decode cX11_as 10 = .ok (.ifnonnull 6, 3) := by decide +kernel
theorem dX11_as_13 : decode cX11_as 13 = .ok (.bipush (-101), 2) := by decide +kernel
theorem dX11_as_15 : decode cX11_as 15 = .ok (.ireturn, 1) := by decide +kernel
theorem dX11_as_16 : decode cX11_as 16 = .ok (.iload_n 2, 1) := by decide +kernel
theorem dX11_as_17 : decode cX11_as 17 = .ok (.ifCond .lt 8, 3) := by decide +kernel
theorem dX11_as_20 : decode cX11_as 20 = .ok (.iload_n 2, 1) := by decide +kernel
theorem dX11_as_21 : decode cX11_as 21 = .ok (.iconst 4, 1) := by decide +kernel
theorem dX11_as_22 : decode cX11_as 22 = .ok (.if_icmp .le 6, 3) := by decide +kernel
theorem dX11_as_25 : decode cX11_as 25 = .ok (.bipush (-102), 2) := by decide +kernel
theorem dX11_as_27 : decode cX11_as 27 = .ok (.ireturn, 1) := by decide +kernel
theorem dX11_as_28 : decode cX11_as 28 = .ok (.aload_n 3, 1) := by decide +kernel
theorem dX11_as_29 : decode cX11_as 29 = .ok (.iload_n 2, 1) := by decide +kernel
theorem dX11_as_30 : decode cX11_as 30 = .ok (.invokestatic 118, 3) := by decide +kernel
theorem dX11_as_33 : decode cX11_as 33 = .ok (.ifCond .eq 7, 3) := by decide +kernel
theorem dX11_as_36 : decode cX11_as 36 = .ok (.iload_n 1, 1) := by decide +kernel
theorem dX11_as_37 : decode cX11_as 37 = .ok (.goto 4, 3) := by decide +kernel
theorem dX11_as_40 : decode cX11_as 40 = .ok (.iconst (-1), 1) := by decide +kernel
theorem dX11_as_41 : decode cX11_as 41 = .ok (.ireturn, 1) := by decide +kernel
theorem dX11_crime_0 : decode cX11_crime 0 = .ok (.aload_n 0, 1) := by decide +kernel
theorem dX11_crime_1 : decode cX11_crime 1 = .ok (.getfield 19, 3) := by decide +kernel
theorem dX11_crime_4 : decode cX11_crime 4 = .ok (.iload_n 1, 1) := by decide +kernel
theorem dX11_crime_5 : decode cX11_crime 5 = .ok (.invokevirtual 122, 3) := by decide +kernel
theorem dX11_crime_8 : decode cX11_crime 8 = .ok (.astore_n 3, 1) := by decide +kernel
theorem dX11_crime_9 : decode cX11_crime 9 = .ok (.aload_n 3, 1) := by decide +kernel
theorem dX11_crime_10 : decode cX11_crime 10 = .ok (.ifnonnull 6, 3) := by decide +kernel
theorem dX11_crime_13 : decode cX11_crime 13 = .ok (.bipush (-101), 2) := by decide +kernel
theorem dX11_crime_15 : decode cX11_crime 15 = .ok (.ireturn, 1) := by decide +kernel
theorem dX11_crime_16 : decode cX11_crime 16 = .ok (.iload_n 2, 1) := by decide +kernel
theorem dX11_crime_17 : decode cX11_crime 17 = .ok (.ifCond .lt 8, 3) := by decide +kernel
theorem dX11_crime_20 : decode cX11_crime 20 = .ok (.iload_n 2, 1) := by decide +kernel
theorem dX11_crime_21 : decode cX11_crime 21 = .ok (.iconst 5, 1) := by decide +kernel
theorem dX11_crime_22 : decode cX11_crime 22 = .ok (.if_icmp .le 6, 3) := by decide +kernel
theorem dX11_crime_25 : decode cX11_crime 25 = .ok (.bipush (-102), 2) := by decide +kernel
theorem dX11_crime_27 : decode cX11_crime 27 = .ok (.ireturn, 1) := by decide +kernel
theorem dX11_crime_28 : decode cX11_crime 28 = .ok (.iload_n 2, 1) := by decide +kernel
theorem dX11_crime_29 : decode cX11_crime 29 = .ok (.tableswitch 69 0 4 #[35, 44, 49, 54, 63], 35) := by decide +kernel
theorem dX11_crime_64 : decode cX11_crime 64 = .ok (.aload_n 0, 1) := by decide +kernel
theorem dX11_crime_65 : decode cX11_crime 65 = .ok (.getfield 26, 3) := by decide +kernel
theorem dX11_crime_68 : decode cX11_crime 68 = .ok (.iload_n 1, 1) := by decide +kernel
theorem dX11_crime_69 : decode cX11_crime 69 = .ok (.invokevirtual 126, 3) := by decide +kernel
theorem dX11_crime_72 : decode cX11_crime 72 = .ok (.ireturn, 1) := by decide +kernel
theorem dX11_crime_73 : decode cX11_crime 73 = .ok (.aload_n 3, 1) := by decide +kernel
theorem dX11_crime_74 : decode cX11_crime 74 = .ok (.getfield 129, 3) := by decide +kernel
theorem dX11_crime_77 : decode cX11_crime 77 = .ok (.ireturn, 1) := by decide +kernel
theorem dX11_crime_78 : decode cX11_crime 78 = .ok (.aload_n 3, 1) := by decide +kernel
theorem dX11_crime_79 : decode cX11_crime 79 = .ok (.getfield 132, 3) := by decide +kernel
theorem dX11_crime_82 : decode cX11_crime 82 = .ok (.ireturn, 1) := by decide +kernel
theorem dX11_crime_83 : decode cX11_crime 83 = .ok (.aload_n 0, 1) := by decide +kernel
theorem dX11_crime_84 : decode cX11_crime 84 = .ok (.getfield 26, 3) := by decide +kernel
theorem dX11_crime_87 : decode cX11_crime 87 = .ok (.iload_n 1, 1) := by decide +kernel
theorem dX11_crime_88 : decode cX11_crime 88 = .ok (.invokevirtual 135, 3) := by decide +kernel
theorem dX11_crime_91 : decode cX11_crime 91 = .ok (.ireturn, 1) := by decide +kernel
theorem dX11_crime_92 : decode cX11_crime 92 = .ok (.aload_n 0, 1) := by decide +kernel
theorem dX11_crime_93 : decode cX11_crime 93 = .ok (.iload_n 1, 1) := by decide +kernel
theorem dX11_crime_94 : decode cX11_crime 94 = .ok (.invokevirtual 138, 3) := by decide +kernel
theorem dX11_crime_97 : decode cX11_crime 97 = .ok (.ireturn, 1) := by decide +kernel
theorem dX11_crime_98 : decode cX11_crime 98 = .ok (.aload_n 0, 1) := by decide +kernel
theorem dX11_crime_99 : decode cX11_crime 99 = .ok (.iload_n 1, 1) := by decide +kernel
theorem dX11_crime_100 : decode cX11_crime 100 = .ok (.invokevirtual 141, 3) := by decide +kernel
theorem dX11_crime_103 : decode cX11_crime 103 = .ok (.ireturn, 1) := by decide +kernel
theorem dX11_confess_0 : decode cX11_confess 0 = .ok (.aload_n 0, 1) := by decide +kernel
theorem dX11_confess_1 : decode cX11_confess 1 = .ok (.getfield 19, 3) := by decide +kernel
theorem dX11_confess_4 : decode cX11_confess 4 = .ok (.iload_n 1, 1) := by decide +kernel
theorem dX11_confess_5 : decode cX11_confess 5 = .ok (.invokevirtual 83, 3) := by decide +kernel
theorem dX11_confess_8 : decode cX11_confess 8 = .ok (.ifnull 14, 3) := by decide +kernel
theorem dX11_confess_11 : decode cX11_confess 11 = .ok (.aload_n 0, 1) := by decide +kernel
theorem dX11_confess_12 : decode cX11_confess 12 = .ok (.getfield 19, 3) := by decide +kernel
theorem dX11_confess_15 : decode cX11_confess 15 = .ok (.iload_n 2, 1) := by decide +kernel
theorem dX11_confess_16 : decode cX11_confess 16 = .ok (.invokevirtual 122, 3) := by decide +kernel
theorem dX11_confess_19 : decode cX11_confess 19 = .ok (.ifnonnull 6, 3) := by decide +kernel
theorem dX11_confess_22 : decode cX11_confess 22 = .ok (.bipush (-101), 2) := by decide +kernel
theorem dX11_confess_24 : decode cX11_confess 24 = .ok (.ireturn, 1) := by decide +kernel
theorem dX11_confess_25 : decode cX11_confess 25 = .ok (.aload_n 0, 1) := by decide +kernel
theorem dX11_confess_26 : decode cX11_confess 26 = .ok (.aload_n 0, 1) := by decide +kernel
theorem dX11_confess_27 : decode cX11_confess 27 = .ok (.getfield 26, 3) := by decide +kernel
theorem dX11_confess_30 : decode cX11_confess 30 = .ok (.iload_n 1, 1) := by decide +kernel
theorem dX11_confess_31 : decode cX11_confess 31 = .ok (.iload_n 2, 1) := by decide +kernel
theorem dX11_confess_32 : decode cX11_confess 32 = .ok (.invokevirtual 144, 3) := by decide +kernel
theorem dX11_confess_35 : decode cX11_confess 35 = .ok (.ifCond .ne 6, 3) := by decide +kernel
theorem dX11_confess_38 : decode cX11_confess 38 = .ok (.bipush (-103), 2) := by decide +kernel
theorem dX11_confess_40 : decode cX11_confess 40 = .ok (.ireturn, 1) := by decide +kernel
theorem dX11_confess_41 : decode cX11_confess 41 = .ok (.aload_n 0, 1) := by decide +kernel
theorem dX11_confess_42 : decode cX11_confess 42 = .ok (.getfield 26, 3) := by decide +kernel
theorem dX11_confess_45 : decode cX11_confess 45 = .ok (.iload_n 1, 1) := by decide +kernel
theorem dX11_confess_46 : decode cX11_confess 46 = .ok (.iload_n 2, 1) := by decide +kernel
theorem dX11_confess_47 : decode cX11_confess 47 = .ok (.invokevirtual 148, 3) := by decide +kernel
theorem dX11_confess_50 : decode cX11_confess 50 = .ok (.aload_n 0, 1) := by decide +kernel
theorem dX11_confess_51 : decode cX11_confess 51 = .ok (.getfield 26, 3) := by decide +kernel
theorem dX11_confess_54 : decode cX11_confess 54 = .ok (.dup, 1) := by decide +kernel
theorem dX11_confess_55 : decode cX11_confess 55 = .ok (.getfield 152, 3) := by decide +kernel
theorem dX11_confess_58 : decode cX11_confess 58 = .ok (.iconst 1, 1) := by decide +kernel
theorem dX11_confess_59 : decode cX11_confess 59 = .ok (.iadd, 1) := by decide +kernel
theorem dX11_confess_60 : decode cX11_confess 60 = .ok (.putfield 152, 3) := by decide +kernel
theorem dX11_confess_63 : decode cX11_confess 63 = .ok (.aload_n 0, 1) := by decide +kernel
theorem dX11_confess_64 : decode cX11_confess 64 = .ok (.aload_n 0, 1) := by decide +kernel
theorem dX11_confess_65 : decode cX11_confess 65 = .ok (.getfield 26, 3) := by decide +kernel
theorem dX11_confess_68 : decode cX11_confess 68 = .ok (.iload_n 1, 1) := by decide +kernel
theorem dX11_confess_69 : decode cX11_confess 69 = .ok (.invokevirtual 105, 3) := by decide +kernel
theorem dX11_confess_72 : decode cX11_confess 72 = .ok (.ireturn, 1) := by decide +kernel
theorem dX11_recant_0 : decode cX11_recant 0 = .ok (.aload_n 0, 1) := by decide +kernel
theorem dX11_recant_1 : decode cX11_recant 1 = .ok (.getfield 19, 3) := by decide +kernel
theorem dX11_recant_4 : decode cX11_recant 4 = .ok (.iload_n 1, 1) := by decide +kernel
theorem dX11_recant_5 : decode cX11_recant 5 = .ok (.invokevirtual 83, 3) := by decide +kernel
theorem dX11_recant_8 : decode cX11_recant 8 = .ok (.ifnonnull 6, 3) := by decide +kernel
theorem dX11_recant_11 : decode cX11_recant 11 = .ok (.bipush (-101), 2) := by decide +kernel
theorem dX11_recant_13 : decode cX11_recant 13 = .ok (.ireturn, 1) := by decide +kernel
theorem dX11_recant_14 : decode cX11_recant 14 = .ok (.aload_n 0, 1) := by decide +kernel
theorem dX11_recant_15 : decode cX11_recant 15 = .ok (.getfield 26, 3) := by decide +kernel
theorem dX11_recant_18 : decode cX11_recant 18 = .ok (.iload_n 1, 1) := by decide +kernel
theorem dX11_recant_19 : decode cX11_recant 19 = .ok (.invokevirtual 101, 3) := by decide +kernel
theorem dX11_recant_22 : decode cX11_recant 22 = .ok (.istore_n 2, 1) := by decide +kernel
theorem dX11_recant_23 : decode cX11_recant 23 = .ok (.iload_n 2, 1) := by decide +kernel
theorem dX11_recant_24 : decode cX11_recant 24 = .ok (.iconst (-1), 1) := by decide +kernel
theorem dX11_recant_25 : decode cX11_recant 25 = .ok (.if_icmp .ne 6, 3) := by decide +kernel
theorem dX11_recant_28 : decode cX11_recant 28 = .ok (.bipush (-103), 2) := by decide +kernel
theorem dX11_recant_30 : decode cX11_recant 30 = .ok (.ireturn, 1) := by decide +kernel
theorem dX11_recant_31 : decode cX11_recant 31 = .ok (.aload_n 0, 1) := by decide +kernel
theorem dX11_recant_32 : decode cX11_recant 32 = .ok (.getfield 26, 3) := by decide +kernel
theorem dX11_recant_35 : decode cX11_recant 35 = .ok (.iload_n 1, 1) := by decide +kernel
theorem dX11_recant_36 : decode cX11_recant 36 = .ok (.iconst (-1), 1) := by decide +kernel
theorem dX11_recant_37 : decode cX11_recant 37 = .ok (.invokevirtual 148, 3) := by decide +kernel
theorem dX11_recant_40 : decode cX11_recant 40 = .ok (.iload_n 2, 1) := by decide +kernel
theorem dX11_recant_41 : decode cX11_recant 41 = .ok (.ireturn, 1) := by decide +kernel
theorem dX11_alter_0 : decode cX11_alter 0 = .ok (.aload_n 0, 1) := by decide +kernel
theorem dX11_alter_1 : decode cX11_alter 1 = .ok (.getfield 19, 3) := by decide +kernel
theorem dX11_alter_4 : decode cX11_alter 4 = .ok (.iload_n 1, 1) := by decide +kernel
theorem dX11_alter_5 : decode cX11_alter 5 = .ok (.invokevirtual 122, 3) := by decide +kernel
theorem dX11_alter_8 : decode cX11_alter 8 = .ok (.ifnonnull 6, 3) := by decide +kernel
theorem dX11_alter_11 : decode cX11_alter 11 = .ok (.bipush (-101), 2) := by decide +kernel
theorem dX11_alter_13 : decode cX11_alter 13 = .ok (.ireturn, 1) := by decide +kernel
theorem dX11_alter_14 : decode cX11_alter 14 = .ok (.aload_n 0, 1) := by decide +kernel
theorem dX11_alter_15 : decode cX11_alter 15 = .ok (.getfield 26, 3) := by decide +kernel
theorem dX11_alter_18 : decode cX11_alter 18 = .ok (.iload_n 1, 1) := by decide +kernel
theorem dX11_alter_19 : decode cX11_alter 19 = .ok (.invokevirtual 126, 3) := by decide +kernel
theorem dX11_alter_22 : decode cX11_alter 22 = .ok (.iload_n 2, 1) := by decide +kernel
theorem dX11_alter_23 : decode cX11_alter 23 = .ok (.ifCond .eq 7, 3) := by decide +kernel
theorem dX11_alter_26 : decode cX11_alter 26 = .ok (.iconst 1, 1) := by decide +kernel
theorem dX11_alter_27 : decode cX11_alter 27 = .ok (.goto 4, 3) := by decide +kernel
theorem dX11_alter_30 : decode cX11_alter 30 = .ok (.iconst (-1), 1) := by decide +kernel
theorem dX11_alter_31 : decode cX11_alter 31 = .ok (.iadd, 1) := by decide +kernel
theorem dX11_alter_32 : decode cX11_alter 32 = .ok (.istore_n 3, 1) := by decide +kernel
theorem dX11_alter_33 : decode cX11_alter 33 = .ok (.aload_n 0, 1) := by decide +kernel
theorem dX11_alter_34 : decode cX11_alter 34 = .ok (.getfield 26, 3) := by decide +kernel
theorem dX11_alter_37 : decode cX11_alter 37 = .ok (.iload_n 1, 1) := by decide +kernel
theorem dX11_alter_38 : decode cX11_alter 38 = .ok (.invokevirtual 135, 3) := by decide +kernel
theorem dX11_alter_41 : decode cX11_alter 41 = .ok (.iconst (-1), 1) := by decide +kernel
theorem dX11_alter_42 : decode cX11_alter 42 = .ok (.if_icmp .ne 10, 3) := by decide +kernel
theorem dX11_alter_45 : decode cX11_alter 45 = .ok (.iload_n 3, 1) := by decide +kernel
theorem dX11_alter_46 : decode cX11_alter 46 = .ok (.invokestatic 155, 3) := by decide +kernel
theorem dX11_alter_49 : decode cX11_alter 49 = .ok (.ifCond .ne 6, 3) := by decide +kernel
theorem dX11_alter_52 : decode cX11_alter 52 = .ok (.bipush (-103), 2) := by decide +kernel
theorem dX11_alter_54 : decode cX11_alter 54 = .ok (.ireturn, 1) := by decide +kernel
theorem dX11_alter_55 : decode cX11_alter 55 = .ok (.aload_n 0, 1) := by decide +kernel
theorem dX11_alter_56 : decode cX11_alter 56 = .ok (.getfield 26, 3) := by decide +kernel
theorem dX11_alter_59 : decode cX11_alter 59 = .ok (.iload_n 1, 1) := by decide +kernel
theorem dX11_alter_60 : decode cX11_alter 60 = .ok (.iload_n 3, 1) := by decide +kernel
theorem dX11_alter_61 : decode cX11_alter 61 = .ok (.invokevirtual 159, 3) := by decide +kernel
theorem dX11_alter_64 : decode cX11_alter 64 = .ok (.aload_n 0, 1) := by decide +kernel
theorem dX11_alter_65 : decode cX11_alter 65 = .ok (.getfield 26, 3) := by decide +kernel
theorem dX11_alter_68 : decode cX11_alter 68 = .ok (.dup, 1) := by decide +kernel
theorem dX11_alter_69 : decode cX11_alter 69 = .ok (.getfield 162, 3) := by decide +kernel
theorem dX11_alter_72 : decode cX11_alter 72 = .ok (.iconst 1, 1) := by decide +kernel
theorem dX11_alter_73 : decode cX11_alter 73 = .ok (.iadd, 1) := by decide +kernel
theorem dX11_alter_74 : decode cX11_alter 74 = .ok (.putfield 162, 3) := by decide +kernel
theorem dX11_alter_77 : decode cX11_alter 77 = .ok (.iload_n 3, 1) := by decide +kernel
theorem dX11_alter_78 : decode cX11_alter 78 = .ok (.ireturn, 1) := by decide +kernel
theorem dX11_match_0 : decode cX11_match 0 = .ok (.iload_n 1, 1) := by decide +kernel
theorem dX11_match_1 : decode cX11_match 1 = .ok (.invokestatic 165, 3) := by decide +kernel
theorem dX11_match_4 : decode cX11_match 4 = .ok (.ifCond .ne 6, 3) := by decide +kernel
theorem dX11_match_7 : decode cX11_match 7 = .ok (.bipush (-102), 2) := by decide +kernel
theorem dX11_match_9 : decode cX11_match 9 = .ok (.ireturn, 1) := by decide +kernel
theorem dX11_match_10 : decode cX11_match 10 = .ok (.aload_n 0, 1) := by decide +kernel
theorem dX11_match_11 : decode cX11_match 11 = .ok (.invokevirtual 168, 3) := by decide +kernel
theorem dX11_match_14 : decode cX11_match 14 = .ok (.ifCond .ne 6, 3) := by decide +kernel
theorem dX11_match_17 : decode cX11_match 17 = .ok (.bipush (-103), 2) := by decide +kernel
theorem dX11_match_19 : decode cX11_match 19 = .ok (.ireturn, 1) := by decide +kernel
theorem dX11_match_20 : decode cX11_match 20 = .ok (.aload_n 0, 1) := by decide +kernel
theorem dX11_match_21 : decode cX11_match 21 = .ok (.invokevirtual 171, 3) := by decide +kernel
theorem dX11_match_24 : decode cX11_match 24 = .ok (.aload_n 0, 1) := by decide +kernel
theorem dX11_match_25 : decode cX11_match 25 = .ok (.iload_n 1, 1) := by decide +kernel
theorem dX11_match_26 : decode cX11_match 26 = .ok (.invokevirtual 174, 3) := by decide +kernel
theorem dX11_match_29 : decode cX11_match 29 = .ok (.ireturn, 1) := by decide +kernel
theorem dX11_stitches_0 : decode cX11_stitches 0 = .ok (.aload_n 0, 1) := by decide +kernel
theorem dX11_stitches_1 : decode cX11_stitches 1 = .ok (.invokevirtual 168, 3) := by decide +kernel
theorem dX11_stitches_4 : decode cX11_stitches 4 = .ok (.ifCond .eq 12, 3) := by decide +kernel
theorem dX11_stitches_7 : decode cX11_stitches 7 = .ok (.aload_n 0, 1) := by decide +kernel
theorem dX11_stitches_8 : decode cX11_stitches 8 = .ok (.getfield 177, 3) := by decide +kernel
theorem dX11_stitches_11 : decode cX11_stitches 11 = .ok (.bipush 12, 2) := by decide +kernel
theorem dX11_stitches_13 : decode cX11_stitches 13 = .ok (.if_icmp .lt 6, 3) := by decide +kernel
theorem dX11_stitches_16 : decode cX11_stitches 16 = .ok (.bipush (-103), 2) := by decide +kernel
theorem dX11_stitches_18 : decode cX11_stitches 18 = .ok (.ireturn, 1) := by decide +kernel
theorem dX11_stitches_19 : decode cX11_stitches 19 = .ok (.aload_n 0, 1) := by decide +kernel
theorem dX11_stitches_20 : decode cX11_stitches 20 = .ok (.dup, 1) := by decide +kernel
theorem dX11_stitches_21 : decode cX11_stitches 21 = .ok (.getfield 177, 3) := by decide +kernel
theorem dX11_stitches_24 : decode cX11_stitches 24 = .ok (.iconst 1, 1) := by decide +kernel
theorem dX11_stitches_25 : decode cX11_stitches 25 = .ok (.iadd, 1) := by decide +kernel
theorem dX11_stitches_26 : decode cX11_stitches 26 = .ok (.putfield 177, 3) := by decide +kernel
theorem dX11_stitches_29 : decode cX11_stitches 29 = .ok (.aload_n 0, 1) := by decide +kernel
theorem dX11_stitches_30 : decode cX11_stitches 30 = .ok (.iconst 0, 1) := by decide +kernel
theorem dX11_stitches_31 : decode cX11_stitches 31 = .ok (.iconst 0, 1) := by decide +kernel
theorem dX11_stitches_32 : decode cX11_stitches 32 = .ok (.invokestatic 180, 3) := by decide +kernel
theorem dX11_stitches_35 : decode cX11_stitches 35 = .ok (.ireturn, 1) := by decide +kernel
theorem dX11_tried_0 : decode cX11_tried 0 = .ok (.aload_n 0, 1) := by decide +kernel
theorem dX11_tried_1 : decode cX11_tried 1 = .ok (.getfield 19, 3) := by decide +kernel
theorem dX11_tried_4 : decode cX11_tried 4 = .ok (.iload_n 2, 1) := by decide +kernel
theorem dX11_tried_5 : decode cX11_tried 5 = .ok (.invokevirtual 122, 3) := by decide +kernel
theorem dX11_tried_8 : decode cX11_tried 8 = .ok (.astore 4, 2) := by decide +kernel
theorem dX11_tried_10 : decode cX11_tried 10 = .ok (.aload_n 0, 1) := by decide +kernel
theorem dX11_tried_11 : decode cX11_tried 11 = .ok (.getfield 19, 3) := by decide +kernel
theorem dX11_tried_14 : decode cX11_tried 14 = .ok (.iload_n 1, 1) := by decide +kernel
theorem dX11_tried_15 : decode cX11_tried 15 = .ok (.invokevirtual 83, 3) := by decide +kernel
theorem dX11_tried_18 : decode cX11_tried 18 = .ok (.ifnull 8, 3) := by decide +kernel
theorem dX11_tried_21 : decode cX11_tried 21 = .ok (.aload 4, 2) := by decide +kernel
theorem dX11_tried_23 : decode cX11_tried 23 = .ok (.ifnonnull 6, 3) := by decide +kernel
theorem dX11_tried_26 : decode cX11_tried 26 = .ok (.bipush (-101), 2) := by decide +kernel
theorem dX11_tried_28 : decode cX11_tried 28 = .ok (.ireturn, 1) := by decide +kernel
theorem dX11_tried_29 : decode cX11_tried 29 = .ok (.aload_n 0, 1) := by decide +kernel
theorem dX11_tried_30 : decode cX11_tried 30 = .ok (.getfield 26, 3) := by decide +kernel
theorem dX11_tried_33 : decode cX11_tried 33 = .ok (.getfield 184, 3) := by decide +kernel
theorem dX11_tried_36 : decode cX11_tried 36 = .ok (.invokevirtual 188, 3) := by decide +kernel
theorem dX11_tried_39 : decode cX11_tried 39 = .ok (.ifCond .eq 6, 3) := by decide +kernel
theorem dX11_tried_42 : decode cX11_tried 42 = .ok (.bipush (-104), 2) := by decide +kernel
theorem dX11_tried_44 : decode cX11_tried 44 = .ok (.ireturn, 1) := by decide +kernel
theorem dX11_tried_45 : decode cX11_tried 45 = .ok (.aload_n 0, 1) := by decide +kernel
theorem dX11_tried_46 : decode cX11_tried 46 = .ok (.getfield 26, 3) := by decide +kernel
theorem dX11_tried_49 : decode cX11_tried 49 = .ok (.getfield 184, 3) := by decide +kernel
theorem dX11_tried_52 : decode cX11_tried 52 = .ok (.iload_n 1, 1) := by decide +kernel
theorem dX11_tried_53 : decode cX11_tried 53 = .ok (.aload_n 0, 1) := by decide +kernel
theorem dX11_tried_54 : decode cX11_tried 54 = .ok (.getfield 26, 3) := by decide +kernel
theorem dX11_tried_57 : decode cX11_tried 57 = .ok (.iload_n 2, 1) := by decide +kernel
theorem dX11_tried_58 : decode cX11_tried 58 = .ok (.invokevirtual 126, 3) := by decide +kernel
theorem dX11_tried_61 : decode cX11_tried 61 = .ok (.aload 4, 2) := by decide +kernel
theorem dX11_tried_63 : decode cX11_tried 63 = .ok (.getfield 129, 3) := by decide +kernel
theorem dX11_tried_66 : decode cX11_tried 66 = .ok (.iload_n 3, 1) := by decide +kernel
theorem dX11_tried_67 : decode cX11_tried 67 = .ok (.invokevirtual 191, 3) := by decide +kernel
theorem dX11_tried_70 : decode cX11_tried 70 = .ok (.aload_n 0, 1) := by decide +kernel
theorem dX11_tried_71 : decode cX11_tried 71 = .ok (.getfield 26, 3) := by decide +kernel
theorem dX11_tried_74 : decode cX11_tried 74 = .ok (.getfield 184, 3) := by decide +kernel
theorem dX11_tried_77 : decode cX11_tried 77 = .ok (.invokevirtual 194, 3) := by decide +kernel
theorem dX11_tried_80 : decode cX11_tried 80 = .ok (.ireturn, 1) := by decide +kernel
theorem dX11_forget_0 : decode cX11_forget 0 = .ok (.aload_n 0, 1) := by decide +kernel
theorem dX11_forget_1 : decode cX11_forget 1 = .ok (.getfield 26, 3) := by decide +kernel
theorem dX11_forget_4 : decode cX11_forget 4 = .ok (.getfield 184, 3) := by decide +kernel
theorem dX11_forget_7 : decode cX11_forget 7 = .ok (.invokevirtual 194, 3) := by decide +kernel
theorem dX11_forget_10 : decode cX11_forget 10 = .ok (.istore_n 1, 1) := by decide +kernel
theorem dX11_forget_11 : decode cX11_forget 11 = .ok (.aload_n 0, 1) := by decide +kernel
theorem dX11_forget_12 : decode cX11_forget 12 = .ok (.getfield 26, 3) := by decide +kernel
theorem dX11_forget_15 : decode cX11_forget 15 = .ok (.getfield 184, 3) := by decide +kernel
theorem dX11_forget_18 : decode cX11_forget 18 = .ok (.invokevirtual 197, 3) := by decide +kernel
theorem dX11_forget_21 : decode cX11_forget 21 = .ok (.iload_n 1, 1) := by decide +kernel
theorem dX11_forget_22 : decode cX11_forget 22 = .ok (.ireturn, 1) := by decide +kernel
theorem dX11_weeks_0 : decode cX11_weeks 0 = .ok (.iload_n 1, 1) := by decide +kernel
theorem dX11_weeks_1 : decode cX11_weeks 1 = .ok (.iconst 1, 1) := by decide +kernel
theorem dX11_weeks_2 : decode cX11_weeks 2 = .ok (.if_icmp .lt 22, 3) := by decide +kernel
theorem dX11_weeks_5 : decode cX11_weeks 5 = .ok (.iload_n 1, 1) := by decide +kernel
theorem dX11_weeks_6 : decode cX11_weeks 6 = .ok (.bipush 60, 2) := by decide +kernel
theorem dX11_weeks_8 : decode cX11_weeks 8 = .ok (.if_icmp .gt 16, 3) := by decide +kernel
theorem dX11_weeks_11 : decode cX11_weeks 11 = .ok (.iload_n 2, 1) := by decide +kernel
theorem dX11_weeks_12 : decode cX11_weeks 12 = .ok (.ifCond .lt 12, 3) := by decide +kernel
theorem dX11_weeks_15 : decode cX11_weeks 15 = .ok (.iload_n 3, 1) := by decide +kernel
theorem dX11_weeks_16 : decode cX11_weeks 16 = .ok (.ifCond .lt 8, 3) := by decide +kernel
theorem dX11_weeks_19 : decode cX11_weeks 19 = .ok (.iload_n 3, 1) := by decide +kernel
theorem dX11_weeks_20 : decode cX11_weeks 20 = .ok (.iconst 2, 1) := by decide +kernel
theorem dX11_weeks_21 : decode cX11_weeks 21 = .ok (.if_icmp .le 6, 3) := by decide +kernel
theorem dX11_weeks_24 : decode cX11_weeks 24 = .ok (.bipush (-102), 2) := by decide +kernel
theorem dX11_weeks_26 : decode cX11_weeks 26 = .ok (.ireturn, 1) := by decide +kernel
theorem dX11_weeks_27 : decode cX11_weeks 27 = .ok (.aload_n 0, 1) := by decide +kernel
theorem dX11_weeks_28 : decode cX11_weeks 28 = .ok (.invokevirtual 168, 3) := by decide +kernel
theorem dX11_weeks_31 : decode cX11_weeks 31 = .ok (.ifCond .ne 6, 3) := by decide +kernel
theorem dX11_weeks_34 : decode cX11_weeks 34 = .ok (.bipush (-103), 2) := by decide +kernel
theorem dX11_weeks_36 : decode cX11_weeks 36 = .ok (.ireturn, 1) := by decide +kernel
theorem dX11_weeks_37 : decode cX11_weeks 37 = .ok (.aload_n 0, 1) := by decide +kernel
theorem dX11_weeks_38 : decode cX11_weeks 38 = .ok (.getfield 33, 3) := by decide +kernel
theorem dX11_weeks_41 : decode cX11_weeks 41 = .ok (.aload_n 0, 1) := by decide +kernel
theorem dX11_weeks_42 : decode cX11_weeks 42 = .ok (.getfield 26, 3) := by decide +kernel
theorem dX11_weeks_45 : decode cX11_weeks 45 = .ok (.invokevirtual 198, 3) := by decide +kernel
theorem dX11_weeks_48 : decode cX11_weeks 48 = .ok (.iload_n 2, 1) := by decide +kernel
theorem dX11_weeks_49 : decode cX11_weeks 49 = .ok (.istore 4, 2) := by decide +kernel
theorem dX11_weeks_51 : decode cX11_weeks 51 = .ok (.iconst 0, 1) := by decide +kernel
theorem dX11_weeks_52 : decode cX11_weeks 52 = .ok (.istore 5, 2) := by decide +kernel
theorem dX11_weeks_54 : decode cX11_weeks 54 = .ok (.iload 5, 2) := by decide +kernel
theorem dX11_weeks_56 : decode cX11_weeks 56 = .ok (.iload_n 1, 1) := by decide +kernel
theorem dX11_weeks_57 : decode cX11_weeks 57 = .ok (.if_icmp .ge 51, 3) := by decide +kernel
theorem dX11_weeks_60 : decode cX11_weeks 60 = .ok (.iload 4, 2) := by decide +kernel
theorem dX11_weeks_62 : decode cX11_weeks 62 = .ok (.invokestatic 202, 3) := by decide +kernel
theorem dX11_weeks_65 : decode cX11_weeks 65 = .ok (.istore 6, 2) := by decide +kernel
theorem dX11_weeks_67 : decode cX11_weeks 67 = .ok (.iload 6, 2) := by decide +kernel
theorem dX11_weeks_69 : decode cX11_weeks 69 = .ok (.invokestatic 202, 3) := by decide +kernel
theorem dX11_weeks_72 : decode cX11_weeks 72 = .ok (.istore 4, 2) := by decide +kernel
theorem dX11_weeks_74 : decode cX11_weeks 74 = .ok (.aload_n 0, 1) := by decide +kernel
theorem dX11_weeks_75 : decode cX11_weeks 75 = .ok (.iload 6, 2) := by decide +kernel
theorem dX11_weeks_77 : decode cX11_weeks 77 = .ok (.aload_n 0, 1) := by decide +kernel
theorem dX11_weeks_78 : decode cX11_weeks 78 = .ok (.getfield 19, 3) := by decide +kernel
theorem dX11_weeks_81 : decode cX11_weeks 81 = .ok (.invokevirtual 205, 3) := by decide +kernel
theorem dX11_weeks_84 : decode cX11_weeks 84 = .ok (.invokestatic 208, 3) := by decide +kernel
theorem dX11_weeks_87 : decode cX11_weeks 87 = .ok (.iload 4, 2) := by decide +kernel
theorem dX11_weeks_89 : decode cX11_weeks 89 = .ok (.aload_n 0, 1) := by decide +kernel
theorem dX11_weeks_90 : decode cX11_weeks 90 = .ok (.getfield 19, 3) := by decide +kernel
theorem dX11_weeks_93 : decode cX11_weeks 93 = .ok (.invokevirtual 80, 3) := by decide +kernel
theorem dX11_weeks_96 : decode cX11_weeks 96 = .ok (.invokestatic 208, 3) := by decide +kernel
theorem dX11_weeks_99 : decode cX11_weeks 99 = .ok (.invokevirtual 212, 3) := by decide +kernel
theorem dX11_weeks_102 : decode cX11_weeks 102 = .ok (.iinc 5 1, 3) := by decide +kernel
theorem dX11_weeks_105 : decode cX11_weeks 105 = .ok (.goto (-51), 3) := by decide +kernel
theorem dX11_weeks_108 : decode cX11_weeks 108 = .ok (.iload_n 3, 1) := by decide +kernel
theorem dX11_weeks_109 : decode cX11_weeks 109 = .ok (.lookupswitch 44 #[(0, 27), (1, 35)], 27) := by decide +kernel
theorem dX11_weeks_136 : decode cX11_weeks 136 = .ok (.aload_n 0, 1) := by decide +kernel
theorem dX11_weeks_137 : decode cX11_weeks 137 = .ok (.getfield 33, 3) := by decide +kernel
theorem dX11_weeks_140 : decode cX11_weeks 140 = .ok (.invokevirtual 215, 3) := by decide +kernel
theorem dX11_weeks_143 : decode cX11_weeks 143 = .ok (.ireturn, 1) := by decide +kernel
theorem dX11_weeks_144 : decode cX11_weeks 144 = .ok (.aload_n 0, 1) := by decide +kernel
theorem dX11_weeks_145 : decode cX11_weeks 145 = .ok (.aload_n 0, 1) := by decide +kernel
theorem dX11_weeks_146 : decode cX11_weeks 146 = .ok (.getfield 33, 3) := by decide +kernel
theorem dX11_weeks_149 : decode cX11_weeks 149 = .ok (.invokevirtual 218, 3) := by decide +kernel
theorem dX11_weeks_152 : decode cX11_weeks 152 = .ok (.ireturn, 1) := by decide +kernel
theorem dX11_weeks_153 : decode cX11_weeks 153 = .ok (.iload 4, 2) := by decide +kernel
theorem dX11_weeks_155 : decode cX11_weeks 155 = .ok (.ireturn, 1) := by decide +kernel
theorem dX11_image_0 : decode cX11_image 0 = .ok (.aload_n 0, 1) := by decide +kernel
theorem dX11_image_1 : decode cX11_image 1 = .ok (.invokevirtual 168, 3) := by decide +kernel
theorem dX11_image_4 : decode cX11_image 4 = .ok (.ifCond .ne 6, 3) := by decide +kernel
theorem dX11_image_7 : decode cX11_image 7 = .ok (.bipush (-103), 2) := by decide +kernel
theorem dX11_image_9 : decode cX11_image 9 = .ok (.ireturn, 1) := by decide +kernel
theorem dX11_image_10 : decode cX11_image 10 = .ok (.aload_n 0, 1) := by decide +kernel
theorem dX11_image_11 : decode cX11_image 11 = .ok (.getfield 30, 3) := by decide +kernel
theorem dX11_image_14 : decode cX11_image 14 = .ok (.aload_n 0, 1) := by decide +kernel
theorem dX11_image_15 : decode cX11_image 15 = .ok (.getfield 26, 3) := by decide +kernel
theorem dX11_image_18 : decode cX11_image 18 = .ok (.invokevirtual 198, 3) := by decide +kernel
theorem dX11_image_21 : decode cX11_image 21 = .ok (.aload_n 0, 1) := by decide +kernel
theorem dX11_image_22 : decode cX11_image 22 = .ok (.iconst 1, 1) := by decide +kernel
theorem dX11_image_23 : decode cX11_image 23 = .ok (.putfield 72, 3) := by decide +kernel
theorem dX11_image_26 : decode cX11_image 26 = .ok (.aload_n 0, 1) := by decide +kernel
theorem dX11_image_27 : decode cX11_image 27 = .ok (.getfield 30, 3) := by decide +kernel
theorem dX11_image_30 : decode cX11_image 30 = .ok (.getfield 152, 3) := by decide +kernel
theorem dX11_image_33 : decode cX11_image 33 = .ok (.ireturn, 1) := by decide +kernel
theorem dX11_restore_0 : decode cX11_restore 0 = .ok (.aload_n 0, 1) := by decide +kernel
theorem dX11_restore_1 : decode cX11_restore 1 = .ok (.getfield 72, 3) := by decide +kernel
theorem dX11_restore_4 : decode cX11_restore 4 = .ok (.ifCond .ne 6, 3) := by decide +kernel
theorem dX11_restore_7 : decode cX11_restore 7 = .ok (.bipush (-103), 2) := by decide +kernel
theorem dX11_restore_9 : decode cX11_restore 9 = .ok (.ireturn, 1) := by decide +kernel
theorem dX11_restore_10 : decode cX11_restore 10 = .ok (.aload_n 0, 1) := by decide +kernel
theorem dX11_restore_11 : decode cX11_restore 11 = .ok (.getfield 26, 3) := by decide +kernel
theorem dX11_restore_14 : decode cX11_restore 14 = .ok (.aload_n 0, 1) := by decide +kernel
theorem dX11_restore_15 : decode cX11_restore 15 = .ok (.getfield 30, 3) := by decide +kernel
theorem dX11_restore_18 : decode cX11_restore 18 = .ok (.invokevirtual 198, 3) := by decide +kernel
theorem dX11_restore_21 : decode cX11_restore 21 = .ok (.aload_n 0, 1) := by decide +kernel
theorem dX11_restore_22 : decode cX11_restore 22 = .ok (.getfield 26, 3) := by decide +kernel
theorem dX11_restore_25 : decode cX11_restore 25 = .ok (.getfield 152, 3) := by decide +kernel
theorem dX11_restore_28 : decode cX11_restore 28 = .ok (.ireturn, 1) := by decide +kernel
theorem dX11_count_0 : decode cX11_count 0 = .ok (.iload_n 1, 1) := by decide +kernel
theorem dX11_count_1 : decode cX11_count 1 = .ok (.ifCond .lt 9, 3) := by decide +kernel
theorem dX11_count_4 : decode cX11_count 4 = .ok (.iload_n 1, 1) := by decide +kernel
theorem dX11_count_5 : decode cX11_count 5 = .ok (.bipush 9, 2) := by decide +kernel
theorem dX11_count_7 : decode cX11_count 7 = .ok (.if_icmp .le 6, 3) := by decide +kernel
theorem dX11_count_10 : decode cX11_count 10 = .ok (.bipush (-102), 2) := by decide +kernel
theorem dX11_count_12 : decode cX11_count 12 = .ok (.ireturn, 1) := by decide +kernel
theorem dX11_count_13 : decode cX11_count 13 = .ok (.iload_n 1, 1) := by decide +kernel
theorem dX11_count_14 : decode cX11_count 14 = .ok (.tableswitch 123 0 8 #[50, 58, 66, 74, 83, 91, 99, 110, 118], 50) := by decide +kernel
theorem dX11_count_64 : decode cX11_count 64 = .ok (.aload_n 0, 1) := by decide +kernel
theorem dX11_count_65 : decode cX11_count 65 = .ok (.getfield 19, 3) := by decide +kernel
theorem dX11_count_68 : decode cX11_count 68 = .ok (.invokevirtual 205, 3) := by decide +kernel
theorem dX11_count_71 : decode cX11_count 71 = .ok (.ireturn, 1) := by decide +kernel
theorem dX11_count_72 : decode cX11_count 72 = .ok (.aload_n 0, 1) := by decide +kernel
theorem dX11_count_73 : decode cX11_count 73 = .ok (.getfield 19, 3) := by decide +kernel
theorem dX11_count_76 : decode cX11_count 76 = .ok (.invokevirtual 80, 3) := by decide +kernel
theorem dX11_count_79 : decode cX11_count 79 = .ok (.ireturn, 1) := by decide +kernel
theorem dX11_count_80 : decode cX11_count 80 = .ok (.aload_n 0, 1) := by decide +kernel
theorem dX11_count_81 : decode cX11_count 81 = .ok (.getfield 26, 3) := by decide +kernel
theorem dX11_count_84 : decode cX11_count 84 = .ok (.invokevirtual 215, 3) := by decide +kernel
theorem dX11_count_87 : decode cX11_count 87 = .ok (.ireturn, 1) := by decide +kernel
theorem dX11_count_88 : decode cX11_count 88 = .ok (.aload_n 0, 1) := by decide +kernel
theorem dX11_count_89 : decode cX11_count 89 = .ok (.aload_n 0, 1) := by decide +kernel
theorem dX11_count_90 : decode cX11_count 90 = .ok (.getfield 26, 3) := by decide +kernel
theorem dX11_count_93 : decode cX11_count 93 = .ok (.invokevirtual 218, 3) := by decide +kernel
theorem dX11_count_96 : decode cX11_count 96 = .ok (.ireturn, 1) := by decide +kernel
theorem dX11_count_97 : decode cX11_count 97 = .ok (.aload_n 0, 1) := by decide +kernel
theorem dX11_count_98 : decode cX11_count 98 = .ok (.getfield 26, 3) := by decide +kernel
theorem dX11_count_101 : decode cX11_count 101 = .ok (.getfield 162, 3) := by decide +kernel
theorem dX11_count_104 : decode cX11_count 104 = .ok (.ireturn, 1) := by decide +kernel
theorem dX11_count_105 : decode cX11_count 105 = .ok (.aload_n 0, 1) := by decide +kernel
theorem dX11_count_106 : decode cX11_count 106 = .ok (.getfield 26, 3) := by decide +kernel
theorem dX11_count_109 : decode cX11_count 109 = .ok (.getfield 152, 3) := by decide +kernel
theorem dX11_count_112 : decode cX11_count 112 = .ok (.ireturn, 1) := by decide +kernel
theorem dX11_count_113 : decode cX11_count 113 = .ok (.aload_n 0, 1) := by decide +kernel
theorem dX11_count_114 : decode cX11_count 114 = .ok (.getfield 26, 3) := by decide +kernel
theorem dX11_count_117 : decode cX11_count 117 = .ok (.getfield 184, 3) := by decide +kernel
theorem dX11_count_120 : decode cX11_count 120 = .ok (.invokevirtual 194, 3) := by decide +kernel
theorem dX11_count_123 : decode cX11_count 123 = .ok (.ireturn, 1) := by decide +kernel
theorem dX11_count_124 : decode cX11_count 124 = .ok (.aload_n 0, 1) := by decide +kernel
theorem dX11_count_125 : decode cX11_count 125 = .ok (.getfield 10, 3) := by decide +kernel
theorem dX11_count_128 : decode cX11_count 128 = .ok (.invokevirtual 51, 3) := by decide +kernel
theorem dX11_count_131 : decode cX11_count 131 = .ok (.ireturn, 1) := by decide +kernel
theorem dX11_count_132 : decode cX11_count 132 = .ok (.aload_n 0, 1) := by decide +kernel
theorem dX11_count_133 : decode cX11_count 133 = .ok (.getfield 76, 3) := by decide +kernel
theorem dX11_count_136 : decode cX11_count 136 = .ok (.ireturn, 1) := by decide +kernel
theorem dX11_count_137 : decode cX11_count 137 = .ok (.aload_n 0, 1) := by decide +kernel
theorem dX11_count_138 : decode cX11_count 138 = .ok (.getfield 177, 3) := by decide +kernel
theorem dX11_count_141 : decode cX11_count 141 = .ok (.ireturn, 1) := by decide +kernel
theorem dX11_digest_0 : decode cX11_digest 0 = .ok (.ldc2_w 222, 3) := by decide +kernel
theorem dX11_digest_3 : decode cX11_digest 3 = .ok (.lstore_n 1, 1) := by decide +kernel
theorem dX11_digest_4 : decode cX11_digest 4 = .ok (.iconst 0, 1) := by decide +kernel
theorem dX11_digest_5 : decode cX11_digest 5 = .ok (.istore_n 3, 1) := by decide +kernel
theorem dX11_digest_6 : decode cX11_digest 6 = .ok (.iload_n 3, 1) := by decide +kernel
theorem dX11_digest_7 : decode cX11_digest 7 = .ok (.aload_n 0, 1) := by decide +kernel
theorem dX11_digest_8 : decode cX11_digest 8 = .ok (.getfield 19, 3) := by decide +kernel
theorem dX11_digest_11 : decode cX11_digest 11 = .ok (.invokevirtual 205, 3) := by decide +kernel
theorem dX11_digest_14 : decode cX11_digest 14 = .ok (.if_icmp .ge 40, 3) := by decide +kernel
theorem dX11_digest_17 : decode cX11_digest 17 = .ok (.iconst 0, 1) := by decide +kernel
theorem dX11_digest_18 : decode cX11_digest 18 = .ok (.istore 4, 2) := by decide +kernel
theorem dX11_digest_20 : decode cX11_digest 20 = .ok (.iload 4, 2) := by decide +kernel
theorem dX11_digest_22 : decode cX11_digest 22 = .ok (.bipush 8, 2) := by decide +kernel
theorem dX11_digest_24 : decode cX11_digest 24 = .ok (.if_icmp .gt 24, 3) := by decide +kernel
theorem dX11_digest_27 : decode cX11_digest 27 = .ok (.ldc2_w 224, 3) := by decide +kernel
theorem dX11_digest_30 : decode cX11_digest 30 = .ok (.lload_n 1, 1) := by decide +kernel
theorem dX11_digest_31 : decode cX11_digest 31 = .ok (.lmul, 1) := by decide +kernel
theorem dX11_digest_32 : decode cX11_digest 32 = .ok (.aload_n 0, 1) := by decide +kernel
theorem dX11_digest_33 : decode cX11_digest 33 = .ok (.iload_n 3, 1) := by decide +kernel
theorem dX11_digest_34 : decode cX11_digest 34 = .ok (.iload 4, 2) := by decide +kernel
theorem dX11_digest_36 : decode cX11_digest 36 = .ok (.invokevirtual 226, 3) := by decide +kernel
theorem dX11_digest_39 : decode cX11_digest 39 = .ok (.i2l, 1) := by decide +kernel
theorem dX11_digest_40 : decode cX11_digest 40 = .ok (.ladd, 1) := by decide +kernel
theorem dX11_digest_41 : decode cX11_digest 41 = .ok (.lstore_n 1, 1) := by decide +kernel
theorem dX11_digest_42 : decode cX11_digest 42 = .ok (.iinc 4 1, 3) := by decide +kernel
theorem dX11_digest_45 : decode cX11_digest 45 = .ok (.goto (-25), 3) := by decide +kernel
theorem dX11_digest_48 : decode cX11_digest 48 = .ok (.iinc 3 1, 3) := by decide +kernel
theorem dX11_digest_51 : decode cX11_digest 51 = .ok (.goto (-45), 3) := by decide +kernel
theorem dX11_digest_54 : decode cX11_digest 54 = .ok (.iconst 0, 1) := by decide +kernel
theorem dX11_digest_55 : decode cX11_digest 55 = .ok (.istore_n 3, 1) := by decide +kernel
theorem dX11_digest_56 : decode cX11_digest 56 = .ok (.iload_n 3, 1) := by decide +kernel
theorem dX11_digest_57 : decode cX11_digest 57 = .ok (.aload_n 0, 1) := by decide +kernel
theorem dX11_digest_58 : decode cX11_digest 58 = .ok (.getfield 19, 3) := by decide +kernel
theorem dX11_digest_61 : decode cX11_digest 61 = .ok (.invokevirtual 80, 3) := by decide +kernel
theorem dX11_digest_64 : decode cX11_digest 64 = .ok (.if_icmp .ge 39, 3) := by decide +kernel
theorem dX11_digest_67 : decode cX11_digest 67 = .ok (.iconst 0, 1) := by decide +kernel
theorem dX11_digest_68 : decode cX11_digest 68 = .ok (.istore 4, 2) := by decide +kernel
theorem dX11_digest_70 : decode cX11_digest 70 = .ok (.iload 4, 2) := by decide +kernel
theorem dX11_digest_72 : decode cX11_digest 72 = .ok (.iconst 5, 1) := by decide +kernel
theorem dX11_digest_73 : decode cX11_digest 73 = .ok (.if_icmp .gt 24, 3) := by decide +kernel
theorem dX11_digest_76 : decode cX11_digest 76 = .ok (.ldc2_w 224, 3) := by decide +kernel
theorem dX11_digest_79 : decode cX11_digest 79 = .ok (.lload_n 1, 1) := by decide +kernel
theorem dX11_digest_80 : decode cX11_digest 80 = .ok (.lmul, 1) := by decide +kernel
theorem dX11_digest_81 : decode cX11_digest 81 = .ok (.aload_n 0, 1) := by decide +kernel
theorem dX11_digest_82 : decode cX11_digest 82 = .ok (.iload_n 3, 1) := by decide +kernel
theorem dX11_digest_83 : decode cX11_digest 83 = .ok (.iload 4, 2) := by decide +kernel
theorem dX11_digest_85 : decode cX11_digest 85 = .ok (.invokevirtual 229, 3) := by decide +kernel
theorem dX11_digest_88 : decode cX11_digest 88 = .ok (.i2l, 1) := by decide +kernel
theorem dX11_digest_89 : decode cX11_digest 89 = .ok (.ladd, 1) := by decide +kernel
theorem dX11_digest_90 : decode cX11_digest 90 = .ok (.lstore_n 1, 1) := by decide +kernel
theorem dX11_digest_91 : decode cX11_digest 91 = .ok (.iinc 4 1, 3) := by decide +kernel
theorem dX11_digest_94 : decode cX11_digest 94 = .ok (.goto (-24), 3) := by decide +kernel
theorem dX11_digest_97 : decode cX11_digest 97 = .ok (.iinc 3 1, 3) := by decide +kernel
theorem dX11_digest_100 : decode cX11_digest 100 = .ok (.goto (-44), 3) := by decide +kernel
theorem dX11_digest_103 : decode cX11_digest 103 = .ok (.aload_n 0, 1) := by decide +kernel
theorem dX11_digest_104 : decode cX11_digest 104 = .ok (.invokevirtual 168, 3) := by decide +kernel
theorem dX11_digest_107 : decode cX11_digest 107 = .ok (.ifCond .eq 9, 3) := by decide +kernel
theorem dX11_digest_110 : decode cX11_digest 110 = .ok (.aload_n 0, 1) := by decide +kernel
theorem dX11_digest_111 : decode cX11_digest 111 = .ok (.lload_n 1, 1) := by decide +kernel
theorem dX11_digest_112 : decode cX11_digest 112 = .ok (.invokevirtual 232, 3) := by decide +kernel
theorem dX11_digest_115 : decode cX11_digest 115 = .ok (.lstore_n 1, 1) := by decide +kernel
theorem dX11_digest_116 : decode cX11_digest 116 = .ok (.iconst 0, 1) := by decide +kernel
theorem dX11_digest_117 : decode cX11_digest 117 = .ok (.istore_n 3, 1) := by decide +kernel
theorem dX11_digest_118 : decode cX11_digest 118 = .ok (.iload_n 3, 1) := by decide +kernel
theorem dX11_digest_119 : decode cX11_digest 119 = .ok (.aload_n 0, 1) := by decide +kernel
theorem dX11_digest_120 : decode cX11_digest 120 = .ok (.getfield 10, 3) := by decide +kernel
theorem dX11_digest_123 : decode cX11_digest 123 = .ok (.invokevirtual 51, 3) := by decide +kernel
theorem dX11_digest_126 : decode cX11_digest 126 = .ok (.if_icmp .ge 25, 3) := by decide +kernel
theorem dX11_digest_129 : decode cX11_digest 129 = .ok (.ldc2_w 224, 3) := by decide +kernel
theorem dX11_digest_132 : decode cX11_digest 132 = .ok (.lload_n 1, 1) := by decide +kernel
theorem dX11_digest_133 : decode cX11_digest 133 = .ok (.lmul, 1) := by decide +kernel
theorem dX11_digest_134 : decode cX11_digest 134 = .ok (.aload_n 0, 1) := by decide +kernel
theorem dX11_digest_135 : decode cX11_digest 135 = .ok (.getfield 10, 3) := by decide +kernel
theorem dX11_digest_138 : decode cX11_digest 138 = .ok (.iload_n 3, 1) := by decide +kernel
theorem dX11_digest_139 : decode cX11_digest 139 = .ok (.invokevirtual 236, 3) := by decide +kernel
theorem dX11_digest_142 : decode cX11_digest 142 = .ok (.i2l, 1) := by decide +kernel
theorem dX11_digest_143 : decode cX11_digest 143 = .ok (.ladd, 1) := by decide +kernel
theorem dX11_digest_144 : decode cX11_digest 144 = .ok (.lstore_n 1, 1) := by decide +kernel
theorem dX11_digest_145 : decode cX11_digest 145 = .ok (.iinc 3 1, 3) := by decide +kernel
theorem dX11_digest_148 : decode cX11_digest 148 = .ok (.goto (-30), 3) := by decide +kernel
theorem dX11_digest_151 : decode cX11_digest 151 = .ok (.iconst 0, 1) := by decide +kernel
theorem dX11_digest_152 : decode cX11_digest 152 = .ok (.istore_n 3, 1) := by decide +kernel
theorem dX11_digest_153 : decode cX11_digest 153 = .ok (.iload_n 3, 1) := by decide +kernel
theorem dX11_digest_154 : decode cX11_digest 154 = .ok (.bipush 9, 2) := by decide +kernel
theorem dX11_digest_156 : decode cX11_digest 156 = .ok (.if_icmp .gt 22, 3) := by decide +kernel
theorem dX11_digest_159 : decode cX11_digest 159 = .ok (.ldc2_w 224, 3) := by decide +kernel
theorem dX11_digest_162 : decode cX11_digest 162 = .ok (.lload_n 1, 1) := by decide +kernel
theorem dX11_digest_163 : decode cX11_digest 163 = .ok (.lmul, 1) := by decide +kernel
theorem dX11_digest_164 : decode cX11_digest 164 = .ok (.aload_n 0, 1) := by decide +kernel
theorem dX11_digest_165 : decode cX11_digest 165 = .ok (.iload_n 3, 1) := by decide +kernel
theorem dX11_digest_166 : decode cX11_digest 166 = .ok (.invokevirtual 239, 3) := by decide +kernel
theorem dX11_digest_169 : decode cX11_digest 169 = .ok (.i2l, 1) := by decide +kernel
theorem dX11_digest_170 : decode cX11_digest 170 = .ok (.ladd, 1) := by decide +kernel
theorem dX11_digest_171 : decode cX11_digest 171 = .ok (.lstore_n 1, 1) := by decide +kernel
theorem dX11_digest_172 : decode cX11_digest 172 = .ok (.iinc 3 1, 3) := by decide +kernel
theorem dX11_digest_175 : decode cX11_digest 175 = .ok (.goto (-22), 3) := by decide +kernel
theorem dX11_digest_178 : decode cX11_digest 178 = .ok (.lload_n 1, 1) := by decide +kernel
theorem dX11_digest_179 : decode cX11_digest 179 = .ok (.lreturn, 1) := by decide +kernel
theorem dX11_isOpen_0 : decode cX11_isOpen 0 = .ok (.aload_n 0, 1) := by decide +kernel
theorem dX11_isOpen_1 : decode cX11_isOpen 1 = .ok (.getfield 19, 3) := by decide +kernel
theorem dX11_isOpen_4 : decode cX11_isOpen 4 = .ok (.invokevirtual 205, 3) := by decide +kernel
theorem dX11_isOpen_7 : decode cX11_isOpen 7 = .ok (.ifCond .le 7, 3) := by decide +kernel
theorem dX11_isOpen_10 : decode cX11_isOpen 10 = .ok (.iconst 1, 1) := by decide +kernel
theorem dX11_isOpen_11 : decode cX11_isOpen 11 = .ok (.goto 4, 3) := by decide +kernel
theorem dX11_isOpen_14 : decode cX11_isOpen 14 = .ok (.iconst 0, 1) := by decide +kernel
theorem dX11_isOpen_15 : decode cX11_isOpen 15 = .ok (.ireturn, 1) := by decide +kernel
theorem dX11_isSize_0 : decode cX11_isSize 0 = .ok (.iload_n 0, 1) := by decide +kernel
theorem dX11_isSize_1 : decode cX11_isSize 1 = .ok (.iconst 1, 1) := by decide +kernel
theorem dX11_isSize_2 : decode cX11_isSize 2 = .ok (.if_icmp .lt 13, 3) := by decide +kernel
theorem dX11_isSize_5 : decode cX11_isSize 5 = .ok (.iload_n 0, 1) := by decide +kernel
