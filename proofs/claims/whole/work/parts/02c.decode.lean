theorem dX11_isSize_6 : decode cX11_isSize 6 = .ok (.bipush 9, 2) := by decide +kernel
theorem dX11_isSize_8 : decode cX11_isSize 8 = .ok (.if_icmp .gt 7, 3) := by decide +kernel
theorem dX11_isSize_11 : decode cX11_isSize 11 = .ok (.iconst 1, 1) := by decide +kernel
theorem dX11_isSize_12 : decode cX11_isSize 12 = .ok (.goto 4, 3) := by decide +kernel
theorem dX11_isSize_15 : decode cX11_isSize 15 = .ok (.iconst 0, 1) := by decide +kernel
theorem dX11_isSize_16 : decode cX11_isSize 16 = .ok (.ireturn, 1) := by decide +kernel
theorem dX11_isOfKind_0 : decode cX11_isOfKind 0 = .ok (.iload_n 1, 1) := by decide +kernel
theorem dX11_isOfKind_1 : decode cX11_isOfKind 1 = .ok (.tableswitch 48 0 3 #[31, 33, 38, 43], 31) := by decide +kernel
theorem dX11_isOfKind_32 : decode cX11_isOfKind 32 = .ok (.iconst 1, 1) := by decide +kernel
theorem dX11_isOfKind_33 : decode cX11_isOfKind 33 = .ok (.ireturn, 1) := by decide +kernel
theorem dX11_isOfKind_34 : decode cX11_isOfKind 34 = .ok (.aload_n 0, 1) := by decide +kernel
theorem dX11_isOfKind_35 : decode cX11_isOfKind 35 = .ok (.instanceof 242, 3) := by decide +kernel
theorem dX11_isOfKind_38 : decode cX11_isOfKind 38 = .ok (.ireturn, 1) := by decide +kernel
theorem dX11_isOfKind_39 : decode cX11_isOfKind 39 = .ok (.aload_n 0, 1) := by decide +kernel
theorem dX11_isOfKind_40 : decode cX11_isOfKind 40 = .ok (.instanceof 244, 3) := by decide +kernel
theorem dX11_isOfKind_43 : decode cX11_isOfKind 43 = .ok (.ireturn, 1) := by decide +kernel
theorem dX11_isOfKind_44 : decode cX11_isOfKind 44 = .ok (.aload_n 0, 1) := by decide +kernel
theorem dX11_isOfKind_45 : decode cX11_isOfKind 45 = .ok (.instanceof 246, 3) := by decide +kernel
theorem dX11_isOfKind_48 : decode cX11_isOfKind 48 = .ok (.ireturn, 1) := by decide +kernel
theorem dX11_isOfKind_49 : decode cX11_isOfKind 49 = .ok (.aload_n 0, 1) := by decide +kernel
theorem dX11_isOfKind_50 : decode cX11_isOfKind 50 = .ok (.instanceof 248, 3) := by decide +kernel
theorem dX11_isOfKind_53 : decode cX11_isOfKind 53 = .ok (.ireturn, 1) := by decide +kernel
theorem dX11_isFitting_0 : decode cX11_isFitting 0 = .ok (.aload_n 0, 1) := by decide +kernel
theorem dX11_isFitting_1 : decode cX11_isFitting 1 = .ok (.getfield 19, 3) := by decide +kernel
theorem dX11_isFitting_4 : decode cX11_isFitting 4 = .ok (.iload_n 1, 1) := by decide +kernel
theorem dX11_isFitting_5 : decode cX11_isFitting 5 = .ok (.invokevirtual 83, 3) := by decide +kernel
theorem dX11_isFitting_8 : decode cX11_isFitting 8 = .ok (.astore 4, 2) := by decide +kernel
theorem dX11_isFitting_10 : decode cX11_isFitting 10 = .ok (.aload_n 0, 1) := by decide +kernel
theorem dX11_isFitting_11 : decode cX11_isFitting 11 = .ok (.getfield 19, 3) := by decide +kernel
theorem dX11_isFitting_14 : decode cX11_isFitting 14 = .ok (.iload_n 2, 1) := by decide +kernel
theorem dX11_isFitting_15 : decode cX11_isFitting 15 = .ok (.invokevirtual 122, 3) := by decide +kernel
theorem dX11_isFitting_18 : decode cX11_isFitting 18 = .ok (.astore 5, 2) := by decide +kernel
theorem dX11_isFitting_20 : decode cX11_isFitting 20 = .ok (.aload 4, 2) := by decide +kernel
theorem dX11_isFitting_22 : decode cX11_isFitting 22 = .ok (.ifnull 31, 3) := by decide +kernel
theorem dX11_isFitting_25 : decode cX11_isFitting 25 = .ok (.aload 5, 2) := by decide +kernel
theorem dX11_isFitting_27 : decode cX11_isFitting 27 = .ok (.ifnull 26, 3) := by decide +kernel
theorem dX11_isFitting_30 : decode cX11_isFitting 30 = .ok (.aload 4, 2) := by decide +kernel
theorem dX11_isFitting_32 : decode cX11_isFitting 32 = .ok (.aload 4, 2) := by decide +kernel
theorem dX11_isFitting_34 : decode cX11_isFitting 34 = .ok (.getfield 92, 3) := by decide +kernel
theorem dX11_isFitting_37 : decode cX11_isFitting 37 = .ok (.iload_n 3, 1) := by decide +kernel
theorem dX11_isFitting_38 : decode cX11_isFitting 38 = .ok (.aload 5, 2) := by decide +kernel
theorem dX11_isFitting_40 : decode cX11_isFitting 40 = .ok (.getfield 129, 3) := by decide +kernel
theorem dX11_isFitting_43 : decode cX11_isFitting 43 = .ok (.invokevirtual 250, 3) := by decide +kernel
theorem dX11_isFitting_46 : decode cX11_isFitting 46 = .ok (.ifCond .eq 7, 3) := by decide +kernel
theorem dX11_isFitting_49 : decode cX11_isFitting 49 = .ok (.iconst 1, 1) := by decide +kernel
theorem dX11_isFitting_50 : decode cX11_isFitting 50 = .ok (.goto 4, 3) := by decide +kernel
theorem dX11_isFitting_53 : decode cX11_isFitting 53 = .ok (.iconst 0, 1) := by decide +kernel
theorem dX11_isFitting_54 : decode cX11_isFitting 54 = .ok (.ireturn, 1) := by decide +kernel
theorem dX11_crimesFitting_0 : decode cX11_crimesFitting 0 = .ok (.iconst 0, 1) := by decide +kernel
theorem dX11_crimesFitting_1 : decode cX11_crimesFitting 1 = .ok (.istore_n 2, 1) := by decide +kernel
theorem dX11_crimesFitting_2 : decode cX11_crimesFitting 2 = .ok (.iconst 0, 1) := by decide +kernel
theorem dX11_crimesFitting_3 : decode cX11_crimesFitting 3 = .ok (.istore_n 3, 1) := by decide +kernel
theorem dX11_crimesFitting_4 : decode cX11_crimesFitting 4 = .ok (.iload_n 3, 1) := by decide +kernel
theorem dX11_crimesFitting_5 : decode cX11_crimesFitting 5 = .ok (.aload_n 0, 1) := by decide +kernel
theorem dX11_crimesFitting_6 : decode cX11_crimesFitting 6 = .ok (.getfield 19, 3) := by decide +kernel
theorem dX11_crimesFitting_9 : decode cX11_crimesFitting 9 = .ok (.invokevirtual 80, 3) := by decide +kernel
theorem dX11_crimesFitting_12 : decode cX11_crimesFitting 12 = .ok (.if_icmp .ge 32, 3) := by decide +kernel
theorem dX11_crimesFitting_15 : decode cX11_crimesFitting 15 = .ok (.aload_n 0, 1) := by decide +kernel
theorem dX11_crimesFitting_16 : decode cX11_crimesFitting 16 = .ok (.iload_n 1, 1) := by decide +kernel
theorem dX11_crimesFitting_17 : decode cX11_crimesFitting 17 = .ok (.iload_n 3, 1) := by decide +kernel
theorem dX11_crimesFitting_18 : decode cX11_crimesFitting 18 = .ok (.aload_n 0, 1) := by decide +kernel
theorem dX11_crimesFitting_19 : decode cX11_crimesFitting 19 = .ok (.getfield 26, 3) := by decide +kernel
theorem dX11_crimesFitting_22 : decode cX11_crimesFitting 22 = .ok (.iload_n 3, 1) := by decide +kernel
theorem dX11_crimesFitting_23 : decode cX11_crimesFitting 23 = .ok (.invokevirtual 126, 3) := by decide +kernel
theorem dX11_crimesFitting_26 : decode cX11_crimesFitting 26 = .ok (.invokevirtual 254, 3) := by decide +kernel
theorem dX11_crimesFitting_29 : decode cX11_crimesFitting 29 = .ok (.ifCond .eq 9, 3) := by decide +kernel
theorem dX11_crimesFitting_32 : decode cX11_crimesFitting 32 = .ok (.iload_n 2, 1) := by decide +kernel
theorem dX11_crimesFitting_33 : decode cX11_crimesFitting 33 = .ok (.iconst 1, 1) := by decide +kernel
theorem dX11_crimesFitting_34 : decode cX11_crimesFitting 34 = .ok (.iload_n 3, 1) := by decide +kernel
theorem dX11_crimesFitting_35 : decode cX11_crimesFitting 35 = .ok (.ishl, 1) := by decide +kernel
theorem dX11_crimesFitting_36 : decode cX11_crimesFitting 36 = .ok (.ior, 1) := by decide +kernel
theorem dX11_crimesFitting_37 : decode cX11_crimesFitting 37 = .ok (.istore_n 2, 1) := by decide +kernel
theorem dX11_crimesFitting_38 : decode cX11_crimesFitting 38 = .ok (.iinc 3 1, 3) := by decide +kernel
theorem dX11_crimesFitting_41 : decode cX11_crimesFitting 41 = .ok (.goto (-37), 3) := by decide +kernel
theorem dX11_crimesFitting_44 : decode cX11_crimesFitting 44 = .ok (.iload_n 2, 1) := by decide +kernel
theorem dX11_crimesFitting_45 : decode cX11_crimesFitting 45 = .ok (.ireturn, 1) := by decide +kernel
theorem dX11_peopleFitted_0 : decode cX11_peopleFitted 0 = .ok (.iconst 0, 1) := by decide +kernel
theorem dX11_peopleFitted_1 : decode cX11_peopleFitted 1 = .ok (.istore_n 2, 1) := by decide +kernel
theorem dX11_peopleFitted_2 : decode cX11_peopleFitted 2 = .ok (.iconst 0, 1) := by decide +kernel
theorem dX11_peopleFitted_3 : decode cX11_peopleFitted 3 = .ok (.istore_n 3, 1) := by decide +kernel
theorem dX11_peopleFitted_4 : decode cX11_peopleFitted 4 = .ok (.iload_n 3, 1) := by decide +kernel
theorem dX11_peopleFitted_5 : decode cX11_peopleFitted 5 = .ok (.aload_n 0, 1) := by decide +kernel
theorem dX11_peopleFitted_6 : decode cX11_peopleFitted 6 = .ok (.getfield 19, 3) := by decide +kernel
theorem dX11_peopleFitted_9 : decode cX11_peopleFitted 9 = .ok (.invokevirtual 205, 3) := by decide +kernel
theorem dX11_peopleFitted_12 : decode cX11_peopleFitted 12 = .ok (.if_icmp .ge 32, 3) := by decide +kernel
theorem dX11_peopleFitted_15 : decode cX11_peopleFitted 15 = .ok (.aload_n 0, 1) := by decide +kernel
theorem dX11_peopleFitted_16 : decode cX11_peopleFitted 16 = .ok (.iload_n 3, 1) := by decide +kernel
theorem dX11_peopleFitted_17 : decode cX11_peopleFitted 17 = .ok (.iload_n 1, 1) := by decide +kernel
theorem dX11_peopleFitted_18 : decode cX11_peopleFitted 18 = .ok (.aload_n 0, 1) := by decide +kernel
theorem dX11_peopleFitted_19 : decode cX11_peopleFitted 19 = .ok (.getfield 26, 3) := by decide +kernel
theorem dX11_peopleFitted_22 : decode cX11_peopleFitted 22 = .ok (.iload_n 1, 1) := by decide +kernel
theorem dX11_peopleFitted_23 : decode cX11_peopleFitted 23 = .ok (.invokevirtual 126, 3) := by decide +kernel
theorem dX11_peopleFitted_26 : decode cX11_peopleFitted 26 = .ok (.invokevirtual 254, 3) := by decide +kernel
theorem dX11_peopleFitted_29 : decode cX11_peopleFitted 29 = .ok (.ifCond .eq 9, 3) := by decide +kernel
theorem dX11_peopleFitted_32 : decode cX11_peopleFitted 32 = .ok (.iload_n 2, 1) := by decide +kernel
theorem dX11_peopleFitted_33 : decode cX11_peopleFitted 33 = .ok (.iconst 1, 1) := by decide +kernel
theorem dX11_peopleFitted_34 : decode cX11_peopleFitted 34 = .ok (.iload_n 3, 1) := by decide +kernel
theorem dX11_peopleFitted_35 : decode cX11_peopleFitted 35 = .ok (.ishl, 1) := by decide +kernel
theorem dX11_peopleFitted_36 : decode cX11_peopleFitted 36 = .ok (.ior, 1) := by decide +kernel
theorem dX11_peopleFitted_37 : decode cX11_peopleFitted 37 = .ok (.istore_n 2, 1) := by decide +kernel
theorem dX11_peopleFitted_38 : decode cX11_peopleFitted 38 = .ok (.iinc 3 1, 3) := by decide +kernel
theorem dX11_peopleFitted_41 : decode cX11_peopleFitted 41 = .ok (.goto (-37), 3) := by decide +kernel
theorem dX11_peopleFitted_44 : decode cX11_peopleFitted 44 = .ok (.iload_n 2, 1) := by decide +kernel
theorem dX11_peopleFitted_45 : decode cX11_peopleFitted 45 = .ok (.ireturn, 1) := by decide +kernel
theorem dX11_halvesOf_0 : decode cX11_halvesOf 0 = .ok (.iconst 0, 1) := by decide +kernel
theorem dX11_halvesOf_1 : decode cX11_halvesOf 1 = .ok (.istore_n 2, 1) := by decide +kernel
theorem dX11_halvesOf_2 : decode cX11_halvesOf 2 = .ok (.iload_n 2, 1) := by decide +kernel
theorem dX11_halvesOf_3 : decode cX11_halvesOf 3 = .ok (.aload_n 0, 1) := by decide +kernel
theorem dX11_halvesOf_4 : decode cX11_halvesOf 4 = .ok (.getfield 19, 3) := by decide +kernel
theorem dX11_halvesOf_7 : decode cX11_halvesOf 7 = .ok (.invokevirtual 205, 3) := by decide +kernel
theorem dX11_halvesOf_10 : decode cX11_halvesOf 10 = .ok (.if_icmp .ge 47, 3) := by decide +kernel
theorem dX11_halvesOf_13 : decode cX11_halvesOf 13 = .ok (.iload_n 2, 1) := by decide +kernel
theorem dX11_halvesOf_14 : decode cX11_halvesOf 14 = .ok (.iconst 1, 1) := by decide +kernel
theorem dX11_halvesOf_15 : decode cX11_halvesOf 15 = .ok (.iadd, 1) := by decide +kernel
theorem dX11_halvesOf_16 : decode cX11_halvesOf 16 = .ok (.istore_n 3, 1) := by decide +kernel
theorem dX11_halvesOf_17 : decode cX11_halvesOf 17 = .ok (.iload_n 3, 1) := by decide +kernel
theorem dX11_halvesOf_18 : decode cX11_halvesOf 18 = .ok (.aload_n 0, 1) := by decide +kernel
theorem dX11_halvesOf_19 : decode cX11_halvesOf 19 = .ok (.getfield 19, 3) := by decide +kernel
theorem dX11_halvesOf_22 : decode cX11_halvesOf 22 = .ok (.invokevirtual 205, 3) := by decide +kernel
theorem dX11_halvesOf_25 : decode cX11_halvesOf 25 = .ok (.if_icmp .ge 26, 3) := by decide +kernel
theorem dX11_halvesOf_28 : decode cX11_halvesOf 28 = .ok (.aload_n 0, 1) := by decide +kernel
theorem dX11_halvesOf_29 : decode cX11_halvesOf 29 = .ok (.iload_n 2, 1) := by decide +kernel
theorem dX11_halvesOf_30 : decode cX11_halvesOf 30 = .ok (.iload_n 3, 1) := by decide +kernel
theorem dX11_halvesOf_31 : decode cX11_halvesOf 31 = .ok (.iload_n 1, 1) := by decide +kernel
theorem dX11_halvesOf_32 : decode cX11_halvesOf 32 = .ok (.invokevirtual 257, 3) := by decide +kernel
theorem dX11_halvesOf_35 : decode cX11_halvesOf 35 = .ok (.ifCond .eq 10, 3) := by decide +kernel
theorem dX11_halvesOf_38 : decode cX11_halvesOf 38 = .ok (.bipush 10, 2) := by decide +kernel
theorem dX11_halvesOf_40 : decode cX11_halvesOf 40 = .ok (.iload_n 2, 1) := by decide +kernel
theorem dX11_halvesOf_41 : decode cX11_halvesOf 41 = .ok (.imul, 1) := by decide +kernel
theorem dX11_halvesOf_42 : decode cX11_halvesOf 42 = .ok (.iload_n 3, 1) := by decide +kernel
theorem dX11_halvesOf_43 : decode cX11_halvesOf 43 = .ok (.iadd, 1) := by decide +kernel
theorem dX11_halvesOf_44 : decode cX11_halvesOf 44 = .ok (.ireturn, 1) := by decide +kernel
theorem dX11_halvesOf_45 : decode cX11_halvesOf 45 = .ok (.iinc 3 1, 3) := by decide +kernel
theorem dX11_halvesOf_48 : decode cX11_halvesOf 48 = .ok (.goto (-31), 3) := by decide +kernel
theorem dX11_halvesOf_51 : decode cX11_halvesOf 51 = .ok (.iinc 2 1, 3) := by decide +kernel
theorem dX11_halvesOf_54 : decode cX11_halvesOf 54 = .ok (.goto (-52), 3) := by decide +kernel
theorem dX11_halvesOf_57 : decode cX11_halvesOf 57 = .ok (.iconst (-1), 1) := by decide +kernel
theorem dX11_halvesOf_58 : decode cX11_halvesOf 58 = .ok (.ireturn, 1) := by decide +kernel
theorem dX11_canGoHalves_0 : decode cX11_canGoHalves 0 = .ok (.aload_n 0, 1) := by decide +kernel
theorem dX11_canGoHalves_1 : decode cX11_canGoHalves 1 = .ok (.getfield 19, 3) := by decide +kernel
theorem dX11_canGoHalves_4 : decode cX11_canGoHalves 4 = .ok (.iload_n 1, 1) := by decide +kernel
theorem dX11_canGoHalves_5 : decode cX11_canGoHalves 5 = .ok (.invokevirtual 83, 3) := by decide +kernel
theorem dX11_canGoHalves_8 : decode cX11_canGoHalves 8 = .ok (.astore 4, 2) := by decide +kernel
theorem dX11_canGoHalves_10 : decode cX11_canGoHalves 10 = .ok (.aload_n 0, 1) := by decide +kernel
theorem dX11_canGoHalves_11 : decode cX11_canGoHalves 11 = .ok (.getfield 19, 3) := by decide +kernel
theorem dX11_canGoHalves_14 : decode cX11_canGoHalves 14 = .ok (.iload_n 2, 1) := by decide +kernel
theorem dX11_canGoHalves_15 : decode cX11_canGoHalves 15 = .ok (.invokevirtual 83, 3) := by decide +kernel
theorem dX11_canGoHalves_18 : decode cX11_canGoHalves 18 = .ok (.astore 5, 2) := by decide +kernel
theorem dX11_canGoHalves_20 : decode cX11_canGoHalves 20 = .ok (.aload_n 0, 1) := by decide +kernel
theorem dX11_canGoHalves_21 : decode cX11_canGoHalves 21 = .ok (.getfield 19, 3) := by decide +kernel
theorem dX11_canGoHalves_24 : decode cX11_canGoHalves 24 = .ok (.iload_n 3, 1) := by decide +kernel
theorem dX11_canGoHalves_25 : decode cX11_canGoHalves 25 = .ok (.invokevirtual 122, 3) := by decide +kernel
theorem dX11_canGoHalves_28 : decode cX11_canGoHalves 28 = .ok (.astore 6, 2) := by decide +kernel
theorem dX11_canGoHalves_30 : decode cX11_canGoHalves 30 = .ok (.aload 4, 2) := by decide +kernel
theorem dX11_canGoHalves_32 : decode cX11_canGoHalves 32 = .ok (.ifnull 13, 3) := by decide +kernel
theorem dX11_canGoHalves_35 : decode cX11_canGoHalves 35 = .ok (.aload 5, 2) := by decide +kernel
theorem dX11_canGoHalves_37 : decode cX11_canGoHalves 37 = .ok (.ifnull 8, 3) := by decide +kernel
theorem dX11_canGoHalves_40 : decode cX11_canGoHalves 40 = .ok (.aload 6, 2) := by decide +kernel
theorem dX11_canGoHalves_42 : decode cX11_canGoHalves 42 = .ok (.ifnonnull 5, 3) := by decide +kernel
theorem dX11_canGoHalves_45 : decode cX11_canGoHalves 45 = .ok (.iconst 0, 1) := by decide +kernel
theorem dX11_canGoHalves_46 : decode cX11_canGoHalves 46 = .ok (.ireturn, 1) := by decide +kernel
theorem dX11_canGoHalves_47 : decode cX11_canGoHalves 47 = .ok (.aload 4, 2) := by decide +kernel
theorem dX11_canGoHalves_49 : decode cX11_canGoHalves 49 = .ok (.aload 4, 2) := by decide +kernel
theorem dX11_canGoHalves_51 : decode cX11_canGoHalves 51 = .ok (.getfield 92, 3) := by decide +kernel
theorem dX11_canGoHalves_54 : decode cX11_canGoHalves 54 = .ok (.invokevirtual 260, 3) := by decide +kernel
theorem dX11_canGoHalves_57 : decode cX11_canGoHalves 57 = .ok (.aload 5, 2) := by decide +kernel
theorem dX11_canGoHalves_59 : decode cX11_canGoHalves 59 = .ok (.aload 5, 2) := by decide +kernel
theorem dX11_canGoHalves_61 : decode cX11_canGoHalves 61 = .ok (.getfield 92, 3) := by decide +kernel
theorem dX11_canGoHalves_64 : decode cX11_canGoHalves 64 = .ok (.invokevirtual 260, 3) := by decide +kernel
theorem dX11_canGoHalves_67 : decode cX11_canGoHalves 67 = .ok (.iadd, 1) := by decide +kernel
theorem dX11_canGoHalves_68 : decode cX11_canGoHalves 68 = .ok (.aload_n 0, 1) := by decide +kernel
theorem dX11_canGoHalves_69 : decode cX11_canGoHalves 69 = .ok (.getfield 26, 3) := by decide +kernel
theorem dX11_canGoHalves_72 : decode cX11_canGoHalves 72 = .ok (.iload_n 3, 1) := by decide +kernel
theorem dX11_canGoHalves_73 : decode cX11_canGoHalves 73 = .ok (.invokevirtual 126, 3) := by decide +kernel
theorem dX11_canGoHalves_76 : decode cX11_canGoHalves 76 = .ok (.if_icmp .ne 33, 3) := by decide +kernel
theorem dX11_canGoHalves_79 : decode cX11_canGoHalves 79 = .ok (.aload 4, 2) := by decide +kernel
theorem dX11_canGoHalves_81 : decode cX11_canGoHalves 81 = .ok (.aload 6, 2) := by decide +kernel
theorem dX11_canGoHalves_83 : decode cX11_canGoHalves 83 = .ok (.getfield 129, 3) := by decide +kernel
theorem dX11_canGoHalves_86 : decode cX11_canGoHalves 86 = .ok (.invokevirtual 263, 3) := by decide +kernel
theorem dX11_canGoHalves_89 : decode cX11_canGoHalves 89 = .ok (.ifCond .ne 16, 3) := by decide +kernel
theorem dX11_canGoHalves_92 : decode cX11_canGoHalves 92 = .ok (.aload 5, 2) := by decide +kernel
theorem dX11_canGoHalves_94 : decode cX11_canGoHalves 94 = .ok (.aload 6, 2) := by decide +kernel
theorem dX11_canGoHalves_96 : decode cX11_canGoHalves 96 = .ok (.getfield 129, 3) := by decide +kernel
theorem dX11_canGoHalves_99 : decode cX11_canGoHalves 99 = .ok (.invokevirtual 263, 3) := by decide +kernel
theorem dX11_canGoHalves_102 : decode cX11_canGoHalves 102 = .ok (.ifCond .eq 7, 3) := by decide +kernel
theorem dX11_canGoHalves_105 : decode cX11_canGoHalves 105 = .ok (.iconst 1, 1) := by decide +kernel
theorem dX11_canGoHalves_106 : decode cX11_canGoHalves 106 = .ok (.goto 4, 3) := by decide +kernel
theorem dX11_canGoHalves_109 : decode cX11_canGoHalves 109 = .ok (.iconst 0, 1) := by decide +kernel
theorem dX11_canGoHalves_110 : decode cX11_canGoHalves 110 = .ok (.ireturn, 1) := by decide +kernel
theorem dX11_isFree_0 : decode cX11_isFree 0 = .ok (.aload_n 0, 1) := by decide +kernel
theorem dX11_isFree_1 : decode cX11_isFree 1 = .ok (.getfield 19, 3) := by decide +kernel
theorem dX11_isFree_4 : decode cX11_isFree 4 = .ok (.iload_n 2, 1) := by decide +kernel
theorem dX11_isFree_5 : decode cX11_isFree 5 = .ok (.invokevirtual 83, 3) := by decide +kernel
theorem dX11_isFree_8 : decode cX11_isFree 8 = .ok (.astore_n 3, 1) := by decide +kernel
theorem dX11_isFree_9 : decode cX11_isFree 9 = .ok (.aload_n 3, 1) := by decide +kernel
theorem dX11_isFree_10 : decode cX11_isFree 10 = .ok (.ifnull 23, 3) := by decide +kernel
theorem dX11_isFree_13 : decode cX11_isFree 13 = .ok (.aload_n 3, 1) := by decide +kernel
theorem dX11_isFree_14 : decode cX11_isFree 14 = .ok (.invokevirtual 266, 3) := by decide +kernel
theorem dX11_isFree_17 : decode cX11_isFree 17 = .ok (.ifCond .eq 16, 3) := by decide +kernel
theorem dX11_isFree_20 : decode cX11_isFree 20 = .ok (.aload_n 1, 1) := by decide +kernel
theorem dX11_isFree_21 : decode cX11_isFree 21 = .ok (.iload_n 2, 1) := by decide +kernel
theorem dX11_isFree_22 : decode cX11_isFree 22 = .ok (.invokevirtual 101, 3) := by decide +kernel
theorem dX11_isFree_25 : decode cX11_isFree 25 = .ok (.iconst (-1), 1) := by decide +kernel
theorem dX11_isFree_26 : decode cX11_isFree 26 = .ok (.if_icmp .ne 7, 3) := by decide +kernel
theorem dX11_isFree_29 : decode cX11_isFree 29 = .ok (.iconst 1, 1) := by decide +kernel
theorem dX11_isFree_30 : decode cX11_isFree 30 = .ok (.goto 4, 3) := by decide +kernel
theorem dX11_isFree_33 : decode cX11_isFree 33 = .ok (.iconst 0, 1) := by decide +kernel
theorem dX11_isFree_34 : decode cX11_isFree 34 = .ok (.ireturn, 1) := by decide +kernel
theorem dX11_mayConfess_0 : decode cX11_mayConfess 0 = .ok (.aload_n 0, 1) := by decide +kernel
theorem dX11_mayConfess_1 : decode cX11_mayConfess 1 = .ok (.aload_n 1, 1) := by decide +kernel
theorem dX11_mayConfess_2 : decode cX11_mayConfess 2 = .ok (.iload_n 2, 1) := by decide +kernel
theorem dX11_mayConfess_3 : decode cX11_mayConfess 3 = .ok (.invokevirtual 269, 3) := by decide +kernel
theorem dX11_mayConfess_6 : decode cX11_mayConfess 6 = .ok (.ifCond .eq 30, 3) := by decide +kernel
theorem dX11_mayConfess_9 : decode cX11_mayConfess 9 = .ok (.aload_n 1, 1) := by decide +kernel
theorem dX11_mayConfess_10 : decode cX11_mayConfess 10 = .ok (.iload_n 3, 1) := by decide +kernel
theorem dX11_mayConfess_11 : decode cX11_mayConfess 11 = .ok (.invokevirtual 135, 3) := by decide +kernel
theorem dX11_mayConfess_14 : decode cX11_mayConfess 14 = .ok (.iconst (-1), 1) := by decide +kernel
theorem dX11_mayConfess_15 : decode cX11_mayConfess 15 = .ok (.if_icmp .ne 21, 3) := by decide +kernel
theorem dX11_mayConfess_18 : decode cX11_mayConfess 18 = .ok (.aload_n 0, 1) := by decide +kernel
theorem dX11_mayConfess_19 : decode cX11_mayConfess 19 = .ok (.iload_n 2, 1) := by decide +kernel
theorem dX11_mayConfess_20 : decode cX11_mayConfess 20 = .ok (.iload_n 3, 1) := by decide +kernel
theorem dX11_mayConfess_21 : decode cX11_mayConfess 21 = .ok (.aload_n 1, 1) := by decide +kernel
theorem dX11_mayConfess_22 : decode cX11_mayConfess 22 = .ok (.iload_n 3, 1) := by decide +kernel
theorem dX11_mayConfess_23 : decode cX11_mayConfess 23 = .ok (.invokevirtual 126, 3) := by decide +kernel
theorem dX11_mayConfess_26 : decode cX11_mayConfess 26 = .ok (.invokevirtual 254, 3) := by decide +kernel
theorem dX11_mayConfess_29 : decode cX11_mayConfess 29 = .ok (.ifCond .eq 7, 3) := by decide +kernel
theorem dX11_mayConfess_32 : decode cX11_mayConfess 32 = .ok (.iconst 1, 1) := by decide +kernel
theorem dX11_mayConfess_33 : decode cX11_mayConfess 33 = .ok (.goto 4, 3) := by decide +kernel
theorem dX11_mayConfess_36 : decode cX11_mayConfess 36 = .ok (.iconst 0, 1) := by decide +kernel
theorem dX11_mayConfess_37 : decode cX11_mayConfess 37 = .ok (.ireturn, 1) := by decide +kernel
theorem dX11_paidTo_0 : decode cX11_paidTo 0 = .ok (.aload_n 0, 1) := by decide +kernel
theorem dX11_paidTo_1 : decode cX11_paidTo 1 = .ok (.getfield 19, 3) := by decide +kernel
theorem dX11_paidTo_4 : decode cX11_paidTo 4 = .ok (.aload_n 1, 1) := by decide +kernel
theorem dX11_paidTo_5 : decode cX11_paidTo 5 = .ok (.iload_n 2, 1) := by decide +kernel
theorem dX11_paidTo_6 : decode cX11_paidTo 6 = .ok (.invokevirtual 101, 3) := by decide +kernel
theorem dX11_paidTo_9 : decode cX11_paidTo 9 = .ok (.invokevirtual 122, 3) := by decide +kernel
theorem dX11_paidTo_12 : decode cX11_paidTo 12 = .ok (.astore_n 3, 1) := by decide +kernel
theorem dX11_paidTo_13 : decode cX11_paidTo 13 = .ok (.aload_n 3, 1) := by decide +kernel
theorem dX11_paidTo_14 : decode cX11_paidTo 14 = .ok (.ifnonnull 7, 3) := by decide +kernel
theorem dX11_paidTo_17 : decode cX11_paidTo 17 = .ok (.iconst 0, 1) := by decide +kernel
theorem dX11_paidTo_18 : decode cX11_paidTo 18 = .ok (.goto 7, 3) := by decide +kernel
theorem dX11_paidTo_21 : decode cX11_paidTo 21 = .ok (.aload_n 3, 1) := by decide +kernel
theorem dX11_paidTo_22 : decode cX11_paidTo 22 = .ok (.getfield 132, 3) := by decide +kernel
theorem dX11_paidTo_25 : decode cX11_paidTo 25 = .ok (.ireturn, 1) := by decide +kernel
theorem dX11_paidInAll_0 : decode cX11_paidInAll 0 = .ok (.iconst 0, 1) := by decide +kernel
theorem dX11_paidInAll_1 : decode cX11_paidInAll 1 = .ok (.istore_n 2, 1) := by decide +kernel
theorem dX11_paidInAll_2 : decode cX11_paidInAll 2 = .ok (.iconst 0, 1) := by decide +kernel
theorem dX11_paidInAll_3 : decode cX11_paidInAll 3 = .ok (.istore_n 3, 1) := by decide +kernel
theorem dX11_paidInAll_4 : decode cX11_paidInAll 4 = .ok (.iload_n 3, 1) := by decide +kernel
theorem dX11_paidInAll_5 : decode cX11_paidInAll 5 = .ok (.aload_n 0, 1) := by decide +kernel
theorem dX11_paidInAll_6 : decode cX11_paidInAll 6 = .ok (.getfield 19, 3) := by decide +kernel
theorem dX11_paidInAll_9 : decode cX11_paidInAll 9 = .ok (.invokevirtual 205, 3) := by decide +kernel
theorem dX11_paidInAll_12 : decode cX11_paidInAll 12 = .ok (.if_icmp .ge 18, 3) := by decide +kernel
theorem dX11_paidInAll_15 : decode cX11_paidInAll 15 = .ok (.iload_n 2, 1) := by decide +kernel
theorem dX11_paidInAll_16 : decode cX11_paidInAll 16 = .ok (.aload_n 0, 1) := by decide +kernel
theorem dX11_paidInAll_17 : decode cX11_paidInAll 17 = .ok (.aload_n 1, 1) := by decide +kernel
theorem dX11_paidInAll_18 : decode cX11_paidInAll 18 = .ok (.iload_n 3, 1) := by decide +kernel
theorem dX11_paidInAll_19 : decode cX11_paidInAll 19 = .ok (.invokevirtual 105, 3) := by decide +kernel
theorem dX11_paidInAll_22 : decode cX11_paidInAll 22 = .ok (.iadd, 1) := by decide +kernel
theorem dX11_paidInAll_23 : decode cX11_paidInAll 23 = .ok (.istore_n 2, 1) := by decide +kernel
theorem dX11_paidInAll_24 : decode cX11_paidInAll 24 = .ok (.iinc 3 1, 3) := by decide +kernel
theorem dX11_paidInAll_27 : decode cX11_paidInAll 27 = .ok (.goto (-23), 3) := by decide +kernel
theorem dX11_paidInAll_30 : decode cX11_paidInAll 30 = .ok (.iload_n 2, 1) := by decide +kernel
theorem dX11_paidInAll_31 : decode cX11_paidInAll 31 = .ok (.ireturn, 1) := by decide +kernel
theorem dX11_isOfMatch_0 : decode cX11_isOfMatch 0 = .ok (.iload_n 0, 1) := by decide +kernel
theorem dX11_isOfMatch_1 : decode cX11_isOfMatch 1 = .ok (.ifCond .eq 20, 3) := by decide +kernel
theorem dX11_isOfMatch_4 : decode cX11_isOfMatch 4 = .ok (.iload_n 0, 1) := by decide +kernel
theorem dX11_isOfMatch_5 : decode cX11_isOfMatch 5 = .ok (.iconst 1, 1) := by decide +kernel
theorem dX11_isOfMatch_6 : decode cX11_isOfMatch 6 = .ok (.if_icmp .eq 15, 3) := by decide +kernel
theorem dX11_isOfMatch_9 : decode cX11_isOfMatch 9 = .ok (.iload_n 0, 1) := by decide +kernel
theorem dX11_isOfMatch_10 : decode cX11_isOfMatch 10 = .ok (.bipush 10, 2) := by decide +kernel
theorem dX11_isOfMatch_12 : decode cX11_isOfMatch 12 = .ok (.if_icmp .lt 13, 3) := by decide +kernel
theorem dX11_isOfMatch_15 : decode cX11_isOfMatch 15 = .ok (.iload_n 0, 1) := by decide +kernel
theorem dX11_isOfMatch_16 : decode cX11_isOfMatch 16 = .ok (.bipush 13, 2) := by decide +kernel
theorem dX11_isOfMatch_18 : decode cX11_isOfMatch 18 = .ok (.if_icmp .gt 7, 3) := by decide +kernel
theorem dX11_isOfMatch_21 : decode cX11_isOfMatch 21 = .ok (.iconst 1, 1) := by decide +kernel
theorem dX11_isOfMatch_22 : decode cX11_isOfMatch 22 = .ok (.goto 4, 3) := by decide +kernel
theorem dX11_isOfMatch_25 : decode cX11_isOfMatch 25 = .ok (.iconst 0, 1) := by decide +kernel
theorem dX11_isOfMatch_26 : decode cX11_isOfMatch 26 = .ok (.ireturn, 1) := by decide +kernel
theorem dX11_findMatch_0 : decode cX11_findMatch 0 = .ok (.aload_n 0, 1) := by decide +kernel
theorem dX11_findMatch_1 : decode cX11_findMatch 1 = .ok (.getfield 39, 3) := by decide +kernel
theorem dX11_findMatch_4 : decode cX11_findMatch 4 = .ok (.aload_n 0, 1) := by decide +kernel
theorem dX11_findMatch_5 : decode cX11_findMatch 5 = .ok (.getfield 19, 3) := by decide +kernel
theorem dX11_findMatch_8 : decode cX11_findMatch 8 = .ok (.invokevirtual 205, 3) := by decide +kernel
theorem dX11_findMatch_11 : decode cX11_findMatch 11 = .ok (.invokevirtual 273, 3) := by decide +kernel
theorem dX11_findMatch_14 : decode cX11_findMatch 14 = .ok (.iconst 0, 1) := by decide +kernel
theorem dX11_findMatch_15 : decode cX11_findMatch 15 = .ok (.istore_n 1, 1) := by decide +kernel
theorem dX11_findMatch_16 : decode cX11_findMatch 16 = .ok (.iload_n 1, 1) := by decide +kernel
theorem dX11_findMatch_17 : decode cX11_findMatch 17 = .ok (.aload_n 0, 1) := by decide +kernel
theorem dX11_findMatch_18 : decode cX11_findMatch 18 = .ok (.getfield 19, 3) := by decide +kernel
theorem dX11_findMatch_21 : decode cX11_findMatch 21 = .ok (.invokevirtual 205, 3) := by decide +kernel
theorem dX11_findMatch_24 : decode cX11_findMatch 24 = .ok (.if_icmp .ge 50, 3) := by decide +kernel
theorem dX11_findMatch_27 : decode cX11_findMatch 27 = .ok (.iconst 0, 1) := by decide +kernel
theorem dX11_findMatch_28 : decode cX11_findMatch 28 = .ok (.istore_n 2, 1) := by decide +kernel
theorem dX11_findMatch_29 : decode cX11_findMatch 29 = .ok (.iload_n 2, 1) := by decide +kernel
theorem dX11_findMatch_30 : decode cX11_findMatch 30 = .ok (.aload_n 0, 1) := by decide +kernel
theorem dX11_findMatch_31 : decode cX11_findMatch 31 = .ok (.getfield 19, 3) := by decide +kernel
theorem dX11_findMatch_34 : decode cX11_findMatch 34 = .ok (.invokevirtual 80, 3) := by decide +kernel
theorem dX11_findMatch_37 : decode cX11_findMatch 37 = .ok (.if_icmp .ge 31, 3) := by decide +kernel
theorem dX11_findMatch_40 : decode cX11_findMatch 40 = .ok (.aload_n 0, 1) := by decide +kernel
theorem dX11_findMatch_41 : decode cX11_findMatch 41 = .ok (.aload_n 0, 1) := by decide +kernel
theorem dX11_findMatch_42 : decode cX11_findMatch 42 = .ok (.getfield 26, 3) := by decide +kernel
theorem dX11_findMatch_45 : decode cX11_findMatch 45 = .ok (.iload_n 1, 1) := by decide +kernel
theorem dX11_findMatch_46 : decode cX11_findMatch 46 = .ok (.iload_n 2, 1) := by decide +kernel
theorem dX11_findMatch_47 : decode cX11_findMatch 47 = .ok (.invokevirtual 144, 3) := by decide +kernel
theorem dX11_findMatch_50 : decode cX11_findMatch 50 = .ok (.ifCond .eq 12, 3) := by decide +kernel
theorem dX11_findMatch_53 : decode cX11_findMatch 53 = .ok (.aload_n 0, 1) := by decide +kernel
theorem dX11_findMatch_54 : decode cX11_findMatch 54 = .ok (.getfield 39, 3) := by decide +kernel
theorem dX11_findMatch_57 : decode cX11_findMatch 57 = .ok (.iload_n 1, 1) := by decide +kernel
theorem dX11_findMatch_58 : decode cX11_findMatch 58 = .ok (.iload_n 2, 1) := by decide +kernel
theorem dX11_findMatch_59 : decode cX11_findMatch 59 = .ok (.invokevirtual 275, 3) := by decide +kernel
theorem dX11_findMatch_62 : decode cX11_findMatch 62 = .ok (.iinc 2 1, 3) := by decide +kernel
theorem dX11_findMatch_65 : decode cX11_findMatch 65 = .ok (.goto (-36), 3) := by decide +kernel
theorem dX11_findMatch_68 : decode cX11_findMatch 68 = .ok (.iinc 1 1, 3) := by decide +kernel
theorem dX11_findMatch_71 : decode cX11_findMatch 71 = .ok (.goto (-55), 3) := by decide +kernel
theorem dX11_findMatch_74 : decode cX11_findMatch 74 = .ok (.iconst 0, 1) := by decide +kernel
theorem dX11_findMatch_75 : decode cX11_findMatch 75 = .ok (.istore_n 1, 1) := by decide +kernel
theorem dX11_findMatch_76 : decode cX11_findMatch 76 = .ok (.iload_n 1, 1) := by decide +kernel
theorem dX11_findMatch_77 : decode cX11_findMatch 77 = .ok (.aload_n 0, 1) := by decide +kernel
theorem dX11_findMatch_78 : decode cX11_findMatch 78 = .ok (.getfield 19, 3) := by decide +kernel
theorem dX11_findMatch_81 : decode cX11_findMatch 81 = .ok (.invokevirtual 80, 3) := by decide +kernel
theorem dX11_findMatch_84 : decode cX11_findMatch 84 = .ok (.if_icmp .ge 34, 3) := by decide +kernel
theorem dX11_findMatch_87 : decode cX11_findMatch 87 = .ok (.aload_n 0, 1) := by decide +kernel
theorem dX11_findMatch_88 : decode cX11_findMatch 88 = .ok (.getfield 19, 3) := by decide +kernel
theorem dX11_findMatch_91 : decode cX11_findMatch 91 = .ok (.iload_n 1, 1) := by decide +kernel
theorem dX11_findMatch_92 : decode cX11_findMatch 92 = .ok (.invokevirtual 122, 3) := by decide +kernel
theorem dX11_findMatch_95 : decode cX11_findMatch 95 = .ok (.astore_n 2, 1) := by decide +kernel
theorem dX11_findMatch_96 : decode cX11_findMatch 96 = .ok (.aload_n 2, 1) := by decide +kernel
theorem dX11_findMatch_97 : decode cX11_findMatch 97 = .ok (.ifnull 15, 3) := by decide +kernel
theorem dX11_findMatch_100 : decode cX11_findMatch 100 = .ok (.aload_n 0, 1) := by decide +kernel
theorem dX11_findMatch_101 : decode cX11_findMatch 101 = .ok (.getfield 39, 3) := by decide +kernel
theorem dX11_findMatch_104 : decode cX11_findMatch 104 = .ok (.iload_n 1, 1) := by decide +kernel
theorem dX11_findMatch_105 : decode cX11_findMatch 105 = .ok (.aload_n 2, 1) := by decide +kernel
theorem dX11_findMatch_106 : decode cX11_findMatch 106 = .ok (.getfield 132, 3) := by decide +kernel
theorem dX11_findMatch_109 : decode cX11_findMatch 109 = .ok (.invokevirtual 278, 3) := by decide +kernel
theorem dX11_findMatch_112 : decode cX11_findMatch 112 = .ok (.iinc 1 1, 3) := by decide +kernel
theorem dX11_findMatch_115 : decode cX11_findMatch 115 = .ok (.goto (-39), 3) := by decide +kernel
theorem dX11_findMatch_118 : decode cX11_findMatch 118 = .ok (.aload_n 0, 1) := by decide +kernel
theorem dX11_findMatch_119 : decode cX11_findMatch 119 = .ok (.getfield 39, 3) := by decide +kernel
theorem dX11_findMatch_122 : decode cX11_findMatch 122 = .ok (.invokevirtual 280, 3) := by decide +kernel
theorem dX11_findMatch_125 : decode cX11_findMatch 125 = .ok (.return_, 1) := by decide +kernel
theorem dX11_toldOfMatch_0 : decode cX11_toldOfMatch 0 = .ok (.iload_n 1, 1) := by decide +kernel
theorem dX11_toldOfMatch_1 : decode cX11_toldOfMatch 1 = .ok (.lookupswitch 43 #[(0, 27), (1, 35)], 27) := by decide +kernel
theorem dX11_toldOfMatch_28 : decode cX11_toldOfMatch 28 = .ok (.aload_n 0, 1) := by decide +kernel
theorem dX11_toldOfMatch_29 : decode cX11_toldOfMatch 29 = .ok (.getfield 39, 3) := by decide +kernel
theorem dX11_toldOfMatch_32 : decode cX11_toldOfMatch 32 = .ok (.getfield 283, 3) := by decide +kernel
theorem dX11_toldOfMatch_35 : decode cX11_toldOfMatch 35 = .ok (.ireturn, 1) := by decide +kernel
theorem dX11_toldOfMatch_36 : decode cX11_toldOfMatch 36 = .ok (.aload_n 0, 1) := by decide +kernel
theorem dX11_toldOfMatch_37 : decode cX11_toldOfMatch 37 = .ok (.getfield 39, 3) := by decide +kernel
theorem dX11_toldOfMatch_40 : decode cX11_toldOfMatch 40 = .ok (.getfield 286, 3) := by decide +kernel
theorem dX11_toldOfMatch_43 : decode cX11_toldOfMatch 43 = .ok (.ireturn, 1) := by decide +kernel
theorem dX11_toldOfMatch_44 : decode cX11_toldOfMatch 44 = .ok (.aload_n 0, 1) := by decide +kernel
theorem dX11_toldOfMatch_45 : decode cX11_toldOfMatch 45 = .ok (.getfield 39, 3) := by decide +kernel
theorem dX11_toldOfMatch_48 : decode cX11_toldOfMatch 48 = .ok (.iload_n 1, 1) := by decide +kernel
theorem dX11_toldOfMatch_49 : decode cX11_toldOfMatch 49 = .ok (.bipush 10, 2) := by decide +kernel
theorem dX11_toldOfMatch_51 : decode cX11_toldOfMatch 51 = .ok (.isub, 1) := by decide +kernel
theorem dX11_toldOfMatch_52 : decode cX11_toldOfMatch 52 = .ok (.invokevirtual 289, 3) := by decide +kernel
theorem dX11_toldOfMatch_55 : decode cX11_toldOfMatch 55 = .ok (.ireturn, 1) := by decide +kernel
theorem dX11_withMatch_0 : decode cX11_withMatch 0 = .ok (.aload_n 0, 1) := by decide +kernel
theorem dX11_withMatch_1 : decode cX11_withMatch 1 = .ok (.invokevirtual 171, 3) := by decide +kernel
theorem dX11_withMatch_4 : decode cX11_withMatch 4 = .ok (.ldc2_w 224, 3) := by decide +kernel
theorem dX11_withMatch_7 : decode cX11_withMatch 7 = .ok (.lload_n 1, 1) := by decide +kernel
theorem dX11_withMatch_8 : decode cX11_withMatch 8 = .ok (.lmul, 1) := by decide +kernel
theorem dX11_withMatch_9 : decode cX11_withMatch 9 = .ok (.aload_n 0, 1) := by decide +kernel
theorem dX11_withMatch_10 : decode cX11_withMatch 10 = .ok (.iconst 0, 1) := by decide +kernel
theorem dX11_withMatch_11 : decode cX11_withMatch 11 = .ok (.invokevirtual 174, 3) := by decide +kernel
theorem dX11_withMatch_14 : decode cX11_withMatch 14 = .ok (.i2l, 1) := by decide +kernel
theorem dX11_withMatch_15 : decode cX11_withMatch 15 = .ok (.ladd, 1) := by decide +kernel
theorem dX11_withMatch_16 : decode cX11_withMatch 16 = .ok (.lstore_n 3, 1) := by decide +kernel
theorem dX11_withMatch_17 : decode cX11_withMatch 17 = .ok (.ldc2_w 224, 3) := by decide +kernel
theorem dX11_withMatch_20 : decode cX11_withMatch 20 = .ok (.lload_n 3, 1) := by decide +kernel
theorem dX11_withMatch_21 : decode cX11_withMatch 21 = .ok (.lmul, 1) := by decide +kernel
theorem dX11_withMatch_22 : decode cX11_withMatch 22 = .ok (.aload_n 0, 1) := by decide +kernel
theorem dX11_withMatch_23 : decode cX11_withMatch 23 = .ok (.iconst 1, 1) := by decide +kernel
theorem dX11_withMatch_24 : decode cX11_withMatch 24 = .ok (.invokevirtual 174, 3) := by decide +kernel
theorem dX11_withMatch_27 : decode cX11_withMatch 27 = .ok (.i2l, 1) := by decide +kernel
theorem dX11_withMatch_28 : decode cX11_withMatch 28 = .ok (.ladd, 1) := by decide +kernel
theorem dX11_withMatch_29 : decode cX11_withMatch 29 = .ok (.lstore_n 3, 1) := by decide +kernel
theorem dX11_withMatch_30 : decode cX11_withMatch 30 = .ok (.bipush 10, 2) := by decide +kernel
theorem dX11_withMatch_32 : decode cX11_withMatch 32 = .ok (.istore 5, 2) := by decide +kernel
theorem dX11_withMatch_34 : decode cX11_withMatch 34 = .ok (.iload 5, 2) := by decide +kernel
theorem dX11_withMatch_36 : decode cX11_withMatch 36 = .ok (.bipush 13, 2) := by decide +kernel
theorem dX11_withMatch_38 : decode cX11_withMatch 38 = .ok (.if_icmp .gt 23, 3) := by decide +kernel
theorem dX11_withMatch_41 : decode cX11_withMatch 41 = .ok (.ldc2_w 224, 3) := by decide +kernel
theorem dX11_withMatch_44 : decode cX11_withMatch 44 = .ok (.lload_n 3, 1) := by decide +kernel
theorem dX11_withMatch_45 : decode cX11_withMatch 45 = .ok (.lmul, 1) := by decide +kernel
theorem dX11_withMatch_46 : decode cX11_withMatch 46 = .ok (.aload_n 0, 1) := by decide +kernel
theorem dX11_withMatch_47 : decode cX11_withMatch 47 = .ok (.iload 5, 2) := by decide +kernel
theorem dX11_withMatch_49 : decode cX11_withMatch 49 = .ok (.invokevirtual 174, 3) := by decide +kernel
theorem dX11_withMatch_52 : decode cX11_withMatch 52 = .ok (.i2l, 1) := by decide +kernel
theorem dX11_withMatch_53 : decode cX11_withMatch 53 = .ok (.ladd, 1) := by decide +kernel
theorem dX11_withMatch_54 : decode cX11_withMatch 54 = .ok (.lstore_n 3, 1) := by decide +kernel
theorem dX11_withMatch_55 : decode cX11_withMatch 55 = .ok (.iinc 5 1, 3) := by decide +kernel
theorem dX11_withMatch_58 : decode cX11_withMatch 58 = .ok (.goto (-24), 3) := by decide +kernel
theorem dX11_withMatch_61 : decode cX11_withMatch 61 = .ok (.lload_n 3, 1) := by decide +kernel
theorem dX11_withMatch_62 : decode cX11_withMatch 62 = .ok (.lreturn, 1) := by decide +kernel
theorem dX11_fewestStitches_0 : decode cX11_fewestStitches 0 = .ok (.iload_n 1, 1) := by decide +kernel
theorem dX11_fewestStitches_1 : decode cX11_fewestStitches 1 = .ok (.aload_n 0, 1) := by decide +kernel
theorem dX11_fewestStitches_2 : decode cX11_fewestStitches 2 = .ok (.getfield 19, 3) := by decide +kernel
theorem dX11_fewestStitches_5 : decode cX11_fewestStitches 5 = .ok (.invokevirtual 80, 3) := by decide +kernel
theorem dX11_fewestStitches_8 : decode cX11_fewestStitches 8 = .ok (.if_icmp .lt 5, 3) := by decide +kernel
theorem dX11_fewestStitches_11 : decode cX11_fewestStitches 11 = .ok (.iconst 0, 1) := by decide +kernel
theorem dX11_fewestStitches_12 : decode cX11_fewestStitches 12 = .ok (.ireturn, 1) := by decide +kernel
theorem dX11_fewestStitches_13 : decode cX11_fewestStitches 13 = .ok (.aload_n 0, 1) := by decide +kernel
theorem dX11_fewestStitches_14 : decode cX11_fewestStitches 14 = .ok (.getfield 26, 3) := by decide +kernel
theorem dX11_fewestStitches_17 : decode cX11_fewestStitches 17 = .ok (.iload_n 1, 1) := by decide +kernel
theorem dX11_fewestStitches_18 : decode cX11_fewestStitches 18 = .ok (.invokevirtual 135, 3) := by decide +kernel
theorem dX11_fewestStitches_21 : decode cX11_fewestStitches 21 = .ok (.iconst (-1), 1) := by decide +kernel
theorem dX11_fewestStitches_22 : decode cX11_fewestStitches 22 = .ok (.if_icmp .eq 12, 3) := by decide +kernel
theorem dX11_fewestStitches_25 : decode cX11_fewestStitches 25 = .ok (.aload_n 0, 1) := by decide +kernel
theorem dX11_fewestStitches_26 : decode cX11_fewestStitches 26 = .ok (.iload_n 1, 1) := by decide +kernel
theorem dX11_fewestStitches_27 : decode cX11_fewestStitches 27 = .ok (.iconst 1, 1) := by decide +kernel
theorem dX11_fewestStitches_28 : decode cX11_fewestStitches 28 = .ok (.iadd, 1) := by decide +kernel
theorem dX11_fewestStitches_29 : decode cX11_fewestStitches 29 = .ok (.iload_n 2, 1) := by decide +kernel
theorem dX11_fewestStitches_30 : decode cX11_fewestStitches 30 = .ok (.invokestatic 180, 3) := by decide +kernel
theorem dX11_fewestStitches_33 : decode cX11_fewestStitches 33 = .ok (.ireturn, 1) := by decide +kernel
theorem dX11_fewestStitches_34 : decode cX11_fewestStitches 34 = .ok (.iconst (-1), 1) := by decide +kernel
theorem dX11_fewestStitches_35 : decode cX11_fewestStitches 35 = .ok (.istore_n 3, 1) := by decide +kernel
theorem dX11_fewestStitches_36 : decode cX11_fewestStitches 36 = .ok (.iconst 0, 1) := by decide +kernel
theorem dX11_fewestStitches_37 : decode cX11_fewestStitches 37 = .ok (.istore 4, 2) := by decide +kernel
theorem dX11_fewestStitches_39 : decode cX11_fewestStitches 39 = .ok (.iload 4, 2) := by decide +kernel
theorem dX11_fewestStitches_41 : decode cX11_fewestStitches 41 = .ok (.aload_n 0, 1) := by decide +kernel
theorem dX11_fewestStitches_42 : decode cX11_fewestStitches 42 = .ok (.getfield 19, 3) := by decide +kernel
theorem dX11_fewestStitches_45 : decode cX11_fewestStitches 45 = .ok (.invokevirtual 205, 3) := by decide +kernel
theorem dX11_fewestStitches_48 : decode cX11_fewestStitches 48 = .ok (.if_icmp .ge 81, 3) := by decide +kernel
theorem dX11_fewestStitches_51 : decode cX11_fewestStitches 51 = .ok (.iload_n 2, 1) := by decide +kernel
theorem dX11_fewestStitches_52 : decode cX11_fewestStitches 52 = .ok (.iload 4, 2) := by decide +kernel
theorem dX11_fewestStitches_54 : decode cX11_fewestStitches 54 = .ok (.ishr, 1) := by decide +kernel
theorem dX11_fewestStitches_55 : decode cX11_fewestStitches 55 = .ok (.iconst 1, 1) := by decide +kernel
theorem dX11_fewestStitches_56 : decode cX11_fewestStitches 56 = .ok (.iand, 1) := by decide +kernel
theorem dX11_fewestStitches_57 : decode cX11_fewestStitches 57 = .ok (.iconst 1, 1) := by decide +kernel
theorem dX11_fewestStitches_58 : decode cX11_fewestStitches 58 = .ok (.if_icmp .ne 6, 3) := by decide +kernel
theorem dX11_fewestStitches_61 : decode cX11_fewestStitches 61 = .ok (.goto 62, 3) := by decide +kernel
theorem dX11_fewestStitches_64 : decode cX11_fewestStitches 64 = .ok (.aload_n 0, 1) := by decide +kernel
theorem dX11_fewestStitches_65 : decode cX11_fewestStitches 65 = .ok (.iload 4, 2) := by decide +kernel
theorem dX11_fewestStitches_67 : decode cX11_fewestStitches 67 = .ok (.iload_n 1, 1) := by decide +kernel
theorem dX11_fewestStitches_68 : decode cX11_fewestStitches 68 = .ok (.invokevirtual 292, 3) := by decide +kernel
theorem dX11_fewestStitches_71 : decode cX11_fewestStitches 71 = .ok (.istore 5, 2) := by decide +kernel
theorem dX11_fewestStitches_73 : decode cX11_fewestStitches 73 = .ok (.iload 5, 2) := by decide +kernel
theorem dX11_fewestStitches_75 : decode cX11_fewestStitches 75 = .ok (.iconst (-1), 1) := by decide +kernel
theorem dX11_fewestStitches_76 : decode cX11_fewestStitches 76 = .ok (.if_icmp .ne 6, 3) := by decide +kernel
theorem dX11_fewestStitches_79 : decode cX11_fewestStitches 79 = .ok (.goto 44, 3) := by decide +kernel
theorem dX11_fewestStitches_82 : decode cX11_fewestStitches 82 = .ok (.aload_n 0, 1) := by decide +kernel
theorem dX11_fewestStitches_83 : decode cX11_fewestStitches 83 = .ok (.iload_n 1, 1) := by decide +kernel
theorem dX11_fewestStitches_84 : decode cX11_fewestStitches 84 = .ok (.iconst 1, 1) := by decide +kernel
theorem dX11_fewestStitches_85 : decode cX11_fewestStitches 85 = .ok (.iadd, 1) := by decide +kernel
theorem dX11_fewestStitches_86 : decode cX11_fewestStitches 86 = .ok (.iload_n 2, 1) := by decide +kernel
theorem dX11_fewestStitches_87 : decode cX11_fewestStitches 87 = .ok (.iconst 1, 1) := by decide +kernel
theorem dX11_fewestStitches_88 : decode cX11_fewestStitches 88 = .ok (.iload 4, 2) := by decide +kernel
theorem dX11_fewestStitches_90 : decode cX11_fewestStitches 90 = .ok (.ishl, 1) := by decide +kernel
theorem dX11_fewestStitches_91 : decode cX11_fewestStitches 91 = .ok (.ior, 1) := by decide +kernel
theorem dX11_fewestStitches_92 : decode cX11_fewestStitches 92 = .ok (.invokestatic 180, 3) := by decide +kernel
theorem dX11_fewestStitches_95 : decode cX11_fewestStitches 95 = .ok (.istore 6, 2) := by decide +kernel
theorem dX11_fewestStitches_97 : decode cX11_fewestStitches 97 = .ok (.iload 6, 2) := by decide +kernel
theorem dX11_fewestStitches_99 : decode cX11_fewestStitches 99 = .ok (.iconst (-1), 1) := by decide +kernel
theorem dX11_fewestStitches_100 : decode cX11_fewestStitches 100 = .ok (.if_icmp .eq 23, 3) := by decide +kernel
theorem dX11_fewestStitches_103 : decode cX11_fewestStitches 103 = .ok (.iload_n 3, 1) := by decide +kernel
theorem dX11_fewestStitches_104 : decode cX11_fewestStitches 104 = .ok (.iconst (-1), 1) := by decide +kernel
theorem dX11_fewestStitches_105 : decode cX11_fewestStitches 105 = .ok (.if_icmp .eq 12, 3) := by decide +kernel
theorem dX11_fewestStitches_108 : decode cX11_fewestStitches 108 = .ok (.iload 5, 2) := by decide +kernel
theorem dX11_fewestStitches_110 : decode cX11_fewestStitches 110 = .ok (.iload 6, 2) := by decide +kernel
theorem dX11_fewestStitches_112 : decode cX11_fewestStitches 112 = .ok (.iadd, 1) := by decide +kernel
theorem dX11_fewestStitches_113 : decode cX11_fewestStitches 113 = .ok (.iload_n 3, 1) := by decide +kernel
theorem dX11_fewestStitches_114 : decode cX11_fewestStitches 114 = .ok (.if_icmp .ge 9, 3) := by decide +kernel
theorem dX11_fewestStitches_117 : decode cX11_fewestStitches 117 = .ok (.iload 5, 2) := by decide +kernel
theorem dX11_fewestStitches_119 : decode cX11_fewestStitches 119 = .ok (.iload 6, 2) := by decide +kernel
theorem dX11_fewestStitches_121 : decode cX11_fewestStitches 121 = .ok (.iadd, 1) := by decide +kernel
theorem dX11_fewestStitches_122 : decode cX11_fewestStitches 122 = .ok (.istore_n 3, 1) := by decide +kernel
theorem dX11_fewestStitches_123 : decode cX11_fewestStitches 123 = .ok (.iinc 4 1, 3) := by decide +kernel
theorem dX11_fewestStitches_126 : decode cX11_fewestStitches 126 = .ok (.goto (-87), 3) := by decide +kernel
theorem dX11_fewestStitches_129 : decode cX11_fewestStitches 129 = .ok (.iload_n 3, 1) := by decide +kernel
theorem dX11_fewestStitches_130 : decode cX11_fewestStitches 130 = .ok (.ireturn, 1) := by decide +kernel
theorem dX11_stitchesFor_0 : decode cX11_stitchesFor 0 = .ok (.aload_n 0, 1) := by decide +kernel
theorem dX11_stitchesFor_1 : decode cX11_stitchesFor 1 = .ok (.aload_n 0, 1) := by decide +kernel
theorem dX11_stitchesFor_2 : decode cX11_stitchesFor 2 = .ok (.getfield 26, 3) := by decide +kernel
theorem dX11_stitchesFor_5 : decode cX11_stitchesFor 5 = .ok (.iload_n 1, 1) := by decide +kernel
theorem dX11_stitchesFor_6 : decode cX11_stitchesFor 6 = .ok (.invokevirtual 269, 3) := by decide +kernel
theorem dX11_stitchesFor_9 : decode cX11_stitchesFor 9 = .ok (.ifCond .ne 5, 3) := by decide +kernel
theorem dX11_stitchesFor_12 : decode cX11_stitchesFor 12 = .ok (.iconst (-1), 1) := by decide +kernel
theorem dX11_stitchesFor_13 : decode cX11_stitchesFor 13 = .ok (.ireturn, 1) := by decide +kernel
theorem dX11_stitchesFor_14 : decode cX11_stitchesFor 14 = .ok (.aload_n 0, 1) := by decide +kernel
theorem dX11_stitchesFor_15 : decode cX11_stitchesFor 15 = .ok (.getfield 26, 3) := by decide +kernel
theorem dX11_stitchesFor_18 : decode cX11_stitchesFor 18 = .ok (.iload_n 2, 1) := by decide +kernel
theorem dX11_stitchesFor_19 : decode cX11_stitchesFor 19 = .ok (.invokevirtual 126, 3) := by decide +kernel
theorem dX11_stitchesFor_22 : decode cX11_stitchesFor 22 = .ok (.istore_n 3, 1) := by decide +kernel
theorem dX11_stitchesFor_23 : decode cX11_stitchesFor 23 = .ok (.iconst 0, 1) := by decide +kernel
theorem dX11_stitchesFor_24 : decode cX11_stitchesFor 24 = .ok (.istore 4, 2) := by decide +kernel
theorem dX11_stitchesFor_26 : decode cX11_stitchesFor 26 = .ok (.iload 4, 2) := by decide +kernel
theorem dX11_stitchesFor_28 : decode cX11_stitchesFor 28 = .ok (.iconst 2, 1) := by decide +kernel
theorem dX11_stitchesFor_29 : decode cX11_stitchesFor 29 = .ok (.if_icmp .gt 61, 3) := by decide +kernel
theorem dX11_stitchesFor_32 : decode cX11_stitchesFor 32 = .ok (.iload_n 3, 1) := by decide +kernel
theorem dX11_stitchesFor_33 : decode cX11_stitchesFor 33 = .ok (.iload 4, 2) := by decide +kernel
theorem dX11_stitchesFor_35 : decode cX11_stitchesFor 35 = .ok (.isub, 1) := by decide +kernel
theorem dX11_stitchesFor_36 : decode cX11_stitchesFor 36 = .ok (.invokestatic 155, 3) := by decide +kernel
theorem dX11_stitchesFor_39 : decode cX11_stitchesFor 39 = .ok (.ifCond .eq 19, 3) := by decide +kernel
theorem dX11_stitchesFor_42 : decode cX11_stitchesFor 42 = .ok (.aload_n 0, 1) := by decide +kernel
theorem dX11_stitchesFor_43 : decode cX11_stitchesFor 43 = .ok (.iload_n 1, 1) := by decide +kernel
theorem dX11_stitchesFor_44 : decode cX11_stitchesFor 44 = .ok (.iload_n 2, 1) := by decide +kernel
theorem dX11_stitchesFor_45 : decode cX11_stitchesFor 45 = .ok (.iload_n 3, 1) := by decide +kernel
theorem dX11_stitchesFor_46 : decode cX11_stitchesFor 46 = .ok (.iload 4, 2) := by decide +kernel
theorem dX11_stitchesFor_48 : decode cX11_stitchesFor 48 = .ok (.isub, 1) := by decide +kernel
theorem dX11_stitchesFor_49 : decode cX11_stitchesFor 49 = .ok (.invokevirtual 254, 3) := by decide +kernel
theorem dX11_stitchesFor_52 : decode cX11_stitchesFor 52 = .ok (.ifCond .eq 6, 3) := by decide +kernel
theorem dX11_stitchesFor_55 : decode cX11_stitchesFor 55 = .ok (.iload 4, 2) := by decide +kernel
theorem dX11_stitchesFor_57 : decode cX11_stitchesFor 57 = .ok (.ireturn, 1) := by decide +kernel
theorem dX11_stitchesFor_58 : decode cX11_stitchesFor 58 = .ok (.iload_n 3, 1) := by decide +kernel
theorem dX11_stitchesFor_59 : decode cX11_stitchesFor 59 = .ok (.iload 4, 2) := by decide +kernel
theorem dX11_stitchesFor_61 : decode cX11_stitchesFor 61 = .ok (.iadd, 1) := by decide +kernel
theorem dX11_stitchesFor_62 : decode cX11_stitchesFor 62 = .ok (.invokestatic 155, 3) := by decide +kernel
theorem dX11_stitchesFor_65 : decode cX11_stitchesFor 65 = .ok (.ifCond .eq 19, 3) := by decide +kernel
theorem dX11_stitchesFor_68 : decode cX11_stitchesFor 68 = .ok (.aload_n 0, 1) := by decide +kernel
theorem dX11_stitchesFor_69 : decode cX11_stitchesFor 69 = .ok (.iload_n 1, 1) := by decide +kernel
theorem dX11_stitchesFor_70 : decode cX11_stitchesFor 70 = .ok (.iload_n 2, 1) := by decide +kernel
theorem dX11_stitchesFor_71 : decode cX11_stitchesFor 71 = .ok (.iload_n 3, 1) := by decide +kernel
theorem dX11_stitchesFor_72 : decode cX11_stitchesFor 72 = .ok (.iload 4, 2) := by decide +kernel
theorem dX11_stitchesFor_74 : decode cX11_stitchesFor 74 = .ok (.iadd, 1) := by decide +kernel
theorem dX11_stitchesFor_75 : decode cX11_stitchesFor 75 = .ok (.invokevirtual 254, 3) := by decide +kernel
theorem dX11_stitchesFor_78 : decode cX11_stitchesFor 78 = .ok (.ifCond .eq 6, 3) := by decide +kernel
theorem dX11_stitchesFor_81 : decode cX11_stitchesFor 81 = .ok (.iload 4, 2) := by decide +kernel
theorem dX11_stitchesFor_83 : decode cX11_stitchesFor 83 = .ok (.ireturn, 1) := by decide +kernel
theorem dX11_stitchesFor_84 : decode cX11_stitchesFor 84 = .ok (.iinc 4 1, 3) := by decide +kernel
theorem dX11_stitchesFor_87 : decode cX11_stitchesFor 87 = .ok (.goto (-61), 3) := by decide +kernel
theorem dX11_stitchesFor_90 : decode cX11_stitchesFor 90 = .ok (.iconst (-1), 1) := by decide +kernel
theorem dX11_stitchesFor_91 : decode cX11_stitchesFor 91 = .ok (.ireturn, 1) := by decide +kernel
theorem dX11_sizesLeft_0 : decode cX11_sizesLeft 0 = .ok (.aload_n 0, 1) := by decide +kernel
theorem dX11_sizesLeft_1 : decode cX11_sizesLeft 1 = .ok (.getfield 19, 3) := by decide +kernel
theorem dX11_sizesLeft_4 : decode cX11_sizesLeft 4 = .ok (.iload_n 1, 1) := by decide +kernel
theorem dX11_sizesLeft_5 : decode cX11_sizesLeft 5 = .ok (.invokevirtual 83, 3) := by decide +kernel
theorem dX11_sizesLeft_8 : decode cX11_sizesLeft 8 = .ok (.astore_n 2, 1) := by decide +kernel
theorem dX11_sizesLeft_9 : decode cX11_sizesLeft 9 = .ok (.iconst 0, 1) := by decide +kernel
theorem dX11_sizesLeft_10 : decode cX11_sizesLeft 10 = .ok (.istore_n 3, 1) := by decide +kernel
theorem dX11_sizesLeft_11 : decode cX11_sizesLeft 11 = .ok (.iconst 1, 1) := by decide +kernel
theorem dX11_sizesLeft_12 : decode cX11_sizesLeft 12 = .ok (.istore 4, 2) := by decide +kernel
theorem dX11_sizesLeft_14 : decode cX11_sizesLeft 14 = .ok (.iload 4, 2) := by decide +kernel
theorem dX11_sizesLeft_16 : decode cX11_sizesLeft 16 = .ok (.bipush 9, 2) := by decide +kernel
theorem dX11_sizesLeft_18 : decode cX11_sizesLeft 18 = .ok (.if_icmp .gt 34, 3) := by decide +kernel
theorem dX11_sizesLeft_21 : decode cX11_sizesLeft 21 = .ok (.aload_n 0, 1) := by decide +kernel
theorem dX11_sizesLeft_22 : decode cX11_sizesLeft 22 = .ok (.getfield 26, 3) := by decide +kernel
theorem dX11_sizesLeft_25 : decode cX11_sizesLeft 25 = .ok (.getfield 184, 3) := by decide +kernel
theorem dX11_sizesLeft_28 : decode cX11_sizesLeft 28 = .ok (.iload_n 1, 1) := by decide +kernel
theorem dX11_sizesLeft_29 : decode cX11_sizesLeft 29 = .ok (.aload_n 2, 1) := by decide +kernel
theorem dX11_sizesLeft_30 : decode cX11_sizesLeft 30 = .ok (.iload 4, 2) := by decide +kernel
theorem dX11_sizesLeft_32 : decode cX11_sizesLeft 32 = .ok (.invokevirtual 295, 3) := by decide +kernel
theorem dX11_sizesLeft_35 : decode cX11_sizesLeft 35 = .ok (.ifCond .eq 11, 3) := by decide +kernel
theorem dX11_sizesLeft_38 : decode cX11_sizesLeft 38 = .ok (.iload_n 3, 1) := by decide +kernel
theorem dX11_sizesLeft_39 : decode cX11_sizesLeft 39 = .ok (.iload 4, 2) := by decide +kernel
theorem dX11_sizesLeft_41 : decode cX11_sizesLeft 41 = .ok (.invokestatic 298, 3) := by decide +kernel
theorem dX11_sizesLeft_44 : decode cX11_sizesLeft 44 = .ok (.ior, 1) := by decide +kernel
theorem dX11_sizesLeft_45 : decode cX11_sizesLeft 45 = .ok (.istore_n 3, 1) := by decide +kernel
theorem dX11_sizesLeft_46 : decode cX11_sizesLeft 46 = .ok (.iinc 4 1, 3) := by decide +kernel
theorem dX11_sizesLeft_49 : decode cX11_sizesLeft 49 = .ok (.goto (-35), 3) := by decide +kernel
theorem dX11_sizesLeft_52 : decode cX11_sizesLeft 52 = .ok (.iload_n 3, 1) := by decide +kernel
theorem dX11_sizesLeft_53 : decode cX11_sizesLeft 53 = .ok (.ireturn, 1) := by decide +kernel
theorem dX11_bitOfSize_0 : decode cX11_bitOfSize 0 = .ok (.iconst 1, 1) := by decide +kernel
theorem dX11_bitOfSize_1 : decode cX11_bitOfSize 1 = .ok (.iload_n 0, 1) := by decide +kernel
theorem dX11_bitOfSize_2 : decode cX11_bitOfSize 2 = .ok (.iconst 1, 1) := by decide +kernel
theorem dX11_bitOfSize_3 : decode cX11_bitOfSize 3 = .ok (.isub, 1) := by decide +kernel
theorem dX11_bitOfSize_4 : decode cX11_bitOfSize 4 = .ok (.ishl, 1) := by decide +kernel
theorem dX11_bitOfSize_5 : decode cX11_bitOfSize 5 = .ok (.ireturn, 1) := by decide +kernel
theorem dX11_nextToTry_0 : decode cX11_nextToTry 0 = .ok (.aload_n 0, 1) := by decide +kernel
theorem dX11_nextToTry_1 : decode cX11_nextToTry 1 = .ok (.iload_n 1, 1) := by decide +kernel
theorem dX11_nextToTry_2 : decode cX11_nextToTry 2 = .ok (.invokevirtual 112, 3) := by decide +kernel
theorem dX11_nextToTry_5 : decode cX11_nextToTry 5 = .ok (.istore_n 2, 1) := by decide +kernel
theorem dX11_nextToTry_6 : decode cX11_nextToTry 6 = .ok (.iload_n 2, 1) := by decide +kernel
theorem dX11_nextToTry_7 : decode cX11_nextToTry 7 = .ok (.ifCond .ne 5, 3) := by decide +kernel
theorem dX11_nextToTry_10 : decode cX11_nextToTry 10 = .ok (.iconst (-1), 1) := by decide +kernel
theorem dX11_nextToTry_11 : decode cX11_nextToTry 11 = .ok (.ireturn, 1) := by decide +kernel
theorem dX11_nextToTry_12 : decode cX11_nextToTry 12 = .ok (.iconst (-1), 1) := by decide +kernel
theorem dX11_nextToTry_13 : decode cX11_nextToTry 13 = .ok (.istore_n 3, 1) := by decide +kernel
theorem dX11_nextToTry_14 : decode cX11_nextToTry 14 = .ok (.bipush 10, 2) := by decide +kernel
theorem dX11_nextToTry_16 : decode cX11_nextToTry 16 = .ok (.istore 4, 2) := by decide +kernel
theorem dX11_nextToTry_18 : decode cX11_nextToTry 18 = .ok (.iconst 0, 1) := by decide +kernel
theorem dX11_nextToTry_19 : decode cX11_nextToTry 19 = .ok (.istore 5, 2) := by decide +kernel
theorem dX11_nextToTry_21 : decode cX11_nextToTry 21 = .ok (.iload 5, 2) := by decide +kernel
theorem dX11_nextToTry_23 : decode cX11_nextToTry 23 = .ok (.aload_n 0, 1) := by decide +kernel
theorem dX11_nextToTry_24 : decode cX11_nextToTry 24 = .ok (.getfield 19, 3) := by decide +kernel
theorem dX11_nextToTry_27 : decode cX11_nextToTry 27 = .ok (.invokevirtual 80, 3) := by decide +kernel
theorem dX11_nextToTry_30 : decode cX11_nextToTry 30 = .ok (.if_icmp .ge 33, 3) := by decide +kernel
theorem dX11_nextToTry_33 : decode cX11_nextToTry 33 = .ok (.aload_n 0, 1) := by decide +kernel
theorem dX11_nextToTry_34 : decode cX11_nextToTry 34 = .ok (.iload_n 1, 1) := by decide +kernel
theorem dX11_nextToTry_35 : decode cX11_nextToTry 35 = .ok (.iload 5, 2) := by decide +kernel
theorem dX11_nextToTry_37 : decode cX11_nextToTry 37 = .ok (.iload_n 2, 1) := by decide +kernel
theorem dX11_nextToTry_38 : decode cX11_nextToTry 38 = .ok (.invokevirtual 301, 3) := by decide +kernel
theorem dX11_nextToTry_41 : decode cX11_nextToTry 41 = .ok (.istore 6, 2) := by decide +kernel
theorem dX11_nextToTry_43 : decode cX11_nextToTry 43 = .ok (.iload 6, 2) := by decide +kernel
theorem dX11_nextToTry_45 : decode cX11_nextToTry 45 = .ok (.iload 4, 2) := by decide +kernel
theorem dX11_nextToTry_47 : decode cX11_nextToTry 47 = .ok (.if_icmp .ge 10, 3) := by decide +kernel
theorem dX11_nextToTry_50 : decode cX11_nextToTry 50 = .ok (.iload 6, 2) := by decide +kernel
theorem dX11_nextToTry_52 : decode cX11_nextToTry 52 = .ok (.istore 4, 2) := by decide +kernel
theorem dX11_nextToTry_54 : decode cX11_nextToTry 54 = .ok (.iload 5, 2) := by decide +kernel
theorem dX11_nextToTry_56 : decode cX11_nextToTry 56 = .ok (.istore_n 3, 1) := by decide +kernel
theorem dX11_nextToTry_57 : decode cX11_nextToTry 57 = .ok (.iinc 5 1, 3) := by decide +kernel
theorem dX11_nextToTry_60 : decode cX11_nextToTry 60 = .ok (.goto (-39), 3) := by decide +kernel
theorem dX11_nextToTry_63 : decode cX11_nextToTry 63 = .ok (.iload_n 3, 1) := by decide +kernel
theorem dX11_nextToTry_64 : decode cX11_nextToTry 64 = .ok (.ireturn, 1) := by decide +kernel
theorem dX11_leftAtWorst_0 : decode cX11_leftAtWorst 0 = .ok (.aload_n 0, 1) := by decide +kernel
theorem dX11_leftAtWorst_1 : decode cX11_leftAtWorst 1 = .ok (.getfield 19, 3) := by decide +kernel
theorem dX11_leftAtWorst_4 : decode cX11_leftAtWorst 4 = .ok (.iload_n 1, 1) := by decide +kernel
theorem dX11_leftAtWorst_5 : decode cX11_leftAtWorst 5 = .ok (.invokevirtual 83, 3) := by decide +kernel
theorem dX11_leftAtWorst_8 : decode cX11_leftAtWorst 8 = .ok (.astore 4, 2) := by decide +kernel
theorem dX11_leftAtWorst_10 : decode cX11_leftAtWorst 10 = .ok (.aload_n 0, 1) := by decide +kernel
theorem dX11_leftAtWorst_11 : decode cX11_leftAtWorst 11 = .ok (.getfield 19, 3) := by decide +kernel
theorem dX11_leftAtWorst_14 : decode cX11_leftAtWorst 14 = .ok (.iload_n 2, 1) := by decide +kernel
theorem dX11_leftAtWorst_15 : decode cX11_leftAtWorst 15 = .ok (.invokevirtual 122, 3) := by decide +kernel
theorem dX11_leftAtWorst_18 : decode cX11_leftAtWorst 18 = .ok (.astore 5, 2) := by decide +kernel
theorem dX11_leftAtWorst_20 : decode cX11_leftAtWorst 20 = .ok (.aload 4, 2) := by decide +kernel
theorem dX11_leftAtWorst_22 : decode cX11_leftAtWorst 22 = .ok (.ifnull 8, 3) := by decide +kernel
theorem dX11_leftAtWorst_25 : decode cX11_leftAtWorst 25 = .ok (.aload 5, 2) := by decide +kernel
theorem dX11_leftAtWorst_27 : decode cX11_leftAtWorst 27 = .ok (.ifnonnull 6, 3) := by decide +kernel
theorem dX11_leftAtWorst_30 : decode cX11_leftAtWorst 30 = .ok (.bipush 9, 2) := by decide +kernel
theorem dX11_leftAtWorst_32 : decode cX11_leftAtWorst 32 = .ok (.ireturn, 1) := by decide +kernel
theorem dX11_leftAtWorst_33 : decode cX11_leftAtWorst 33 = .ok (.iconst 0, 1) := by decide +kernel
theorem dX11_leftAtWorst_34 : decode cX11_leftAtWorst 34 = .ok (.istore 6, 2) := by decide +kernel
theorem dX11_leftAtWorst_36 : decode cX11_leftAtWorst 36 = .ok (.iconst 1, 1) := by decide +kernel
theorem dX11_leftAtWorst_37 : decode cX11_leftAtWorst 37 = .ok (.istore 7, 2) := by decide +kernel
theorem dX11_leftAtWorst_39 : decode cX11_leftAtWorst 39 = .ok (.iload 7, 2) := by decide +kernel
theorem dX11_leftAtWorst_41 : decode cX11_leftAtWorst 41 = .ok (.bipush 9, 2) := by decide +kernel
theorem dX11_leftAtWorst_43 : decode cX11_leftAtWorst 43 = .ok (.if_icmp .gt 57, 3) := by decide +kernel
theorem dX11_leftAtWorst_46 : decode cX11_leftAtWorst 46 = .ok (.iload_n 3, 1) := by decide +kernel
theorem dX11_leftAtWorst_47 : decode cX11_leftAtWorst 47 = .ok (.iload 7, 2) := by decide +kernel
theorem dX11_leftAtWorst_49 : decode cX11_leftAtWorst 49 = .ok (.invokestatic 298, 3) := by decide +kernel
theorem dX11_leftAtWorst_52 : decode cX11_leftAtWorst 52 = .ok (.iand, 1) := by decide +kernel
theorem dX11_leftAtWorst_53 : decode cX11_leftAtWorst 53 = .ok (.ifCond .eq 7, 3) := by decide +kernel
theorem dX11_leftAtWorst_56 : decode cX11_leftAtWorst 56 = .ok (.iconst 1, 1) := by decide +kernel
theorem dX11_leftAtWorst_57 : decode cX11_leftAtWorst 57 = .ok (.goto 4, 3) := by decide +kernel
theorem dX11_leftAtWorst_60 : decode cX11_leftAtWorst 60 = .ok (.iconst 0, 1) := by decide +kernel
theorem dX11_leftAtWorst_61 : decode cX11_leftAtWorst 61 = .ok (.istore 8, 2) := by decide +kernel
theorem dX11_leftAtWorst_63 : decode cX11_leftAtWorst 63 = .ok (.iload 8, 2) := by decide +kernel
theorem dX11_leftAtWorst_65 : decode cX11_leftAtWorst 65 = .ok (.ifCond .eq 29, 3) := by decide +kernel
theorem dX11_leftAtWorst_68 : decode cX11_leftAtWorst 68 = .ok (.aload 4, 2) := by decide +kernel
theorem dX11_leftAtWorst_70 : decode cX11_leftAtWorst 70 = .ok (.iload 7, 2) := by decide +kernel
theorem dX11_leftAtWorst_72 : decode cX11_leftAtWorst 72 = .ok (.aload_n 0, 1) := by decide +kernel
theorem dX11_leftAtWorst_73 : decode cX11_leftAtWorst 73 = .ok (.getfield 26, 3) := by decide +kernel
theorem dX11_leftAtWorst_76 : decode cX11_leftAtWorst 76 = .ok (.iload_n 2, 1) := by decide +kernel
theorem dX11_leftAtWorst_77 : decode cX11_leftAtWorst 77 = .ok (.invokevirtual 126, 3) := by decide +kernel
theorem dX11_leftAtWorst_80 : decode cX11_leftAtWorst 80 = .ok (.aload 5, 2) := by decide +kernel
theorem dX11_leftAtWorst_82 : decode cX11_leftAtWorst 82 = .ok (.getfield 129, 3) := by decide +kernel
theorem dX11_leftAtWorst_85 : decode cX11_leftAtWorst 85 = .ok (.invokevirtual 250, 3) := by decide +kernel
theorem dX11_leftAtWorst_88 : decode cX11_leftAtWorst 88 = .ok (.ifCond .eq 6, 3) := by decide +kernel
theorem dX11_leftAtWorst_91 : decode cX11_leftAtWorst 91 = .ok (.iinc 6 1, 3) := by decide +kernel
theorem dX11_leftAtWorst_94 : decode cX11_leftAtWorst 94 = .ok (.iinc 7 1, 3) := by decide +kernel
theorem dX11_leftAtWorst_97 : decode cX11_leftAtWorst 97 = .ok (.goto (-58), 3) := by decide +kernel
theorem dX11_leftAtWorst_100 : decode cX11_leftAtWorst 100 = .ok (.iload 6, 2) := by decide +kernel
theorem dX11_leftAtWorst_102 : decode cX11_leftAtWorst 102 = .ok (.iload_n 3, 1) := by decide +kernel
theorem dX11_leftAtWorst_103 : decode cX11_leftAtWorst 103 = .ok (.invokestatic 305, 3) := by decide +kernel
theorem dX11_leftAtWorst_106 : decode cX11_leftAtWorst 106 = .ok (.iload 6, 2) := by decide +kernel
theorem dX11_leftAtWorst_108 : decode cX11_leftAtWorst 108 = .ok (.isub, 1) := by decide +kernel
theorem dX11_leftAtWorst_109 : decode cX11_leftAtWorst 109 = .ok (.invokestatic 310, 3) := by decide +kernel
theorem dX11_leftAtWorst_112 : decode cX11_leftAtWorst 112 = .ok (.ireturn, 1) := by decide +kernel
theorem dX11_seedAfter_0 : decode cX11_seedAfter 0 = .ok (.ldc2_w 315, 3) := by decide +kernel
theorem dX11_seedAfter_3 : decode cX11_seedAfter 3 = .ok (.iload_n 0, 1) := by decide +kernel
theorem dX11_seedAfter_4 : decode cX11_seedAfter 4 = .ok (.i2l, 1) := by decide +kernel
theorem dX11_seedAfter_5 : decode cX11_seedAfter 5 = .ok (.lmul, 1) := by decide +kernel
theorem dX11_seedAfter_6 : decode cX11_seedAfter 6 = .ok (.ldc2_w 317, 3) := by decide +kernel
theorem dX11_seedAfter_9 : decode cX11_seedAfter 9 = .ok (.ladd, 1) := by decide +kernel
theorem dX11_seedAfter_10 : decode cX11_seedAfter 10 = .ok (.ldc2_w 319, 3) := by decide +kernel
theorem dX11_seedAfter_13 : decode cX11_seedAfter 13 = .ok (.land, 1) := by decide +kernel
theorem dX11_seedAfter_14 : decode cX11_seedAfter 14 = .ok (.l2i, 1) := by decide +kernel
theorem dX11_seedAfter_15 : decode cX11_seedAfter 15 = .ok (.ireturn, 1) := by decide +kernel
theorem dX11_drawn_0 : decode cX11_drawn 0 = .ok (.iload_n 1, 1) := by decide +kernel
theorem dX11_drawn_1 : decode cX11_drawn 1 = .ok (.iconst 1, 1) := by decide +kernel
theorem dX11_drawn_2 : decode cX11_drawn 2 = .ok (.if_icmp .ge 7, 3) := by decide +kernel
theorem dX11_drawn_5 : decode cX11_drawn 5 = .ok (.iconst 0, 1) := by decide +kernel
theorem dX11_drawn_6 : decode cX11_drawn 6 = .ok (.goto 10, 3) := by decide +kernel
theorem dX11_drawn_9 : decode cX11_drawn 9 = .ok (.iload_n 0, 1) := by decide +kernel
theorem dX11_drawn_10 : decode cX11_drawn 10 = .ok (.ldc_w 321, 3) := by decide +kernel
theorem dX11_drawn_13 : decode cX11_drawn 13 = .ok (.idiv, 1) := by decide +kernel
theorem dX11_drawn_14 : decode cX11_drawn 14 = .ok (.iload_n 1, 1) := by decide +kernel
theorem dX11_drawn_15 : decode cX11_drawn 15 = .ok (.irem, 1) := by decide +kernel
theorem dX11_drawn_16 : decode cX11_drawn 16 = .ok (.ireturn, 1) := by decide +kernel
theorem dX11_comesFor_0 : decode cX11_comesFor 0 = .ok (.aload_n 0, 1) := by decide +kernel
theorem dX11_comesFor_1 : decode cX11_comesFor 1 = .ok (.getfield 33, 3) := by decide +kernel
theorem dX11_comesFor_4 : decode cX11_comesFor 4 = .ok (.iload_n 1, 1) := by decide +kernel
theorem dX11_comesFor_5 : decode cX11_comesFor 5 = .ok (.invokevirtual 101, 3) := by decide +kernel
theorem dX11_comesFor_8 : decode cX11_comesFor 8 = .ok (.iconst (-1), 1) := by decide +kernel
theorem dX11_comesFor_9 : decode cX11_comesFor 9 = .ok (.if_icmp .eq 15, 3) := by decide +kernel
theorem dX11_comesFor_12 : decode cX11_comesFor 12 = .ok (.aload_n 0, 1) := by decide +kernel
theorem dX11_comesFor_13 : decode cX11_comesFor 13 = .ok (.getfield 33, 3) := by decide +kernel
theorem dX11_comesFor_16 : decode cX11_comesFor 16 = .ok (.iload_n 1, 1) := by decide +kernel
theorem dX11_comesFor_17 : decode cX11_comesFor 17 = .ok (.iconst (-1), 1) := by decide +kernel
theorem dX11_comesFor_18 : decode cX11_comesFor 18 = .ok (.invokevirtual 148, 3) := by decide +kernel
theorem dX11_comesFor_21 : decode cX11_comesFor 21 = .ok (.goto 25, 3) := by decide +kernel
theorem dX11_comesFor_24 : decode cX11_comesFor 24 = .ok (.aload_n 0, 1) := by decide +kernel
theorem dX11_comesFor_25 : decode cX11_comesFor 25 = .ok (.aload_n 0, 1) := by decide +kernel
theorem dX11_comesFor_26 : decode cX11_comesFor 26 = .ok (.getfield 33, 3) := by decide +kernel
theorem dX11_comesFor_29 : decode cX11_comesFor 29 = .ok (.iload_n 1, 1) := by decide +kernel
theorem dX11_comesFor_30 : decode cX11_comesFor 30 = .ok (.iload_n 2, 1) := by decide +kernel
theorem dX11_comesFor_31 : decode cX11_comesFor 31 = .ok (.invokevirtual 144, 3) := by decide +kernel
theorem dX11_comesFor_34 : decode cX11_comesFor 34 = .ok (.ifCond .eq 12, 3) := by decide +kernel
theorem dX11_comesFor_37 : decode cX11_comesFor 37 = .ok (.aload_n 0, 1) := by decide +kernel
theorem dX11_comesFor_38 : decode cX11_comesFor 38 = .ok (.getfield 33, 3) := by decide +kernel
theorem dX11_comesFor_41 : decode cX11_comesFor 41 = .ok (.iload_n 1, 1) := by decide +kernel
theorem dX11_comesFor_42 : decode cX11_comesFor 42 = .ok (.iload_n 2, 1) := by decide +kernel
theorem dX11_comesFor_43 : decode cX11_comesFor 43 = .ok (.invokevirtual 148, 3) := by decide +kernel
theorem dX11_comesFor_46 : decode cX11_comesFor 46 = .ok (.return_, 1) := by decide +kernel
theorem dX12_init_0 : decode cX12_init 0 = .ok (.aload_n 0, 1) := by decide +kernel
theorem dX12_init_1 : decode cX12_init 1 = .ok (.invokespecial 1, 3) := by decide +kernel
theorem dX12_init_4 : decode cX12_init 4 = .ok (.aload_n 0, 1) := by decide +kernel
theorem dX12_init_5 : decode cX12_init 5 = .ok (.iconst 4, 1) := by decide +kernel
theorem dX12_init_6 : decode cX12_init 6 = .ok (.newarray .int, 2) := by decide +kernel
theorem dX12_init_8 : decode cX12_init 8 = .ok (.putfield 7, 3) := by decide +kernel
theorem dX12_init_11 : decode cX12_init 11 = .ok (.aload_n 0, 1) := by decide +kernel
theorem dX12_init_12 : decode cX12_init 12 = .ok (.iconst 4, 1) := by decide +kernel
theorem dX12_init_13 : decode cX12_init 13 = .ok (.newarray .int, 2) := by decide +kernel
theorem dX12_init_15 : decode cX12_init 15 = .ok (.putfield 13, 3) := by decide +kernel
theorem dX12_init_18 : decode cX12_init 18 = .ok (.aload_n 0, 1) := by decide +kernel
theorem dX12_init_19 : decode cX12_init 19 = .ok (.iconst 4, 1) := by decide +kernel
theorem dX12_init_20 : decode cX12_init 20 = .ok (.newarray .int, 2) := by decide +kernel
theorem dX12_init_22 : decode cX12_init 22 = .ok (.putfield 16, 3) := by decide +kernel
theorem dX12_init_25 : decode cX12_init 25 = .ok (.aload_n 0, 1) := by decide +kernel
theorem dX12_init_26 : decode cX12_init 26 = .ok (.iconst 4, 1) := by decide +kernel
theorem dX12_init_27 : decode cX12_init 27 = .ok (.newarray .int, 2) := by decide +kernel
theorem dX12_init_29 : decode cX12_init 29 = .ok (.putfield 19, 3) := by decide +kernel
theorem dX12_init_32 : decode cX12_init 32 = .ok (.aload_n 0, 1) := by decide +kernel
theorem dX12_init_33 : decode cX12_init 33 = .ok (.iconst 4, 1) := by decide +kernel
theorem dX12_init_34 : decode cX12_init 34 = .ok (.newarray .int, 2) := by decide +kernel
theorem dX12_init_36 : decode cX12_init 36 = .ok (.putfield 22, 3) := by decide +kernel
theorem dX12_init_39 : decode cX12_init 39 = .ok (.aload_n 0, 1) := by decide +kernel
theorem dX12_init_40 : decode cX12_init 40 = .ok (.iconst 4, 1) := by decide +kernel
theorem dX12_init_41 : decode cX12_init 41 = .ok (.newarray .int, 2) := by decide +kernel
theorem dX12_init_43 : decode cX12_init 43 = .ok (.putfield 25, 3) := by decide +kernel
theorem dX12_init_46 : decode cX12_init 46 = .ok (.aload_n 0, 1) := by decide +kernel
theorem dX12_init_47 : decode cX12_init 47 = .ok (.iconst 4, 1) := by decide +kernel
theorem dX12_init_48 : decode cX12_init 48 = .ok (.newarray .int, 2) := by decide +kernel
theorem dX12_init_50 : decode cX12_init 50 = .ok (.putfield 28, 3) := by decide +kernel
theorem dX12_init_53 : decode cX12_init 53 = .ok (.aload_n 0, 1) := by decide +kernel
theorem dX12_init_54 : decode cX12_init 54 = .ok (.bipush 6, 2) := by decide +kernel
theorem dX12_init_56 : decode cX12_init 56 = .ok (.newarray .int, 2) := by decide +kernel
theorem dX12_init_58 : decode cX12_init 58 = .ok (.putfield 31, 3) := by decide +kernel
theorem dX12_init_61 : decode cX12_init 61 = .ok (.aload_n 0, 1) := by decide +kernel
theorem dX12_init_62 : decode cX12_init 62 = .ok (.bipush 6, 2) := by decide +kernel
theorem dX12_init_64 : decode cX12_init 64 = .ok (.newarray .int, 2) := by decide +kernel
theorem dX12_init_66 : decode cX12_init 66 = .ok (.putfield 34, 3) := by decide +kernel
theorem dX12_init_69 : decode cX12_init 69 = .ok (.aload_n 0, 1) := by decide +kernel
theorem dX12_init_70 : decode cX12_init 70 = .ok (.bipush 6, 2) := by decide +kernel
theorem dX12_init_72 : decode cX12_init 72 = .ok (.newarray .int, 2) := by decide +kernel
theorem dX12_init_74 : decode cX12_init 74 = .ok (.putfield 37, 3) := by decide +kernel
theorem dX12_init_77 : decode cX12_init 77 = .ok (.aload_n 0, 1) := by decide +kernel
theorem dX12_init_78 : decode cX12_init 78 = .ok (.bipush 6, 2) := by decide +kernel
theorem dX12_init_80 : decode cX12_init 80 = .ok (.newarray .int, 2) := by decide +kernel
theorem dX12_init_82 : decode cX12_init 82 = .ok (.putfield 40, 3) := by decide +kernel
theorem dX12_init_85 : decode cX12_init 85 = .ok (.aload_n 0, 1) := by decide +kernel
theorem dX12_init_86 : decode cX12_init 86 = .ok (.bipush 30, 2) := by decide +kernel
theorem dX12_init_88 : decode cX12_init 88 = .ok (.newarray .byte, 2) := by decide +kernel
theorem dX12_init_90 : decode cX12_init 90 = .ok (.putfield 43, 3) := by decide +kernel
theorem dX12_init_93 : decode cX12_init 93 = .ok (.aload_n 0, 1) := by decide +kernel
theorem dX12_init_94 : decode cX12_init 94 = .ok (.iconst 4, 1) := by decide +kernel
theorem dX12_init_95 : decode cX12_init 95 = .ok (.newarray .int, 2) := by decide +kernel
theorem dX12_init_97 : decode cX12_init 97 = .ok (.putfield 47, 3) := by decide +kernel
theorem dX12_init_100 : decode cX12_init 100 = .ok (.aload_n 0, 1) := by decide +kernel
theorem dX12_init_101 : decode cX12_init 101 = .ok (.iconst 4, 1) := by decide +kernel
theorem dX12_init_102 : decode cX12_init 102 = .ok (.newarray .int, 2) := by decide +kernel
theorem dX12_init_104 : decode cX12_init 104 = .ok (.putfield 50, 3) := by decide +kernel
theorem dX12_init_107 : decode cX12_init 107 = .ok (.aload_n 0, 1) := by decide +kernel
theorem dX12_init_108 : decode cX12_init 108 = .ok (.iconst 4, 1) := by decide +kernel
theorem dX12_init_109 : decode cX12_init 109 = .ok (.newarray .int, 2) := by decide +kernel
theorem dX12_init_111 : decode cX12_init 111 = .ok (.putfield 53, 3) := by decide +kernel
theorem dX12_init_114 : decode cX12_init 114 = .ok (.aload_n 0, 1) := by decide +kernel
theorem dX12_init_115 : decode cX12_init 115 = .ok (.iconst 4, 1) := by decide +kernel
theorem dX12_init_116 : decode cX12_init 116 = .ok (.newarray .int, 2) := by decide +kernel
theorem dX12_init_118 : decode cX12_init 118 = .ok (.putfield 56, 3) := by decide +kernel
theorem dX12_init_121 : decode cX12_init 121 = .ok (.aload_n 0, 1) := by decide +kernel
theorem dX12_init_122 : decode cX12_init 122 = .ok (.bipush 6, 2) := by decide +kernel
theorem dX12_init_124 : decode cX12_init 124 = .ok (.newarray .int, 2) := by decide +kernel
theorem dX12_init_126 : decode cX12_init 126 = .ok (.putfield 59, 3) := by decide +kernel
theorem dX12_init_129 : decode cX12_init 129 = .ok (.aload_n 0, 1) := by decide +kernel
theorem dX12_init_130 : decode cX12_init 130 = .ok (.bipush 6, 2) := by decide +kernel
theorem dX12_init_132 : decode cX12_init 132 = .ok (.newarray .int, 2) := by decide +kernel
theorem dX12_init_134 : decode cX12_init 134 = .ok (.putfield 62, 3) := by decide +kernel
theorem dX12_init_137 : decode cX12_init 137 = .ok (.aload_n 0, 1) := by decide +kernel
theorem dX12_init_138 : decode cX12_init 138 = .ok (.bipush 6, 2) := by decide +kernel
theorem dX12_init_140 : decode cX12_init 140 = .ok (.newarray .int, 2) := by decide +kernel
theorem dX12_init_142 : decode cX12_init 142 = .ok (.putfield 65, 3) := by decide +kernel
theorem dX12_init_145 : decode cX12_init 145 = .ok (.aload_n 0, 1) := by decide +kernel
theorem dX12_init_146 : decode cX12_init 146 = .ok (.bipush 6, 2) := by decide +kernel
theorem dX12_init_148 : decode cX12_init 148 = .ok (.newarray .int, 2) := by decide +kernel
theorem dX12_init_150 : decode cX12_init 150 = .ok (.putfield 68, 3) := by decide +kernel
theorem dX12_init_153 : decode cX12_init 153 = .ok (.return_, 1) := by decide +kernel
theorem dX12_within_0 : decode cX12_within 0 = .ok (.iload_n 0, 1) := by decide +kernel
theorem dX12_within_1 : decode cX12_within 1 = .ok (.iload_n 1, 1) := by decide +kernel
theorem dX12_within_2 : decode cX12_within 2 = .ok (.if_icmp .lt 12, 3) := by decide +kernel
theorem dX12_within_5 : decode cX12_within 5 = .ok (.iload_n 0, 1) := by decide +kernel
theorem dX12_within_6 : decode cX12_within 6 = .ok (.iload_n 2, 1) := by decide +kernel
theorem dX12_within_7 : decode cX12_within 7 = .ok (.if_icmp .gt 7, 3) := by decide +kernel
theorem dX12_within_10 : decode cX12_within 10 = .ok (.iconst 1, 1) := by decide +kernel
theorem dX12_within_11 : decode cX12_within 11 = .ok (.goto 4, 3) := by decide +kernel
theorem dX12_within_14 : decode cX12_within 14 = .ok (.iconst 0, 1) := by decide +kernel
theorem dX12_within_15 : decode cX12_within 15 = .ok (.ireturn, 1) := by decide +kernel
theorem dX12_isIn_0 : decode cX12_isIn 0 = .ok (.iload_n 0, 1) := by decide +kernel
theorem dX12_isIn_1 : decode cX12_isIn 1 = .ok (.iload_n 1, 1) := by decide +kernel
theorem dX12_isIn_2 : decode cX12_isIn 2 = .ok (.ishr, 1) := by decide +kernel
theorem dX12_isIn_3 : decode cX12_isIn 3 = .ok (.iconst 1, 1) := by decide +kernel
theorem dX12_isIn_4 : decode cX12_isIn 4 = .ok (.iand, 1) := by decide +kernel
theorem dX12_isIn_5 : decode cX12_isIn 5 = .ok (.iconst 1, 1) := by decide +kernel
theorem dX12_isIn_6 : decode cX12_isIn 6 = .ok (.if_icmp .ne 7, 3) := by decide +kernel
theorem dX12_isIn_9 : decode cX12_isIn 9 = .ok (.iconst 1, 1) := by decide +kernel
theorem dX12_isIn_10 : decode cX12_isIn 10 = .ok (.goto 4, 3) := by decide +kernel
theorem dX12_isIn_13 : decode cX12_isIn 13 = .ok (.iconst 0, 1) := by decide +kernel
theorem dX12_isIn_14 : decode cX12_isIn 14 = .ok (.ireturn, 1) := by decide +kernel
theorem dX12_letter_0 : decode cX12_letter 0 = .ok (.iload_n 1, 1) := by decide +kernel
theorem dX12_letter_1 : decode cX12_letter 1 = .ok (.bipush 32, 2) := by decide +kernel
theorem dX12_letter_3 : decode cX12_letter 3 = .ok (.bipush 126, 2) := by decide +kernel
theorem dX12_letter_5 : decode cX12_letter 5 = .ok (.invokestatic 71, 3) := by decide +kernel
theorem dX12_letter_8 : decode cX12_letter 8 = .ok (.ifCond .ne 6, 3) := by decide +kernel
theorem dX12_letter_11 : decode cX12_letter 11 = .ok (.bipush (-102), 2) := by decide +kernel
theorem dX12_letter_13 : decode cX12_letter 13 = .ok (.ireturn, 1) := by decide +kernel
theorem dX12_letter_14 : decode cX12_letter 14 = .ok (.aload_n 0, 1) := by decide +kernel
theorem dX12_letter_15 : decode cX12_letter 15 = .ok (.getfield 75, 3) := by decide +kernel
theorem dX12_letter_18 : decode cX12_letter 18 = .ok (.bipush 30, 2) := by decide +kernel
theorem dX12_letter_20 : decode cX12_letter 20 = .ok (.if_icmp .ne 6, 3) := by decide +kernel
theorem dX12_letter_23 : decode cX12_letter 23 = .ok (.bipush (-104), 2) := by decide +kernel
theorem dX12_letter_25 : decode cX12_letter 25 = .ok (.ireturn, 1) := by decide +kernel
theorem dX12_letter_26 : decode cX12_letter 26 = .ok (.aload_n 0, 1) := by decide +kernel
theorem dX12_letter_27 : decode cX12_letter 27 = .ok (.getfield 43, 3) := by decide +kernel
theorem dX12_letter_30 : decode cX12_letter 30 = .ok (.aload_n 0, 1) := by decide +kernel
theorem dX12_letter_31 : decode cX12_letter 31 = .ok (.getfield 75, 3) := by decide +kernel
theorem dX12_letter_34 : decode cX12_letter 34 = .ok (.iload_n 1, 1) := by decide +kernel
theorem dX12_letter_35 : decode cX12_letter 35 = .ok (.i2b, 1) := by decide +kernel
theorem dX12_letter_36 : decode cX12_letter 36 = .ok (.bastore, 1) := by decide +kernel
theorem dX12_letter_37 : decode cX12_letter 37 = .ok (.aload_n 0, 1) := by decide +kernel
theorem dX12_letter_38 : decode cX12_letter 38 = .ok (.dup, 1) := by decide +kernel
theorem dX12_letter_39 : decode cX12_letter 39 = .ok (.getfield 75, 3) := by decide +kernel
theorem dX12_letter_42 : decode cX12_letter 42 = .ok (.iconst 1, 1) := by decide +kernel
theorem dX12_letter_43 : decode cX12_letter 43 = .ok (.iadd, 1) := by decide +kernel
theorem dX12_letter_44 : decode cX12_letter 44 = .ok (.putfield 75, 3) := by decide +kernel
theorem dX12_letter_47 : decode cX12_letter 47 = .ok (.aload_n 0, 1) := by decide +kernel
theorem dX12_letter_48 : decode cX12_letter 48 = .ok (.getfield 75, 3) := by decide +kernel
theorem dX12_letter_51 : decode cX12_letter 51 = .ok (.ireturn, 1) := by decide +kernel
theorem dX12_blank_0 : decode cX12_blank 0 = .ok (.aload_n 0, 1) := by decide +kernel
theorem dX12_blank_1 : decode cX12_blank 1 = .ok (.getfield 75, 3) := by decide +kernel
theorem dX12_blank_4 : decode cX12_blank 4 = .ok (.istore_n 1, 1) := by decide +kernel
theorem dX12_blank_5 : decode cX12_blank 5 = .ok (.aload_n 0, 1) := by decide +kernel
theorem dX12_blank_6 : decode cX12_blank 6 = .ok (.iconst 0, 1) := by decide +kernel
theorem dX12_blank_7 : decode cX12_blank 7 = .ok (.putfield 75, 3) := by decide +kernel
theorem dX12_blank_10 : decode cX12_blank 10 = .ok (.iload_n 1, 1) := by decide +kernel
theorem dX12_blank_11 : decode cX12_blank 11 = .ok (.ireturn, 1) := by decide +kernel
theorem dX12_kindBy_0 : decode cX12_kindBy 0 = .ok (.iload_n 0, 1) := by decide +kernel
theorem dX12_kindBy_1 : decode cX12_kindBy 1 = .ok (.lookupswitch 61 #[(98, 55), (104, 59), (105, 57), (109, 51), (116, 53)], 51) := by decide +kernel
theorem dX12_kindBy_52 : decode cX12_kindBy 52 = .ok (.iconst 0, 1) := by decide +kernel
theorem dX12_kindBy_53 : decode cX12_kindBy 53 = .ok (.ireturn, 1) := by decide +kernel
theorem dX12_kindBy_54 : decode cX12_kindBy 54 = .ok (.iconst 1, 1) := by decide +kernel
theorem dX12_kindBy_55 : decode cX12_kindBy 55 = .ok (.ireturn, 1) := by decide +kernel
theorem dX12_kindBy_56 : decode cX12_kindBy 56 = .ok (.iconst 2, 1) := by decide +kernel
theorem dX12_kindBy_57 : decode cX12_kindBy 57 = .ok (.ireturn, 1) := by decide +kernel
theorem dX12_kindBy_58 : decode cX12_kindBy 58 = .ok (.iconst 3, 1) := by decide +kernel
theorem dX12_kindBy_59 : decode cX12_kindBy 59 = .ok (.ireturn, 1) := by decide +kernel
theorem dX12_kindBy_60 : decode cX12_kindBy 60 = .ok (.iconst 4, 1) := by decide +kernel
theorem dX12_kindBy_61 : decode cX12_kindBy 61 = .ok (.ireturn, 1) := by decide +kernel
theorem dX12_kindBy_62 : decode cX12_kindBy 62 = .ok (.iconst (-1), 1) := by decide +kernel
theorem dX12_kindBy_63 : decode cX12_kindBy 63 = .ok (.ireturn, 1) := by decide +kernel
theorem dX12_isFigure_0 : decode cX12_isFigure 0 = .ok (.iload_n 1, 1) := by decide +kernel
theorem dX12_isFigure_1 : decode cX12_isFigure 1 = .ok (.aload_n 0, 1) := by decide +kernel
theorem dX12_isFigure_2 : decode cX12_isFigure 2 = .ok (.getfield 75, 3) := by decide +kernel
theorem dX12_isFigure_5 : decode cX12_isFigure 5 = .ok (.if_icmp .ge 24, 3) := by decide +kernel
theorem dX12_isFigure_8 : decode cX12_isFigure 8 = .ok (.aload_n 0, 1) := by decide +kernel
theorem dX12_isFigure_9 : decode cX12_isFigure 9 = .ok (.getfield 43, 3) := by decide +kernel
theorem dX12_isFigure_12 : decode cX12_isFigure 12 = .ok (.iload_n 1, 1) := by decide +kernel
theorem dX12_isFigure_13 : decode cX12_isFigure 13 = .ok (.baload, 1) := by decide +kernel
theorem dX12_isFigure_14 : decode cX12_isFigure 14 = .ok (.bipush 48, 2) := by decide +kernel
theorem dX12_isFigure_16 : decode cX12_isFigure 16 = .ok (.isub, 1) := by decide +kernel
theorem dX12_isFigure_17 : decode cX12_isFigure 17 = .ok (.iload_n 2, 1) := by decide +kernel
theorem dX12_isFigure_18 : decode cX12_isFigure 18 = .ok (.iload_n 3, 1) := by decide +kernel
theorem dX12_isFigure_19 : decode cX12_isFigure 19 = .ok (.invokestatic 71, 3) := by decide +kernel
theorem dX12_isFigure_22 : decode cX12_isFigure 22 = .ok (.ifCond .eq 7, 3) := by decide +kernel
theorem dX12_isFigure_25 : decode cX12_isFigure 25 = .ok (.iconst 1, 1) := by decide +kernel
theorem dX12_isFigure_26 : decode cX12_isFigure 26 = .ok (.goto 4, 3) := by decide +kernel
theorem dX12_isFigure_29 : decode cX12_isFigure 29 = .ok (.iconst 0, 1) := by decide +kernel
theorem dX12_isFigure_30 : decode cX12_isFigure 30 = .ok (.ireturn, 1) := by decide +kernel
theorem dX12_readOne_0 : decode cX12_readOne 0 = .ok (.iload_n 1, 1) := by decide +kernel
theorem dX12_readOne_1 : decode cX12_readOne 1 = .ok (.aload_n 0, 1) := by decide +kernel
theorem dX12_readOne_2 : decode cX12_readOne 2 = .ok (.getfield 75, 3) := by decide +kernel
theorem dX12_readOne_5 : decode cX12_readOne 5 = .ok (.if_icmp .eq 16, 3) := by decide +kernel
theorem dX12_readOne_8 : decode cX12_readOne 8 = .ok (.aload_n 0, 1) := by decide +kernel
theorem dX12_readOne_9 : decode cX12_readOne 9 = .ok (.getfield 43, 3) := by decide +kernel
theorem dX12_readOne_12 : decode cX12_readOne 12 = .ok (.iload_n 1, 1) := by decide +kernel
theorem dX12_readOne_13 : decode cX12_readOne 13 = .ok (.baload, 1) := by decide +kernel
theorem dX12_readOne_14 : decode cX12_readOne 14 = .ok (.invokestatic 79, 3) := by decide +kernel
theorem dX12_readOne_17 : decode cX12_readOne 17 = .ok (.iconst (-1), 1) := by decide +kernel
theorem dX12_readOne_18 : decode cX12_readOne 18 = .ok (.if_icmp .ne 5, 3) := by decide +kernel
theorem dX12_readOne_21 : decode cX12_readOne 21 = .ok (.iload_n 1, 1) := by decide +kernel
theorem dX12_readOne_22 : decode cX12_readOne 22 = .ok (.ireturn, 1) := by decide +kernel
theorem dX12_readOne_23 : decode cX12_readOne 23 = .ok (.aload_n 0, 1) := by decide +kernel
theorem dX12_readOne_24 : decode cX12_readOne 24 = .ok (.iload_n 1, 1) := by decide +kernel
theorem dX12_readOne_25 : decode cX12_readOne 25 = .ok (.iconst 1, 1) := by decide +kernel
theorem dX12_readOne_26 : decode cX12_readOne 26 = .ok (.iadd, 1) := by decide +kernel
theorem dX12_readOne_27 : decode cX12_readOne 27 = .ok (.iconst 1, 1) := by decide +kernel
theorem dX12_readOne_28 : decode cX12_readOne 28 = .ok (.bipush 9, 2) := by decide +kernel
theorem dX12_readOne_30 : decode cX12_readOne 30 = .ok (.invokevirtual 83, 3) := by decide +kernel
theorem dX12_readOne_33 : decode cX12_readOne 33 = .ok (.ifCond .ne 9, 3) := by decide +kernel
theorem dX12_readOne_36 : decode cX12_readOne 36 = .ok (.iload_n 1, 1) := by decide +kernel
theorem dX12_readOne_37 : decode cX12_readOne 37 = .ok (.iconst 1, 1) := by decide +kernel
theorem dX12_readOne_38 : decode cX12_readOne 38 = .ok (.iadd, 1) := by decide +kernel
theorem dX12_readOne_39 : decode cX12_readOne 39 = .ok (.goto 24, 3) := by decide +kernel
theorem dX12_readOne_42 : decode cX12_readOne 42 = .ok (.aload_n 0, 1) := by decide +kernel
theorem dX12_readOne_43 : decode cX12_readOne 43 = .ok (.iload_n 1, 1) := by decide +kernel
theorem dX12_readOne_44 : decode cX12_readOne 44 = .ok (.iconst 2, 1) := by decide +kernel
theorem dX12_readOne_45 : decode cX12_readOne 45 = .ok (.iadd, 1) := by decide +kernel
theorem dX12_readOne_46 : decode cX12_readOne 46 = .ok (.iconst 0, 1) := by decide +kernel
theorem dX12_readOne_47 : decode cX12_readOne 47 = .ok (.iconst 3, 1) := by decide +kernel
theorem dX12_readOne_48 : decode cX12_readOne 48 = .ok (.invokevirtual 83, 3) := by decide +kernel
