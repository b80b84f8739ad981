theorem dX12_readOne_51 : decode cX12_readOne 51 = .ok (.ifCond .ne 9, 3) := by decide +kernel
theorem dX12_readOne_54 : decode cX12_readOne 54 = .ok (.iload_n 1, 1) := by decide +kernel
theorem dX12_readOne_55 : decode cX12_readOne 55 = .ok (.iconst 2, 1) := by decide +kernel
theorem dX12_readOne_56 : decode cX12_readOne 56 = .ok (.iadd, 1) := by decide +kernel
theorem dX12_readOne_57 : decode cX12_readOne 57 = .ok (.goto 6, 3) := by decide +kernel
theorem dX12_readOne_60 : decode cX12_readOne 60 = .ok (.iload_n 1, 1) := by decide +kernel
theorem dX12_readOne_61 : decode cX12_readOne 61 = .ok (.iconst 3, 1) := by decide +kernel
theorem dX12_readOne_62 : decode cX12_readOne 62 = .ok (.iadd, 1) := by decide +kernel
theorem dX12_readOne_63 : decode cX12_readOne 63 = .ok (.ireturn, 1) := by decide +kernel
theorem dX12_readCrimes_0 : decode cX12_readCrimes 0 = .ok (.iload_n 1, 1) := by decide +kernel
theorem dX12_readCrimes_1 : decode cX12_readCrimes 1 = .ok (.istore_n 2, 1) := by decide +kernel
theorem dX12_readCrimes_2 : decode cX12_readCrimes 2 = .ok (.iload_n 2, 1) := by decide +kernel
theorem dX12_readCrimes_3 : decode cX12_readCrimes 3 = .ok (.iload_n 1, 1) := by decide +kernel
theorem dX12_readCrimes_4 : decode cX12_readCrimes 4 = .ok (.bipush 12, 2) := by decide +kernel
theorem dX12_readCrimes_6 : decode cX12_readCrimes 6 = .ok (.iadd, 1) := by decide +kernel
theorem dX12_readCrimes_7 : decode cX12_readCrimes 7 = .ok (.if_icmp .ge 46, 3) := by decide +kernel
theorem dX12_readCrimes_10 : decode cX12_readCrimes 10 = .ok (.aload_n 0, 1) := by decide +kernel
theorem dX12_readCrimes_11 : decode cX12_readCrimes 11 = .ok (.iload_n 2, 1) := by decide +kernel
theorem dX12_readCrimes_12 : decode cX12_readCrimes 12 = .ok (.iload_n 2, 1) := by decide +kernel
theorem dX12_readCrimes_13 : decode cX12_readCrimes 13 = .ok (.iload_n 1, 1) := by decide +kernel
theorem dX12_readCrimes_14 : decode cX12_readCrimes 14 = .ok (.isub, 1) := by decide +kernel
theorem dX12_readCrimes_15 : decode cX12_readCrimes 15 = .ok (.iconst 3, 1) := by decide +kernel
theorem dX12_readCrimes_16 : decode cX12_readCrimes 16 = .ok (.irem, 1) := by decide +kernel
theorem dX12_readCrimes_17 : decode cX12_readCrimes 17 = .ok (.iconst 1, 1) := by decide +kernel
theorem dX12_readCrimes_18 : decode cX12_readCrimes 18 = .ok (.if_icmp .ne 7, 3) := by decide +kernel
theorem dX12_readCrimes_21 : decode cX12_readCrimes 21 = .ok (.iconst 0, 1) := by decide +kernel
theorem dX12_readCrimes_22 : decode cX12_readCrimes 22 = .ok (.goto 4, 3) := by decide +kernel
theorem dX12_readCrimes_25 : decode cX12_readCrimes 25 = .ok (.iconst 1, 1) := by decide +kernel
theorem dX12_readCrimes_26 : decode cX12_readCrimes 26 = .ok (.iload_n 2, 1) := by decide +kernel
theorem dX12_readCrimes_27 : decode cX12_readCrimes 27 = .ok (.iload_n 1, 1) := by decide +kernel
theorem dX12_readCrimes_28 : decode cX12_readCrimes 28 = .ok (.isub, 1) := by decide +kernel
theorem dX12_readCrimes_29 : decode cX12_readCrimes 29 = .ok (.iconst 3, 1) := by decide +kernel
theorem dX12_readCrimes_30 : decode cX12_readCrimes 30 = .ok (.irem, 1) := by decide +kernel
theorem dX12_readCrimes_31 : decode cX12_readCrimes 31 = .ok (.iconst 1, 1) := by decide +kernel
theorem dX12_readCrimes_32 : decode cX12_readCrimes 32 = .ok (.if_icmp .ne 7, 3) := by decide +kernel
theorem dX12_readCrimes_35 : decode cX12_readCrimes 35 = .ok (.iconst 3, 1) := by decide +kernel
theorem dX12_readCrimes_36 : decode cX12_readCrimes 36 = .ok (.goto 5, 3) := by decide +kernel
theorem dX12_readCrimes_39 : decode cX12_readCrimes 39 = .ok (.bipush 9, 2) := by decide +kernel
theorem dX12_readCrimes_41 : decode cX12_readCrimes 41 = .ok (.invokevirtual 83, 3) := by decide +kernel
theorem dX12_readCrimes_44 : decode cX12_readCrimes 44 = .ok (.ifCond .eq 9, 3) := by decide +kernel
theorem dX12_readCrimes_47 : decode cX12_readCrimes 47 = .ok (.iinc 2 1, 3) := by decide +kernel
theorem dX12_readCrimes_50 : decode cX12_readCrimes 50 = .ok (.goto (-48), 3) := by decide +kernel
theorem dX12_readCrimes_53 : decode cX12_readCrimes 53 = .ok (.aload_n 0, 1) := by decide +kernel
theorem dX12_readCrimes_54 : decode cX12_readCrimes 54 = .ok (.iload_n 2, 1) := by decide +kernel
theorem dX12_readCrimes_55 : decode cX12_readCrimes 55 = .ok (.iload_n 1, 1) := by decide +kernel
theorem dX12_readCrimes_56 : decode cX12_readCrimes 56 = .ok (.isub, 1) := by decide +kernel
theorem dX12_readCrimes_57 : decode cX12_readCrimes 57 = .ok (.iconst 3, 1) := by decide +kernel
theorem dX12_readCrimes_58 : decode cX12_readCrimes 58 = .ok (.idiv, 1) := by decide +kernel
theorem dX12_readCrimes_59 : decode cX12_readCrimes 59 = .ok (.putfield 86, 3) := by decide +kernel
theorem dX12_readCrimes_62 : decode cX12_readCrimes 62 = .ok (.aload_n 0, 1) := by decide +kernel
theorem dX12_readCrimes_63 : decode cX12_readCrimes 63 = .ok (.iload_n 2, 1) := by decide +kernel
theorem dX12_readCrimes_64 : decode cX12_readCrimes 64 = .ok (.aload_n 0, 1) := by decide +kernel
theorem dX12_readCrimes_65 : decode cX12_readCrimes 65 = .ok (.getfield 75, 3) := by decide +kernel
theorem dX12_readCrimes_68 : decode cX12_readCrimes 68 = .ok (.if_icmp .ne 22, 3) := by decide +kernel
theorem dX12_readCrimes_71 : decode cX12_readCrimes 71 = .ok (.aload_n 0, 1) := by decide +kernel
theorem dX12_readCrimes_72 : decode cX12_readCrimes 72 = .ok (.getfield 86, 3) := by decide +kernel
theorem dX12_readCrimes_75 : decode cX12_readCrimes 75 = .ok (.ifCond .le 15, 3) := by decide +kernel
theorem dX12_readCrimes_78 : decode cX12_readCrimes 78 = .ok (.iload_n 2, 1) := by decide +kernel
theorem dX12_readCrimes_79 : decode cX12_readCrimes 79 = .ok (.iload_n 1, 1) := by decide +kernel
theorem dX12_readCrimes_80 : decode cX12_readCrimes 80 = .ok (.isub, 1) := by decide +kernel
theorem dX12_readCrimes_81 : decode cX12_readCrimes 81 = .ok (.iconst 3, 1) := by decide +kernel
theorem dX12_readCrimes_82 : decode cX12_readCrimes 82 = .ok (.irem, 1) := by decide +kernel
theorem dX12_readCrimes_83 : decode cX12_readCrimes 83 = .ok (.ifCond .ne 7, 3) := by decide +kernel
theorem dX12_readCrimes_86 : decode cX12_readCrimes 86 = .ok (.iconst 1, 1) := by decide +kernel
theorem dX12_readCrimes_87 : decode cX12_readCrimes 87 = .ok (.goto 4, 3) := by decide +kernel
theorem dX12_readCrimes_90 : decode cX12_readCrimes 90 = .ok (.iconst 0, 1) := by decide +kernel
theorem dX12_readCrimes_91 : decode cX12_readCrimes 91 = .ok (.putfield 89, 3) := by decide +kernel
theorem dX12_readCrimes_94 : decode cX12_readCrimes 94 = .ok (.iload_n 2, 1) := by decide +kernel
theorem dX12_readCrimes_95 : decode cX12_readCrimes 95 = .ok (.ireturn, 1) := by decide +kernel
theorem dX12_read_0 : decode cX12_read 0 = .ok (.aload_n 0, 1) := by decide +kernel
theorem dX12_read_1 : decode cX12_read 1 = .ok (.iconst 0, 1) := by decide +kernel
theorem dX12_read_2 : decode cX12_read 2 = .ok (.putfield 89, 3) := by decide +kernel
theorem dX12_read_5 : decode cX12_read 5 = .ok (.aload_n 0, 1) := by decide +kernel
theorem dX12_read_6 : decode cX12_read 6 = .ok (.iconst 0, 1) := by decide +kernel
theorem dX12_read_7 : decode cX12_read 7 = .ok (.putfield 93, 3) := by decide +kernel
theorem dX12_read_10 : decode cX12_read 10 = .ok (.iconst 0, 1) := by decide +kernel
theorem dX12_read_11 : decode cX12_read 11 = .ok (.istore_n 1, 1) := by decide +kernel
theorem dX12_read_12 : decode cX12_read 12 = .ok (.aload_n 0, 1) := by decide +kernel
theorem dX12_read_13 : decode cX12_read 13 = .ok (.getfield 93, 3) := by decide +kernel
theorem dX12_read_16 : decode cX12_read 16 = .ok (.iconst 4, 1) := by decide +kernel
theorem dX12_read_17 : decode cX12_read 17 = .ok (.if_icmp .ge 100, 3) := by decide +kernel
theorem dX12_read_20 : decode cX12_read 20 = .ok (.aload_n 0, 1) := by decide +kernel
theorem dX12_read_21 : decode cX12_read 21 = .ok (.iload_n 1, 1) := by decide +kernel
theorem dX12_read_22 : decode cX12_read 22 = .ok (.invokevirtual 96, 3) := by decide +kernel
theorem dX12_read_25 : decode cX12_read 25 = .ok (.istore_n 2, 1) := by decide +kernel
theorem dX12_read_26 : decode cX12_read 26 = .ok (.iload_n 2, 1) := by decide +kernel
theorem dX12_read_27 : decode cX12_read 27 = .ok (.iload_n 1, 1) := by decide +kernel
theorem dX12_read_28 : decode cX12_read 28 = .ok (.iconst 3, 1) := by decide +kernel
theorem dX12_read_29 : decode cX12_read 29 = .ok (.iadd, 1) := by decide +kernel
theorem dX12_read_30 : decode cX12_read 30 = .ok (.if_icmp .eq 5, 3) := by decide +kernel
theorem dX12_read_33 : decode cX12_read 33 = .ok (.iload_n 2, 1) := by decide +kernel
theorem dX12_read_34 : decode cX12_read 34 = .ok (.ireturn, 1) := by decide +kernel
theorem dX12_read_35 : decode cX12_read 35 = .ok (.aload_n 0, 1) := by decide +kernel
theorem dX12_read_36 : decode cX12_read 36 = .ok (.dup, 1) := by decide +kernel
theorem dX12_read_37 : decode cX12_read 37 = .ok (.getfield 93, 3) := by decide +kernel
theorem dX12_read_40 : decode cX12_read 40 = .ok (.iconst 1, 1) := by decide +kernel
theorem dX12_read_41 : decode cX12_read 41 = .ok (.iadd, 1) := by decide +kernel
theorem dX12_read_42 : decode cX12_read 42 = .ok (.putfield 93, 3) := by decide +kernel
theorem dX12_read_45 : decode cX12_read 45 = .ok (.iload_n 2, 1) := by decide +kernel
theorem dX12_read_46 : decode cX12_read 46 = .ok (.istore_n 1, 1) := by decide +kernel
theorem dX12_read_47 : decode cX12_read 47 = .ok (.iload_n 1, 1) := by decide +kernel
theorem dX12_read_48 : decode cX12_read 48 = .ok (.aload_n 0, 1) := by decide +kernel
theorem dX12_read_49 : decode cX12_read 49 = .ok (.getfield 75, 3) := by decide +kernel
theorem dX12_read_52 : decode cX12_read 52 = .ok (.if_icmp .ge 30, 3) := by decide +kernel
theorem dX12_read_55 : decode cX12_read 55 = .ok (.aload_n 0, 1) := by decide +kernel
theorem dX12_read_56 : decode cX12_read 56 = .ok (.getfield 43, 3) := by decide +kernel
theorem dX12_read_59 : decode cX12_read 59 = .ok (.iload_n 1, 1) := by decide +kernel
theorem dX12_read_60 : decode cX12_read 60 = .ok (.baload, 1) := by decide +kernel
theorem dX12_read_61 : decode cX12_read 61 = .ok (.bipush 59, 2) := by decide +kernel
theorem dX12_read_63 : decode cX12_read 63 = .ok (.if_icmp .ne 19, 3) := by decide +kernel
theorem dX12_read_66 : decode cX12_read 66 = .ok (.aload_n 0, 1) := by decide +kernel
theorem dX12_read_67 : decode cX12_read 67 = .ok (.getfield 93, 3) := by decide +kernel
theorem dX12_read_70 : decode cX12_read 70 = .ok (.iconst 1, 1) := by decide +kernel
theorem dX12_read_71 : decode cX12_read 71 = .ok (.if_icmp .le 11, 3) := by decide +kernel
theorem dX12_read_74 : decode cX12_read 74 = .ok (.aload_n 0, 1) := by decide +kernel
theorem dX12_read_75 : decode cX12_read 75 = .ok (.iload_n 1, 1) := by decide +kernel
theorem dX12_read_76 : decode cX12_read 76 = .ok (.iconst 1, 1) := by decide +kernel
theorem dX12_read_77 : decode cX12_read 77 = .ok (.iadd, 1) := by decide +kernel
theorem dX12_read_78 : decode cX12_read 78 = .ok (.invokevirtual 99, 3) := by decide +kernel
theorem dX12_read_81 : decode cX12_read 81 = .ok (.ireturn, 1) := by decide +kernel
theorem dX12_read_82 : decode cX12_read 82 = .ok (.iload_n 1, 1) := by decide +kernel
theorem dX12_read_83 : decode cX12_read 83 = .ok (.aload_n 0, 1) := by decide +kernel
theorem dX12_read_84 : decode cX12_read 84 = .ok (.getfield 75, 3) := by decide +kernel
theorem dX12_read_87 : decode cX12_read 87 = .ok (.if_icmp .eq 22, 3) := by decide +kernel
theorem dX12_read_90 : decode cX12_read 90 = .ok (.aload_n 0, 1) := by decide +kernel
theorem dX12_read_91 : decode cX12_read 91 = .ok (.getfield 93, 3) := by decide +kernel
theorem dX12_read_94 : decode cX12_read 94 = .ok (.iconst 4, 1) := by decide +kernel
theorem dX12_read_95 : decode cX12_read 95 = .ok (.if_icmp .eq 14, 3) := by decide +kernel
theorem dX12_read_98 : decode cX12_read 98 = .ok (.aload_n 0, 1) := by decide +kernel
theorem dX12_read_99 : decode cX12_read 99 = .ok (.getfield 43, 3) := by decide +kernel
theorem dX12_read_102 : decode cX12_read 102 = .ok (.iload_n 1, 1) := by decide +kernel
theorem dX12_read_103 : decode cX12_read 103 = .ok (.baload, 1) := by decide +kernel
theorem dX12_read_104 : decode cX12_read 104 = .ok (.bipush 44, 2) := by decide +kernel
theorem dX12_read_106 : decode cX12_read 106 = .ok (.if_icmp .eq 5, 3) := by decide +kernel
theorem dX12_read_109 : decode cX12_read 109 = .ok (.iload_n 1, 1) := by decide +kernel
theorem dX12_read_110 : decode cX12_read 110 = .ok (.ireturn, 1) := by decide +kernel
theorem dX12_read_111 : decode cX12_read 111 = .ok (.iinc 1 1, 3) := by decide +kernel
theorem dX12_read_114 : decode cX12_read 114 = .ok (.goto (-102), 3) := by decide +kernel
theorem dX12_read_117 : decode cX12_read 117 = .ok (.iload_n 1, 1) := by decide +kernel
theorem dX12_read_118 : decode cX12_read 118 = .ok (.ireturn, 1) := by decide +kernel
theorem dX12_fault_0 : decode cX12_fault 0 = .ok (.aload_n 0, 1) := by decide +kernel
theorem dX12_fault_1 : decode cX12_fault 1 = .ok (.invokevirtual 102, 3) := by decide +kernel
theorem dX12_fault_4 : decode cX12_fault 4 = .ok (.ireturn, 1) := by decide +kernel
theorem dX12_station_0 : decode cX12_station 0 = .ok (.aload_n 0, 1) := by decide +kernel
theorem dX12_station_1 : decode cX12_station 1 = .ok (.invokevirtual 102, 3) := by decide +kernel
theorem dX12_station_4 : decode cX12_station 4 = .ok (.istore_n 1, 1) := by decide +kernel
theorem dX12_station_5 : decode cX12_station 5 = .ok (.aload_n 0, 1) := by decide +kernel
theorem dX12_station_6 : decode cX12_station 6 = .ok (.getfield 89, 3) := by decide +kernel
theorem dX12_station_9 : decode cX12_station 9 = .ok (.ifCond .ne 6, 3) := by decide +kernel
theorem dX12_station_12 : decode cX12_station 12 = .ok (.bipush (-103), 2) := by decide +kernel
theorem dX12_station_14 : decode cX12_station 14 = .ok (.ireturn, 1) := by decide +kernel
theorem dX12_station_15 : decode cX12_station 15 = .ok (.aload_n 0, 1) := by decide +kernel
theorem dX12_station_16 : decode cX12_station 16 = .ok (.aload_n 0, 1) := by decide +kernel
theorem dX12_station_17 : decode cX12_station 17 = .ok (.getfield 93, 3) := by decide +kernel
theorem dX12_station_20 : decode cX12_station 20 = .ok (.putfield 106, 3) := by decide +kernel
theorem dX12_station_23 : decode cX12_station 23 = .ok (.aload_n 0, 1) := by decide +kernel
theorem dX12_station_24 : decode cX12_station 24 = .ok (.aload_n 0, 1) := by decide +kernel
theorem dX12_station_25 : decode cX12_station 25 = .ok (.getfield 86, 3) := by decide +kernel
theorem dX12_station_28 : decode cX12_station 28 = .ok (.putfield 109, 3) := by decide +kernel
theorem dX12_station_31 : decode cX12_station 31 = .ok (.iconst 0, 1) := by decide +kernel
theorem dX12_station_32 : decode cX12_station 32 = .ok (.istore_n 2, 1) := by decide +kernel
theorem dX12_station_33 : decode cX12_station 33 = .ok (.iload_n 2, 1) := by decide +kernel
theorem dX12_station_34 : decode cX12_station 34 = .ok (.aload_n 0, 1) := by decide +kernel
theorem dX12_station_35 : decode cX12_station 35 = .ok (.getfield 106, 3) := by decide +kernel
theorem dX12_station_38 : decode cX12_station 38 = .ok (.if_icmp .ge 71, 3) := by decide +kernel
theorem dX12_station_41 : decode cX12_station 41 = .ok (.aload_n 0, 1) := by decide +kernel
theorem dX12_station_42 : decode cX12_station 42 = .ok (.getfield 7, 3) := by decide +kernel
theorem dX12_station_45 : decode cX12_station 45 = .ok (.iload_n 2, 1) := by decide +kernel
theorem dX12_station_46 : decode cX12_station 46 = .ok (.aload_n 0, 1) := by decide +kernel
theorem dX12_station_47 : decode cX12_station 47 = .ok (.getfield 43, 3) := by decide +kernel
theorem dX12_station_50 : decode cX12_station 50 = .ok (.iconst 4, 1) := by decide +kernel
theorem dX12_station_51 : decode cX12_station 51 = .ok (.iload_n 2, 1) := by decide +kernel
theorem dX12_station_52 : decode cX12_station 52 = .ok (.imul, 1) := by decide +kernel
theorem dX12_station_53 : decode cX12_station 53 = .ok (.baload, 1) := by decide +kernel
theorem dX12_station_54 : decode cX12_station 54 = .ok (.invokestatic 79, 3) := by decide +kernel
theorem dX12_station_57 : decode cX12_station 57 = .ok (.iastore, 1) := by decide +kernel
theorem dX12_station_58 : decode cX12_station 58 = .ok (.aload_n 0, 1) := by decide +kernel
theorem dX12_station_59 : decode cX12_station 59 = .ok (.getfield 13, 3) := by decide +kernel
theorem dX12_station_62 : decode cX12_station 62 = .ok (.iload_n 2, 1) := by decide +kernel
theorem dX12_station_63 : decode cX12_station 63 = .ok (.aload_n 0, 1) := by decide +kernel
theorem dX12_station_64 : decode cX12_station 64 = .ok (.getfield 43, 3) := by decide +kernel
theorem dX12_station_67 : decode cX12_station 67 = .ok (.iconst 4, 1) := by decide +kernel
theorem dX12_station_68 : decode cX12_station 68 = .ok (.iload_n 2, 1) := by decide +kernel
theorem dX12_station_69 : decode cX12_station 69 = .ok (.imul, 1) := by decide +kernel
theorem dX12_station_70 : decode cX12_station 70 = .ok (.iconst 1, 1) := by decide +kernel
theorem dX12_station_71 : decode cX12_station 71 = .ok (.iadd, 1) := by decide +kernel
theorem dX12_station_72 : decode cX12_station 72 = .ok (.baload, 1) := by decide +kernel
theorem dX12_station_73 : decode cX12_station 73 = .ok (.bipush 48, 2) := by decide +kernel
theorem dX12_station_75 : decode cX12_station 75 = .ok (.isub, 1) := by decide +kernel
theorem dX12_station_76 : decode cX12_station 76 = .ok (.iastore, 1) := by decide +kernel
theorem dX12_station_77 : decode cX12_station 77 = .ok (.aload_n 0, 1) := by decide +kernel
theorem dX12_station_78 : decode cX12_station 78 = .ok (.getfield 16, 3) := by decide +kernel
theorem dX12_station_81 : decode cX12_station 81 = .ok (.iload_n 2, 1) := by decide +kernel
theorem dX12_station_82 : decode cX12_station 82 = .ok (.aload_n 0, 1) := by decide +kernel
theorem dX12_station_83 : decode cX12_station 83 = .ok (.getfield 43, 3) := by decide +kernel
theorem dX12_station_86 : decode cX12_station 86 = .ok (.iconst 4, 1) := by decide +kernel
theorem dX12_station_87 : decode cX12_station 87 = .ok (.iload_n 2, 1) := by decide +kernel
theorem dX12_station_88 : decode cX12_station 88 = .ok (.imul, 1) := by decide +kernel
theorem dX12_station_89 : decode cX12_station 89 = .ok (.iconst 2, 1) := by decide +kernel
theorem dX12_station_90 : decode cX12_station 90 = .ok (.iadd, 1) := by decide +kernel
theorem dX12_station_91 : decode cX12_station 91 = .ok (.baload, 1) := by decide +kernel
theorem dX12_station_92 : decode cX12_station 92 = .ok (.bipush 48, 2) := by decide +kernel
theorem dX12_station_94 : decode cX12_station 94 = .ok (.isub, 1) := by decide +kernel
theorem dX12_station_95 : decode cX12_station 95 = .ok (.iastore, 1) := by decide +kernel
theorem dX12_station_96 : decode cX12_station 96 = .ok (.aload_n 0, 1) := by decide +kernel
theorem dX12_station_97 : decode cX12_station 97 = .ok (.getfield 28, 3) := by decide +kernel
theorem dX12_station_100 : decode cX12_station 100 = .ok (.iload_n 2, 1) := by decide +kernel
theorem dX12_station_101 : decode cX12_station 101 = .ok (.iconst (-1), 1) := by decide +kernel
theorem dX12_station_102 : decode cX12_station 102 = .ok (.iastore, 1) := by decide +kernel
theorem dX12_station_103 : decode cX12_station 103 = .ok (.iinc 2 1, 3) := by decide +kernel
theorem dX12_station_106 : decode cX12_station 106 = .ok (.goto (-73), 3) := by decide +kernel
theorem dX12_station_109 : decode cX12_station 109 = .ok (.iconst 0, 1) := by decide +kernel
theorem dX12_station_110 : decode cX12_station 110 = .ok (.istore_n 2, 1) := by decide +kernel
theorem dX12_station_111 : decode cX12_station 111 = .ok (.iload_n 2, 1) := by decide +kernel
theorem dX12_station_112 : decode cX12_station 112 = .ok (.aload_n 0, 1) := by decide +kernel
theorem dX12_station_113 : decode cX12_station 113 = .ok (.getfield 109, 3) := by decide +kernel
theorem dX12_station_116 : decode cX12_station 116 = .ok (.if_icmp .ge 69, 3) := by decide +kernel
theorem dX12_station_119 : decode cX12_station 119 = .ok (.iload_n 1, 1) := by decide +kernel
theorem dX12_station_120 : decode cX12_station 120 = .ok (.iconst 3, 1) := by decide +kernel
theorem dX12_station_121 : decode cX12_station 121 = .ok (.aload_n 0, 1) := by decide +kernel
theorem dX12_station_122 : decode cX12_station 122 = .ok (.getfield 109, 3) := by decide +kernel
theorem dX12_station_125 : decode cX12_station 125 = .ok (.iload_n 2, 1) := by decide +kernel
theorem dX12_station_126 : decode cX12_station 126 = .ok (.isub, 1) := by decide +kernel
theorem dX12_station_127 : decode cX12_station 127 = .ok (.imul, 1) := by decide +kernel
theorem dX12_station_128 : decode cX12_station 128 = .ok (.isub, 1) := by decide +kernel
theorem dX12_station_129 : decode cX12_station 129 = .ok (.istore_n 3, 1) := by decide +kernel
theorem dX12_station_130 : decode cX12_station 130 = .ok (.aload_n 0, 1) := by decide +kernel
theorem dX12_station_131 : decode cX12_station 131 = .ok (.getfield 19, 3) := by decide +kernel
theorem dX12_station_134 : decode cX12_station 134 = .ok (.iload_n 2, 1) := by decide +kernel
theorem dX12_station_135 : decode cX12_station 135 = .ok (.aload_n 0, 1) := by decide +kernel
theorem dX12_station_136 : decode cX12_station 136 = .ok (.getfield 43, 3) := by decide +kernel
theorem dX12_station_139 : decode cX12_station 139 = .ok (.iload_n 3, 1) := by decide +kernel
theorem dX12_station_140 : decode cX12_station 140 = .ok (.baload, 1) := by decide +kernel
theorem dX12_station_141 : decode cX12_station 141 = .ok (.bipush 48, 2) := by decide +kernel
theorem dX12_station_143 : decode cX12_station 143 = .ok (.isub, 1) := by decide +kernel
theorem dX12_station_144 : decode cX12_station 144 = .ok (.iastore, 1) := by decide +kernel
theorem dX12_station_145 : decode cX12_station 145 = .ok (.aload_n 0, 1) := by decide +kernel
theorem dX12_station_146 : decode cX12_station 146 = .ok (.getfield 22, 3) := by decide +kernel
theorem dX12_station_149 : decode cX12_station 149 = .ok (.iload_n 2, 1) := by decide +kernel
theorem dX12_station_150 : decode cX12_station 150 = .ok (.aload_n 0, 1) := by decide +kernel
theorem dX12_station_151 : decode cX12_station 151 = .ok (.getfield 43, 3) := by decide +kernel
theorem dX12_station_154 : decode cX12_station 154 = .ok (.iload_n 3, 1) := by decide +kernel
theorem dX12_station_155 : decode cX12_station 155 = .ok (.iconst 1, 1) := by decide +kernel
theorem dX12_station_156 : decode cX12_station 156 = .ok (.iadd, 1) := by decide +kernel
theorem dX12_station_157 : decode cX12_station 157 = .ok (.baload, 1) := by decide +kernel
theorem dX12_station_158 : decode cX12_station 158 = .ok (.bipush 48, 2) := by decide +kernel
theorem dX12_station_160 : decode cX12_station 160 = .ok (.isub, 1) := by decide +kernel
theorem dX12_station_161 : decode cX12_station 161 = .ok (.iastore, 1) := by decide +kernel
theorem dX12_station_162 : decode cX12_station 162 = .ok (.aload_n 0, 1) := by decide +kernel
theorem dX12_station_163 : decode cX12_station 163 = .ok (.getfield 25, 3) := by decide +kernel
theorem dX12_station_166 : decode cX12_station 166 = .ok (.iload_n 2, 1) := by decide +kernel
theorem dX12_station_167 : decode cX12_station 167 = .ok (.aload_n 0, 1) := by decide +kernel
theorem dX12_station_168 : decode cX12_station 168 = .ok (.getfield 43, 3) := by decide +kernel
theorem dX12_station_171 : decode cX12_station 171 = .ok (.iload_n 3, 1) := by decide +kernel
theorem dX12_station_172 : decode cX12_station 172 = .ok (.iconst 2, 1) := by decide +kernel
theorem dX12_station_173 : decode cX12_station 173 = .ok (.iadd, 1) := by decide +kernel
theorem dX12_station_174 : decode cX12_station 174 = .ok (.baload, 1) := by decide +kernel
theorem dX12_station_175 : decode cX12_station 175 = .ok (.bipush 48, 2) := by decide +kernel
theorem dX12_station_177 : decode cX12_station 177 = .ok (.isub, 1) := by decide +kernel
theorem dX12_station_178 : decode cX12_station 178 = .ok (.iastore, 1) := by decide +kernel
theorem dX12_station_179 : decode cX12_station 179 = .ok (.iinc 2 1, 3) := by decide +kernel
theorem dX12_station_182 : decode cX12_station 182 = .ok (.goto (-71), 3) := by decide +kernel
theorem dX12_station_185 : decode cX12_station 185 = .ok (.aload_n 0, 1) := by decide +kernel
theorem dX12_station_186 : decode cX12_station 186 = .ok (.dup, 1) := by decide +kernel
theorem dX12_station_187 : decode cX12_station 187 = .ok (.getfield 112, 3) := by decide +kernel
theorem dX12_station_190 : decode cX12_station 190 = .ok (.iconst 1, 1) := by decide +kernel
theorem dX12_station_191 : decode cX12_station 191 = .ok (.iadd, 1) := by decide +kernel
theorem dX12_station_192 : decode cX12_station 192 = .ok (.putfield 112, 3) := by decide +kernel
theorem dX12_station_195 : decode cX12_station 195 = .ok (.aload_n 0, 1) := by decide +kernel
theorem dX12_station_196 : decode cX12_station 196 = .ok (.iconst 0, 1) := by decide +kernel
theorem dX12_station_197 : decode cX12_station 197 = .ok (.putfield 115, 3) := by decide +kernel
theorem dX12_station_200 : decode cX12_station 200 = .ok (.aload_n 0, 1) := by decide +kernel
theorem dX12_station_201 : decode cX12_station 201 = .ok (.iconst 0, 1) := by decide +kernel
theorem dX12_station_202 : decode cX12_station 202 = .ok (.putfield 118, 3) := by decide +kernel
theorem dX12_station_205 : decode cX12_station 205 = .ok (.aload_n 0, 1) := by decide +kernel
theorem dX12_station_206 : decode cX12_station 206 = .ok (.iconst 0, 1) := by decide +kernel
theorem dX12_station_207 : decode cX12_station 207 = .ok (.putfield 121, 3) := by decide +kernel
theorem dX12_station_210 : decode cX12_station 210 = .ok (.aload_n 0, 1) := by decide +kernel
theorem dX12_station_211 : decode cX12_station 211 = .ok (.iconst 0, 1) := by decide +kernel
theorem dX12_station_212 : decode cX12_station 212 = .ok (.putfield 75, 3) := by decide +kernel
theorem dX12_station_215 : decode cX12_station 215 = .ok (.aload_n 0, 1) := by decide +kernel
theorem dX12_station_216 : decode cX12_station 216 = .ok (.getfield 109, 3) := by decide +kernel
theorem dX12_station_219 : decode cX12_station 219 = .ok (.ireturn, 1) := by decide +kernel
theorem dX12_isOne_0 : decode cX12_isOne 0 = .ok (.iload_n 1, 1) := by decide +kernel
theorem dX12_isOne_1 : decode cX12_isOne 1 = .ok (.iconst 0, 1) := by decide +kernel
theorem dX12_isOne_2 : decode cX12_isOne 2 = .ok (.aload_n 0, 1) := by decide +kernel
theorem dX12_isOne_3 : decode cX12_isOne 3 = .ok (.getfield 106, 3) := by decide +kernel
theorem dX12_isOne_6 : decode cX12_isOne 6 = .ok (.iconst 1, 1) := by decide +kernel
theorem dX12_isOne_7 : decode cX12_isOne 7 = .ok (.isub, 1) := by decide +kernel
theorem dX12_isOne_8 : decode cX12_isOne 8 = .ok (.invokestatic 71, 3) := by decide +kernel
theorem dX12_isOne_11 : decode cX12_isOne 11 = .ok (.ireturn, 1) := by decide +kernel
theorem dX12_isCrime_0 : decode cX12_isCrime 0 = .ok (.iload_n 1, 1) := by decide +kernel
theorem dX12_isCrime_1 : decode cX12_isCrime 1 = .ok (.iconst 0, 1) := by decide +kernel
theorem dX12_isCrime_2 : decode cX12_isCrime 2 = .ok (.aload_n 0, 1) := by decide +kernel
theorem dX12_isCrime_3 : decode cX12_isCrime 3 = .ok (.getfield 109, 3) := by decide +kernel
theorem dX12_isCrime_6 : decode cX12_isCrime 6 = .ok (.iconst 1, 1) := by decide +kernel
theorem dX12_isCrime_7 : decode cX12_isCrime 7 = .ok (.isub, 1) := by decide +kernel
theorem dX12_isCrime_8 : decode cX12_isCrime 8 = .ok (.invokestatic 71, 3) := by decide +kernel
theorem dX12_isCrime_11 : decode cX12_isCrime 11 = .ok (.ireturn, 1) := by decide +kernel
theorem dX12_bears_0 : decode cX12_bears 0 = .ok (.aload_n 0, 1) := by decide +kernel
theorem dX12_bears_1 : decode cX12_bears 1 = .ok (.getfield 7, 3) := by decide +kernel
theorem dX12_bears_4 : decode cX12_bears 4 = .ok (.iload_n 1, 1) := by decide +kernel
theorem dX12_bears_5 : decode cX12_bears 5 = .ok (.iaload, 1) := by decide +kernel
theorem dX12_bears_6 : decode cX12_bears 6 = .ok (.tableswitch 34 1 4 #[30, 32, 34, 30], 30) := by decide +kernel
theorem dX12_bears_36 : decode cX12_bears 36 = .ok (.iconst 2, 1) := by decide +kernel
theorem dX12_bears_37 : decode cX12_bears 37 = .ok (.ireturn, 1) := by decide +kernel
theorem dX12_bears_38 : decode cX12_bears 38 = .ok (.iconst 0, 1) := by decide +kernel
theorem dX12_bears_39 : decode cX12_bears 39 = .ok (.ireturn, 1) := by decide +kernel
theorem dX12_bears_40 : decode cX12_bears 40 = .ok (.iconst 1, 1) := by decide +kernel
theorem dX12_bears_41 : decode cX12_bears 41 = .ok (.ireturn, 1) := by decide +kernel
theorem dX12_counts_0 : decode cX12_counts 0 = .ok (.aload_n 0, 1) := by decide +kernel
theorem dX12_counts_1 : decode cX12_counts 1 = .ok (.getfield 7, 3) := by decide +kernel
theorem dX12_counts_4 : decode cX12_counts 4 = .ok (.iload_n 1, 1) := by decide +kernel
theorem dX12_counts_5 : decode cX12_counts 5 = .ok (.iaload, 1) := by decide +kernel
theorem dX12_counts_6 : decode cX12_counts 6 = .ok (.iconst 3, 1) := by decide +kernel
theorem dX12_counts_7 : decode cX12_counts 7 = .ok (.if_icmp .ne 9, 3) := by decide +kernel
theorem dX12_counts_10 : decode cX12_counts 10 = .ok (.iload_n 2, 1) := by decide +kernel
theorem dX12_counts_11 : decode cX12_counts 11 = .ok (.iconst 1, 1) := by decide +kernel
theorem dX12_counts_12 : decode cX12_counts 12 = .ok (.iadd, 1) := by decide +kernel
theorem dX12_counts_13 : decode cX12_counts 13 = .ok (.goto 4, 3) := by decide +kernel
theorem dX12_counts_16 : decode cX12_counts 16 = .ok (.iload_n 2, 1) := by decide +kernel
theorem dX12_counts_17 : decode cX12_counts 17 = .ok (.ireturn, 1) := by decide +kernel
theorem dX12_isHand_0 : decode cX12_isHand 0 = .ok (.aload_n 0, 1) := by decide +kernel
theorem dX12_isHand_1 : decode cX12_isHand 1 = .ok (.getfield 7, 3) := by decide +kernel
theorem dX12_isHand_4 : decode cX12_isHand 4 = .ok (.iload_n 1, 1) := by decide +kernel
theorem dX12_isHand_5 : decode cX12_isHand 5 = .ok (.iaload, 1) := by decide +kernel
theorem dX12_isHand_6 : decode cX12_isHand 6 = .ok (.iconst 4, 1) := by decide +kernel
theorem dX12_isHand_7 : decode cX12_isHand 7 = .ok (.if_icmp .eq 13, 3) := by decide +kernel
theorem dX12_isHand_10 : decode cX12_isHand 10 = .ok (.aload_n 0, 1) := by decide +kernel
theorem dX12_isHand_11 : decode cX12_isHand 11 = .ok (.getfield 16, 3) := by decide +kernel
theorem dX12_isHand_14 : decode cX12_isHand 14 = .ok (.iload_n 1, 1) := by decide +kernel
theorem dX12_isHand_15 : decode cX12_isHand 15 = .ok (.iaload, 1) := by decide +kernel
theorem dX12_isHand_16 : decode cX12_isHand 16 = .ok (.iload_n 2, 1) := by decide +kernel
theorem dX12_isHand_17 : decode cX12_isHand 17 = .ok (.if_icmp .ne 7, 3) := by decide +kernel
theorem dX12_isHand_20 : decode cX12_isHand 20 = .ok (.iconst 1, 1) := by decide +kernel
theorem dX12_isHand_21 : decode cX12_isHand 21 = .ok (.goto 4, 3) := by decide +kernel
theorem dX12_isHand_24 : decode cX12_isHand 24 = .ok (.iconst 0, 1) := by decide +kernel
theorem dX12_isHand_25 : decode cX12_isHand 25 = .ok (.ireturn, 1) := by decide +kernel
theorem dX12_fitsBy_0 : decode cX12_fitsBy 0 = .ok (.iload_n 3, 1) := by decide +kernel
theorem dX12_fitsBy_1 : decode cX12_fitsBy 1 = .ok (.aload_n 0, 1) := by decide +kernel
theorem dX12_fitsBy_2 : decode cX12_fitsBy 2 = .ok (.iload_n 1, 1) := by decide +kernel
theorem dX12_fitsBy_3 : decode cX12_fitsBy 3 = .ok (.iload_n 2, 1) := by decide +kernel
theorem dX12_fitsBy_4 : decode cX12_fitsBy 4 = .ok (.invokevirtual 124, 3) := by decide +kernel
theorem dX12_fitsBy_7 : decode cX12_fitsBy 7 = .ok (.isub, 1) := by decide +kernel
theorem dX12_fitsBy_8 : decode cX12_fitsBy 8 = .ok (.istore 5, 2) := by decide +kernel
theorem dX12_fitsBy_10 : decode cX12_fitsBy 10 = .ok (.aload_n 0, 1) := by decide +kernel
theorem dX12_fitsBy_11 : decode cX12_fitsBy 11 = .ok (.iload_n 1, 1) := by decide +kernel
theorem dX12_fitsBy_12 : decode cX12_fitsBy 12 = .ok (.iload 4, 2) := by decide +kernel
theorem dX12_fitsBy_14 : decode cX12_fitsBy 14 = .ok (.invokevirtual 128, 3) := by decide +kernel
theorem dX12_fitsBy_17 : decode cX12_fitsBy 17 = .ok (.ifCond .eq 26, 3) := by decide +kernel
theorem dX12_fitsBy_20 : decode cX12_fitsBy 20 = .ok (.iload 5, 2) := by decide +kernel
theorem dX12_fitsBy_22 : decode cX12_fitsBy 22 = .ok (.aload_n 0, 1) := by decide +kernel
theorem dX12_fitsBy_23 : decode cX12_fitsBy 23 = .ok (.iload_n 1, 1) := by decide +kernel
theorem dX12_fitsBy_24 : decode cX12_fitsBy 24 = .ok (.invokevirtual 132, 3) := by decide +kernel
theorem dX12_fitsBy_27 : decode cX12_fitsBy 27 = .ok (.ineg, 1) := by decide +kernel
theorem dX12_fitsBy_28 : decode cX12_fitsBy 28 = .ok (.aload_n 0, 1) := by decide +kernel
theorem dX12_fitsBy_29 : decode cX12_fitsBy 29 = .ok (.iload_n 1, 1) := by decide +kernel
theorem dX12_fitsBy_30 : decode cX12_fitsBy 30 = .ok (.invokevirtual 132, 3) := by decide +kernel
theorem dX12_fitsBy_33 : decode cX12_fitsBy 33 = .ok (.invokestatic 71, 3) := by decide +kernel
theorem dX12_fitsBy_36 : decode cX12_fitsBy 36 = .ok (.ifCond .eq 7, 3) := by decide +kernel
theorem dX12_fitsBy_39 : decode cX12_fitsBy 39 = .ok (.iconst 1, 1) := by decide +kernel
theorem dX12_fitsBy_40 : decode cX12_fitsBy 40 = .ok (.goto 4, 3) := by decide +kernel
theorem dX12_fitsBy_43 : decode cX12_fitsBy 43 = .ok (.iconst 0, 1) := by decide +kernel
theorem dX12_fitsBy_44 : decode cX12_fitsBy 44 = .ok (.ireturn, 1) := by decide +kernel
theorem dX12_fits_0 : decode cX12_fits 0 = .ok (.aload_n 0, 1) := by decide +kernel
theorem dX12_fits_1 : decode cX12_fits 1 = .ok (.iload_n 1, 1) := by decide +kernel
theorem dX12_fits_2 : decode cX12_fits 2 = .ok (.aload_n 0, 1) := by decide +kernel
theorem dX12_fits_3 : decode cX12_fits 3 = .ok (.getfield 13, 3) := by decide +kernel
theorem dX12_fits_6 : decode cX12_fits 6 = .ok (.iload_n 1, 1) := by decide +kernel
theorem dX12_fits_7 : decode cX12_fits 7 = .ok (.iaload, 1) := by decide +kernel
theorem dX12_fits_8 : decode cX12_fits 8 = .ok (.aload_n 0, 1) := by decide +kernel
theorem dX12_fits_9 : decode cX12_fits 9 = .ok (.getfield 19, 3) := by decide +kernel
theorem dX12_fits_12 : decode cX12_fits 12 = .ok (.iload_n 2, 1) := by decide +kernel
theorem dX12_fits_13 : decode cX12_fits 13 = .ok (.iaload, 1) := by decide +kernel
theorem dX12_fits_14 : decode cX12_fits 14 = .ok (.aload_n 0, 1) := by decide +kernel
theorem dX12_fits_15 : decode cX12_fits 15 = .ok (.getfield 22, 3) := by decide +kernel
theorem dX12_fits_18 : decode cX12_fits 18 = .ok (.iload_n 2, 1) := by decide +kernel
theorem dX12_fits_19 : decode cX12_fits 19 = .ok (.iaload, 1) := by decide +kernel
theorem dX12_fits_20 : decode cX12_fits 20 = .ok (.invokevirtual 135, 3) := by decide +kernel
theorem dX12_fits_23 : decode cX12_fits 23 = .ok (.ireturn, 1) := by decide +kernel
theorem dX12_fitting_0 : decode cX12_fitting 0 = .ok (.iconst 0, 1) := by decide +kernel
theorem dX12_fitting_1 : decode cX12_fitting 1 = .ok (.istore_n 2, 1) := by decide +kernel
theorem dX12_fitting_2 : decode cX12_fitting 2 = .ok (.iconst 0, 1) := by decide +kernel
theorem dX12_fitting_3 : decode cX12_fitting 3 = .ok (.istore_n 3, 1) := by decide +kernel
theorem dX12_fitting_4 : decode cX12_fitting 4 = .ok (.iload_n 3, 1) := by decide +kernel
theorem dX12_fitting_5 : decode cX12_fitting 5 = .ok (.aload_n 0, 1) := by decide +kernel
theorem dX12_fitting_6 : decode cX12_fitting 6 = .ok (.getfield 109, 3) := by decide +kernel
theorem dX12_fitting_9 : decode cX12_fitting 9 = .ok (.if_icmp .ge 28, 3) := by decide +kernel
theorem dX12_fitting_12 : decode cX12_fitting 12 = .ok (.iload_n 2, 1) := by decide +kernel
theorem dX12_fitting_13 : decode cX12_fitting 13 = .ok (.aload_n 0, 1) := by decide +kernel
theorem dX12_fitting_14 : decode cX12_fitting 14 = .ok (.iload_n 1, 1) := by decide +kernel
theorem dX12_fitting_15 : decode cX12_fitting 15 = .ok (.iload_n 3, 1) := by decide +kernel
theorem dX12_fitting_16 : decode cX12_fitting 16 = .ok (.invokevirtual 139, 3) := by decide +kernel
theorem dX12_fitting_19 : decode cX12_fitting 19 = .ok (.ifCond .eq 9, 3) := by decide +kernel
theorem dX12_fitting_22 : decode cX12_fitting 22 = .ok (.iconst 1, 1) := by decide +kernel
theorem dX12_fitting_23 : decode cX12_fitting 23 = .ok (.iload_n 3, 1) := by decide +kernel
theorem dX12_fitting_24 : decode cX12_fitting 24 = .ok (.ishl, 1) := by decide +kernel
theorem dX12_fitting_25 : decode cX12_fitting 25 = .ok (.goto 4, 3) := by decide +kernel
theorem dX12_fitting_28 : decode cX12_fitting 28 = .ok (.iconst 0, 1) := by decide +kernel
theorem dX12_fitting_29 : decode cX12_fitting 29 = .ok (.ior, 1) := by decide +kernel
theorem dX12_fitting_30 : decode cX12_fitting 30 = .ok (.istore_n 2, 1) := by decide +kernel
theorem dX12_fitting_31 : decode cX12_fitting 31 = .ok (.iinc 3 1, 3) := by decide +kernel
theorem dX12_fitting_34 : decode cX12_fitting 34 = .ok (.goto (-30), 3) := by decide +kernel
theorem dX12_fitting_37 : decode cX12_fitting 37 = .ok (.iload_n 2, 1) := by decide +kernel
theorem dX12_fitting_38 : decode cX12_fitting 38 = .ok (.ireturn, 1) := by decide +kernel
theorem dX12_fitted_0 : decode cX12_fitted 0 = .ok (.iconst 0, 1) := by decide +kernel
theorem dX12_fitted_1 : decode cX12_fitted 1 = .ok (.istore_n 2, 1) := by decide +kernel
theorem dX12_fitted_2 : decode cX12_fitted 2 = .ok (.iconst 0, 1) := by decide +kernel
theorem dX12_fitted_3 : decode cX12_fitted 3 = .ok (.istore_n 3, 1) := by decide +kernel
theorem dX12_fitted_4 : decode cX12_fitted 4 = .ok (.iload_n 3, 1) := by decide +kernel
theorem dX12_fitted_5 : decode cX12_fitted 5 = .ok (.aload_n 0, 1) := by decide +kernel
theorem dX12_fitted_6 : decode cX12_fitted 6 = .ok (.getfield 106, 3) := by decide +kernel
theorem dX12_fitted_9 : decode cX12_fitted 9 = .ok (.if_icmp .ge 28, 3) := by decide +kernel
theorem dX12_fitted_12 : decode cX12_fitted 12 = .ok (.iload_n 2, 1) := by decide +kernel
theorem dX12_fitted_13 : decode cX12_fitted 13 = .ok (.aload_n 0, 1) := by decide +kernel
theorem dX12_fitted_14 : decode cX12_fitted 14 = .ok (.iload_n 3, 1) := by decide +kernel
theorem dX12_fitted_15 : decode cX12_fitted 15 = .ok (.iload_n 1, 1) := by decide +kernel
theorem dX12_fitted_16 : decode cX12_fitted 16 = .ok (.invokevirtual 139, 3) := by decide +kernel
theorem dX12_fitted_19 : decode cX12_fitted 19 = .ok (.ifCond .eq 9, 3) := by decide +kernel
theorem dX12_fitted_22 : decode cX12_fitted 22 = .ok (.iconst 1, 1) := by decide +kernel
theorem dX12_fitted_23 : decode cX12_fitted 23 = .ok (.iload_n 3, 1) := by decide +kernel
theorem dX12_fitted_24 : decode cX12_fitted 24 = .ok (.ishl, 1) := by decide +kernel
theorem dX12_fitted_25 : decode cX12_fitted 25 = .ok (.goto 4, 3) := by decide +kernel
theorem dX12_fitted_28 : decode cX12_fitted 28 = .ok (.iconst 0, 1) := by decide +kernel
theorem dX12_fitted_29 : decode cX12_fitted 29 = .ok (.ior, 1) := by decide +kernel
theorem dX12_fitted_30 : decode cX12_fitted 30 = .ok (.istore_n 2, 1) := by decide +kernel
theorem dX12_fitted_31 : decode cX12_fitted 31 = .ok (.iinc 3 1, 3) := by decide +kernel
theorem dX12_fitted_34 : decode cX12_fitted 34 = .ok (.goto (-30), 3) := by decide +kernel
theorem dX12_fitted_37 : decode cX12_fitted 37 = .ok (.iload_n 2, 1) := by decide +kernel
theorem dX12_fitted_38 : decode cX12_fitted 38 = .ok (.ireturn, 1) := by decide +kernel
theorem dX12_hangsOn_0 : decode cX12_hangsOn 0 = .ok (.iconst (-1), 1) := by decide +kernel
theorem dX12_hangsOn_1 : decode cX12_hangsOn 1 = .ok (.istore_n 2, 1) := by decide +kernel
theorem dX12_hangsOn_2 : decode cX12_hangsOn 2 = .ok (.iconst 0, 1) := by decide +kernel
theorem dX12_hangsOn_3 : decode cX12_hangsOn 3 = .ok (.istore_n 3, 1) := by decide +kernel
theorem dX12_hangsOn_4 : decode cX12_hangsOn 4 = .ok (.iload_n 3, 1) := by decide +kernel
theorem dX12_hangsOn_5 : decode cX12_hangsOn 5 = .ok (.aload_n 0, 1) := by decide +kernel
theorem dX12_hangsOn_6 : decode cX12_hangsOn 6 = .ok (.getfield 106, 3) := by decide +kernel
theorem dX12_hangsOn_9 : decode cX12_hangsOn 9 = .ok (.if_icmp .ge 25, 3) := by decide +kernel
theorem dX12_hangsOn_12 : decode cX12_hangsOn 12 = .ok (.aload_n 0, 1) := by decide +kernel
theorem dX12_hangsOn_13 : decode cX12_hangsOn 13 = .ok (.getfield 28, 3) := by decide +kernel
theorem dX12_hangsOn_16 : decode cX12_hangsOn 16 = .ok (.iload_n 3, 1) := by decide +kernel
theorem dX12_hangsOn_17 : decode cX12_hangsOn 17 = .ok (.iaload, 1) := by decide +kernel
theorem dX12_hangsOn_18 : decode cX12_hangsOn 18 = .ok (.iload_n 1, 1) := by decide +kernel
theorem dX12_hangsOn_19 : decode cX12_hangsOn 19 = .ok (.if_icmp .ne 7, 3) := by decide +kernel
theorem dX12_hangsOn_22 : decode cX12_hangsOn 22 = .ok (.iload_n 3, 1) := by decide +kernel
theorem dX12_hangsOn_23 : decode cX12_hangsOn 23 = .ok (.goto 4, 3) := by decide +kernel
theorem dX12_hangsOn_26 : decode cX12_hangsOn 26 = .ok (.iload_n 2, 1) := by decide +kernel
theorem dX12_hangsOn_27 : decode cX12_hangsOn 27 = .ok (.istore_n 2, 1) := by decide +kernel
theorem dX12_hangsOn_28 : decode cX12_hangsOn 28 = .ok (.iinc 3 1, 3) := by decide +kernel
theorem dX12_hangsOn_31 : decode cX12_hangsOn 31 = .ok (.goto (-27), 3) := by decide +kernel
theorem dX12_hangsOn_34 : decode cX12_hangsOn 34 = .ok (.iload_n 2, 1) := by decide +kernel
theorem dX12_hangsOn_35 : decode cX12_hangsOn 35 = .ok (.ireturn, 1) := by decide +kernel
theorem dX12_paid_0 : decode cX12_paid 0 = .ok (.aload_n 0, 1) := by decide +kernel
theorem dX12_paid_1 : decode cX12_paid 1 = .ok (.getfield 28, 3) := by decide +kernel
theorem dX12_paid_4 : decode cX12_paid 4 = .ok (.iload_n 1, 1) := by decide +kernel
theorem dX12_paid_5 : decode cX12_paid 5 = .ok (.iaload, 1) := by decide +kernel
theorem dX12_paid_6 : decode cX12_paid 6 = .ok (.iconst (-1), 1) := by decide +kernel
theorem dX12_paid_7 : decode cX12_paid 7 = .ok (.if_icmp .ne 7, 3) := by decide +kernel
theorem dX12_paid_10 : decode cX12_paid 10 = .ok (.iconst 0, 1) := by decide +kernel
theorem dX12_paid_11 : decode cX12_paid 11 = .ok (.goto 14, 3) := by decide +kernel
theorem dX12_paid_14 : decode cX12_paid 14 = .ok (.aload_n 0, 1) := by decide +kernel
theorem dX12_paid_15 : decode cX12_paid 15 = .ok (.getfield 25, 3) := by decide +kernel
theorem dX12_paid_18 : decode cX12_paid 18 = .ok (.aload_n 0, 1) := by decide +kernel
theorem dX12_paid_19 : decode cX12_paid 19 = .ok (.getfield 28, 3) := by decide +kernel
theorem dX12_paid_22 : decode cX12_paid 22 = .ok (.iload_n 1, 1) := by decide +kernel
theorem dX12_paid_23 : decode cX12_paid 23 = .ok (.iaload, 1) := by decide +kernel
theorem dX12_paid_24 : decode cX12_paid 24 = .ok (.iaload, 1) := by decide +kernel
theorem dX12_paid_25 : decode cX12_paid 25 = .ok (.ireturn, 1) := by decide +kernel
theorem dX12_halvesOf_0 : decode cX12_halvesOf 0 = .ok (.iconst (-1), 1) := by decide +kernel
theorem dX12_halvesOf_1 : decode cX12_halvesOf 1 = .ok (.istore_n 2, 1) := by decide +kernel
theorem dX12_halvesOf_2 : decode cX12_halvesOf 2 = .ok (.bipush 15, 2) := by decide +kernel
theorem dX12_halvesOf_4 : decode cX12_halvesOf 4 = .ok (.istore_n 3, 1) := by decide +kernel
theorem dX12_halvesOf_5 : decode cX12_halvesOf 5 = .ok (.iload_n 3, 1) := by decide +kernel
theorem dX12_halvesOf_6 : decode cX12_halvesOf 6 = .ok (.ifCond .lt 126, 3) := by decide +kernel
theorem dX12_halvesOf_9 : decode cX12_halvesOf 9 = .ok (.iload_n 3, 1) := by decide +kernel
theorem dX12_halvesOf_10 : decode cX12_halvesOf 10 = .ok (.iconst 4, 1) := by decide +kernel
theorem dX12_halvesOf_11 : decode cX12_halvesOf 11 = .ok (.idiv, 1) := by decide +kernel
theorem dX12_halvesOf_12 : decode cX12_halvesOf 12 = .ok (.istore 4, 2) := by decide +kernel
theorem dX12_halvesOf_14 : decode cX12_halvesOf 14 = .ok (.iload_n 3, 1) := by decide +kernel
theorem dX12_halvesOf_15 : decode cX12_halvesOf 15 = .ok (.iconst 4, 1) := by decide +kernel
theorem dX12_halvesOf_16 : decode cX12_halvesOf 16 = .ok (.irem, 1) := by decide +kernel
theorem dX12_halvesOf_17 : decode cX12_halvesOf 17 = .ok (.istore 5, 2) := by decide +kernel
theorem dX12_halvesOf_19 : decode cX12_halvesOf 19 = .ok (.iload 4, 2) := by decide +kernel
theorem dX12_halvesOf_21 : decode cX12_halvesOf 21 = .ok (.iload 5, 2) := by decide +kernel
theorem dX12_halvesOf_23 : decode cX12_halvesOf 23 = .ok (.if_icmp .ge 103, 3) := by decide +kernel
theorem dX12_halvesOf_26 : decode cX12_halvesOf 26 = .ok (.iload 5, 2) := by decide +kernel
theorem dX12_halvesOf_28 : decode cX12_halvesOf 28 = .ok (.aload_n 0, 1) := by decide +kernel
theorem dX12_halvesOf_29 : decode cX12_halvesOf 29 = .ok (.getfield 106, 3) := by decide +kernel
theorem dX12_halvesOf_32 : decode cX12_halvesOf 32 = .ok (.if_icmp .ge 94, 3) := by decide +kernel
theorem dX12_halvesOf_35 : decode cX12_halvesOf 35 = .ok (.aload_n 0, 1) := by decide +kernel
theorem dX12_halvesOf_36 : decode cX12_halvesOf 36 = .ok (.iload 4, 2) := by decide +kernel
theorem dX12_halvesOf_38 : decode cX12_halvesOf 38 = .ok (.aload_n 0, 1) := by decide +kernel
theorem dX12_halvesOf_39 : decode cX12_halvesOf 39 = .ok (.getfield 13, 3) := by decide +kernel
theorem dX12_halvesOf_42 : decode cX12_halvesOf 42 = .ok (.iload 4, 2) := by decide +kernel
theorem dX12_halvesOf_44 : decode cX12_halvesOf 44 = .ok (.iaload, 1) := by decide +kernel
theorem dX12_halvesOf_45 : decode cX12_halvesOf 45 = .ok (.invokevirtual 124, 3) := by decide +kernel
theorem dX12_halvesOf_48 : decode cX12_halvesOf 48 = .ok (.aload_n 0, 1) := by decide +kernel
theorem dX12_halvesOf_49 : decode cX12_halvesOf 49 = .ok (.iload 5, 2) := by decide +kernel
theorem dX12_halvesOf_51 : decode cX12_halvesOf 51 = .ok (.aload_n 0, 1) := by decide +kernel
theorem dX12_halvesOf_52 : decode cX12_halvesOf 52 = .ok (.getfield 13, 3) := by decide +kernel
theorem dX12_halvesOf_55 : decode cX12_halvesOf 55 = .ok (.iload 5, 2) := by decide +kernel
theorem dX12_halvesOf_57 : decode cX12_halvesOf 57 = .ok (.iaload, 1) := by decide +kernel
theorem dX12_halvesOf_58 : decode cX12_halvesOf 58 = .ok (.invokevirtual 124, 3) := by decide +kernel
theorem dX12_halvesOf_61 : decode cX12_halvesOf 61 = .ok (.iadd, 1) := by decide +kernel
theorem dX12_halvesOf_62 : decode cX12_halvesOf 62 = .ok (.aload_n 0, 1) := by decide +kernel
theorem dX12_halvesOf_63 : decode cX12_halvesOf 63 = .ok (.getfield 19, 3) := by decide +kernel
theorem dX12_halvesOf_66 : decode cX12_halvesOf 66 = .ok (.iload_n 1, 1) := by decide +kernel
theorem dX12_halvesOf_67 : decode cX12_halvesOf 67 = .ok (.iaload, 1) := by decide +kernel
theorem dX12_halvesOf_68 : decode cX12_halvesOf 68 = .ok (.if_icmp .ne 37, 3) := by decide +kernel
theorem dX12_halvesOf_71 : decode cX12_halvesOf 71 = .ok (.aload_n 0, 1) := by decide +kernel
theorem dX12_halvesOf_72 : decode cX12_halvesOf 72 = .ok (.iload 4, 2) := by decide +kernel
theorem dX12_halvesOf_74 : decode cX12_halvesOf 74 = .ok (.aload_n 0, 1) := by decide +kernel
theorem dX12_halvesOf_75 : decode cX12_halvesOf 75 = .ok (.getfield 22, 3) := by decide +kernel
theorem dX12_halvesOf_78 : decode cX12_halvesOf 78 = .ok (.iload_n 1, 1) := by decide +kernel
theorem dX12_halvesOf_79 : decode cX12_halvesOf 79 = .ok (.iaload, 1) := by decide +kernel
theorem dX12_halvesOf_80 : decode cX12_halvesOf 80 = .ok (.invokevirtual 128, 3) := by decide +kernel
theorem dX12_halvesOf_83 : decode cX12_halvesOf 83 = .ok (.ifCond .ne 18, 3) := by decide +kernel
theorem dX12_halvesOf_86 : decode cX12_halvesOf 86 = .ok (.aload_n 0, 1) := by decide +kernel
theorem dX12_halvesOf_87 : decode cX12_halvesOf 87 = .ok (.iload 5, 2) := by decide +kernel
theorem dX12_halvesOf_89 : decode cX12_halvesOf 89 = .ok (.aload_n 0, 1) := by decide +kernel
theorem dX12_halvesOf_90 : decode cX12_halvesOf 90 = .ok (.getfield 22, 3) := by decide +kernel
theorem dX12_halvesOf_93 : decode cX12_halvesOf 93 = .ok (.iload_n 1, 1) := by decide +kernel
theorem dX12_halvesOf_94 : decode cX12_halvesOf 94 = .ok (.iaload, 1) := by decide +kernel
theorem dX12_halvesOf_95 : decode cX12_halvesOf 95 = .ok (.invokevirtual 128, 3) := by decide +kernel
theorem dX12_halvesOf_98 : decode cX12_halvesOf 98 = .ok (.ifCond .eq 7, 3) := by decide +kernel
theorem dX12_halvesOf_101 : decode cX12_halvesOf 101 = .ok (.iconst 1, 1) := by decide +kernel
theorem dX12_halvesOf_102 : decode cX12_halvesOf 102 = .ok (.goto 4, 3) := by decide +kernel
theorem dX12_halvesOf_105 : decode cX12_halvesOf 105 = .ok (.iconst 0, 1) := by decide +kernel
theorem dX12_halvesOf_106 : decode cX12_halvesOf 106 = .ok (.istore 6, 2) := by decide +kernel
theorem dX12_halvesOf_108 : decode cX12_halvesOf 108 = .ok (.iload 6, 2) := by decide +kernel
theorem dX12_halvesOf_110 : decode cX12_halvesOf 110 = .ok (.ifCond .eq 14, 3) := by decide +kernel
theorem dX12_halvesOf_113 : decode cX12_halvesOf 113 = .ok (.bipush 10, 2) := by decide +kernel
theorem dX12_halvesOf_115 : decode cX12_halvesOf 115 = .ok (.iload 4, 2) := by decide +kernel
theorem dX12_halvesOf_117 : decode cX12_halvesOf 117 = .ok (.imul, 1) := by decide +kernel
theorem dX12_halvesOf_118 : decode cX12_halvesOf 118 = .ok (.iload 5, 2) := by decide +kernel
theorem dX12_halvesOf_120 : decode cX12_halvesOf 120 = .ok (.iadd, 1) := by decide +kernel
theorem dX12_halvesOf_121 : decode cX12_halvesOf 121 = .ok (.goto 4, 3) := by decide +kernel
theorem dX12_halvesOf_124 : decode cX12_halvesOf 124 = .ok (.iload_n 2, 1) := by decide +kernel
theorem dX12_halvesOf_125 : decode cX12_halvesOf 125 = .ok (.istore_n 2, 1) := by decide +kernel
theorem dX12_halvesOf_126 : decode cX12_halvesOf 126 = .ok (.iinc 3 (-1), 3) := by decide +kernel
theorem dX12_halvesOf_129 : decode cX12_halvesOf 129 = .ok (.goto (-124), 3) := by decide +kernel
theorem dX12_halvesOf_132 : decode cX12_halvesOf 132 = .ok (.iload_n 2, 1) := by decide +kernel
theorem dX12_halvesOf_133 : decode cX12_halvesOf 133 = .ok (.ireturn, 1) := by decide +kernel
theorem dX12_oneNow_0 : decode cX12_oneNow 0 = .ok (.iload_n 2, 1) := by decide +kernel
theorem dX12_oneNow_1 : decode cX12_oneNow 1 = .ok (.tableswitch 99 0 7 #[47, 54, 61, 68, 74, 81, 87, 93], 47) := by decide +kernel
theorem dX12_oneNow_48 : decode cX12_oneNow 48 = .ok (.aload_n 0, 1) := by decide +kernel
theorem dX12_oneNow_49 : decode cX12_oneNow 49 = .ok (.getfield 7, 3) := by decide +kernel
theorem dX12_oneNow_52 : decode cX12_oneNow 52 = .ok (.iload_n 1, 1) := by decide +kernel
theorem dX12_oneNow_53 : decode cX12_oneNow 53 = .ok (.iaload, 1) := by decide +kernel
theorem dX12_oneNow_54 : decode cX12_oneNow 54 = .ok (.ireturn, 1) := by decide +kernel
theorem dX12_oneNow_55 : decode cX12_oneNow 55 = .ok (.aload_n 0, 1) := by decide +kernel
theorem dX12_oneNow_56 : decode cX12_oneNow 56 = .ok (.getfield 13, 3) := by decide +kernel
theorem dX12_oneNow_59 : decode cX12_oneNow 59 = .ok (.iload_n 1, 1) := by decide +kernel
theorem dX12_oneNow_60 : decode cX12_oneNow 60 = .ok (.iaload, 1) := by decide +kernel
theorem dX12_oneNow_61 : decode cX12_oneNow 61 = .ok (.ireturn, 1) := by decide +kernel
theorem dX12_oneNow_62 : decode cX12_oneNow 62 = .ok (.aload_n 0, 1) := by decide +kernel
theorem dX12_oneNow_63 : decode cX12_oneNow 63 = .ok (.getfield 16, 3) := by decide +kernel
theorem dX12_oneNow_66 : decode cX12_oneNow 66 = .ok (.iload_n 1, 1) := by decide +kernel
theorem dX12_oneNow_67 : decode cX12_oneNow 67 = .ok (.iaload, 1) := by decide +kernel
theorem dX12_oneNow_68 : decode cX12_oneNow 68 = .ok (.ireturn, 1) := by decide +kernel
theorem dX12_oneNow_69 : decode cX12_oneNow 69 = .ok (.aload_n 0, 1) := by decide +kernel
theorem dX12_oneNow_70 : decode cX12_oneNow 70 = .ok (.iload_n 1, 1) := by decide +kernel
theorem dX12_oneNow_71 : decode cX12_oneNow 71 = .ok (.invokevirtual 132, 3) := by decide +kernel
theorem dX12_oneNow_74 : decode cX12_oneNow 74 = .ok (.ireturn, 1) := by decide +kernel
theorem dX12_oneNow_75 : decode cX12_oneNow 75 = .ok (.aload_n 0, 1) := by decide +kernel
theorem dX12_oneNow_76 : decode cX12_oneNow 76 = .ok (.getfield 28, 3) := by decide +kernel
theorem dX12_oneNow_79 : decode cX12_oneNow 79 = .ok (.iload_n 1, 1) := by decide +kernel
theorem dX12_oneNow_80 : decode cX12_oneNow 80 = .ok (.iaload, 1) := by decide +kernel
theorem dX12_oneNow_81 : decode cX12_oneNow 81 = .ok (.ireturn, 1) := by decide +kernel
theorem dX12_oneNow_82 : decode cX12_oneNow 82 = .ok (.aload_n 0, 1) := by decide +kernel
theorem dX12_oneNow_83 : decode cX12_oneNow 83 = .ok (.iload_n 1, 1) := by decide +kernel
theorem dX12_oneNow_84 : decode cX12_oneNow 84 = .ok (.invokevirtual 142, 3) := by decide +kernel
theorem dX12_oneNow_87 : decode cX12_oneNow 87 = .ok (.ireturn, 1) := by decide +kernel
theorem dX12_oneNow_88 : decode cX12_oneNow 88 = .ok (.aload_n 0, 1) := by decide +kernel
theorem dX12_oneNow_89 : decode cX12_oneNow 89 = .ok (.iload_n 1, 1) := by decide +kernel
theorem dX12_oneNow_90 : decode cX12_oneNow 90 = .ok (.invokevirtual 145, 3) := by decide +kernel
theorem dX12_oneNow_93 : decode cX12_oneNow 93 = .ok (.ireturn, 1) := by decide +kernel
theorem dX12_oneNow_94 : decode cX12_oneNow 94 = .ok (.aload_n 0, 1) := by decide +kernel
theorem dX12_oneNow_95 : decode cX12_oneNow 95 = .ok (.iload_n 1, 1) := by decide +kernel
theorem dX12_oneNow_96 : decode cX12_oneNow 96 = .ok (.invokevirtual 148, 3) := by decide +kernel
theorem dX12_oneNow_99 : decode cX12_oneNow 99 = .ok (.ireturn, 1) := by decide +kernel
theorem dX12_oneNow_100 : decode cX12_oneNow 100 = .ok (.aload_n 0, 1) := by decide +kernel
theorem dX12_oneNow_101 : decode cX12_oneNow 101 = .ok (.iload_n 1, 1) := by decide +kernel
theorem dX12_oneNow_102 : decode cX12_oneNow 102 = .ok (.invokevirtual 151, 3) := by decide +kernel
theorem dX12_oneNow_105 : decode cX12_oneNow 105 = .ok (.ireturn, 1) := by decide +kernel
theorem dX12_about_0 : decode cX12_about 0 = .ok (.aload_n 0, 1) := by decide +kernel
theorem dX12_about_1 : decode cX12_about 1 = .ok (.iload_n 1, 1) := by decide +kernel
theorem dX12_about_2 : decode cX12_about 2 = .ok (.invokevirtual 154, 3) := by decide +kernel
theorem dX12_about_5 : decode cX12_about 5 = .ok (.ifCond .ne 8, 3) := by decide +kernel
theorem dX12_about_8 : decode cX12_about 8 = .ok (.bipush (-101), 2) := by decide +kernel
theorem dX12_about_10 : decode cX12_about 10 = .ok (.goto 24, 3) := by decide +kernel
theorem dX12_about_13 : decode cX12_about 13 = .ok (.iload_n 2, 1) := by decide +kernel
theorem dX12_about_14 : decode cX12_about 14 = .ok (.iconst 0, 1) := by decide +kernel
theorem dX12_about_15 : decode cX12_about 15 = .ok (.bipush 8, 2) := by decide +kernel
theorem dX12_about_17 : decode cX12_about 17 = .ok (.invokestatic 71, 3) := by decide +kernel
theorem dX12_about_20 : decode cX12_about 20 = .ok (.ifCond .eq 12, 3) := by decide +kernel
theorem dX12_about_23 : decode cX12_about 23 = .ok (.aload_n 0, 1) := by decide +kernel
theorem dX12_about_24 : decode cX12_about 24 = .ok (.iload_n 1, 1) := by decide +kernel
theorem dX12_about_25 : decode cX12_about 25 = .ok (.iload_n 2, 1) := by decide +kernel
theorem dX12_about_26 : decode cX12_about 26 = .ok (.invokevirtual 158, 3) := by decide +kernel
theorem dX12_about_29 : decode cX12_about 29 = .ok (.goto 5, 3) := by decide +kernel
theorem dX12_about_32 : decode cX12_about 32 = .ok (.bipush (-102), 2) := by decide +kernel
theorem dX12_about_34 : decode cX12_about 34 = .ok (.ireturn, 1) := by decide +kernel
theorem dX12_as_0 : decode cX12_as 0 = .ok (.aload_n 0, 1) := by decide +kernel
theorem dX12_as_1 : decode cX12_as 1 = .ok (.iload_n 1, 1) := by decide +kernel
theorem dX12_as_2 : decode cX12_as 2 = .ok (.invokevirtual 154, 3) := by decide +kernel
theorem dX12_as_5 : decode cX12_as 5 = .ok (.ifCond .ne 6, 3) := by decide +kernel
theorem dX12_as_8 : decode cX12_as 8 = .ok (.bipush (-101), 2) := by decide +kernel
theorem dX12_as_10 : decode cX12_as 10 = .ok (.ireturn, 1) := by decide +kernel
theorem dX12_as_11 : decode cX12_as 11 = .ok (.iload_n 2, 1) := by decide +kernel
theorem dX12_as_12 : decode cX12_as 12 = .ok (.iconst 0, 1) := by decide +kernel
theorem dX12_as_13 : decode cX12_as 13 = .ok (.iconst 4, 1) := by decide +kernel
theorem dX12_as_14 : decode cX12_as 14 = .ok (.invokestatic 71, 3) := by decide +kernel
theorem dX12_as_17 : decode cX12_as 17 = .ok (.ifCond .ne 6, 3) := by decide +kernel
theorem dX12_as_20 : decode cX12_as 20 = .ok (.bipush (-102), 2) := by decide +kernel
theorem dX12_as_22 : decode cX12_as 22 = .ok (.ireturn, 1) := by decide +kernel
theorem dX12_as_23 : decode cX12_as 23 = .ok (.aload_n 0, 1) := by decide +kernel
theorem dX12_as_24 : decode cX12_as 24 = .ok (.getfield 7, 3) := by decide +kernel
theorem dX12_as_27 : decode cX12_as 27 = .ok (.iload_n 1, 1) := by decide +kernel
theorem dX12_as_28 : decode cX12_as 28 = .ok (.iaload, 1) := by decide +kernel
theorem dX12_as_29 : decode cX12_as 29 = .ok (.istore_n 3, 1) := by decide +kernel
theorem dX12_as_30 : decode cX12_as 30 = .ok (.iload_n 2, 1) := by decide +kernel
theorem dX12_as_31 : decode cX12_as 31 = .ok (.ifCond .eq 18, 3) := by decide +kernel
theorem dX12_as_34 : decode cX12_as 34 = .ok (.iload_n 3, 1) := by decide +kernel
theorem dX12_as_35 : decode cX12_as 35 = .ok (.iload_n 2, 1) := by decide +kernel
theorem dX12_as_36 : decode cX12_as 36 = .ok (.if_icmp .eq 13, 3) := by decide +kernel
theorem dX12_as_39 : decode cX12_as 39 = .ok (.iload_n 2, 1) := by decide +kernel
theorem dX12_as_40 : decode cX12_as 40 = .ok (.iconst 1, 1) := by decide +kernel
theorem dX12_as_41 : decode cX12_as 41 = .ok (.if_icmp .ne 12, 3) := by decide +kernel
theorem dX12_as_44 : decode cX12_as 44 = .ok (.iload_n 3, 1) := by decide +kernel
theorem dX12_as_45 : decode cX12_as 45 = .ok (.iconst 4, 1) := by decide +kernel
theorem dX12_as_46 : decode cX12_as 46 = .ok (.if_icmp .ne 7, 3) := by decide +kernel
theorem dX12_as_49 : decode cX12_as 49 = .ok (.iload_n 1, 1) := by decide +kernel
theorem dX12_as_50 : decode cX12_as 50 = .ok (.goto 4, 3) := by decide +kernel
theorem dX12_as_53 : decode cX12_as 53 = .ok (.iconst (-1), 1) := by decide +kernel
theorem dX12_as_54 : decode cX12_as 54 = .ok (.ireturn, 1) := by decide +kernel
theorem dX12_crimeNow_0 : decode cX12_crimeNow 0 = .ok (.iload_n 2, 1) := by decide +kernel
theorem dX12_crimeNow_1 : decode cX12_crimeNow 1 = .ok (.tableswitch 68 0 4 #[35, 42, 49, 56, 62], 35) := by decide +kernel
theorem dX12_crimeNow_36 : decode cX12_crimeNow 36 = .ok (.aload_n 0, 1) := by decide +kernel
theorem dX12_crimeNow_37 : decode cX12_crimeNow 37 = .ok (.getfield 19, 3) := by decide +kernel
theorem dX12_crimeNow_40 : decode cX12_crimeNow 40 = .ok (.iload_n 1, 1) := by decide +kernel
theorem dX12_crimeNow_41 : decode cX12_crimeNow 41 = .ok (.iaload, 1) := by decide +kernel
theorem dX12_crimeNow_42 : decode cX12_crimeNow 42 = .ok (.ireturn, 1) := by decide +kernel
theorem dX12_crimeNow_43 : decode cX12_crimeNow 43 = .ok (.aload_n 0, 1) := by decide +kernel
theorem dX12_crimeNow_44 : decode cX12_crimeNow 44 = .ok (.getfield 22, 3) := by decide +kernel
theorem dX12_crimeNow_47 : decode cX12_crimeNow 47 = .ok (.iload_n 1, 1) := by decide +kernel
theorem dX12_crimeNow_48 : decode cX12_crimeNow 48 = .ok (.iaload, 1) := by decide +kernel
theorem dX12_crimeNow_49 : decode cX12_crimeNow 49 = .ok (.ireturn, 1) := by decide +kernel
theorem dX12_crimeNow_50 : decode cX12_crimeNow 50 = .ok (.aload_n 0, 1) := by decide +kernel
theorem dX12_crimeNow_51 : decode cX12_crimeNow 51 = .ok (.getfield 25, 3) := by decide +kernel
theorem dX12_crimeNow_54 : decode cX12_crimeNow 54 = .ok (.iload_n 1, 1) := by decide +kernel
theorem dX12_crimeNow_55 : decode cX12_crimeNow 55 = .ok (.iaload, 1) := by decide +kernel
theorem dX12_crimeNow_56 : decode cX12_crimeNow 56 = .ok (.ireturn, 1) := by decide +kernel
theorem dX12_crimeNow_57 : decode cX12_crimeNow 57 = .ok (.aload_n 0, 1) := by decide +kernel
theorem dX12_crimeNow_58 : decode cX12_crimeNow 58 = .ok (.iload_n 1, 1) := by decide +kernel
theorem dX12_crimeNow_59 : decode cX12_crimeNow 59 = .ok (.invokevirtual 161, 3) := by decide +kernel
theorem dX12_crimeNow_62 : decode cX12_crimeNow 62 = .ok (.ireturn, 1) := by decide +kernel
theorem dX12_crimeNow_63 : decode cX12_crimeNow 63 = .ok (.aload_n 0, 1) := by decide +kernel
theorem dX12_crimeNow_64 : decode cX12_crimeNow 64 = .ok (.iload_n 1, 1) := by decide +kernel
theorem dX12_crimeNow_65 : decode cX12_crimeNow 65 = .ok (.invokevirtual 164, 3) := by decide +kernel
theorem dX12_crimeNow_68 : decode cX12_crimeNow 68 = .ok (.ireturn, 1) := by decide +kernel
theorem dX12_crimeNow_69 : decode cX12_crimeNow 69 = .ok (.aload_n 0, 1) := by decide +kernel
theorem dX12_crimeNow_70 : decode cX12_crimeNow 70 = .ok (.iload_n 1, 1) := by decide +kernel
theorem dX12_crimeNow_71 : decode cX12_crimeNow 71 = .ok (.invokevirtual 167, 3) := by decide +kernel
theorem dX12_crimeNow_74 : decode cX12_crimeNow 74 = .ok (.ireturn, 1) := by decide +kernel
theorem dX12_crime_0 : decode cX12_crime 0 = .ok (.aload_n 0, 1) := by decide +kernel
theorem dX12_crime_1 : decode cX12_crime 1 = .ok (.iload_n 1, 1) := by decide +kernel
theorem dX12_crime_2 : decode cX12_crime 2 = .ok (.invokevirtual 170, 3) := by decide +kernel
theorem dX12_crime_5 : decode cX12_crime 5 = .ok (.ifCond .ne 8, 3) := by decide +kernel
theorem dX12_crime_8 : decode cX12_crime 8 = .ok (.bipush (-101), 2) := by decide +kernel
theorem dX12_crime_10 : decode cX12_crime 10 = .ok (.goto 23, 3) := by decide +kernel
theorem dX12_crime_13 : decode cX12_crime 13 = .ok (.iload_n 2, 1) := by decide +kernel
theorem dX12_crime_14 : decode cX12_crime 14 = .ok (.iconst 0, 1) := by decide +kernel
theorem dX12_crime_15 : decode cX12_crime 15 = .ok (.iconst 5, 1) := by decide +kernel
theorem dX12_crime_16 : decode cX12_crime 16 = .ok (.invokestatic 71, 3) := by decide +kernel
theorem dX12_crime_19 : decode cX12_crime 19 = .ok (.ifCond .eq 12, 3) := by decide +kernel
theorem dX12_crime_22 : decode cX12_crime 22 = .ok (.aload_n 0, 1) := by decide +kernel
theorem dX12_crime_23 : decode cX12_crime 23 = .ok (.iload_n 1, 1) := by decide +kernel
theorem dX12_crime_24 : decode cX12_crime 24 = .ok (.iload_n 2, 1) := by decide +kernel
theorem dX12_crime_25 : decode cX12_crime 25 = .ok (.invokevirtual 173, 3) := by decide +kernel
theorem dX12_crime_28 : decode cX12_crime 28 = .ok (.goto 5, 3) := by decide +kernel
theorem dX12_crime_31 : decode cX12_crime 31 = .ok (.bipush (-102), 2) := by decide +kernel
theorem dX12_crime_33 : decode cX12_crime 33 = .ok (.ireturn, 1) := by decide +kernel
theorem dX12_isFree_0 : decode cX12_isFree 0 = .ok (.aload_n 0, 1) := by decide +kernel
theorem dX12_isFree_1 : decode cX12_isFree 1 = .ok (.getfield 7, 3) := by decide +kernel
theorem dX12_isFree_4 : decode cX12_isFree 4 = .ok (.iload_n 1, 1) := by decide +kernel
theorem dX12_isFree_5 : decode cX12_isFree 5 = .ok (.iaload, 1) := by decide +kernel
theorem dX12_isFree_6 : decode cX12_isFree 6 = .ok (.iconst 2, 1) := by decide +kernel
theorem dX12_isFree_7 : decode cX12_isFree 7 = .ok (.if_icmp .eq 17, 3) := by decide +kernel
theorem dX12_isFree_10 : decode cX12_isFree 10 = .ok (.aload_n 0, 1) := by decide +kernel
theorem dX12_isFree_11 : decode cX12_isFree 11 = .ok (.getfield 28, 3) := by decide +kernel
theorem dX12_isFree_14 : decode cX12_isFree 14 = .ok (.iload_n 1, 1) := by decide +kernel
theorem dX12_isFree_15 : decode cX12_isFree 15 = .ok (.iaload, 1) := by decide +kernel
theorem dX12_isFree_16 : decode cX12_isFree 16 = .ok (.iconst (-1), 1) := by decide +kernel
theorem dX12_isFree_17 : decode cX12_isFree 17 = .ok (.if_icmp .ne 7, 3) := by decide +kernel
theorem dX12_isFree_20 : decode cX12_isFree 20 = .ok (.iconst 1, 1) := by decide +kernel
theorem dX12_isFree_21 : decode cX12_isFree 21 = .ok (.goto 4, 3) := by decide +kernel
theorem dX12_isFree_24 : decode cX12_isFree 24 = .ok (.iconst 0, 1) := by decide +kernel
theorem dX12_isFree_25 : decode cX12_isFree 25 = .ok (.ireturn, 1) := by decide +kernel
theorem dX12_confess_0 : decode cX12_confess 0 = .ok (.aload_n 0, 1) := by decide +kernel
theorem dX12_confess_1 : decode cX12_confess 1 = .ok (.iload_n 1, 1) := by decide +kernel
theorem dX12_confess_2 : decode cX12_confess 2 = .ok (.invokevirtual 154, 3) := by decide +kernel
theorem dX12_confess_5 : decode cX12_confess 5 = .ok (.ifCond .eq 11, 3) := by decide +kernel
theorem dX12_confess_8 : decode cX12_confess 8 = .ok (.aload_n 0, 1) := by decide +kernel
theorem dX12_confess_9 : decode cX12_confess 9 = .ok (.iload_n 2, 1) := by decide +kernel
theorem dX12_confess_10 : decode cX12_confess 10 = .ok (.invokevirtual 170, 3) := by decide +kernel
theorem dX12_confess_13 : decode cX12_confess 13 = .ok (.ifCond .ne 6, 3) := by decide +kernel
theorem dX12_confess_16 : decode cX12_confess 16 = .ok (.bipush (-101), 2) := by decide +kernel
theorem dX12_confess_18 : decode cX12_confess 18 = .ok (.ireturn, 1) := by decide +kernel
theorem dX12_confess_19 : decode cX12_confess 19 = .ok (.aload_n 0, 1) := by decide +kernel
theorem dX12_confess_20 : decode cX12_confess 20 = .ok (.iload_n 1, 1) := by decide +kernel
theorem dX12_confess_21 : decode cX12_confess 21 = .ok (.iload_n 2, 1) := by decide +kernel
theorem dX12_confess_22 : decode cX12_confess 22 = .ok (.invokevirtual 139, 3) := by decide +kernel
theorem dX12_confess_25 : decode cX12_confess 25 = .ok (.ifCond .eq 20, 3) := by decide +kernel
theorem dX12_confess_28 : decode cX12_confess 28 = .ok (.aload_n 0, 1) := by decide +kernel
theorem dX12_confess_29 : decode cX12_confess 29 = .ok (.iload_n 2, 1) := by decide +kernel
theorem dX12_confess_30 : decode cX12_confess 30 = .ok (.invokevirtual 161, 3) := by decide +kernel
theorem dX12_confess_33 : decode cX12_confess 33 = .ok (.iconst (-1), 1) := by decide +kernel
theorem dX12_confess_34 : decode cX12_confess 34 = .ok (.if_icmp .ne 11, 3) := by decide +kernel
theorem dX12_confess_37 : decode cX12_confess 37 = .ok (.aload_n 0, 1) := by decide +kernel
theorem dX12_confess_38 : decode cX12_confess 38 = .ok (.iload_n 1, 1) := by decide +kernel
theorem dX12_confess_39 : decode cX12_confess 39 = .ok (.invokevirtual 176, 3) := by decide +kernel
theorem dX12_confess_42 : decode cX12_confess 42 = .ok (.ifCond .ne 6, 3) := by decide +kernel
theorem dX12_confess_45 : decode cX12_confess 45 = .ok (.bipush (-103), 2) := by decide +kernel
theorem dX12_confess_47 : decode cX12_confess 47 = .ok (.ireturn, 1) := by decide +kernel
theorem dX12_confess_48 : decode cX12_confess 48 = .ok (.aload_n 0, 1) := by decide +kernel
theorem dX12_confess_49 : decode cX12_confess 49 = .ok (.getfield 28, 3) := by decide +kernel
theorem dX12_confess_52 : decode cX12_confess 52 = .ok (.iload_n 1, 1) := by decide +kernel
theorem dX12_confess_53 : decode cX12_confess 53 = .ok (.iload_n 2, 1) := by decide +kernel
theorem dX12_confess_54 : decode cX12_confess 54 = .ok (.iastore, 1) := by decide +kernel
theorem dX12_confess_55 : decode cX12_confess 55 = .ok (.aload_n 0, 1) := by decide +kernel
theorem dX12_confess_56 : decode cX12_confess 56 = .ok (.dup, 1) := by decide +kernel
theorem dX12_confess_57 : decode cX12_confess 57 = .ok (.getfield 118, 3) := by decide +kernel
theorem dX12_confess_60 : decode cX12_confess 60 = .ok (.iconst 1, 1) := by decide +kernel
theorem dX12_confess_61 : decode cX12_confess 61 = .ok (.iadd, 1) := by decide +kernel
theorem dX12_confess_62 : decode cX12_confess 62 = .ok (.putfield 118, 3) := by decide +kernel
theorem dX12_confess_65 : decode cX12_confess 65 = .ok (.aload_n 0, 1) := by decide +kernel
theorem dX12_confess_66 : decode cX12_confess 66 = .ok (.getfield 25, 3) := by decide +kernel
theorem dX12_confess_69 : decode cX12_confess 69 = .ok (.iload_n 2, 1) := by decide +kernel
theorem dX12_confess_70 : decode cX12_confess 70 = .ok (.iaload, 1) := by decide +kernel
theorem dX12_confess_71 : decode cX12_confess 71 = .ok (.ireturn, 1) := by decide +kernel
theorem dX12_recant_0 : decode cX12_recant 0 = .ok (.aload_n 0, 1) := by decide +kernel
theorem dX12_recant_1 : decode cX12_recant 1 = .ok (.iload_n 1, 1) := by decide +kernel
theorem dX12_recant_2 : decode cX12_recant 2 = .ok (.invokevirtual 154, 3) := by decide +kernel
theorem dX12_recant_5 : decode cX12_recant 5 = .ok (.ifCond .ne 6, 3) := by decide +kernel
theorem dX12_recant_8 : decode cX12_recant 8 = .ok (.bipush (-101), 2) := by decide +kernel
theorem dX12_recant_10 : decode cX12_recant 10 = .ok (.ireturn, 1) := by decide +kernel
theorem dX12_recant_11 : decode cX12_recant 11 = .ok (.aload_n 0, 1) := by decide +kernel
theorem dX12_recant_12 : decode cX12_recant 12 = .ok (.getfield 28, 3) := by decide +kernel
theorem dX12_recant_15 : decode cX12_recant 15 = .ok (.iload_n 1, 1) := by decide +kernel
theorem dX12_recant_16 : decode cX12_recant 16 = .ok (.iaload, 1) := by decide +kernel
theorem dX12_recant_17 : decode cX12_recant 17 = .ok (.iconst (-1), 1) := by decide +kernel
theorem dX12_recant_18 : decode cX12_recant 18 = .ok (.if_icmp .ne 6, 3) := by decide +kernel
theorem dX12_recant_21 : decode cX12_recant 21 = .ok (.bipush (-103), 2) := by decide +kernel
theorem dX12_recant_23 : decode cX12_recant 23 = .ok (.ireturn, 1) := by decide +kernel
theorem dX12_recant_24 : decode cX12_recant 24 = .ok (.aload_n 0, 1) := by decide +kernel
theorem dX12_recant_25 : decode cX12_recant 25 = .ok (.getfield 28, 3) := by decide +kernel
theorem dX12_recant_28 : decode cX12_recant 28 = .ok (.iload_n 1, 1) := by decide +kernel
theorem dX12_recant_29 : decode cX12_recant 29 = .ok (.iaload, 1) := by decide +kernel
theorem dX12_recant_30 : decode cX12_recant 30 = .ok (.istore_n 2, 1) := by decide +kernel
theorem dX12_recant_31 : decode cX12_recant 31 = .ok (.aload_n 0, 1) := by decide +kernel
theorem dX12_recant_32 : decode cX12_recant 32 = .ok (.getfield 28, 3) := by decide +kernel
theorem dX12_recant_35 : decode cX12_recant 35 = .ok (.iload_n 1, 1) := by decide +kernel
theorem dX12_recant_36 : decode cX12_recant 36 = .ok (.iconst (-1), 1) := by decide +kernel
theorem dX12_recant_37 : decode cX12_recant 37 = .ok (.iastore, 1) := by decide +kernel
theorem dX12_recant_38 : decode cX12_recant 38 = .ok (.iload_n 2, 1) := by decide +kernel
theorem dX12_recant_39 : decode cX12_recant 39 = .ok (.ireturn, 1) := by decide +kernel
theorem dX12_alter_0 : decode cX12_alter 0 = .ok (.aload_n 0, 1) := by decide +kernel
theorem dX12_alter_1 : decode cX12_alter 1 = .ok (.iload_n 1, 1) := by decide +kernel
theorem dX12_alter_2 : decode cX12_alter 2 = .ok (.invokevirtual 170, 3) := by decide +kernel
theorem dX12_alter_5 : decode cX12_alter 5 = .ok (.ifCond .ne 6, 3) := by decide +kernel
theorem dX12_alter_8 : decode cX12_alter 8 = .ok (.bipush (-101), 2) := by decide +kernel
theorem dX12_alter_10 : decode cX12_alter 10 = .ok (.ireturn, 1) := by decide +kernel
theorem dX12_alter_11 : decode cX12_alter 11 = .ok (.aload_n 0, 1) := by decide +kernel
theorem dX12_alter_12 : decode cX12_alter 12 = .ok (.getfield 19, 3) := by decide +kernel
theorem dX12_alter_15 : decode cX12_alter 15 = .ok (.iload_n 1, 1) := by decide +kernel
theorem dX12_alter_16 : decode cX12_alter 16 = .ok (.iaload, 1) := by decide +kernel
theorem dX12_alter_17 : decode cX12_alter 17 = .ok (.iload_n 2, 1) := by decide +kernel
theorem dX12_alter_18 : decode cX12_alter 18 = .ok (.ifCond .eq 7, 3) := by decide +kernel
theorem dX12_alter_21 : decode cX12_alter 21 = .ok (.iconst 1, 1) := by decide +kernel
theorem dX12_alter_22 : decode cX12_alter 22 = .ok (.goto 4, 3) := by decide +kernel
theorem dX12_alter_25 : decode cX12_alter 25 = .ok (.iconst (-1), 1) := by decide +kernel
theorem dX12_alter_26 : decode cX12_alter 26 = .ok (.iadd, 1) := by decide +kernel
theorem dX12_alter_27 : decode cX12_alter 27 = .ok (.istore_n 3, 1) := by decide +kernel
theorem dX12_alter_28 : decode cX12_alter 28 = .ok (.aload_n 0, 1) := by decide +kernel
theorem dX12_alter_29 : decode cX12_alter 29 = .ok (.iload_n 1, 1) := by decide +kernel
theorem dX12_alter_30 : decode cX12_alter 30 = .ok (.invokevirtual 161, 3) := by decide +kernel
theorem dX12_alter_33 : decode cX12_alter 33 = .ok (.iconst (-1), 1) := by decide +kernel
theorem dX12_alter_34 : decode cX12_alter 34 = .ok (.if_icmp .ne 13, 3) := by decide +kernel
theorem dX12_alter_37 : decode cX12_alter 37 = .ok (.iload_n 3, 1) := by decide +kernel
theorem dX12_alter_38 : decode cX12_alter 38 = .ok (.iconst 1, 1) := by decide +kernel
theorem dX12_alter_39 : decode cX12_alter 39 = .ok (.bipush 9, 2) := by decide +kernel
theorem dX12_alter_41 : decode cX12_alter 41 = .ok (.invokestatic 71, 3) := by decide +kernel
theorem dX12_alter_44 : decode cX12_alter 44 = .ok (.ifCond .ne 6, 3) := by decide +kernel
theorem dX12_alter_47 : decode cX12_alter 47 = .ok (.bipush (-103), 2) := by decide +kernel
theorem dX12_alter_49 : decode cX12_alter 49 = .ok (.ireturn, 1) := by decide +kernel
theorem dX12_alter_50 : decode cX12_alter 50 = .ok (.aload_n 0, 1) := by decide +kernel
theorem dX12_alter_51 : decode cX12_alter 51 = .ok (.getfield 19, 3) := by decide +kernel
theorem dX12_alter_54 : decode cX12_alter 54 = .ok (.iload_n 1, 1) := by decide +kernel
theorem dX12_alter_55 : decode cX12_alter 55 = .ok (.iload_n 3, 1) := by decide +kernel
theorem dX12_alter_56 : decode cX12_alter 56 = .ok (.iastore, 1) := by decide +kernel
theorem dX12_alter_57 : decode cX12_alter 57 = .ok (.aload_n 0, 1) := by decide +kernel
theorem dX12_alter_58 : decode cX12_alter 58 = .ok (.dup, 1) := by decide +kernel
theorem dX12_alter_59 : decode cX12_alter 59 = .ok (.getfield 115, 3) := by decide +kernel
theorem dX12_alter_62 : decode cX12_alter 62 = .ok (.iconst 1, 1) := by decide +kernel
theorem dX12_alter_63 : decode cX12_alter 63 = .ok (.iadd, 1) := by decide +kernel
theorem dX12_alter_64 : decode cX12_alter 64 = .ok (.putfield 115, 3) := by decide +kernel
theorem dX12_alter_67 : decode cX12_alter 67 = .ok (.iload_n 3, 1) := by decide +kernel
theorem dX12_alter_68 : decode cX12_alter 68 = .ok (.ireturn, 1) := by decide +kernel
theorem dX12_hasBy_0 : decode cX12_hasBy 0 = .ok (.iload_n 1, 1) := by decide +kernel
theorem dX12_hasBy_1 : decode cX12_hasBy 1 = .ok (.istore_n 3, 1) := by decide +kernel
theorem dX12_hasBy_2 : decode cX12_hasBy 2 = .ok (.aload_n 0, 1) := by decide +kernel
theorem dX12_hasBy_3 : decode cX12_hasBy 3 = .ok (.getfield 106, 3) := by decide +kernel
theorem dX12_hasBy_6 : decode cX12_hasBy 6 = .ok (.iconst 1, 1) := by decide +kernel
theorem dX12_hasBy_7 : decode cX12_hasBy 7 = .ok (.isub, 1) := by decide +kernel
theorem dX12_hasBy_8 : decode cX12_hasBy 8 = .ok (.istore 4, 2) := by decide +kernel
theorem dX12_hasBy_10 : decode cX12_hasBy 10 = .ok (.iload 4, 2) := by decide +kernel
theorem dX12_hasBy_12 : decode cX12_hasBy 12 = .ok (.iload_n 2, 1) := by decide +kernel
theorem dX12_hasBy_13 : decode cX12_hasBy 13 = .ok (.if_icmp .le 13, 3) := by decide +kernel
theorem dX12_hasBy_16 : decode cX12_hasBy 16 = .ok (.iload_n 3, 1) := by decide +kernel
theorem dX12_hasBy_17 : decode cX12_hasBy 17 = .ok (.iconst 5, 1) := by decide +kernel
theorem dX12_hasBy_18 : decode cX12_hasBy 18 = .ok (.idiv, 1) := by decide +kernel
theorem dX12_hasBy_19 : decode cX12_hasBy 19 = .ok (.istore_n 3, 1) := by decide +kernel
theorem dX12_hasBy_20 : decode cX12_hasBy 20 = .ok (.iinc 4 (-1), 3) := by decide +kernel
theorem dX12_hasBy_23 : decode cX12_hasBy 23 = .ok (.goto (-13), 3) := by decide +kernel
theorem dX12_hasBy_26 : decode cX12_hasBy 26 = .ok (.iload_n 3, 1) := by decide +kernel
theorem dX12_hasBy_27 : decode cX12_hasBy 27 = .ok (.iconst 5, 1) := by decide +kernel
theorem dX12_hasBy_28 : decode cX12_hasBy 28 = .ok (.irem, 1) := by decide +kernel
theorem dX12_hasBy_29 : decode cX12_hasBy 29 = .ok (.iconst 1, 1) := by decide +kernel
theorem dX12_hasBy_30 : decode cX12_hasBy 30 = .ok (.isub, 1) := by decide +kernel
theorem dX12_hasBy_31 : decode cX12_hasBy 31 = .ok (.ireturn, 1) := by decide +kernel
theorem dX12_codes_0 : decode cX12_codes 0 = .ok (.iconst 1, 1) := by decide +kernel
theorem dX12_codes_1 : decode cX12_codes 1 = .ok (.istore_n 1, 1) := by decide +kernel
theorem dX12_codes_2 : decode cX12_codes 2 = .ok (.iconst 0, 1) := by decide +kernel
theorem dX12_codes_3 : decode cX12_codes 3 = .ok (.istore_n 2, 1) := by decide +kernel
theorem dX12_codes_4 : decode cX12_codes 4 = .ok (.iload_n 2, 1) := by decide +kernel
theorem dX12_codes_5 : decode cX12_codes 5 = .ok (.aload_n 0, 1) := by decide +kernel
theorem dX12_codes_6 : decode cX12_codes 6 = .ok (.getfield 106, 3) := by decide +kernel
theorem dX12_codes_9 : decode cX12_codes 9 = .ok (.if_icmp .ge 13, 3) := by decide +kernel
theorem dX12_codes_12 : decode cX12_codes 12 = .ok (.iload_n 1, 1) := by decide +kernel
theorem dX12_codes_13 : decode cX12_codes 13 = .ok (.iconst 5, 1) := by decide +kernel
theorem dX12_codes_14 : decode cX12_codes 14 = .ok (.imul, 1) := by decide +kernel
theorem dX12_codes_15 : decode cX12_codes 15 = .ok (.istore_n 1, 1) := by decide +kernel
theorem dX12_codes_16 : decode cX12_codes 16 = .ok (.iinc 2 1, 3) := by decide +kernel
theorem dX12_codes_19 : decode cX12_codes 19 = .ok (.goto (-15), 3) := by decide +kernel
theorem dX12_codes_22 : decode cX12_codes 22 = .ok (.iload_n 1, 1) := by decide +kernel
theorem dX12_codes_23 : decode cX12_codes 23 = .ok (.ireturn, 1) := by decide +kernel
theorem dX12_isMatch_0 : decode cX12_isMatch 0 = .ok (.aload_n 0, 1) := by decide +kernel
theorem dX12_isMatch_1 : decode cX12_isMatch 1 = .ok (.iconst 0, 1) := by decide +kernel
theorem dX12_isMatch_2 : decode cX12_isMatch 2 = .ok (.putfield 179, 3) := by decide +kernel
theorem dX12_isMatch_5 : decode cX12_isMatch 5 = .ok (.aload_n 0, 1) := by decide +kernel
theorem dX12_isMatch_6 : decode cX12_isMatch 6 = .ok (.iconst 0, 1) := by decide +kernel
theorem dX12_isMatch_7 : decode cX12_isMatch 7 = .ok (.putfield 182, 3) := by decide +kernel
theorem dX12_isMatch_10 : decode cX12_isMatch 10 = .ok (.iconst 0, 1) := by decide +kernel
theorem dX12_isMatch_11 : decode cX12_isMatch 11 = .ok (.istore_n 2, 1) := by decide +kernel
theorem dX12_isMatch_12 : decode cX12_isMatch 12 = .ok (.iconst 1, 1) := by decide +kernel
theorem dX12_isMatch_13 : decode cX12_isMatch 13 = .ok (.istore_n 3, 1) := by decide +kernel
theorem dX12_isMatch_14 : decode cX12_isMatch 14 = .ok (.iconst 0, 1) := by decide +kernel
theorem dX12_isMatch_15 : decode cX12_isMatch 15 = .ok (.istore 4, 2) := by decide +kernel
theorem dX12_isMatch_17 : decode cX12_isMatch 17 = .ok (.iload 4, 2) := by decide +kernel
theorem dX12_isMatch_19 : decode cX12_isMatch 19 = .ok (.aload_n 0, 1) := by decide +kernel
theorem dX12_isMatch_20 : decode cX12_isMatch 20 = .ok (.getfield 106, 3) := by decide +kernel
theorem dX12_isMatch_23 : decode cX12_isMatch 23 = .ok (.if_icmp .ge 123, 3) := by decide +kernel
theorem dX12_isMatch_26 : decode cX12_isMatch 26 = .ok (.iload_n 3, 1) := by decide +kernel
theorem dX12_isMatch_27 : decode cX12_isMatch 27 = .ok (.ifCond .eq 119, 3) := by decide +kernel
theorem dX12_isMatch_30 : decode cX12_isMatch 30 = .ok (.aload_n 0, 1) := by decide +kernel
theorem dX12_isMatch_31 : decode cX12_isMatch 31 = .ok (.iload_n 1, 1) := by decide +kernel
theorem dX12_isMatch_32 : decode cX12_isMatch 32 = .ok (.iload 4, 2) := by decide +kernel
theorem dX12_isMatch_34 : decode cX12_isMatch 34 = .ok (.invokevirtual 185, 3) := by decide +kernel
theorem dX12_isMatch_37 : decode cX12_isMatch 37 = .ok (.istore 5, 2) := by decide +kernel
theorem dX12_isMatch_39 : decode cX12_isMatch 39 = .ok (.iload 5, 2) := by decide +kernel
theorem dX12_isMatch_41 : decode cX12_isMatch 41 = .ok (.iconst (-1), 1) := by decide +kernel
theorem dX12_isMatch_42 : decode cX12_isMatch 42 = .ok (.if_icmp .eq 98, 3) := by decide +kernel
theorem dX12_isMatch_45 : decode cX12_isMatch 45 = .ok (.aload_n 0, 1) := by decide +kernel
theorem dX12_isMatch_46 : decode cX12_isMatch 46 = .ok (.iload 5, 2) := by decide +kernel
theorem dX12_isMatch_48 : decode cX12_isMatch 48 = .ok (.invokevirtual 170, 3) := by decide +kernel
theorem dX12_isMatch_51 : decode cX12_isMatch 51 = .ok (.ifCond .eq 46, 3) := by decide +kernel
theorem dX12_isMatch_54 : decode cX12_isMatch 54 = .ok (.iload_n 2, 1) := by decide +kernel
theorem dX12_isMatch_55 : decode cX12_isMatch 55 = .ok (.iload 5, 2) := by decide +kernel
theorem dX12_isMatch_57 : decode cX12_isMatch 57 = .ok (.invokestatic 188, 3) := by decide +kernel
theorem dX12_isMatch_60 : decode cX12_isMatch 60 = .ok (.ifCond .ne 37, 3) := by decide +kernel
theorem dX12_isMatch_63 : decode cX12_isMatch 63 = .ok (.aload_n 0, 1) := by decide +kernel
theorem dX12_isMatch_64 : decode cX12_isMatch 64 = .ok (.iload 4, 2) := by decide +kernel
theorem dX12_isMatch_66 : decode cX12_isMatch 66 = .ok (.invokevirtual 176, 3) := by decide +kernel
theorem dX12_isMatch_69 : decode cX12_isMatch 69 = .ok (.ifCond .eq 28, 3) := by decide +kernel
theorem dX12_isMatch_72 : decode cX12_isMatch 72 = .ok (.aload_n 0, 1) := by decide +kernel
theorem dX12_isMatch_73 : decode cX12_isMatch 73 = .ok (.iload 4, 2) := by decide +kernel
theorem dX12_isMatch_75 : decode cX12_isMatch 75 = .ok (.iload 5, 2) := by decide +kernel
theorem dX12_isMatch_77 : decode cX12_isMatch 77 = .ok (.invokevirtual 139, 3) := by decide +kernel
theorem dX12_isMatch_80 : decode cX12_isMatch 80 = .ok (.ifCond .eq 17, 3) := by decide +kernel
theorem dX12_isMatch_83 : decode cX12_isMatch 83 = .ok (.aload_n 0, 1) := by decide +kernel
theorem dX12_isMatch_84 : decode cX12_isMatch 84 = .ok (.iload 5, 2) := by decide +kernel
theorem dX12_isMatch_86 : decode cX12_isMatch 86 = .ok (.invokevirtual 161, 3) := by decide +kernel
theorem dX12_isMatch_89 : decode cX12_isMatch 89 = .ok (.iconst (-1), 1) := by decide +kernel
theorem dX12_isMatch_90 : decode cX12_isMatch 90 = .ok (.if_icmp .ne 7, 3) := by decide +kernel
theorem dX12_isMatch_93 : decode cX12_isMatch 93 = .ok (.iconst 1, 1) := by decide +kernel
theorem dX12_isMatch_94 : decode cX12_isMatch 94 = .ok (.goto 4, 3) := by decide +kernel
theorem dX12_isMatch_97 : decode cX12_isMatch 97 = .ok (.iconst 0, 1) := by decide +kernel
theorem dX12_isMatch_98 : decode cX12_isMatch 98 = .ok (.istore_n 3, 1) := by decide +kernel
theorem dX12_isMatch_99 : decode cX12_isMatch 99 = .ok (.iload_n 2, 1) := by decide +kernel
