theorem dX12_isMatch_100 : decode cX12_isMatch 100 = .ok (.iconst 1, 1) := by decide +kernel
theorem dX12_isMatch_101 : decode cX12_isMatch 101 = .ok (.iload 5, 2) := by decide +kernel
theorem dX12_isMatch_103 : decode cX12_isMatch 103 = .ok (.ishl, 1) := by decide +kernel
theorem dX12_isMatch_104 : decode cX12_isMatch 104 = .ok (.ior, 1) := by decide +kernel
theorem dX12_isMatch_105 : decode cX12_isMatch 105 = .ok (.istore_n 2, 1) := by decide +kernel
theorem dX12_isMatch_106 : decode cX12_isMatch 106 = .ok (.aload_n 0, 1) := by decide +kernel
theorem dX12_isMatch_107 : decode cX12_isMatch 107 = .ok (.dup, 1) := by decide +kernel
theorem dX12_isMatch_108 : decode cX12_isMatch 108 = .ok (.getfield 179, 3) := by decide +kernel
theorem dX12_isMatch_111 : decode cX12_isMatch 111 = .ok (.iconst 1, 1) := by decide +kernel
theorem dX12_isMatch_112 : decode cX12_isMatch 112 = .ok (.iadd, 1) := by decide +kernel
theorem dX12_isMatch_113 : decode cX12_isMatch 113 = .ok (.putfield 179, 3) := by decide +kernel
theorem dX12_isMatch_116 : decode cX12_isMatch 116 = .ok (.aload_n 0, 1) := by decide +kernel
theorem dX12_isMatch_117 : decode cX12_isMatch 117 = .ok (.dup, 1) := by decide +kernel
theorem dX12_isMatch_118 : decode cX12_isMatch 118 = .ok (.getfield 182, 3) := by decide +kernel
theorem dX12_isMatch_121 : decode cX12_isMatch 121 = .ok (.iload_n 3, 1) := by decide +kernel
theorem dX12_isMatch_122 : decode cX12_isMatch 122 = .ok (.ifCond .eq 13, 3) := by decide +kernel
theorem dX12_isMatch_125 : decode cX12_isMatch 125 = .ok (.aload_n 0, 1) := by decide +kernel
theorem dX12_isMatch_126 : decode cX12_isMatch 126 = .ok (.getfield 25, 3) := by decide +kernel
theorem dX12_isMatch_129 : decode cX12_isMatch 129 = .ok (.iload 5, 2) := by decide +kernel
theorem dX12_isMatch_131 : decode cX12_isMatch 131 = .ok (.iaload, 1) := by decide +kernel
theorem dX12_isMatch_132 : decode cX12_isMatch 132 = .ok (.goto 4, 3) := by decide +kernel
theorem dX12_isMatch_135 : decode cX12_isMatch 135 = .ok (.iconst 0, 1) := by decide +kernel
theorem dX12_isMatch_136 : decode cX12_isMatch 136 = .ok (.iadd, 1) := by decide +kernel
theorem dX12_isMatch_137 : decode cX12_isMatch 137 = .ok (.putfield 182, 3) := by decide +kernel
theorem dX12_isMatch_140 : decode cX12_isMatch 140 = .ok (.iinc 4 1, 3) := by decide +kernel
theorem dX12_isMatch_143 : decode cX12_isMatch 143 = .ok (.goto (-126), 3) := by decide +kernel
theorem dX12_isMatch_146 : decode cX12_isMatch 146 = .ok (.iload_n 3, 1) := by decide +kernel
theorem dX12_isMatch_147 : decode cX12_isMatch 147 = .ok (.ireturn, 1) := by decide +kernel
theorem dX12_matchNow_0 : decode cX12_matchNow 0 = .ok (.iconst 0, 1) := by decide +kernel
theorem dX12_matchNow_1 : decode cX12_matchNow 1 = .ok (.istore_n 2, 1) := by decide +kernel
theorem dX12_matchNow_2 : decode cX12_matchNow 2 = .ok (.iconst 0, 1) := by decide +kernel
theorem dX12_matchNow_3 : decode cX12_matchNow 3 = .ok (.istore_n 3, 1) := by decide +kernel
theorem dX12_matchNow_4 : decode cX12_matchNow 4 = .ok (.iconst 0, 1) := by decide +kernel
theorem dX12_matchNow_5 : decode cX12_matchNow 5 = .ok (.istore 4, 2) := by decide +kernel
theorem dX12_matchNow_7 : decode cX12_matchNow 7 = .ok (.iconst 0, 1) := by decide +kernel
theorem dX12_matchNow_8 : decode cX12_matchNow 8 = .ok (.istore 5, 2) := by decide +kernel
theorem dX12_matchNow_10 : decode cX12_matchNow 10 = .ok (.iload 5, 2) := by decide +kernel
theorem dX12_matchNow_12 : decode cX12_matchNow 12 = .ok (.aload_n 0, 1) := by decide +kernel
theorem dX12_matchNow_13 : decode cX12_matchNow 13 = .ok (.invokevirtual 191, 3) := by decide +kernel
theorem dX12_matchNow_16 : decode cX12_matchNow 16 = .ok (.if_icmp .ge 92, 3) := by decide +kernel
theorem dX12_matchNow_19 : decode cX12_matchNow 19 = .ok (.aload_n 0, 1) := by decide +kernel
theorem dX12_matchNow_20 : decode cX12_matchNow 20 = .ok (.iload 5, 2) := by decide +kernel
theorem dX12_matchNow_22 : decode cX12_matchNow 22 = .ok (.invokevirtual 194, 3) := by decide +kernel
theorem dX12_matchNow_25 : decode cX12_matchNow 25 = .ok (.ifCond .eq 32, 3) := by decide +kernel
theorem dX12_matchNow_28 : decode cX12_matchNow 28 = .ok (.aload_n 0, 1) := by decide +kernel
theorem dX12_matchNow_29 : decode cX12_matchNow 29 = .ok (.getfield 179, 3) := by decide +kernel
theorem dX12_matchNow_32 : decode cX12_matchNow 32 = .ok (.iload_n 3, 1) := by decide +kernel
theorem dX12_matchNow_33 : decode cX12_matchNow 33 = .ok (.if_icmp .gt 20, 3) := by decide +kernel
theorem dX12_matchNow_36 : decode cX12_matchNow 36 = .ok (.aload_n 0, 1) := by decide +kernel
theorem dX12_matchNow_37 : decode cX12_matchNow 37 = .ok (.getfield 179, 3) := by decide +kernel
theorem dX12_matchNow_40 : decode cX12_matchNow 40 = .ok (.iload_n 3, 1) := by decide +kernel
theorem dX12_matchNow_41 : decode cX12_matchNow 41 = .ok (.if_icmp .ne 16, 3) := by decide +kernel
theorem dX12_matchNow_44 : decode cX12_matchNow 44 = .ok (.aload_n 0, 1) := by decide +kernel
theorem dX12_matchNow_45 : decode cX12_matchNow 45 = .ok (.getfield 182, 3) := by decide +kernel
theorem dX12_matchNow_48 : decode cX12_matchNow 48 = .ok (.iload 4, 2) := by decide +kernel
theorem dX12_matchNow_50 : decode cX12_matchNow 50 = .ok (.if_icmp .le 7, 3) := by decide +kernel
theorem dX12_matchNow_53 : decode cX12_matchNow 53 = .ok (.iconst 1, 1) := by decide +kernel
theorem dX12_matchNow_54 : decode cX12_matchNow 54 = .ok (.goto 4, 3) := by decide +kernel
theorem dX12_matchNow_57 : decode cX12_matchNow 57 = .ok (.iconst 0, 1) := by decide +kernel
theorem dX12_matchNow_58 : decode cX12_matchNow 58 = .ok (.istore 6, 2) := by decide +kernel
theorem dX12_matchNow_60 : decode cX12_matchNow 60 = .ok (.iload 6, 2) := by decide +kernel
theorem dX12_matchNow_62 : decode cX12_matchNow 62 = .ok (.ifCond .eq 8, 3) := by decide +kernel
theorem dX12_matchNow_65 : decode cX12_matchNow 65 = .ok (.iload 5, 2) := by decide +kernel
theorem dX12_matchNow_67 : decode cX12_matchNow 67 = .ok (.goto 4, 3) := by decide +kernel
theorem dX12_matchNow_70 : decode cX12_matchNow 70 = .ok (.iload_n 2, 1) := by decide +kernel
theorem dX12_matchNow_71 : decode cX12_matchNow 71 = .ok (.istore_n 2, 1) := by decide +kernel
theorem dX12_matchNow_72 : decode cX12_matchNow 72 = .ok (.iload 6, 2) := by decide +kernel
theorem dX12_matchNow_74 : decode cX12_matchNow 74 = .ok (.ifCond .eq 10, 3) := by decide +kernel
theorem dX12_matchNow_77 : decode cX12_matchNow 77 = .ok (.aload_n 0, 1) := by decide +kernel
theorem dX12_matchNow_78 : decode cX12_matchNow 78 = .ok (.getfield 179, 3) := by decide +kernel
theorem dX12_matchNow_81 : decode cX12_matchNow 81 = .ok (.goto 4, 3) := by decide +kernel
theorem dX12_matchNow_84 : decode cX12_matchNow 84 = .ok (.iload_n 3, 1) := by decide +kernel
theorem dX12_matchNow_85 : decode cX12_matchNow 85 = .ok (.istore_n 3, 1) := by decide +kernel
theorem dX12_matchNow_86 : decode cX12_matchNow 86 = .ok (.iload 6, 2) := by decide +kernel
theorem dX12_matchNow_88 : decode cX12_matchNow 88 = .ok (.ifCond .eq 10, 3) := by decide +kernel
theorem dX12_matchNow_91 : decode cX12_matchNow 91 = .ok (.aload_n 0, 1) := by decide +kernel
theorem dX12_matchNow_92 : decode cX12_matchNow 92 = .ok (.getfield 182, 3) := by decide +kernel
theorem dX12_matchNow_95 : decode cX12_matchNow 95 = .ok (.goto 5, 3) := by decide +kernel
theorem dX12_matchNow_98 : decode cX12_matchNow 98 = .ok (.iload 4, 2) := by decide +kernel
theorem dX12_matchNow_100 : decode cX12_matchNow 100 = .ok (.istore 4, 2) := by decide +kernel
theorem dX12_matchNow_102 : decode cX12_matchNow 102 = .ok (.iinc 5 1, 3) := by decide +kernel
theorem dX12_matchNow_105 : decode cX12_matchNow 105 = .ok (.goto (-95), 3) := by decide +kernel
theorem dX12_matchNow_108 : decode cX12_matchNow 108 = .ok (.iload_n 1, 1) := by decide +kernel
theorem dX12_matchNow_109 : decode cX12_matchNow 109 = .ok (.ifCond .ne 7, 3) := by decide +kernel
theorem dX12_matchNow_112 : decode cX12_matchNow 112 = .ok (.iload_n 3, 1) := by decide +kernel
theorem dX12_matchNow_113 : decode cX12_matchNow 113 = .ok (.goto 37, 3) := by decide +kernel
theorem dX12_matchNow_116 : decode cX12_matchNow 116 = .ok (.iload_n 1, 1) := by decide +kernel
theorem dX12_matchNow_117 : decode cX12_matchNow 117 = .ok (.iconst 1, 1) := by decide +kernel
theorem dX12_matchNow_118 : decode cX12_matchNow 118 = .ok (.if_icmp .ne 8, 3) := by decide +kernel
theorem dX12_matchNow_121 : decode cX12_matchNow 121 = .ok (.iload 4, 2) := by decide +kernel
theorem dX12_matchNow_123 : decode cX12_matchNow 123 = .ok (.goto 27, 3) := by decide +kernel
theorem dX12_matchNow_126 : decode cX12_matchNow 126 = .ok (.aload_n 0, 1) := by decide +kernel
theorem dX12_matchNow_127 : decode cX12_matchNow 127 = .ok (.iload_n 1, 1) := by decide +kernel
theorem dX12_matchNow_128 : decode cX12_matchNow 128 = .ok (.bipush 10, 2) := by decide +kernel
theorem dX12_matchNow_130 : decode cX12_matchNow 130 = .ok (.isub, 1) := by decide +kernel
theorem dX12_matchNow_131 : decode cX12_matchNow 131 = .ok (.invokevirtual 154, 3) := by decide +kernel
theorem dX12_matchNow_134 : decode cX12_matchNow 134 = .ok (.ifCond .eq 15, 3) := by decide +kernel
theorem dX12_matchNow_137 : decode cX12_matchNow 137 = .ok (.aload_n 0, 1) := by decide +kernel
theorem dX12_matchNow_138 : decode cX12_matchNow 138 = .ok (.iload_n 2, 1) := by decide +kernel
theorem dX12_matchNow_139 : decode cX12_matchNow 139 = .ok (.iload_n 1, 1) := by decide +kernel
theorem dX12_matchNow_140 : decode cX12_matchNow 140 = .ok (.bipush 10, 2) := by decide +kernel
theorem dX12_matchNow_142 : decode cX12_matchNow 142 = .ok (.isub, 1) := by decide +kernel
theorem dX12_matchNow_143 : decode cX12_matchNow 143 = .ok (.invokevirtual 185, 3) := by decide +kernel
theorem dX12_matchNow_146 : decode cX12_matchNow 146 = .ok (.goto 4, 3) := by decide +kernel
theorem dX12_matchNow_149 : decode cX12_matchNow 149 = .ok (.iconst (-1), 1) := by decide +kernel
theorem dX12_matchNow_150 : decode cX12_matchNow 150 = .ok (.ireturn, 1) := by decide +kernel
theorem dX12_match_0 : decode cX12_match 0 = .ok (.iload_n 1, 1) := by decide +kernel
theorem dX12_match_1 : decode cX12_match 1 = .ok (.iconst 0, 1) := by decide +kernel
theorem dX12_match_2 : decode cX12_match 2 = .ok (.iconst 1, 1) := by decide +kernel
theorem dX12_match_3 : decode cX12_match 3 = .ok (.invokestatic 71, 3) := by decide +kernel
theorem dX12_match_6 : decode cX12_match 6 = .ok (.ifCond .ne 17, 3) := by decide +kernel
theorem dX12_match_9 : decode cX12_match 9 = .ok (.iload_n 1, 1) := by decide +kernel
theorem dX12_match_10 : decode cX12_match 10 = .ok (.bipush 10, 2) := by decide +kernel
theorem dX12_match_12 : decode cX12_match 12 = .ok (.bipush 13, 2) := by decide +kernel
theorem dX12_match_14 : decode cX12_match 14 = .ok (.invokestatic 71, 3) := by decide +kernel
theorem dX12_match_17 : decode cX12_match 17 = .ok (.ifCond .ne 6, 3) := by decide +kernel
theorem dX12_match_20 : decode cX12_match 20 = .ok (.bipush (-102), 2) := by decide +kernel
theorem dX12_match_22 : decode cX12_match 22 = .ok (.ireturn, 1) := by decide +kernel
theorem dX12_match_23 : decode cX12_match 23 = .ok (.aload_n 0, 1) := by decide +kernel
theorem dX12_match_24 : decode cX12_match 24 = .ok (.getfield 106, 3) := by decide +kernel
theorem dX12_match_27 : decode cX12_match 27 = .ok (.ifCond .ne 8, 3) := by decide +kernel
theorem dX12_match_30 : decode cX12_match 30 = .ok (.bipush (-103), 2) := by decide +kernel
theorem dX12_match_32 : decode cX12_match 32 = .ok (.goto 8, 3) := by decide +kernel
theorem dX12_match_35 : decode cX12_match 35 = .ok (.aload_n 0, 1) := by decide +kernel
theorem dX12_match_36 : decode cX12_match 36 = .ok (.iload_n 1, 1) := by decide +kernel
theorem dX12_match_37 : decode cX12_match 37 = .ok (.invokevirtual 197, 3) := by decide +kernel
theorem dX12_match_40 : decode cX12_match 40 = .ok (.ireturn, 1) := by decide +kernel
theorem dX12_freeCrimes_0 : decode cX12_freeCrimes 0 = .ok (.iconst 0, 1) := by decide +kernel
theorem dX12_freeCrimes_1 : decode cX12_freeCrimes 1 = .ok (.istore_n 1, 1) := by decide +kernel
theorem dX12_freeCrimes_2 : decode cX12_freeCrimes 2 = .ok (.iconst 0, 1) := by decide +kernel
theorem dX12_freeCrimes_3 : decode cX12_freeCrimes 3 = .ok (.istore_n 2, 1) := by decide +kernel
theorem dX12_freeCrimes_4 : decode cX12_freeCrimes 4 = .ok (.iload_n 2, 1) := by decide +kernel
theorem dX12_freeCrimes_5 : decode cX12_freeCrimes 5 = .ok (.aload_n 0, 1) := by decide +kernel
theorem dX12_freeCrimes_6 : decode cX12_freeCrimes 6 = .ok (.getfield 109, 3) := by decide +kernel
theorem dX12_freeCrimes_9 : decode cX12_freeCrimes 9 = .ok (.if_icmp .ge 26, 3) := by decide +kernel
theorem dX12_freeCrimes_12 : decode cX12_freeCrimes 12 = .ok (.iload_n 1, 1) := by decide +kernel
theorem dX12_freeCrimes_13 : decode cX12_freeCrimes 13 = .ok (.aload_n 0, 1) := by decide +kernel
theorem dX12_freeCrimes_14 : decode cX12_freeCrimes 14 = .ok (.iload_n 2, 1) := by decide +kernel
theorem dX12_freeCrimes_15 : decode cX12_freeCrimes 15 = .ok (.invokevirtual 161, 3) := by decide +kernel
theorem dX12_freeCrimes_18 : decode cX12_freeCrimes 18 = .ok (.iconst (-1), 1) := by decide +kernel
theorem dX12_freeCrimes_19 : decode cX12_freeCrimes 19 = .ok (.if_icmp .ne 7, 3) := by decide +kernel
theorem dX12_freeCrimes_22 : decode cX12_freeCrimes 22 = .ok (.iconst 1, 1) := by decide +kernel
theorem dX12_freeCrimes_23 : decode cX12_freeCrimes 23 = .ok (.goto 4, 3) := by decide +kernel
theorem dX12_freeCrimes_26 : decode cX12_freeCrimes 26 = .ok (.iconst 0, 1) := by decide +kernel
theorem dX12_freeCrimes_27 : decode cX12_freeCrimes 27 = .ok (.iadd, 1) := by decide +kernel
theorem dX12_freeCrimes_28 : decode cX12_freeCrimes 28 = .ok (.istore_n 1, 1) := by decide +kernel
theorem dX12_freeCrimes_29 : decode cX12_freeCrimes 29 = .ok (.iinc 2 1, 3) := by decide +kernel
theorem dX12_freeCrimes_32 : decode cX12_freeCrimes 32 = .ok (.goto (-28), 3) := by decide +kernel
theorem dX12_freeCrimes_35 : decode cX12_freeCrimes 35 = .ok (.iload_n 1, 1) := by decide +kernel
theorem dX12_freeCrimes_36 : decode cX12_freeCrimes 36 = .ok (.ireturn, 1) := by decide +kernel
theorem dX12_alterBy_0 : decode cX12_alterBy 0 = .ok (.iload_n 1, 1) := by decide +kernel
theorem dX12_alterBy_1 : decode cX12_alterBy 1 = .ok (.istore_n 2, 1) := by decide +kernel
theorem dX12_alterBy_2 : decode cX12_alterBy 2 = .ok (.iconst 0, 1) := by decide +kernel
theorem dX12_alterBy_3 : decode cX12_alterBy 3 = .ok (.istore_n 3, 1) := by decide +kernel
theorem dX12_alterBy_4 : decode cX12_alterBy 4 = .ok (.iconst 1, 1) := by decide +kernel
theorem dX12_alterBy_5 : decode cX12_alterBy 5 = .ok (.istore 4, 2) := by decide +kernel
theorem dX12_alterBy_7 : decode cX12_alterBy 7 = .ok (.iconst 0, 1) := by decide +kernel
theorem dX12_alterBy_8 : decode cX12_alterBy 8 = .ok (.istore 5, 2) := by decide +kernel
theorem dX12_alterBy_10 : decode cX12_alterBy 10 = .ok (.iload 5, 2) := by decide +kernel
theorem dX12_alterBy_12 : decode cX12_alterBy 12 = .ok (.aload_n 0, 1) := by decide +kernel
theorem dX12_alterBy_13 : decode cX12_alterBy 13 = .ok (.getfield 109, 3) := by decide +kernel
theorem dX12_alterBy_16 : decode cX12_alterBy 16 = .ok (.if_icmp .ge 99, 3) := by decide +kernel
theorem dX12_alterBy_19 : decode cX12_alterBy 19 = .ok (.iload_n 2, 1) := by decide +kernel
theorem dX12_alterBy_20 : decode cX12_alterBy 20 = .ok (.iconst 5, 1) := by decide +kernel
theorem dX12_alterBy_21 : decode cX12_alterBy 21 = .ok (.irem, 1) := by decide +kernel
theorem dX12_alterBy_22 : decode cX12_alterBy 22 = .ok (.iconst 2, 1) := by decide +kernel
theorem dX12_alterBy_23 : decode cX12_alterBy 23 = .ok (.isub, 1) := by decide +kernel
theorem dX12_alterBy_24 : decode cX12_alterBy 24 = .ok (.istore 6, 2) := by decide +kernel
theorem dX12_alterBy_26 : decode cX12_alterBy 26 = .ok (.iload_n 2, 1) := by decide +kernel
theorem dX12_alterBy_27 : decode cX12_alterBy 27 = .ok (.iconst 5, 1) := by decide +kernel
theorem dX12_alterBy_28 : decode cX12_alterBy 28 = .ok (.idiv, 1) := by decide +kernel
theorem dX12_alterBy_29 : decode cX12_alterBy 29 = .ok (.istore_n 2, 1) := by decide +kernel
theorem dX12_alterBy_30 : decode cX12_alterBy 30 = .ok (.iload 4, 2) := by decide +kernel
theorem dX12_alterBy_32 : decode cX12_alterBy 32 = .ok (.ifCond .eq 41, 3) := by decide +kernel
theorem dX12_alterBy_35 : decode cX12_alterBy 35 = .ok (.iload 6, 2) := by decide +kernel
theorem dX12_alterBy_37 : decode cX12_alterBy 37 = .ok (.ifCond .eq 13, 3) := by decide +kernel
theorem dX12_alterBy_40 : decode cX12_alterBy 40 = .ok (.aload_n 0, 1) := by decide +kernel
theorem dX12_alterBy_41 : decode cX12_alterBy 41 = .ok (.iload 5, 2) := by decide +kernel
theorem dX12_alterBy_43 : decode cX12_alterBy 43 = .ok (.invokevirtual 161, 3) := by decide +kernel
theorem dX12_alterBy_46 : decode cX12_alterBy 46 = .ok (.iconst (-1), 1) := by decide +kernel
theorem dX12_alterBy_47 : decode cX12_alterBy 47 = .ok (.if_icmp .ne 26, 3) := by decide +kernel
theorem dX12_alterBy_50 : decode cX12_alterBy 50 = .ok (.aload_n 0, 1) := by decide +kernel
theorem dX12_alterBy_51 : decode cX12_alterBy 51 = .ok (.getfield 47, 3) := by decide +kernel
theorem dX12_alterBy_54 : decode cX12_alterBy 54 = .ok (.iload 5, 2) := by decide +kernel
theorem dX12_alterBy_56 : decode cX12_alterBy 56 = .ok (.iaload, 1) := by decide +kernel
theorem dX12_alterBy_57 : decode cX12_alterBy 57 = .ok (.iload 6, 2) := by decide +kernel
theorem dX12_alterBy_59 : decode cX12_alterBy 59 = .ok (.iadd, 1) := by decide +kernel
theorem dX12_alterBy_60 : decode cX12_alterBy 60 = .ok (.iconst 1, 1) := by decide +kernel
theorem dX12_alterBy_61 : decode cX12_alterBy 61 = .ok (.bipush 9, 2) := by decide +kernel
theorem dX12_alterBy_63 : decode cX12_alterBy 63 = .ok (.invokestatic 71, 3) := by decide +kernel
theorem dX12_alterBy_66 : decode cX12_alterBy 66 = .ok (.ifCond .eq 7, 3) := by decide +kernel
theorem dX12_alterBy_69 : decode cX12_alterBy 69 = .ok (.iconst 1, 1) := by decide +kernel
theorem dX12_alterBy_70 : decode cX12_alterBy 70 = .ok (.goto 4, 3) := by decide +kernel
theorem dX12_alterBy_73 : decode cX12_alterBy 73 = .ok (.iconst 0, 1) := by decide +kernel
theorem dX12_alterBy_74 : decode cX12_alterBy 74 = .ok (.istore 4, 2) := by decide +kernel
theorem dX12_alterBy_76 : decode cX12_alterBy 76 = .ok (.aload_n 0, 1) := by decide +kernel
theorem dX12_alterBy_77 : decode cX12_alterBy 77 = .ok (.getfield 19, 3) := by decide +kernel
theorem dX12_alterBy_80 : decode cX12_alterBy 80 = .ok (.iload 5, 2) := by decide +kernel
theorem dX12_alterBy_82 : decode cX12_alterBy 82 = .ok (.aload_n 0, 1) := by decide +kernel
theorem dX12_alterBy_83 : decode cX12_alterBy 83 = .ok (.getfield 47, 3) := by decide +kernel
theorem dX12_alterBy_86 : decode cX12_alterBy 86 = .ok (.iload 5, 2) := by decide +kernel
theorem dX12_alterBy_88 : decode cX12_alterBy 88 = .ok (.iaload, 1) := by decide +kernel
theorem dX12_alterBy_89 : decode cX12_alterBy 89 = .ok (.iload 6, 2) := by decide +kernel
theorem dX12_alterBy_91 : decode cX12_alterBy 91 = .ok (.iadd, 1) := by decide +kernel
theorem dX12_alterBy_92 : decode cX12_alterBy 92 = .ok (.iastore, 1) := by decide +kernel
theorem dX12_alterBy_93 : decode cX12_alterBy 93 = .ok (.iload_n 3, 1) := by decide +kernel
theorem dX12_alterBy_94 : decode cX12_alterBy 94 = .ok (.iload 6, 2) := by decide +kernel
theorem dX12_alterBy_96 : decode cX12_alterBy 96 = .ok (.ifCond .ge 9, 3) := by decide +kernel
theorem dX12_alterBy_99 : decode cX12_alterBy 99 = .ok (.iload 6, 2) := by decide +kernel
theorem dX12_alterBy_101 : decode cX12_alterBy 101 = .ok (.ineg, 1) := by decide +kernel
theorem dX12_alterBy_102 : decode cX12_alterBy 102 = .ok (.goto 5, 3) := by decide +kernel
theorem dX12_alterBy_105 : decode cX12_alterBy 105 = .ok (.iload 6, 2) := by decide +kernel
theorem dX12_alterBy_107 : decode cX12_alterBy 107 = .ok (.iadd, 1) := by decide +kernel
theorem dX12_alterBy_108 : decode cX12_alterBy 108 = .ok (.istore_n 3, 1) := by decide +kernel
theorem dX12_alterBy_109 : decode cX12_alterBy 109 = .ok (.iinc 5 1, 3) := by decide +kernel
theorem dX12_alterBy_112 : decode cX12_alterBy 112 = .ok (.goto (-102), 3) := by decide +kernel
theorem dX12_alterBy_115 : decode cX12_alterBy 115 = .ok (.iload 4, 2) := by decide +kernel
theorem dX12_alterBy_117 : decode cX12_alterBy 117 = .ok (.ifCond .eq 7, 3) := by decide +kernel
theorem dX12_alterBy_120 : decode cX12_alterBy 120 = .ok (.iload_n 3, 1) := by decide +kernel
theorem dX12_alterBy_121 : decode cX12_alterBy 121 = .ok (.goto 4, 3) := by decide +kernel
theorem dX12_alterBy_124 : decode cX12_alterBy 124 = .ok (.iconst (-1), 1) := by decide +kernel
theorem dX12_alterBy_125 : decode cX12_alterBy 125 = .ok (.ireturn, 1) := by decide +kernel
theorem dX12_stitchesNow_0 : decode cX12_stitchesNow 0 = .ok (.aload_n 0, 1) := by decide +kernel
theorem dX12_stitchesNow_1 : decode cX12_stitchesNow 1 = .ok (.invokevirtual 200, 3) := by decide +kernel
theorem dX12_stitchesNow_4 : decode cX12_stitchesNow 4 = .ok (.istore_n 1, 1) := by decide +kernel
theorem dX12_stitchesNow_5 : decode cX12_stitchesNow 5 = .ok (.ldc 203, 2) := by decide +kernel
theorem dX12_stitchesNow_7 : decode cX12_stitchesNow 7 = .ok (.istore_n 2, 1) := by decide +kernel
theorem dX12_stitchesNow_8 : decode cX12_stitchesNow 8 = .ok (.iconst 0, 1) := by decide +kernel
theorem dX12_stitchesNow_9 : decode cX12_stitchesNow 9 = .ok (.istore_n 3, 1) := by decide +kernel
theorem dX12_stitchesNow_10 : decode cX12_stitchesNow 10 = .ok (.iload_n 3, 1) := by decide +kernel
theorem dX12_stitchesNow_11 : decode cX12_stitchesNow 11 = .ok (.aload_n 0, 1) := by decide +kernel
theorem dX12_stitchesNow_12 : decode cX12_stitchesNow 12 = .ok (.getfield 109, 3) := by decide +kernel
theorem dX12_stitchesNow_15 : decode cX12_stitchesNow 15 = .ok (.if_icmp .ge 21, 3) := by decide +kernel
theorem dX12_stitchesNow_18 : decode cX12_stitchesNow 18 = .ok (.aload_n 0, 1) := by decide +kernel
theorem dX12_stitchesNow_19 : decode cX12_stitchesNow 19 = .ok (.getfield 47, 3) := by decide +kernel
theorem dX12_stitchesNow_22 : decode cX12_stitchesNow 22 = .ok (.iload_n 3, 1) := by decide +kernel
theorem dX12_stitchesNow_23 : decode cX12_stitchesNow 23 = .ok (.aload_n 0, 1) := by decide +kernel
theorem dX12_stitchesNow_24 : decode cX12_stitchesNow 24 = .ok (.getfield 19, 3) := by decide +kernel
theorem dX12_stitchesNow_27 : decode cX12_stitchesNow 27 = .ok (.iload_n 3, 1) := by decide +kernel
theorem dX12_stitchesNow_28 : decode cX12_stitchesNow 28 = .ok (.iaload, 1) := by decide +kernel
theorem dX12_stitchesNow_29 : decode cX12_stitchesNow 29 = .ok (.iastore, 1) := by decide +kernel
theorem dX12_stitchesNow_30 : decode cX12_stitchesNow 30 = .ok (.iinc 3 1, 3) := by decide +kernel
theorem dX12_stitchesNow_33 : decode cX12_stitchesNow 33 = .ok (.goto (-23), 3) := by decide +kernel
theorem dX12_stitchesNow_36 : decode cX12_stitchesNow 36 = .ok (.iconst 1, 1) := by decide +kernel
theorem dX12_stitchesNow_37 : decode cX12_stitchesNow 37 = .ok (.istore_n 3, 1) := by decide +kernel
theorem dX12_stitchesNow_38 : decode cX12_stitchesNow 38 = .ok (.iconst 0, 1) := by decide +kernel
theorem dX12_stitchesNow_39 : decode cX12_stitchesNow 39 = .ok (.istore 4, 2) := by decide +kernel
theorem dX12_stitchesNow_41 : decode cX12_stitchesNow 41 = .ok (.iload 4, 2) := by decide +kernel
theorem dX12_stitchesNow_43 : decode cX12_stitchesNow 43 = .ok (.aload_n 0, 1) := by decide +kernel
theorem dX12_stitchesNow_44 : decode cX12_stitchesNow 44 = .ok (.getfield 109, 3) := by decide +kernel
theorem dX12_stitchesNow_47 : decode cX12_stitchesNow 47 = .ok (.if_icmp .ge 13, 3) := by decide +kernel
theorem dX12_stitchesNow_50 : decode cX12_stitchesNow 50 = .ok (.iload_n 3, 1) := by decide +kernel
theorem dX12_stitchesNow_51 : decode cX12_stitchesNow 51 = .ok (.iconst 5, 1) := by decide +kernel
theorem dX12_stitchesNow_52 : decode cX12_stitchesNow 52 = .ok (.imul, 1) := by decide +kernel
theorem dX12_stitchesNow_53 : decode cX12_stitchesNow 53 = .ok (.istore_n 3, 1) := by decide +kernel
theorem dX12_stitchesNow_54 : decode cX12_stitchesNow 54 = .ok (.iinc 4 1, 3) := by decide +kernel
theorem dX12_stitchesNow_57 : decode cX12_stitchesNow 57 = .ok (.goto (-16), 3) := by decide +kernel
theorem dX12_stitchesNow_60 : decode cX12_stitchesNow 60 = .ok (.iconst 0, 1) := by decide +kernel
theorem dX12_stitchesNow_61 : decode cX12_stitchesNow 61 = .ok (.istore 4, 2) := by decide +kernel
theorem dX12_stitchesNow_63 : decode cX12_stitchesNow 63 = .ok (.iload 4, 2) := by decide +kernel
theorem dX12_stitchesNow_65 : decode cX12_stitchesNow 65 = .ok (.iload_n 3, 1) := by decide +kernel
theorem dX12_stitchesNow_66 : decode cX12_stitchesNow 66 = .ok (.if_icmp .ge 45, 3) := by decide +kernel
theorem dX12_stitchesNow_69 : decode cX12_stitchesNow 69 = .ok (.aload_n 0, 1) := by decide +kernel
theorem dX12_stitchesNow_70 : decode cX12_stitchesNow 70 = .ok (.iload 4, 2) := by decide +kernel
theorem dX12_stitchesNow_72 : decode cX12_stitchesNow 72 = .ok (.invokevirtual 204, 3) := by decide +kernel
theorem dX12_stitchesNow_75 : decode cX12_stitchesNow 75 = .ok (.istore 5, 2) := by decide +kernel
theorem dX12_stitchesNow_77 : decode cX12_stitchesNow 77 = .ok (.iload 5, 2) := by decide +kernel
theorem dX12_stitchesNow_79 : decode cX12_stitchesNow 79 = .ok (.iconst (-1), 1) := by decide +kernel
theorem dX12_stitchesNow_80 : decode cX12_stitchesNow 80 = .ok (.if_icmp .eq 23, 3) := by decide +kernel
theorem dX12_stitchesNow_83 : decode cX12_stitchesNow 83 = .ok (.iload 5, 2) := by decide +kernel
theorem dX12_stitchesNow_85 : decode cX12_stitchesNow 85 = .ok (.iload_n 2, 1) := by decide +kernel
theorem dX12_stitchesNow_86 : decode cX12_stitchesNow 86 = .ok (.if_icmp .ge 17, 3) := by decide +kernel
theorem dX12_stitchesNow_89 : decode cX12_stitchesNow 89 = .ok (.aload_n 0, 1) := by decide +kernel
theorem dX12_stitchesNow_90 : decode cX12_stitchesNow 90 = .ok (.iconst 0, 1) := by decide +kernel
theorem dX12_stitchesNow_91 : decode cX12_stitchesNow 91 = .ok (.invokevirtual 197, 3) := by decide +kernel
theorem dX12_stitchesNow_94 : decode cX12_stitchesNow 94 = .ok (.iload_n 1, 1) := by decide +kernel
theorem dX12_stitchesNow_95 : decode cX12_stitchesNow 95 = .ok (.if_icmp .ne 8, 3) := by decide +kernel
theorem dX12_stitchesNow_98 : decode cX12_stitchesNow 98 = .ok (.iload 5, 2) := by decide +kernel
theorem dX12_stitchesNow_100 : decode cX12_stitchesNow 100 = .ok (.goto 4, 3) := by decide +kernel
theorem dX12_stitchesNow_103 : decode cX12_stitchesNow 103 = .ok (.iload_n 2, 1) := by decide +kernel
theorem dX12_stitchesNow_104 : decode cX12_stitchesNow 104 = .ok (.istore_n 2, 1) := by decide +kernel
theorem dX12_stitchesNow_105 : decode cX12_stitchesNow 105 = .ok (.iinc 4 1, 3) := by decide +kernel
theorem dX12_stitchesNow_108 : decode cX12_stitchesNow 108 = .ok (.goto (-45), 3) := by decide +kernel
theorem dX12_stitchesNow_111 : decode cX12_stitchesNow 111 = .ok (.iconst 0, 1) := by decide +kernel
theorem dX12_stitchesNow_112 : decode cX12_stitchesNow 112 = .ok (.istore 4, 2) := by decide +kernel
theorem dX12_stitchesNow_114 : decode cX12_stitchesNow 114 = .ok (.iload 4, 2) := by decide +kernel
theorem dX12_stitchesNow_116 : decode cX12_stitchesNow 116 = .ok (.aload_n 0, 1) := by decide +kernel
theorem dX12_stitchesNow_117 : decode cX12_stitchesNow 117 = .ok (.getfield 109, 3) := by decide +kernel
theorem dX12_stitchesNow_120 : decode cX12_stitchesNow 120 = .ok (.if_icmp .ge 23, 3) := by decide +kernel
theorem dX12_stitchesNow_123 : decode cX12_stitchesNow 123 = .ok (.aload_n 0, 1) := by decide +kernel
theorem dX12_stitchesNow_124 : decode cX12_stitchesNow 124 = .ok (.getfield 19, 3) := by decide +kernel
theorem dX12_stitchesNow_127 : decode cX12_stitchesNow 127 = .ok (.iload 4, 2) := by decide +kernel
theorem dX12_stitchesNow_129 : decode cX12_stitchesNow 129 = .ok (.aload_n 0, 1) := by decide +kernel
theorem dX12_stitchesNow_130 : decode cX12_stitchesNow 130 = .ok (.getfield 47, 3) := by decide +kernel
theorem dX12_stitchesNow_133 : decode cX12_stitchesNow 133 = .ok (.iload 4, 2) := by decide +kernel
theorem dX12_stitchesNow_135 : decode cX12_stitchesNow 135 = .ok (.iaload, 1) := by decide +kernel
theorem dX12_stitchesNow_136 : decode cX12_stitchesNow 136 = .ok (.iastore, 1) := by decide +kernel
theorem dX12_stitchesNow_137 : decode cX12_stitchesNow 137 = .ok (.iinc 4 1, 3) := by decide +kernel
theorem dX12_stitchesNow_140 : decode cX12_stitchesNow 140 = .ok (.goto (-26), 3) := by decide +kernel
theorem dX12_stitchesNow_143 : decode cX12_stitchesNow 143 = .ok (.iload_n 2, 1) := by decide +kernel
theorem dX12_stitchesNow_144 : decode cX12_stitchesNow 144 = .ok (.ldc 203, 2) := by decide +kernel
theorem dX12_stitchesNow_146 : decode cX12_stitchesNow 146 = .ok (.if_icmp .ne 7, 3) := by decide +kernel
theorem dX12_stitchesNow_149 : decode cX12_stitchesNow 149 = .ok (.iconst (-1), 1) := by decide +kernel
theorem dX12_stitchesNow_150 : decode cX12_stitchesNow 150 = .ok (.goto 4, 3) := by decide +kernel
theorem dX12_stitchesNow_153 : decode cX12_stitchesNow 153 = .ok (.iload_n 2, 1) := by decide +kernel
theorem dX12_stitchesNow_154 : decode cX12_stitchesNow 154 = .ok (.ireturn, 1) := by decide +kernel
theorem dX12_stitches_0 : decode cX12_stitches 0 = .ok (.aload_n 0, 1) := by decide +kernel
theorem dX12_stitches_1 : decode cX12_stitches 1 = .ok (.getfield 106, 3) := by decide +kernel
theorem dX12_stitches_4 : decode cX12_stitches 4 = .ok (.ifCond .eq 12, 3) := by decide +kernel
theorem dX12_stitches_7 : decode cX12_stitches 7 = .ok (.aload_n 0, 1) := by decide +kernel
theorem dX12_stitches_8 : decode cX12_stitches 8 = .ok (.getfield 207, 3) := by decide +kernel
theorem dX12_stitches_11 : decode cX12_stitches 11 = .ok (.bipush 12, 2) := by decide +kernel
theorem dX12_stitches_13 : decode cX12_stitches 13 = .ok (.if_icmp .ne 6, 3) := by decide +kernel
theorem dX12_stitches_16 : decode cX12_stitches 16 = .ok (.bipush (-103), 2) := by decide +kernel
theorem dX12_stitches_18 : decode cX12_stitches 18 = .ok (.ireturn, 1) := by decide +kernel
theorem dX12_stitches_19 : decode cX12_stitches 19 = .ok (.aload_n 0, 1) := by decide +kernel
theorem dX12_stitches_20 : decode cX12_stitches 20 = .ok (.dup, 1) := by decide +kernel
theorem dX12_stitches_21 : decode cX12_stitches 21 = .ok (.getfield 207, 3) := by decide +kernel
theorem dX12_stitches_24 : decode cX12_stitches 24 = .ok (.iconst 1, 1) := by decide +kernel
theorem dX12_stitches_25 : decode cX12_stitches 25 = .ok (.iadd, 1) := by decide +kernel
theorem dX12_stitches_26 : decode cX12_stitches 26 = .ok (.putfield 207, 3) := by decide +kernel
theorem dX12_stitches_29 : decode cX12_stitches 29 = .ok (.aload_n 0, 1) := by decide +kernel
theorem dX12_stitches_30 : decode cX12_stitches 30 = .ok (.invokevirtual 210, 3) := by decide +kernel
theorem dX12_stitches_33 : decode cX12_stitches 33 = .ok (.ireturn, 1) := by decide +kernel
theorem dX12_tried_0 : decode cX12_tried 0 = .ok (.aload_n 0, 1) := by decide +kernel
theorem dX12_tried_1 : decode cX12_tried 1 = .ok (.iload_n 1, 1) := by decide +kernel
theorem dX12_tried_2 : decode cX12_tried 2 = .ok (.invokevirtual 154, 3) := by decide +kernel
theorem dX12_tried_5 : decode cX12_tried 5 = .ok (.ifCond .eq 11, 3) := by decide +kernel
theorem dX12_tried_8 : decode cX12_tried 8 = .ok (.aload_n 0, 1) := by decide +kernel
theorem dX12_tried_9 : decode cX12_tried 9 = .ok (.iload_n 2, 1) := by decide +kernel
theorem dX12_tried_10 : decode cX12_tried 10 = .ok (.invokevirtual 170, 3) := by decide +kernel
theorem dX12_tried_13 : decode cX12_tried 13 = .ok (.ifCond .ne 6, 3) := by decide +kernel
theorem dX12_tried_16 : decode cX12_tried 16 = .ok (.bipush (-101), 2) := by decide +kernel
theorem dX12_tried_18 : decode cX12_tried 18 = .ok (.ireturn, 1) := by decide +kernel
theorem dX12_tried_19 : decode cX12_tried 19 = .ok (.aload_n 0, 1) := by decide +kernel
theorem dX12_tried_20 : decode cX12_tried 20 = .ok (.getfield 121, 3) := by decide +kernel
theorem dX12_tried_23 : decode cX12_tried 23 = .ok (.bipush 6, 2) := by decide +kernel
theorem dX12_tried_25 : decode cX12_tried 25 = .ok (.if_icmp .ne 6, 3) := by decide +kernel
theorem dX12_tried_28 : decode cX12_tried 28 = .ok (.bipush (-104), 2) := by decide +kernel
theorem dX12_tried_30 : decode cX12_tried 30 = .ok (.ireturn, 1) := by decide +kernel
theorem dX12_tried_31 : decode cX12_tried 31 = .ok (.aload_n 0, 1) := by decide +kernel
theorem dX12_tried_32 : decode cX12_tried 32 = .ok (.getfield 31, 3) := by decide +kernel
theorem dX12_tried_35 : decode cX12_tried 35 = .ok (.aload_n 0, 1) := by decide +kernel
theorem dX12_tried_36 : decode cX12_tried 36 = .ok (.getfield 121, 3) := by decide +kernel
theorem dX12_tried_39 : decode cX12_tried 39 = .ok (.iload_n 1, 1) := by decide +kernel
theorem dX12_tried_40 : decode cX12_tried 40 = .ok (.iastore, 1) := by decide +kernel
theorem dX12_tried_41 : decode cX12_tried 41 = .ok (.aload_n 0, 1) := by decide +kernel
theorem dX12_tried_42 : decode cX12_tried 42 = .ok (.getfield 34, 3) := by decide +kernel
theorem dX12_tried_45 : decode cX12_tried 45 = .ok (.aload_n 0, 1) := by decide +kernel
theorem dX12_tried_46 : decode cX12_tried 46 = .ok (.getfield 121, 3) := by decide +kernel
theorem dX12_tried_49 : decode cX12_tried 49 = .ok (.aload_n 0, 1) := by decide +kernel
theorem dX12_tried_50 : decode cX12_tried 50 = .ok (.getfield 19, 3) := by decide +kernel
theorem dX12_tried_53 : decode cX12_tried 53 = .ok (.iload_n 2, 1) := by decide +kernel
theorem dX12_tried_54 : decode cX12_tried 54 = .ok (.iaload, 1) := by decide +kernel
theorem dX12_tried_55 : decode cX12_tried 55 = .ok (.iastore, 1) := by decide +kernel
theorem dX12_tried_56 : decode cX12_tried 56 = .ok (.aload_n 0, 1) := by decide +kernel
theorem dX12_tried_57 : decode cX12_tried 57 = .ok (.getfield 37, 3) := by decide +kernel
theorem dX12_tried_60 : decode cX12_tried 60 = .ok (.aload_n 0, 1) := by decide +kernel
theorem dX12_tried_61 : decode cX12_tried 61 = .ok (.getfield 121, 3) := by decide +kernel
theorem dX12_tried_64 : decode cX12_tried 64 = .ok (.aload_n 0, 1) := by decide +kernel
theorem dX12_tried_65 : decode cX12_tried 65 = .ok (.getfield 22, 3) := by decide +kernel
theorem dX12_tried_68 : decode cX12_tried 68 = .ok (.iload_n 2, 1) := by decide +kernel
theorem dX12_tried_69 : decode cX12_tried 69 = .ok (.iaload, 1) := by decide +kernel
theorem dX12_tried_70 : decode cX12_tried 70 = .ok (.iastore, 1) := by decide +kernel
theorem dX12_tried_71 : decode cX12_tried 71 = .ok (.aload_n 0, 1) := by decide +kernel
theorem dX12_tried_72 : decode cX12_tried 72 = .ok (.getfield 40, 3) := by decide +kernel
theorem dX12_tried_75 : decode cX12_tried 75 = .ok (.aload_n 0, 1) := by decide +kernel
theorem dX12_tried_76 : decode cX12_tried 76 = .ok (.getfield 121, 3) := by decide +kernel
theorem dX12_tried_79 : decode cX12_tried 79 = .ok (.iload_n 3, 1) := by decide +kernel
theorem dX12_tried_80 : decode cX12_tried 80 = .ok (.ifCond .eq 7, 3) := by decide +kernel
theorem dX12_tried_83 : decode cX12_tried 83 = .ok (.iconst 1, 1) := by decide +kernel
theorem dX12_tried_84 : decode cX12_tried 84 = .ok (.goto 4, 3) := by decide +kernel
theorem dX12_tried_87 : decode cX12_tried 87 = .ok (.iconst 0, 1) := by decide +kernel
theorem dX12_tried_88 : decode cX12_tried 88 = .ok (.iastore, 1) := by decide +kernel
theorem dX12_tried_89 : decode cX12_tried 89 = .ok (.aload_n 0, 1) := by decide +kernel
theorem dX12_tried_90 : decode cX12_tried 90 = .ok (.dup, 1) := by decide +kernel
theorem dX12_tried_91 : decode cX12_tried 91 = .ok (.getfield 121, 3) := by decide +kernel
theorem dX12_tried_94 : decode cX12_tried 94 = .ok (.iconst 1, 1) := by decide +kernel
theorem dX12_tried_95 : decode cX12_tried 95 = .ok (.iadd, 1) := by decide +kernel
theorem dX12_tried_96 : decode cX12_tried 96 = .ok (.putfield 121, 3) := by decide +kernel
theorem dX12_tried_99 : decode cX12_tried 99 = .ok (.aload_n 0, 1) := by decide +kernel
theorem dX12_tried_100 : decode cX12_tried 100 = .ok (.getfield 121, 3) := by decide +kernel
theorem dX12_tried_103 : decode cX12_tried 103 = .ok (.ireturn, 1) := by decide +kernel
theorem dX12_forget_0 : decode cX12_forget 0 = .ok (.aload_n 0, 1) := by decide +kernel
theorem dX12_forget_1 : decode cX12_forget 1 = .ok (.getfield 121, 3) := by decide +kernel
theorem dX12_forget_4 : decode cX12_forget 4 = .ok (.istore_n 1, 1) := by decide +kernel
theorem dX12_forget_5 : decode cX12_forget 5 = .ok (.aload_n 0, 1) := by decide +kernel
theorem dX12_forget_6 : decode cX12_forget 6 = .ok (.iconst 0, 1) := by decide +kernel
theorem dX12_forget_7 : decode cX12_forget 7 = .ok (.putfield 121, 3) := by decide +kernel
theorem dX12_forget_10 : decode cX12_forget 10 = .ok (.iload_n 1, 1) := by decide +kernel
theorem dX12_forget_11 : decode cX12_forget 11 = .ok (.ireturn, 1) := by decide +kernel
theorem dX12_couldBe_0 : decode cX12_couldBe 0 = .ok (.iconst 1, 1) := by decide +kernel
theorem dX12_couldBe_1 : decode cX12_couldBe 1 = .ok (.istore_n 3, 1) := by decide +kernel
theorem dX12_couldBe_2 : decode cX12_couldBe 2 = .ok (.iconst 0, 1) := by decide +kernel
theorem dX12_couldBe_3 : decode cX12_couldBe 3 = .ok (.istore 4, 2) := by decide +kernel
theorem dX12_couldBe_5 : decode cX12_couldBe 5 = .ok (.iload 4, 2) := by decide +kernel
theorem dX12_couldBe_7 : decode cX12_couldBe 7 = .ok (.aload_n 0, 1) := by decide +kernel
theorem dX12_couldBe_8 : decode cX12_couldBe 8 = .ok (.getfield 121, 3) := by decide +kernel
theorem dX12_couldBe_11 : decode cX12_couldBe 11 = .ok (.if_icmp .ge 69, 3) := by decide +kernel
theorem dX12_couldBe_14 : decode cX12_couldBe 14 = .ok (.iload_n 3, 1) := by decide +kernel
theorem dX12_couldBe_15 : decode cX12_couldBe 15 = .ok (.ifCond .eq 57, 3) := by decide +kernel
theorem dX12_couldBe_18 : decode cX12_couldBe 18 = .ok (.aload_n 0, 1) := by decide +kernel
theorem dX12_couldBe_19 : decode cX12_couldBe 19 = .ok (.getfield 31, 3) := by decide +kernel
theorem dX12_couldBe_22 : decode cX12_couldBe 22 = .ok (.iload 4, 2) := by decide +kernel
theorem dX12_couldBe_24 : decode cX12_couldBe 24 = .ok (.iaload, 1) := by decide +kernel
theorem dX12_couldBe_25 : decode cX12_couldBe 25 = .ok (.iload_n 1, 1) := by decide +kernel
theorem dX12_couldBe_26 : decode cX12_couldBe 26 = .ok (.if_icmp .ne 42, 3) := by decide +kernel
theorem dX12_couldBe_29 : decode cX12_couldBe 29 = .ok (.aload_n 0, 1) := by decide +kernel
theorem dX12_couldBe_30 : decode cX12_couldBe 30 = .ok (.iload_n 1, 1) := by decide +kernel
theorem dX12_couldBe_31 : decode cX12_couldBe 31 = .ok (.iload_n 2, 1) := by decide +kernel
theorem dX12_couldBe_32 : decode cX12_couldBe 32 = .ok (.aload_n 0, 1) := by decide +kernel
theorem dX12_couldBe_33 : decode cX12_couldBe 33 = .ok (.getfield 34, 3) := by decide +kernel
theorem dX12_couldBe_36 : decode cX12_couldBe 36 = .ok (.iload 4, 2) := by decide +kernel
theorem dX12_couldBe_38 : decode cX12_couldBe 38 = .ok (.iaload, 1) := by decide +kernel
theorem dX12_couldBe_39 : decode cX12_couldBe 39 = .ok (.aload_n 0, 1) := by decide +kernel
theorem dX12_couldBe_40 : decode cX12_couldBe 40 = .ok (.getfield 37, 3) := by decide +kernel
theorem dX12_couldBe_43 : decode cX12_couldBe 43 = .ok (.iload 4, 2) := by decide +kernel
theorem dX12_couldBe_45 : decode cX12_couldBe 45 = .ok (.iaload, 1) := by decide +kernel
theorem dX12_couldBe_46 : decode cX12_couldBe 46 = .ok (.invokevirtual 135, 3) := by decide +kernel
theorem dX12_couldBe_49 : decode cX12_couldBe 49 = .ok (.aload_n 0, 1) := by decide +kernel
theorem dX12_couldBe_50 : decode cX12_couldBe 50 = .ok (.getfield 40, 3) := by decide +kernel
theorem dX12_couldBe_53 : decode cX12_couldBe 53 = .ok (.iload 4, 2) := by decide +kernel
theorem dX12_couldBe_55 : decode cX12_couldBe 55 = .ok (.iaload, 1) := by decide +kernel
theorem dX12_couldBe_56 : decode cX12_couldBe 56 = .ok (.iconst 1, 1) := by decide +kernel
theorem dX12_couldBe_57 : decode cX12_couldBe 57 = .ok (.if_icmp .ne 7, 3) := by decide +kernel
theorem dX12_couldBe_60 : decode cX12_couldBe 60 = .ok (.iconst 1, 1) := by decide +kernel
theorem dX12_couldBe_61 : decode cX12_couldBe 61 = .ok (.goto 4, 3) := by decide +kernel
theorem dX12_couldBe_64 : decode cX12_couldBe 64 = .ok (.iconst 0, 1) := by decide +kernel
theorem dX12_couldBe_65 : decode cX12_couldBe 65 = .ok (.if_icmp .ne 7, 3) := by decide +kernel
theorem dX12_couldBe_68 : decode cX12_couldBe 68 = .ok (.iconst 1, 1) := by decide +kernel
theorem dX12_couldBe_69 : decode cX12_couldBe 69 = .ok (.goto 4, 3) := by decide +kernel
theorem dX12_couldBe_72 : decode cX12_couldBe 72 = .ok (.iconst 0, 1) := by decide +kernel
theorem dX12_couldBe_73 : decode cX12_couldBe 73 = .ok (.istore_n 3, 1) := by decide +kernel
theorem dX12_couldBe_74 : decode cX12_couldBe 74 = .ok (.iinc 4 1, 3) := by decide +kernel
theorem dX12_couldBe_77 : decode cX12_couldBe 77 = .ok (.goto (-72), 3) := by decide +kernel
theorem dX12_couldBe_80 : decode cX12_couldBe 80 = .ok (.iload_n 3, 1) := by decide +kernel
theorem dX12_couldBe_81 : decode cX12_couldBe 81 = .ok (.ireturn, 1) := by decide +kernel
theorem dX12_howLarge_0 : decode cX12_howLarge 0 = .ok (.iconst 0, 1) := by decide +kernel
theorem dX12_howLarge_1 : decode cX12_howLarge 1 = .ok (.istore_n 2, 1) := by decide +kernel
theorem dX12_howLarge_2 : decode cX12_howLarge 2 = .ok (.iconst 1, 1) := by decide +kernel
theorem dX12_howLarge_3 : decode cX12_howLarge 3 = .ok (.istore_n 3, 1) := by decide +kernel
theorem dX12_howLarge_4 : decode cX12_howLarge 4 = .ok (.iload_n 3, 1) := by decide +kernel
theorem dX12_howLarge_5 : decode cX12_howLarge 5 = .ok (.bipush 9, 2) := by decide +kernel
theorem dX12_howLarge_7 : decode cX12_howLarge 7 = .ok (.if_icmp .gt 30, 3) := by decide +kernel
theorem dX12_howLarge_10 : decode cX12_howLarge 10 = .ok (.iload_n 2, 1) := by decide +kernel
theorem dX12_howLarge_11 : decode cX12_howLarge 11 = .ok (.aload_n 0, 1) := by decide +kernel
theorem dX12_howLarge_12 : decode cX12_howLarge 12 = .ok (.iload_n 1, 1) := by decide +kernel
theorem dX12_howLarge_13 : decode cX12_howLarge 13 = .ok (.iload_n 3, 1) := by decide +kernel
theorem dX12_howLarge_14 : decode cX12_howLarge 14 = .ok (.invokevirtual 213, 3) := by decide +kernel
theorem dX12_howLarge_17 : decode cX12_howLarge 17 = .ok (.ifCond .eq 11, 3) := by decide +kernel
theorem dX12_howLarge_20 : decode cX12_howLarge 20 = .ok (.iconst 1, 1) := by decide +kernel
theorem dX12_howLarge_21 : decode cX12_howLarge 21 = .ok (.iload_n 3, 1) := by decide +kernel
theorem dX12_howLarge_22 : decode cX12_howLarge 22 = .ok (.iconst 1, 1) := by decide +kernel
theorem dX12_howLarge_23 : decode cX12_howLarge 23 = .ok (.isub, 1) := by decide +kernel
theorem dX12_howLarge_24 : decode cX12_howLarge 24 = .ok (.ishl, 1) := by decide +kernel
theorem dX12_howLarge_25 : decode cX12_howLarge 25 = .ok (.goto 4, 3) := by decide +kernel
theorem dX12_howLarge_28 : decode cX12_howLarge 28 = .ok (.iconst 0, 1) := by decide +kernel
theorem dX12_howLarge_29 : decode cX12_howLarge 29 = .ok (.ior, 1) := by decide +kernel
theorem dX12_howLarge_30 : decode cX12_howLarge 30 = .ok (.istore_n 2, 1) := by decide +kernel
theorem dX12_howLarge_31 : decode cX12_howLarge 31 = .ok (.iinc 3 1, 3) := by decide +kernel
theorem dX12_howLarge_34 : decode cX12_howLarge 34 = .ok (.goto (-30), 3) := by decide +kernel
theorem dX12_howLarge_37 : decode cX12_howLarge 37 = .ok (.iload_n 2, 1) := by decide +kernel
theorem dX12_howLarge_38 : decode cX12_howLarge 38 = .ok (.ireturn, 1) := by decide +kernel
theorem dX12_nextOf_0 : decode cX12_nextOf 0 = .ok (.aload_n 0, 1) := by decide +kernel
theorem dX12_nextOf_1 : decode cX12_nextOf 1 = .ok (.iload_n 1, 1) := by decide +kernel
theorem dX12_nextOf_2 : decode cX12_nextOf 2 = .ok (.invokevirtual 148, 3) := by decide +kernel
theorem dX12_nextOf_5 : decode cX12_nextOf 5 = .ok (.istore_n 2, 1) := by decide +kernel
theorem dX12_nextOf_6 : decode cX12_nextOf 6 = .ok (.iconst (-1), 1) := by decide +kernel
theorem dX12_nextOf_7 : decode cX12_nextOf 7 = .ok (.istore_n 3, 1) := by decide +kernel
theorem dX12_nextOf_8 : decode cX12_nextOf 8 = .ok (.ldc 203, 2) := by decide +kernel
theorem dX12_nextOf_10 : decode cX12_nextOf 10 = .ok (.istore 4, 2) := by decide +kernel
theorem dX12_nextOf_12 : decode cX12_nextOf 12 = .ok (.iconst 0, 1) := by decide +kernel
theorem dX12_nextOf_13 : decode cX12_nextOf 13 = .ok (.istore 5, 2) := by decide +kernel
theorem dX12_nextOf_15 : decode cX12_nextOf 15 = .ok (.iload 5, 2) := by decide +kernel
theorem dX12_nextOf_17 : decode cX12_nextOf 17 = .ok (.aload_n 0, 1) := by decide +kernel
theorem dX12_nextOf_18 : decode cX12_nextOf 18 = .ok (.getfield 109, 3) := by decide +kernel
theorem dX12_nextOf_21 : decode cX12_nextOf 21 = .ok (.if_icmp .ge 145, 3) := by decide +kernel
theorem dX12_nextOf_24 : decode cX12_nextOf 24 = .ok (.iload_n 2, 1) := by decide +kernel
theorem dX12_nextOf_25 : decode cX12_nextOf 25 = .ok (.ifCond .eq 141, 3) := by decide +kernel
theorem dX12_nextOf_28 : decode cX12_nextOf 28 = .ok (.iconst 0, 1) := by decide +kernel
theorem dX12_nextOf_29 : decode cX12_nextOf 29 = .ok (.istore 6, 2) := by decide +kernel
theorem dX12_nextOf_31 : decode cX12_nextOf 31 = .ok (.iconst 0, 1) := by decide +kernel
theorem dX12_nextOf_32 : decode cX12_nextOf 32 = .ok (.istore 7, 2) := by decide +kernel
theorem dX12_nextOf_34 : decode cX12_nextOf 34 = .ok (.iconst 1, 1) := by decide +kernel
theorem dX12_nextOf_35 : decode cX12_nextOf 35 = .ok (.istore 8, 2) := by decide +kernel
theorem dX12_nextOf_37 : decode cX12_nextOf 37 = .ok (.iload 8, 2) := by decide +kernel
theorem dX12_nextOf_39 : decode cX12_nextOf 39 = .ok (.bipush 9, 2) := by decide +kernel
theorem dX12_nextOf_41 : decode cX12_nextOf 41 = .ok (.if_icmp .gt 67, 3) := by decide +kernel
theorem dX12_nextOf_44 : decode cX12_nextOf 44 = .ok (.iload 7, 2) := by decide +kernel
theorem dX12_nextOf_46 : decode cX12_nextOf 46 = .ok (.iload_n 2, 1) := by decide +kernel
theorem dX12_nextOf_47 : decode cX12_nextOf 47 = .ok (.iload 8, 2) := by decide +kernel
theorem dX12_nextOf_49 : decode cX12_nextOf 49 = .ok (.iconst 1, 1) := by decide +kernel
theorem dX12_nextOf_50 : decode cX12_nextOf 50 = .ok (.isub, 1) := by decide +kernel
theorem dX12_nextOf_51 : decode cX12_nextOf 51 = .ok (.ishr, 1) := by decide +kernel
theorem dX12_nextOf_52 : decode cX12_nextOf 52 = .ok (.iconst 1, 1) := by decide +kernel
theorem dX12_nextOf_53 : decode cX12_nextOf 53 = .ok (.iand, 1) := by decide +kernel
theorem dX12_nextOf_54 : decode cX12_nextOf 54 = .ok (.iadd, 1) := by decide +kernel
theorem dX12_nextOf_55 : decode cX12_nextOf 55 = .ok (.istore 7, 2) := by decide +kernel
theorem dX12_nextOf_57 : decode cX12_nextOf 57 = .ok (.iload 6, 2) := by decide +kernel
theorem dX12_nextOf_59 : decode cX12_nextOf 59 = .ok (.iload_n 2, 1) := by decide +kernel
theorem dX12_nextOf_60 : decode cX12_nextOf 60 = .ok (.iload 8, 2) := by decide +kernel
theorem dX12_nextOf_62 : decode cX12_nextOf 62 = .ok (.iconst 1, 1) := by decide +kernel
theorem dX12_nextOf_63 : decode cX12_nextOf 63 = .ok (.isub, 1) := by decide +kernel
theorem dX12_nextOf_64 : decode cX12_nextOf 64 = .ok (.invokestatic 188, 3) := by decide +kernel
theorem dX12_nextOf_67 : decode cX12_nextOf 67 = .ok (.ifCond .eq 31, 3) := by decide +kernel
theorem dX12_nextOf_70 : decode cX12_nextOf 70 = .ok (.aload_n 0, 1) := by decide +kernel
theorem dX12_nextOf_71 : decode cX12_nextOf 71 = .ok (.iload_n 1, 1) := by decide +kernel
theorem dX12_nextOf_72 : decode cX12_nextOf 72 = .ok (.iload 8, 2) := by decide +kernel
theorem dX12_nextOf_74 : decode cX12_nextOf 74 = .ok (.aload_n 0, 1) := by decide +kernel
theorem dX12_nextOf_75 : decode cX12_nextOf 75 = .ok (.getfield 19, 3) := by decide +kernel
theorem dX12_nextOf_78 : decode cX12_nextOf 78 = .ok (.iload 5, 2) := by decide +kernel
theorem dX12_nextOf_80 : decode cX12_nextOf 80 = .ok (.iaload, 1) := by decide +kernel
theorem dX12_nextOf_81 : decode cX12_nextOf 81 = .ok (.aload_n 0, 1) := by decide +kernel
theorem dX12_nextOf_82 : decode cX12_nextOf 82 = .ok (.getfield 22, 3) := by decide +kernel
theorem dX12_nextOf_85 : decode cX12_nextOf 85 = .ok (.iload 5, 2) := by decide +kernel
theorem dX12_nextOf_87 : decode cX12_nextOf 87 = .ok (.iaload, 1) := by decide +kernel
theorem dX12_nextOf_88 : decode cX12_nextOf 88 = .ok (.invokevirtual 135, 3) := by decide +kernel
theorem dX12_nextOf_91 : decode cX12_nextOf 91 = .ok (.ifCond .eq 7, 3) := by decide +kernel
theorem dX12_nextOf_94 : decode cX12_nextOf 94 = .ok (.iconst 1, 1) := by decide +kernel
theorem dX12_nextOf_95 : decode cX12_nextOf 95 = .ok (.goto 4, 3) := by decide +kernel
theorem dX12_nextOf_98 : decode cX12_nextOf 98 = .ok (.iconst 0, 1) := by decide +kernel
theorem dX12_nextOf_99 : decode cX12_nextOf 99 = .ok (.iadd, 1) := by decide +kernel
theorem dX12_nextOf_100 : decode cX12_nextOf 100 = .ok (.istore 6, 2) := by decide +kernel
theorem dX12_nextOf_102 : decode cX12_nextOf 102 = .ok (.iinc 8 1, 3) := by decide +kernel
theorem dX12_nextOf_105 : decode cX12_nextOf 105 = .ok (.goto (-68), 3) := by decide +kernel
theorem dX12_nextOf_108 : decode cX12_nextOf 108 = .ok (.iload 6, 2) := by decide +kernel
theorem dX12_nextOf_110 : decode cX12_nextOf 110 = .ok (.iload 7, 2) := by decide +kernel
theorem dX12_nextOf_112 : decode cX12_nextOf 112 = .ok (.iload 6, 2) := by decide +kernel
theorem dX12_nextOf_114 : decode cX12_nextOf 114 = .ok (.isub, 1) := by decide +kernel
theorem dX12_nextOf_115 : decode cX12_nextOf 115 = .ok (.if_icmp .le 8, 3) := by decide +kernel
theorem dX12_nextOf_118 : decode cX12_nextOf 118 = .ok (.iload 6, 2) := by decide +kernel
theorem dX12_nextOf_120 : decode cX12_nextOf 120 = .ok (.goto 8, 3) := by decide +kernel
theorem dX12_nextOf_123 : decode cX12_nextOf 123 = .ok (.iload 7, 2) := by decide +kernel
theorem dX12_nextOf_125 : decode cX12_nextOf 125 = .ok (.iload 6, 2) := by decide +kernel
theorem dX12_nextOf_127 : decode cX12_nextOf 127 = .ok (.isub, 1) := by decide +kernel
theorem dX12_nextOf_128 : decode cX12_nextOf 128 = .ok (.istore 8, 2) := by decide +kernel
theorem dX12_nextOf_130 : decode cX12_nextOf 130 = .ok (.iload 8, 2) := by decide +kernel
theorem dX12_nextOf_132 : decode cX12_nextOf 132 = .ok (.iload 4, 2) := by decide +kernel
theorem dX12_nextOf_134 : decode cX12_nextOf 134 = .ok (.if_icmp .ge 8, 3) := by decide +kernel
theorem dX12_nextOf_137 : decode cX12_nextOf 137 = .ok (.iload 5, 2) := by decide +kernel
theorem dX12_nextOf_139 : decode cX12_nextOf 139 = .ok (.goto 4, 3) := by decide +kernel
theorem dX12_nextOf_142 : decode cX12_nextOf 142 = .ok (.iload_n 3, 1) := by decide +kernel
theorem dX12_nextOf_143 : decode cX12_nextOf 143 = .ok (.istore_n 3, 1) := by decide +kernel
theorem dX12_nextOf_144 : decode cX12_nextOf 144 = .ok (.iload 8, 2) := by decide +kernel
theorem dX12_nextOf_146 : decode cX12_nextOf 146 = .ok (.iload 4, 2) := by decide +kernel
theorem dX12_nextOf_148 : decode cX12_nextOf 148 = .ok (.if_icmp .ge 8, 3) := by decide +kernel
theorem dX12_nextOf_151 : decode cX12_nextOf 151 = .ok (.iload 8, 2) := by decide +kernel
theorem dX12_nextOf_153 : decode cX12_nextOf 153 = .ok (.goto 5, 3) := by decide +kernel
theorem dX12_nextOf_156 : decode cX12_nextOf 156 = .ok (.iload 4, 2) := by decide +kernel
theorem dX12_nextOf_158 : decode cX12_nextOf 158 = .ok (.istore 4, 2) := by decide +kernel
theorem dX12_nextOf_160 : decode cX12_nextOf 160 = .ok (.iinc 5 1, 3) := by decide +kernel
theorem dX12_nextOf_163 : decode cX12_nextOf 163 = .ok (.goto (-148), 3) := by decide +kernel
theorem dX12_nextOf_166 : decode cX12_nextOf 166 = .ok (.iload_n 3, 1) := by decide +kernel
theorem dX12_nextOf_167 : decode cX12_nextOf 167 = .ok (.ireturn, 1) := by decide +kernel
theorem dX12_draw_0 : decode cX12_draw 0 = .ok (.aload_n 0, 1) := by decide +kernel
theorem dX12_draw_1 : decode cX12_draw 1 = .ok (.ldc2_w 216, 3) := by decide +kernel
theorem dX12_draw_4 : decode cX12_draw 4 = .ok (.aload_n 0, 1) := by decide +kernel
theorem dX12_draw_5 : decode cX12_draw 5 = .ok (.getfield 218, 3) := by decide +kernel
theorem dX12_draw_8 : decode cX12_draw 8 = .ok (.lmul, 1) := by decide +kernel
theorem dX12_draw_9 : decode cX12_draw 9 = .ok (.ldc2_w 222, 3) := by decide +kernel
theorem dX12_draw_12 : decode cX12_draw 12 = .ok (.ladd, 1) := by decide +kernel
theorem dX12_draw_13 : decode cX12_draw 13 = .ok (.ldc2_w 224, 3) := by decide +kernel
theorem dX12_draw_16 : decode cX12_draw 16 = .ok (.land, 1) := by decide +kernel
theorem dX12_draw_17 : decode cX12_draw 17 = .ok (.putfield 218, 3) := by decide +kernel
theorem dX12_draw_20 : decode cX12_draw 20 = .ok (.aload_n 0, 1) := by decide +kernel
theorem dX12_draw_21 : decode cX12_draw 21 = .ok (.getfield 218, 3) := by decide +kernel
theorem dX12_draw_24 : decode cX12_draw 24 = .ok (.ldc2_w 226, 3) := by decide +kernel
theorem dX12_draw_27 : decode cX12_draw 27 = .ok (.ldiv, 1) := by decide +kernel
theorem dX12_draw_28 : decode cX12_draw 28 = .ok (.iload_n 1, 1) := by decide +kernel
theorem dX12_draw_29 : decode cX12_draw 29 = .ok (.i2l, 1) := by decide +kernel
theorem dX12_draw_30 : decode cX12_draw 30 = .ok (.lrem, 1) := by decide +kernel
theorem dX12_draw_31 : decode cX12_draw 31 = .ok (.l2i, 1) := by decide +kernel
theorem dX12_draw_32 : decode cX12_draw 32 = .ok (.ireturn, 1) := by decide +kernel
theorem dX12_paidAll_0 : decode cX12_paidAll 0 = .ok (.iconst 0, 1) := by decide +kernel
theorem dX12_paidAll_1 : decode cX12_paidAll 1 = .ok (.istore_n 1, 1) := by decide +kernel
theorem dX12_paidAll_2 : decode cX12_paidAll 2 = .ok (.iconst 0, 1) := by decide +kernel
theorem dX12_paidAll_3 : decode cX12_paidAll 3 = .ok (.istore_n 2, 1) := by decide +kernel
theorem dX12_paidAll_4 : decode cX12_paidAll 4 = .ok (.iload_n 2, 1) := by decide +kernel
theorem dX12_paidAll_5 : decode cX12_paidAll 5 = .ok (.aload_n 0, 1) := by decide +kernel
theorem dX12_paidAll_6 : decode cX12_paidAll 6 = .ok (.getfield 106, 3) := by decide +kernel
theorem dX12_paidAll_9 : decode cX12_paidAll 9 = .ok (.if_icmp .ge 17, 3) := by decide +kernel
theorem dX12_paidAll_12 : decode cX12_paidAll 12 = .ok (.iload_n 1, 1) := by decide +kernel
theorem dX12_paidAll_13 : decode cX12_paidAll 13 = .ok (.aload_n 0, 1) := by decide +kernel
theorem dX12_paidAll_14 : decode cX12_paidAll 14 = .ok (.iload_n 2, 1) := by decide +kernel
theorem dX12_paidAll_15 : decode cX12_paidAll 15 = .ok (.invokevirtual 142, 3) := by decide +kernel
theorem dX12_paidAll_18 : decode cX12_paidAll 18 = .ok (.iadd, 1) := by decide +kernel
theorem dX12_paidAll_19 : decode cX12_paidAll 19 = .ok (.istore_n 1, 1) := by decide +kernel
theorem dX12_paidAll_20 : decode cX12_paidAll 20 = .ok (.iinc 2 1, 3) := by decide +kernel
theorem dX12_paidAll_23 : decode cX12_paidAll 23 = .ok (.goto (-19), 3) := by decide +kernel
theorem dX12_paidAll_26 : decode cX12_paidAll 26 = .ok (.iload_n 1, 1) := by decide +kernel
theorem dX12_paidAll_27 : decode cX12_paidAll 27 = .ok (.ireturn, 1) := by decide +kernel
theorem dX12_weeksNow_0 : decode cX12_weeksNow 0 = .ok (.iconst 0, 1) := by decide +kernel
theorem dX12_weeksNow_1 : decode cX12_weeksNow 1 = .ok (.istore 4, 2) := by decide +kernel
theorem dX12_weeksNow_3 : decode cX12_weeksNow 3 = .ok (.iload 4, 2) := by decide +kernel
theorem dX12_weeksNow_5 : decode cX12_weeksNow 5 = .ok (.aload_n 0, 1) := by decide +kernel
theorem dX12_weeksNow_6 : decode cX12_weeksNow 6 = .ok (.getfield 106, 3) := by decide +kernel
theorem dX12_weeksNow_9 : decode cX12_weeksNow 9 = .ok (.if_icmp .ge 23, 3) := by decide +kernel
theorem dX12_weeksNow_12 : decode cX12_weeksNow 12 = .ok (.aload_n 0, 1) := by decide +kernel
theorem dX12_weeksNow_13 : decode cX12_weeksNow 13 = .ok (.getfield 50, 3) := by decide +kernel
theorem dX12_weeksNow_16 : decode cX12_weeksNow 16 = .ok (.iload 4, 2) := by decide +kernel
theorem dX12_weeksNow_18 : decode cX12_weeksNow 18 = .ok (.aload_n 0, 1) := by decide +kernel
theorem dX12_weeksNow_19 : decode cX12_weeksNow 19 = .ok (.getfield 28, 3) := by decide +kernel
theorem dX12_weeksNow_22 : decode cX12_weeksNow 22 = .ok (.iload 4, 2) := by decide +kernel
theorem dX12_weeksNow_24 : decode cX12_weeksNow 24 = .ok (.iaload, 1) := by decide +kernel
theorem dX12_weeksNow_25 : decode cX12_weeksNow 25 = .ok (.iastore, 1) := by decide +kernel
theorem dX12_weeksNow_26 : decode cX12_weeksNow 26 = .ok (.iinc 4 1, 3) := by decide +kernel
theorem dX12_weeksNow_29 : decode cX12_weeksNow 29 = .ok (.goto (-26), 3) := by decide +kernel
theorem dX12_weeksNow_32 : decode cX12_weeksNow 32 = .ok (.aload_n 0, 1) := by decide +kernel
theorem dX12_weeksNow_33 : decode cX12_weeksNow 33 = .ok (.iload_n 2, 1) := by decide +kernel
theorem dX12_weeksNow_34 : decode cX12_weeksNow 34 = .ok (.i2l, 1) := by decide +kernel
theorem dX12_weeksNow_35 : decode cX12_weeksNow 35 = .ok (.putfield 218, 3) := by decide +kernel
theorem dX12_weeksNow_38 : decode cX12_weeksNow 38 = .ok (.iconst 0, 1) := by decide +kernel
theorem dX12_weeksNow_39 : decode cX12_weeksNow 39 = .ok (.istore 4, 2) := by decide +kernel
theorem dX12_weeksNow_41 : decode cX12_weeksNow 41 = .ok (.iload 4, 2) := by decide +kernel
theorem dX12_weeksNow_43 : decode cX12_weeksNow 43 = .ok (.iload_n 1, 1) := by decide +kernel
theorem dX12_weeksNow_44 : decode cX12_weeksNow 44 = .ok (.if_icmp .ge 90, 3) := by decide +kernel
theorem dX12_weeksNow_47 : decode cX12_weeksNow 47 = .ok (.aload_n 0, 1) := by decide +kernel
theorem dX12_weeksNow_48 : decode cX12_weeksNow 48 = .ok (.aload_n 0, 1) := by decide +kernel
theorem dX12_weeksNow_49 : decode cX12_weeksNow 49 = .ok (.getfield 106, 3) := by decide +kernel
theorem dX12_weeksNow_52 : decode cX12_weeksNow 52 = .ok (.invokevirtual 228, 3) := by decide +kernel
theorem dX12_weeksNow_55 : decode cX12_weeksNow 55 = .ok (.istore 5, 2) := by decide +kernel
theorem dX12_weeksNow_57 : decode cX12_weeksNow 57 = .ok (.aload_n 0, 1) := by decide +kernel
theorem dX12_weeksNow_58 : decode cX12_weeksNow 58 = .ok (.aload_n 0, 1) := by decide +kernel
theorem dX12_weeksNow_59 : decode cX12_weeksNow 59 = .ok (.getfield 109, 3) := by decide +kernel
theorem dX12_weeksNow_62 : decode cX12_weeksNow 62 = .ok (.invokevirtual 228, 3) := by decide +kernel
theorem dX12_weeksNow_65 : decode cX12_weeksNow 65 = .ok (.istore 6, 2) := by decide +kernel
theorem dX12_weeksNow_67 : decode cX12_weeksNow 67 = .ok (.aload_n 0, 1) := by decide +kernel
theorem dX12_weeksNow_68 : decode cX12_weeksNow 68 = .ok (.getfield 28, 3) := by decide +kernel
theorem dX12_weeksNow_71 : decode cX12_weeksNow 71 = .ok (.iload 5, 2) := by decide +kernel
theorem dX12_weeksNow_73 : decode cX12_weeksNow 73 = .ok (.iaload, 1) := by decide +kernel
theorem dX12_weeksNow_74 : decode cX12_weeksNow 74 = .ok (.iconst (-1), 1) := by decide +kernel
theorem dX12_weeksNow_75 : decode cX12_weeksNow 75 = .ok (.if_icmp .eq 14, 3) := by decide +kernel
theorem dX12_weeksNow_78 : decode cX12_weeksNow 78 = .ok (.aload_n 0, 1) := by decide +kernel
theorem dX12_weeksNow_79 : decode cX12_weeksNow 79 = .ok (.getfield 28, 3) := by decide +kernel
theorem dX12_weeksNow_82 : decode cX12_weeksNow 82 = .ok (.iload 5, 2) := by decide +kernel
theorem dX12_weeksNow_84 : decode cX12_weeksNow 84 = .ok (.iconst (-1), 1) := by decide +kernel
theorem dX12_weeksNow_85 : decode cX12_weeksNow 85 = .ok (.iastore, 1) := by decide +kernel
theorem dX12_weeksNow_86 : decode cX12_weeksNow 86 = .ok (.goto 42, 3) := by decide +kernel
theorem dX12_weeksNow_89 : decode cX12_weeksNow 89 = .ok (.aload_n 0, 1) := by decide +kernel
theorem dX12_weeksNow_90 : decode cX12_weeksNow 90 = .ok (.iload 5, 2) := by decide +kernel
theorem dX12_weeksNow_92 : decode cX12_weeksNow 92 = .ok (.iload 6, 2) := by decide +kernel
theorem dX12_weeksNow_94 : decode cX12_weeksNow 94 = .ok (.invokevirtual 139, 3) := by decide +kernel
theorem dX12_weeksNow_97 : decode cX12_weeksNow 97 = .ok (.ifCond .eq 31, 3) := by decide +kernel
theorem dX12_weeksNow_100 : decode cX12_weeksNow 100 = .ok (.aload_n 0, 1) := by decide +kernel
theorem dX12_weeksNow_101 : decode cX12_weeksNow 101 = .ok (.iload 6, 2) := by decide +kernel
theorem dX12_weeksNow_103 : decode cX12_weeksNow 103 = .ok (.invokevirtual 161, 3) := by decide +kernel
theorem dX12_weeksNow_106 : decode cX12_weeksNow 106 = .ok (.iconst (-1), 1) := by decide +kernel
theorem dX12_weeksNow_107 : decode cX12_weeksNow 107 = .ok (.if_icmp .ne 21, 3) := by decide +kernel
theorem dX12_weeksNow_110 : decode cX12_weeksNow 110 = .ok (.aload_n 0, 1) := by decide +kernel
theorem dX12_weeksNow_111 : decode cX12_weeksNow 111 = .ok (.iload 5, 2) := by decide +kernel
theorem dX12_weeksNow_113 : decode cX12_weeksNow 113 = .ok (.invokevirtual 176, 3) := by decide +kernel
theorem dX12_weeksNow_116 : decode cX12_weeksNow 116 = .ok (.ifCond .eq 12, 3) := by decide +kernel
theorem dX12_weeksNow_119 : decode cX12_weeksNow 119 = .ok (.aload_n 0, 1) := by decide +kernel
theorem dX12_weeksNow_120 : decode cX12_weeksNow 120 = .ok (.getfield 28, 3) := by decide +kernel
theorem dX12_weeksNow_123 : decode cX12_weeksNow 123 = .ok (.iload 5, 2) := by decide +kernel
theorem dX12_weeksNow_125 : decode cX12_weeksNow 125 = .ok (.iload 6, 2) := by decide +kernel
theorem dX12_weeksNow_127 : decode cX12_weeksNow 127 = .ok (.iastore, 1) := by decide +kernel
theorem dX12_weeksNow_128 : decode cX12_weeksNow 128 = .ok (.iinc 4 1, 3) := by decide +kernel
theorem dX12_weeksNow_131 : decode cX12_weeksNow 131 = .ok (.goto (-90), 3) := by decide +kernel
theorem dX12_weeksNow_134 : decode cX12_weeksNow 134 = .ok (.aload_n 0, 1) := by decide +kernel
theorem dX12_weeksNow_135 : decode cX12_weeksNow 135 = .ok (.getfield 109, 3) := by decide +kernel
theorem dX12_weeksNow_138 : decode cX12_weeksNow 138 = .ok (.aload_n 0, 1) := by decide +kernel
theorem dX12_weeksNow_139 : decode cX12_weeksNow 139 = .ok (.invokevirtual 200, 3) := by decide +kernel
theorem dX12_weeksNow_142 : decode cX12_weeksNow 142 = .ok (.isub, 1) := by decide +kernel
theorem dX12_weeksNow_143 : decode cX12_weeksNow 143 = .ok (.istore 4, 2) := by decide +kernel
theorem dX12_weeksNow_145 : decode cX12_weeksNow 145 = .ok (.aload_n 0, 1) := by decide +kernel
theorem dX12_weeksNow_146 : decode cX12_weeksNow 146 = .ok (.invokevirtual 231, 3) := by decide +kernel
theorem dX12_weeksNow_149 : decode cX12_weeksNow 149 = .ok (.istore 5, 2) := by decide +kernel
theorem dX12_weeksNow_151 : decode cX12_weeksNow 151 = .ok (.iconst 0, 1) := by decide +kernel
theorem dX12_weeksNow_152 : decode cX12_weeksNow 152 = .ok (.istore 6, 2) := by decide +kernel
theorem dX12_weeksNow_154 : decode cX12_weeksNow 154 = .ok (.iload 6, 2) := by decide +kernel
theorem dX12_weeksNow_156 : decode cX12_weeksNow 156 = .ok (.aload_n 0, 1) := by decide +kernel
theorem dX12_weeksNow_157 : decode cX12_weeksNow 157 = .ok (.getfield 106, 3) := by decide +kernel
theorem dX12_weeksNow_160 : decode cX12_weeksNow 160 = .ok (.if_icmp .ge 23, 3) := by decide +kernel
theorem dX12_weeksNow_163 : decode cX12_weeksNow 163 = .ok (.aload_n 0, 1) := by decide +kernel
theorem dX12_weeksNow_164 : decode cX12_weeksNow 164 = .ok (.getfield 28, 3) := by decide +kernel
theorem dX12_weeksNow_167 : decode cX12_weeksNow 167 = .ok (.iload 6, 2) := by decide +kernel
theorem dX12_weeksNow_169 : decode cX12_weeksNow 169 = .ok (.aload_n 0, 1) := by decide +kernel
theorem dX12_weeksNow_170 : decode cX12_weeksNow 170 = .ok (.getfield 50, 3) := by decide +kernel
theorem dX12_weeksNow_173 : decode cX12_weeksNow 173 = .ok (.iload 6, 2) := by decide +kernel
theorem dX12_weeksNow_175 : decode cX12_weeksNow 175 = .ok (.iaload, 1) := by decide +kernel
theorem dX12_weeksNow_176 : decode cX12_weeksNow 176 = .ok (.iastore, 1) := by decide +kernel
theorem dX12_weeksNow_177 : decode cX12_weeksNow 177 = .ok (.iinc 6 1, 3) := by decide +kernel
theorem dX12_weeksNow_180 : decode cX12_weeksNow 180 = .ok (.goto (-26), 3) := by decide +kernel
theorem dX12_weeksNow_183 : decode cX12_weeksNow 183 = .ok (.iload_n 3, 1) := by decide +kernel
theorem dX12_weeksNow_184 : decode cX12_weeksNow 184 = .ok (.ifCond .ne 8, 3) := by decide +kernel
theorem dX12_weeksNow_187 : decode cX12_weeksNow 187 = .ok (.iload 4, 2) := by decide +kernel
theorem dX12_weeksNow_189 : decode cX12_weeksNow 189 = .ok (.goto 18, 3) := by decide +kernel
theorem dX12_weeksNow_192 : decode cX12_weeksNow 192 = .ok (.iload_n 3, 1) := by decide +kernel
theorem dX12_weeksNow_193 : decode cX12_weeksNow 193 = .ok (.iconst 1, 1) := by decide +kernel
theorem dX12_weeksNow_194 : decode cX12_weeksNow 194 = .ok (.if_icmp .ne 8, 3) := by decide +kernel
theorem dX12_weeksNow_197 : decode cX12_weeksNow 197 = .ok (.iload 5, 2) := by decide +kernel
theorem dX12_weeksNow_199 : decode cX12_weeksNow 199 = .ok (.goto 8, 3) := by decide +kernel
theorem dX12_weeksNow_202 : decode cX12_weeksNow 202 = .ok (.aload_n 0, 1) := by decide +kernel
theorem dX12_weeksNow_203 : decode cX12_weeksNow 203 = .ok (.getfield 218, 3) := by decide +kernel
theorem dX12_weeksNow_206 : decode cX12_weeksNow 206 = .ok (.l2i, 1) := by decide +kernel
theorem dX12_weeksNow_207 : decode cX12_weeksNow 207 = .ok (.ireturn, 1) := by decide +kernel
theorem dX12_weeks_0 : decode cX12_weeks 0 = .ok (.iload_n 1, 1) := by decide +kernel
theorem dX12_weeks_1 : decode cX12_weeks 1 = .ok (.iconst 1, 1) := by decide +kernel
theorem dX12_weeks_2 : decode cX12_weeks 2 = .ok (.bipush 60, 2) := by decide +kernel
theorem dX12_weeks_4 : decode cX12_weeks 4 = .ok (.invokestatic 71, 3) := by decide +kernel
theorem dX12_weeks_7 : decode cX12_weeks 7 = .ok (.ifCond .eq 16, 3) := by decide +kernel
theorem dX12_weeks_10 : decode cX12_weeks 10 = .ok (.iload_n 2, 1) := by decide +kernel
theorem dX12_weeks_11 : decode cX12_weeks 11 = .ok (.ifCond .lt 12, 3) := by decide +kernel
theorem dX12_weeks_14 : decode cX12_weeks 14 = .ok (.iload_n 3, 1) := by decide +kernel
theorem dX12_weeks_15 : decode cX12_weeks 15 = .ok (.iconst 0, 1) := by decide +kernel
theorem dX12_weeks_16 : decode cX12_weeks 16 = .ok (.iconst 2, 1) := by decide +kernel
theorem dX12_weeks_17 : decode cX12_weeks 17 = .ok (.invokestatic 71, 3) := by decide +kernel
theorem dX12_weeks_20 : decode cX12_weeks 20 = .ok (.ifCond .ne 6, 3) := by decide +kernel
theorem dX12_weeks_23 : decode cX12_weeks 23 = .ok (.bipush (-102), 2) := by decide +kernel
theorem dX12_weeks_25 : decode cX12_weeks 25 = .ok (.ireturn, 1) := by decide +kernel
theorem dX12_weeks_26 : decode cX12_weeks 26 = .ok (.aload_n 0, 1) := by decide +kernel
theorem dX12_weeks_27 : decode cX12_weeks 27 = .ok (.getfield 106, 3) := by decide +kernel
theorem dX12_weeks_30 : decode cX12_weeks 30 = .ok (.ifCond .ne 8, 3) := by decide +kernel
theorem dX12_weeks_33 : decode cX12_weeks 33 = .ok (.bipush (-103), 2) := by decide +kernel
theorem dX12_weeks_35 : decode cX12_weeks 35 = .ok (.goto 10, 3) := by decide +kernel
theorem dX12_weeks_38 : decode cX12_weeks 38 = .ok (.aload_n 0, 1) := by decide +kernel
theorem dX12_weeks_39 : decode cX12_weeks 39 = .ok (.iload_n 1, 1) := by decide +kernel
theorem dX12_weeks_40 : decode cX12_weeks 40 = .ok (.iload_n 2, 1) := by decide +kernel
theorem dX12_weeks_41 : decode cX12_weeks 41 = .ok (.iload_n 3, 1) := by decide +kernel
theorem dX12_weeks_42 : decode cX12_weeks 42 = .ok (.invokevirtual 234, 3) := by decide +kernel
theorem dX12_weeks_45 : decode cX12_weeks 45 = .ok (.ireturn, 1) := by decide +kernel
theorem dX12_image_0 : decode cX12_image 0 = .ok (.aload_n 0, 1) := by decide +kernel
theorem dX12_image_1 : decode cX12_image 1 = .ok (.getfield 106, 3) := by decide +kernel
theorem dX12_image_4 : decode cX12_image 4 = .ok (.ifCond .ne 6, 3) := by decide +kernel
theorem dX12_image_7 : decode cX12_image 7 = .ok (.bipush (-103), 2) := by decide +kernel
theorem dX12_image_9 : decode cX12_image 9 = .ok (.ireturn, 1) := by decide +kernel
theorem dX12_image_10 : decode cX12_image 10 = .ok (.aload_n 0, 1) := by decide +kernel
theorem dX12_image_11 : decode cX12_image 11 = .ok (.iconst 1, 1) := by decide +kernel
theorem dX12_image_12 : decode cX12_image 12 = .ok (.putfield 238, 3) := by decide +kernel
theorem dX12_image_15 : decode cX12_image 15 = .ok (.aload_n 0, 1) := by decide +kernel
theorem dX12_image_16 : decode cX12_image 16 = .ok (.aload_n 0, 1) := by decide +kernel
theorem dX12_image_17 : decode cX12_image 17 = .ok (.getfield 112, 3) := by decide +kernel
theorem dX12_image_20 : decode cX12_image 20 = .ok (.putfield 241, 3) := by decide +kernel
theorem dX12_image_23 : decode cX12_image 23 = .ok (.aload_n 0, 1) := by decide +kernel
theorem dX12_image_24 : decode cX12_image 24 = .ok (.aload_n 0, 1) := by decide +kernel
theorem dX12_image_25 : decode cX12_image 25 = .ok (.getfield 115, 3) := by decide +kernel
theorem dX12_image_28 : decode cX12_image 28 = .ok (.putfield 244, 3) := by decide +kernel
theorem dX12_image_31 : decode cX12_image 31 = .ok (.aload_n 0, 1) := by decide +kernel
theorem dX12_image_32 : decode cX12_image 32 = .ok (.aload_n 0, 1) := by decide +kernel
theorem dX12_image_33 : decode cX12_image 33 = .ok (.getfield 118, 3) := by decide +kernel
theorem dX12_image_36 : decode cX12_image 36 = .ok (.putfield 247, 3) := by decide +kernel
theorem dX12_image_39 : decode cX12_image 39 = .ok (.aload_n 0, 1) := by decide +kernel
theorem dX12_image_40 : decode cX12_image 40 = .ok (.aload_n 0, 1) := by decide +kernel
theorem dX12_image_41 : decode cX12_image 41 = .ok (.getfield 121, 3) := by decide +kernel
theorem dX12_image_44 : decode cX12_image 44 = .ok (.putfield 250, 3) := by decide +kernel
theorem dX12_image_47 : decode cX12_image 47 = .ok (.iconst 0, 1) := by decide +kernel
theorem dX12_image_48 : decode cX12_image 48 = .ok (.istore_n 1, 1) := by decide +kernel
theorem dX12_image_49 : decode cX12_image 49 = .ok (.iload_n 1, 1) := by decide +kernel
theorem dX12_image_50 : decode cX12_image 50 = .ok (.iconst 4, 1) := by decide +kernel
theorem dX12_image_51 : decode cX12_image 51 = .ok (.if_icmp .ge 33, 3) := by decide +kernel
theorem dX12_image_54 : decode cX12_image 54 = .ok (.aload_n 0, 1) := by decide +kernel
theorem dX12_image_55 : decode cX12_image 55 = .ok (.getfield 53, 3) := by decide +kernel
theorem dX12_image_58 : decode cX12_image 58 = .ok (.iload_n 1, 1) := by decide +kernel
theorem dX12_image_59 : decode cX12_image 59 = .ok (.aload_n 0, 1) := by decide +kernel
theorem dX12_image_60 : decode cX12_image 60 = .ok (.getfield 19, 3) := by decide +kernel
theorem dX12_image_63 : decode cX12_image 63 = .ok (.iload_n 1, 1) := by decide +kernel
theorem dX12_image_64 : decode cX12_image 64 = .ok (.iaload, 1) := by decide +kernel
theorem dX12_image_65 : decode cX12_image 65 = .ok (.iastore, 1) := by decide +kernel
theorem dX12_image_66 : decode cX12_image 66 = .ok (.aload_n 0, 1) := by decide +kernel
theorem dX12_image_67 : decode cX12_image 67 = .ok (.getfield 56, 3) := by decide +kernel
theorem dX12_image_70 : decode cX12_image 70 = .ok (.iload_n 1, 1) := by decide +kernel
theorem dX12_image_71 : decode cX12_image 71 = .ok (.aload_n 0, 1) := by decide +kernel
theorem dX12_image_72 : decode cX12_image 72 = .ok (.getfield 28, 3) := by decide +kernel
theorem dX12_image_75 : decode cX12_image 75 = .ok (.iload_n 1, 1) := by decide +kernel
theorem dX12_image_76 : decode cX12_image 76 = .ok (.iaload, 1) := by decide +kernel
theorem dX12_image_77 : decode cX12_image 77 = .ok (.iastore, 1) := by decide +kernel
theorem dX12_image_78 : decode cX12_image 78 = .ok (.iinc 1 1, 3) := by decide +kernel
theorem dX12_image_81 : decode cX12_image 81 = .ok (.goto (-32), 3) := by decide +kernel
theorem dX12_image_84 : decode cX12_image 84 = .ok (.iconst 0, 1) := by decide +kernel
theorem dX12_image_85 : decode cX12_image 85 = .ok (.istore_n 1, 1) := by decide +kernel
theorem dX12_image_86 : decode cX12_image 86 = .ok (.iload_n 1, 1) := by decide +kernel
theorem dX12_image_87 : decode cX12_image 87 = .ok (.bipush 6, 2) := by decide +kernel
theorem dX12_image_89 : decode cX12_image 89 = .ok (.if_icmp .ge 57, 3) := by decide +kernel
theorem dX12_image_92 : decode cX12_image 92 = .ok (.aload_n 0, 1) := by decide +kernel
theorem dX12_image_93 : decode cX12_image 93 = .ok (.getfield 59, 3) := by decide +kernel
theorem dX12_image_96 : decode cX12_image 96 = .ok (.iload_n 1, 1) := by decide +kernel
theorem dX12_image_97 : decode cX12_image 97 = .ok (.aload_n 0, 1) := by decide +kernel
theorem dX12_image_98 : decode cX12_image 98 = .ok (.getfield 31, 3) := by decide +kernel
theorem dX12_image_101 : decode cX12_image 101 = .ok (.iload_n 1, 1) := by decide +kernel
theorem dX12_image_102 : decode cX12_image 102 = .ok (.iaload, 1) := by decide +kernel
theorem dX12_image_103 : decode cX12_image 103 = .ok (.iastore, 1) := by decide +kernel
theorem dX12_image_104 : decode cX12_image 104 = .ok (.aload_n 0, 1) := by decide +kernel
theorem dX12_image_105 : decode cX12_image 105 = .ok (.getfield 62, 3) := by decide +kernel
theorem dX12_image_108 : decode cX12_image 108 = .ok (.iload_n 1, 1) := by decide +kernel
theorem dX12_image_109 : decode cX12_image 109 = .ok (.aload_n 0, 1) := by decide +kernel
theorem dX12_image_110 : decode cX12_image 110 = .ok (.getfield 34, 3) := by decide +kernel
theorem dX12_image_113 : decode cX12_image 113 = .ok (.iload_n 1, 1) := by decide +kernel
theorem dX12_image_114 : decode cX12_image 114 = .ok (.iaload, 1) := by decide +kernel
theorem dX12_image_115 : decode cX12_image 115 = .ok (.iastore, 1) := by decide +kernel
theorem dX12_image_116 : decode cX12_image 116 = .ok (.aload_n 0, 1) := by decide +kernel
theorem dX12_image_117 : decode cX12_image 117 = .ok (.getfield 65, 3) := by decide +kernel
theorem dX12_image_120 : decode cX12_image 120 = .ok (.iload_n 1, 1) := by decide +kernel
theorem dX12_image_121 : decode cX12_image 121 = .ok (.aload_n 0, 1) := by decide +kernel
theorem dX12_image_122 : decode cX12_image 122 = .ok (.getfield 37, 3) := by decide +kernel
theorem dX12_image_125 : decode cX12_image 125 = .ok (.iload_n 1, 1) := by decide +kernel
theorem dX12_image_126 : decode cX12_image 126 = .ok (.iaload, 1) := by decide +kernel
theorem dX12_image_127 : decode cX12_image 127 = .ok (.iastore, 1) := by decide +kernel
theorem dX12_image_128 : decode cX12_image 128 = .ok (.aload_n 0, 1) := by decide +kernel
theorem dX12_image_129 : decode cX12_image 129 = .ok (.getfield 68, 3) := by decide +kernel
theorem dX12_image_132 : decode cX12_image 132 = .ok (.iload_n 1, 1) := by decide +kernel
theorem dX12_image_133 : decode cX12_image 133 = .ok (.aload_n 0, 1) := by decide +kernel
theorem dX12_image_134 : decode cX12_image 134 = .ok (.getfield 40, 3) := by decide +kernel
theorem dX12_image_137 : decode cX12_image 137 = .ok (.iload_n 1, 1) := by decide +kernel
theorem dX12_image_138 : decode cX12_image 138 = .ok (.iaload, 1) := by decide +kernel
theorem dX12_image_139 : decode cX12_image 139 = .ok (.iastore, 1) := by decide +kernel
theorem dX12_image_140 : decode cX12_image 140 = .ok (.iinc 1 1, 3) := by decide +kernel
theorem dX12_image_143 : decode cX12_image 143 = .ok (.goto (-57), 3) := by decide +kernel
theorem dX12_image_146 : decode cX12_image 146 = .ok (.aload_n 0, 1) := by decide +kernel
theorem dX12_image_147 : decode cX12_image 147 = .ok (.getfield 118, 3) := by decide +kernel
theorem dX12_image_150 : decode cX12_image 150 = .ok (.ireturn, 1) := by decide +kernel
theorem dX12_restore_0 : decode cX12_restore 0 = .ok (.aload_n 0, 1) := by decide +kernel
theorem dX12_restore_1 : decode cX12_restore 1 = .ok (.getfield 238, 3) := by decide +kernel
theorem dX12_restore_4 : decode cX12_restore 4 = .ok (.ifCond .eq 14, 3) := by decide +kernel
theorem dX12_restore_7 : decode cX12_restore 7 = .ok (.aload_n 0, 1) := by decide +kernel
theorem dX12_restore_8 : decode cX12_restore 8 = .ok (.getfield 241, 3) := by decide +kernel
theorem dX12_restore_11 : decode cX12_restore 11 = .ok (.aload_n 0, 1) := by decide +kernel
theorem dX12_restore_12 : decode cX12_restore 12 = .ok (.getfield 112, 3) := by decide +kernel
theorem dX12_restore_15 : decode cX12_restore 15 = .ok (.if_icmp .eq 6, 3) := by decide +kernel
theorem dX12_restore_18 : decode cX12_restore 18 = .ok (.bipush (-103), 2) := by decide +kernel
theorem dX12_restore_20 : decode cX12_restore 20 = .ok (.ireturn, 1) := by decide +kernel
theorem dX12_restore_21 : decode cX12_restore 21 = .ok (.aload_n 0, 1) := by decide +kernel
theorem dX12_restore_22 : decode cX12_restore 22 = .ok (.aload_n 0, 1) := by decide +kernel
theorem dX12_restore_23 : decode cX12_restore 23 = .ok (.getfield 244, 3) := by decide +kernel
theorem dX12_restore_26 : decode cX12_restore 26 = .ok (.putfield 115, 3) := by decide +kernel
theorem dX12_restore_29 : decode cX12_restore 29 = .ok (.aload_n 0, 1) := by decide +kernel
theorem dX12_restore_30 : decode cX12_restore 30 = .ok (.aload_n 0, 1) := by decide +kernel
theorem dX12_restore_31 : decode cX12_restore 31 = .ok (.getfield 247, 3) := by decide +kernel
theorem dX12_restore_34 : decode cX12_restore 34 = .ok (.putfield 118, 3) := by decide +kernel
theorem dX12_restore_37 : decode cX12_restore 37 = .ok (.aload_n 0, 1) := by decide +kernel
theorem dX12_restore_38 : decode cX12_restore 38 = .ok (.aload_n 0, 1) := by decide +kernel
theorem dX12_restore_39 : decode cX12_restore 39 = .ok (.getfield 250, 3) := by decide +kernel
theorem dX12_restore_42 : decode cX12_restore 42 = .ok (.putfield 121, 3) := by decide +kernel
theorem dX12_restore_45 : decode cX12_restore 45 = .ok (.iconst 0, 1) := by decide +kernel
theorem dX12_restore_46 : decode cX12_restore 46 = .ok (.istore_n 1, 1) := by decide +kernel
theorem dX12_restore_47 : decode cX12_restore 47 = .ok (.iload_n 1, 1) := by decide +kernel
theorem dX12_restore_48 : decode cX12_restore 48 = .ok (.iconst 4, 1) := by decide +kernel
theorem dX12_restore_49 : decode cX12_restore 49 = .ok (.if_icmp .ge 33, 3) := by decide +kernel
theorem dX12_restore_52 : decode cX12_restore 52 = .ok (.aload_n 0, 1) := by decide +kernel
theorem dX12_restore_53 : decode cX12_restore 53 = .ok (.getfield 19, 3) := by decide +kernel
theorem dX12_restore_56 : decode cX12_restore 56 = .ok (.iload_n 1, 1) := by decide +kernel
theorem dX12_restore_57 : decode cX12_restore 57 = .ok (.aload_n 0, 1) := by decide +kernel
theorem dX12_restore_58 : decode cX12_restore 58 = .ok (.getfield 53, 3) := by decide +kernel
theorem dX12_restore_61 : decode cX12_restore 61 = .ok (.iload_n 1, 1) := by decide +kernel
theorem dX12_restore_62 : decode cX12_restore 62 = .ok (.iaload, 1) := by decide +kernel
theorem dX12_restore_63 : decode cX12_restore 63 = .ok (.iastore, 1) := by decide +kernel
theorem dX12_restore_64 : decode cX12_restore 64 = .ok (.aload_n 0, 1) := by decide +kernel
theorem dX12_restore_65 : decode cX12_restore 65 = .ok (.getfield 28, 3) := by decide +kernel
theorem dX12_restore_68 : decode cX12_restore 68 = .ok (.iload_n 1, 1) := by decide +kernel
theorem dX12_restore_69 : decode cX12_restore 69 = .ok (.aload_n 0, 1) := by decide +kernel
theorem dX12_restore_70 : decode cX12_restore 70 = .ok (.getfield 56, 3) := by decide +kernel
theorem dX12_restore_73 : decode cX12_restore 73 = .ok (.iload_n 1, 1) := by decide +kernel
theorem dX12_restore_74 : decode cX12_restore 74 = .ok (.iaload, 1) := by decide +kernel
theorem dX12_restore_75 : decode cX12_restore 75 = .ok (.iastore, 1) := by decide +kernel
theorem dX12_restore_76 : decode cX12_restore 76 = .ok (.iinc 1 1, 3) := by decide +kernel
theorem dX12_restore_79 : decode cX12_restore 79 = .ok (.goto (-32), 3) := by decide +kernel
theorem dX12_restore_82 : decode cX12_restore 82 = .ok (.iconst 0, 1) := by decide +kernel
theorem dX12_restore_83 : decode cX12_restore 83 = .ok (.istore_n 1, 1) := by decide +kernel
theorem dX12_restore_84 : decode cX12_restore 84 = .ok (.iload_n 1, 1) := by decide +kernel
theorem dX12_restore_85 : decode cX12_restore 85 = .ok (.bipush 6, 2) := by decide +kernel
theorem dX12_restore_87 : decode cX12_restore 87 = .ok (.if_icmp .ge 57, 3) := by decide +kernel
theorem dX12_restore_90 : decode cX12_restore 90 = .ok (.aload_n 0, 1) := by decide +kernel
theorem dX12_restore_91 : decode cX12_restore 91 = .ok (.getfield 31, 3) := by decide +kernel
theorem dX12_restore_94 : decode cX12_restore 94 = .ok (.iload_n 1, 1) := by decide +kernel
theorem dX12_restore_95 : decode cX12_restore 95 = .ok (.aload_n 0, 1) := by decide +kernel
theorem dX12_restore_96 : decode cX12_restore 96 = .ok (.getfield 59, 3) := by decide +kernel
theorem dX12_restore_99 : decode cX12_restore 99 = .ok (.iload_n 1, 1) := by decide +kernel
theorem dX12_restore_100 : decode cX12_restore 100 = .ok (.iaload, 1) := by decide +kernel
theorem dX12_restore_101 : decode cX12_restore 101 = .ok (.iastore, 1) := by decide +kernel
theorem dX12_restore_102 : decode cX12_restore 102 = .ok (.aload_n 0, 1) := by decide +kernel
theorem dX12_restore_103 : decode cX12_restore 103 = .ok (.getfield 34, 3) := by decide +kernel
theorem dX12_restore_106 : decode cX12_restore 106 = .ok (.iload_n 1, 1) := by decide +kernel
theorem dX12_restore_107 : decode cX12_restore 107 = .ok (.aload_n 0, 1) := by decide +kernel
theorem dX12_restore_108 : decode cX12_restore 108 = .ok (.getfield 62, 3) := by decide +kernel
theorem dX12_restore_111 : decode cX12_restore 111 = .ok (.iload_n 1, 1) := by decide +kernel
theorem dX12_restore_112 : decode cX12_restore 112 = .ok (.iaload, 1) := by decide +kernel
theorem dX12_restore_113 : decode cX12_restore 113 = .ok (.iastore, 1) := by decide +kernel
theorem dX12_restore_114 : decode cX12_restore 114 = .ok (.aload_n 0, 1) := by decide +kernel
theorem dX12_restore_115 : decode cX12_restore 115 = .ok (.getfield 37, 3) := by decide +kernel
theorem dX12_restore_118 : decode cX12_restore 118 = .ok (.iload_n 1, 1) := by decide +kernel
theorem dX12_restore_119 : decode cX12_restore 119 = .ok (.aload_n 0, 1) := by decide +kernel
theorem dX12_restore_120 : decode cX12_restore 120 = .ok (.getfield 65, 3) := by decide +kernel
theorem dX12_restore_123 : decode cX12_restore 123 = .ok (.iload_n 1, 1) := by decide +kernel
theorem dX12_restore_124 : decode cX12_restore 124 = .ok (.iaload, 1) := by decide +kernel
theorem dX12_restore_125 : decode cX12_restore 125 = .ok (.iastore, 1) := by decide +kernel
theorem dX12_restore_126 : decode cX12_restore 126 = .ok (.aload_n 0, 1) := by decide +kernel
theorem dX12_restore_127 : decode cX12_restore 127 = .ok (.getfield 40, 3) := by decide +kernel
theorem dX12_restore_130 : decode cX12_restore 130 = .ok (.iload_n 1, 1) := by decide +kernel
theorem dX12_restore_131 : decode cX12_restore 131 = .ok (.aload_n 0, 1) := by decide +kernel
theorem dX12_restore_132 : decode cX12_restore 132 = .ok (.getfield 68, 3) := by decide +kernel
theorem dX12_restore_135 : decode cX12_restore 135 = .ok (.iload_n 1, 1) := by decide +kernel
theorem dX12_restore_136 : decode cX12_restore 136 = .ok (.iaload, 1) := by decide +kernel
theorem dX12_restore_137 : decode cX12_restore 137 = .ok (.iastore, 1) := by decide +kernel
theorem dX12_restore_138 : decode cX12_restore 138 = .ok (.iinc 1 1, 3) := by decide +kernel
theorem dX12_restore_141 : decode cX12_restore 141 = .ok (.goto (-57), 3) := by decide +kernel
theorem dX12_restore_144 : decode cX12_restore 144 = .ok (.aload_n 0, 1) := by decide +kernel
theorem dX12_restore_145 : decode cX12_restore 145 = .ok (.getfield 118, 3) := by decide +kernel
theorem dX12_restore_148 : decode cX12_restore 148 = .ok (.ireturn, 1) := by decide +kernel
theorem dX12_howMany_0 : decode cX12_howMany 0 = .ok (.iload_n 1, 1) := by decide +kernel
theorem dX12_howMany_1 : decode cX12_howMany 1 = .ok (.tableswitch 110 0 9 #[55, 60, 65, 75, 80, 85, 90, 95, 100, 105], 55) := by decide +kernel
