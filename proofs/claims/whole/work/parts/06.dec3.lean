theorem dX8_byHalves_13 : decode cX8_byHalves 13 = .ok (.iconst 1, 1) := by decide +kernel
theorem dX8_byHalves_14 : decode cX8_byHalves 14 = .ok (.isub, 1) := by decide +kernel
theorem dX8_byHalves_15 : decode cX8_byHalves 15 = .ok (.iconst 0, 1) := by decide +kernel
theorem dX8_byHalves_16 : decode cX8_byHalves 16 = .ok (.aload_n 0, 1) := by decide +kernel
theorem dX8_byHalves_17 : decode cX8_byHalves 17 = .ok (.getfield 7, 3) := by decide +kernel
theorem dX8_byHalves_20 : decode cX8_byHalves 20 = .ok (.iconst 1, 1) := by decide +kernel
theorem dX8_byHalves_21 : decode cX8_byHalves 21 = .ok (.iaload, 1) := by decide +kernel
theorem dX8_byHalves_22 : decode cX8_byHalves 22 = .ok (.iconst 1, 1) := by decide +kernel
theorem dX8_byHalves_23 : decode cX8_byHalves 23 = .ok (.isub, 1) := by decide +kernel
theorem dX8_byHalves_24 : decode cX8_byHalves 24 = .ok (.invokevirtual 79, 3) := by decide +kernel
theorem dX8_byHalves_27 : decode cX8_byHalves 27 = .ok (.aload_n 0, 1) := by decide +kernel
theorem dX8_byHalves_28 : decode cX8_byHalves 28 = .ok (.getfield 76, 3) := by decide +kernel
theorem dX8_byHalves_31 : decode cX8_byHalves 31 = .ok (.ifCond .le 129, 3) := by decide +kernel
theorem dX8_byHalves_34 : decode cX8_byHalves 34 = .ok (.aload_n 0, 1) := by decide +kernel
theorem dX8_byHalves_35 : decode cX8_byHalves 35 = .ok (.dup, 1) := by decide +kernel
theorem dX8_byHalves_36 : decode cX8_byHalves 36 = .ok (.getfield 76, 3) := by decide +kernel
theorem dX8_byHalves_39 : decode cX8_byHalves 39 = .ok (.iconst 1, 1) := by decide +kernel
theorem dX8_byHalves_40 : decode cX8_byHalves 40 = .ok (.isub, 1) := by decide +kernel
theorem dX8_byHalves_41 : decode cX8_byHalves 41 = .ok (.putfield 76, 3) := by decide +kernel
theorem dX8_byHalves_44 : decode cX8_byHalves 44 = .ok (.aload_n 0, 1) := by decide +kernel
theorem dX8_byHalves_45 : decode cX8_byHalves 45 = .ok (.getfield 28, 3) := by decide +kernel
theorem dX8_byHalves_48 : decode cX8_byHalves 48 = .ok (.iconst 4, 1) := by decide +kernel
theorem dX8_byHalves_49 : decode cX8_byHalves 49 = .ok (.aload_n 0, 1) := by decide +kernel
theorem dX8_byHalves_50 : decode cX8_byHalves 50 = .ok (.getfield 76, 3) := by decide +kernel
theorem dX8_byHalves_53 : decode cX8_byHalves 53 = .ok (.imul, 1) := by decide +kernel
theorem dX8_byHalves_54 : decode cX8_byHalves 54 = .ok (.iaload, 1) := by decide +kernel
theorem dX8_byHalves_55 : decode cX8_byHalves 55 = .ok (.istore_n 1, 1) := by decide +kernel
theorem dX8_byHalves_56 : decode cX8_byHalves 56 = .ok (.aload_n 0, 1) := by decide +kernel
theorem dX8_byHalves_57 : decode cX8_byHalves 57 = .ok (.getfield 28, 3) := by decide +kernel
theorem dX8_byHalves_60 : decode cX8_byHalves 60 = .ok (.iconst 4, 1) := by decide +kernel
theorem dX8_byHalves_61 : decode cX8_byHalves 61 = .ok (.aload_n 0, 1) := by decide +kernel
theorem dX8_byHalves_62 : decode cX8_byHalves 62 = .ok (.getfield 76, 3) := by decide +kernel
theorem dX8_byHalves_65 : decode cX8_byHalves 65 = .ok (.imul, 1) := by decide +kernel
theorem dX8_byHalves_66 : decode cX8_byHalves 66 = .ok (.iconst 1, 1) := by decide +kernel
theorem dX8_byHalves_67 : decode cX8_byHalves 67 = .ok (.iadd, 1) := by decide +kernel
theorem dX8_byHalves_68 : decode cX8_byHalves 68 = .ok (.iaload, 1) := by decide +kernel
theorem dX8_byHalves_69 : decode cX8_byHalves 69 = .ok (.istore_n 2, 1) := by decide +kernel
theorem dX8_byHalves_70 : decode cX8_byHalves 70 = .ok (.aload_n 0, 1) := by decide +kernel
theorem dX8_byHalves_71 : decode cX8_byHalves 71 = .ok (.getfield 28, 3) := by decide +kernel
theorem dX8_byHalves_74 : decode cX8_byHalves 74 = .ok (.iconst 4, 1) := by decide +kernel
theorem dX8_byHalves_75 : decode cX8_byHalves 75 = .ok (.aload_n 0, 1) := by decide +kernel
theorem dX8_byHalves_76 : decode cX8_byHalves 76 = .ok (.getfield 76, 3) := by decide +kernel
theorem dX8_byHalves_79 : decode cX8_byHalves 79 = .ok (.imul, 1) := by decide +kernel
theorem dX8_byHalves_80 : decode cX8_byHalves 80 = .ok (.iconst 2, 1) := by decide +kernel
theorem dX8_byHalves_81 : decode cX8_byHalves 81 = .ok (.iadd, 1) := by decide +kernel
theorem dX8_byHalves_82 : decode cX8_byHalves 82 = .ok (.iaload, 1) := by decide +kernel
theorem dX8_byHalves_83 : decode cX8_byHalves 83 = .ok (.istore_n 3, 1) := by decide +kernel
theorem dX8_byHalves_84 : decode cX8_byHalves 84 = .ok (.aload_n 0, 1) := by decide +kernel
theorem dX8_byHalves_85 : decode cX8_byHalves 85 = .ok (.getfield 28, 3) := by decide +kernel
theorem dX8_byHalves_88 : decode cX8_byHalves 88 = .ok (.iconst 4, 1) := by decide +kernel
theorem dX8_byHalves_89 : decode cX8_byHalves 89 = .ok (.aload_n 0, 1) := by decide +kernel
theorem dX8_byHalves_90 : decode cX8_byHalves 90 = .ok (.getfield 76, 3) := by decide +kernel
theorem dX8_byHalves_93 : decode cX8_byHalves 93 = .ok (.imul, 1) := by decide +kernel
theorem dX8_byHalves_94 : decode cX8_byHalves 94 = .ok (.iconst 3, 1) := by decide +kernel
theorem dX8_byHalves_95 : decode cX8_byHalves 95 = .ok (.iadd, 1) := by decide +kernel
theorem dX8_byHalves_96 : decode cX8_byHalves 96 = .ok (.iaload, 1) := by decide +kernel
theorem dX8_byHalves_97 : decode cX8_byHalves 97 = .ok (.istore 4, 2) := by decide +kernel
theorem dX8_byHalves_99 : decode cX8_byHalves 99 = .ok (.iload_n 1, 1) := by decide +kernel
theorem dX8_byHalves_100 : decode cX8_byHalves 100 = .ok (.iload_n 2, 1) := by decide +kernel
theorem dX8_byHalves_101 : decode cX8_byHalves 101 = .ok (.iadd, 1) := by decide +kernel
theorem dX8_byHalves_102 : decode cX8_byHalves 102 = .ok (.iconst 2, 1) := by decide +kernel
theorem dX8_byHalves_103 : decode cX8_byHalves 103 = .ok (.idiv, 1) := by decide +kernel
theorem dX8_byHalves_104 : decode cX8_byHalves 104 = .ok (.istore 5, 2) := by decide +kernel
theorem dX8_byHalves_106 : decode cX8_byHalves 106 = .ok (.aload_n 0, 1) := by decide +kernel
theorem dX8_byHalves_107 : decode cX8_byHalves 107 = .ok (.getfield 25, 3) := by decide +kernel
theorem dX8_byHalves_110 : decode cX8_byHalves 110 = .ok (.iload 5, 2) := by decide +kernel
theorem dX8_byHalves_112 : decode cX8_byHalves 112 = .ok (.aload_n 0, 1) := by decide +kernel
theorem dX8_byHalves_113 : decode cX8_byHalves 113 = .ok (.iload 5, 2) := by decide +kernel
theorem dX8_byHalves_115 : decode cX8_byHalves 115 = .ok (.iload_n 3, 1) := by decide +kernel
theorem dX8_byHalves_116 : decode cX8_byHalves 116 = .ok (.iload 4, 2) := by decide +kernel
theorem dX8_byHalves_118 : decode cX8_byHalves 118 = .ok (.invokevirtual 72, 3) := by decide +kernel
theorem dX8_byHalves_121 : decode cX8_byHalves 121 = .ok (.iastore, 1) := by decide +kernel
theorem dX8_byHalves_122 : decode cX8_byHalves 122 = .ok (.aload_n 0, 1) := by decide +kernel
theorem dX8_byHalves_123 : decode cX8_byHalves 123 = .ok (.iload_n 1, 1) := by decide +kernel
theorem dX8_byHalves_124 : decode cX8_byHalves 124 = .ok (.iload 5, 2) := by decide +kernel
theorem dX8_byHalves_126 : decode cX8_byHalves 126 = .ok (.iconst 1, 1) := by decide +kernel
theorem dX8_byHalves_127 : decode cX8_byHalves 127 = .ok (.isub, 1) := by decide +kernel
theorem dX8_byHalves_128 : decode cX8_byHalves 128 = .ok (.iload_n 3, 1) := by decide +kernel
theorem dX8_byHalves_129 : decode cX8_byHalves 129 = .ok (.aload_n 0, 1) := by decide +kernel
theorem dX8_byHalves_130 : decode cX8_byHalves 130 = .ok (.getfield 25, 3) := by decide +kernel
theorem dX8_byHalves_133 : decode cX8_byHalves 133 = .ok (.iload 5, 2) := by decide +kernel
theorem dX8_byHalves_135 : decode cX8_byHalves 135 = .ok (.iaload, 1) := by decide +kernel
theorem dX8_byHalves_136 : decode cX8_byHalves 136 = .ok (.invokevirtual 79, 3) := by decide +kernel
theorem dX8_byHalves_139 : decode cX8_byHalves 139 = .ok (.aload_n 0, 1) := by decide +kernel
theorem dX8_byHalves_140 : decode cX8_byHalves 140 = .ok (.iload 5, 2) := by decide +kernel
theorem dX8_byHalves_142 : decode cX8_byHalves 142 = .ok (.iconst 1, 1) := by decide +kernel
theorem dX8_byHalves_143 : decode cX8_byHalves 143 = .ok (.iadd, 1) := by decide +kernel
theorem dX8_byHalves_144 : decode cX8_byHalves 144 = .ok (.iload_n 2, 1) := by decide +kernel
theorem dX8_byHalves_145 : decode cX8_byHalves 145 = .ok (.aload_n 0, 1) := by decide +kernel
theorem dX8_byHalves_146 : decode cX8_byHalves 146 = .ok (.getfield 25, 3) := by decide +kernel
theorem dX8_byHalves_149 : decode cX8_byHalves 149 = .ok (.iload 5, 2) := by decide +kernel
theorem dX8_byHalves_151 : decode cX8_byHalves 151 = .ok (.iaload, 1) := by decide +kernel
theorem dX8_byHalves_152 : decode cX8_byHalves 152 = .ok (.iload 4, 2) := by decide +kernel
theorem dX8_byHalves_154 : decode cX8_byHalves 154 = .ok (.invokevirtual 79, 3) := by decide +kernel
theorem dX8_byHalves_157 : decode cX8_byHalves 157 = .ok (.goto (-130), 3) := by decide +kernel
theorem dX8_byHalves_160 : decode cX8_byHalves 160 = .ok (.return_, 1) := by decide +kernel
theorem dX8_rowAt_0 : decode cX8_rowAt 0 = .ok (.iload_n 1, 1) := by decide +kernel
theorem dX8_rowAt_1 : decode cX8_rowAt 1 = .ok (.iconst 1, 1) := by decide +kernel
theorem dX8_rowAt_2 : decode cX8_rowAt 2 = .ok (.iadd, 1) := by decide +kernel
theorem dX8_rowAt_3 : decode cX8_rowAt 3 = .ok (.iload_n 0, 1) := by decide +kernel
theorem dX8_rowAt_4 : decode cX8_rowAt 4 = .ok (.ishl, 1) := by decide +kernel
theorem dX8_rowAt_5 : decode cX8_rowAt 5 = .ok (.iconst 1, 1) := by decide +kernel
theorem dX8_rowAt_6 : decode cX8_rowAt 6 = .ok (.isub, 1) := by decide +kernel
theorem dX8_rowAt_7 : decode cX8_rowAt 7 = .ok (.ireturn, 1) := by decide +kernel
theorem dX8_piles_0 : decode cX8_piles 0 = .ok (.iload_n 2, 1) := by decide +kernel
theorem dX8_piles_1 : decode cX8_piles 1 = .ok (.istore 4, 2) := by decide +kernel
theorem dX8_piles_3 : decode cX8_piles 3 = .ok (.iload 4, 2) := by decide +kernel
theorem dX8_piles_5 : decode cX8_piles 5 = .ok (.ifCond .le 7, 3) := by decide +kernel
theorem dX8_piles_8 : decode cX8_piles 8 = .ok (.iconst 1, 1) := by decide +kernel
theorem dX8_piles_9 : decode cX8_piles 9 = .ok (.goto 4, 3) := by decide +kernel
theorem dX8_piles_12 : decode cX8_piles 12 = .ok (.iconst 0, 1) := by decide +kernel
theorem dX8_piles_13 : decode cX8_piles 13 = .ok (.istore 5, 2) := by decide +kernel
theorem dX8_piles_15 : decode cX8_piles 15 = .ok (.iload 5, 2) := by decide +kernel
theorem dX8_piles_17 : decode cX8_piles 17 = .ok (.ifCond .eq 95, 3) := by decide +kernel
theorem dX8_piles_20 : decode cX8_piles 20 = .ok (.iload_n 1, 1) := by decide +kernel
theorem dX8_piles_21 : decode cX8_piles 21 = .ok (.iload 4, 2) := by decide +kernel
theorem dX8_piles_23 : decode cX8_piles 23 = .ok (.iconst 1, 1) := by decide +kernel
theorem dX8_piles_24 : decode cX8_piles 24 = .ok (.isub, 1) := by decide +kernel
theorem dX8_piles_25 : decode cX8_piles 25 = .ok (.invokestatic 83, 3) := by decide +kernel
theorem dX8_piles_28 : decode cX8_piles 28 = .ok (.istore 6, 2) := by decide +kernel
theorem dX8_piles_30 : decode cX8_piles 30 = .ok (.aload_n 0, 1) := by decide +kernel
theorem dX8_piles_31 : decode cX8_piles 31 = .ok (.dup, 1) := by decide +kernel
theorem dX8_piles_32 : decode cX8_piles 32 = .ok (.getfield 69, 3) := by decide +kernel
theorem dX8_piles_35 : decode cX8_piles 35 = .ok (.iconst 2, 1) := by decide +kernel
theorem dX8_piles_36 : decode cX8_piles 36 = .ok (.iadd, 1) := by decide +kernel
theorem dX8_piles_37 : decode cX8_piles 37 = .ok (.putfield 69, 3) := by decide +kernel
theorem dX8_piles_40 : decode cX8_piles 40 = .ok (.aload_n 0, 1) := by decide +kernel
theorem dX8_piles_41 : decode cX8_piles 41 = .ok (.iload 6, 2) := by decide +kernel
theorem dX8_piles_43 : decode cX8_piles 43 = .ok (.aload_n 0, 1) := by decide +kernel
theorem dX8_piles_44 : decode cX8_piles 44 = .ok (.getfield 31, 3) := by decide +kernel
theorem dX8_piles_47 : decode cX8_piles 47 = .ok (.bipush 10, 2) := by decide +kernel
theorem dX8_piles_49 : decode cX8_piles 49 = .ok (.iload_n 1, 1) := by decide +kernel
theorem dX8_piles_50 : decode cX8_piles 50 = .ok (.imul, 1) := by decide +kernel
theorem dX8_piles_51 : decode cX8_piles 51 = .ok (.iload 4, 2) := by decide +kernel
theorem dX8_piles_53 : decode cX8_piles 53 = .ok (.iadd, 1) := by decide +kernel
theorem dX8_piles_54 : decode cX8_piles 54 = .ok (.iconst 1, 1) := by decide +kernel
theorem dX8_piles_55 : decode cX8_piles 55 = .ok (.isub, 1) := by decide +kernel
theorem dX8_piles_56 : decode cX8_piles 56 = .ok (.iaload, 1) := by decide +kernel
theorem dX8_piles_57 : decode cX8_piles 57 = .ok (.invokevirtual 57, 3) := by decide +kernel
theorem dX8_piles_60 : decode cX8_piles 60 = .ok (.aload_n 0, 1) := by decide +kernel
theorem dX8_piles_61 : decode cX8_piles 61 = .ok (.iload 6, 2) := by decide +kernel
theorem dX8_piles_63 : decode cX8_piles 63 = .ok (.iload_n 3, 1) := by decide +kernel
theorem dX8_piles_64 : decode cX8_piles 64 = .ok (.invokevirtual 57, 3) := by decide +kernel
theorem dX8_piles_67 : decode cX8_piles 67 = .ok (.if_icmp .le 7, 3) := by decide +kernel
theorem dX8_piles_70 : decode cX8_piles 70 = .ok (.iconst 1, 1) := by decide +kernel
theorem dX8_piles_71 : decode cX8_piles 71 = .ok (.goto 4, 3) := by decide +kernel
theorem dX8_piles_74 : decode cX8_piles 74 = .ok (.iconst 0, 1) := by decide +kernel
theorem dX8_piles_75 : decode cX8_piles 75 = .ok (.istore 7, 2) := by decide +kernel
theorem dX8_piles_77 : decode cX8_piles 77 = .ok (.iload 4, 2) := by decide +kernel
theorem dX8_piles_79 : decode cX8_piles 79 = .ok (.iload 7, 2) := by decide +kernel
theorem dX8_piles_81 : decode cX8_piles 81 = .ok (.ifCond .eq 7, 3) := by decide +kernel
theorem dX8_piles_84 : decode cX8_piles 84 = .ok (.iconst 1, 1) := by decide +kernel
theorem dX8_piles_85 : decode cX8_piles 85 = .ok (.goto 4, 3) := by decide +kernel
theorem dX8_piles_88 : decode cX8_piles 88 = .ok (.iconst 0, 1) := by decide +kernel
theorem dX8_piles_89 : decode cX8_piles 89 = .ok (.isub, 1) := by decide +kernel
theorem dX8_piles_90 : decode cX8_piles 90 = .ok (.istore 4, 2) := by decide +kernel
theorem dX8_piles_92 : decode cX8_piles 92 = .ok (.iload 7, 2) := by decide +kernel
theorem dX8_piles_94 : decode cX8_piles 94 = .ok (.ifCond .eq 12, 3) := by decide +kernel
theorem dX8_piles_97 : decode cX8_piles 97 = .ok (.iload 4, 2) := by decide +kernel
theorem dX8_piles_99 : decode cX8_piles 99 = .ok (.ifCond .le 7, 3) := by decide +kernel
theorem dX8_piles_102 : decode cX8_piles 102 = .ok (.iconst 1, 1) := by decide +kernel
theorem dX8_piles_103 : decode cX8_piles 103 = .ok (.goto 4, 3) := by decide +kernel
theorem dX8_piles_106 : decode cX8_piles 106 = .ok (.iconst 0, 1) := by decide +kernel
theorem dX8_piles_107 : decode cX8_piles 107 = .ok (.istore 5, 2) := by decide +kernel
theorem dX8_piles_109 : decode cX8_piles 109 = .ok (.goto (-94), 3) := by decide +kernel
theorem dX8_piles_112 : decode cX8_piles 112 = .ok (.iload 4, 2) := by decide +kernel
theorem dX8_piles_114 : decode cX8_piles 114 = .ok (.aload_n 0, 1) := by decide +kernel
theorem dX8_piles_115 : decode cX8_piles 115 = .ok (.getfield 7, 3) := by decide +kernel
theorem dX8_piles_118 : decode cX8_piles 118 = .ok (.iconst 0, 1) := by decide +kernel
theorem dX8_piles_119 : decode cX8_piles 119 = .ok (.iaload, 1) := by decide +kernel
theorem dX8_piles_120 : decode cX8_piles 120 = .ok (.iload_n 1, 1) := by decide +kernel
theorem dX8_piles_121 : decode cX8_piles 121 = .ok (.ishr, 1) := by decide +kernel
theorem dX8_piles_122 : decode cX8_piles 122 = .ok (.if_icmp .ge 19, 3) := by decide +kernel
theorem dX8_piles_125 : decode cX8_piles 125 = .ok (.aload_n 0, 1) := by decide +kernel
theorem dX8_piles_126 : decode cX8_piles 126 = .ok (.getfield 31, 3) := by decide +kernel
theorem dX8_piles_129 : decode cX8_piles 129 = .ok (.bipush 10, 2) := by decide +kernel
theorem dX8_piles_131 : decode cX8_piles 131 = .ok (.iload_n 1, 1) := by decide +kernel
theorem dX8_piles_132 : decode cX8_piles 132 = .ok (.imul, 1) := by decide +kernel
theorem dX8_piles_133 : decode cX8_piles 133 = .ok (.iload 4, 2) := by decide +kernel
theorem dX8_piles_135 : decode cX8_piles 135 = .ok (.iadd, 1) := by decide +kernel
theorem dX8_piles_136 : decode cX8_piles 136 = .ok (.iload_n 3, 1) := by decide +kernel
theorem dX8_piles_137 : decode cX8_piles 137 = .ok (.iastore, 1) := by decide +kernel
theorem dX8_piles_138 : decode cX8_piles 138 = .ok (.iinc 4 1, 3) := by decide +kernel
theorem dX8_piles_141 : decode cX8_piles 141 = .ok (.iload 4, 2) := by decide +kernel
theorem dX8_piles_143 : decode cX8_piles 143 = .ok (.ireturn, 1) := by decide +kernel
theorem dX8_throwsOut_0 : decode cX8_throwsOut 0 = .ok (.iload_n 1, 1) := by decide +kernel
theorem dX8_throwsOut_1 : decode cX8_throwsOut 1 = .ok (.ifCond .ne 12, 3) := by decide +kernel
theorem dX8_throwsOut_4 : decode cX8_throwsOut 4 = .ok (.aload_n 0, 1) := by decide +kernel
theorem dX8_throwsOut_5 : decode cX8_throwsOut 5 = .ok (.getfield 7, 3) := by decide +kernel
theorem dX8_throwsOut_8 : decode cX8_throwsOut 8 = .ok (.iconst 1, 1) := by decide +kernel
theorem dX8_throwsOut_9 : decode cX8_throwsOut 9 = .ok (.iaload, 1) := by decide +kernel
theorem dX8_throwsOut_10 : decode cX8_throwsOut 10 = .ok (.goto 11, 3) := by decide +kernel
theorem dX8_throwsOut_13 : decode cX8_throwsOut 13 = .ok (.aload_n 0, 1) := by decide +kernel
theorem dX8_throwsOut_14 : decode cX8_throwsOut 14 = .ok (.getfield 34, 3) := by decide +kernel
theorem dX8_throwsOut_17 : decode cX8_throwsOut 17 = .ok (.iload_n 1, 1) := by decide +kernel
theorem dX8_throwsOut_18 : decode cX8_throwsOut 18 = .ok (.iconst 1, 1) := by decide +kernel
theorem dX8_throwsOut_19 : decode cX8_throwsOut 19 = .ok (.isub, 1) := by decide +kernel
theorem dX8_throwsOut_20 : decode cX8_throwsOut 20 = .ok (.iaload, 1) := by decide +kernel
theorem dX8_throwsOut_21 : decode cX8_throwsOut 21 = .ok (.istore_n 2, 1) := by decide +kernel
theorem dX8_throwsOut_22 : decode cX8_throwsOut 22 = .ok (.iconst 0, 1) := by decide +kernel
theorem dX8_throwsOut_23 : decode cX8_throwsOut 23 = .ok (.istore_n 3, 1) := by decide +kernel
theorem dX8_throwsOut_24 : decode cX8_throwsOut 24 = .ok (.iconst 0, 1) := by decide +kernel
theorem dX8_throwsOut_25 : decode cX8_throwsOut 25 = .ok (.istore 4, 2) := by decide +kernel
theorem dX8_throwsOut_27 : decode cX8_throwsOut 27 = .ok (.iload 4, 2) := by decide +kernel
theorem dX8_throwsOut_29 : decode cX8_throwsOut 29 = .ok (.iload_n 2, 1) := by decide +kernel
theorem dX8_throwsOut_30 : decode cX8_throwsOut 30 = .ok (.if_icmp .ge 39, 3) := by decide +kernel
theorem dX8_throwsOut_33 : decode cX8_throwsOut 33 = .ok (.aload_n 0, 1) := by decide +kernel
theorem dX8_throwsOut_34 : decode cX8_throwsOut 34 = .ok (.iload_n 1, 1) := by decide +kernel
theorem dX8_throwsOut_35 : decode cX8_throwsOut 35 = .ok (.iload_n 3, 1) := by decide +kernel
theorem dX8_throwsOut_36 : decode cX8_throwsOut 36 = .ok (.iload_n 1, 1) := by decide +kernel
theorem dX8_throwsOut_37 : decode cX8_throwsOut 37 = .ok (.ifCond .ne 8, 3) := by decide +kernel
theorem dX8_throwsOut_40 : decode cX8_throwsOut 40 = .ok (.iload 4, 2) := by decide +kernel
theorem dX8_throwsOut_42 : decode cX8_throwsOut 42 = .ok (.goto 17, 3) := by decide +kernel
theorem dX8_throwsOut_45 : decode cX8_throwsOut 45 = .ok (.aload_n 0, 1) := by decide +kernel
theorem dX8_throwsOut_46 : decode cX8_throwsOut 46 = .ok (.getfield 31, 3) := by decide +kernel
theorem dX8_throwsOut_49 : decode cX8_throwsOut 49 = .ok (.bipush 10, 2) := by decide +kernel
theorem dX8_throwsOut_51 : decode cX8_throwsOut 51 = .ok (.iload_n 1, 1) := by decide +kernel
theorem dX8_throwsOut_52 : decode cX8_throwsOut 52 = .ok (.iconst 1, 1) := by decide +kernel
theorem dX8_throwsOut_53 : decode cX8_throwsOut 53 = .ok (.isub, 1) := by decide +kernel
theorem dX8_throwsOut_54 : decode cX8_throwsOut 54 = .ok (.imul, 1) := by decide +kernel
theorem dX8_throwsOut_55 : decode cX8_throwsOut 55 = .ok (.iload 4, 2) := by decide +kernel
theorem dX8_throwsOut_57 : decode cX8_throwsOut 57 = .ok (.iadd, 1) := by decide +kernel
theorem dX8_throwsOut_58 : decode cX8_throwsOut 58 = .ok (.iaload, 1) := by decide +kernel
theorem dX8_throwsOut_59 : decode cX8_throwsOut 59 = .ok (.invokevirtual 86, 3) := by decide +kernel
theorem dX8_throwsOut_62 : decode cX8_throwsOut 62 = .ok (.istore_n 3, 1) := by decide +kernel
theorem dX8_throwsOut_63 : decode cX8_throwsOut 63 = .ok (.iinc 4 1, 3) := by decide +kernel
theorem dX8_throwsOut_66 : decode cX8_throwsOut 66 = .ok (.goto (-39), 3) := by decide +kernel
theorem dX8_throwsOut_69 : decode cX8_throwsOut 69 = .ok (.aload_n 0, 1) := by decide +kernel
theorem dX8_throwsOut_70 : decode cX8_throwsOut 70 = .ok (.getfield 34, 3) := by decide +kernel
theorem dX8_throwsOut_73 : decode cX8_throwsOut 73 = .ok (.iload_n 1, 1) := by decide +kernel
theorem dX8_throwsOut_74 : decode cX8_throwsOut 74 = .ok (.iload_n 3, 1) := by decide +kernel
theorem dX8_throwsOut_75 : decode cX8_throwsOut 75 = .ok (.iastore, 1) := by decide +kernel
theorem dX8_throwsOut_76 : decode cX8_throwsOut 76 = .ok (.return_, 1) := by decide +kernel
theorem dX8_leastLeft_0 : decode cX8_leastLeft 0 = .ok (.iconst (-1), 1) := by decide +kernel
theorem dX8_leastLeft_1 : decode cX8_leastLeft 1 = .ok (.istore 5, 2) := by decide +kernel
theorem dX8_leastLeft_3 : decode cX8_leastLeft 3 = .ok (.iconst 0, 1) := by decide +kernel
theorem dX8_leastLeft_4 : decode cX8_leastLeft 4 = .ok (.istore 6, 2) := by decide +kernel
theorem dX8_leastLeft_6 : decode cX8_leastLeft 6 = .ok (.iload 6, 2) := by decide +kernel
theorem dX8_leastLeft_8 : decode cX8_leastLeft 8 = .ok (.aload_n 0, 1) := by decide +kernel
theorem dX8_leastLeft_9 : decode cX8_leastLeft 9 = .ok (.getfield 34, 3) := by decide +kernel
theorem dX8_leastLeft_12 : decode cX8_leastLeft 12 = .ok (.iload_n 1, 1) := by decide +kernel
theorem dX8_leastLeft_13 : decode cX8_leastLeft 13 = .ok (.iaload, 1) := by decide +kernel
theorem dX8_leastLeft_14 : decode cX8_leastLeft 14 = .ok (.if_icmp .ge 76, 3) := by decide +kernel
theorem dX8_leastLeft_17 : decode cX8_leastLeft 17 = .ok (.aload_n 0, 1) := by decide +kernel
theorem dX8_leastLeft_18 : decode cX8_leastLeft 18 = .ok (.getfield 31, 3) := by decide +kernel
theorem dX8_leastLeft_21 : decode cX8_leastLeft 21 = .ok (.bipush 10, 2) := by decide +kernel
theorem dX8_leastLeft_23 : decode cX8_leastLeft 23 = .ok (.iload_n 1, 1) := by decide +kernel
theorem dX8_leastLeft_24 : decode cX8_leastLeft 24 = .ok (.imul, 1) := by decide +kernel
theorem dX8_leastLeft_25 : decode cX8_leastLeft 25 = .ok (.iload 6, 2) := by decide +kernel
theorem dX8_leastLeft_27 : decode cX8_leastLeft 27 = .ok (.iadd, 1) := by decide +kernel
theorem dX8_leastLeft_28 : decode cX8_leastLeft 28 = .ok (.iaload, 1) := by decide +kernel
theorem dX8_leastLeft_29 : decode cX8_leastLeft 29 = .ok (.istore 7, 2) := by decide +kernel
theorem dX8_leastLeft_31 : decode cX8_leastLeft 31 = .ok (.iload 7, 2) := by decide +kernel
theorem dX8_leastLeft_33 : decode cX8_leastLeft 33 = .ok (.iload_n 3, 1) := by decide +kernel
theorem dX8_leastLeft_34 : decode cX8_leastLeft 34 = .ok (.iload 4, 2) := by decide +kernel
theorem dX8_leastLeft_36 : decode cX8_leastLeft 36 = .ok (.invokestatic 89, 3) := by decide +kernel
theorem dX8_leastLeft_39 : decode cX8_leastLeft 39 = .ok (.ifCond .eq 45, 3) := by decide +kernel
theorem dX8_leastLeft_42 : decode cX8_leastLeft 42 = .ok (.aload_n 0, 1) := by decide +kernel
theorem dX8_leastLeft_43 : decode cX8_leastLeft 43 = .ok (.dup, 1) := by decide +kernel
theorem dX8_leastLeft_44 : decode cX8_leastLeft 44 = .ok (.getfield 69, 3) := by decide +kernel
theorem dX8_leastLeft_47 : decode cX8_leastLeft 47 = .ok (.iconst 1, 1) := by decide +kernel
theorem dX8_leastLeft_48 : decode cX8_leastLeft 48 = .ok (.iadd, 1) := by decide +kernel
theorem dX8_leastLeft_49 : decode cX8_leastLeft 49 = .ok (.putfield 69, 3) := by decide +kernel
theorem dX8_leastLeft_52 : decode cX8_leastLeft 52 = .ok (.iload 5, 2) := by decide +kernel
theorem dX8_leastLeft_54 : decode cX8_leastLeft 54 = .ok (.iconst (-1), 1) := by decide +kernel
theorem dX8_leastLeft_55 : decode cX8_leastLeft 55 = .ok (.if_icmp .eq 20, 3) := by decide +kernel
theorem dX8_leastLeft_58 : decode cX8_leastLeft 58 = .ok (.aload_n 0, 1) := by decide +kernel
theorem dX8_leastLeft_59 : decode cX8_leastLeft 59 = .ok (.iload_n 2, 1) := by decide +kernel
theorem dX8_leastLeft_60 : decode cX8_leastLeft 60 = .ok (.iload 7, 2) := by decide +kernel
theorem dX8_leastLeft_62 : decode cX8_leastLeft 62 = .ok (.invokevirtual 57, 3) := by decide +kernel
theorem dX8_leastLeft_65 : decode cX8_leastLeft 65 = .ok (.aload_n 0, 1) := by decide +kernel
theorem dX8_leastLeft_66 : decode cX8_leastLeft 66 = .ok (.iload_n 2, 1) := by decide +kernel
theorem dX8_leastLeft_67 : decode cX8_leastLeft 67 = .ok (.iload 5, 2) := by decide +kernel
theorem dX8_leastLeft_69 : decode cX8_leastLeft 69 = .ok (.invokevirtual 57, 3) := by decide +kernel
theorem dX8_leastLeft_72 : decode cX8_leastLeft 72 = .ok (.if_icmp .ge 8, 3) := by decide +kernel
theorem dX8_leastLeft_75 : decode cX8_leastLeft 75 = .ok (.iload 7, 2) := by decide +kernel
theorem dX8_leastLeft_77 : decode cX8_leastLeft 77 = .ok (.goto 5, 3) := by decide +kernel
theorem dX8_leastLeft_80 : decode cX8_leastLeft 80 = .ok (.iload 5, 2) := by decide +kernel
theorem dX8_leastLeft_82 : decode cX8_leastLeft 82 = .ok (.istore 5, 2) := by decide +kernel
theorem dX8_leastLeft_84 : decode cX8_leastLeft 84 = .ok (.iinc 6 1, 3) := by decide +kernel
theorem dX8_leastLeft_87 : decode cX8_leastLeft 87 = .ok (.goto (-81), 3) := by decide +kernel
theorem dX8_leastLeft_90 : decode cX8_leastLeft 90 = .ok (.iload 5, 2) := by decide +kernel
theorem dX8_leastLeft_92 : decode cX8_leastLeft 92 = .ok (.ireturn, 1) := by decide +kernel
theorem dX8_fills_0 : decode cX8_fills 0 = .ok (.aload_n 0, 1) := by decide +kernel
theorem dX8_fills_1 : decode cX8_fills 1 = .ok (.getfield 7, 3) := by decide +kernel
theorem dX8_fills_4 : decode cX8_fills 4 = .ok (.iconst 0, 1) := by decide +kernel
theorem dX8_fills_5 : decode cX8_fills 5 = .ok (.iaload, 1) := by decide +kernel
theorem dX8_fills_6 : decode cX8_fills 6 = .ok (.iload_n 1, 1) := by decide +kernel
theorem dX8_fills_7 : decode cX8_fills 7 = .ok (.ishr, 1) := by decide +kernel
theorem dX8_fills_8 : decode cX8_fills 8 = .ok (.istore_n 2, 1) := by decide +kernel
theorem dX8_fills_9 : decode cX8_fills 9 = .ok (.iconst 0, 1) := by decide +kernel
theorem dX8_fills_10 : decode cX8_fills 10 = .ok (.istore_n 3, 1) := by decide +kernel
theorem dX8_fills_11 : decode cX8_fills 11 = .ok (.iload_n 3, 1) := by decide +kernel
theorem dX8_fills_12 : decode cX8_fills 12 = .ok (.iload_n 2, 1) := by decide +kernel
theorem dX8_fills_13 : decode cX8_fills 13 = .ok (.if_icmp .ge 82, 3) := by decide +kernel
theorem dX8_fills_16 : decode cX8_fills 16 = .ok (.iload_n 3, 1) := by decide +kernel
theorem dX8_fills_17 : decode cX8_fills 17 = .ok (.ifCond .ne 7, 3) := by decide +kernel
theorem dX8_fills_20 : decode cX8_fills 20 = .ok (.iconst 0, 1) := by decide +kernel
theorem dX8_fills_21 : decode cX8_fills 21 = .ok (.goto 15, 3) := by decide +kernel
theorem dX8_fills_24 : decode cX8_fills 24 = .ok (.aload_n 0, 1) := by decide +kernel
theorem dX8_fills_25 : decode cX8_fills 25 = .ok (.getfield 25, 3) := by decide +kernel
theorem dX8_fills_28 : decode cX8_fills 28 = .ok (.iload_n 1, 1) := by decide +kernel
theorem dX8_fills_29 : decode cX8_fills 29 = .ok (.iload_n 3, 1) := by decide +kernel
theorem dX8_fills_30 : decode cX8_fills 30 = .ok (.iconst 1, 1) := by decide +kernel
theorem dX8_fills_31 : decode cX8_fills 31 = .ok (.isub, 1) := by decide +kernel
theorem dX8_fills_32 : decode cX8_fills 32 = .ok (.invokestatic 83, 3) := by decide +kernel
theorem dX8_fills_35 : decode cX8_fills 35 = .ok (.iaload, 1) := by decide +kernel
theorem dX8_fills_36 : decode cX8_fills 36 = .ok (.istore 4, 2) := by decide +kernel
theorem dX8_fills_38 : decode cX8_fills 38 = .ok (.iload_n 3, 1) := by decide +kernel
theorem dX8_fills_39 : decode cX8_fills 39 = .ok (.iconst 1, 1) := by decide +kernel
theorem dX8_fills_40 : decode cX8_fills 40 = .ok (.iadd, 1) := by decide +kernel
theorem dX8_fills_41 : decode cX8_fills 41 = .ok (.iload_n 2, 1) := by decide +kernel
theorem dX8_fills_42 : decode cX8_fills 42 = .ok (.if_icmp .ge 18, 3) := by decide +kernel
theorem dX8_fills_45 : decode cX8_fills 45 = .ok (.aload_n 0, 1) := by decide +kernel
theorem dX8_fills_46 : decode cX8_fills 46 = .ok (.getfield 25, 3) := by decide +kernel
theorem dX8_fills_49 : decode cX8_fills 49 = .ok (.iload_n 1, 1) := by decide +kernel
theorem dX8_fills_50 : decode cX8_fills 50 = .ok (.iload_n 3, 1) := by decide +kernel
theorem dX8_fills_51 : decode cX8_fills 51 = .ok (.iconst 1, 1) := by decide +kernel
theorem dX8_fills_52 : decode cX8_fills 52 = .ok (.iadd, 1) := by decide +kernel
theorem dX8_fills_53 : decode cX8_fills 53 = .ok (.invokestatic 83, 3) := by decide +kernel
theorem dX8_fills_56 : decode cX8_fills 56 = .ok (.iaload, 1) := by decide +kernel
theorem dX8_fills_57 : decode cX8_fills 57 = .ok (.goto 5, 3) := by decide +kernel
theorem dX8_fills_60 : decode cX8_fills 60 = .ok (.bipush 10, 2) := by decide +kernel
theorem dX8_fills_62 : decode cX8_fills 62 = .ok (.istore 5, 2) := by decide +kernel
theorem dX8_fills_64 : decode cX8_fills 64 = .ok (.iload_n 1, 1) := by decide +kernel
theorem dX8_fills_65 : decode cX8_fills 65 = .ok (.iload_n 3, 1) := by decide +kernel
theorem dX8_fills_66 : decode cX8_fills 66 = .ok (.invokestatic 83, 3) := by decide +kernel
theorem dX8_fills_69 : decode cX8_fills 69 = .ok (.istore 6, 2) := by decide +kernel
theorem dX8_fills_71 : decode cX8_fills 71 = .ok (.aload_n 0, 1) := by decide +kernel
theorem dX8_fills_72 : decode cX8_fills 72 = .ok (.getfield 25, 3) := by decide +kernel
theorem dX8_fills_75 : decode cX8_fills 75 = .ok (.iload 6, 2) := by decide +kernel
theorem dX8_fills_77 : decode cX8_fills 77 = .ok (.aload_n 0, 1) := by decide +kernel
theorem dX8_fills_78 : decode cX8_fills 78 = .ok (.iload_n 1, 1) := by decide +kernel
theorem dX8_fills_79 : decode cX8_fills 79 = .ok (.iload 6, 2) := by decide +kernel
theorem dX8_fills_81 : decode cX8_fills 81 = .ok (.iload 4, 2) := by decide +kernel
theorem dX8_fills_83 : decode cX8_fills 83 = .ok (.iload 5, 2) := by decide +kernel
theorem dX8_fills_85 : decode cX8_fills 85 = .ok (.invokevirtual 92, 3) := by decide +kernel
theorem dX8_fills_88 : decode cX8_fills 88 = .ok (.iastore, 1) := by decide +kernel
theorem dX8_fills_89 : decode cX8_fills 89 = .ok (.iinc 3 2, 3) := by decide +kernel
theorem dX8_fills_92 : decode cX8_fills 92 = .ok (.goto (-81), 3) := by decide +kernel
theorem dX8_fills_95 : decode cX8_fills 95 = .ok (.return_, 1) := by decide +kernel
theorem dX8_byThrowing_0 : decode cX8_byThrowing 0 = .ok (.iconst 0, 1) := by decide +kernel
theorem dX8_byThrowing_1 : decode cX8_byThrowing 1 = .ok (.istore_n 1, 1) := by decide +kernel
theorem dX8_byThrowing_2 : decode cX8_byThrowing 2 = .ok (.aload_n 0, 1) := by decide +kernel
theorem dX8_byThrowing_3 : decode cX8_byThrowing 3 = .ok (.getfield 7, 3) := by decide +kernel
theorem dX8_byThrowing_6 : decode cX8_byThrowing 6 = .ok (.iconst 0, 1) := by decide +kernel
theorem dX8_byThrowing_7 : decode cX8_byThrowing 7 = .ok (.iaload, 1) := by decide +kernel
theorem dX8_byThrowing_8 : decode cX8_byThrowing 8 = .ok (.iload_n 1, 1) := by decide +kernel
theorem dX8_byThrowing_9 : decode cX8_byThrowing 9 = .ok (.ishr, 1) := by decide +kernel
theorem dX8_byThrowing_10 : decode cX8_byThrowing 10 = .ok (.ifCond .le 14, 3) := by decide +kernel
theorem dX8_byThrowing_13 : decode cX8_byThrowing 13 = .ok (.aload_n 0, 1) := by decide +kernel
theorem dX8_byThrowing_14 : decode cX8_byThrowing 14 = .ok (.iload_n 1, 1) := by decide +kernel
theorem dX8_byThrowing_15 : decode cX8_byThrowing 15 = .ok (.invokevirtual 96, 3) := by decide +kernel
theorem dX8_byThrowing_18 : decode cX8_byThrowing 18 = .ok (.iinc 1 1, 3) := by decide +kernel
theorem dX8_byThrowing_21 : decode cX8_byThrowing 21 = .ok (.goto (-19), 3) := by decide +kernel
theorem dX8_byThrowing_24 : decode cX8_byThrowing 24 = .ok (.iload_n 1, 1) := by decide +kernel
theorem dX8_byThrowing_25 : decode cX8_byThrowing 25 = .ok (.ifCond .le 14, 3) := by decide +kernel
theorem dX8_byThrowing_28 : decode cX8_byThrowing 28 = .ok (.iinc 1 (-1), 3) := by decide +kernel
theorem dX8_byThrowing_31 : decode cX8_byThrowing 31 = .ok (.aload_n 0, 1) := by decide +kernel
theorem dX8_byThrowing_32 : decode cX8_byThrowing 32 = .ok (.iload_n 1, 1) := by decide +kernel
theorem dX8_byThrowing_33 : decode cX8_byThrowing 33 = .ok (.invokevirtual 100, 3) := by decide +kernel
theorem dX8_byThrowing_36 : decode cX8_byThrowing 36 = .ok (.goto (-12), 3) := by decide +kernel
theorem dX8_byThrowing_39 : decode cX8_byThrowing 39 = .ok (.return_, 1) := by decide +kernel
theorem dX8_finds_0 : decode cX8_finds 0 = .ok (.aload_n 0, 1) := by decide +kernel
theorem dX8_finds_1 : decode cX8_finds 1 = .ok (.iconst 0, 1) := by decide +kernel
theorem dX8_finds_2 : decode cX8_finds 2 = .ok (.putfield 69, 3) := by decide +kernel
theorem dX8_finds_5 : decode cX8_finds 5 = .ok (.iload_n 1, 1) := by decide +kernel
theorem dX8_finds_6 : decode cX8_finds 6 = .ok (.ifCond .ne 10, 3) := by decide +kernel
theorem dX8_finds_9 : decode cX8_finds 9 = .ok (.aload_n 0, 1) := by decide +kernel
theorem dX8_finds_10 : decode cX8_finds 10 = .ok (.invokevirtual 103, 3) := by decide +kernel
theorem dX8_finds_13 : decode cX8_finds 13 = .ok (.goto 19, 3) := by decide +kernel
theorem dX8_finds_16 : decode cX8_finds 16 = .ok (.iload_n 1, 1) := by decide +kernel
theorem dX8_finds_17 : decode cX8_finds 17 = .ok (.iconst 1, 1) := by decide +kernel
theorem dX8_finds_18 : decode cX8_finds 18 = .ok (.if_icmp .ne 10, 3) := by decide +kernel
theorem dX8_finds_21 : decode cX8_finds 21 = .ok (.aload_n 0, 1) := by decide +kernel
theorem dX8_finds_22 : decode cX8_finds 22 = .ok (.invokevirtual 106, 3) := by decide +kernel
theorem dX8_finds_25 : decode cX8_finds 25 = .ok (.goto 7, 3) := by decide +kernel
theorem dX8_finds_28 : decode cX8_finds 28 = .ok (.aload_n 0, 1) := by decide +kernel
theorem dX8_finds_29 : decode cX8_finds 29 = .ok (.invokevirtual 109, 3) := by decide +kernel
theorem dX8_finds_32 : decode cX8_finds 32 = .ok (.return_, 1) := by decide +kernel
theorem dX8_canGo_0 : decode cX8_canGo 0 = .ok (.iload_n 1, 1) := by decide +kernel
theorem dX8_canGo_1 : decode cX8_canGo 1 = .ok (.ifCond .eq 10, 3) := by decide +kernel
theorem dX8_canGo_4 : decode cX8_canGo 4 = .ok (.aload_n 0, 1) := by decide +kernel
theorem dX8_canGo_5 : decode cX8_canGo 5 = .ok (.invokevirtual 112, 3) := by decide +kernel
theorem dX8_canGo_8 : decode cX8_canGo 8 = .ok (.ifCond .eq 7, 3) := by decide +kernel
theorem dX8_canGo_11 : decode cX8_canGo 11 = .ok (.iconst 1, 1) := by decide +kernel
theorem dX8_canGo_12 : decode cX8_canGo 12 = .ok (.goto 4, 3) := by decide +kernel
theorem dX8_canGo_15 : decode cX8_canGo 15 = .ok (.iconst 0, 1) := by decide +kernel
theorem dX8_canGo_16 : decode cX8_canGo 16 = .ok (.ireturn, 1) := by decide +kernel
theorem dX8_looksBy_0 : decode cX8_looksBy 0 = .ok (.aload_n 0, 1) := by decide +kernel
theorem dX8_looksBy_1 : decode cX8_looksBy 1 = .ok (.iload_n 1, 1) := by decide +kernel
theorem dX8_looksBy_2 : decode cX8_looksBy 2 = .ok (.invokevirtual 116, 3) := by decide +kernel
theorem dX8_looksBy_5 : decode cX8_looksBy 5 = .ok (.ifCond .ne 5, 3) := by decide +kernel
theorem dX8_looksBy_8 : decode cX8_looksBy 8 = .ok (.iconst (-1), 1) := by decide +kernel
theorem dX8_looksBy_9 : decode cX8_looksBy 9 = .ok (.ireturn, 1) := by decide +kernel
theorem dX8_looksBy_10 : decode cX8_looksBy 10 = .ok (.aload_n 0, 1) := by decide +kernel
theorem dX8_looksBy_11 : decode cX8_looksBy 11 = .ok (.iload_n 1, 1) := by decide +kernel
theorem dX8_looksBy_12 : decode cX8_looksBy 12 = .ok (.invokevirtual 120, 3) := by decide +kernel
theorem dX8_looksBy_15 : decode cX8_looksBy 15 = .ok (.aload_n 0, 1) := by decide +kernel
theorem dX8_looksBy_16 : decode cX8_looksBy 16 = .ok (.getfield 69, 3) := by decide +kernel
theorem dX8_looksBy_19 : decode cX8_looksBy 19 = .ok (.ireturn, 1) := by decide +kernel
theorem dX8_placeBy_0 : decode cX8_placeBy 0 = .ok (.aload_n 0, 1) := by decide +kernel
theorem dX8_placeBy_1 : decode cX8_placeBy 1 = .ok (.iload_n 2, 1) := by decide +kernel
theorem dX8_placeBy_2 : decode cX8_placeBy 2 = .ok (.invokevirtual 116, 3) := by decide +kernel
theorem dX8_placeBy_5 : decode cX8_placeBy 5 = .ok (.ifCond .ne 5, 3) := by decide +kernel
theorem dX8_placeBy_8 : decode cX8_placeBy 8 = .ok (.iconst (-1), 1) := by decide +kernel
theorem dX8_placeBy_9 : decode cX8_placeBy 9 = .ok (.ireturn, 1) := by decide +kernel
theorem dX8_placeBy_10 : decode cX8_placeBy 10 = .ok (.aload_n 0, 1) := by decide +kernel
theorem dX8_placeBy_11 : decode cX8_placeBy 11 = .ok (.iload_n 2, 1) := by decide +kernel
theorem dX8_placeBy_12 : decode cX8_placeBy 12 = .ok (.invokevirtual 120, 3) := by decide +kernel
theorem dX8_placeBy_15 : decode cX8_placeBy 15 = .ok (.aload_n 0, 1) := by decide +kernel
theorem dX8_placeBy_16 : decode cX8_placeBy 16 = .ok (.getfield 25, 3) := by decide +kernel
theorem dX8_placeBy_19 : decode cX8_placeBy 19 = .ok (.iload_n 1, 1) := by decide +kernel
theorem dX8_placeBy_20 : decode cX8_placeBy 20 = .ok (.iaload, 1) := by decide +kernel
theorem dX8_placeBy_21 : decode cX8_placeBy 21 = .ok (.ireturn, 1) := by decide +kernel
theorem dX8_isRow_0 : decode cX8_isRow 0 = .ok (.iload_n 1, 1) := by decide +kernel
theorem dX8_isRow_1 : decode cX8_isRow 1 = .ok (.iconst 0, 1) := by decide +kernel
theorem dX8_isRow_2 : decode cX8_isRow 2 = .ok (.aload_n 0, 1) := by decide +kernel
theorem dX8_isRow_3 : decode cX8_isRow 3 = .ok (.getfield 7, 3) := by decide +kernel
theorem dX8_isRow_6 : decode cX8_isRow 6 = .ok (.iconst 0, 1) := by decide +kernel
theorem dX8_isRow_7 : decode cX8_isRow 7 = .ok (.iaload, 1) := by decide +kernel
theorem dX8_isRow_8 : decode cX8_isRow 8 = .ok (.iconst 1, 1) := by decide +kernel
theorem dX8_isRow_9 : decode cX8_isRow 9 = .ok (.isub, 1) := by decide +kernel
theorem dX8_isRow_10 : decode cX8_isRow 10 = .ok (.invokestatic 89, 3) := by decide +kernel
theorem dX8_isRow_13 : decode cX8_isRow 13 = .ok (.ireturn, 1) := by decide +kernel
theorem dX8_isCell_0 : decode cX8_isCell 0 = .ok (.aload_n 0, 1) := by decide +kernel
theorem dX8_isCell_1 : decode cX8_isCell 1 = .ok (.iload_n 1, 1) := by decide +kernel
theorem dX8_isCell_2 : decode cX8_isCell 2 = .ok (.invokevirtual 123, 3) := by decide +kernel
theorem dX8_isCell_5 : decode cX8_isCell 5 = .ok (.ifCond .eq 23, 3) := by decide +kernel
theorem dX8_isCell_8 : decode cX8_isCell 8 = .ok (.iload_n 2, 1) := by decide +kernel
theorem dX8_isCell_9 : decode cX8_isCell 9 = .ok (.iconst 0, 1) := by decide +kernel
theorem dX8_isCell_10 : decode cX8_isCell 10 = .ok (.aload_n 0, 1) := by decide +kernel
theorem dX8_isCell_11 : decode cX8_isCell 11 = .ok (.getfield 7, 3) := by decide +kernel
theorem dX8_isCell_14 : decode cX8_isCell 14 = .ok (.iconst 1, 1) := by decide +kernel
theorem dX8_isCell_15 : decode cX8_isCell 15 = .ok (.iaload, 1) := by decide +kernel
theorem dX8_isCell_16 : decode cX8_isCell 16 = .ok (.iconst 1, 1) := by decide +kernel
theorem dX8_isCell_17 : decode cX8_isCell 17 = .ok (.isub, 1) := by decide +kernel
theorem dX8_isCell_18 : decode cX8_isCell 18 = .ok (.invokestatic 89, 3) := by decide +kernel
theorem dX8_isCell_21 : decode cX8_isCell 21 = .ok (.ifCond .eq 7, 3) := by decide +kernel
theorem dX8_isCell_24 : decode cX8_isCell 24 = .ok (.iconst 1, 1) := by decide +kernel
theorem dX8_isCell_25 : decode cX8_isCell 25 = .ok (.goto 4, 3) := by decide +kernel
theorem dX8_isCell_28 : decode cX8_isCell 28 = .ok (.iconst 0, 1) := by decide +kernel
theorem dX8_isCell_29 : decode cX8_isCell 29 = .ok (.ireturn, 1) := by decide +kernel
theorem dX8_size_0 : decode cX8_size 0 = .ok (.aload_n 0, 1) := by decide +kernel
theorem dX8_size_1 : decode cX8_size 1 = .ok (.iconst 0, 1) := by decide +kernel
theorem dX8_size_2 : decode cX8_size 2 = .ok (.putfield 46, 3) := by decide +kernel
theorem dX8_size_5 : decode cX8_size 5 = .ok (.iload_n 1, 1) := by decide +kernel
theorem dX8_size_6 : decode cX8_size 6 = .ok (.iconst 1, 1) := by decide +kernel
theorem dX8_size_7 : decode cX8_size 7 = .ok (.bipush 10, 2) := by decide +kernel
theorem dX8_size_9 : decode cX8_size 9 = .ok (.invokestatic 89, 3) := by decide +kernel
theorem dX8_size_12 : decode cX8_size 12 = .ok (.ifCond .eq 13, 3) := by decide +kernel
theorem dX8_size_15 : decode cX8_size 15 = .ok (.iload_n 2, 1) := by decide +kernel
theorem dX8_size_16 : decode cX8_size 16 = .ok (.iconst 1, 1) := by decide +kernel
theorem dX8_size_17 : decode cX8_size 17 = .ok (.bipush 10, 2) := by decide +kernel
theorem dX8_size_19 : decode cX8_size 19 = .ok (.invokestatic 89, 3) := by decide +kernel
theorem dX8_size_22 : decode cX8_size 22 = .ok (.ifCond .ne 9, 3) := by decide +kernel
theorem dX8_size_25 : decode cX8_size 25 = .ok (.aload_n 0, 1) := by decide +kernel
theorem dX8_size_26 : decode cX8_size 26 = .ok (.iconst 1, 1) := by decide +kernel
theorem dX8_size_27 : decode cX8_size 27 = .ok (.invokevirtual 126, 3) := by decide +kernel
theorem dX8_size_30 : decode cX8_size 30 = .ok (.ireturn, 1) := by decide +kernel
theorem dX8_size_31 : decode cX8_size 31 = .ok (.aload_n 0, 1) := by decide +kernel
theorem dX8_size_32 : decode cX8_size 32 = .ok (.invokevirtual 130, 3) := by decide +kernel
theorem dX8_size_35 : decode cX8_size 35 = .ok (.bipush 11, 2) := by decide +kernel
theorem dX8_size_37 : decode cX8_size 37 = .ok (.aload_n 0, 1) := by decide +kernel
theorem dX8_size_38 : decode cX8_size 38 = .ok (.getfield 7, 3) := by decide +kernel
theorem dX8_size_41 : decode cX8_size 41 = .ok (.iconst 0, 1) := by decide +kernel
theorem dX8_size_42 : decode cX8_size 42 = .ok (.iaload, 1) := by decide +kernel
theorem dX8_size_43 : decode cX8_size 43 = .ok (.imul, 1) := by decide +kernel
theorem dX8_size_44 : decode cX8_size 44 = .ok (.aload_n 0, 1) := by decide +kernel
theorem dX8_size_45 : decode cX8_size 45 = .ok (.getfield 7, 3) := by decide +kernel
theorem dX8_size_48 : decode cX8_size 48 = .ok (.iconst 1, 1) := by decide +kernel
theorem dX8_size_49 : decode cX8_size 49 = .ok (.iaload, 1) := by decide +kernel
theorem dX8_size_50 : decode cX8_size 50 = .ok (.iadd, 1) := by decide +kernel
theorem dX8_size_51 : decode cX8_size 51 = .ok (.istore_n 3, 1) := by decide +kernel
theorem dX8_size_52 : decode cX8_size 52 = .ok (.aload_n 0, 1) := by decide +kernel
theorem dX8_size_53 : decode cX8_size 53 = .ok (.getfield 7, 3) := by decide +kernel
theorem dX8_size_56 : decode cX8_size 56 = .ok (.iconst 0, 1) := by decide +kernel
theorem dX8_size_57 : decode cX8_size 57 = .ok (.iload_n 1, 1) := by decide +kernel
theorem dX8_size_58 : decode cX8_size 58 = .ok (.iastore, 1) := by decide +kernel
theorem dX8_size_59 : decode cX8_size 59 = .ok (.aload_n 0, 1) := by decide +kernel
theorem dX8_size_60 : decode cX8_size 60 = .ok (.getfield 7, 3) := by decide +kernel
theorem dX8_size_63 : decode cX8_size 63 = .ok (.iconst 1, 1) := by decide +kernel
theorem dX8_size_64 : decode cX8_size 64 = .ok (.iload_n 2, 1) := by decide +kernel
theorem dX8_size_65 : decode cX8_size 65 = .ok (.iastore, 1) := by decide +kernel
theorem dX8_size_66 : decode cX8_size 66 = .ok (.iload_n 3, 1) := by decide +kernel
theorem dX8_size_67 : decode cX8_size 67 = .ok (.ireturn, 1) := by decide +kernel
theorem dX8_put_0 : decode cX8_put 0 = .ok (.aload_n 0, 1) := by decide +kernel
theorem dX8_put_1 : decode cX8_put 1 = .ok (.iconst 0, 1) := by decide +kernel
theorem dX8_put_2 : decode cX8_put 2 = .ok (.putfield 46, 3) := by decide +kernel
theorem dX8_put_5 : decode cX8_put 5 = .ok (.aload_n 0, 1) := by decide +kernel
theorem dX8_put_6 : decode cX8_put 6 = .ok (.iload_n 1, 1) := by decide +kernel
theorem dX8_put_7 : decode cX8_put 7 = .ok (.iload_n 2, 1) := by decide +kernel
theorem dX8_put_8 : decode cX8_put 8 = .ok (.invokevirtual 133, 3) := by decide +kernel
theorem dX8_put_11 : decode cX8_put 11 = .ok (.ifCond .ne 9, 3) := by decide +kernel
theorem dX8_put_14 : decode cX8_put 14 = .ok (.aload_n 0, 1) := by decide +kernel
theorem dX8_put_15 : decode cX8_put 15 = .ok (.iconst 1, 1) := by decide +kernel
theorem dX8_put_16 : decode cX8_put 16 = .ok (.invokevirtual 126, 3) := by decide +kernel
theorem dX8_put_19 : decode cX8_put 19 = .ok (.ireturn, 1) := by decide +kernel
theorem dX8_put_20 : decode cX8_put 20 = .ok (.iload_n 3, 1) := by decide +kernel
theorem dX8_put_21 : decode cX8_put 21 = .ok (.iconst 0, 1) := by decide +kernel
theorem dX8_put_22 : decode cX8_put 22 = .ok (.sipush 9999, 3) := by decide +kernel
theorem dX8_put_25 : decode cX8_put 25 = .ok (.invokestatic 89, 3) := by decide +kernel
theorem dX8_put_28 : decode cX8_put 28 = .ok (.ifCond .ne 9, 3) := by decide +kernel
theorem dX8_put_31 : decode cX8_put 31 = .ok (.aload_n 0, 1) := by decide +kernel
theorem dX8_put_32 : decode cX8_put 32 = .ok (.iconst 2, 1) := by decide +kernel
theorem dX8_put_33 : decode cX8_put 33 = .ok (.invokevirtual 126, 3) := by decide +kernel
theorem dX8_put_36 : decode cX8_put 36 = .ok (.ireturn, 1) := by decide +kernel
theorem dX8_put_37 : decode cX8_put 37 = .ok (.aload_n 0, 1) := by decide +kernel
theorem dX8_put_38 : decode cX8_put 38 = .ok (.invokevirtual 130, 3) := by decide +kernel
theorem dX8_put_41 : decode cX8_put 41 = .ok (.aload_n 0, 1) := by decide +kernel
theorem dX8_put_42 : decode cX8_put 42 = .ok (.iload_n 1, 1) := by decide +kernel
theorem dX8_put_43 : decode cX8_put 43 = .ok (.iload_n 2, 1) := by decide +kernel
theorem dX8_put_44 : decode cX8_put 44 = .ok (.invokevirtual 57, 3) := by decide +kernel
theorem dX8_put_47 : decode cX8_put 47 = .ok (.istore 4, 2) := by decide +kernel
theorem dX8_put_49 : decode cX8_put 49 = .ok (.aload_n 0, 1) := by decide +kernel
theorem dX8_put_50 : decode cX8_put 50 = .ok (.iload_n 1, 1) := by decide +kernel
theorem dX8_put_51 : decode cX8_put 51 = .ok (.iload_n 2, 1) := by decide +kernel
theorem dX8_put_52 : decode cX8_put 52 = .ok (.iload_n 3, 1) := by decide +kernel
theorem dX8_put_53 : decode cX8_put 53 = .ok (.invokevirtual 137, 3) := by decide +kernel
theorem dX8_put_56 : decode cX8_put 56 = .ok (.iload 4, 2) := by decide +kernel
theorem dX8_put_58 : decode cX8_put 58 = .ok (.ireturn, 1) := by decide +kernel
theorem dX8_points_0 : decode cX8_points 0 = .ok (.aload_n 0, 1) := by decide +kernel
theorem dX8_points_1 : decode cX8_points 1 = .ok (.iconst 0, 1) := by decide +kernel
theorem dX8_points_2 : decode cX8_points 2 = .ok (.putfield 46, 3) := by decide +kernel
theorem dX8_points_5 : decode cX8_points 5 = .ok (.iload_n 1, 1) := by decide +kernel
theorem dX8_points_6 : decode cX8_points 6 = .ok (.iconst 0, 1) := by decide +kernel
theorem dX8_points_7 : decode cX8_points 7 = .ok (.bipush 50, 2) := by decide +kernel
theorem dX8_points_9 : decode cX8_points 9 = .ok (.invokestatic 89, 3) := by decide +kernel
theorem dX8_points_12 : decode cX8_points 12 = .ok (.ifCond .eq 34, 3) := by decide +kernel
theorem dX8_points_15 : decode cX8_points 15 = .ok (.iload_n 2, 1) := by decide +kernel
theorem dX8_points_16 : decode cX8_points 16 = .ok (.iconst 0, 1) := by decide +kernel
theorem dX8_points_17 : decode cX8_points 17 = .ok (.bipush 9, 2) := by decide +kernel
theorem dX8_points_19 : decode cX8_points 19 = .ok (.invokestatic 89, 3) := by decide +kernel
theorem dX8_points_22 : decode cX8_points 22 = .ok (.ifCond .eq 24, 3) := by decide +kernel
theorem dX8_points_25 : decode cX8_points 25 = .ok (.iload_n 3, 1) := by decide +kernel
theorem dX8_points_26 : decode cX8_points 26 = .ok (.iconst 0, 1) := by decide +kernel
theorem dX8_points_27 : decode cX8_points 27 = .ok (.bipush 50, 2) := by decide +kernel
theorem dX8_points_29 : decode cX8_points 29 = .ok (.invokestatic 89, 3) := by decide +kernel
theorem dX8_points_32 : decode cX8_points 32 = .ok (.ifCond .eq 14, 3) := by decide +kernel
theorem dX8_points_35 : decode cX8_points 35 = .ok (.iload 4, 2) := by decide +kernel
theorem dX8_points_37 : decode cX8_points 37 = .ok (.iconst 0, 1) := by decide +kernel
theorem dX8_points_38 : decode cX8_points 38 = .ok (.bipush 9, 2) := by decide +kernel
theorem dX8_points_40 : decode cX8_points 40 = .ok (.invokestatic 89, 3) := by decide +kernel
theorem dX8_points_43 : decode cX8_points 43 = .ok (.ifCond .ne 9, 3) := by decide +kernel
theorem dX8_points_46 : decode cX8_points 46 = .ok (.aload_n 0, 1) := by decide +kernel
theorem dX8_points_47 : decode cX8_points 47 = .ok (.iconst 1, 1) := by decide +kernel
theorem dX8_points_48 : decode cX8_points 48 = .ok (.invokevirtual 126, 3) := by decide +kernel
theorem dX8_points_51 : decode cX8_points 51 = .ok (.ireturn, 1) := by decide +kernel
theorem dX8_points_52 : decode cX8_points 52 = .ok (.aload_n 0, 1) := by decide +kernel
theorem dX8_points_53 : decode cX8_points 53 = .ok (.invokevirtual 130, 3) := by decide +kernel
theorem dX8_points_56 : decode cX8_points 56 = .ok (.iconst 0, 1) := by decide +kernel
theorem dX8_points_57 : decode cX8_points 57 = .ok (.istore 5, 2) := by decide +kernel
theorem dX8_points_59 : decode cX8_points 59 = .ok (.iload 5, 2) := by decide +kernel
theorem dX8_points_61 : decode cX8_points 61 = .ok (.bipush 10, 2) := by decide +kernel
theorem dX8_points_63 : decode cX8_points 63 = .ok (.aload_n 0, 1) := by decide +kernel
theorem dX8_points_64 : decode cX8_points 64 = .ok (.getfield 7, 3) := by decide +kernel
theorem dX8_points_67 : decode cX8_points 67 = .ok (.iconst 0, 1) := by decide +kernel
theorem dX8_points_68 : decode cX8_points 68 = .ok (.iaload, 1) := by decide +kernel
theorem dX8_points_69 : decode cX8_points 69 = .ok (.imul, 1) := by decide +kernel
theorem dX8_points_70 : decode cX8_points 70 = .ok (.if_icmp .ge 81, 3) := by decide +kernel
theorem dX8_points_73 : decode cX8_points 73 = .ok (.iload_n 1, 1) := by decide +kernel
theorem dX8_points_74 : decode cX8_points 74 = .ok (.iload_n 2, 1) := by decide +kernel
theorem dX8_points_75 : decode cX8_points 75 = .ok (.iload 5, 2) := by decide +kernel
theorem dX8_points_77 : decode cX8_points 77 = .ok (.bipush 10, 2) := by decide +kernel
theorem dX8_points_79 : decode cX8_points 79 = .ok (.idiv, 1) := by decide +kernel
theorem dX8_points_80 : decode cX8_points 80 = .ok (.imul, 1) := by decide +kernel
theorem dX8_points_81 : decode cX8_points 81 = .ok (.iadd, 1) := by decide +kernel
theorem dX8_points_82 : decode cX8_points 82 = .ok (.iload_n 3, 1) := by decide +kernel
theorem dX8_points_83 : decode cX8_points 83 = .ok (.isub, 1) := by decide +kernel
theorem dX8_points_84 : decode cX8_points 84 = .ok (.iload 4, 2) := by decide +kernel
theorem dX8_points_86 : decode cX8_points 86 = .ok (.iload 5, 2) := by decide +kernel
theorem dX8_points_88 : decode cX8_points 88 = .ok (.bipush 10, 2) := by decide +kernel
theorem dX8_points_90 : decode cX8_points 90 = .ok (.irem, 1) := by decide +kernel
theorem dX8_points_91 : decode cX8_points 91 = .ok (.imul, 1) := by decide +kernel
theorem dX8_points_92 : decode cX8_points 92 = .ok (.isub, 1) := by decide +kernel
theorem dX8_points_93 : decode cX8_points 93 = .ok (.istore 6, 2) := by decide +kernel
theorem dX8_points_95 : decode cX8_points 95 = .ok (.iload 5, 2) := by decide +kernel
theorem dX8_points_97 : decode cX8_points 97 = .ok (.bipush 10, 2) := by decide +kernel
theorem dX8_points_99 : decode cX8_points 99 = .ok (.irem, 1) := by decide +kernel
theorem dX8_points_100 : decode cX8_points 100 = .ok (.aload_n 0, 1) := by decide +kernel
theorem dX8_points_101 : decode cX8_points 101 = .ok (.getfield 7, 3) := by decide +kernel
theorem dX8_points_104 : decode cX8_points 104 = .ok (.iconst 1, 1) := by decide +kernel
theorem dX8_points_105 : decode cX8_points 105 = .ok (.iaload, 1) := by decide +kernel
theorem dX8_points_106 : decode cX8_points 106 = .ok (.if_icmp .ge 39, 3) := by decide +kernel
theorem dX8_points_109 : decode cX8_points 109 = .ok (.aload_n 0, 1) := by decide +kernel
theorem dX8_points_110 : decode cX8_points 110 = .ok (.iload 5, 2) := by decide +kernel
theorem dX8_points_112 : decode cX8_points 112 = .ok (.bipush 10, 2) := by decide +kernel
theorem dX8_points_114 : decode cX8_points 114 = .ok (.idiv, 1) := by decide +kernel
theorem dX8_points_115 : decode cX8_points 115 = .ok (.iload 5, 2) := by decide +kernel
theorem dX8_points_117 : decode cX8_points 117 = .ok (.bipush 10, 2) := by decide +kernel
theorem dX8_points_119 : decode cX8_points 119 = .ok (.irem, 1) := by decide +kernel
theorem dX8_points_120 : decode cX8_points 120 = .ok (.iload 6, 2) := by decide +kernel
theorem dX8_points_122 : decode cX8_points 122 = .ok (.iload 6, 2) := by decide +kernel
theorem dX8_points_124 : decode cX8_points 124 = .ok (.imul, 1) := by decide +kernel
theorem dX8_points_125 : decode cX8_points 125 = .ok (.sipush 9999, 3) := by decide +kernel
theorem dX8_points_128 : decode cX8_points 128 = .ok (.if_icmp .ge 11, 3) := by decide +kernel
theorem dX8_points_131 : decode cX8_points 131 = .ok (.iload 6, 2) := by decide +kernel
theorem dX8_points_133 : decode cX8_points 133 = .ok (.iload 6, 2) := by decide +kernel
theorem dX8_points_135 : decode cX8_points 135 = .ok (.imul, 1) := by decide +kernel
theorem dX8_points_136 : decode cX8_points 136 = .ok (.goto 6, 3) := by decide +kernel
theorem dX8_points_139 : decode cX8_points 139 = .ok (.sipush 9999, 3) := by decide +kernel
theorem dX8_points_142 : decode cX8_points 142 = .ok (.invokevirtual 137, 3) := by decide +kernel
theorem dX8_points_145 : decode cX8_points 145 = .ok (.iinc 5 1, 3) := by decide +kernel
theorem dX8_points_148 : decode cX8_points 148 = .ok (.goto (-89), 3) := by decide +kernel
theorem dX8_points_151 : decode cX8_points 151 = .ok (.aload_n 0, 1) := by decide +kernel
theorem dX8_points_152 : decode cX8_points 152 = .ok (.invokevirtual 112, 3) := by decide +kernel
theorem dX8_points_155 : decode cX8_points 155 = .ok (.ifCond .eq 7, 3) := by decide +kernel
theorem dX8_points_158 : decode cX8_points 158 = .ok (.iconst 1, 1) := by decide +kernel
theorem dX8_points_159 : decode cX8_points 159 = .ok (.goto 4, 3) := by decide +kernel
theorem dX8_points_162 : decode cX8_points 162 = .ok (.iconst 0, 1) := by decide +kernel
theorem dX8_points_163 : decode cX8_points 163 = .ok (.ireturn, 1) := by decide +kernel
theorem dX8_mend_0 : decode cX8_mend 0 = .ok (.aload_n 0, 1) := by decide +kernel
theorem dX8_mend_1 : decode cX8_mend 1 = .ok (.iconst 0, 1) := by decide +kernel
theorem dX8_mend_2 : decode cX8_mend 2 = .ok (.putfield 46, 3) := by decide +kernel
theorem dX8_mend_5 : decode cX8_mend 5 = .ok (.aload_n 0, 1) := by decide +kernel
theorem dX8_mend_6 : decode cX8_mend 6 = .ok (.invokevirtual 65, 3) := by decide +kernel
theorem dX8_mend_9 : decode cX8_mend 9 = .ok (.istore_n 1, 1) := by decide +kernel
theorem dX8_mend_10 : decode cX8_mend 10 = .ok (.aload_n 0, 1) := by decide +kernel
theorem dX8_mend_11 : decode cX8_mend 11 = .ok (.invokevirtual 130, 3) := by decide +kernel
theorem dX8_mend_14 : decode cX8_mend 14 = .ok (.iload_n 1, 1) := by decide +kernel
theorem dX8_mend_15 : decode cX8_mend 15 = .ok (.iconst (-1), 1) := by decide +kernel
theorem dX8_mend_16 : decode cX8_mend 16 = .ok (.if_icmp .ne 5, 3) := by decide +kernel
theorem dX8_mend_19 : decode cX8_mend 19 = .ok (.iconst (-1), 1) := by decide +kernel
theorem dX8_mend_20 : decode cX8_mend 20 = .ok (.ireturn, 1) := by decide +kernel
theorem dX8_mend_21 : decode cX8_mend 21 = .ok (.iload_n 1, 1) := by decide +kernel
theorem dX8_mend_22 : decode cX8_mend 22 = .ok (.bipush 100, 2) := by decide +kernel
theorem dX8_mend_24 : decode cX8_mend 24 = .ok (.idiv, 1) := by decide +kernel
theorem dX8_mend_25 : decode cX8_mend 25 = .ok (.istore_n 2, 1) := by decide +kernel
theorem dX8_mend_26 : decode cX8_mend 26 = .ok (.aload_n 0, 1) := by decide +kernel
theorem dX8_mend_27 : decode cX8_mend 27 = .ok (.iload_n 2, 1) := by decide +kernel
theorem dX8_mend_28 : decode cX8_mend 28 = .ok (.iconst 1, 1) := by decide +kernel
theorem dX8_mend_29 : decode cX8_mend 29 = .ok (.iadd, 1) := by decide +kernel
theorem dX8_mend_30 : decode cX8_mend 30 = .ok (.iload_n 1, 1) := by decide +kernel
theorem dX8_mend_31 : decode cX8_mend 31 = .ok (.bipush 10, 2) := by decide +kernel
theorem dX8_mend_33 : decode cX8_mend 33 = .ok (.irem, 1) := by decide +kernel
theorem dX8_mend_34 : decode cX8_mend 34 = .ok (.invokevirtual 57, 3) := by decide +kernel
theorem dX8_mend_37 : decode cX8_mend 37 = .ok (.iconst 1, 1) := by decide +kernel
theorem dX8_mend_38 : decode cX8_mend 38 = .ok (.iadd, 1) := by decide +kernel
theorem dX8_mend_39 : decode cX8_mend 39 = .ok (.istore_n 3, 1) := by decide +kernel
theorem dX8_mend_40 : decode cX8_mend 40 = .ok (.iload_n 3, 1) := by decide +kernel
theorem dX8_mend_41 : decode cX8_mend 41 = .ok (.sipush 9999, 3) := by decide +kernel
theorem dX8_mend_44 : decode cX8_mend 44 = .ok (.if_icmp .le 5, 3) := by decide +kernel
theorem dX8_mend_47 : decode cX8_mend 47 = .ok (.iconst (-1), 1) := by decide +kernel
theorem dX8_mend_48 : decode cX8_mend 48 = .ok (.ireturn, 1) := by decide +kernel
theorem dX8_mend_49 : decode cX8_mend 49 = .ok (.aload_n 0, 1) := by decide +kernel
theorem dX8_mend_50 : decode cX8_mend 50 = .ok (.iload_n 2, 1) := by decide +kernel
theorem dX8_mend_51 : decode cX8_mend 51 = .ok (.iconst 1, 1) := by decide +kernel
theorem dX8_mend_52 : decode cX8_mend 52 = .ok (.iadd, 1) := by decide +kernel
theorem dX8_mend_53 : decode cX8_mend 53 = .ok (.iload_n 1, 1) := by decide +kernel
theorem dX8_mend_54 : decode cX8_mend 54 = .ok (.bipush 10, 2) := by decide +kernel
theorem dX8_mend_56 : decode cX8_mend 56 = .ok (.idiv, 1) := by decide +kernel
theorem dX8_mend_57 : decode cX8_mend 57 = .ok (.bipush 10, 2) := by decide +kernel
theorem dX8_mend_59 : decode cX8_mend 59 = .ok (.irem, 1) := by decide +kernel
theorem dX8_mend_60 : decode cX8_mend 60 = .ok (.iload_n 3, 1) := by decide +kernel
theorem dX8_mend_61 : decode cX8_mend 61 = .ok (.invokevirtual 137, 3) := by decide +kernel
theorem dX8_mend_64 : decode cX8_mend 64 = .ok (.aload_n 0, 1) := by decide +kernel
theorem dX8_mend_65 : decode cX8_mend 65 = .ok (.getfield 7, 3) := by decide +kernel
theorem dX8_mend_68 : decode cX8_mend 68 = .ok (.iconst 4, 1) := by decide +kernel
theorem dX8_mend_69 : decode cX8_mend 69 = .ok (.dup2, 1) := by decide +kernel
theorem dX8_mend_70 : decode cX8_mend 70 = .ok (.iaload, 1) := by decide +kernel
theorem dX8_mend_71 : decode cX8_mend 71 = .ok (.iconst 1, 1) := by decide +kernel
theorem dX8_mend_72 : decode cX8_mend 72 = .ok (.iadd, 1) := by decide +kernel
theorem dX8_mend_73 : decode cX8_mend 73 = .ok (.iastore, 1) := by decide +kernel
theorem dX8_mend_74 : decode cX8_mend 74 = .ok (.iload_n 2, 1) := by decide +kernel
theorem dX8_mend_75 : decode cX8_mend 75 = .ok (.ireturn, 1) := by decide +kernel
theorem dX8_find_0 : decode cX8_find 0 = .ok (.aload_n 0, 1) := by decide +kernel
theorem dX8_find_1 : decode cX8_find 1 = .ok (.iconst 0, 1) := by decide +kernel
theorem dX8_find_2 : decode cX8_find 2 = .ok (.putfield 46, 3) := by decide +kernel
theorem dX8_find_5 : decode cX8_find 5 = .ok (.iload_n 1, 1) := by decide +kernel
theorem dX8_find_6 : decode cX8_find 6 = .ok (.iconst 0, 1) := by decide +kernel
theorem dX8_find_7 : decode cX8_find 7 = .ok (.iconst 2, 1) := by decide +kernel
theorem dX8_find_8 : decode cX8_find 8 = .ok (.invokestatic 89, 3) := by decide +kernel
theorem dX8_find_11 : decode cX8_find 11 = .ok (.ifCond .ne 9, 3) := by decide +kernel
theorem dX8_find_14 : decode cX8_find 14 = .ok (.aload_n 0, 1) := by decide +kernel
theorem dX8_find_15 : decode cX8_find 15 = .ok (.iconst 1, 1) := by decide +kernel
theorem dX8_find_16 : decode cX8_find 16 = .ok (.invokevirtual 126, 3) := by decide +kernel
theorem dX8_find_19 : decode cX8_find 19 = .ok (.ireturn, 1) := by decide +kernel
theorem dX8_find_20 : decode cX8_find 20 = .ok (.aload_n 0, 1) := by decide +kernel
theorem dX8_find_21 : decode cX8_find 21 = .ok (.iload_n 1, 1) := by decide +kernel
theorem dX8_find_22 : decode cX8_find 22 = .ok (.invokevirtual 116, 3) := by decide +kernel
theorem dX8_find_25 : decode cX8_find 25 = .ok (.ifCond .ne 9, 3) := by decide +kernel
theorem dX8_find_28 : decode cX8_find 28 = .ok (.aload_n 0, 1) := by decide +kernel
theorem dX8_find_29 : decode cX8_find 29 = .ok (.iconst 2, 1) := by decide +kernel
theorem dX8_find_30 : decode cX8_find 30 = .ok (.invokevirtual 126, 3) := by decide +kernel
theorem dX8_find_33 : decode cX8_find 33 = .ok (.ireturn, 1) := by decide +kernel
theorem dX8_find_34 : decode cX8_find 34 = .ok (.aload_n 0, 1) := by decide +kernel
theorem dX8_find_35 : decode cX8_find 35 = .ok (.invokevirtual 130, 3) := by decide +kernel
theorem dX8_find_38 : decode cX8_find 38 = .ok (.aload_n 0, 1) := by decide +kernel
theorem dX8_find_39 : decode cX8_find 39 = .ok (.iload_n 1, 1) := by decide +kernel
theorem dX8_find_40 : decode cX8_find 40 = .ok (.invokevirtual 120, 3) := by decide +kernel
theorem dX8_find_43 : decode cX8_find 43 = .ok (.aload_n 0, 1) := by decide +kernel
theorem dX8_find_44 : decode cX8_find 44 = .ok (.getfield 7, 3) := by decide +kernel
theorem dX8_find_47 : decode cX8_find 47 = .ok (.iconst 2, 1) := by decide +kernel
theorem dX8_find_48 : decode cX8_find 48 = .ok (.dup2, 1) := by decide +kernel
theorem dX8_find_49 : decode cX8_find 49 = .ok (.iaload, 1) := by decide +kernel
theorem dX8_find_50 : decode cX8_find 50 = .ok (.aload_n 0, 1) := by decide +kernel
theorem dX8_find_51 : decode cX8_find 51 = .ok (.getfield 69, 3) := by decide +kernel
theorem dX8_find_54 : decode cX8_find 54 = .ok (.iadd, 1) := by decide +kernel
theorem dX8_find_55 : decode cX8_find 55 = .ok (.iastore, 1) := by decide +kernel
theorem dX8_find_56 : decode cX8_find 56 = .ok (.aload_n 0, 1) := by decide +kernel
theorem dX8_find_57 : decode cX8_find 57 = .ok (.getfield 7, 3) := by decide +kernel
theorem dX8_find_60 : decode cX8_find 60 = .ok (.iconst 3, 1) := by decide +kernel
theorem dX8_find_61 : decode cX8_find 61 = .ok (.dup2, 1) := by decide +kernel
theorem dX8_find_62 : decode cX8_find 62 = .ok (.iaload, 1) := by decide +kernel
theorem dX8_find_63 : decode cX8_find 63 = .ok (.iconst 1, 1) := by decide +kernel
theorem dX8_find_64 : decode cX8_find 64 = .ok (.iadd, 1) := by decide +kernel
theorem dX8_find_65 : decode cX8_find 65 = .ok (.iastore, 1) := by decide +kernel
theorem dX8_find_66 : decode cX8_find 66 = .ok (.aload_n 0, 1) := by decide +kernel
theorem dX8_find_67 : decode cX8_find 67 = .ok (.getfield 69, 3) := by decide +kernel
theorem dX8_find_70 : decode cX8_find 70 = .ok (.ireturn, 1) := by decide +kernel
theorem dX8_weigh_0 : decode cX8_weigh 0 = .ok (.aload_n 0, 1) := by decide +kernel
theorem dX8_weigh_1 : decode cX8_weigh 1 = .ok (.iconst 0, 1) := by decide +kernel
theorem dX8_weigh_2 : decode cX8_weigh 2 = .ok (.putfield 46, 3) := by decide +kernel
theorem dX8_weigh_5 : decode cX8_weigh 5 = .ok (.iload_n 1, 1) := by decide +kernel
theorem dX8_weigh_6 : decode cX8_weigh 6 = .ok (.iconst 1, 1) := by decide +kernel
theorem dX8_weigh_7 : decode cX8_weigh 7 = .ok (.bipush 99, 2) := by decide +kernel
theorem dX8_weigh_9 : decode cX8_weigh 9 = .ok (.invokestatic 89, 3) := by decide +kernel
theorem dX8_weigh_12 : decode cX8_weigh 12 = .ok (.ifCond .ne 9, 3) := by decide +kernel
theorem dX8_weigh_15 : decode cX8_weigh 15 = .ok (.aload_n 0, 1) := by decide +kernel
theorem dX8_weigh_16 : decode cX8_weigh 16 = .ok (.iconst 1, 1) := by decide +kernel
theorem dX8_weigh_17 : decode cX8_weigh 17 = .ok (.invokevirtual 126, 3) := by decide +kernel
theorem dX8_weigh_20 : decode cX8_weigh 20 = .ok (.ireturn, 1) := by decide +kernel
theorem dX8_weigh_21 : decode cX8_weigh 21 = .ok (.aload_n 0, 1) := by decide +kernel
theorem dX8_weigh_22 : decode cX8_weigh 22 = .ok (.getfield 7, 3) := by decide +kernel
theorem dX8_weigh_25 : decode cX8_weigh 25 = .ok (.iconst 5, 1) := by decide +kernel
theorem dX8_weigh_26 : decode cX8_weigh 26 = .ok (.iaload, 1) := by decide +kernel
theorem dX8_weigh_27 : decode cX8_weigh 27 = .ok (.bipush 10, 2) := by decide +kernel
theorem dX8_weigh_29 : decode cX8_weigh 29 = .ok (.if_icmp .ne 9, 3) := by decide +kernel
theorem dX8_weigh_32 : decode cX8_weigh 32 = .ok (.aload_n 0, 1) := by decide +kernel
theorem dX8_weigh_33 : decode cX8_weigh 33 = .ok (.iconst 2, 1) := by decide +kernel
theorem dX8_weigh_34 : decode cX8_weigh 34 = .ok (.invokevirtual 126, 3) := by decide +kernel
theorem dX8_weigh_37 : decode cX8_weigh 37 = .ok (.ireturn, 1) := by decide +kernel
theorem dX8_weigh_38 : decode cX8_weigh 38 = .ok (.aload_n 0, 1) := by decide +kernel
theorem dX8_weigh_39 : decode cX8_weigh 39 = .ok (.invokevirtual 130, 3) := by decide +kernel
theorem dX8_weigh_42 : decode cX8_weigh 42 = .ok (.aload_n 0, 1) := by decide +kernel
theorem dX8_weigh_43 : decode cX8_weigh 43 = .ok (.getfield 7, 3) := by decide +kernel
theorem dX8_weigh_46 : decode cX8_weigh 46 = .ok (.bipush 6, 2) := by decide +kernel
theorem dX8_weigh_48 : decode cX8_weigh 48 = .ok (.aload_n 0, 1) := by decide +kernel
theorem dX8_weigh_49 : decode cX8_weigh 49 = .ok (.getfield 7, 3) := by decide +kernel
theorem dX8_weigh_52 : decode cX8_weigh 52 = .ok (.iconst 5, 1) := by decide +kernel
theorem dX8_weigh_53 : decode cX8_weigh 53 = .ok (.iaload, 1) := by decide +kernel
theorem dX8_weigh_54 : decode cX8_weigh 54 = .ok (.iadd, 1) := by decide +kernel
theorem dX8_weigh_55 : decode cX8_weigh 55 = .ok (.iload_n 1, 1) := by decide +kernel
theorem dX8_weigh_56 : decode cX8_weigh 56 = .ok (.iastore, 1) := by decide +kernel
theorem dX8_weigh_57 : decode cX8_weigh 57 = .ok (.aload_n 0, 1) := by decide +kernel
theorem dX8_weigh_58 : decode cX8_weigh 58 = .ok (.getfield 7, 3) := by decide +kernel
theorem dX8_weigh_61 : decode cX8_weigh 61 = .ok (.iconst 5, 1) := by decide +kernel
theorem dX8_weigh_62 : decode cX8_weigh 62 = .ok (.dup2, 1) := by decide +kernel
theorem dX8_weigh_63 : decode cX8_weigh 63 = .ok (.iaload, 1) := by decide +kernel
theorem dX8_weigh_64 : decode cX8_weigh 64 = .ok (.iconst 1, 1) := by decide +kernel
theorem dX8_weigh_65 : decode cX8_weigh 65 = .ok (.iadd, 1) := by decide +kernel
theorem dX8_weigh_66 : decode cX8_weigh 66 = .ok (.iastore, 1) := by decide +kernel
theorem dX8_weigh_67 : decode cX8_weigh 67 = .ok (.aload_n 0, 1) := by decide +kernel
theorem dX8_weigh_68 : decode cX8_weigh 68 = .ok (.getfield 7, 3) := by decide +kernel
theorem dX8_weigh_71 : decode cX8_weigh 71 = .ok (.iconst 5, 1) := by decide +kernel
theorem dX8_weigh_72 : decode cX8_weigh 72 = .ok (.iaload, 1) := by decide +kernel
theorem dX8_weigh_73 : decode cX8_weigh 73 = .ok (.ireturn, 1) := by decide +kernel
theorem dX8_unweigh_0 : decode cX8_unweigh 0 = .ok (.aload_n 0, 1) := by decide +kernel
theorem dX8_unweigh_1 : decode cX8_unweigh 1 = .ok (.iconst 0, 1) := by decide +kernel
theorem dX8_unweigh_2 : decode cX8_unweigh 2 = .ok (.putfield 46, 3) := by decide +kernel
theorem dX8_unweigh_5 : decode cX8_unweigh 5 = .ok (.aload_n 0, 1) := by decide +kernel
theorem dX8_unweigh_6 : decode cX8_unweigh 6 = .ok (.getfield 7, 3) := by decide +kernel
theorem dX8_unweigh_9 : decode cX8_unweigh 9 = .ok (.iconst 5, 1) := by decide +kernel
theorem dX8_unweigh_10 : decode cX8_unweigh 10 = .ok (.iaload, 1) := by decide +kernel
theorem dX8_unweigh_11 : decode cX8_unweigh 11 = .ok (.iconst 1, 1) := by decide +kernel
theorem dX8_unweigh_12 : decode cX8_unweigh 12 = .ok (.if_icmp .ne 9, 3) := by decide +kernel
theorem dX8_unweigh_15 : decode cX8_unweigh 15 = .ok (.aload_n 0, 1) := by decide +kernel
theorem dX8_unweigh_16 : decode cX8_unweigh 16 = .ok (.iconst 1, 1) := by decide +kernel
theorem dX8_unweigh_17 : decode cX8_unweigh 17 = .ok (.invokevirtual 126, 3) := by decide +kernel
theorem dX8_unweigh_20 : decode cX8_unweigh 20 = .ok (.ireturn, 1) := by decide +kernel
theorem dX8_unweigh_21 : decode cX8_unweigh 21 = .ok (.aload_n 0, 1) := by decide +kernel
theorem dX8_unweigh_22 : decode cX8_unweigh 22 = .ok (.invokevirtual 130, 3) := by decide +kernel
theorem dX8_unweigh_25 : decode cX8_unweigh 25 = .ok (.aload_n 0, 1) := by decide +kernel
theorem dX8_unweigh_26 : decode cX8_unweigh 26 = .ok (.getfield 7, 3) := by decide +kernel
theorem dX8_unweigh_29 : decode cX8_unweigh 29 = .ok (.iconst 5, 1) := by decide +kernel
theorem dX8_unweigh_30 : decode cX8_unweigh 30 = .ok (.dup2, 1) := by decide +kernel
theorem dX8_unweigh_31 : decode cX8_unweigh 31 = .ok (.iaload, 1) := by decide +kernel
theorem dX8_unweigh_32 : decode cX8_unweigh 32 = .ok (.iconst 1, 1) := by decide +kernel
theorem dX8_unweigh_33 : decode cX8_unweigh 33 = .ok (.isub, 1) := by decide +kernel
theorem dX8_unweigh_34 : decode cX8_unweigh 34 = .ok (.iastore, 1) := by decide +kernel
theorem dX8_unweigh_35 : decode cX8_unweigh 35 = .ok (.aload_n 0, 1) := by decide +kernel
theorem dX8_unweigh_36 : decode cX8_unweigh 36 = .ok (.getfield 7, 3) := by decide +kernel
theorem dX8_unweigh_39 : decode cX8_unweigh 39 = .ok (.bipush 6, 2) := by decide +kernel
theorem dX8_unweigh_41 : decode cX8_unweigh 41 = .ok (.aload_n 0, 1) := by decide +kernel
theorem dX8_unweigh_42 : decode cX8_unweigh 42 = .ok (.getfield 7, 3) := by decide +kernel
theorem dX8_unweigh_45 : decode cX8_unweigh 45 = .ok (.iconst 5, 1) := by decide +kernel
theorem dX8_unweigh_46 : decode cX8_unweigh 46 = .ok (.iaload, 1) := by decide +kernel
theorem dX8_unweigh_47 : decode cX8_unweigh 47 = .ok (.iadd, 1) := by decide +kernel
theorem dX8_unweigh_48 : decode cX8_unweigh 48 = .ok (.iaload, 1) := by decide +kernel
theorem dX8_unweigh_49 : decode cX8_unweigh 49 = .ok (.istore_n 1, 1) := by decide +kernel
theorem dX8_unweigh_50 : decode cX8_unweigh 50 = .ok (.aload_n 0, 1) := by decide +kernel
theorem dX8_unweigh_51 : decode cX8_unweigh 51 = .ok (.getfield 7, 3) := by decide +kernel
theorem dX8_unweigh_54 : decode cX8_unweigh 54 = .ok (.bipush 6, 2) := by decide +kernel
theorem dX8_unweigh_56 : decode cX8_unweigh 56 = .ok (.aload_n 0, 1) := by decide +kernel
theorem dX8_unweigh_57 : decode cX8_unweigh 57 = .ok (.getfield 7, 3) := by decide +kernel
theorem dX8_unweigh_60 : decode cX8_unweigh 60 = .ok (.iconst 5, 1) := by decide +kernel
theorem dX8_unweigh_61 : decode cX8_unweigh 61 = .ok (.iaload, 1) := by decide +kernel
theorem dX8_unweigh_62 : decode cX8_unweigh 62 = .ok (.iadd, 1) := by decide +kernel
theorem dX8_unweigh_63 : decode cX8_unweigh 63 = .ok (.iconst 0, 1) := by decide +kernel
theorem dX8_unweigh_64 : decode cX8_unweigh 64 = .ok (.iastore, 1) := by decide +kernel
theorem dX8_unweigh_65 : decode cX8_unweigh 65 = .ok (.iload_n 1, 1) := by decide +kernel
theorem dX8_unweigh_66 : decode cX8_unweigh 66 = .ok (.ireturn, 1) := by decide +kernel
theorem dX8_append_0 : decode cX8_append 0 = .ok (.aload_n 0, 1) := by decide +kernel
theorem dX8_append_1 : decode cX8_append 1 = .ok (.iconst 0, 1) := by decide +kernel
theorem dX8_append_2 : decode cX8_append 2 = .ok (.putfield 46, 3) := by decide +kernel
theorem dX8_append_5 : decode cX8_append 5 = .ok (.iload_n 1, 1) := by decide +kernel
theorem dX8_append_6 : decode cX8_append 6 = .ok (.bipush 33, 2) := by decide +kernel
theorem dX8_append_8 : decode cX8_append 8 = .ok (.bipush 126, 2) := by decide +kernel
theorem dX8_append_10 : decode cX8_append 10 = .ok (.invokestatic 89, 3) := by decide +kernel
theorem dX8_append_13 : decode cX8_append 13 = .ok (.ifCond .ne 9, 3) := by decide +kernel
theorem dX8_append_16 : decode cX8_append 16 = .ok (.aload_n 0, 1) := by decide +kernel
theorem dX8_append_17 : decode cX8_append 17 = .ok (.iconst 1, 1) := by decide +kernel
theorem dX8_append_18 : decode cX8_append 18 = .ok (.invokevirtual 126, 3) := by decide +kernel
theorem dX8_append_21 : decode cX8_append 21 = .ok (.ireturn, 1) := by decide +kernel
theorem dX8_append_22 : decode cX8_append 22 = .ok (.aload_n 0, 1) := by decide +kernel
theorem dX8_append_23 : decode cX8_append 23 = .ok (.getfield 141, 3) := by decide +kernel
theorem dX8_append_26 : decode cX8_append 26 = .ok (.bipush 60, 2) := by decide +kernel
theorem dX8_append_28 : decode cX8_append 28 = .ok (.if_icmp .ne 9, 3) := by decide +kernel
theorem dX8_append_31 : decode cX8_append 31 = .ok (.aload_n 0, 1) := by decide +kernel
theorem dX8_append_32 : decode cX8_append 32 = .ok (.iconst 2, 1) := by decide +kernel
theorem dX8_append_33 : decode cX8_append 33 = .ok (.invokevirtual 126, 3) := by decide +kernel
theorem dX8_append_36 : decode cX8_append 36 = .ok (.ireturn, 1) := by decide +kernel
theorem dX8_append_37 : decode cX8_append 37 = .ok (.aload_n 0, 1) := by decide +kernel
theorem dX8_append_38 : decode cX8_append 38 = .ok (.getfield 22, 3) := by decide +kernel
theorem dX8_append_41 : decode cX8_append 41 = .ok (.aload_n 0, 1) := by decide +kernel
theorem dX8_append_42 : decode cX8_append 42 = .ok (.getfield 141, 3) := by decide +kernel
theorem dX8_append_45 : decode cX8_append 45 = .ok (.iload_n 1, 1) := by decide +kernel
theorem dX8_append_46 : decode cX8_append 46 = .ok (.iastore, 1) := by decide +kernel
theorem dX8_append_47 : decode cX8_append 47 = .ok (.aload_n 0, 1) := by decide +kernel
theorem dX8_append_48 : decode cX8_append 48 = .ok (.dup, 1) := by decide +kernel
theorem dX8_append_49 : decode cX8_append 49 = .ok (.getfield 141, 3) := by decide +kernel
theorem dX8_append_52 : decode cX8_append 52 = .ok (.iconst 1, 1) := by decide +kernel
theorem dX8_append_53 : decode cX8_append 53 = .ok (.iadd, 1) := by decide +kernel
theorem dX8_append_54 : decode cX8_append 54 = .ok (.putfield 141, 3) := by decide +kernel
theorem dX8_append_57 : decode cX8_append 57 = .ok (.aload_n 0, 1) := by decide +kernel
theorem dX8_append_58 : decode cX8_append 58 = .ok (.getfield 141, 3) := by decide +kernel
theorem dX8_append_61 : decode cX8_append 61 = .ok (.ireturn, 1) := by decide +kernel
theorem dX8_clearBuffer_0 : decode cX8_clearBuffer 0 = .ok (.aload_n 0, 1) := by decide +kernel
theorem dX8_clearBuffer_1 : decode cX8_clearBuffer 1 = .ok (.iconst 0, 1) := by decide +kernel
theorem dX8_clearBuffer_2 : decode cX8_clearBuffer 2 = .ok (.putfield 46, 3) := by decide +kernel
theorem dX8_clearBuffer_5 : decode cX8_clearBuffer 5 = .ok (.aload_n 0, 1) := by decide +kernel
theorem dX8_clearBuffer_6 : decode cX8_clearBuffer 6 = .ok (.getfield 141, 3) := by decide +kernel
theorem dX8_clearBuffer_9 : decode cX8_clearBuffer 9 = .ok (.istore_n 1, 1) := by decide +kernel
theorem dX8_clearBuffer_10 : decode cX8_clearBuffer 10 = .ok (.aload_n 0, 1) := by decide +kernel
theorem dX8_clearBuffer_11 : decode cX8_clearBuffer 11 = .ok (.iconst 0, 1) := by decide +kernel
theorem dX8_clearBuffer_12 : decode cX8_clearBuffer 12 = .ok (.putfield 141, 3) := by decide +kernel
theorem dX8_clearBuffer_15 : decode cX8_clearBuffer 15 = .ok (.iload_n 1, 1) := by decide +kernel
theorem dX8_clearBuffer_16 : decode cX8_clearBuffer 16 = .ok (.ireturn, 1) := by decide +kernel
theorem dX8_sees_0 : decode cX8_sees 0 = .ok (.aload_n 0, 1) := by decide +kernel
theorem dX8_sees_1 : decode cX8_sees 1 = .ok (.getfield 144, 3) := by decide +kernel
theorem dX8_sees_4 : decode cX8_sees 4 = .ok (.aload_n 0, 1) := by decide +kernel
theorem dX8_sees_5 : decode cX8_sees 5 = .ok (.getfield 141, 3) := by decide +kernel
theorem dX8_sees_8 : decode cX8_sees 8 = .ok (.if_icmp .ge 24, 3) := by decide +kernel
theorem dX8_sees_11 : decode cX8_sees 11 = .ok (.aload_n 0, 1) := by decide +kernel
theorem dX8_sees_12 : decode cX8_sees 12 = .ok (.getfield 22, 3) := by decide +kernel
theorem dX8_sees_15 : decode cX8_sees 15 = .ok (.aload_n 0, 1) := by decide +kernel
theorem dX8_sees_16 : decode cX8_sees 16 = .ok (.getfield 144, 3) := by decide +kernel
theorem dX8_sees_19 : decode cX8_sees 19 = .ok (.iaload, 1) := by decide +kernel
theorem dX8_sees_20 : decode cX8_sees 20 = .ok (.iload_n 1, 1) := by decide +kernel
theorem dX8_sees_21 : decode cX8_sees 21 = .ok (.iload_n 2, 1) := by decide +kernel
theorem dX8_sees_22 : decode cX8_sees 22 = .ok (.invokestatic 89, 3) := by decide +kernel
theorem dX8_sees_25 : decode cX8_sees 25 = .ok (.ifCond .eq 7, 3) := by decide +kernel
theorem dX8_sees_28 : decode cX8_sees 28 = .ok (.iconst 1, 1) := by decide +kernel
theorem dX8_sees_29 : decode cX8_sees 29 = .ok (.goto 4, 3) := by decide +kernel
theorem dX8_sees_32 : decode cX8_sees 32 = .ok (.iconst 0, 1) := by decide +kernel
theorem dX8_sees_33 : decode cX8_sees 33 = .ok (.ireturn, 1) := by decide +kernel
theorem dX8_takes_0 : decode cX8_takes 0 = .ok (.aload_n 0, 1) := by decide +kernel
theorem dX8_takes_1 : decode cX8_takes 1 = .ok (.iload_n 1, 1) := by decide +kernel
theorem dX8_takes_2 : decode cX8_takes 2 = .ok (.iload_n 1, 1) := by decide +kernel
theorem dX8_takes_3 : decode cX8_takes 3 = .ok (.invokevirtual 147, 3) := by decide +kernel
theorem dX8_takes_6 : decode cX8_takes 6 = .ok (.istore_n 2, 1) := by decide +kernel
theorem dX8_takes_7 : decode cX8_takes 7 = .ok (.aload_n 0, 1) := by decide +kernel
theorem dX8_takes_8 : decode cX8_takes 8 = .ok (.dup, 1) := by decide +kernel
theorem dX8_takes_9 : decode cX8_takes 9 = .ok (.getfield 144, 3) := by decide +kernel
theorem dX8_takes_12 : decode cX8_takes 12 = .ok (.iload_n 2, 1) := by decide +kernel
theorem dX8_takes_13 : decode cX8_takes 13 = .ok (.ifCond .eq 7, 3) := by decide +kernel
theorem dX8_takes_16 : decode cX8_takes 16 = .ok (.iconst 1, 1) := by decide +kernel
theorem dX8_takes_17 : decode cX8_takes 17 = .ok (.goto 4, 3) := by decide +kernel
theorem dX8_takes_20 : decode cX8_takes 20 = .ok (.iconst 0, 1) := by decide +kernel
theorem dX8_takes_21 : decode cX8_takes 21 = .ok (.iadd, 1) := by decide +kernel
theorem dX8_takes_22 : decode cX8_takes 22 = .ok (.putfield 144, 3) := by decide +kernel
theorem dX8_takes_25 : decode cX8_takes 25 = .ok (.iload_n 2, 1) := by decide +kernel
theorem dX8_takes_26 : decode cX8_takes 26 = .ok (.ireturn, 1) := by decide +kernel
theorem dX8_isNumber_0 : decode cX8_isNumber 0 = .ok (.aload_n 0, 1) := by decide +kernel
theorem dX8_isNumber_1 : decode cX8_isNumber 1 = .ok (.bipush 48, 2) := by decide +kernel
theorem dX8_isNumber_3 : decode cX8_isNumber 3 = .ok (.bipush 57, 2) := by decide +kernel
theorem dX8_isNumber_5 : decode cX8_isNumber 5 = .ok (.invokevirtual 147, 3) := by decide +kernel
theorem dX8_isNumber_8 : decode cX8_isNumber 8 = .ok (.ifCond .ne 5, 3) := by decide +kernel
theorem dX8_isNumber_11 : decode cX8_isNumber 11 = .ok (.iconst 0, 1) := by decide +kernel
theorem dX8_isNumber_12 : decode cX8_isNumber 12 = .ok (.ireturn, 1) := by decide +kernel
theorem dX8_isNumber_13 : decode cX8_isNumber 13 = .ok (.aload_n 0, 1) := by decide +kernel
theorem dX8_isNumber_14 : decode cX8_isNumber 14 = .ok (.getfield 22, 3) := by decide +kernel
theorem dX8_isNumber_17 : decode cX8_isNumber 17 = .ok (.aload_n 0, 1) := by decide +kernel
theorem dX8_isNumber_18 : decode cX8_isNumber 18 = .ok (.getfield 144, 3) := by decide +kernel
theorem dX8_isNumber_21 : decode cX8_isNumber 21 = .ok (.iaload, 1) := by decide +kernel
theorem dX8_isNumber_22 : decode cX8_isNumber 22 = .ok (.bipush 48, 2) := by decide +kernel
theorem dX8_isNumber_24 : decode cX8_isNumber 24 = .ok (.isub, 1) := by decide +kernel
theorem dX8_isNumber_25 : decode cX8_isNumber 25 = .ok (.istore_n 3, 1) := by decide +kernel
theorem dX8_isNumber_26 : decode cX8_isNumber 26 = .ok (.aload_n 0, 1) := by decide +kernel
theorem dX8_isNumber_27 : decode cX8_isNumber 27 = .ok (.dup, 1) := by decide +kernel
theorem dX8_isNumber_28 : decode cX8_isNumber 28 = .ok (.getfield 144, 3) := by decide +kernel
theorem dX8_isNumber_31 : decode cX8_isNumber 31 = .ok (.iconst 1, 1) := by decide +kernel
theorem dX8_isNumber_32 : decode cX8_isNumber 32 = .ok (.iadd, 1) := by decide +kernel
theorem dX8_isNumber_33 : decode cX8_isNumber 33 = .ok (.putfield 144, 3) := by decide +kernel
theorem dX8_isNumber_36 : decode cX8_isNumber 36 = .ok (.iload_n 3, 1) := by decide +kernel
theorem dX8_isNumber_37 : decode cX8_isNumber 37 = .ok (.ifCond .le 52, 3) := by decide +kernel
theorem dX8_isNumber_40 : decode cX8_isNumber 40 = .ok (.iload_n 3, 1) := by decide +kernel
theorem dX8_isNumber_41 : decode cX8_isNumber 41 = .ok (.sipush 1000, 3) := by decide +kernel
theorem dX8_isNumber_44 : decode cX8_isNumber 44 = .ok (.if_icmp .ge 45, 3) := by decide +kernel
theorem dX8_isNumber_47 : decode cX8_isNumber 47 = .ok (.aload_n 0, 1) := by decide +kernel
theorem dX8_isNumber_48 : decode cX8_isNumber 48 = .ok (.bipush 48, 2) := by decide +kernel
theorem dX8_isNumber_50 : decode cX8_isNumber 50 = .ok (.bipush 57, 2) := by decide +kernel
theorem dX8_isNumber_52 : decode cX8_isNumber 52 = .ok (.invokevirtual 147, 3) := by decide +kernel
theorem dX8_isNumber_55 : decode cX8_isNumber 55 = .ok (.ifCond .eq 34, 3) := by decide +kernel
theorem dX8_isNumber_58 : decode cX8_isNumber 58 = .ok (.bipush 10, 2) := by decide +kernel
theorem dX8_isNumber_60 : decode cX8_isNumber 60 = .ok (.iload_n 3, 1) := by decide +kernel
theorem dX8_isNumber_61 : decode cX8_isNumber 61 = .ok (.imul, 1) := by decide +kernel
theorem dX8_isNumber_62 : decode cX8_isNumber 62 = .ok (.aload_n 0, 1) := by decide +kernel
theorem dX8_isNumber_63 : decode cX8_isNumber 63 = .ok (.getfield 22, 3) := by decide +kernel
theorem dX8_isNumber_66 : decode cX8_isNumber 66 = .ok (.aload_n 0, 1) := by decide +kernel
theorem dX8_isNumber_67 : decode cX8_isNumber 67 = .ok (.getfield 144, 3) := by decide +kernel
theorem dX8_isNumber_70 : decode cX8_isNumber 70 = .ok (.iaload, 1) := by decide +kernel
theorem dX8_isNumber_71 : decode cX8_isNumber 71 = .ok (.iadd, 1) := by decide +kernel
theorem dX8_isNumber_72 : decode cX8_isNumber 72 = .ok (.bipush 48, 2) := by decide +kernel
theorem dX8_isNumber_74 : decode cX8_isNumber 74 = .ok (.isub, 1) := by decide +kernel
theorem dX8_isNumber_75 : decode cX8_isNumber 75 = .ok (.istore_n 3, 1) := by decide +kernel
theorem dX8_isNumber_76 : decode cX8_isNumber 76 = .ok (.aload_n 0, 1) := by decide +kernel
theorem dX8_isNumber_77 : decode cX8_isNumber 77 = .ok (.dup, 1) := by decide +kernel
theorem dX8_isNumber_78 : decode cX8_isNumber 78 = .ok (.getfield 144, 3) := by decide +kernel
theorem dX8_isNumber_81 : decode cX8_isNumber 81 = .ok (.iconst 1, 1) := by decide +kernel
theorem dX8_isNumber_82 : decode cX8_isNumber 82 = .ok (.iadd, 1) := by decide +kernel
theorem dX8_isNumber_83 : decode cX8_isNumber 83 = .ok (.putfield 144, 3) := by decide +kernel
theorem dX8_isNumber_86 : decode cX8_isNumber 86 = .ok (.goto (-50), 3) := by decide +kernel
theorem dX8_isNumber_89 : decode cX8_isNumber 89 = .ok (.aload_n 0, 1) := by decide +kernel
theorem dX8_isNumber_90 : decode cX8_isNumber 90 = .ok (.getfield 37, 3) := by decide +kernel
theorem dX8_isNumber_93 : decode cX8_isNumber 93 = .ok (.bipush 10, 2) := by decide +kernel
theorem dX8_isNumber_95 : decode cX8_isNumber 95 = .ok (.iload_n 1, 1) := by decide +kernel
theorem dX8_isNumber_96 : decode cX8_isNumber 96 = .ok (.imul, 1) := by decide +kernel
theorem dX8_isNumber_97 : decode cX8_isNumber 97 = .ok (.iload_n 2, 1) := by decide +kernel
theorem dX8_isNumber_98 : decode cX8_isNumber 98 = .ok (.iadd, 1) := by decide +kernel
theorem dX8_isNumber_99 : decode cX8_isNumber 99 = .ok (.iload_n 3, 1) := by decide +kernel
theorem dX8_isNumber_100 : decode cX8_isNumber 100 = .ok (.iastore, 1) := by decide +kernel
theorem dX8_isNumber_101 : decode cX8_isNumber 101 = .ok (.iconst 1, 1) := by decide +kernel
theorem dX8_isNumber_102 : decode cX8_isNumber 102 = .ok (.ireturn, 1) := by decide +kernel
theorem dX8_isLine_0 : decode cX8_isLine 0 = .ok (.iload_n 1, 1) := by decide +kernel
theorem dX8_isLine_1 : decode cX8_isLine 1 = .ok (.ifCond .ne 8, 3) := by decide +kernel
theorem dX8_isLine_4 : decode cX8_isLine 4 = .ok (.bipush 10, 2) := by decide +kernel
theorem dX8_isLine_6 : decode cX8_isLine 6 = .ok (.goto 7, 3) := by decide +kernel
theorem dX8_isLine_9 : decode cX8_isLine 9 = .ok (.aload_n 0, 1) := by decide +kernel
theorem dX8_isLine_10 : decode cX8_isLine 10 = .ok (.getfield 150, 3) := by decide +kernel
theorem dX8_isLine_13 : decode cX8_isLine 13 = .ok (.istore_n 2, 1) := by decide +kernel
theorem dX8_isLine_14 : decode cX8_isLine 14 = .ok (.iconst 0, 1) := by decide +kernel
theorem dX8_isLine_15 : decode cX8_isLine 15 = .ok (.istore_n 3, 1) := by decide +kernel
theorem dX8_isLine_16 : decode cX8_isLine 16 = .ok (.iconst 1, 1) := by decide +kernel
theorem dX8_isLine_17 : decode cX8_isLine 17 = .ok (.istore 4, 2) := by decide +kernel
theorem dX8_isLine_19 : decode cX8_isLine 19 = .ok (.iload 4, 2) := by decide +kernel
theorem dX8_isLine_21 : decode cX8_isLine 21 = .ok (.ifCond .eq 41, 3) := by decide +kernel
theorem dX8_isLine_24 : decode cX8_isLine 24 = .ok (.aload_n 0, 1) := by decide +kernel
theorem dX8_isLine_25 : decode cX8_isLine 25 = .ok (.iload_n 1, 1) := by decide +kernel
theorem dX8_isLine_26 : decode cX8_isLine 26 = .ok (.iload_n 3, 1) := by decide +kernel
theorem dX8_isLine_27 : decode cX8_isLine 27 = .ok (.invokevirtual 153, 3) := by decide +kernel
theorem dX8_isLine_30 : decode cX8_isLine 30 = .ok (.ifCond .ne 5, 3) := by decide +kernel
theorem dX8_isLine_33 : decode cX8_isLine 33 = .ok (.iconst (-1), 1) := by decide +kernel
theorem dX8_isLine_34 : decode cX8_isLine 34 = .ok (.ireturn, 1) := by decide +kernel
theorem dX8_isLine_35 : decode cX8_isLine 35 = .ok (.iinc 3 1, 3) := by decide +kernel
theorem dX8_isLine_38 : decode cX8_isLine 38 = .ok (.iload_n 3, 1) := by decide +kernel
theorem dX8_isLine_39 : decode cX8_isLine 39 = .ok (.iload_n 2, 1) := by decide +kernel
theorem dX8_isLine_40 : decode cX8_isLine 40 = .ok (.if_icmp .ge 16, 3) := by decide +kernel
theorem dX8_isLine_43 : decode cX8_isLine 43 = .ok (.aload_n 0, 1) := by decide +kernel
theorem dX8_isLine_44 : decode cX8_isLine 44 = .ok (.bipush 44, 2) := by decide +kernel
theorem dX8_isLine_46 : decode cX8_isLine 46 = .ok (.invokevirtual 156, 3) := by decide +kernel
theorem dX8_isLine_49 : decode cX8_isLine 49 = .ok (.ifCond .eq 7, 3) := by decide +kernel
theorem dX8_isLine_52 : decode cX8_isLine 52 = .ok (.iconst 1, 1) := by decide +kernel
theorem dX8_isLine_53 : decode cX8_isLine 53 = .ok (.goto 4, 3) := by decide +kernel
theorem dX8_isLine_56 : decode cX8_isLine 56 = .ok (.iconst 0, 1) := by decide +kernel
theorem dX8_isLine_57 : decode cX8_isLine 57 = .ok (.istore 4, 2) := by decide +kernel
theorem dX8_isLine_59 : decode cX8_isLine 59 = .ok (.goto (-40), 3) := by decide +kernel
theorem dX8_isLine_62 : decode cX8_isLine 62 = .ok (.iload_n 1, 1) := by decide +kernel
theorem dX8_isLine_63 : decode cX8_isLine 63 = .ok (.ifCond .le 12, 3) := by decide +kernel
theorem dX8_isLine_66 : decode cX8_isLine 66 = .ok (.iload_n 3, 1) := by decide +kernel
theorem dX8_isLine_67 : decode cX8_isLine 67 = .ok (.iload_n 2, 1) := by decide +kernel
theorem dX8_isLine_68 : decode cX8_isLine 68 = .ok (.if_icmp .ge 7, 3) := by decide +kernel
theorem dX8_isLine_71 : decode cX8_isLine 71 = .ok (.iconst (-1), 1) := by decide +kernel
theorem dX8_isLine_72 : decode cX8_isLine 72 = .ok (.goto 4, 3) := by decide +kernel
theorem dX8_isLine_75 : decode cX8_isLine 75 = .ok (.iload_n 3, 1) := by decide +kernel
theorem dX8_isLine_76 : decode cX8_isLine 76 = .ok (.ireturn, 1) := by decide +kernel
theorem dX8_isWhole_0 : decode cX8_isWhole 0 = .ok (.aload_n 0, 1) := by decide +kernel
theorem dX8_isWhole_1 : decode cX8_isWhole 1 = .ok (.iconst 0, 1) := by decide +kernel
theorem dX8_isWhole_2 : decode cX8_isWhole 2 = .ok (.putfield 144, 3) := by decide +kernel
theorem dX8_isWhole_5 : decode cX8_isWhole 5 = .ok (.aload_n 0, 1) := by decide +kernel
theorem dX8_isWhole_6 : decode cX8_isWhole 6 = .ok (.iconst 0, 1) := by decide +kernel
theorem dX8_isWhole_7 : decode cX8_isWhole 7 = .ok (.putfield 159, 3) := by decide +kernel
theorem dX8_isWhole_10 : decode cX8_isWhole 10 = .ok (.iconst 1, 1) := by decide +kernel
theorem dX8_isWhole_11 : decode cX8_isWhole 11 = .ok (.istore_n 1, 1) := by decide +kernel
theorem dX8_isWhole_12 : decode cX8_isWhole 12 = .ok (.iload_n 1, 1) := by decide +kernel
theorem dX8_isWhole_13 : decode cX8_isWhole 13 = .ok (.ifCond .eq 61, 3) := by decide +kernel
theorem dX8_isWhole_16 : decode cX8_isWhole 16 = .ok (.aload_n 0, 1) := by decide +kernel
theorem dX8_isWhole_17 : decode cX8_isWhole 17 = .ok (.aload_n 0, 1) := by decide +kernel
theorem dX8_isWhole_18 : decode cX8_isWhole 18 = .ok (.getfield 159, 3) := by decide +kernel
theorem dX8_isWhole_21 : decode cX8_isWhole 21 = .ok (.invokevirtual 162, 3) := by decide +kernel
theorem dX8_isWhole_24 : decode cX8_isWhole 24 = .ok (.istore_n 2, 1) := by decide +kernel
theorem dX8_isWhole_25 : decode cX8_isWhole 25 = .ok (.iload_n 2, 1) := by decide +kernel
theorem dX8_isWhole_26 : decode cX8_isWhole 26 = .ok (.iconst (-1), 1) := by decide +kernel
theorem dX8_isWhole_27 : decode cX8_isWhole 27 = .ok (.if_icmp .ne 5, 3) := by decide +kernel
theorem dX8_isWhole_30 : decode cX8_isWhole 30 = .ok (.iconst 0, 1) := by decide +kernel
theorem dX8_isWhole_31 : decode cX8_isWhole 31 = .ok (.ireturn, 1) := by decide +kernel
theorem dX8_isWhole_32 : decode cX8_isWhole 32 = .ok (.aload_n 0, 1) := by decide +kernel
theorem dX8_isWhole_33 : decode cX8_isWhole 33 = .ok (.iload_n 2, 1) := by decide +kernel
theorem dX8_isWhole_34 : decode cX8_isWhole 34 = .ok (.putfield 150, 3) := by decide +kernel
theorem dX8_isWhole_37 : decode cX8_isWhole 37 = .ok (.aload_n 0, 1) := by decide +kernel
theorem dX8_isWhole_38 : decode cX8_isWhole 38 = .ok (.dup, 1) := by decide +kernel
theorem dX8_isWhole_39 : decode cX8_isWhole 39 = .ok (.getfield 159, 3) := by decide +kernel
theorem dX8_isWhole_42 : decode cX8_isWhole 42 = .ok (.iconst 1, 1) := by decide +kernel
theorem dX8_isWhole_43 : decode cX8_isWhole 43 = .ok (.iadd, 1) := by decide +kernel
theorem dX8_isWhole_44 : decode cX8_isWhole 44 = .ok (.putfield 159, 3) := by decide +kernel
theorem dX8_isWhole_47 : decode cX8_isWhole 47 = .ok (.aload_n 0, 1) := by decide +kernel
theorem dX8_isWhole_48 : decode cX8_isWhole 48 = .ok (.getfield 159, 3) := by decide +kernel
theorem dX8_isWhole_51 : decode cX8_isWhole 51 = .ok (.bipush 10, 2) := by decide +kernel
theorem dX8_isWhole_53 : decode cX8_isWhole 53 = .ok (.if_icmp .ge 16, 3) := by decide +kernel
theorem dX8_isWhole_56 : decode cX8_isWhole 56 = .ok (.aload_n 0, 1) := by decide +kernel
theorem dX8_isWhole_57 : decode cX8_isWhole 57 = .ok (.bipush 47, 2) := by decide +kernel
theorem dX8_isWhole_59 : decode cX8_isWhole 59 = .ok (.invokevirtual 156, 3) := by decide +kernel
theorem dX8_isWhole_62 : decode cX8_isWhole 62 = .ok (.ifCond .eq 7, 3) := by decide +kernel
theorem dX8_isWhole_65 : decode cX8_isWhole 65 = .ok (.iconst 1, 1) := by decide +kernel
theorem dX8_isWhole_66 : decode cX8_isWhole 66 = .ok (.goto 4, 3) := by decide +kernel
theorem dX8_isWhole_69 : decode cX8_isWhole 69 = .ok (.iconst 0, 1) := by decide +kernel
theorem dX8_isWhole_70 : decode cX8_isWhole 70 = .ok (.istore_n 1, 1) := by decide +kernel
theorem dX8_isWhole_71 : decode cX8_isWhole 71 = .ok (.goto (-59), 3) := by decide +kernel
theorem dX8_isWhole_74 : decode cX8_isWhole 74 = .ok (.aload_n 0, 1) := by decide +kernel
theorem dX8_isWhole_75 : decode cX8_isWhole 75 = .ok (.getfield 144, 3) := by decide +kernel
theorem dX8_isWhole_78 : decode cX8_isWhole 78 = .ok (.aload_n 0, 1) := by decide +kernel
theorem dX8_isWhole_79 : decode cX8_isWhole 79 = .ok (.getfield 141, 3) := by decide +kernel
theorem dX8_isWhole_82 : decode cX8_isWhole 82 = .ok (.if_icmp .ne 7, 3) := by decide +kernel
theorem dX8_isWhole_85 : decode cX8_isWhole 85 = .ok (.iconst 1, 1) := by decide +kernel
theorem dX8_isWhole_86 : decode cX8_isWhole 86 = .ok (.goto 4, 3) := by decide +kernel
theorem dX8_isWhole_89 : decode cX8_isWhole 89 = .ok (.iconst 0, 1) := by decide +kernel
theorem dX8_isWhole_90 : decode cX8_isWhole 90 = .ok (.ireturn, 1) := by decide +kernel
theorem dX8_firstError_0 : decode cX8_firstError 0 = .ok (.aload_n 0, 1) := by decide +kernel
theorem dX8_firstError_1 : decode cX8_firstError 1 = .ok (.iconst 0, 1) := by decide +kernel
theorem dX8_firstError_2 : decode cX8_firstError 2 = .ok (.putfield 46, 3) := by decide +kernel
theorem dX8_firstError_5 : decode cX8_firstError 5 = .ok (.aload_n 0, 1) := by decide +kernel
theorem dX8_firstError_6 : decode cX8_firstError 6 = .ok (.invokevirtual 165, 3) := by decide +kernel
theorem dX8_firstError_9 : decode cX8_firstError 9 = .ok (.ifCond .eq 10, 3) := by decide +kernel
theorem dX8_firstError_12 : decode cX8_firstError 12 = .ok (.aload_n 0, 1) := by decide +kernel
theorem dX8_firstError_13 : decode cX8_firstError 13 = .ok (.getfield 141, 3) := by decide +kernel
theorem dX8_firstError_16 : decode cX8_firstError 16 = .ok (.goto 7, 3) := by decide +kernel
theorem dX8_firstError_19 : decode cX8_firstError 19 = .ok (.aload_n 0, 1) := by decide +kernel
theorem dX8_firstError_20 : decode cX8_firstError 20 = .ok (.getfield 144, 3) := by decide +kernel
theorem dX8_firstError_23 : decode cX8_firstError 23 = .ok (.ireturn, 1) := by decide +kernel
theorem dX8_load_0 : decode cX8_load 0 = .ok (.aload_n 0, 1) := by decide +kernel
theorem dX8_load_1 : decode cX8_load 1 = .ok (.iconst 0, 1) := by decide +kernel
theorem dX8_load_2 : decode cX8_load 2 = .ok (.putfield 46, 3) := by decide +kernel
theorem dX8_load_5 : decode cX8_load 5 = .ok (.aload_n 0, 1) := by decide +kernel
theorem dX8_load_6 : decode cX8_load 6 = .ok (.invokevirtual 165, 3) := by decide +kernel
theorem dX8_load_9 : decode cX8_load 9 = .ok (.ifCond .ne 9, 3) := by decide +kernel
theorem dX8_load_12 : decode cX8_load 12 = .ok (.aload_n 0, 1) := by decide +kernel
theorem dX8_load_13 : decode cX8_load 13 = .ok (.iconst 1, 1) := by decide +kernel
theorem dX8_load_14 : decode cX8_load 14 = .ok (.invokevirtual 126, 3) := by decide +kernel
theorem dX8_load_17 : decode cX8_load 17 = .ok (.ireturn, 1) := by decide +kernel
theorem dX8_load_18 : decode cX8_load 18 = .ok (.aload_n 0, 1) := by decide +kernel
theorem dX8_load_19 : decode cX8_load 19 = .ok (.invokevirtual 130, 3) := by decide +kernel
theorem dX8_load_22 : decode cX8_load 22 = .ok (.aload_n 0, 1) := by decide +kernel
theorem dX8_load_23 : decode cX8_load 23 = .ok (.iconst 0, 1) := by decide +kernel
theorem dX8_load_24 : decode cX8_load 24 = .ok (.putfield 141, 3) := by decide +kernel
theorem dX8_load_27 : decode cX8_load 27 = .ok (.aload_n 0, 1) := by decide +kernel
theorem dX8_load_28 : decode cX8_load 28 = .ok (.getfield 7, 3) := by decide +kernel
theorem dX8_load_31 : decode cX8_load 31 = .ok (.iconst 0, 1) := by decide +kernel
theorem dX8_load_32 : decode cX8_load 32 = .ok (.aload_n 0, 1) := by decide +kernel
theorem dX8_load_33 : decode cX8_load 33 = .ok (.getfield 159, 3) := by decide +kernel
theorem dX8_load_36 : decode cX8_load 36 = .ok (.iastore, 1) := by decide +kernel
theorem dX8_load_37 : decode cX8_load 37 = .ok (.aload_n 0, 1) := by decide +kernel
theorem dX8_load_38 : decode cX8_load 38 = .ok (.getfield 7, 3) := by decide +kernel
theorem dX8_load_41 : decode cX8_load 41 = .ok (.iconst 1, 1) := by decide +kernel
theorem dX8_load_42 : decode cX8_load 42 = .ok (.aload_n 0, 1) := by decide +kernel
theorem dX8_load_43 : decode cX8_load 43 = .ok (.getfield 150, 3) := by decide +kernel
theorem dX8_load_46 : decode cX8_load 46 = .ok (.iastore, 1) := by decide +kernel
theorem dX8_load_47 : decode cX8_load 47 = .ok (.iconst 0, 1) := by decide +kernel
theorem dX8_load_48 : decode cX8_load 48 = .ok (.istore_n 1, 1) := by decide +kernel
theorem dX8_load_49 : decode cX8_load 49 = .ok (.iload_n 1, 1) := by decide +kernel
theorem dX8_load_50 : decode cX8_load 50 = .ok (.bipush 10, 2) := by decide +kernel
theorem dX8_load_52 : decode cX8_load 52 = .ok (.aload_n 0, 1) := by decide +kernel
theorem dX8_load_53 : decode cX8_load 53 = .ok (.getfield 159, 3) := by decide +kernel
theorem dX8_load_56 : decode cX8_load 56 = .ok (.imul, 1) := by decide +kernel
theorem dX8_load_57 : decode cX8_load 57 = .ok (.if_icmp .ge 38, 3) := by decide +kernel
theorem dX8_load_60 : decode cX8_load 60 = .ok (.iload_n 1, 1) := by decide +kernel
theorem dX8_load_61 : decode cX8_load 61 = .ok (.bipush 10, 2) := by decide +kernel
theorem dX8_load_63 : decode cX8_load 63 = .ok (.irem, 1) := by decide +kernel
theorem dX8_load_64 : decode cX8_load 64 = .ok (.aload_n 0, 1) := by decide +kernel
theorem dX8_load_65 : decode cX8_load 65 = .ok (.getfield 150, 3) := by decide +kernel
theorem dX8_load_68 : decode cX8_load 68 = .ok (.if_icmp .ge 21, 3) := by decide +kernel
theorem dX8_load_71 : decode cX8_load 71 = .ok (.aload_n 0, 1) := by decide +kernel
theorem dX8_load_72 : decode cX8_load 72 = .ok (.iload_n 1, 1) := by decide +kernel
theorem dX8_load_73 : decode cX8_load 73 = .ok (.bipush 10, 2) := by decide +kernel
theorem dX8_load_75 : decode cX8_load 75 = .ok (.idiv, 1) := by decide +kernel
theorem dX8_load_76 : decode cX8_load 76 = .ok (.iload_n 1, 1) := by decide +kernel
theorem dX8_load_77 : decode cX8_load 77 = .ok (.bipush 10, 2) := by decide +kernel
theorem dX8_load_79 : decode cX8_load 79 = .ok (.irem, 1) := by decide +kernel
theorem dX8_load_80 : decode cX8_load 80 = .ok (.aload_n 0, 1) := by decide +kernel
theorem dX8_load_81 : decode cX8_load 81 = .ok (.getfield 37, 3) := by decide +kernel
theorem dX8_load_84 : decode cX8_load 84 = .ok (.iload_n 1, 1) := by decide +kernel
theorem dX8_load_85 : decode cX8_load 85 = .ok (.iaload, 1) := by decide +kernel
theorem dX8_load_86 : decode cX8_load 86 = .ok (.invokevirtual 137, 3) := by decide +kernel
theorem dX8_load_89 : decode cX8_load 89 = .ok (.iinc 1 1, 3) := by decide +kernel
theorem dX8_load_92 : decode cX8_load 92 = .ok (.goto (-43), 3) := by decide +kernel
theorem dX8_load_95 : decode cX8_load 95 = .ok (.bipush 11, 2) := by decide +kernel
theorem dX8_load_97 : decode cX8_load 97 = .ok (.aload_n 0, 1) := by decide +kernel
theorem dX8_load_98 : decode cX8_load 98 = .ok (.getfield 159, 3) := by decide +kernel
theorem dX8_load_101 : decode cX8_load 101 = .ok (.imul, 1) := by decide +kernel
theorem dX8_load_102 : decode cX8_load 102 = .ok (.aload_n 0, 1) := by decide +kernel
theorem dX8_load_103 : decode cX8_load 103 = .ok (.getfield 150, 3) := by decide +kernel
theorem dX8_load_106 : decode cX8_load 106 = .ok (.iadd, 1) := by decide +kernel
theorem dX8_load_107 : decode cX8_load 107 = .ok (.ireturn, 1) := by decide +kernel
theorem dX8_keep_0 : decode cX8_keep 0 = .ok (.aload_n 0, 1) := by decide +kernel
theorem dX8_keep_1 : decode cX8_keep 1 = .ok (.iconst 0, 1) := by decide +kernel
theorem dX8_keep_2 : decode cX8_keep 2 = .ok (.putfield 46, 3) := by decide +kernel
theorem dX8_keep_5 : decode cX8_keep 5 = .ok (.iload_n 1, 1) := by decide +kernel
theorem dX8_keep_6 : decode cX8_keep 6 = .ok (.iconst 0, 1) := by decide +kernel
theorem dX8_keep_7 : decode cX8_keep 7 = .ok (.iconst 1, 1) := by decide +kernel
theorem dX8_keep_8 : decode cX8_keep 8 = .ok (.invokestatic 89, 3) := by decide +kernel
theorem dX8_keep_11 : decode cX8_keep 11 = .ok (.ifCond .ne 9, 3) := by decide +kernel
theorem dX8_keep_14 : decode cX8_keep 14 = .ok (.aload_n 0, 1) := by decide +kernel
theorem dX8_keep_15 : decode cX8_keep 15 = .ok (.iconst 1, 1) := by decide +kernel
theorem dX8_keep_16 : decode cX8_keep 16 = .ok (.invokevirtual 126, 3) := by decide +kernel
theorem dX8_keep_19 : decode cX8_keep 19 = .ok (.ireturn, 1) := by decide +kernel
theorem dX8_keep_20 : decode cX8_keep 20 = .ok (.aload_n 0, 1) := by decide +kernel
theorem dX8_keep_21 : decode cX8_keep 21 = .ok (.getfield 7, 3) := by decide +kernel
theorem dX8_keep_24 : decode cX8_keep 24 = .ok (.iconst 0, 1) := by decide +kernel
theorem dX8_keep_25 : decode cX8_keep 25 = .ok (.aload_n 0, 1) := by decide +kernel
theorem dX8_keep_26 : decode cX8_keep 26 = .ok (.getfield 16, 3) := by decide +kernel
theorem dX8_keep_29 : decode cX8_keep 29 = .ok (.bipush 116, 2) := by decide +kernel
theorem dX8_keep_31 : decode cX8_keep 31 = .ok (.iload_n 1, 1) := by decide +kernel
theorem dX8_keep_32 : decode cX8_keep 32 = .ok (.imul, 1) := by decide +kernel
theorem dX8_keep_33 : decode cX8_keep 33 = .ok (.invokestatic 53, 3) := by decide +kernel
theorem dX8_keep_36 : decode cX8_keep 36 = .ok (.aload_n 0, 1) := by decide +kernel
theorem dX8_keep_37 : decode cX8_keep 37 = .ok (.getfield 19, 3) := by decide +kernel
theorem dX8_keep_40 : decode cX8_keep 40 = .ok (.iload_n 1, 1) := by decide +kernel
theorem dX8_keep_41 : decode cX8_keep 41 = .ok (.iconst 1, 1) := by decide +kernel
theorem dX8_keep_42 : decode cX8_keep 42 = .ok (.iastore, 1) := by decide +kernel
theorem dX8_keep_43 : decode cX8_keep 43 = .ok (.aload_n 0, 1) := by decide +kernel
theorem dX8_keep_44 : decode cX8_keep 44 = .ok (.getfield 7, 3) := by decide +kernel
theorem dX8_keep_47 : decode cX8_keep 47 = .ok (.iconst 0, 1) := by decide +kernel
theorem dX8_keep_48 : decode cX8_keep 48 = .ok (.iaload, 1) := by decide +kernel
theorem dX8_keep_49 : decode cX8_keep 49 = .ok (.ireturn, 1) := by decide +kernel
theorem dX8_goBack_0 : decode cX8_goBack 0 = .ok (.aload_n 0, 1) := by decide +kernel
theorem dX8_goBack_1 : decode cX8_goBack 1 = .ok (.iconst 0, 1) := by decide +kernel
theorem dX8_goBack_2 : decode cX8_goBack 2 = .ok (.putfield 46, 3) := by decide +kernel
theorem dX8_goBack_5 : decode cX8_goBack 5 = .ok (.iload_n 1, 1) := by decide +kernel
theorem dX8_goBack_6 : decode cX8_goBack 6 = .ok (.iconst 0, 1) := by decide +kernel
theorem dX8_goBack_7 : decode cX8_goBack 7 = .ok (.iconst 1, 1) := by decide +kernel
theorem dX8_goBack_8 : decode cX8_goBack 8 = .ok (.invokestatic 89, 3) := by decide +kernel
theorem dX8_goBack_11 : decode cX8_goBack 11 = .ok (.ifCond .ne 9, 3) := by decide +kernel
theorem dX8_goBack_14 : decode cX8_goBack 14 = .ok (.aload_n 0, 1) := by decide +kernel
theorem dX8_goBack_15 : decode cX8_goBack 15 = .ok (.iconst 1, 1) := by decide +kernel
theorem dX8_goBack_16 : decode cX8_goBack 16 = .ok (.invokevirtual 126, 3) := by decide +kernel
theorem dX8_goBack_19 : decode cX8_goBack 19 = .ok (.ireturn, 1) := by decide +kernel
theorem dX8_goBack_20 : decode cX8_goBack 20 = .ok (.aload_n 0, 1) := by decide +kernel
theorem dX8_goBack_21 : decode cX8_goBack 21 = .ok (.getfield 19, 3) := by decide +kernel
theorem dX8_goBack_24 : decode cX8_goBack 24 = .ok (.iload_n 1, 1) := by decide +kernel
theorem dX8_goBack_25 : decode cX8_goBack 25 = .ok (.iaload, 1) := by decide +kernel
theorem dX8_goBack_26 : decode cX8_goBack 26 = .ok (.ifCond .ne 9, 3) := by decide +kernel
theorem dX8_goBack_29 : decode cX8_goBack 29 = .ok (.aload_n 0, 1) := by decide +kernel
theorem dX8_goBack_30 : decode cX8_goBack 30 = .ok (.iconst 2, 1) := by decide +kernel
theorem dX8_goBack_31 : decode cX8_goBack 31 = .ok (.invokevirtual 126, 3) := by decide +kernel
theorem dX8_goBack_34 : decode cX8_goBack 34 = .ok (.ireturn, 1) := by decide +kernel
theorem dX8_goBack_35 : decode cX8_goBack 35 = .ok (.aload_n 0, 1) := by decide +kernel
theorem dX8_goBack_36 : decode cX8_goBack 36 = .ok (.invokevirtual 130, 3) := by decide +kernel
theorem dX8_goBack_39 : decode cX8_goBack 39 = .ok (.aload_n 0, 1) := by decide +kernel
theorem dX8_goBack_40 : decode cX8_goBack 40 = .ok (.getfield 16, 3) := by decide +kernel
theorem dX8_goBack_43 : decode cX8_goBack 43 = .ok (.bipush 116, 2) := by decide +kernel
theorem dX8_goBack_45 : decode cX8_goBack 45 = .ok (.iload_n 1, 1) := by decide +kernel
theorem dX8_goBack_46 : decode cX8_goBack 46 = .ok (.imul, 1) := by decide +kernel
theorem dX8_goBack_47 : decode cX8_goBack 47 = .ok (.aload_n 0, 1) := by decide +kernel
theorem dX8_goBack_48 : decode cX8_goBack 48 = .ok (.getfield 7, 3) := by decide +kernel
theorem dX8_goBack_51 : decode cX8_goBack 51 = .ok (.iconst 0, 1) := by decide +kernel
theorem dX8_goBack_52 : decode cX8_goBack 52 = .ok (.invokestatic 53, 3) := by decide +kernel
theorem dX8_goBack_55 : decode cX8_goBack 55 = .ok (.aload_n 0, 1) := by decide +kernel
theorem dX8_goBack_56 : decode cX8_goBack 56 = .ok (.getfield 7, 3) := by decide +kernel
theorem dX8_goBack_59 : decode cX8_goBack 59 = .ok (.iconst 0, 1) := by decide +kernel
theorem dX8_goBack_60 : decode cX8_goBack 60 = .ok (.iaload, 1) := by decide +kernel
theorem dX8_goBack_61 : decode cX8_goBack 61 = .ok (.ireturn, 1) := by decide +kernel
theorem dX8_undo_0 : decode cX8_undo 0 = .ok (.aload_n 0, 1) := by decide +kernel
theorem dX8_undo_1 : decode cX8_undo 1 = .ok (.iconst 0, 1) := by decide +kernel
theorem dX8_undo_2 : decode cX8_undo 2 = .ok (.putfield 46, 3) := by decide +kernel
theorem dX8_undo_5 : decode cX8_undo 5 = .ok (.aload_n 0, 1) := by decide +kernel
theorem dX8_undo_6 : decode cX8_undo 6 = .ok (.getfield 50, 3) := by decide +kernel
theorem dX8_undo_9 : decode cX8_undo 9 = .ok (.ifCond .ne 9, 3) := by decide +kernel
theorem dX8_undo_12 : decode cX8_undo 12 = .ok (.aload_n 0, 1) := by decide +kernel
theorem dX8_undo_13 : decode cX8_undo 13 = .ok (.iconst 1, 1) := by decide +kernel
theorem dX8_undo_14 : decode cX8_undo 14 = .ok (.invokevirtual 126, 3) := by decide +kernel
theorem dX8_undo_17 : decode cX8_undo 17 = .ok (.ireturn, 1) := by decide +kernel
theorem dX8_undo_18 : decode cX8_undo 18 = .ok (.aload_n 0, 1) := by decide +kernel
theorem dX8_undo_19 : decode cX8_undo 19 = .ok (.dup, 1) := by decide +kernel
theorem dX8_undo_20 : decode cX8_undo 20 = .ok (.getfield 50, 3) := by decide +kernel
theorem dX8_undo_23 : decode cX8_undo 23 = .ok (.iconst 1, 1) := by decide +kernel
theorem dX8_undo_24 : decode cX8_undo 24 = .ok (.isub, 1) := by decide +kernel
theorem dX8_undo_25 : decode cX8_undo 25 = .ok (.putfield 50, 3) := by decide +kernel
theorem dX8_undo_28 : decode cX8_undo 28 = .ok (.aload_n 0, 1) := by decide +kernel
theorem dX8_undo_29 : decode cX8_undo 29 = .ok (.getfield 13, 3) := by decide +kernel
theorem dX8_undo_32 : decode cX8_undo 32 = .ok (.bipush 116, 2) := by decide +kernel
theorem dX8_undo_34 : decode cX8_undo 34 = .ok (.aload_n 0, 1) := by decide +kernel
theorem dX8_undo_35 : decode cX8_undo 35 = .ok (.getfield 50, 3) := by decide +kernel
theorem dX8_undo_38 : decode cX8_undo 38 = .ok (.imul, 1) := by decide +kernel
theorem dX8_undo_39 : decode cX8_undo 39 = .ok (.aload_n 0, 1) := by decide +kernel
theorem dX8_undo_40 : decode cX8_undo 40 = .ok (.getfield 7, 3) := by decide +kernel
theorem dX8_undo_43 : decode cX8_undo 43 = .ok (.iconst 0, 1) := by decide +kernel
theorem dX8_undo_44 : decode cX8_undo 44 = .ok (.invokestatic 53, 3) := by decide +kernel
theorem dX8_undo_47 : decode cX8_undo 47 = .ok (.aload_n 0, 1) := by decide +kernel
theorem dX8_undo_48 : decode cX8_undo 48 = .ok (.getfield 50, 3) := by decide +kernel
theorem dX8_undo_51 : decode cX8_undo 51 = .ok (.ireturn, 1) := by decide +kernel
theorem dX8_cell_0 : decode cX8_cell 0 = .ok (.aload_n 0, 1) := by decide +kernel
theorem dX8_cell_1 : decode cX8_cell 1 = .ok (.iconst 0, 1) := by decide +kernel
theorem dX8_cell_2 : decode cX8_cell 2 = .ok (.putfield 46, 3) := by decide +kernel
theorem dX8_cell_5 : decode cX8_cell 5 = .ok (.aload_n 0, 1) := by decide +kernel
theorem dX8_cell_6 : decode cX8_cell 6 = .ok (.iload_n 1, 1) := by decide +kernel
theorem dX8_cell_7 : decode cX8_cell 7 = .ok (.iload_n 2, 1) := by decide +kernel
theorem dX8_cell_8 : decode cX8_cell 8 = .ok (.invokevirtual 133, 3) := by decide +kernel
theorem dX8_cell_11 : decode cX8_cell 11 = .ok (.ifCond .eq 12, 3) := by decide +kernel
theorem dX8_cell_14 : decode cX8_cell 14 = .ok (.aload_n 0, 1) := by decide +kernel
theorem dX8_cell_15 : decode cX8_cell 15 = .ok (.iload_n 1, 1) := by decide +kernel
theorem dX8_cell_16 : decode cX8_cell 16 = .ok (.iload_n 2, 1) := by decide +kernel
theorem dX8_cell_17 : decode cX8_cell 17 = .ok (.invokevirtual 57, 3) := by decide +kernel
theorem dX8_cell_20 : decode cX8_cell 20 = .ok (.goto 8, 3) := by decide +kernel
theorem dX8_cell_23 : decode cX8_cell 23 = .ok (.aload_n 0, 1) := by decide +kernel
theorem dX8_cell_24 : decode cX8_cell 24 = .ok (.iconst 1, 1) := by decide +kernel
theorem dX8_cell_25 : decode cX8_cell 25 = .ok (.invokevirtual 126, 3) := by decide +kernel
theorem dX8_cell_28 : decode cX8_cell 28 = .ok (.ireturn, 1) := by decide +kernel
theorem dX8_place_0 : decode cX8_place 0 = .ok (.aload_n 0, 1) := by decide +kernel
theorem dX8_place_1 : decode cX8_place 1 = .ok (.iconst 0, 1) := by decide +kernel
theorem dX8_place_2 : decode cX8_place 2 = .ok (.putfield 46, 3) := by decide +kernel
theorem dX8_place_5 : decode cX8_place 5 = .ok (.aload_n 0, 1) := by decide +kernel
theorem dX8_place_6 : decode cX8_place 6 = .ok (.iload_n 1, 1) := by decide +kernel
theorem dX8_place_7 : decode cX8_place 7 = .ok (.invokevirtual 123, 3) := by decide +kernel
theorem dX8_place_10 : decode cX8_place 10 = .ok (.ifCond .ne 9, 3) := by decide +kernel
theorem dX8_place_13 : decode cX8_place 13 = .ok (.aload_n 0, 1) := by decide +kernel
theorem dX8_place_14 : decode cX8_place 14 = .ok (.iconst 1, 1) := by decide +kernel
theorem dX8_place_15 : decode cX8_place 15 = .ok (.invokevirtual 126, 3) := by decide +kernel
theorem dX8_place_18 : decode cX8_place 18 = .ok (.ireturn, 1) := by decide +kernel
theorem dX8_place_19 : decode cX8_place 19 = .ok (.iload_n 2, 1) := by decide +kernel
theorem dX8_place_20 : decode cX8_place 20 = .ok (.iconst 0, 1) := by decide +kernel
theorem dX8_place_21 : decode cX8_place 21 = .ok (.iconst 2, 1) := by decide +kernel
theorem dX8_place_22 : decode cX8_place 22 = .ok (.invokestatic 89, 3) := by decide +kernel
theorem dX8_place_25 : decode cX8_place 25 = .ok (.ifCond .eq 12, 3) := by decide +kernel
theorem dX8_place_28 : decode cX8_place 28 = .ok (.aload_n 0, 1) := by decide +kernel
theorem dX8_place_29 : decode cX8_place 29 = .ok (.iload_n 1, 1) := by decide +kernel
theorem dX8_place_30 : decode cX8_place 30 = .ok (.iload_n 2, 1) := by decide +kernel
theorem dX8_place_31 : decode cX8_place 31 = .ok (.invokevirtual 168, 3) := by decide +kernel
theorem dX8_place_34 : decode cX8_place 34 = .ok (.goto 8, 3) := by decide +kernel
theorem dX8_place_37 : decode cX8_place 37 = .ok (.aload_n 0, 1) := by decide +kernel
theorem dX8_place_38 : decode cX8_place 38 = .ok (.iconst 2, 1) := by decide +kernel
theorem dX8_place_39 : decode cX8_place 39 = .ok (.invokevirtual 126, 3) := by decide +kernel
theorem dX8_place_42 : decode cX8_place 42 = .ok (.ireturn, 1) := by decide +kernel
theorem dX8_looks_0 : decode cX8_looks 0 = .ok (.aload_n 0, 1) := by decide +kernel
theorem dX8_looks_1 : decode cX8_looks 1 = .ok (.iconst 0, 1) := by decide +kernel
theorem dX8_looks_2 : decode cX8_looks 2 = .ok (.putfield 46, 3) := by decide +kernel
theorem dX8_looks_5 : decode cX8_looks 5 = .ok (.iload_n 1, 1) := by decide +kernel
theorem dX8_looks_6 : decode cX8_looks 6 = .ok (.iconst 0, 1) := by decide +kernel
theorem dX8_looks_7 : decode cX8_looks 7 = .ok (.iconst 2, 1) := by decide +kernel
theorem dX8_looks_8 : decode cX8_looks 8 = .ok (.invokestatic 89, 3) := by decide +kernel
theorem dX8_looks_11 : decode cX8_looks 11 = .ok (.ifCond .eq 11, 3) := by decide +kernel
theorem dX8_looks_14 : decode cX8_looks 14 = .ok (.aload_n 0, 1) := by decide +kernel
theorem dX8_looks_15 : decode cX8_looks 15 = .ok (.iload_n 1, 1) := by decide +kernel
theorem dX8_looks_16 : decode cX8_looks 16 = .ok (.invokevirtual 171, 3) := by decide +kernel
theorem dX8_looks_19 : decode cX8_looks 19 = .ok (.goto 8, 3) := by decide +kernel
theorem dX8_looks_22 : decode cX8_looks 22 = .ok (.aload_n 0, 1) := by decide +kernel
theorem dX8_looks_23 : decode cX8_looks 23 = .ok (.iconst 1, 1) := by decide +kernel
theorem dX8_looks_24 : decode cX8_looks 24 = .ok (.invokevirtual 126, 3) := by decide +kernel
theorem dX8_looks_27 : decode cX8_looks 27 = .ok (.ireturn, 1) := by decide +kernel
theorem dX8_bounds_0 : decode cX8_bounds 0 = .ok (.iconst 0, 1) := by decide +kernel
theorem dX8_bounds_1 : decode cX8_bounds 1 = .ok (.istore_n 1, 1) := by decide +kernel
theorem dX8_bounds_2 : decode cX8_bounds 2 = .ok (.aload_n 0, 1) := by decide +kernel
theorem dX8_bounds_3 : decode cX8_bounds 3 = .ok (.getfield 7, 3) := by decide +kernel
theorem dX8_bounds_6 : decode cX8_bounds 6 = .ok (.iconst 0, 1) := by decide +kernel
theorem dX8_bounds_7 : decode cX8_bounds 7 = .ok (.iaload, 1) := by decide +kernel
theorem dX8_bounds_8 : decode cX8_bounds 8 = .ok (.istore_n 2, 1) := by decide +kernel
theorem dX8_bounds_9 : decode cX8_bounds 9 = .ok (.iload_n 2, 1) := by decide +kernel
theorem dX8_bounds_10 : decode cX8_bounds 10 = .ok (.ifCond .le 13, 3) := by decide +kernel
theorem dX8_bounds_13 : decode cX8_bounds 13 = .ok (.iinc 1 1, 3) := by decide +kernel
theorem dX8_bounds_16 : decode cX8_bounds 16 = .ok (.iload_n 2, 1) := by decide +kernel
theorem dX8_bounds_17 : decode cX8_bounds 17 = .ok (.iconst 2, 1) := by decide +kernel
theorem dX8_bounds_18 : decode cX8_bounds 18 = .ok (.idiv, 1) := by decide +kernel
theorem dX8_bounds_19 : decode cX8_bounds 19 = .ok (.istore_n 2, 1) := by decide +kernel
theorem dX8_bounds_20 : decode cX8_bounds 20 = .ok (.goto (-11), 3) := by decide +kernel
theorem dX8_bounds_23 : decode cX8_bounds 23 = .ok (.aload_n 0, 1) := by decide +kernel
theorem dX8_bounds_24 : decode cX8_bounds 24 = .ok (.getfield 7, 3) := by decide +kernel
theorem dX8_bounds_27 : decode cX8_bounds 27 = .ok (.iconst 0, 1) := by decide +kernel
theorem dX8_bounds_28 : decode cX8_bounds 28 = .ok (.iaload, 1) := by decide +kernel
theorem dX8_bounds_29 : decode cX8_bounds 29 = .ok (.aload_n 0, 1) := by decide +kernel
theorem dX8_bounds_30 : decode cX8_bounds 30 = .ok (.getfield 7, 3) := by decide +kernel
theorem dX8_bounds_33 : decode cX8_bounds 33 = .ok (.iconst 1, 1) := by decide +kernel
theorem dX8_bounds_34 : decode cX8_bounds 34 = .ok (.iaload, 1) := by decide +kernel
theorem dX8_bounds_35 : decode cX8_bounds 35 = .ok (.iadd, 1) := by decide +kernel
theorem dX8_bounds_36 : decode cX8_bounds 36 = .ok (.iload_n 1, 1) := by decide +kernel
theorem dX8_bounds_37 : decode cX8_bounds 37 = .ok (.imul, 1) := by decide +kernel
theorem dX8_bounds_38 : decode cX8_bounds 38 = .ok (.ireturn, 1) := by decide +kernel
theorem dX8_bound_0 : decode cX8_bound 0 = .ok (.aload_n 0, 1) := by decide +kernel
theorem dX8_bound_1 : decode cX8_bound 1 = .ok (.iconst 0, 1) := by decide +kernel
theorem dX8_bound_2 : decode cX8_bound 2 = .ok (.putfield 46, 3) := by decide +kernel
theorem dX8_bound_5 : decode cX8_bound 5 = .ok (.aload_n 0, 1) := by decide +kernel
theorem dX8_bound_6 : decode cX8_bound 6 = .ok (.invokevirtual 174, 3) := by decide +kernel
theorem dX8_bound_9 : decode cX8_bound 9 = .ok (.ireturn, 1) := by decide +kernel
theorem dX8_testified_0 : decode cX8_testified 0 = .ok (.iload_n 1, 1) := by decide +kernel
theorem dX8_testified_1 : decode cX8_testified 1 = .ok (.iconst 3, 1) := by decide +kernel
theorem dX8_testified_2 : decode cX8_testified 2 = .ok (.if_icmp .ne 8, 3) := by decide +kernel
theorem dX8_testified_5 : decode cX8_testified 5 = .ok (.aload_n 0, 1) := by decide +kernel
theorem dX8_testified_6 : decode cX8_testified 6 = .ok (.invokevirtual 177, 3) := by decide +kernel
theorem dX8_testified_9 : decode cX8_testified 9 = .ok (.ireturn, 1) := by decide +kernel
theorem dX8_testified_10 : decode cX8_testified 10 = .ok (.aload_n 0, 1) := by decide +kernel
theorem dX8_testified_11 : decode cX8_testified 11 = .ok (.invokevirtual 65, 3) := by decide +kernel
theorem dX8_testified_14 : decode cX8_testified 14 = .ok (.istore_n 2, 1) := by decide +kernel
theorem dX8_testified_15 : decode cX8_testified 15 = .ok (.iload_n 2, 1) := by decide +kernel
theorem dX8_testified_16 : decode cX8_testified 16 = .ok (.iconst (-1), 1) := by decide +kernel
theorem dX8_testified_17 : decode cX8_testified 17 = .ok (.if_icmp .ne 5, 3) := by decide +kernel
theorem dX8_testified_20 : decode cX8_testified 20 = .ok (.iconst (-1), 1) := by decide +kernel
theorem dX8_testified_21 : decode cX8_testified 21 = .ok (.ireturn, 1) := by decide +kernel
theorem dX8_testified_22 : decode cX8_testified 22 = .ok (.iload_n 1, 1) := by decide +kernel
theorem dX8_testified_23 : decode cX8_testified 23 = .ok (.ifCond .ne 10, 3) := by decide +kernel
theorem dX8_testified_26 : decode cX8_testified 26 = .ok (.iload_n 2, 1) := by decide +kernel
theorem dX8_testified_27 : decode cX8_testified 27 = .ok (.bipush 100, 2) := by decide +kernel
theorem dX8_testified_29 : decode cX8_testified 29 = .ok (.idiv, 1) := by decide +kernel
theorem dX8_testified_30 : decode cX8_testified 30 = .ok (.goto 22, 3) := by decide +kernel
theorem dX8_testified_33 : decode cX8_testified 33 = .ok (.iload_n 1, 1) := by decide +kernel
theorem dX8_testified_34 : decode cX8_testified 34 = .ok (.iconst 1, 1) := by decide +kernel
theorem dX8_testified_35 : decode cX8_testified 35 = .ok (.if_icmp .ne 13, 3) := by decide +kernel
theorem dX8_testified_38 : decode cX8_testified 38 = .ok (.iload_n 2, 1) := by decide +kernel
theorem dX8_testified_39 : decode cX8_testified 39 = .ok (.bipush 10, 2) := by decide +kernel
theorem dX8_testified_41 : decode cX8_testified 41 = .ok (.idiv, 1) := by decide +kernel
theorem dX8_testified_42 : decode cX8_testified 42 = .ok (.bipush 10, 2) := by decide +kernel
theorem dX8_testified_44 : decode cX8_testified 44 = .ok (.irem, 1) := by decide +kernel
theorem dX8_testified_45 : decode cX8_testified 45 = .ok (.goto 7, 3) := by decide +kernel
theorem dX8_testified_48 : decode cX8_testified 48 = .ok (.iload_n 2, 1) := by decide +kernel
theorem dX8_testified_49 : decode cX8_testified 49 = .ok (.bipush 10, 2) := by decide +kernel
theorem dX8_testified_51 : decode cX8_testified 51 = .ok (.irem, 1) := by decide +kernel
theorem dX8_testified_52 : decode cX8_testified 52 = .ok (.ireturn, 1) := by decide +kernel
theorem dX8_witness_0 : decode cX8_witness 0 = .ok (.aload_n 0, 1) := by decide +kernel
theorem dX8_witness_1 : decode cX8_witness 1 = .ok (.iconst 0, 1) := by decide +kernel
theorem dX8_witness_2 : decode cX8_witness 2 = .ok (.putfield 46, 3) := by decide +kernel
theorem dX8_witness_5 : decode cX8_witness 5 = .ok (.iload_n 1, 1) := by decide +kernel
theorem dX8_witness_6 : decode cX8_witness 6 = .ok (.iconst 0, 1) := by decide +kernel
theorem dX8_witness_7 : decode cX8_witness 7 = .ok (.iconst 3, 1) := by decide +kernel
theorem dX8_witness_8 : decode cX8_witness 8 = .ok (.invokestatic 89, 3) := by decide +kernel
theorem dX8_witness_11 : decode cX8_witness 11 = .ok (.ifCond .eq 11, 3) := by decide +kernel
theorem dX8_witness_14 : decode cX8_witness 14 = .ok (.aload_n 0, 1) := by decide +kernel
theorem dX8_witness_15 : decode cX8_witness 15 = .ok (.iload_n 1, 1) := by decide +kernel
theorem dX8_witness_16 : decode cX8_witness 16 = .ok (.invokevirtual 180, 3) := by decide +kernel
theorem dX8_witness_19 : decode cX8_witness 19 = .ok (.goto 8, 3) := by decide +kernel
theorem dX8_witness_22 : decode cX8_witness 22 = .ok (.aload_n 0, 1) := by decide +kernel
theorem dX8_witness_23 : decode cX8_witness 23 = .ok (.iconst 1, 1) := by decide +kernel
theorem dX8_witness_24 : decode cX8_witness 24 = .ok (.invokevirtual 126, 3) := by decide +kernel
theorem dX8_witness_27 : decode cX8_witness 27 = .ok (.ireturn, 1) := by decide +kernel
theorem dX8_weighs_0 : decode cX8_weighs 0 = .ok (.iconst 0, 1) := by decide +kernel
theorem dX8_weighs_1 : decode cX8_weighs 1 = .ok (.istore_n 3, 1) := by decide +kernel
theorem dX8_weighs_2 : decode cX8_weighs 2 = .ok (.iload_n 1, 1) := by decide +kernel
theorem dX8_weighs_3 : decode cX8_weighs 3 = .ok (.istore 4, 2) := by decide +kernel
theorem dX8_weighs_5 : decode cX8_weighs 5 = .ok (.iload 4, 2) := by decide +kernel
theorem dX8_weighs_7 : decode cX8_weighs 7 = .ok (.iload_n 2, 1) := by decide +kernel
theorem dX8_weighs_8 : decode cX8_weighs 8 = .ok (.if_icmp .ge 22, 3) := by decide +kernel
theorem dX8_weighs_11 : decode cX8_weighs 11 = .ok (.iload_n 3, 1) := by decide +kernel
theorem dX8_weighs_12 : decode cX8_weighs 12 = .ok (.aload_n 0, 1) := by decide +kernel
theorem dX8_weighs_13 : decode cX8_weighs 13 = .ok (.getfield 7, 3) := by decide +kernel
theorem dX8_weighs_16 : decode cX8_weighs 16 = .ok (.bipush 6, 2) := by decide +kernel
theorem dX8_weighs_18 : decode cX8_weighs 18 = .ok (.iload 4, 2) := by decide +kernel
theorem dX8_weighs_20 : decode cX8_weighs 20 = .ok (.iadd, 1) := by decide +kernel
theorem dX8_weighs_21 : decode cX8_weighs 21 = .ok (.iaload, 1) := by decide +kernel
theorem dX8_weighs_22 : decode cX8_weighs 22 = .ok (.iadd, 1) := by decide +kernel
theorem dX8_weighs_23 : decode cX8_weighs 23 = .ok (.istore_n 3, 1) := by decide +kernel
theorem dX8_weighs_24 : decode cX8_weighs 24 = .ok (.iinc 4 1, 3) := by decide +kernel
theorem dX8_weighs_27 : decode cX8_weighs 27 = .ok (.goto (-22), 3) := by decide +kernel
theorem dX8_weighs_30 : decode cX8_weighs 30 = .ok (.iload_n 3, 1) := by decide +kernel
theorem dX8_weighs_31 : decode cX8_weighs 31 = .ok (.ireturn, 1) := by decide +kernel
theorem dX8_goingBack_0 : decode cX8_goingBack 0 = .ok (.aload_n 0, 1) := by decide +kernel
theorem dX8_goingBack_1 : decode cX8_goingBack 1 = .ok (.iconst 0, 1) := by decide +kernel
theorem dX8_goingBack_2 : decode cX8_goingBack 2 = .ok (.invokevirtual 120, 3) := by decide +kernel
theorem dX8_goingBack_5 : decode cX8_goingBack 5 = .ok (.iconst 0, 1) := by decide +kernel
theorem dX8_goingBack_6 : decode cX8_goingBack 6 = .ok (.istore_n 1, 1) := by decide +kernel
theorem dX8_goingBack_7 : decode cX8_goingBack 7 = .ok (.iconst 1, 1) := by decide +kernel
theorem dX8_goingBack_8 : decode cX8_goingBack 8 = .ok (.istore_n 2, 1) := by decide +kernel
theorem dX8_goingBack_9 : decode cX8_goingBack 9 = .ok (.iload_n 2, 1) := by decide +kernel
theorem dX8_goingBack_10 : decode cX8_goingBack 10 = .ok (.aload_n 0, 1) := by decide +kernel
theorem dX8_goingBack_11 : decode cX8_goingBack 11 = .ok (.getfield 7, 3) := by decide +kernel
theorem dX8_goingBack_14 : decode cX8_goingBack 14 = .ok (.iconst 0, 1) := by decide +kernel
theorem dX8_goingBack_15 : decode cX8_goingBack 15 = .ok (.iaload, 1) := by decide +kernel
theorem dX8_goingBack_16 : decode cX8_goingBack 16 = .ok (.if_icmp .ge 34, 3) := by decide +kernel
theorem dX8_goingBack_19 : decode cX8_goingBack 19 = .ok (.iload_n 1, 1) := by decide +kernel
theorem dX8_goingBack_20 : decode cX8_goingBack 20 = .ok (.aload_n 0, 1) := by decide +kernel
theorem dX8_goingBack_21 : decode cX8_goingBack 21 = .ok (.getfield 25, 3) := by decide +kernel
theorem dX8_goingBack_24 : decode cX8_goingBack 24 = .ok (.iload_n 2, 1) := by decide +kernel
theorem dX8_goingBack_25 : decode cX8_goingBack 25 = .ok (.iaload, 1) := by decide +kernel
theorem dX8_goingBack_26 : decode cX8_goingBack 26 = .ok (.aload_n 0, 1) := by decide +kernel
theorem dX8_goingBack_27 : decode cX8_goingBack 27 = .ok (.getfield 25, 3) := by decide +kernel
theorem dX8_goingBack_30 : decode cX8_goingBack 30 = .ok (.iload_n 2, 1) := by decide +kernel
theorem dX8_goingBack_31 : decode cX8_goingBack 31 = .ok (.iconst 1, 1) := by decide +kernel
theorem dX8_goingBack_32 : decode cX8_goingBack 32 = .ok (.isub, 1) := by decide +kernel
theorem dX8_goingBack_33 : decode cX8_goingBack 33 = .ok (.iaload, 1) := by decide +kernel
theorem dX8_goingBack_34 : decode cX8_goingBack 34 = .ok (.if_icmp .ge 7, 3) := by decide +kernel
theorem dX8_goingBack_37 : decode cX8_goingBack 37 = .ok (.iconst 1, 1) := by decide +kernel
theorem dX8_goingBack_38 : decode cX8_goingBack 38 = .ok (.goto 4, 3) := by decide +kernel
theorem dX8_goingBack_41 : decode cX8_goingBack 41 = .ok (.iconst 0, 1) := by decide +kernel
theorem dX8_goingBack_42 : decode cX8_goingBack 42 = .ok (.iadd, 1) := by decide +kernel
theorem dX8_goingBack_43 : decode cX8_goingBack 43 = .ok (.istore_n 1, 1) := by decide +kernel
theorem dX8_goingBack_44 : decode cX8_goingBack 44 = .ok (.iinc 2 1, 3) := by decide +kernel
theorem dX8_goingBack_47 : decode cX8_goingBack 47 = .ok (.goto (-38), 3) := by decide +kernel
theorem dX8_goingBack_50 : decode cX8_goingBack 50 = .ok (.iload_n 1, 1) := by decide +kernel
theorem dX8_goingBack_51 : decode cX8_goingBack 51 = .ok (.ireturn, 1) := by decide +kernel
theorem dX8_counted_0 : decode cX8_counted 0 = .ok (.iload_n 1, 1) := by decide +kernel
theorem dX8_counted_1 : decode cX8_counted 1 = .ok (.tableswitch 87 0 8 #[51, 51, 58, 65, 87, 87, 87, 77, 82], 51) := by decide +kernel
theorem dX8_counted_52 : decode cX8_counted 52 = .ok (.aload_n 0, 1) := by decide +kernel
theorem dX8_counted_53 : decode cX8_counted 53 = .ok (.getfield 7, 3) := by decide +kernel
theorem dX8_counted_56 : decode cX8_counted 56 = .ok (.iload_n 1, 1) := by decide +kernel
theorem dX8_counted_57 : decode cX8_counted 57 = .ok (.iaload, 1) := by decide +kernel
theorem dX8_counted_58 : decode cX8_counted 58 = .ok (.ireturn, 1) := by decide +kernel
theorem dX8_counted_59 : decode cX8_counted 59 = .ok (.aload_n 0, 1) := by decide +kernel
theorem dX8_counted_60 : decode cX8_counted 60 = .ok (.getfield 7, 3) := by decide +kernel
theorem dX8_counted_63 : decode cX8_counted 63 = .ok (.iconst 5, 1) := by decide +kernel
theorem dX8_counted_64 : decode cX8_counted 64 = .ok (.iaload, 1) := by decide +kernel
theorem dX8_counted_65 : decode cX8_counted 65 = .ok (.ireturn, 1) := by decide +kernel
theorem dX8_counted_66 : decode cX8_counted 66 = .ok (.aload_n 0, 1) := by decide +kernel
theorem dX8_counted_67 : decode cX8_counted 67 = .ok (.iconst 0, 1) := by decide +kernel
theorem dX8_counted_68 : decode cX8_counted 68 = .ok (.aload_n 0, 1) := by decide +kernel
theorem dX8_counted_69 : decode cX8_counted 69 = .ok (.getfield 7, 3) := by decide +kernel
theorem dX8_counted_72 : decode cX8_counted 72 = .ok (.iconst 5, 1) := by decide +kernel
theorem dX8_counted_73 : decode cX8_counted 73 = .ok (.iaload, 1) := by decide +kernel
theorem dX8_counted_74 : decode cX8_counted 74 = .ok (.invokevirtual 183, 3) := by decide +kernel
theorem dX8_counted_77 : decode cX8_counted 77 = .ok (.ireturn, 1) := by decide +kernel
theorem dX8_counted_78 : decode cX8_counted 78 = .ok (.aload_n 0, 1) := by decide +kernel
theorem dX8_counted_79 : decode cX8_counted 79 = .ok (.invokevirtual 186, 3) := by decide +kernel
theorem dX8_counted_82 : decode cX8_counted 82 = .ok (.ireturn, 1) := by decide +kernel
theorem dX8_counted_83 : decode cX8_counted 83 = .ok (.aload_n 0, 1) := by decide +kernel
theorem dX8_counted_84 : decode cX8_counted 84 = .ok (.getfield 50, 3) := by decide +kernel
theorem dX8_counted_87 : decode cX8_counted 87 = .ok (.ireturn, 1) := by decide +kernel
theorem dX8_counted_88 : decode cX8_counted 88 = .ok (.aload_n 0, 1) := by decide +kernel
theorem dX8_counted_89 : decode cX8_counted 89 = .ok (.getfield 7, 3) := by decide +kernel
theorem dX8_counted_92 : decode cX8_counted 92 = .ok (.iconst 2, 1) := by decide +kernel
theorem dX8_counted_93 : decode cX8_counted 93 = .ok (.iload_n 1, 1) := by decide +kernel
theorem dX8_counted_94 : decode cX8_counted 94 = .ok (.iadd, 1) := by decide +kernel
theorem dX8_counted_95 : decode cX8_counted 95 = .ok (.iconst 4, 1) := by decide +kernel
theorem dX8_counted_96 : decode cX8_counted 96 = .ok (.isub, 1) := by decide +kernel
theorem dX8_counted_97 : decode cX8_counted 97 = .ok (.iaload, 1) := by decide +kernel
theorem dX8_counted_98 : decode cX8_counted 98 = .ok (.ireturn, 1) := by decide +kernel
theorem dX8_count_0 : decode cX8_count 0 = .ok (.aload_n 0, 1) := by decide +kernel
theorem dX8_count_1 : decode cX8_count 1 = .ok (.iconst 0, 1) := by decide +kernel
theorem dX8_count_2 : decode cX8_count 2 = .ok (.putfield 46, 3) := by decide +kernel
theorem dX8_count_5 : decode cX8_count 5 = .ok (.iload_n 1, 1) := by decide +kernel
theorem dX8_count_6 : decode cX8_count 6 = .ok (.iconst 0, 1) := by decide +kernel
theorem dX8_count_7 : decode cX8_count 7 = .ok (.bipush 8, 2) := by decide +kernel
theorem dX8_count_9 : decode cX8_count 9 = .ok (.invokestatic 89, 3) := by decide +kernel
theorem dX8_count_12 : decode cX8_count 12 = .ok (.ifCond .eq 11, 3) := by decide +kernel
theorem dX8_count_15 : decode cX8_count 15 = .ok (.aload_n 0, 1) := by decide +kernel
theorem dX8_count_16 : decode cX8_count 16 = .ok (.iload_n 1, 1) := by decide +kernel
theorem dX8_count_17 : decode cX8_count 17 = .ok (.invokevirtual 189, 3) := by decide +kernel
theorem dX8_count_20 : decode cX8_count 20 = .ok (.goto 8, 3) := by decide +kernel
theorem dX8_count_23 : decode cX8_count 23 = .ok (.aload_n 0, 1) := by decide +kernel
theorem dX8_count_24 : decode cX8_count 24 = .ok (.iconst 1, 1) := by decide +kernel
theorem dX8_count_25 : decode cX8_count 25 = .ok (.invokevirtual 126, 3) := by decide +kernel
theorem dX8_count_28 : decode cX8_count 28 = .ok (.ireturn, 1) := by decide +kernel
theorem dX8_weight_0 : decode cX8_weight 0 = .ok (.aload_n 0, 1) := by decide +kernel
theorem dX8_weight_1 : decode cX8_weight 1 = .ok (.iconst 0, 1) := by decide +kernel
theorem dX8_weight_2 : decode cX8_weight 2 = .ok (.putfield 46, 3) := by decide +kernel
theorem dX8_weight_5 : decode cX8_weight 5 = .ok (.iload_n 1, 1) := by decide +kernel
theorem dX8_weight_6 : decode cX8_weight 6 = .ok (.iconst 0, 1) := by decide +kernel
theorem dX8_weight_7 : decode cX8_weight 7 = .ok (.aload_n 0, 1) := by decide +kernel
theorem dX8_weight_8 : decode cX8_weight 8 = .ok (.getfield 7, 3) := by decide +kernel
theorem dX8_weight_11 : decode cX8_weight 11 = .ok (.iconst 5, 1) := by decide +kernel
theorem dX8_weight_12 : decode cX8_weight 12 = .ok (.iaload, 1) := by decide +kernel
theorem dX8_weight_13 : decode cX8_weight 13 = .ok (.iconst 1, 1) := by decide +kernel
theorem dX8_weight_14 : decode cX8_weight 14 = .ok (.isub, 1) := by decide +kernel
theorem dX8_weight_15 : decode cX8_weight 15 = .ok (.invokestatic 89, 3) := by decide +kernel
theorem dX8_weight_18 : decode cX8_weight 18 = .ok (.ifCond .eq 15, 3) := by decide +kernel
theorem dX8_weight_21 : decode cX8_weight 21 = .ok (.aload_n 0, 1) := by decide +kernel
theorem dX8_weight_22 : decode cX8_weight 22 = .ok (.getfield 7, 3) := by decide +kernel
theorem dX8_weight_25 : decode cX8_weight 25 = .ok (.bipush 6, 2) := by decide +kernel
theorem dX8_weight_27 : decode cX8_weight 27 = .ok (.iload_n 1, 1) := by decide +kernel
theorem dX8_weight_28 : decode cX8_weight 28 = .ok (.iadd, 1) := by decide +kernel
theorem dX8_weight_29 : decode cX8_weight 29 = .ok (.iaload, 1) := by decide +kernel
theorem dX8_weight_30 : decode cX8_weight 30 = .ok (.goto 8, 3) := by decide +kernel
theorem dX8_weight_33 : decode cX8_weight 33 = .ok (.aload_n 0, 1) := by decide +kernel
theorem dX8_weight_34 : decode cX8_weight 34 = .ok (.iconst 1, 1) := by decide +kernel
theorem dX8_weight_35 : decode cX8_weight 35 = .ok (.invokevirtual 126, 3) := by decide +kernel
theorem dX8_weight_38 : decode cX8_weight 38 = .ok (.ireturn, 1) := by decide +kernel
theorem dX8_part_0 : decode cX8_part 0 = .ok (.bipush 11, 2) := by decide +kernel
theorem dX8_part_2 : decode cX8_part 2 = .ok (.iload_n 1, 1) := by decide +kernel
theorem dX8_part_3 : decode cX8_part 3 = .ok (.imul, 1) := by decide +kernel
theorem dX8_part_4 : decode cX8_part 4 = .ok (.iload_n 2, 1) := by decide +kernel
theorem dX8_part_5 : decode cX8_part 5 = .ok (.iadd, 1) := by decide +kernel
theorem dX8_part_6 : decode cX8_part 6 = .ok (.istore_n 3, 1) := by decide +kernel
theorem dX8_part_7 : decode cX8_part 7 = .ok (.aload_n 0, 1) := by decide +kernel
theorem dX8_part_8 : decode cX8_part 8 = .ok (.getfield 40, 3) := by decide +kernel
theorem dX8_part_11 : decode cX8_part 11 = .ok (.iload_n 3, 1) := by decide +kernel
theorem dX8_part_12 : decode cX8_part 12 = .ok (.iconst (-1), 1) := by decide +kernel
theorem dX8_part_13 : decode cX8_part 13 = .ok (.iastore, 1) := by decide +kernel
theorem dX8_part_14 : decode cX8_part 14 = .ok (.iload_n 1, 1) := by decide +kernel
theorem dX8_part_15 : decode cX8_part 15 = .ok (.iconst 1, 1) := by decide +kernel
theorem dX8_part_16 : decode cX8_part 16 = .ok (.isub, 1) := by decide +kernel
theorem dX8_part_17 : decode cX8_part 17 = .ok (.istore 4, 2) := by decide +kernel
theorem dX8_part_19 : decode cX8_part 19 = .ok (.iload 4, 2) := by decide +kernel
theorem dX8_part_21 : decode cX8_part 21 = .ok (.iload_n 2, 1) := by decide +kernel
theorem dX8_part_22 : decode cX8_part 22 = .ok (.if_icmp .ge 142, 3) := by decide +kernel
theorem dX8_part_25 : decode cX8_part 25 = .ok (.aload_n 0, 1) := by decide +kernel
theorem dX8_part_26 : decode cX8_part 26 = .ok (.iload 4, 2) := by decide +kernel
theorem dX8_part_28 : decode cX8_part 28 = .ok (.iload_n 2, 1) := by decide +kernel
theorem dX8_part_29 : decode cX8_part 29 = .ok (.invokevirtual 183, 3) := by decide +kernel
theorem dX8_part_32 : decode cX8_part 32 = .ok (.istore 5, 2) := by decide +kernel
theorem dX8_part_34 : decode cX8_part 34 = .ok (.iload_n 1, 1) := by decide +kernel
theorem dX8_part_35 : decode cX8_part 35 = .ok (.iconst 1, 1) := by decide +kernel
theorem dX8_part_36 : decode cX8_part 36 = .ok (.if_icmp .ne 16, 3) := by decide +kernel
theorem dX8_part_39 : decode cX8_part 39 = .ok (.iload 4, 2) := by decide +kernel
theorem dX8_part_41 : decode cX8_part 41 = .ok (.ifCond .ne 7, 3) := by decide +kernel
theorem dX8_part_44 : decode cX8_part 44 = .ok (.iconst 0, 1) := by decide +kernel
theorem dX8_part_45 : decode cX8_part 45 = .ok (.goto 21, 3) := by decide +kernel
theorem dX8_part_48 : decode cX8_part 48 = .ok (.iconst (-1), 1) := by decide +kernel
theorem dX8_part_49 : decode cX8_part 49 = .ok (.goto 17, 3) := by decide +kernel
theorem dX8_part_52 : decode cX8_part 52 = .ok (.aload_n 0, 1) := by decide +kernel
theorem dX8_part_53 : decode cX8_part 53 = .ok (.getfield 40, 3) := by decide +kernel
theorem dX8_part_56 : decode cX8_part 56 = .ok (.bipush 11, 2) := by decide +kernel
theorem dX8_part_58 : decode cX8_part 58 = .ok (.iload_n 1, 1) := by decide +kernel
theorem dX8_part_59 : decode cX8_part 59 = .ok (.iconst 1, 1) := by decide +kernel
theorem dX8_part_60 : decode cX8_part 60 = .ok (.isub, 1) := by decide +kernel
theorem dX8_part_61 : decode cX8_part 61 = .ok (.imul, 1) := by decide +kernel
theorem dX8_part_62 : decode cX8_part 62 = .ok (.iload 4, 2) := by decide +kernel
theorem dX8_part_64 : decode cX8_part 64 = .ok (.iadd, 1) := by decide +kernel
theorem dX8_part_65 : decode cX8_part 65 = .ok (.iaload, 1) := by decide +kernel
theorem dX8_part_66 : decode cX8_part 66 = .ok (.istore 6, 2) := by decide +kernel
theorem dX8_part_68 : decode cX8_part 68 = .ok (.iload 6, 2) := by decide +kernel
theorem dX8_part_70 : decode cX8_part 70 = .ok (.iconst (-1), 1) := by decide +kernel
theorem dX8_part_71 : decode cX8_part 71 = .ok (.if_icmp .eq 34, 3) := by decide +kernel
theorem dX8_part_74 : decode cX8_part 74 = .ok (.aload_n 0, 1) := by decide +kernel
theorem dX8_part_75 : decode cX8_part 75 = .ok (.getfield 40, 3) := by decide +kernel
theorem dX8_part_78 : decode cX8_part 78 = .ok (.iload_n 3, 1) := by decide +kernel
theorem dX8_part_79 : decode cX8_part 79 = .ok (.iaload, 1) := by decide +kernel
theorem dX8_part_80 : decode cX8_part 80 = .ok (.iconst (-1), 1) := by decide +kernel
theorem dX8_part_81 : decode cX8_part 81 = .ok (.if_icmp .eq 20, 3) := by decide +kernel
theorem dX8_part_84 : decode cX8_part 84 = .ok (.iload 6, 2) := by decide +kernel
theorem dX8_part_86 : decode cX8_part 86 = .ok (.iload 5, 2) := by decide +kernel
theorem dX8_part_88 : decode cX8_part 88 = .ok (.iload 5, 2) := by decide +kernel
theorem dX8_part_90 : decode cX8_part 90 = .ok (.imul, 1) := by decide +kernel
theorem dX8_part_91 : decode cX8_part 91 = .ok (.iadd, 1) := by decide +kernel
theorem dX8_part_92 : decode cX8_part 92 = .ok (.aload_n 0, 1) := by decide +kernel
theorem dX8_part_93 : decode cX8_part 93 = .ok (.getfield 40, 3) := by decide +kernel
theorem dX8_part_96 : decode cX8_part 96 = .ok (.iload_n 3, 1) := by decide +kernel
theorem dX8_part_97 : decode cX8_part 97 = .ok (.iaload, 1) := by decide +kernel
theorem dX8_part_98 : decode cX8_part 98 = .ok (.if_icmp .ge 7, 3) := by decide +kernel
theorem dX8_part_101 : decode cX8_part 101 = .ok (.iconst 1, 1) := by decide +kernel
theorem dX8_part_102 : decode cX8_part 102 = .ok (.goto 4, 3) := by decide +kernel
theorem dX8_part_105 : decode cX8_part 105 = .ok (.iconst 0, 1) := by decide +kernel
theorem dX8_part_106 : decode cX8_part 106 = .ok (.istore 7, 2) := by decide +kernel
theorem dX8_part_108 : decode cX8_part 108 = .ok (.aload_n 0, 1) := by decide +kernel
theorem dX8_part_109 : decode cX8_part 109 = .ok (.getfield 40, 3) := by decide +kernel
theorem dX8_part_112 : decode cX8_part 112 = .ok (.iload_n 3, 1) := by decide +kernel
theorem dX8_part_113 : decode cX8_part 113 = .ok (.iload 7, 2) := by decide +kernel
theorem dX8_part_115 : decode cX8_part 115 = .ok (.ifCond .eq 14, 3) := by decide +kernel
theorem dX8_part_118 : decode cX8_part 118 = .ok (.iload 6, 2) := by decide +kernel
theorem dX8_part_120 : decode cX8_part 120 = .ok (.iload 5, 2) := by decide +kernel
theorem dX8_part_122 : decode cX8_part 122 = .ok (.iload 5, 2) := by decide +kernel
theorem dX8_part_124 : decode cX8_part 124 = .ok (.imul, 1) := by decide +kernel
theorem dX8_part_125 : decode cX8_part 125 = .ok (.iadd, 1) := by decide +kernel
theorem dX8_part_126 : decode cX8_part 126 = .ok (.goto 9, 3) := by decide +kernel
theorem dX8_part_129 : decode cX8_part 129 = .ok (.aload_n 0, 1) := by decide +kernel
theorem dX8_part_130 : decode cX8_part 130 = .ok (.getfield 40, 3) := by decide +kernel
theorem dX8_part_133 : decode cX8_part 133 = .ok (.iload_n 3, 1) := by decide +kernel
theorem dX8_part_134 : decode cX8_part 134 = .ok (.iaload, 1) := by decide +kernel
theorem dX8_part_135 : decode cX8_part 135 = .ok (.iastore, 1) := by decide +kernel
theorem dX8_part_136 : decode cX8_part 136 = .ok (.aload_n 0, 1) := by decide +kernel
theorem dX8_part_137 : decode cX8_part 137 = .ok (.getfield 43, 3) := by decide +kernel
theorem dX8_part_140 : decode cX8_part 140 = .ok (.iload_n 3, 1) := by decide +kernel
theorem dX8_part_141 : decode cX8_part 141 = .ok (.iload 7, 2) := by decide +kernel
theorem dX8_part_143 : decode cX8_part 143 = .ok (.ifCond .eq 8, 3) := by decide +kernel
theorem dX8_part_146 : decode cX8_part 146 = .ok (.iload 4, 2) := by decide +kernel
theorem dX8_part_148 : decode cX8_part 148 = .ok (.goto 9, 3) := by decide +kernel
theorem dX8_part_151 : decode cX8_part 151 = .ok (.aload_n 0, 1) := by decide +kernel
theorem dX8_part_152 : decode cX8_part 152 = .ok (.getfield 43, 3) := by decide +kernel
theorem dX8_part_155 : decode cX8_part 155 = .ok (.iload_n 3, 1) := by decide +kernel
theorem dX8_part_156 : decode cX8_part 156 = .ok (.iaload, 1) := by decide +kernel
theorem dX8_part_157 : decode cX8_part 157 = .ok (.iastore, 1) := by decide +kernel
theorem dX8_part_158 : decode cX8_part 158 = .ok (.iinc 4 1, 3) := by decide +kernel
theorem dX8_part_161 : decode cX8_part 161 = .ok (.goto (-142), 3) := by decide +kernel
theorem dX8_part_164 : decode cX8_part 164 = .ok (.return_, 1) := by decide +kernel
