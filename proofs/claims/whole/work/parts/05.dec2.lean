theorem dX7_put_42 : decode cX7_put 42 = .ok (.athrow, 1) := by decide +kernel
theorem dX7_put_43 : decode cX7_put 43 = .ok (.aload_n 0, 1) := by decide +kernel
theorem dX7_put_44 : decode cX7_put 44 = .ok (.getfield 49, 3) := by decide +kernel
theorem dX7_put_47 : decode cX7_put 47 = .ok (.aload_n 0, 1) := by decide +kernel
theorem dX7_put_48 : decode cX7_put 48 = .ok (.getfield 10, 3) := by decide +kernel
theorem dX7_put_51 : decode cX7_put 51 = .ok (.invokevirtual 74, 3) := by decide +kernel
theorem dX7_put_54 : decode cX7_put 54 = .ok (.aload_n 0, 1) := by decide +kernel
theorem dX7_put_55 : decode cX7_put 55 = .ok (.getfield 10, 3) := by decide +kernel
theorem dX7_put_58 : decode cX7_put 58 = .ok (.iload_n 1, 1) := by decide +kernel
theorem dX7_put_59 : decode cX7_put 59 = .ok (.iload_n 2, 1) := by decide +kernel
theorem dX7_put_60 : decode cX7_put 60 = .ok (.invokevirtual 99, 3) := by decide +kernel
theorem dX7_put_63 : decode cX7_put 63 = .ok (.istore 4, 2) := by decide +kernel
theorem dX7_put_65 : decode cX7_put 65 = .ok (.aload_n 0, 1) := by decide +kernel
theorem dX7_put_66 : decode cX7_put 66 = .ok (.getfield 10, 3) := by decide +kernel
theorem dX7_put_69 : decode cX7_put 69 = .ok (.iload_n 1, 1) := by decide +kernel
theorem dX7_put_70 : decode cX7_put 70 = .ok (.iload_n 2, 1) := by decide +kernel
theorem dX7_put_71 : decode cX7_put 71 = .ok (.iload_n 3, 1) := by decide +kernel
theorem dX7_put_72 : decode cX7_put 72 = .ok (.invokevirtual 103, 3) := by decide +kernel
theorem dX7_put_75 : decode cX7_put 75 = .ok (.iload 4, 2) := by decide +kernel
theorem dX7_put_77 : decode cX7_put 77 = .ok (.ireturn, 1) := by decide +kernel
theorem dX7_points_0 : decode cX7_points 0 = .ok (.iload_n 1, 1) := by decide +kernel
theorem dX7_points_1 : decode cX7_points 1 = .ok (.iconst 0, 1) := by decide +kernel
theorem dX7_points_2 : decode cX7_points 2 = .ok (.bipush 50, 2) := by decide +kernel
theorem dX7_points_4 : decode cX7_points 4 = .ok (.invokestatic 63, 3) := by decide +kernel
theorem dX7_points_7 : decode cX7_points 7 = .ok (.ifCond .eq 34, 3) := by decide +kernel
theorem dX7_points_10 : decode cX7_points 10 = .ok (.iload_n 2, 1) := by decide +kernel
theorem dX7_points_11 : decode cX7_points 11 = .ok (.iconst 0, 1) := by decide +kernel
theorem dX7_points_12 : decode cX7_points 12 = .ok (.bipush 9, 2) := by decide +kernel
theorem dX7_points_14 : decode cX7_points 14 = .ok (.invokestatic 63, 3) := by decide +kernel
theorem dX7_points_17 : decode cX7_points 17 = .ok (.ifCond .eq 24, 3) := by decide +kernel
theorem dX7_points_20 : decode cX7_points 20 = .ok (.iload_n 3, 1) := by decide +kernel
theorem dX7_points_21 : decode cX7_points 21 = .ok (.iconst 0, 1) := by decide +kernel
theorem dX7_points_22 : decode cX7_points 22 = .ok (.bipush 50, 2) := by decide +kernel
theorem dX7_points_24 : decode cX7_points 24 = .ok (.invokestatic 63, 3) := by decide +kernel
theorem dX7_points_27 : decode cX7_points 27 = .ok (.ifCond .eq 14, 3) := by decide +kernel
theorem dX7_points_30 : decode cX7_points 30 = .ok (.iload 4, 2) := by decide +kernel
theorem dX7_points_32 : decode cX7_points 32 = .ok (.iconst 0, 1) := by decide +kernel
theorem dX7_points_33 : decode cX7_points 33 = .ok (.bipush 9, 2) := by decide +kernel
theorem dX7_points_35 : decode cX7_points 35 = .ok (.invokestatic 63, 3) := by decide +kernel
theorem dX7_points_38 : decode cX7_points 38 = .ok (.ifCond .ne 13, 3) := by decide +kernel
theorem dX7_points_41 : decode cX7_points 41 = .ok (.new 67, 3) := by decide +kernel
theorem dX7_points_44 : decode cX7_points 44 = .ok (.dup, 1) := by decide +kernel
theorem dX7_points_45 : decode cX7_points 45 = .ok (.ldc 107, 2) := by decide +kernel
theorem dX7_points_47 : decode cX7_points 47 = .ok (.invokespecial 71, 3) := by decide +kernel
theorem dX7_points_50 : decode cX7_points 50 = .ok (.athrow, 1) := by decide +kernel
theorem dX7_points_51 : decode cX7_points 51 = .ok (.aload_n 0, 1) := by decide +kernel
theorem dX7_points_52 : decode cX7_points 52 = .ok (.getfield 49, 3) := by decide +kernel
theorem dX7_points_55 : decode cX7_points 55 = .ok (.aload_n 0, 1) := by decide +kernel
theorem dX7_points_56 : decode cX7_points 56 = .ok (.getfield 10, 3) := by decide +kernel
theorem dX7_points_59 : decode cX7_points 59 = .ok (.invokevirtual 74, 3) := by decide +kernel
theorem dX7_points_62 : decode cX7_points 62 = .ok (.iconst 0, 1) := by decide +kernel
theorem dX7_points_63 : decode cX7_points 63 = .ok (.istore 5, 2) := by decide +kernel
theorem dX7_points_65 : decode cX7_points 65 = .ok (.iload 5, 2) := by decide +kernel
theorem dX7_points_67 : decode cX7_points 67 = .ok (.aload_n 0, 1) := by decide +kernel
theorem dX7_points_68 : decode cX7_points 68 = .ok (.getfield 10, 3) := by decide +kernel
theorem dX7_points_71 : decode cX7_points 71 = .ok (.getfield 81, 3) := by decide +kernel
theorem dX7_points_74 : decode cX7_points 74 = .ok (.if_icmp .ge 68, 3) := by decide +kernel
theorem dX7_points_77 : decode cX7_points 77 = .ok (.iconst 0, 1) := by decide +kernel
theorem dX7_points_78 : decode cX7_points 78 = .ok (.istore 6, 2) := by decide +kernel
theorem dX7_points_80 : decode cX7_points 80 = .ok (.iload 6, 2) := by decide +kernel
theorem dX7_points_82 : decode cX7_points 82 = .ok (.aload_n 0, 1) := by decide +kernel
theorem dX7_points_83 : decode cX7_points 83 = .ok (.getfield 10, 3) := by decide +kernel
theorem dX7_points_86 : decode cX7_points 86 = .ok (.getfield 85, 3) := by decide +kernel
theorem dX7_points_89 : decode cX7_points 89 = .ok (.if_icmp .ge 47, 3) := by decide +kernel
theorem dX7_points_92 : decode cX7_points 92 = .ok (.iload_n 1, 1) := by decide +kernel
theorem dX7_points_93 : decode cX7_points 93 = .ok (.iload_n 2, 1) := by decide +kernel
theorem dX7_points_94 : decode cX7_points 94 = .ok (.iload 5, 2) := by decide +kernel
theorem dX7_points_96 : decode cX7_points 96 = .ok (.imul, 1) := by decide +kernel
theorem dX7_points_97 : decode cX7_points 97 = .ok (.iadd, 1) := by decide +kernel
theorem dX7_points_98 : decode cX7_points 98 = .ok (.iload_n 3, 1) := by decide +kernel
theorem dX7_points_99 : decode cX7_points 99 = .ok (.iload 4, 2) := by decide +kernel
theorem dX7_points_101 : decode cX7_points 101 = .ok (.iload 6, 2) := by decide +kernel
theorem dX7_points_103 : decode cX7_points 103 = .ok (.imul, 1) := by decide +kernel
theorem dX7_points_104 : decode cX7_points 104 = .ok (.iadd, 1) := by decide +kernel
theorem dX7_points_105 : decode cX7_points 105 = .ok (.isub, 1) := by decide +kernel
theorem dX7_points_106 : decode cX7_points 106 = .ok (.istore 7, 2) := by decide +kernel
theorem dX7_points_108 : decode cX7_points 108 = .ok (.aload_n 0, 1) := by decide +kernel
theorem dX7_points_109 : decode cX7_points 109 = .ok (.getfield 10, 3) := by decide +kernel
theorem dX7_points_112 : decode cX7_points 112 = .ok (.iload 5, 2) := by decide +kernel
theorem dX7_points_114 : decode cX7_points 114 = .ok (.iload 6, 2) := by decide +kernel
theorem dX7_points_116 : decode cX7_points 116 = .ok (.iload 7, 2) := by decide +kernel
theorem dX7_points_118 : decode cX7_points 118 = .ok (.iload 7, 2) := by decide +kernel
theorem dX7_points_120 : decode cX7_points 120 = .ok (.imul, 1) := by decide +kernel
theorem dX7_points_121 : decode cX7_points 121 = .ok (.sipush 9999, 3) := by decide +kernel
theorem dX7_points_124 : decode cX7_points 124 = .ok (.invokestatic 109, 3) := by decide +kernel
theorem dX7_points_127 : decode cX7_points 127 = .ok (.invokevirtual 103, 3) := by decide +kernel
theorem dX7_points_130 : decode cX7_points 130 = .ok (.iinc 6 1, 3) := by decide +kernel
theorem dX7_points_133 : decode cX7_points 133 = .ok (.goto (-53), 3) := by decide +kernel
theorem dX7_points_136 : decode cX7_points 136 = .ok (.iinc 5 1, 3) := by decide +kernel
theorem dX7_points_139 : decode cX7_points 139 = .ok (.goto (-74), 3) := by decide +kernel
theorem dX7_points_142 : decode cX7_points 142 = .ok (.aload_n 0, 1) := by decide +kernel
theorem dX7_points_143 : decode cX7_points 143 = .ok (.getfield 21, 3) := by decide +kernel
theorem dX7_points_146 : decode cX7_points 146 = .ok (.invokevirtual 114, 3) := by decide +kernel
theorem dX7_points_149 : decode cX7_points 149 = .ok (.ifCond .eq 7, 3) := by decide +kernel
theorem dX7_points_152 : decode cX7_points 152 = .ok (.iconst 1, 1) := by decide +kernel
theorem dX7_points_153 : decode cX7_points 153 = .ok (.goto 4, 3) := by decide +kernel
theorem dX7_points_156 : decode cX7_points 156 = .ok (.iconst 0, 1) := by decide +kernel
theorem dX7_points_157 : decode cX7_points 157 = .ok (.ireturn, 1) := by decide +kernel
theorem dX7_mend_0 : decode cX7_mend 0 = .ok (.aload_n 0, 1) := by decide +kernel
theorem dX7_mend_1 : decode cX7_mend 1 = .ok (.getfield 49, 3) := by decide +kernel
theorem dX7_mend_4 : decode cX7_mend 4 = .ok (.aload_n 0, 1) := by decide +kernel
theorem dX7_mend_5 : decode cX7_mend 5 = .ok (.getfield 10, 3) := by decide +kernel
theorem dX7_mend_8 : decode cX7_mend 8 = .ok (.invokevirtual 74, 3) := by decide +kernel
theorem dX7_mend_11 : decode cX7_mend 11 = .ok (.aload_n 0, 1) := by decide +kernel
theorem dX7_mend_12 : decode cX7_mend 12 = .ok (.getfield 21, 3) := by decide +kernel
theorem dX7_mend_15 : decode cX7_mend 15 = .ok (.invokevirtual 118, 3) := by decide +kernel
theorem dX7_mend_18 : decode cX7_mend 18 = .ok (.aload_n 0, 1) := by decide +kernel
theorem dX7_mend_19 : decode cX7_mend 19 = .ok (.getfield 21, 3) := by decide +kernel
theorem dX7_mend_22 : decode cX7_mend 22 = .ok (.getfield 121, 3) := by decide +kernel
theorem dX7_mend_25 : decode cX7_mend 25 = .ok (.ifCond .ne 5, 3) := by decide +kernel
theorem dX7_mend_28 : decode cX7_mend 28 = .ok (.iconst (-1), 1) := by decide +kernel
theorem dX7_mend_29 : decode cX7_mend 29 = .ok (.ireturn, 1) := by decide +kernel
theorem dX7_mend_30 : decode cX7_mend 30 = .ok (.aload_n 0, 1) := by decide +kernel
theorem dX7_mend_31 : decode cX7_mend 31 = .ok (.getfield 10, 3) := by decide +kernel
theorem dX7_mend_34 : decode cX7_mend 34 = .ok (.aload_n 0, 1) := by decide +kernel
theorem dX7_mend_35 : decode cX7_mend 35 = .ok (.getfield 21, 3) := by decide +kernel
theorem dX7_mend_38 : decode cX7_mend 38 = .ok (.getfield 124, 3) := by decide +kernel
theorem dX7_mend_41 : decode cX7_mend 41 = .ok (.iconst 1, 1) := by decide +kernel
theorem dX7_mend_42 : decode cX7_mend 42 = .ok (.iadd, 1) := by decide +kernel
theorem dX7_mend_43 : decode cX7_mend 43 = .ok (.aload_n 0, 1) := by decide +kernel
theorem dX7_mend_44 : decode cX7_mend 44 = .ok (.getfield 21, 3) := by decide +kernel
theorem dX7_mend_47 : decode cX7_mend 47 = .ok (.getfield 127, 3) := by decide +kernel
theorem dX7_mend_50 : decode cX7_mend 50 = .ok (.invokevirtual 99, 3) := by decide +kernel
theorem dX7_mend_53 : decode cX7_mend 53 = .ok (.iconst 1, 1) := by decide +kernel
theorem dX7_mend_54 : decode cX7_mend 54 = .ok (.iadd, 1) := by decide +kernel
theorem dX7_mend_55 : decode cX7_mend 55 = .ok (.istore_n 1, 1) := by decide +kernel
theorem dX7_mend_56 : decode cX7_mend 56 = .ok (.iload_n 1, 1) := by decide +kernel
theorem dX7_mend_57 : decode cX7_mend 57 = .ok (.sipush 9999, 3) := by decide +kernel
theorem dX7_mend_60 : decode cX7_mend 60 = .ok (.if_icmp .le 5, 3) := by decide +kernel
theorem dX7_mend_63 : decode cX7_mend 63 = .ok (.iconst (-1), 1) := by decide +kernel
theorem dX7_mend_64 : decode cX7_mend 64 = .ok (.ireturn, 1) := by decide +kernel
theorem dX7_mend_65 : decode cX7_mend 65 = .ok (.aload_n 0, 1) := by decide +kernel
theorem dX7_mend_66 : decode cX7_mend 66 = .ok (.getfield 10, 3) := by decide +kernel
theorem dX7_mend_69 : decode cX7_mend 69 = .ok (.aload_n 0, 1) := by decide +kernel
theorem dX7_mend_70 : decode cX7_mend 70 = .ok (.getfield 21, 3) := by decide +kernel
theorem dX7_mend_73 : decode cX7_mend 73 = .ok (.getfield 124, 3) := by decide +kernel
theorem dX7_mend_76 : decode cX7_mend 76 = .ok (.iconst 1, 1) := by decide +kernel
theorem dX7_mend_77 : decode cX7_mend 77 = .ok (.iadd, 1) := by decide +kernel
theorem dX7_mend_78 : decode cX7_mend 78 = .ok (.aload_n 0, 1) := by decide +kernel
theorem dX7_mend_79 : decode cX7_mend 79 = .ok (.getfield 21, 3) := by decide +kernel
theorem dX7_mend_82 : decode cX7_mend 82 = .ok (.getfield 130, 3) := by decide +kernel
theorem dX7_mend_85 : decode cX7_mend 85 = .ok (.iload_n 1, 1) := by decide +kernel
theorem dX7_mend_86 : decode cX7_mend 86 = .ok (.invokevirtual 103, 3) := by decide +kernel
theorem dX7_mend_89 : decode cX7_mend 89 = .ok (.aload_n 0, 1) := by decide +kernel
theorem dX7_mend_90 : decode cX7_mend 90 = .ok (.getfield 10, 3) := by decide +kernel
theorem dX7_mend_93 : decode cX7_mend 93 = .ok (.dup, 1) := by decide +kernel
theorem dX7_mend_94 : decode cX7_mend 94 = .ok (.getfield 133, 3) := by decide +kernel
theorem dX7_mend_97 : decode cX7_mend 97 = .ok (.iconst 1, 1) := by decide +kernel
theorem dX7_mend_98 : decode cX7_mend 98 = .ok (.iadd, 1) := by decide +kernel
theorem dX7_mend_99 : decode cX7_mend 99 = .ok (.putfield 133, 3) := by decide +kernel
theorem dX7_mend_102 : decode cX7_mend 102 = .ok (.aload_n 0, 1) := by decide +kernel
theorem dX7_mend_103 : decode cX7_mend 103 = .ok (.getfield 21, 3) := by decide +kernel
theorem dX7_mend_106 : decode cX7_mend 106 = .ok (.getfield 124, 3) := by decide +kernel
theorem dX7_mend_109 : decode cX7_mend 109 = .ok (.ireturn, 1) := by decide +kernel
theorem dX7_find_0 : decode cX7_find 0 = .ok (.iload_n 1, 1) := by decide +kernel
theorem dX7_find_1 : decode cX7_find 1 = .ok (.invokestatic 136, 3) := by decide +kernel
theorem dX7_find_4 : decode cX7_find 4 = .ok (.ifCond .ne 13, 3) := by decide +kernel
theorem dX7_find_7 : decode cX7_find 7 = .ok (.new 67, 3) := by decide +kernel
theorem dX7_find_10 : decode cX7_find 10 = .ok (.dup, 1) := by decide +kernel
theorem dX7_find_11 : decode cX7_find 11 = .ok (.ldc 140, 2) := by decide +kernel
theorem dX7_find_13 : decode cX7_find 13 = .ok (.invokespecial 71, 3) := by decide +kernel
theorem dX7_find_16 : decode cX7_find 16 = .ok (.athrow, 1) := by decide +kernel
theorem dX7_find_17 : decode cX7_find 17 = .ok (.aload_n 0, 1) := by decide +kernel
theorem dX7_find_18 : decode cX7_find 18 = .ok (.iload_n 1, 1) := by decide +kernel
theorem dX7_find_19 : decode cX7_find 19 = .ok (.invokevirtual 142, 3) := by decide +kernel
theorem dX7_find_22 : decode cX7_find 22 = .ok (.ifCond .ne 13, 3) := by decide +kernel
theorem dX7_find_25 : decode cX7_find 25 = .ok (.new 145, 3) := by decide +kernel
theorem dX7_find_28 : decode cX7_find 28 = .ok (.dup, 1) := by decide +kernel
theorem dX7_find_29 : decode cX7_find 29 = .ok (.ldc 147, 2) := by decide +kernel
theorem dX7_find_31 : decode cX7_find 31 = .ok (.invokespecial 149, 3) := by decide +kernel
theorem dX7_find_34 : decode cX7_find 34 = .ok (.athrow, 1) := by decide +kernel
theorem dX7_find_35 : decode cX7_find 35 = .ok (.aload_n 0, 1) := by decide +kernel
theorem dX7_find_36 : decode cX7_find 36 = .ok (.getfield 49, 3) := by decide +kernel
theorem dX7_find_39 : decode cX7_find 39 = .ok (.aload_n 0, 1) := by decide +kernel
theorem dX7_find_40 : decode cX7_find 40 = .ok (.getfield 10, 3) := by decide +kernel
theorem dX7_find_43 : decode cX7_find 43 = .ok (.invokevirtual 74, 3) := by decide +kernel
theorem dX7_find_46 : decode cX7_find 46 = .ok (.aload_n 0, 1) := by decide +kernel
theorem dX7_find_47 : decode cX7_find 47 = .ok (.getfield 28, 3) := by decide +kernel
theorem dX7_find_50 : decode cX7_find 50 = .ok (.iload_n 1, 1) := by decide +kernel
theorem dX7_find_51 : decode cX7_find 51 = .ok (.invokevirtual 150, 3) := by decide +kernel
theorem dX7_find_54 : decode cX7_find 54 = .ok (.aload_n 0, 1) := by decide +kernel
theorem dX7_find_55 : decode cX7_find 55 = .ok (.getfield 28, 3) := by decide +kernel
theorem dX7_find_58 : decode cX7_find 58 = .ok (.iload_n 1, 1) := by decide +kernel
theorem dX7_find_59 : decode cX7_find 59 = .ok (.invokevirtual 154, 3) := by decide +kernel
theorem dX7_find_62 : decode cX7_find 62 = .ok (.istore_n 2, 1) := by decide +kernel
theorem dX7_find_63 : decode cX7_find 63 = .ok (.aload_n 0, 1) := by decide +kernel
theorem dX7_find_64 : decode cX7_find 64 = .ok (.getfield 10, 3) := by decide +kernel
theorem dX7_find_67 : decode cX7_find 67 = .ok (.dup, 1) := by decide +kernel
theorem dX7_find_68 : decode cX7_find 68 = .ok (.getfield 158, 3) := by decide +kernel
theorem dX7_find_71 : decode cX7_find 71 = .ok (.iload_n 2, 1) := by decide +kernel
theorem dX7_find_72 : decode cX7_find 72 = .ok (.iadd, 1) := by decide +kernel
theorem dX7_find_73 : decode cX7_find 73 = .ok (.putfield 158, 3) := by decide +kernel
theorem dX7_find_76 : decode cX7_find 76 = .ok (.aload_n 0, 1) := by decide +kernel
theorem dX7_find_77 : decode cX7_find 77 = .ok (.getfield 10, 3) := by decide +kernel
theorem dX7_find_80 : decode cX7_find 80 = .ok (.dup, 1) := by decide +kernel
theorem dX7_find_81 : decode cX7_find 81 = .ok (.getfield 161, 3) := by decide +kernel
theorem dX7_find_84 : decode cX7_find 84 = .ok (.iconst 1, 1) := by decide +kernel
theorem dX7_find_85 : decode cX7_find 85 = .ok (.iadd, 1) := by decide +kernel
theorem dX7_find_86 : decode cX7_find 86 = .ok (.putfield 161, 3) := by decide +kernel
theorem dX7_find_89 : decode cX7_find 89 = .ok (.iload_n 2, 1) := by decide +kernel
theorem dX7_find_90 : decode cX7_find 90 = .ok (.ireturn, 1) := by decide +kernel
theorem dX7_weigh_0 : decode cX7_weigh 0 = .ok (.iload_n 1, 1) := by decide +kernel
theorem dX7_weigh_1 : decode cX7_weigh 1 = .ok (.iconst 1, 1) := by decide +kernel
theorem dX7_weigh_2 : decode cX7_weigh 2 = .ok (.bipush 99, 2) := by decide +kernel
theorem dX7_weigh_4 : decode cX7_weigh 4 = .ok (.invokestatic 63, 3) := by decide +kernel
theorem dX7_weigh_7 : decode cX7_weigh 7 = .ok (.ifCond .ne 13, 3) := by decide +kernel
theorem dX7_weigh_10 : decode cX7_weigh 10 = .ok (.new 67, 3) := by decide +kernel
theorem dX7_weigh_13 : decode cX7_weigh 13 = .ok (.dup, 1) := by decide +kernel
theorem dX7_weigh_14 : decode cX7_weigh 14 = .ok (.ldc 164, 2) := by decide +kernel
theorem dX7_weigh_16 : decode cX7_weigh 16 = .ok (.invokespecial 71, 3) := by decide +kernel
theorem dX7_weigh_19 : decode cX7_weigh 19 = .ok (.athrow, 1) := by decide +kernel
theorem dX7_weigh_20 : decode cX7_weigh 20 = .ok (.aload_n 0, 1) := by decide +kernel
theorem dX7_weigh_21 : decode cX7_weigh 21 = .ok (.getfield 10, 3) := by decide +kernel
theorem dX7_weigh_24 : decode cX7_weigh 24 = .ok (.getfield 166, 3) := by decide +kernel
theorem dX7_weigh_27 : decode cX7_weigh 27 = .ok (.bipush 10, 2) := by decide +kernel
theorem dX7_weigh_29 : decode cX7_weigh 29 = .ok (.if_icmp .lt 13, 3) := by decide +kernel
theorem dX7_weigh_32 : decode cX7_weigh 32 = .ok (.new 145, 3) := by decide +kernel
theorem dX7_weigh_35 : decode cX7_weigh 35 = .ok (.dup, 1) := by decide +kernel
theorem dX7_weigh_36 : decode cX7_weigh 36 = .ok (.ldc 169, 2) := by decide +kernel
theorem dX7_weigh_38 : decode cX7_weigh 38 = .ok (.invokespecial 149, 3) := by decide +kernel
theorem dX7_weigh_41 : decode cX7_weigh 41 = .ok (.athrow, 1) := by decide +kernel
theorem dX7_weigh_42 : decode cX7_weigh 42 = .ok (.aload_n 0, 1) := by decide +kernel
theorem dX7_weigh_43 : decode cX7_weigh 43 = .ok (.getfield 49, 3) := by decide +kernel
theorem dX7_weigh_46 : decode cX7_weigh 46 = .ok (.aload_n 0, 1) := by decide +kernel
theorem dX7_weigh_47 : decode cX7_weigh 47 = .ok (.getfield 10, 3) := by decide +kernel
theorem dX7_weigh_50 : decode cX7_weigh 50 = .ok (.invokevirtual 74, 3) := by decide +kernel
theorem dX7_weigh_53 : decode cX7_weigh 53 = .ok (.aload_n 0, 1) := by decide +kernel
theorem dX7_weigh_54 : decode cX7_weigh 54 = .ok (.getfield 10, 3) := by decide +kernel
theorem dX7_weigh_57 : decode cX7_weigh 57 = .ok (.iload_n 1, 1) := by decide +kernel
theorem dX7_weigh_58 : decode cX7_weigh 58 = .ok (.invokevirtual 171, 3) := by decide +kernel
theorem dX7_weigh_61 : decode cX7_weigh 61 = .ok (.aload_n 0, 1) := by decide +kernel
theorem dX7_weigh_62 : decode cX7_weigh 62 = .ok (.getfield 10, 3) := by decide +kernel
theorem dX7_weigh_65 : decode cX7_weigh 65 = .ok (.getfield 166, 3) := by decide +kernel
theorem dX7_weigh_68 : decode cX7_weigh 68 = .ok (.ireturn, 1) := by decide +kernel
theorem dX7_unweigh_0 : decode cX7_unweigh 0 = .ok (.aload_n 0, 1) := by decide +kernel
theorem dX7_unweigh_1 : decode cX7_unweigh 1 = .ok (.getfield 10, 3) := by decide +kernel
theorem dX7_unweigh_4 : decode cX7_unweigh 4 = .ok (.getfield 166, 3) := by decide +kernel
theorem dX7_unweigh_7 : decode cX7_unweigh 7 = .ok (.iconst 1, 1) := by decide +kernel
theorem dX7_unweigh_8 : decode cX7_unweigh 8 = .ok (.if_icmp .gt 13, 3) := by decide +kernel
theorem dX7_unweigh_11 : decode cX7_unweigh 11 = .ok (.new 145, 3) := by decide +kernel
theorem dX7_unweigh_14 : decode cX7_unweigh 14 = .ok (.dup, 1) := by decide +kernel
theorem dX7_unweigh_15 : decode cX7_unweigh 15 = .ok (.ldc 174, 2) := by decide +kernel
theorem dX7_unweigh_17 : decode cX7_unweigh 17 = .ok (.invokespecial 149, 3) := by decide +kernel
theorem dX7_unweigh_20 : decode cX7_unweigh 20 = .ok (.athrow, 1) := by decide +kernel
theorem dX7_unweigh_21 : decode cX7_unweigh 21 = .ok (.aload_n 0, 1) := by decide +kernel
theorem dX7_unweigh_22 : decode cX7_unweigh 22 = .ok (.getfield 49, 3) := by decide +kernel
theorem dX7_unweigh_25 : decode cX7_unweigh 25 = .ok (.aload_n 0, 1) := by decide +kernel
theorem dX7_unweigh_26 : decode cX7_unweigh 26 = .ok (.getfield 10, 3) := by decide +kernel
theorem dX7_unweigh_29 : decode cX7_unweigh 29 = .ok (.invokevirtual 74, 3) := by decide +kernel
theorem dX7_unweigh_32 : decode cX7_unweigh 32 = .ok (.aload_n 0, 1) := by decide +kernel
theorem dX7_unweigh_33 : decode cX7_unweigh 33 = .ok (.getfield 10, 3) := by decide +kernel
theorem dX7_unweigh_36 : decode cX7_unweigh 36 = .ok (.dup, 1) := by decide +kernel
theorem dX7_unweigh_37 : decode cX7_unweigh 37 = .ok (.getfield 166, 3) := by decide +kernel
theorem dX7_unweigh_40 : decode cX7_unweigh 40 = .ok (.iconst 1, 1) := by decide +kernel
theorem dX7_unweigh_41 : decode cX7_unweigh 41 = .ok (.isub, 1) := by decide +kernel
theorem dX7_unweigh_42 : decode cX7_unweigh 42 = .ok (.putfield 166, 3) := by decide +kernel
theorem dX7_unweigh_45 : decode cX7_unweigh 45 = .ok (.aload_n 0, 1) := by decide +kernel
theorem dX7_unweigh_46 : decode cX7_unweigh 46 = .ok (.getfield 10, 3) := by decide +kernel
theorem dX7_unweigh_49 : decode cX7_unweigh 49 = .ok (.aload_n 0, 1) := by decide +kernel
theorem dX7_unweigh_50 : decode cX7_unweigh 50 = .ok (.getfield 10, 3) := by decide +kernel
theorem dX7_unweigh_53 : decode cX7_unweigh 53 = .ok (.getfield 166, 3) := by decide +kernel
theorem dX7_unweigh_56 : decode cX7_unweigh 56 = .ok (.invokevirtual 176, 3) := by decide +kernel
theorem dX7_unweigh_59 : decode cX7_unweigh 59 = .ok (.ireturn, 1) := by decide +kernel
theorem dX7_append_0 : decode cX7_append 0 = .ok (.iload_n 1, 1) := by decide +kernel
theorem dX7_append_1 : decode cX7_append 1 = .ok (.bipush 33, 2) := by decide +kernel
theorem dX7_append_3 : decode cX7_append 3 = .ok (.bipush 126, 2) := by decide +kernel
theorem dX7_append_5 : decode cX7_append 5 = .ok (.invokestatic 63, 3) := by decide +kernel
theorem dX7_append_8 : decode cX7_append 8 = .ok (.ifCond .ne 13, 3) := by decide +kernel
theorem dX7_append_11 : decode cX7_append 11 = .ok (.new 67, 3) := by decide +kernel
theorem dX7_append_14 : decode cX7_append 14 = .ok (.dup, 1) := by decide +kernel
theorem dX7_append_15 : decode cX7_append 15 = .ok (.ldc 179, 2) := by decide +kernel
theorem dX7_append_17 : decode cX7_append 17 = .ok (.invokespecial 71, 3) := by decide +kernel
theorem dX7_append_20 : decode cX7_append 20 = .ok (.athrow, 1) := by decide +kernel
theorem dX7_append_21 : decode cX7_append 21 = .ok (.aload_n 0, 1) := by decide +kernel
theorem dX7_append_22 : decode cX7_append 22 = .ok (.getfield 42, 3) := by decide +kernel
theorem dX7_append_25 : decode cX7_append 25 = .ok (.getfield 181, 3) := by decide +kernel
theorem dX7_append_28 : decode cX7_append 28 = .ok (.bipush 60, 2) := by decide +kernel
theorem dX7_append_30 : decode cX7_append 30 = .ok (.if_icmp .lt 13, 3) := by decide +kernel
theorem dX7_append_33 : decode cX7_append 33 = .ok (.new 145, 3) := by decide +kernel
theorem dX7_append_36 : decode cX7_append 36 = .ok (.dup, 1) := by decide +kernel
theorem dX7_append_37 : decode cX7_append 37 = .ok (.ldc 184, 2) := by decide +kernel
theorem dX7_append_39 : decode cX7_append 39 = .ok (.invokespecial 149, 3) := by decide +kernel
theorem dX7_append_42 : decode cX7_append 42 = .ok (.athrow, 1) := by decide +kernel
theorem dX7_append_43 : decode cX7_append 43 = .ok (.aload_n 0, 1) := by decide +kernel
theorem dX7_append_44 : decode cX7_append 44 = .ok (.getfield 42, 3) := by decide +kernel
theorem dX7_append_47 : decode cX7_append 47 = .ok (.iload_n 1, 1) := by decide +kernel
theorem dX7_append_48 : decode cX7_append 48 = .ok (.invokevirtual 186, 3) := by decide +kernel
theorem dX7_append_51 : decode cX7_append 51 = .ok (.aload_n 0, 1) := by decide +kernel
theorem dX7_append_52 : decode cX7_append 52 = .ok (.getfield 42, 3) := by decide +kernel
theorem dX7_append_55 : decode cX7_append 55 = .ok (.getfield 181, 3) := by decide +kernel
theorem dX7_append_58 : decode cX7_append 58 = .ok (.ireturn, 1) := by decide +kernel
theorem dX7_clearBuffer_0 : decode cX7_clearBuffer 0 = .ok (.aload_n 0, 1) := by decide +kernel
theorem dX7_clearBuffer_1 : decode cX7_clearBuffer 1 = .ok (.getfield 42, 3) := by decide +kernel
theorem dX7_clearBuffer_4 : decode cX7_clearBuffer 4 = .ok (.getfield 181, 3) := by decide +kernel
theorem dX7_clearBuffer_7 : decode cX7_clearBuffer 7 = .ok (.istore_n 1, 1) := by decide +kernel
theorem dX7_clearBuffer_8 : decode cX7_clearBuffer 8 = .ok (.aload_n 0, 1) := by decide +kernel
theorem dX7_clearBuffer_9 : decode cX7_clearBuffer 9 = .ok (.getfield 42, 3) := by decide +kernel
theorem dX7_clearBuffer_12 : decode cX7_clearBuffer 12 = .ok (.invokevirtual 189, 3) := by decide +kernel
theorem dX7_clearBuffer_15 : decode cX7_clearBuffer 15 = .ok (.iload_n 1, 1) := by decide +kernel
theorem dX7_clearBuffer_16 : decode cX7_clearBuffer 16 = .ok (.ireturn, 1) := by decide +kernel
theorem dX7_firstError_0 : decode cX7_firstError 0 = .ok (.aload_n 0, 1) := by decide +kernel
theorem dX7_firstError_1 : decode cX7_firstError 1 = .ok (.getfield 42, 3) := by decide +kernel
theorem dX7_firstError_4 : decode cX7_firstError 4 = .ok (.invokevirtual 192, 3) := by decide +kernel
theorem dX7_firstError_7 : decode cX7_firstError 7 = .ok (.ireturn, 1) := by decide +kernel
theorem dX7_load_0 : decode cX7_load 0 = .ok (.aload_n 0, 1) := by decide +kernel
theorem dX7_load_1 : decode cX7_load 1 = .ok (.getfield 42, 3) := by decide +kernel
theorem dX7_load_4 : decode cX7_load 4 = .ok (.invokevirtual 195, 3) := by decide +kernel
theorem dX7_load_7 : decode cX7_load 7 = .ok (.ifCond .ne 13, 3) := by decide +kernel
theorem dX7_load_10 : decode cX7_load 10 = .ok (.new 67, 3) := by decide +kernel
theorem dX7_load_13 : decode cX7_load 13 = .ok (.dup, 1) := by decide +kernel
theorem dX7_load_14 : decode cX7_load 14 = .ok (.ldc 198, 2) := by decide +kernel
theorem dX7_load_16 : decode cX7_load 16 = .ok (.invokespecial 71, 3) := by decide +kernel
theorem dX7_load_19 : decode cX7_load 19 = .ok (.athrow, 1) := by decide +kernel
theorem dX7_load_20 : decode cX7_load 20 = .ok (.aload_n 0, 1) := by decide +kernel
theorem dX7_load_21 : decode cX7_load 21 = .ok (.getfield 49, 3) := by decide +kernel
theorem dX7_load_24 : decode cX7_load 24 = .ok (.aload_n 0, 1) := by decide +kernel
theorem dX7_load_25 : decode cX7_load 25 = .ok (.getfield 10, 3) := by decide +kernel
theorem dX7_load_28 : decode cX7_load 28 = .ok (.invokevirtual 74, 3) := by decide +kernel
theorem dX7_load_31 : decode cX7_load 31 = .ok (.aload_n 0, 1) := by decide +kernel
theorem dX7_load_32 : decode cX7_load 32 = .ok (.getfield 10, 3) := by decide +kernel
theorem dX7_load_35 : decode cX7_load 35 = .ok (.aload_n 0, 1) := by decide +kernel
theorem dX7_load_36 : decode cX7_load 36 = .ok (.getfield 42, 3) := by decide +kernel
theorem dX7_load_39 : decode cX7_load 39 = .ok (.invokevirtual 200, 3) := by decide +kernel
theorem dX7_load_42 : decode cX7_load 42 = .ok (.putfield 81, 3) := by decide +kernel
theorem dX7_load_45 : decode cX7_load 45 = .ok (.aload_n 0, 1) := by decide +kernel
theorem dX7_load_46 : decode cX7_load 46 = .ok (.getfield 10, 3) := by decide +kernel
theorem dX7_load_49 : decode cX7_load 49 = .ok (.aload_n 0, 1) := by decide +kernel
theorem dX7_load_50 : decode cX7_load 50 = .ok (.getfield 42, 3) := by decide +kernel
theorem dX7_load_53 : decode cX7_load 53 = .ok (.invokevirtual 203, 3) := by decide +kernel
theorem dX7_load_56 : decode cX7_load 56 = .ok (.putfield 85, 3) := by decide +kernel
theorem dX7_load_59 : decode cX7_load 59 = .ok (.iconst 0, 1) := by decide +kernel
theorem dX7_load_60 : decode cX7_load 60 = .ok (.istore_n 1, 1) := by decide +kernel
theorem dX7_load_61 : decode cX7_load 61 = .ok (.iload_n 1, 1) := by decide +kernel
theorem dX7_load_62 : decode cX7_load 62 = .ok (.aload_n 0, 1) := by decide +kernel
theorem dX7_load_63 : decode cX7_load 63 = .ok (.getfield 10, 3) := by decide +kernel
theorem dX7_load_66 : decode cX7_load 66 = .ok (.getfield 81, 3) := by decide +kernel
theorem dX7_load_69 : decode cX7_load 69 = .ok (.if_icmp .ge 46, 3) := by decide +kernel
theorem dX7_load_72 : decode cX7_load 72 = .ok (.iconst 0, 1) := by decide +kernel
theorem dX7_load_73 : decode cX7_load 73 = .ok (.istore_n 2, 1) := by decide +kernel
theorem dX7_load_74 : decode cX7_load 74 = .ok (.iload_n 2, 1) := by decide +kernel
theorem dX7_load_75 : decode cX7_load 75 = .ok (.aload_n 0, 1) := by decide +kernel
theorem dX7_load_76 : decode cX7_load 76 = .ok (.getfield 10, 3) := by decide +kernel
theorem dX7_load_79 : decode cX7_load 79 = .ok (.getfield 85, 3) := by decide +kernel
theorem dX7_load_82 : decode cX7_load 82 = .ok (.if_icmp .ge 27, 3) := by decide +kernel
theorem dX7_load_85 : decode cX7_load 85 = .ok (.aload_n 0, 1) := by decide +kernel
theorem dX7_load_86 : decode cX7_load 86 = .ok (.getfield 10, 3) := by decide +kernel
theorem dX7_load_89 : decode cX7_load 89 = .ok (.iload_n 1, 1) := by decide +kernel
theorem dX7_load_90 : decode cX7_load 90 = .ok (.iload_n 2, 1) := by decide +kernel
theorem dX7_load_91 : decode cX7_load 91 = .ok (.aload_n 0, 1) := by decide +kernel
theorem dX7_load_92 : decode cX7_load 92 = .ok (.getfield 42, 3) := by decide +kernel
theorem dX7_load_95 : decode cX7_load 95 = .ok (.iload_n 1, 1) := by decide +kernel
theorem dX7_load_96 : decode cX7_load 96 = .ok (.iload_n 2, 1) := by decide +kernel
theorem dX7_load_97 : decode cX7_load 97 = .ok (.invokevirtual 206, 3) := by decide +kernel
theorem dX7_load_100 : decode cX7_load 100 = .ok (.invokevirtual 103, 3) := by decide +kernel
theorem dX7_load_103 : decode cX7_load 103 = .ok (.iinc 2 1, 3) := by decide +kernel
theorem dX7_load_106 : decode cX7_load 106 = .ok (.goto (-32), 3) := by decide +kernel
theorem dX7_load_109 : decode cX7_load 109 = .ok (.iinc 1 1, 3) := by decide +kernel
theorem dX7_load_112 : decode cX7_load 112 = .ok (.goto (-51), 3) := by decide +kernel
theorem dX7_load_115 : decode cX7_load 115 = .ok (.aload_n 0, 1) := by decide +kernel
theorem dX7_load_116 : decode cX7_load 116 = .ok (.getfield 42, 3) := by decide +kernel
theorem dX7_load_119 : decode cX7_load 119 = .ok (.invokevirtual 189, 3) := by decide +kernel
theorem dX7_load_122 : decode cX7_load 122 = .ok (.aload_n 0, 1) := by decide +kernel
theorem dX7_load_123 : decode cX7_load 123 = .ok (.getfield 10, 3) := by decide +kernel
theorem dX7_load_126 : decode cX7_load 126 = .ok (.invokevirtual 77, 3) := by decide +kernel
theorem dX7_load_129 : decode cX7_load 129 = .ok (.ireturn, 1) := by decide +kernel
theorem dX7_keep_0 : decode cX7_keep 0 = .ok (.iload_n 1, 1) := by decide +kernel
theorem dX7_keep_1 : decode cX7_keep 1 = .ok (.iconst 0, 1) := by decide +kernel
theorem dX7_keep_2 : decode cX7_keep 2 = .ok (.iconst 1, 1) := by decide +kernel
theorem dX7_keep_3 : decode cX7_keep 3 = .ok (.invokestatic 63, 3) := by decide +kernel
theorem dX7_keep_6 : decode cX7_keep 6 = .ok (.ifCond .ne 13, 3) := by decide +kernel
theorem dX7_keep_9 : decode cX7_keep 9 = .ok (.new 67, 3) := by decide +kernel
theorem dX7_keep_12 : decode cX7_keep 12 = .ok (.dup, 1) := by decide +kernel
theorem dX7_keep_13 : decode cX7_keep 13 = .ok (.ldc 209, 2) := by decide +kernel
theorem dX7_keep_15 : decode cX7_keep 15 = .ok (.invokespecial 71, 3) := by decide +kernel
theorem dX7_keep_18 : decode cX7_keep 18 = .ok (.athrow, 1) := by decide +kernel
theorem dX7_keep_19 : decode cX7_keep 19 = .ok (.aload_n 0, 1) := by decide +kernel
theorem dX7_keep_20 : decode cX7_keep 20 = .ok (.iload_n 1, 1) := by decide +kernel
theorem dX7_keep_21 : decode cX7_keep 21 = .ok (.invokevirtual 211, 3) := by decide +kernel
theorem dX7_keep_24 : decode cX7_keep 24 = .ok (.aload_n 0, 1) := by decide +kernel
theorem dX7_keep_25 : decode cX7_keep 25 = .ok (.getfield 10, 3) := by decide +kernel
theorem dX7_keep_28 : decode cX7_keep 28 = .ok (.invokevirtual 215, 3) := by decide +kernel
theorem dX7_keep_31 : decode cX7_keep 31 = .ok (.aload_n 0, 1) := by decide +kernel
theorem dX7_keep_32 : decode cX7_keep 32 = .ok (.getfield 10, 3) := by decide +kernel
theorem dX7_keep_35 : decode cX7_keep 35 = .ok (.getfield 81, 3) := by decide +kernel
theorem dX7_keep_38 : decode cX7_keep 38 = .ok (.ireturn, 1) := by decide +kernel
theorem dX7_goBack_0 : decode cX7_goBack 0 = .ok (.iload_n 1, 1) := by decide +kernel
theorem dX7_goBack_1 : decode cX7_goBack 1 = .ok (.iconst 0, 1) := by decide +kernel
theorem dX7_goBack_2 : decode cX7_goBack 2 = .ok (.iconst 1, 1) := by decide +kernel
theorem dX7_goBack_3 : decode cX7_goBack 3 = .ok (.invokestatic 63, 3) := by decide +kernel
theorem dX7_goBack_6 : decode cX7_goBack 6 = .ok (.ifCond .ne 13, 3) := by decide +kernel
theorem dX7_goBack_9 : decode cX7_goBack 9 = .ok (.new 67, 3) := by decide +kernel
theorem dX7_goBack_12 : decode cX7_goBack 12 = .ok (.dup, 1) := by decide +kernel
theorem dX7_goBack_13 : decode cX7_goBack 13 = .ok (.ldc 209, 2) := by decide +kernel
theorem dX7_goBack_15 : decode cX7_goBack 15 = .ok (.invokespecial 71, 3) := by decide +kernel
theorem dX7_goBack_18 : decode cX7_goBack 18 = .ok (.athrow, 1) := by decide +kernel
theorem dX7_goBack_19 : decode cX7_goBack 19 = .ok (.aload_n 0, 1) := by decide +kernel
theorem dX7_goBack_20 : decode cX7_goBack 20 = .ok (.iload_n 1, 1) := by decide +kernel
theorem dX7_goBack_21 : decode cX7_goBack 21 = .ok (.invokevirtual 211, 3) := by decide +kernel
theorem dX7_goBack_24 : decode cX7_goBack 24 = .ok (.astore_n 2, 1) := by decide +kernel
theorem dX7_goBack_25 : decode cX7_goBack 25 = .ok (.aload_n 2, 1) := by decide +kernel
theorem dX7_goBack_26 : decode cX7_goBack 26 = .ok (.getfield 218, 3) := by decide +kernel
theorem dX7_goBack_29 : decode cX7_goBack 29 = .ok (.ifCond .ne 13, 3) := by decide +kernel
theorem dX7_goBack_32 : decode cX7_goBack 32 = .ok (.new 145, 3) := by decide +kernel
theorem dX7_goBack_35 : decode cX7_goBack 35 = .ok (.dup, 1) := by decide +kernel
theorem dX7_goBack_36 : decode cX7_goBack 36 = .ok (.ldc 222, 2) := by decide +kernel
theorem dX7_goBack_38 : decode cX7_goBack 38 = .ok (.invokespecial 149, 3) := by decide +kernel
theorem dX7_goBack_41 : decode cX7_goBack 41 = .ok (.athrow, 1) := by decide +kernel
theorem dX7_goBack_42 : decode cX7_goBack 42 = .ok (.aload_n 0, 1) := by decide +kernel
theorem dX7_goBack_43 : decode cX7_goBack 43 = .ok (.getfield 49, 3) := by decide +kernel
theorem dX7_goBack_46 : decode cX7_goBack 46 = .ok (.aload_n 0, 1) := by decide +kernel
theorem dX7_goBack_47 : decode cX7_goBack 47 = .ok (.getfield 10, 3) := by decide +kernel
theorem dX7_goBack_50 : decode cX7_goBack 50 = .ok (.invokevirtual 74, 3) := by decide +kernel
theorem dX7_goBack_53 : decode cX7_goBack 53 = .ok (.aload_n 0, 1) := by decide +kernel
theorem dX7_goBack_54 : decode cX7_goBack 54 = .ok (.getfield 10, 3) := by decide +kernel
theorem dX7_goBack_57 : decode cX7_goBack 57 = .ok (.aload_n 2, 1) := by decide +kernel
theorem dX7_goBack_58 : decode cX7_goBack 58 = .ok (.getfield 224, 3) := by decide +kernel
theorem dX7_goBack_61 : decode cX7_goBack 61 = .ok (.invokevirtual 227, 3) := by decide +kernel
theorem dX7_goBack_64 : decode cX7_goBack 64 = .ok (.aload_n 0, 1) := by decide +kernel
theorem dX7_goBack_65 : decode cX7_goBack 65 = .ok (.getfield 10, 3) := by decide +kernel
theorem dX7_goBack_68 : decode cX7_goBack 68 = .ok (.getfield 81, 3) := by decide +kernel
theorem dX7_goBack_71 : decode cX7_goBack 71 = .ok (.ireturn, 1) := by decide +kernel
theorem dX7_undo_0 : decode cX7_undo 0 = .ok (.aload_n 0, 1) := by decide +kernel
theorem dX7_undo_1 : decode cX7_undo 1 = .ok (.getfield 49, 3) := by decide +kernel
theorem dX7_undo_4 : decode cX7_undo 4 = .ok (.getfield 230, 3) := by decide +kernel
theorem dX7_undo_7 : decode cX7_undo 7 = .ok (.ifCond .ne 13, 3) := by decide +kernel
theorem dX7_undo_10 : decode cX7_undo 10 = .ok (.new 145, 3) := by decide +kernel
theorem dX7_undo_13 : decode cX7_undo 13 = .ok (.dup, 1) := by decide +kernel
theorem dX7_undo_14 : decode cX7_undo 14 = .ok (.ldc 233, 2) := by decide +kernel
theorem dX7_undo_16 : decode cX7_undo 16 = .ok (.invokespecial 149, 3) := by decide +kernel
theorem dX7_undo_19 : decode cX7_undo 19 = .ok (.athrow, 1) := by decide +kernel
theorem dX7_undo_20 : decode cX7_undo 20 = .ok (.aload_n 0, 1) := by decide +kernel
theorem dX7_undo_21 : decode cX7_undo 21 = .ok (.getfield 10, 3) := by decide +kernel
theorem dX7_undo_24 : decode cX7_undo 24 = .ok (.aload_n 0, 1) := by decide +kernel
theorem dX7_undo_25 : decode cX7_undo 25 = .ok (.getfield 49, 3) := by decide +kernel
theorem dX7_undo_28 : decode cX7_undo 28 = .ok (.invokevirtual 235, 3) := by decide +kernel
theorem dX7_undo_31 : decode cX7_undo 31 = .ok (.invokevirtual 227, 3) := by decide +kernel
theorem dX7_undo_34 : decode cX7_undo 34 = .ok (.aload_n 0, 1) := by decide +kernel
theorem dX7_undo_35 : decode cX7_undo 35 = .ok (.getfield 49, 3) := by decide +kernel
theorem dX7_undo_38 : decode cX7_undo 38 = .ok (.dup, 1) := by decide +kernel
theorem dX7_undo_39 : decode cX7_undo 39 = .ok (.getfield 230, 3) := by decide +kernel
theorem dX7_undo_42 : decode cX7_undo 42 = .ok (.iconst 1, 1) := by decide +kernel
theorem dX7_undo_43 : decode cX7_undo 43 = .ok (.isub, 1) := by decide +kernel
theorem dX7_undo_44 : decode cX7_undo 44 = .ok (.putfield 230, 3) := by decide +kernel
theorem dX7_undo_47 : decode cX7_undo 47 = .ok (.aload_n 0, 1) := by decide +kernel
theorem dX7_undo_48 : decode cX7_undo 48 = .ok (.getfield 49, 3) := by decide +kernel
theorem dX7_undo_51 : decode cX7_undo 51 = .ok (.getfield 230, 3) := by decide +kernel
theorem dX7_undo_54 : decode cX7_undo 54 = .ok (.ireturn, 1) := by decide +kernel
theorem dX7_cell_0 : decode cX7_cell 0 = .ok (.aload_n 0, 1) := by decide +kernel
theorem dX7_cell_1 : decode cX7_cell 1 = .ok (.getfield 10, 3) := by decide +kernel
theorem dX7_cell_4 : decode cX7_cell 4 = .ok (.iload_n 1, 1) := by decide +kernel
theorem dX7_cell_5 : decode cX7_cell 5 = .ok (.iload_n 2, 1) := by decide +kernel
theorem dX7_cell_6 : decode cX7_cell 6 = .ok (.invokevirtual 88, 3) := by decide +kernel
theorem dX7_cell_9 : decode cX7_cell 9 = .ok (.ifCond .ne 13, 3) := by decide +kernel
theorem dX7_cell_12 : decode cX7_cell 12 = .ok (.new 92, 3) := by decide +kernel
theorem dX7_cell_15 : decode cX7_cell 15 = .ok (.dup, 1) := by decide +kernel
theorem dX7_cell_16 : decode cX7_cell 16 = .ok (.ldc 94, 2) := by decide +kernel
theorem dX7_cell_18 : decode cX7_cell 18 = .ok (.invokespecial 96, 3) := by decide +kernel
theorem dX7_cell_21 : decode cX7_cell 21 = .ok (.athrow, 1) := by decide +kernel
theorem dX7_cell_22 : decode cX7_cell 22 = .ok (.aload_n 0, 1) := by decide +kernel
theorem dX7_cell_23 : decode cX7_cell 23 = .ok (.getfield 10, 3) := by decide +kernel
theorem dX7_cell_26 : decode cX7_cell 26 = .ok (.iload_n 1, 1) := by decide +kernel
theorem dX7_cell_27 : decode cX7_cell 27 = .ok (.iload_n 2, 1) := by decide +kernel
theorem dX7_cell_28 : decode cX7_cell 28 = .ok (.invokevirtual 99, 3) := by decide +kernel
theorem dX7_cell_31 : decode cX7_cell 31 = .ok (.ireturn, 1) := by decide +kernel
theorem dX7_place_0 : decode cX7_place 0 = .ok (.iload_n 1, 1) := by decide +kernel
theorem dX7_place_1 : decode cX7_place 1 = .ok (.iconst 0, 1) := by decide +kernel
theorem dX7_place_2 : decode cX7_place 2 = .ok (.aload_n 0, 1) := by decide +kernel
theorem dX7_place_3 : decode cX7_place 3 = .ok (.getfield 10, 3) := by decide +kernel
theorem dX7_place_6 : decode cX7_place 6 = .ok (.getfield 81, 3) := by decide +kernel
theorem dX7_place_9 : decode cX7_place 9 = .ok (.iconst 1, 1) := by decide +kernel
theorem dX7_place_10 : decode cX7_place 10 = .ok (.isub, 1) := by decide +kernel
theorem dX7_place_11 : decode cX7_place 11 = .ok (.invokestatic 63, 3) := by decide +kernel
theorem dX7_place_14 : decode cX7_place 14 = .ok (.ifCond .ne 13, 3) := by decide +kernel
theorem dX7_place_17 : decode cX7_place 17 = .ok (.new 92, 3) := by decide +kernel
theorem dX7_place_20 : decode cX7_place 20 = .ok (.dup, 1) := by decide +kernel
theorem dX7_place_21 : decode cX7_place 21 = .ok (.ldc 239, 2) := by decide +kernel
theorem dX7_place_23 : decode cX7_place 23 = .ok (.invokespecial 96, 3) := by decide +kernel
theorem dX7_place_26 : decode cX7_place 26 = .ok (.athrow, 1) := by decide +kernel
theorem dX7_place_27 : decode cX7_place 27 = .ok (.iload_n 2, 1) := by decide +kernel
theorem dX7_place_28 : decode cX7_place 28 = .ok (.invokestatic 136, 3) := by decide +kernel
theorem dX7_place_31 : decode cX7_place 31 = .ok (.ifCond .ne 13, 3) := by decide +kernel
theorem dX7_place_34 : decode cX7_place 34 = .ok (.new 67, 3) := by decide +kernel
theorem dX7_place_37 : decode cX7_place 37 = .ok (.dup, 1) := by decide +kernel
theorem dX7_place_38 : decode cX7_place 38 = .ok (.ldc 140, 2) := by decide +kernel
theorem dX7_place_40 : decode cX7_place 40 = .ok (.invokespecial 71, 3) := by decide +kernel
theorem dX7_place_43 : decode cX7_place 43 = .ok (.athrow, 1) := by decide +kernel
theorem dX7_place_44 : decode cX7_place 44 = .ok (.aload_n 0, 1) := by decide +kernel
theorem dX7_place_45 : decode cX7_place 45 = .ok (.iload_n 2, 1) := by decide +kernel
theorem dX7_place_46 : decode cX7_place 46 = .ok (.invokevirtual 142, 3) := by decide +kernel
theorem dX7_place_49 : decode cX7_place 49 = .ok (.ifCond .ne 5, 3) := by decide +kernel
theorem dX7_place_52 : decode cX7_place 52 = .ok (.iconst (-1), 1) := by decide +kernel
theorem dX7_place_53 : decode cX7_place 53 = .ok (.ireturn, 1) := by decide +kernel
theorem dX7_place_54 : decode cX7_place 54 = .ok (.aload_n 0, 1) := by decide +kernel
theorem dX7_place_55 : decode cX7_place 55 = .ok (.getfield 28, 3) := by decide +kernel
theorem dX7_place_58 : decode cX7_place 58 = .ok (.iload_n 2, 1) := by decide +kernel
theorem dX7_place_59 : decode cX7_place 59 = .ok (.invokevirtual 150, 3) := by decide +kernel
theorem dX7_place_62 : decode cX7_place 62 = .ok (.aload_n 0, 1) := by decide +kernel
theorem dX7_place_63 : decode cX7_place 63 = .ok (.getfield 28, 3) := by decide +kernel
theorem dX7_place_66 : decode cX7_place 66 = .ok (.iload_n 2, 1) := by decide +kernel
theorem dX7_place_67 : decode cX7_place 67 = .ok (.iload_n 1, 1) := by decide +kernel
theorem dX7_place_68 : decode cX7_place 68 = .ok (.invokevirtual 241, 3) := by decide +kernel
theorem dX7_place_71 : decode cX7_place 71 = .ok (.ireturn, 1) := by decide +kernel
theorem dX7_looks_0 : decode cX7_looks 0 = .ok (.iload_n 1, 1) := by decide +kernel
theorem dX7_looks_1 : decode cX7_looks 1 = .ok (.invokestatic 136, 3) := by decide +kernel
theorem dX7_looks_4 : decode cX7_looks 4 = .ok (.ifCond .ne 13, 3) := by decide +kernel
theorem dX7_looks_7 : decode cX7_looks 7 = .ok (.new 67, 3) := by decide +kernel
theorem dX7_looks_10 : decode cX7_looks 10 = .ok (.dup, 1) := by decide +kernel
theorem dX7_looks_11 : decode cX7_looks 11 = .ok (.ldc 140, 2) := by decide +kernel
theorem dX7_looks_13 : decode cX7_looks 13 = .ok (.invokespecial 71, 3) := by decide +kernel
theorem dX7_looks_16 : decode cX7_looks 16 = .ok (.athrow, 1) := by decide +kernel
theorem dX7_looks_17 : decode cX7_looks 17 = .ok (.aload_n 0, 1) := by decide +kernel
theorem dX7_looks_18 : decode cX7_looks 18 = .ok (.iload_n 1, 1) := by decide +kernel
theorem dX7_looks_19 : decode cX7_looks 19 = .ok (.invokevirtual 142, 3) := by decide +kernel
theorem dX7_looks_22 : decode cX7_looks 22 = .ok (.ifCond .ne 5, 3) := by decide +kernel
theorem dX7_looks_25 : decode cX7_looks 25 = .ok (.iconst (-1), 1) := by decide +kernel
theorem dX7_looks_26 : decode cX7_looks 26 = .ok (.ireturn, 1) := by decide +kernel
theorem dX7_looks_27 : decode cX7_looks 27 = .ok (.aload_n 0, 1) := by decide +kernel
theorem dX7_looks_28 : decode cX7_looks 28 = .ok (.getfield 28, 3) := by decide +kernel
theorem dX7_looks_31 : decode cX7_looks 31 = .ok (.iload_n 1, 1) := by decide +kernel
theorem dX7_looks_32 : decode cX7_looks 32 = .ok (.invokevirtual 150, 3) := by decide +kernel
theorem dX7_looks_35 : decode cX7_looks 35 = .ok (.aload_n 0, 1) := by decide +kernel
theorem dX7_looks_36 : decode cX7_looks 36 = .ok (.getfield 28, 3) := by decide +kernel
theorem dX7_looks_39 : decode cX7_looks 39 = .ok (.iload_n 1, 1) := by decide +kernel
theorem dX7_looks_40 : decode cX7_looks 40 = .ok (.invokevirtual 154, 3) := by decide +kernel
theorem dX7_looks_43 : decode cX7_looks 43 = .ok (.ireturn, 1) := by decide +kernel
theorem dX7_bound_0 : decode cX7_bound 0 = .ok (.iconst 0, 1) := by decide +kernel
theorem dX7_bound_1 : decode cX7_bound 1 = .ok (.istore_n 1, 1) := by decide +kernel
theorem dX7_bound_2 : decode cX7_bound 2 = .ok (.aload_n 0, 1) := by decide +kernel
theorem dX7_bound_3 : decode cX7_bound 3 = .ok (.getfield 10, 3) := by decide +kernel
theorem dX7_bound_6 : decode cX7_bound 6 = .ok (.getfield 81, 3) := by decide +kernel
theorem dX7_bound_9 : decode cX7_bound 9 = .ok (.istore_n 2, 1) := by decide +kernel
theorem dX7_bound_10 : decode cX7_bound 10 = .ok (.iload_n 2, 1) := by decide +kernel
theorem dX7_bound_11 : decode cX7_bound 11 = .ok (.ifCond .le 13, 3) := by decide +kernel
theorem dX7_bound_14 : decode cX7_bound 14 = .ok (.iinc 1 1, 3) := by decide +kernel
theorem dX7_bound_17 : decode cX7_bound 17 = .ok (.iload_n 2, 1) := by decide +kernel
theorem dX7_bound_18 : decode cX7_bound 18 = .ok (.iconst 2, 1) := by decide +kernel
theorem dX7_bound_19 : decode cX7_bound 19 = .ok (.idiv, 1) := by decide +kernel
theorem dX7_bound_20 : decode cX7_bound 20 = .ok (.istore_n 2, 1) := by decide +kernel
theorem dX7_bound_21 : decode cX7_bound 21 = .ok (.goto (-11), 3) := by decide +kernel
theorem dX7_bound_24 : decode cX7_bound 24 = .ok (.aload_n 0, 1) := by decide +kernel
theorem dX7_bound_25 : decode cX7_bound 25 = .ok (.getfield 10, 3) := by decide +kernel
theorem dX7_bound_28 : decode cX7_bound 28 = .ok (.getfield 81, 3) := by decide +kernel
theorem dX7_bound_31 : decode cX7_bound 31 = .ok (.aload_n 0, 1) := by decide +kernel
theorem dX7_bound_32 : decode cX7_bound 32 = .ok (.getfield 10, 3) := by decide +kernel
theorem dX7_bound_35 : decode cX7_bound 35 = .ok (.getfield 85, 3) := by decide +kernel
theorem dX7_bound_38 : decode cX7_bound 38 = .ok (.iadd, 1) := by decide +kernel
theorem dX7_bound_39 : decode cX7_bound 39 = .ok (.iload_n 1, 1) := by decide +kernel
theorem dX7_bound_40 : decode cX7_bound 40 = .ok (.imul, 1) := by decide +kernel
theorem dX7_bound_41 : decode cX7_bound 41 = .ok (.ireturn, 1) := by decide +kernel
theorem dX7_witness_0 : decode cX7_witness 0 = .ok (.iload_n 1, 1) := by decide +kernel
theorem dX7_witness_1 : decode cX7_witness 1 = .ok (.iconst 0, 1) := by decide +kernel
theorem dX7_witness_2 : decode cX7_witness 2 = .ok (.iconst 3, 1) := by decide +kernel
theorem dX7_witness_3 : decode cX7_witness 3 = .ok (.invokestatic 63, 3) := by decide +kernel
theorem dX7_witness_6 : decode cX7_witness 6 = .ok (.ifCond .ne 13, 3) := by decide +kernel
theorem dX7_witness_9 : decode cX7_witness 9 = .ok (.new 67, 3) := by decide +kernel
theorem dX7_witness_12 : decode cX7_witness 12 = .ok (.dup, 1) := by decide +kernel
theorem dX7_witness_13 : decode cX7_witness 13 = .ok (.ldc 244, 2) := by decide +kernel
theorem dX7_witness_15 : decode cX7_witness 15 = .ok (.invokespecial 71, 3) := by decide +kernel
theorem dX7_witness_18 : decode cX7_witness 18 = .ok (.athrow, 1) := by decide +kernel
theorem dX7_witness_19 : decode cX7_witness 19 = .ok (.aload_n 0, 1) := by decide +kernel
theorem dX7_witness_20 : decode cX7_witness 20 = .ok (.getfield 21, 3) := by decide +kernel
theorem dX7_witness_23 : decode cX7_witness 23 = .ok (.invokevirtual 118, 3) := by decide +kernel
theorem dX7_witness_26 : decode cX7_witness 26 = .ok (.aload_n 0, 1) := by decide +kernel
theorem dX7_witness_27 : decode cX7_witness 27 = .ok (.getfield 21, 3) := by decide +kernel
theorem dX7_witness_30 : decode cX7_witness 30 = .ok (.iload_n 1, 1) := by decide +kernel
theorem dX7_witness_31 : decode cX7_witness 31 = .ok (.invokevirtual 246, 3) := by decide +kernel
theorem dX7_witness_34 : decode cX7_witness 34 = .ok (.ireturn, 1) := by decide +kernel
theorem dX7_count_0 : decode cX7_count 0 = .ok (.iload_n 1, 1) := by decide +kernel
theorem dX7_count_1 : decode cX7_count 1 = .ok (.iconst 0, 1) := by decide +kernel
theorem dX7_count_2 : decode cX7_count 2 = .ok (.bipush 8, 2) := by decide +kernel
theorem dX7_count_4 : decode cX7_count 4 = .ok (.invokestatic 63, 3) := by decide +kernel
theorem dX7_count_7 : decode cX7_count 7 = .ok (.ifCond .ne 13, 3) := by decide +kernel
theorem dX7_count_10 : decode cX7_count 10 = .ok (.new 67, 3) := by decide +kernel
theorem dX7_count_13 : decode cX7_count 13 = .ok (.dup, 1) := by decide +kernel
theorem dX7_count_14 : decode cX7_count 14 = .ok (.ldc 249, 2) := by decide +kernel
theorem dX7_count_16 : decode cX7_count 16 = .ok (.invokespecial 71, 3) := by decide +kernel
theorem dX7_count_19 : decode cX7_count 19 = .ok (.athrow, 1) := by decide +kernel
theorem dX7_count_20 : decode cX7_count 20 = .ok (.aload_n 0, 1) := by decide +kernel
theorem dX7_count_21 : decode cX7_count 21 = .ok (.iload_n 1, 1) := by decide +kernel
theorem dX7_count_22 : decode cX7_count 22 = .ok (.invokevirtual 251, 3) := by decide +kernel
theorem dX7_count_25 : decode cX7_count 25 = .ok (.ireturn, 1) := by decide +kernel
theorem dX7_weight_0 : decode cX7_weight 0 = .ok (.iload_n 1, 1) := by decide +kernel
theorem dX7_weight_1 : decode cX7_weight 1 = .ok (.iconst 0, 1) := by decide +kernel
theorem dX7_weight_2 : decode cX7_weight 2 = .ok (.aload_n 0, 1) := by decide +kernel
theorem dX7_weight_3 : decode cX7_weight 3 = .ok (.getfield 10, 3) := by decide +kernel
theorem dX7_weight_6 : decode cX7_weight 6 = .ok (.getfield 166, 3) := by decide +kernel
theorem dX7_weight_9 : decode cX7_weight 9 = .ok (.iconst 1, 1) := by decide +kernel
theorem dX7_weight_10 : decode cX7_weight 10 = .ok (.isub, 1) := by decide +kernel
theorem dX7_weight_11 : decode cX7_weight 11 = .ok (.invokestatic 63, 3) := by decide +kernel
theorem dX7_weight_14 : decode cX7_weight 14 = .ok (.ifCond .ne 13, 3) := by decide +kernel
theorem dX7_weight_17 : decode cX7_weight 17 = .ok (.new 92, 3) := by decide +kernel
theorem dX7_weight_20 : decode cX7_weight 20 = .ok (.dup, 1) := by decide +kernel
theorem dX7_weight_21 : decode cX7_weight 21 = .ok (.ldc 254, 2) := by decide +kernel
theorem dX7_weight_23 : decode cX7_weight 23 = .ok (.invokespecial 96, 3) := by decide +kernel
theorem dX7_weight_26 : decode cX7_weight 26 = .ok (.athrow, 1) := by decide +kernel
theorem dX7_weight_27 : decode cX7_weight 27 = .ok (.aload_n 0, 1) := by decide +kernel
theorem dX7_weight_28 : decode cX7_weight 28 = .ok (.getfield 10, 3) := by decide +kernel
theorem dX7_weight_31 : decode cX7_weight 31 = .ok (.iload_n 1, 1) := by decide +kernel
theorem dX7_weight_32 : decode cX7_weight 32 = .ok (.invokevirtual 176, 3) := by decide +kernel
theorem dX7_weight_35 : decode cX7_weight 35 = .ok (.ireturn, 1) := by decide +kernel
theorem dX7_cost_0 : decode cX7_cost 0 = .ok (.iload_n 1, 1) := by decide +kernel
theorem dX7_cost_1 : decode cX7_cost 1 = .ok (.iconst 1, 1) := by decide +kernel
theorem dX7_cost_2 : decode cX7_cost 2 = .ok (.aload_n 0, 1) := by decide +kernel
theorem dX7_cost_3 : decode cX7_cost 3 = .ok (.getfield 10, 3) := by decide +kernel
theorem dX7_cost_6 : decode cX7_cost 6 = .ok (.getfield 166, 3) := by decide +kernel
theorem dX7_cost_9 : decode cX7_cost 9 = .ok (.invokestatic 63, 3) := by decide +kernel
theorem dX7_cost_12 : decode cX7_cost 12 = .ok (.ifCond .eq 12, 3) := by decide +kernel
theorem dX7_cost_15 : decode cX7_cost 15 = .ok (.iload_n 2, 1) := by decide +kernel
theorem dX7_cost_16 : decode cX7_cost 16 = .ok (.iconst 0, 1) := by decide +kernel
theorem dX7_cost_17 : decode cX7_cost 17 = .ok (.iconst 1, 1) := by decide +kernel
theorem dX7_cost_18 : decode cX7_cost 18 = .ok (.invokestatic 63, 3) := by decide +kernel
theorem dX7_cost_21 : decode cX7_cost 21 = .ok (.ifCond .ne 14, 3) := by decide +kernel
theorem dX7_cost_24 : decode cX7_cost 24 = .ok (.new 67, 3) := by decide +kernel
theorem dX7_cost_27 : decode cX7_cost 27 = .ok (.dup, 1) := by decide +kernel
theorem dX7_cost_28 : decode cX7_cost 28 = .ok (.ldc_w 256, 3) := by decide +kernel
theorem dX7_cost_31 : decode cX7_cost 31 = .ok (.invokespecial 71, 3) := by decide +kernel
theorem dX7_cost_34 : decode cX7_cost 34 = .ok (.athrow, 1) := by decide +kernel
theorem dX7_cost_35 : decode cX7_cost 35 = .ok (.iload_n 2, 1) := by decide +kernel
theorem dX7_cost_36 : decode cX7_cost 36 = .ok (.ifCond .ne 19, 3) := by decide +kernel
theorem dX7_cost_39 : decode cX7_cost 39 = .ok (.aload_n 0, 1) := by decide +kernel
theorem dX7_cost_40 : decode cX7_cost 40 = .ok (.getfield 35, 3) := by decide +kernel
theorem dX7_cost_43 : decode cX7_cost 43 = .ok (.invokevirtual 258, 3) := by decide +kernel
theorem dX7_cost_46 : decode cX7_cost 46 = .ok (.aload_n 0, 1) := by decide +kernel
theorem dX7_cost_47 : decode cX7_cost 47 = .ok (.getfield 35, 3) := by decide +kernel
theorem dX7_cost_50 : decode cX7_cost 50 = .ok (.iload_n 1, 1) := by decide +kernel
theorem dX7_cost_51 : decode cX7_cost 51 = .ok (.invokevirtual 261, 3) := by decide +kernel
theorem dX7_cost_54 : decode cX7_cost 54 = .ok (.ireturn, 1) := by decide +kernel
theorem dX7_cost_55 : decode cX7_cost 55 = .ok (.aload_n 0, 1) := by decide +kernel
theorem dX7_cost_56 : decode cX7_cost 56 = .ok (.getfield 35, 3) := by decide +kernel
theorem dX7_cost_59 : decode cX7_cost 59 = .ok (.invokevirtual 264, 3) := by decide +kernel
theorem dX7_cost_62 : decode cX7_cost 62 = .ok (.aload_n 0, 1) := by decide +kernel
theorem dX7_cost_63 : decode cX7_cost 63 = .ok (.getfield 35, 3) := by decide +kernel
theorem dX7_cost_66 : decode cX7_cost 66 = .ok (.iload_n 1, 1) := by decide +kernel
theorem dX7_cost_67 : decode cX7_cost 67 = .ok (.invokevirtual 267, 3) := by decide +kernel
theorem dX7_cost_70 : decode cX7_cost 70 = .ok (.ireturn, 1) := by decide +kernel
theorem dX7_cut_0 : decode cX7_cut 0 = .ok (.iload_n 1, 1) := by decide +kernel
theorem dX7_cut_1 : decode cX7_cut 1 = .ok (.iconst 1, 1) := by decide +kernel
theorem dX7_cut_2 : decode cX7_cut 2 = .ok (.aload_n 0, 1) := by decide +kernel
theorem dX7_cut_3 : decode cX7_cut 3 = .ok (.getfield 10, 3) := by decide +kernel
theorem dX7_cut_6 : decode cX7_cut 6 = .ok (.getfield 166, 3) := by decide +kernel
theorem dX7_cut_9 : decode cX7_cut 9 = .ok (.invokestatic 63, 3) := by decide +kernel
theorem dX7_cut_12 : decode cX7_cut 12 = .ok (.ifCond .eq 7, 3) := by decide +kernel
theorem dX7_cut_15 : decode cX7_cut 15 = .ok (.iload_n 2, 1) := by decide +kernel
theorem dX7_cut_16 : decode cX7_cut 16 = .ok (.ifCond .ge 14, 3) := by decide +kernel
theorem dX7_cut_19 : decode cX7_cut 19 = .ok (.new 67, 3) := by decide +kernel
theorem dX7_cut_22 : decode cX7_cut 22 = .ok (.dup, 1) := by decide +kernel
theorem dX7_cut_23 : decode cX7_cut 23 = .ok (.ldc_w 270, 3) := by decide +kernel
theorem dX7_cut_26 : decode cX7_cut 26 = .ok (.invokespecial 71, 3) := by decide +kernel
theorem dX7_cut_29 : decode cX7_cut 29 = .ok (.athrow, 1) := by decide +kernel
theorem dX7_cut_30 : decode cX7_cut 30 = .ok (.iload_n 2, 1) := by decide +kernel
theorem dX7_cut_31 : decode cX7_cut 31 = .ok (.iload_n 1, 1) := by decide +kernel
theorem dX7_cut_32 : decode cX7_cut 32 = .ok (.iconst 1, 1) := by decide +kernel
theorem dX7_cut_33 : decode cX7_cut 33 = .ok (.isub, 1) := by decide +kernel
theorem dX7_cut_34 : decode cX7_cut 34 = .ok (.if_icmp .lt 5, 3) := by decide +kernel
theorem dX7_cut_37 : decode cX7_cut 37 = .ok (.iconst (-1), 1) := by decide +kernel
theorem dX7_cut_38 : decode cX7_cut 38 = .ok (.ireturn, 1) := by decide +kernel
theorem dX7_cut_39 : decode cX7_cut 39 = .ok (.aload_n 0, 1) := by decide +kernel
theorem dX7_cut_40 : decode cX7_cut 40 = .ok (.getfield 35, 3) := by decide +kernel
theorem dX7_cut_43 : decode cX7_cut 43 = .ok (.invokevirtual 258, 3) := by decide +kernel
theorem dX7_cut_46 : decode cX7_cut 46 = .ok (.aload_n 0, 1) := by decide +kernel
theorem dX7_cut_47 : decode cX7_cut 47 = .ok (.getfield 35, 3) := by decide +kernel
theorem dX7_cut_50 : decode cX7_cut 50 = .ok (.iload_n 1, 1) := by decide +kernel
theorem dX7_cut_51 : decode cX7_cut 51 = .ok (.iload_n 2, 1) := by decide +kernel
theorem dX7_cut_52 : decode cX7_cut 52 = .ok (.invokevirtual 272, 3) := by decide +kernel
theorem dX7_cut_55 : decode cX7_cut 55 = .ok (.ireturn, 1) := by decide +kernel
theorem dX7_fewestParts_0 : decode cX7_fewestParts 0 = .ok (.iload_n 1, 1) := by decide +kernel
theorem dX7_fewestParts_1 : decode cX7_fewestParts 1 = .ok (.iconst 1, 1) := by decide +kernel
theorem dX7_fewestParts_2 : decode cX7_fewestParts 2 = .ok (.ldc_w 275, 3) := by decide +kernel
theorem dX7_fewestParts_5 : decode cX7_fewestParts 5 = .ok (.invokestatic 63, 3) := by decide +kernel
theorem dX7_fewestParts_8 : decode cX7_fewestParts 8 = .ok (.ifCond .ne 14, 3) := by decide +kernel
theorem dX7_fewestParts_11 : decode cX7_fewestParts 11 = .ok (.new 67, 3) := by decide +kernel
theorem dX7_fewestParts_14 : decode cX7_fewestParts 14 = .ok (.dup, 1) := by decide +kernel
theorem dX7_fewestParts_15 : decode cX7_fewestParts 15 = .ok (.ldc_w 276, 3) := by decide +kernel
theorem dX7_fewestParts_18 : decode cX7_fewestParts 18 = .ok (.invokespecial 71, 3) := by decide +kernel
theorem dX7_fewestParts_21 : decode cX7_fewestParts 21 = .ok (.athrow, 1) := by decide +kernel
theorem dX7_fewestParts_22 : decode cX7_fewestParts 22 = .ok (.aload_n 0, 1) := by decide +kernel
theorem dX7_fewestParts_23 : decode cX7_fewestParts 23 = .ok (.getfield 35, 3) := by decide +kernel
theorem dX7_fewestParts_26 : decode cX7_fewestParts 26 = .ok (.invokevirtual 258, 3) := by decide +kernel
theorem dX7_fewestParts_29 : decode cX7_fewestParts 29 = .ok (.aload_n 0, 1) := by decide +kernel
theorem dX7_fewestParts_30 : decode cX7_fewestParts 30 = .ok (.getfield 35, 3) := by decide +kernel
theorem dX7_fewestParts_33 : decode cX7_fewestParts 33 = .ok (.iload_n 1, 1) := by decide +kernel
theorem dX7_fewestParts_34 : decode cX7_fewestParts 34 = .ok (.invokevirtual 278, 3) := by decide +kernel
theorem dX7_fewestParts_37 : decode cX7_fewestParts 37 = .ok (.ireturn, 1) := by decide +kernel
theorem dX7_halfShare_0 : decode cX7_halfShare 0 = .ok (.aload_n 0, 1) := by decide +kernel
theorem dX7_halfShare_1 : decode cX7_halfShare 1 = .ok (.getfield 21, 3) := by decide +kernel
theorem dX7_halfShare_4 : decode cX7_halfShare 4 = .ok (.invokevirtual 114, 3) := by decide +kernel
theorem dX7_halfShare_7 : decode cX7_halfShare 7 = .ok (.ifCond .ne 5, 3) := by decide +kernel
theorem dX7_halfShare_10 : decode cX7_halfShare 10 = .ok (.dconst 0, 1) := by decide +kernel
theorem dX7_halfShare_11 : decode cX7_halfShare 11 = .ok (.dreturn, 1) := by decide +kernel
theorem dX7_halfShare_12 : decode cX7_halfShare 12 = .ok (.aload_n 0, 1) := by decide +kernel
theorem dX7_halfShare_13 : decode cX7_halfShare 13 = .ok (.getfield 28, 3) := by decide +kernel
theorem dX7_halfShare_16 : decode cX7_halfShare 16 = .ok (.iconst 0, 1) := by decide +kernel
theorem dX7_halfShare_17 : decode cX7_halfShare 17 = .ok (.invokevirtual 150, 3) := by decide +kernel
theorem dX7_halfShare_20 : decode cX7_halfShare 20 = .ok (.aload_n 0, 1) := by decide +kernel
theorem dX7_halfShare_21 : decode cX7_halfShare 21 = .ok (.getfield 28, 3) := by decide +kernel
theorem dX7_halfShare_24 : decode cX7_halfShare 24 = .ok (.iconst 1, 1) := by decide +kernel
theorem dX7_halfShare_25 : decode cX7_halfShare 25 = .ok (.invokevirtual 150, 3) := by decide +kernel
theorem dX7_halfShare_28 : decode cX7_halfShare 28 = .ok (.aload_n 0, 1) := by decide +kernel
theorem dX7_halfShare_29 : decode cX7_halfShare 29 = .ok (.getfield 28, 3) := by decide +kernel
theorem dX7_halfShare_32 : decode cX7_halfShare 32 = .ok (.invokevirtual 281, 3) := by decide +kernel
theorem dX7_halfShare_35 : decode cX7_halfShare 35 = .ok (.dreturn, 1) := by decide +kernel
theorem dX7_digest_0 : decode cX7_digest 0 = .ok (.ldc2_w 285, 3) := by decide +kernel
theorem dX7_digest_3 : decode cX7_digest 3 = .ok (.lstore_n 1, 1) := by decide +kernel
theorem dX7_digest_4 : decode cX7_digest 4 = .ok (.iconst 0, 1) := by decide +kernel
theorem dX7_digest_5 : decode cX7_digest 5 = .ok (.istore_n 3, 1) := by decide +kernel
theorem dX7_digest_6 : decode cX7_digest 6 = .ok (.iload_n 3, 1) := by decide +kernel
theorem dX7_digest_7 : decode cX7_digest 7 = .ok (.bipush 8, 2) := by decide +kernel
theorem dX7_digest_9 : decode cX7_digest 9 = .ok (.if_icmp .gt 20, 3) := by decide +kernel
theorem dX7_digest_12 : decode cX7_digest 12 = .ok (.lload_n 1, 1) := by decide +kernel
theorem dX7_digest_13 : decode cX7_digest 13 = .ok (.aload_n 0, 1) := by decide +kernel
theorem dX7_digest_14 : decode cX7_digest 14 = .ok (.iload_n 3, 1) := by decide +kernel
theorem dX7_digest_15 : decode cX7_digest 15 = .ok (.invokevirtual 251, 3) := by decide +kernel
theorem dX7_digest_18 : decode cX7_digest 18 = .ok (.i2l, 1) := by decide +kernel
theorem dX7_digest_19 : decode cX7_digest 19 = .ok (.invokestatic 287, 3) := by decide +kernel
theorem dX7_digest_22 : decode cX7_digest 22 = .ok (.lstore_n 1, 1) := by decide +kernel
theorem dX7_digest_23 : decode cX7_digest 23 = .ok (.iinc 3 1, 3) := by decide +kernel
theorem dX7_digest_26 : decode cX7_digest 26 = .ok (.goto (-20), 3) := by decide +kernel
theorem dX7_digest_29 : decode cX7_digest 29 = .ok (.aload_n 0, 1) := by decide +kernel
theorem dX7_digest_30 : decode cX7_digest 30 = .ok (.lload_n 1, 1) := by decide +kernel
theorem dX7_digest_31 : decode cX7_digest 31 = .ok (.invokevirtual 291, 3) := by decide +kernel
theorem dX7_digest_34 : decode cX7_digest 34 = .ok (.lstore_n 1, 1) := by decide +kernel
theorem dX7_digest_35 : decode cX7_digest 35 = .ok (.aload_n 0, 1) := by decide +kernel
theorem dX7_digest_36 : decode cX7_digest 36 = .ok (.invokevirtual 295, 3) := by decide +kernel
theorem dX7_digest_39 : decode cX7_digest 39 = .ok (.aload_n 0, 1) := by decide +kernel
theorem dX7_digest_40 : decode cX7_digest 40 = .ok (.lload_n 1, 1) := by decide +kernel
theorem dX7_digest_41 : decode cX7_digest 41 = .ok (.invokevirtual 298, 3) := by decide +kernel
theorem dX7_digest_44 : decode cX7_digest 44 = .ok (.lstore_n 1, 1) := by decide +kernel
theorem dX7_digest_45 : decode cX7_digest 45 = .ok (.aload_n 0, 1) := by decide +kernel
theorem dX7_digest_46 : decode cX7_digest 46 = .ok (.lload_n 1, 1) := by decide +kernel
theorem dX7_digest_47 : decode cX7_digest 47 = .ok (.invokevirtual 301, 3) := by decide +kernel
theorem dX7_digest_50 : decode cX7_digest 50 = .ok (.lstore_n 1, 1) := by decide +kernel
theorem dX7_digest_51 : decode cX7_digest 51 = .ok (.lload_n 1, 1) := by decide +kernel
theorem dX7_digest_52 : decode cX7_digest 52 = .ok (.aload_n 0, 1) := by decide +kernel
theorem dX7_digest_53 : decode cX7_digest 53 = .ok (.invokevirtual 304, 3) := by decide +kernel
theorem dX7_digest_56 : decode cX7_digest 56 = .ok (.invokestatic 307, 3) := by decide +kernel
theorem dX7_digest_59 : decode cX7_digest 59 = .ok (.invokestatic 287, 3) := by decide +kernel
theorem dX7_digest_62 : decode cX7_digest 62 = .ok (.lstore_n 1, 1) := by decide +kernel
theorem dX7_digest_63 : decode cX7_digest 63 = .ok (.lload_n 1, 1) := by decide +kernel
theorem dX7_digest_64 : decode cX7_digest 64 = .ok (.aload_n 0, 1) := by decide +kernel
theorem dX7_digest_65 : decode cX7_digest 65 = .ok (.getfield 56, 3) := by decide +kernel
theorem dX7_digest_68 : decode cX7_digest 68 = .ok (.getfield 218, 3) := by decide +kernel
theorem dX7_digest_71 : decode cX7_digest 71 = .ok (.ifCond .eq 7, 3) := by decide +kernel
theorem dX7_digest_74 : decode cX7_digest 74 = .ok (.lconst 1, 1) := by decide +kernel
theorem dX7_digest_75 : decode cX7_digest 75 = .ok (.goto 4, 3) := by decide +kernel
theorem dX7_digest_78 : decode cX7_digest 78 = .ok (.lconst 0, 1) := by decide +kernel
theorem dX7_digest_79 : decode cX7_digest 79 = .ok (.invokestatic 287, 3) := by decide +kernel
theorem dX7_digest_82 : decode cX7_digest 82 = .ok (.lstore_n 1, 1) := by decide +kernel
theorem dX7_digest_83 : decode cX7_digest 83 = .ok (.lload_n 1, 1) := by decide +kernel
theorem dX7_digest_84 : decode cX7_digest 84 = .ok (.aload_n 0, 1) := by decide +kernel
theorem dX7_digest_85 : decode cX7_digest 85 = .ok (.getfield 60, 3) := by decide +kernel
theorem dX7_digest_88 : decode cX7_digest 88 = .ok (.getfield 218, 3) := by decide +kernel
theorem dX7_digest_91 : decode cX7_digest 91 = .ok (.ifCond .eq 7, 3) := by decide +kernel
theorem dX7_digest_94 : decode cX7_digest 94 = .ok (.lconst 1, 1) := by decide +kernel
theorem dX7_digest_95 : decode cX7_digest 95 = .ok (.goto 4, 3) := by decide +kernel
theorem dX7_digest_98 : decode cX7_digest 98 = .ok (.lconst 0, 1) := by decide +kernel
theorem dX7_digest_99 : decode cX7_digest 99 = .ok (.invokestatic 287, 3) := by decide +kernel
theorem dX7_digest_102 : decode cX7_digest 102 = .ok (.lstore_n 1, 1) := by decide +kernel
theorem dX7_digest_103 : decode cX7_digest 103 = .ok (.lload_n 1, 1) := by decide +kernel
theorem dX7_digest_104 : decode cX7_digest 104 = .ok (.aload_n 0, 1) := by decide +kernel
theorem dX7_digest_105 : decode cX7_digest 105 = .ok (.getfield 42, 3) := by decide +kernel
theorem dX7_digest_108 : decode cX7_digest 108 = .ok (.getfield 181, 3) := by decide +kernel
theorem dX7_digest_111 : decode cX7_digest 111 = .ok (.i2l, 1) := by decide +kernel
theorem dX7_digest_112 : decode cX7_digest 112 = .ok (.invokestatic 287, 3) := by decide +kernel
theorem dX7_digest_115 : decode cX7_digest 115 = .ok (.lstore_n 1, 1) := by decide +kernel
theorem dX7_digest_116 : decode cX7_digest 116 = .ok (.iconst 0, 1) := by decide +kernel
theorem dX7_digest_117 : decode cX7_digest 117 = .ok (.istore_n 3, 1) := by decide +kernel
theorem dX7_digest_118 : decode cX7_digest 118 = .ok (.iload_n 3, 1) := by decide +kernel
theorem dX7_digest_119 : decode cX7_digest 119 = .ok (.aload_n 0, 1) := by decide +kernel
theorem dX7_digest_120 : decode cX7_digest 120 = .ok (.getfield 42, 3) := by decide +kernel
theorem dX7_digest_123 : decode cX7_digest 123 = .ok (.getfield 181, 3) := by decide +kernel
theorem dX7_digest_126 : decode cX7_digest 126 = .ok (.if_icmp .ge 23, 3) := by decide +kernel
theorem dX7_digest_129 : decode cX7_digest 129 = .ok (.lload_n 1, 1) := by decide +kernel
theorem dX7_digest_130 : decode cX7_digest 130 = .ok (.aload_n 0, 1) := by decide +kernel
theorem dX7_digest_131 : decode cX7_digest 131 = .ok (.getfield 42, 3) := by decide +kernel
theorem dX7_digest_134 : decode cX7_digest 134 = .ok (.iload_n 3, 1) := by decide +kernel
theorem dX7_digest_135 : decode cX7_digest 135 = .ok (.invokevirtual 311, 3) := by decide +kernel
theorem dX7_digest_138 : decode cX7_digest 138 = .ok (.i2l, 1) := by decide +kernel
theorem dX7_digest_139 : decode cX7_digest 139 = .ok (.invokestatic 287, 3) := by decide +kernel
theorem dX7_digest_142 : decode cX7_digest 142 = .ok (.lstore_n 1, 1) := by decide +kernel
theorem dX7_digest_143 : decode cX7_digest 143 = .ok (.iinc 3 1, 3) := by decide +kernel
theorem dX7_digest_146 : decode cX7_digest 146 = .ok (.goto (-28), 3) := by decide +kernel
theorem dX7_digest_149 : decode cX7_digest 149 = .ok (.lload_n 1, 1) := by decide +kernel
theorem dX7_digest_150 : decode cX7_digest 150 = .ok (.lreturn, 1) := by decide +kernel
theorem dX7_isFromTo_0 : decode cX7_isFromTo 0 = .ok (.iload_n 0, 1) := by decide +kernel
theorem dX7_isFromTo_1 : decode cX7_isFromTo 1 = .ok (.iload_n 1, 1) := by decide +kernel
theorem dX7_isFromTo_2 : decode cX7_isFromTo 2 = .ok (.if_icmp .lt 12, 3) := by decide +kernel
theorem dX7_isFromTo_5 : decode cX7_isFromTo 5 = .ok (.iload_n 0, 1) := by decide +kernel
theorem dX7_isFromTo_6 : decode cX7_isFromTo 6 = .ok (.iload_n 2, 1) := by decide +kernel
theorem dX7_isFromTo_7 : decode cX7_isFromTo 7 = .ok (.if_icmp .gt 7, 3) := by decide +kernel
theorem dX7_isFromTo_10 : decode cX7_isFromTo 10 = .ok (.iconst 1, 1) := by decide +kernel
theorem dX7_isFromTo_11 : decode cX7_isFromTo 11 = .ok (.goto 4, 3) := by decide +kernel
theorem dX7_isFromTo_14 : decode cX7_isFromTo 14 = .ok (.iconst 0, 1) := by decide +kernel
theorem dX7_isFromTo_15 : decode cX7_isFromTo 15 = .ok (.ireturn, 1) := by decide +kernel
theorem dX7_isWay_0 : decode cX7_isWay 0 = .ok (.iload_n 0, 1) := by decide +kernel
theorem dX7_isWay_1 : decode cX7_isWay 1 = .ok (.iconst 0, 1) := by decide +kernel
theorem dX7_isWay_2 : decode cX7_isWay 2 = .ok (.iconst 2, 1) := by decide +kernel
theorem dX7_isWay_3 : decode cX7_isWay 3 = .ok (.invokestatic 63, 3) := by decide +kernel
theorem dX7_isWay_6 : decode cX7_isWay 6 = .ok (.ireturn, 1) := by decide +kernel
theorem dX7_isOpen_0 : decode cX7_isOpen 0 = .ok (.iload_n 1, 1) := by decide +kernel
theorem dX7_isOpen_1 : decode cX7_isOpen 1 = .ok (.ifCond .eq 13, 3) := by decide +kernel
theorem dX7_isOpen_4 : decode cX7_isOpen 4 = .ok (.aload_n 0, 1) := by decide +kernel
theorem dX7_isOpen_5 : decode cX7_isOpen 5 = .ok (.getfield 21, 3) := by decide +kernel
theorem dX7_isOpen_8 : decode cX7_isOpen 8 = .ok (.invokevirtual 114, 3) := by decide +kernel
theorem dX7_isOpen_11 : decode cX7_isOpen 11 = .ok (.ifCond .eq 7, 3) := by decide +kernel
theorem dX7_isOpen_14 : decode cX7_isOpen 14 = .ok (.iconst 1, 1) := by decide +kernel
theorem dX7_isOpen_15 : decode cX7_isOpen 15 = .ok (.goto 4, 3) := by decide +kernel
theorem dX7_isOpen_18 : decode cX7_isOpen 18 = .ok (.iconst 0, 1) := by decide +kernel
theorem dX7_isOpen_19 : decode cX7_isOpen 19 = .ok (.ireturn, 1) := by decide +kernel
theorem dX7_slotAt_0 : decode cX7_slotAt 0 = .ok (.iload_n 1, 1) := by decide +kernel
theorem dX7_slotAt_1 : decode cX7_slotAt 1 = .ok (.ifCond .ne 10, 3) := by decide +kernel
theorem dX7_slotAt_4 : decode cX7_slotAt 4 = .ok (.aload_n 0, 1) := by decide +kernel
theorem dX7_slotAt_5 : decode cX7_slotAt 5 = .ok (.getfield 56, 3) := by decide +kernel
theorem dX7_slotAt_8 : decode cX7_slotAt 8 = .ok (.goto 7, 3) := by decide +kernel
theorem dX7_slotAt_11 : decode cX7_slotAt 11 = .ok (.aload_n 0, 1) := by decide +kernel
theorem dX7_slotAt_12 : decode cX7_slotAt 12 = .ok (.getfield 60, 3) := by decide +kernel
theorem dX7_slotAt_15 : decode cX7_slotAt 15 = .ok (.areturn, 1) := by decide +kernel
theorem dX7_counted_0 : decode cX7_counted 0 = .ok (.iload_n 1, 1) := by decide +kernel
theorem dX7_counted_1 : decode cX7_counted 1 = .ok (.tableswitch 119 0 7 #[47, 55, 63, 71, 79, 87, 95, 103], 47) := by decide +kernel
theorem dX7_counted_48 : decode cX7_counted 48 = .ok (.aload_n 0, 1) := by decide +kernel
theorem dX7_counted_49 : decode cX7_counted 49 = .ok (.getfield 10, 3) := by decide +kernel
theorem dX7_counted_52 : decode cX7_counted 52 = .ok (.getfield 81, 3) := by decide +kernel
theorem dX7_counted_55 : decode cX7_counted 55 = .ok (.ireturn, 1) := by decide +kernel
theorem dX7_counted_56 : decode cX7_counted 56 = .ok (.aload_n 0, 1) := by decide +kernel
theorem dX7_counted_57 : decode cX7_counted 57 = .ok (.getfield 10, 3) := by decide +kernel
theorem dX7_counted_60 : decode cX7_counted 60 = .ok (.getfield 85, 3) := by decide +kernel
theorem dX7_counted_63 : decode cX7_counted 63 = .ok (.ireturn, 1) := by decide +kernel
theorem dX7_counted_64 : decode cX7_counted 64 = .ok (.aload_n 0, 1) := by decide +kernel
theorem dX7_counted_65 : decode cX7_counted 65 = .ok (.getfield 10, 3) := by decide +kernel
theorem dX7_counted_68 : decode cX7_counted 68 = .ok (.getfield 166, 3) := by decide +kernel
theorem dX7_counted_71 : decode cX7_counted 71 = .ok (.ireturn, 1) := by decide +kernel
theorem dX7_counted_72 : decode cX7_counted 72 = .ok (.aload_n 0, 1) := by decide +kernel
theorem dX7_counted_73 : decode cX7_counted 73 = .ok (.getfield 10, 3) := by decide +kernel
theorem dX7_counted_76 : decode cX7_counted 76 = .ok (.invokevirtual 314, 3) := by decide +kernel
theorem dX7_counted_79 : decode cX7_counted 79 = .ok (.ireturn, 1) := by decide +kernel
theorem dX7_counted_80 : decode cX7_counted 80 = .ok (.aload_n 0, 1) := by decide +kernel
theorem dX7_counted_81 : decode cX7_counted 81 = .ok (.getfield 10, 3) := by decide +kernel
theorem dX7_counted_84 : decode cX7_counted 84 = .ok (.getfield 158, 3) := by decide +kernel
theorem dX7_counted_87 : decode cX7_counted 87 = .ok (.ireturn, 1) := by decide +kernel
theorem dX7_counted_88 : decode cX7_counted 88 = .ok (.aload_n 0, 1) := by decide +kernel
theorem dX7_counted_89 : decode cX7_counted 89 = .ok (.getfield 10, 3) := by decide +kernel
theorem dX7_counted_92 : decode cX7_counted 92 = .ok (.getfield 161, 3) := by decide +kernel
theorem dX7_counted_95 : decode cX7_counted 95 = .ok (.ireturn, 1) := by decide +kernel
theorem dX7_counted_96 : decode cX7_counted 96 = .ok (.aload_n 0, 1) := by decide +kernel
theorem dX7_counted_97 : decode cX7_counted 97 = .ok (.getfield 10, 3) := by decide +kernel
theorem dX7_counted_100 : decode cX7_counted 100 = .ok (.getfield 133, 3) := by decide +kernel
theorem dX7_counted_103 : decode cX7_counted 103 = .ok (.ireturn, 1) := by decide +kernel
theorem dX7_counted_104 : decode cX7_counted 104 = .ok (.aload_n 0, 1) := by decide +kernel
theorem dX7_counted_105 : decode cX7_counted 105 = .ok (.getfield 28, 3) := by decide +kernel
theorem dX7_counted_108 : decode cX7_counted 108 = .ok (.iconst 0, 1) := by decide +kernel
theorem dX7_counted_109 : decode cX7_counted 109 = .ok (.invokevirtual 150, 3) := by decide +kernel
theorem dX7_counted_112 : decode cX7_counted 112 = .ok (.aload_n 0, 1) := by decide +kernel
theorem dX7_counted_113 : decode cX7_counted 113 = .ok (.getfield 28, 3) := by decide +kernel
theorem dX7_counted_116 : decode cX7_counted 116 = .ok (.invokevirtual 317, 3) := by decide +kernel
theorem dX7_counted_119 : decode cX7_counted 119 = .ok (.ireturn, 1) := by decide +kernel
theorem dX7_counted_120 : decode cX7_counted 120 = .ok (.aload_n 0, 1) := by decide +kernel
theorem dX7_counted_121 : decode cX7_counted 121 = .ok (.getfield 49, 3) := by decide +kernel
theorem dX7_counted_124 : decode cX7_counted 124 = .ok (.getfield 230, 3) := by decide +kernel
theorem dX7_counted_127 : decode cX7_counted 127 = .ok (.ireturn, 1) := by decide +kernel
theorem dX7_mixed_0 : decode cX7_mixed 0 = .ok (.ldc2_w 320, 3) := by decide +kernel
theorem dX7_mixed_3 : decode cX7_mixed 3 = .ok (.lload_n 0, 1) := by decide +kernel
theorem dX7_mixed_4 : decode cX7_mixed 4 = .ok (.lmul, 1) := by decide +kernel
theorem dX7_mixed_5 : decode cX7_mixed 5 = .ok (.lload_n 2, 1) := by decide +kernel
theorem dX7_mixed_6 : decode cX7_mixed 6 = .ok (.ladd, 1) := by decide +kernel
theorem dX7_mixed_7 : decode cX7_mixed 7 = .ok (.lreturn, 1) := by decide +kernel
theorem dX7_mixedCells_0 : decode cX7_mixedCells 0 = .ok (.lload_n 1, 1) := by decide +kernel
theorem dX7_mixedCells_1 : decode cX7_mixedCells 1 = .ok (.lstore_n 3, 1) := by decide +kernel
theorem dX7_mixedCells_2 : decode cX7_mixedCells 2 = .ok (.iconst 0, 1) := by decide +kernel
theorem dX7_mixedCells_3 : decode cX7_mixedCells 3 = .ok (.istore 5, 2) := by decide +kernel
theorem dX7_mixedCells_5 : decode cX7_mixedCells 5 = .ok (.iload 5, 2) := by decide +kernel
theorem dX7_mixedCells_7 : decode cX7_mixedCells 7 = .ok (.aload_n 0, 1) := by decide +kernel
theorem dX7_mixedCells_8 : decode cX7_mixedCells 8 = .ok (.getfield 10, 3) := by decide +kernel
theorem dX7_mixedCells_11 : decode cX7_mixedCells 11 = .ok (.getfield 81, 3) := by decide +kernel
theorem dX7_mixedCells_14 : decode cX7_mixedCells 14 = .ok (.if_icmp .ge 47, 3) := by decide +kernel
theorem dX7_mixedCells_17 : decode cX7_mixedCells 17 = .ok (.iconst 0, 1) := by decide +kernel
theorem dX7_mixedCells_18 : decode cX7_mixedCells 18 = .ok (.istore 6, 2) := by decide +kernel
theorem dX7_mixedCells_20 : decode cX7_mixedCells 20 = .ok (.iload 6, 2) := by decide +kernel
theorem dX7_mixedCells_22 : decode cX7_mixedCells 22 = .ok (.aload_n 0, 1) := by decide +kernel
theorem dX7_mixedCells_23 : decode cX7_mixedCells 23 = .ok (.getfield 10, 3) := by decide +kernel
theorem dX7_mixedCells_26 : decode cX7_mixedCells 26 = .ok (.getfield 85, 3) := by decide +kernel
theorem dX7_mixedCells_29 : decode cX7_mixedCells 29 = .ok (.if_icmp .ge 26, 3) := by decide +kernel
theorem dX7_mixedCells_32 : decode cX7_mixedCells 32 = .ok (.lload_n 3, 1) := by decide +kernel
theorem dX7_mixedCells_33 : decode cX7_mixedCells 33 = .ok (.aload_n 0, 1) := by decide +kernel
theorem dX7_mixedCells_34 : decode cX7_mixedCells 34 = .ok (.getfield 10, 3) := by decide +kernel
theorem dX7_mixedCells_37 : decode cX7_mixedCells 37 = .ok (.iload 5, 2) := by decide +kernel
theorem dX7_mixedCells_39 : decode cX7_mixedCells 39 = .ok (.iload 6, 2) := by decide +kernel
theorem dX7_mixedCells_41 : decode cX7_mixedCells 41 = .ok (.invokevirtual 99, 3) := by decide +kernel
theorem dX7_mixedCells_44 : decode cX7_mixedCells 44 = .ok (.i2l, 1) := by decide +kernel
theorem dX7_mixedCells_45 : decode cX7_mixedCells 45 = .ok (.invokestatic 287, 3) := by decide +kernel
theorem dX7_mixedCells_48 : decode cX7_mixedCells 48 = .ok (.lstore_n 3, 1) := by decide +kernel
theorem dX7_mixedCells_49 : decode cX7_mixedCells 49 = .ok (.iinc 6 1, 3) := by decide +kernel
theorem dX7_mixedCells_52 : decode cX7_mixedCells 52 = .ok (.goto (-32), 3) := by decide +kernel
theorem dX7_mixedCells_55 : decode cX7_mixedCells 55 = .ok (.iinc 5 1, 3) := by decide +kernel
theorem dX7_mixedCells_58 : decode cX7_mixedCells 58 = .ok (.goto (-53), 3) := by decide +kernel
theorem dX7_mixedCells_61 : decode cX7_mixedCells 61 = .ok (.lload_n 3, 1) := by decide +kernel
theorem dX7_mixedCells_62 : decode cX7_mixedCells 62 = .ok (.lreturn, 1) := by decide +kernel
theorem dX7_seekByAllWays_0 : decode cX7_seekByAllWays 0 = .ok (.aload_n 0, 1) := by decide +kernel
theorem dX7_seekByAllWays_1 : decode cX7_seekByAllWays 1 = .ok (.getfield 21, 3) := by decide +kernel
theorem dX7_seekByAllWays_4 : decode cX7_seekByAllWays 4 = .ok (.invokevirtual 118, 3) := by decide +kernel
theorem dX7_seekByAllWays_7 : decode cX7_seekByAllWays 7 = .ok (.iconst 0, 1) := by decide +kernel
theorem dX7_seekByAllWays_8 : decode cX7_seekByAllWays 8 = .ok (.istore_n 1, 1) := by decide +kernel
theorem dX7_seekByAllWays_9 : decode cX7_seekByAllWays 9 = .ok (.iload_n 1, 1) := by decide +kernel
theorem dX7_seekByAllWays_10 : decode cX7_seekByAllWays 10 = .ok (.iconst 3, 1) := by decide +kernel
theorem dX7_seekByAllWays_11 : decode cX7_seekByAllWays 11 = .ok (.if_icmp .ge 42, 3) := by decide +kernel
theorem dX7_seekByAllWays_14 : decode cX7_seekByAllWays 14 = .ok (.iload_n 1, 1) := by decide +kernel
theorem dX7_seekByAllWays_15 : decode cX7_seekByAllWays 15 = .ok (.ifCond .eq 13, 3) := by decide +kernel
theorem dX7_seekByAllWays_18 : decode cX7_seekByAllWays 18 = .ok (.aload_n 0, 1) := by decide +kernel
theorem dX7_seekByAllWays_19 : decode cX7_seekByAllWays 19 = .ok (.getfield 21, 3) := by decide +kernel
theorem dX7_seekByAllWays_22 : decode cX7_seekByAllWays 22 = .ok (.getfield 121, 3) := by decide +kernel
theorem dX7_seekByAllWays_25 : decode cX7_seekByAllWays 25 = .ok (.ifCond .ne 14, 3) := by decide +kernel
theorem dX7_seekByAllWays_28 : decode cX7_seekByAllWays 28 = .ok (.aload_n 0, 1) := by decide +kernel
theorem dX7_seekByAllWays_29 : decode cX7_seekByAllWays 29 = .ok (.getfield 28, 3) := by decide +kernel
theorem dX7_seekByAllWays_32 : decode cX7_seekByAllWays 32 = .ok (.iload_n 1, 1) := by decide +kernel
theorem dX7_seekByAllWays_33 : decode cX7_seekByAllWays 33 = .ok (.invokevirtual 150, 3) := by decide +kernel
theorem dX7_seekByAllWays_36 : decode cX7_seekByAllWays 36 = .ok (.goto 11, 3) := by decide +kernel
theorem dX7_seekByAllWays_39 : decode cX7_seekByAllWays 39 = .ok (.aload_n 0, 1) := by decide +kernel
theorem dX7_seekByAllWays_40 : decode cX7_seekByAllWays 40 = .ok (.getfield 28, 3) := by decide +kernel
theorem dX7_seekByAllWays_43 : decode cX7_seekByAllWays 43 = .ok (.iload_n 1, 1) := by decide +kernel
theorem dX7_seekByAllWays_44 : decode cX7_seekByAllWays 44 = .ok (.invokevirtual 322, 3) := by decide +kernel
theorem dX7_seekByAllWays_47 : decode cX7_seekByAllWays 47 = .ok (.iinc 1 1, 3) := by decide +kernel
theorem dX7_seekByAllWays_50 : decode cX7_seekByAllWays 50 = .ok (.goto (-41), 3) := by decide +kernel
theorem dX7_seekByAllWays_53 : decode cX7_seekByAllWays 53 = .ok (.return_, 1) := by decide +kernel
theorem dX7_mixedPlaces_0 : decode cX7_mixedPlaces 0 = .ok (.lload_n 1, 1) := by decide +kernel
theorem dX7_mixedPlaces_1 : decode cX7_mixedPlaces 1 = .ok (.lstore_n 3, 1) := by decide +kernel
theorem dX7_mixedPlaces_2 : decode cX7_mixedPlaces 2 = .ok (.iconst 0, 1) := by decide +kernel
theorem dX7_mixedPlaces_3 : decode cX7_mixedPlaces 3 = .ok (.istore 5, 2) := by decide +kernel
theorem dX7_mixedPlaces_5 : decode cX7_mixedPlaces 5 = .ok (.iload 5, 2) := by decide +kernel
theorem dX7_mixedPlaces_7 : decode cX7_mixedPlaces 7 = .ok (.aload_n 0, 1) := by decide +kernel
theorem dX7_mixedPlaces_8 : decode cX7_mixedPlaces 8 = .ok (.getfield 10, 3) := by decide +kernel
theorem dX7_mixedPlaces_11 : decode cX7_mixedPlaces 11 = .ok (.getfield 81, 3) := by decide +kernel
theorem dX7_mixedPlaces_14 : decode cX7_mixedPlaces 14 = .ok (.if_icmp .ge 41, 3) := by decide +kernel
theorem dX7_mixedPlaces_17 : decode cX7_mixedPlaces 17 = .ok (.iconst 0, 1) := by decide +kernel
theorem dX7_mixedPlaces_18 : decode cX7_mixedPlaces 18 = .ok (.istore 6, 2) := by decide +kernel
theorem dX7_mixedPlaces_20 : decode cX7_mixedPlaces 20 = .ok (.iload 6, 2) := by decide +kernel
theorem dX7_mixedPlaces_22 : decode cX7_mixedPlaces 22 = .ok (.iconst 3, 1) := by decide +kernel
theorem dX7_mixedPlaces_23 : decode cX7_mixedPlaces 23 = .ok (.if_icmp .ge 26, 3) := by decide +kernel
theorem dX7_mixedPlaces_26 : decode cX7_mixedPlaces 26 = .ok (.lload_n 3, 1) := by decide +kernel
theorem dX7_mixedPlaces_27 : decode cX7_mixedPlaces 27 = .ok (.aload_n 0, 1) := by decide +kernel
theorem dX7_mixedPlaces_28 : decode cX7_mixedPlaces 28 = .ok (.getfield 28, 3) := by decide +kernel
theorem dX7_mixedPlaces_31 : decode cX7_mixedPlaces 31 = .ok (.iload 6, 2) := by decide +kernel
theorem dX7_mixedPlaces_33 : decode cX7_mixedPlaces 33 = .ok (.iload 5, 2) := by decide +kernel
theorem dX7_mixedPlaces_35 : decode cX7_mixedPlaces 35 = .ok (.invokevirtual 241, 3) := by decide +kernel
theorem dX7_mixedPlaces_38 : decode cX7_mixedPlaces 38 = .ok (.i2l, 1) := by decide +kernel
theorem dX7_mixedPlaces_39 : decode cX7_mixedPlaces 39 = .ok (.invokestatic 287, 3) := by decide +kernel
theorem dX7_mixedPlaces_42 : decode cX7_mixedPlaces 42 = .ok (.lstore_n 3, 1) := by decide +kernel
theorem dX7_mixedPlaces_43 : decode cX7_mixedPlaces 43 = .ok (.iinc 6 1, 3) := by decide +kernel
theorem dX7_mixedPlaces_46 : decode cX7_mixedPlaces 46 = .ok (.goto (-26), 3) := by decide +kernel
theorem dX7_mixedPlaces_49 : decode cX7_mixedPlaces 49 = .ok (.iinc 5 1, 3) := by decide +kernel
theorem dX7_mixedPlaces_52 : decode cX7_mixedPlaces 52 = .ok (.goto (-47), 3) := by decide +kernel
theorem dX7_mixedPlaces_55 : decode cX7_mixedPlaces 55 = .ok (.iconst 0, 1) := by decide +kernel
theorem dX7_mixedPlaces_56 : decode cX7_mixedPlaces 56 = .ok (.istore 5, 2) := by decide +kernel
theorem dX7_mixedPlaces_58 : decode cX7_mixedPlaces 58 = .ok (.iload 5, 2) := by decide +kernel
theorem dX7_mixedPlaces_60 : decode cX7_mixedPlaces 60 = .ok (.iconst 3, 1) := by decide +kernel
theorem dX7_mixedPlaces_61 : decode cX7_mixedPlaces 61 = .ok (.if_icmp .ge 24, 3) := by decide +kernel
theorem dX7_mixedPlaces_64 : decode cX7_mixedPlaces 64 = .ok (.lload_n 3, 1) := by decide +kernel
theorem dX7_mixedPlaces_65 : decode cX7_mixedPlaces 65 = .ok (.aload_n 0, 1) := by decide +kernel
theorem dX7_mixedPlaces_66 : decode cX7_mixedPlaces 66 = .ok (.getfield 28, 3) := by decide +kernel
theorem dX7_mixedPlaces_69 : decode cX7_mixedPlaces 69 = .ok (.iload 5, 2) := by decide +kernel
theorem dX7_mixedPlaces_71 : decode cX7_mixedPlaces 71 = .ok (.invokevirtual 154, 3) := by decide +kernel
theorem dX7_mixedPlaces_74 : decode cX7_mixedPlaces 74 = .ok (.i2l, 1) := by decide +kernel
theorem dX7_mixedPlaces_75 : decode cX7_mixedPlaces 75 = .ok (.invokestatic 287, 3) := by decide +kernel
theorem dX7_mixedPlaces_78 : decode cX7_mixedPlaces 78 = .ok (.lstore_n 3, 1) := by decide +kernel
theorem dX7_mixedPlaces_79 : decode cX7_mixedPlaces 79 = .ok (.iinc 5 1, 3) := by decide +kernel
theorem dX7_mixedPlaces_82 : decode cX7_mixedPlaces 82 = .ok (.goto (-24), 3) := by decide +kernel
theorem dX7_mixedPlaces_85 : decode cX7_mixedPlaces 85 = .ok (.lload_n 3, 1) := by decide +kernel
theorem dX7_mixedPlaces_86 : decode cX7_mixedPlaces 86 = .ok (.aload_n 0, 1) := by decide +kernel
theorem dX7_mixedPlaces_87 : decode cX7_mixedPlaces 87 = .ok (.invokevirtual 325, 3) := by decide +kernel
theorem dX7_mixedPlaces_90 : decode cX7_mixedPlaces 90 = .ok (.i2l, 1) := by decide +kernel
theorem dX7_mixedPlaces_91 : decode cX7_mixedPlaces 91 = .ok (.invokestatic 287, 3) := by decide +kernel
theorem dX7_mixedPlaces_94 : decode cX7_mixedPlaces 94 = .ok (.lstore_n 3, 1) := by decide +kernel
theorem dX7_mixedPlaces_95 : decode cX7_mixedPlaces 95 = .ok (.iconst 0, 1) := by decide +kernel
theorem dX7_mixedPlaces_96 : decode cX7_mixedPlaces 96 = .ok (.istore 5, 2) := by decide +kernel
theorem dX7_mixedPlaces_98 : decode cX7_mixedPlaces 98 = .ok (.iload 5, 2) := by decide +kernel
theorem dX7_mixedPlaces_100 : decode cX7_mixedPlaces 100 = .ok (.iconst 3, 1) := by decide +kernel
theorem dX7_mixedPlaces_101 : decode cX7_mixedPlaces 101 = .ok (.if_icmp .gt 24, 3) := by decide +kernel
theorem dX7_mixedPlaces_104 : decode cX7_mixedPlaces 104 = .ok (.lload_n 3, 1) := by decide +kernel
theorem dX7_mixedPlaces_105 : decode cX7_mixedPlaces 105 = .ok (.aload_n 0, 1) := by decide +kernel
theorem dX7_mixedPlaces_106 : decode cX7_mixedPlaces 106 = .ok (.getfield 21, 3) := by decide +kernel
theorem dX7_mixedPlaces_109 : decode cX7_mixedPlaces 109 = .ok (.iload 5, 2) := by decide +kernel
theorem dX7_mixedPlaces_111 : decode cX7_mixedPlaces 111 = .ok (.invokevirtual 246, 3) := by decide +kernel
theorem dX7_mixedPlaces_114 : decode cX7_mixedPlaces 114 = .ok (.i2l, 1) := by decide +kernel
theorem dX7_mixedPlaces_115 : decode cX7_mixedPlaces 115 = .ok (.invokestatic 287, 3) := by decide +kernel
theorem dX7_mixedPlaces_118 : decode cX7_mixedPlaces 118 = .ok (.lstore_n 3, 1) := by decide +kernel
theorem dX7_mixedPlaces_119 : decode cX7_mixedPlaces 119 = .ok (.iinc 5 1, 3) := by decide +kernel
theorem dX7_mixedPlaces_122 : decode cX7_mixedPlaces 122 = .ok (.goto (-24), 3) := by decide +kernel
theorem dX7_mixedPlaces_125 : decode cX7_mixedPlaces 125 = .ok (.lload_n 3, 1) := by decide +kernel
theorem dX7_mixedPlaces_126 : decode cX7_mixedPlaces 126 = .ok (.lreturn, 1) := by decide +kernel
theorem dX7_mixedWeights_0 : decode cX7_mixedWeights 0 = .ok (.lload_n 1, 1) := by decide +kernel
theorem dX7_mixedWeights_1 : decode cX7_mixedWeights 1 = .ok (.lstore_n 3, 1) := by decide +kernel
theorem dX7_mixedWeights_2 : decode cX7_mixedWeights 2 = .ok (.iconst 0, 1) := by decide +kernel
theorem dX7_mixedWeights_3 : decode cX7_mixedWeights 3 = .ok (.istore 5, 2) := by decide +kernel
theorem dX7_mixedWeights_5 : decode cX7_mixedWeights 5 = .ok (.iload 5, 2) := by decide +kernel
theorem dX7_mixedWeights_7 : decode cX7_mixedWeights 7 = .ok (.aload_n 0, 1) := by decide +kernel
theorem dX7_mixedWeights_8 : decode cX7_mixedWeights 8 = .ok (.getfield 10, 3) := by decide +kernel
theorem dX7_mixedWeights_11 : decode cX7_mixedWeights 11 = .ok (.getfield 166, 3) := by decide +kernel
theorem dX7_mixedWeights_14 : decode cX7_mixedWeights 14 = .ok (.if_icmp .ge 24, 3) := by decide +kernel
theorem dX7_mixedWeights_17 : decode cX7_mixedWeights 17 = .ok (.lload_n 3, 1) := by decide +kernel
theorem dX7_mixedWeights_18 : decode cX7_mixedWeights 18 = .ok (.aload_n 0, 1) := by decide +kernel
theorem dX7_mixedWeights_19 : decode cX7_mixedWeights 19 = .ok (.getfield 10, 3) := by decide +kernel
theorem dX7_mixedWeights_22 : decode cX7_mixedWeights 22 = .ok (.iload 5, 2) := by decide +kernel
theorem dX7_mixedWeights_24 : decode cX7_mixedWeights 24 = .ok (.invokevirtual 176, 3) := by decide +kernel
theorem dX7_mixedWeights_27 : decode cX7_mixedWeights 27 = .ok (.i2l, 1) := by decide +kernel
theorem dX7_mixedWeights_28 : decode cX7_mixedWeights 28 = .ok (.invokestatic 287, 3) := by decide +kernel
theorem dX7_mixedWeights_31 : decode cX7_mixedWeights 31 = .ok (.lstore_n 3, 1) := by decide +kernel
theorem dX7_mixedWeights_32 : decode cX7_mixedWeights 32 = .ok (.iinc 5 1, 3) := by decide +kernel
theorem dX7_mixedWeights_35 : decode cX7_mixedWeights 35 = .ok (.goto (-30), 3) := by decide +kernel
theorem dX7_mixedWeights_38 : decode cX7_mixedWeights 38 = .ok (.aload_n 0, 1) := by decide +kernel
theorem dX7_mixedWeights_39 : decode cX7_mixedWeights 39 = .ok (.getfield 35, 3) := by decide +kernel
theorem dX7_mixedWeights_42 : decode cX7_mixedWeights 42 = .ok (.invokevirtual 258, 3) := by decide +kernel
theorem dX7_mixedWeights_45 : decode cX7_mixedWeights 45 = .ok (.aload_n 0, 1) := by decide +kernel
theorem dX7_mixedWeights_46 : decode cX7_mixedWeights 46 = .ok (.getfield 35, 3) := by decide +kernel
theorem dX7_mixedWeights_49 : decode cX7_mixedWeights 49 = .ok (.invokevirtual 264, 3) := by decide +kernel
theorem dX7_mixedWeights_52 : decode cX7_mixedWeights 52 = .ok (.iconst 1, 1) := by decide +kernel
theorem dX7_mixedWeights_53 : decode cX7_mixedWeights 53 = .ok (.istore 5, 2) := by decide +kernel
theorem dX7_mixedWeights_55 : decode cX7_mixedWeights 55 = .ok (.iload 5, 2) := by decide +kernel
theorem dX7_mixedWeights_57 : decode cX7_mixedWeights 57 = .ok (.aload_n 0, 1) := by decide +kernel
theorem dX7_mixedWeights_58 : decode cX7_mixedWeights 58 = .ok (.getfield 10, 3) := by decide +kernel
theorem dX7_mixedWeights_61 : decode cX7_mixedWeights 61 = .ok (.getfield 166, 3) := by decide +kernel
theorem dX7_mixedWeights_64 : decode cX7_mixedWeights 64 = .ok (.if_icmp .gt 74, 3) := by decide +kernel
theorem dX7_mixedWeights_67 : decode cX7_mixedWeights 67 = .ok (.lload_n 3, 1) := by decide +kernel
theorem dX7_mixedWeights_68 : decode cX7_mixedWeights 68 = .ok (.aload_n 0, 1) := by decide +kernel
theorem dX7_mixedWeights_69 : decode cX7_mixedWeights 69 = .ok (.getfield 35, 3) := by decide +kernel
theorem dX7_mixedWeights_72 : decode cX7_mixedWeights 72 = .ok (.iload 5, 2) := by decide +kernel
theorem dX7_mixedWeights_74 : decode cX7_mixedWeights 74 = .ok (.invokevirtual 261, 3) := by decide +kernel
theorem dX7_mixedWeights_77 : decode cX7_mixedWeights 77 = .ok (.i2l, 1) := by decide +kernel
theorem dX7_mixedWeights_78 : decode cX7_mixedWeights 78 = .ok (.invokestatic 287, 3) := by decide +kernel
theorem dX7_mixedWeights_81 : decode cX7_mixedWeights 81 = .ok (.lstore_n 3, 1) := by decide +kernel
theorem dX7_mixedWeights_82 : decode cX7_mixedWeights 82 = .ok (.lload_n 3, 1) := by decide +kernel
theorem dX7_mixedWeights_83 : decode cX7_mixedWeights 83 = .ok (.aload_n 0, 1) := by decide +kernel
theorem dX7_mixedWeights_84 : decode cX7_mixedWeights 84 = .ok (.getfield 35, 3) := by decide +kernel
theorem dX7_mixedWeights_87 : decode cX7_mixedWeights 87 = .ok (.iload 5, 2) := by decide +kernel
theorem dX7_mixedWeights_89 : decode cX7_mixedWeights 89 = .ok (.invokevirtual 267, 3) := by decide +kernel
theorem dX7_mixedWeights_92 : decode cX7_mixedWeights 92 = .ok (.i2l, 1) := by decide +kernel
theorem dX7_mixedWeights_93 : decode cX7_mixedWeights 93 = .ok (.invokestatic 287, 3) := by decide +kernel
theorem dX7_mixedWeights_96 : decode cX7_mixedWeights 96 = .ok (.lstore_n 3, 1) := by decide +kernel
theorem dX7_mixedWeights_97 : decode cX7_mixedWeights 97 = .ok (.iconst 0, 1) := by decide +kernel
theorem dX7_mixedWeights_98 : decode cX7_mixedWeights 98 = .ok (.istore 6, 2) := by decide +kernel
theorem dX7_mixedWeights_100 : decode cX7_mixedWeights 100 = .ok (.iload 6, 2) := by decide +kernel
theorem dX7_mixedWeights_102 : decode cX7_mixedWeights 102 = .ok (.iload 5, 2) := by decide +kernel
theorem dX7_mixedWeights_104 : decode cX7_mixedWeights 104 = .ok (.iconst 1, 1) := by decide +kernel
theorem dX7_mixedWeights_105 : decode cX7_mixedWeights 105 = .ok (.isub, 1) := by decide +kernel
theorem dX7_mixedWeights_106 : decode cX7_mixedWeights 106 = .ok (.if_icmp .ge 26, 3) := by decide +kernel
theorem dX7_mixedWeights_109 : decode cX7_mixedWeights 109 = .ok (.lload_n 3, 1) := by decide +kernel
theorem dX7_mixedWeights_110 : decode cX7_mixedWeights 110 = .ok (.aload_n 0, 1) := by decide +kernel
theorem dX7_mixedWeights_111 : decode cX7_mixedWeights 111 = .ok (.getfield 35, 3) := by decide +kernel
theorem dX7_mixedWeights_114 : decode cX7_mixedWeights 114 = .ok (.iload 5, 2) := by decide +kernel
theorem dX7_mixedWeights_116 : decode cX7_mixedWeights 116 = .ok (.iload 6, 2) := by decide +kernel
theorem dX7_mixedWeights_118 : decode cX7_mixedWeights 118 = .ok (.invokevirtual 272, 3) := by decide +kernel
theorem dX7_mixedWeights_121 : decode cX7_mixedWeights 121 = .ok (.i2l, 1) := by decide +kernel
theorem dX7_mixedWeights_122 : decode cX7_mixedWeights 122 = .ok (.invokestatic 287, 3) := by decide +kernel
theorem dX7_mixedWeights_125 : decode cX7_mixedWeights 125 = .ok (.lstore_n 3, 1) := by decide +kernel
theorem dX7_mixedWeights_126 : decode cX7_mixedWeights 126 = .ok (.iinc 6 1, 3) := by decide +kernel
theorem dX7_mixedWeights_129 : decode cX7_mixedWeights 129 = .ok (.goto (-29), 3) := by decide +kernel
theorem dX7_mixedWeights_132 : decode cX7_mixedWeights 132 = .ok (.iinc 5 1, 3) := by decide +kernel
theorem dX7_mixedWeights_135 : decode cX7_mixedWeights 135 = .ok (.goto (-80), 3) := by decide +kernel
theorem dX7_mixedWeights_138 : decode cX7_mixedWeights 138 = .ok (.lload_n 3, 1) := by decide +kernel
theorem dX7_mixedWeights_139 : decode cX7_mixedWeights 139 = .ok (.aload_n 0, 1) := by decide +kernel
theorem dX7_mixedWeights_140 : decode cX7_mixedWeights 140 = .ok (.getfield 35, 3) := by decide +kernel
theorem dX7_mixedWeights_143 : decode cX7_mixedWeights 143 = .ok (.sipush 1000, 3) := by decide +kernel
theorem dX7_mixedWeights_146 : decode cX7_mixedWeights 146 = .ok (.invokevirtual 278, 3) := by decide +kernel
theorem dX7_mixedWeights_149 : decode cX7_mixedWeights 149 = .ok (.i2l, 1) := by decide +kernel
theorem dX7_mixedWeights_150 : decode cX7_mixedWeights 150 = .ok (.invokestatic 287, 3) := by decide +kernel
theorem dX7_mixedWeights_153 : decode cX7_mixedWeights 153 = .ok (.lreturn, 1) := by decide +kernel
theorem dX7_bitsOf_0 : decode cX7_bitsOf 0 = .ok (.dload_n 0, 1) := by decide +kernel
theorem dX7_bitsOf_1 : decode cX7_bitsOf 1 = .ok (.dconst 0, 1) := by decide +kernel
theorem dX7_bitsOf_2 : decode cX7_bitsOf 2 = .ok (.dcmp .l, 1) := by decide +kernel
theorem dX7_bitsOf_3 : decode cX7_bitsOf 3 = .ok (.ifCond .gt 5, 3) := by decide +kernel
theorem dX7_bitsOf_6 : decode cX7_bitsOf 6 = .ok (.lconst 0, 1) := by decide +kernel
theorem dX7_bitsOf_7 : decode cX7_bitsOf 7 = .ok (.lreturn, 1) := by decide +kernel
theorem dX7_bitsOf_8 : decode cX7_bitsOf 8 = .ok (.dload_n 0, 1) := by decide +kernel
theorem dX7_bitsOf_9 : decode cX7_bitsOf 9 = .ok (.dstore_n 2, 1) := by decide +kernel
theorem dX7_bitsOf_10 : decode cX7_bitsOf 10 = .ok (.ldc2_w 328, 3) := by decide +kernel
theorem dX7_bitsOf_13 : decode cX7_bitsOf 13 = .ok (.lstore 4, 2) := by decide +kernel
theorem dX7_bitsOf_15 : decode cX7_bitsOf 15 = .ok (.iconst 0, 1) := by decide +kernel
theorem dX7_bitsOf_16 : decode cX7_bitsOf 16 = .ok (.istore 6, 2) := by decide +kernel
theorem dX7_bitsOf_18 : decode cX7_bitsOf 18 = .ok (.iload 6, 2) := by decide +kernel
theorem dX7_bitsOf_20 : decode cX7_bitsOf 20 = .ok (.sipush 1022, 3) := by decide +kernel
theorem dX7_bitsOf_23 : decode cX7_bitsOf 23 = .ok (.if_icmp .ge 27, 3) := by decide +kernel
theorem dX7_bitsOf_26 : decode cX7_bitsOf 26 = .ok (.dload_n 2, 1) := by decide +kernel
theorem dX7_bitsOf_27 : decode cX7_bitsOf 27 = .ok (.dconst 1, 1) := by decide +kernel
theorem dX7_bitsOf_28 : decode cX7_bitsOf 28 = .ok (.dcmp .g, 1) := by decide +kernel
theorem dX7_bitsOf_29 : decode cX7_bitsOf 29 = .ok (.ifCond .ge 21, 3) := by decide +kernel
theorem dX7_bitsOf_32 : decode cX7_bitsOf 32 = .ok (.dload_n 2, 1) := by decide +kernel
theorem dX7_bitsOf_33 : decode cX7_bitsOf 33 = .ok (.ldc2_w 330, 3) := by decide +kernel
theorem dX7_bitsOf_36 : decode cX7_bitsOf 36 = .ok (.dmul, 1) := by decide +kernel
theorem dX7_bitsOf_37 : decode cX7_bitsOf 37 = .ok (.dstore_n 2, 1) := by decide +kernel
theorem dX7_bitsOf_38 : decode cX7_bitsOf 38 = .ok (.lload 4, 2) := by decide +kernel
theorem dX7_bitsOf_40 : decode cX7_bitsOf 40 = .ok (.lconst 1, 1) := by decide +kernel
theorem dX7_bitsOf_41 : decode cX7_bitsOf 41 = .ok (.lsub, 1) := by decide +kernel
theorem dX7_bitsOf_42 : decode cX7_bitsOf 42 = .ok (.lstore 4, 2) := by decide +kernel
theorem dX7_bitsOf_44 : decode cX7_bitsOf 44 = .ok (.iinc 6 1, 3) := by decide +kernel
theorem dX7_bitsOf_47 : decode cX7_bitsOf 47 = .ok (.goto (-29), 3) := by decide +kernel
theorem dX7_bitsOf_50 : decode cX7_bitsOf 50 = .ok (.dload_n 2, 1) := by decide +kernel
theorem dX7_bitsOf_51 : decode cX7_bitsOf 51 = .ok (.dconst 1, 1) := by decide +kernel
theorem dX7_bitsOf_52 : decode cX7_bitsOf 52 = .ok (.dsub, 1) := by decide +kernel
theorem dX7_bitsOf_53 : decode cX7_bitsOf 53 = .ok (.ldc2_w 332, 3) := by decide +kernel
theorem dX7_bitsOf_56 : decode cX7_bitsOf 56 = .ok (.dmul, 1) := by decide +kernel
theorem dX7_bitsOf_57 : decode cX7_bitsOf 57 = .ok (.d2l, 1) := by decide +kernel
theorem dX7_bitsOf_58 : decode cX7_bitsOf 58 = .ok (.lstore 6, 2) := by decide +kernel
theorem dX7_bitsOf_60 : decode cX7_bitsOf 60 = .ok (.lload 4, 2) := by decide +kernel
theorem dX7_bitsOf_62 : decode cX7_bitsOf 62 = .ok (.bipush 52, 2) := by decide +kernel
theorem dX7_bitsOf_64 : decode cX7_bitsOf 64 = .ok (.lshl, 1) := by decide +kernel
theorem dX7_bitsOf_65 : decode cX7_bitsOf 65 = .ok (.lload 6, 2) := by decide +kernel
theorem dX7_bitsOf_67 : decode cX7_bitsOf 67 = .ok (.ladd, 1) := by decide +kernel
theorem dX7_bitsOf_68 : decode cX7_bitsOf 68 = .ok (.lreturn, 1) := by decide +kernel
theorem dX7_numberIn_0 : decode cX7_numberIn 0 = .ok (.aload_n 0, 1) := by decide +kernel
theorem dX7_numberIn_1 : decode cX7_numberIn 1 = .ok (.ifnull 13, 3) := by decide +kernel
theorem dX7_numberIn_4 : decode cX7_numberIn 4 = .ok (.iload_n 1, 1) := by decide +kernel
theorem dX7_numberIn_5 : decode cX7_numberIn 5 = .ok (.ifCond .lt 9, 3) := by decide +kernel
theorem dX7_numberIn_8 : decode cX7_numberIn 8 = .ok (.iload_n 1, 1) := by decide +kernel
theorem dX7_numberIn_9 : decode cX7_numberIn 9 = .ok (.aload_n 0, 1) := by decide +kernel
theorem dX7_numberIn_10 : decode cX7_numberIn 10 = .ok (.arraylength, 1) := by decide +kernel
theorem dX7_numberIn_11 : decode cX7_numberIn 11 = .ok (.if_icmp .lt 7, 3) := by decide +kernel
theorem dX7_numberIn_14 : decode cX7_numberIn 14 = .ok (.iconst 0, 1) := by decide +kernel
theorem dX7_numberIn_15 : decode cX7_numberIn 15 = .ok (.goto 6, 3) := by decide +kernel
theorem dX7_numberIn_18 : decode cX7_numberIn 18 = .ok (.aload_n 0, 1) := by decide +kernel
theorem dX7_numberIn_19 : decode cX7_numberIn 19 = .ok (.iload_n 1, 1) := by decide +kernel
theorem dX7_numberIn_20 : decode cX7_numberIn 20 = .ok (.iaload, 1) := by decide +kernel
theorem dX7_numberIn_21 : decode cX7_numberIn 21 = .ok (.ireturn, 1) := by decide +kernel
theorem dX7_setIn_0 : decode cX7_setIn 0 = .ok (.aload_n 0, 1) := by decide +kernel
theorem dX7_setIn_1 : decode cX7_setIn 1 = .ok (.ifnull 17, 3) := by decide +kernel
theorem dX7_setIn_4 : decode cX7_setIn 4 = .ok (.iload_n 1, 1) := by decide +kernel
theorem dX7_setIn_5 : decode cX7_setIn 5 = .ok (.ifCond .lt 13, 3) := by decide +kernel
theorem dX7_setIn_8 : decode cX7_setIn 8 = .ok (.iload_n 1, 1) := by decide +kernel
theorem dX7_setIn_9 : decode cX7_setIn 9 = .ok (.aload_n 0, 1) := by decide +kernel
theorem dX7_setIn_10 : decode cX7_setIn 10 = .ok (.arraylength, 1) := by decide +kernel
theorem dX7_setIn_11 : decode cX7_setIn 11 = .ok (.if_icmp .ge 7, 3) := by decide +kernel
theorem dX7_setIn_14 : decode cX7_setIn 14 = .ok (.aload_n 0, 1) := by decide +kernel
theorem dX7_setIn_15 : decode cX7_setIn 15 = .ok (.iload_n 1, 1) := by decide +kernel
theorem dX7_setIn_16 : decode cX7_setIn 16 = .ok (.iload_n 2, 1) := by decide +kernel
theorem dX7_setIn_17 : decode cX7_setIn 17 = .ok (.iastore, 1) := by decide +kernel
theorem dX7_setIn_18 : decode cX7_setIn 18 = .ok (.return_, 1) := by decide +kernel
theorem dX7_copyAll_0 : decode cX7_copyAll 0 = .ok (.aload_n 0, 1) := by decide +kernel
theorem dX7_copyAll_1 : decode cX7_copyAll 1 = .ok (.ifnull 7, 3) := by decide +kernel
theorem dX7_copyAll_4 : decode cX7_copyAll 4 = .ok (.aload_n 1, 1) := by decide +kernel
theorem dX7_copyAll_5 : decode cX7_copyAll 5 = .ok (.ifnonnull 4, 3) := by decide +kernel
theorem dX7_copyAll_8 : decode cX7_copyAll 8 = .ok (.return_, 1) := by decide +kernel
theorem dX7_copyAll_9 : decode cX7_copyAll 9 = .ok (.iconst 0, 1) := by decide +kernel
theorem dX7_copyAll_10 : decode cX7_copyAll 10 = .ok (.istore_n 2, 1) := by decide +kernel
theorem dX7_copyAll_11 : decode cX7_copyAll 11 = .ok (.iload_n 2, 1) := by decide +kernel
theorem dX7_copyAll_12 : decode cX7_copyAll 12 = .ok (.aload_n 0, 1) := by decide +kernel
theorem dX7_copyAll_13 : decode cX7_copyAll 13 = .ok (.arraylength, 1) := by decide +kernel
theorem dX7_copyAll_14 : decode cX7_copyAll 14 = .ok (.if_icmp .ge 21, 3) := by decide +kernel
theorem dX7_copyAll_17 : decode cX7_copyAll 17 = .ok (.iload_n 2, 1) := by decide +kernel
theorem dX7_copyAll_18 : decode cX7_copyAll 18 = .ok (.aload_n 1, 1) := by decide +kernel
theorem dX7_copyAll_19 : decode cX7_copyAll 19 = .ok (.arraylength, 1) := by decide +kernel
theorem dX7_copyAll_20 : decode cX7_copyAll 20 = .ok (.if_icmp .ge 15, 3) := by decide +kernel
theorem dX7_copyAll_23 : decode cX7_copyAll 23 = .ok (.aload_n 1, 1) := by decide +kernel
theorem dX7_copyAll_24 : decode cX7_copyAll 24 = .ok (.iload_n 2, 1) := by decide +kernel
theorem dX7_copyAll_25 : decode cX7_copyAll 25 = .ok (.aload_n 0, 1) := by decide +kernel
theorem dX7_copyAll_26 : decode cX7_copyAll 26 = .ok (.iload_n 2, 1) := by decide +kernel
theorem dX7_copyAll_27 : decode cX7_copyAll 27 = .ok (.iaload, 1) := by decide +kernel
theorem dX7_copyAll_28 : decode cX7_copyAll 28 = .ok (.iastore, 1) := by decide +kernel
theorem dX7_copyAll_29 : decode cX7_copyAll 29 = .ok (.iinc 2 1, 3) := by decide +kernel
theorem dX7_copyAll_32 : decode cX7_copyAll 32 = .ok (.goto (-21), 3) := by decide +kernel
theorem dX7_copyAll_35 : decode cX7_copyAll 35 = .ok (.return_, 1) := by decide +kernel
theorem dX8_init_0 : decode cX8_init 0 = .ok (.aload_n 0, 1) := by decide +kernel
theorem dX8_init_1 : decode cX8_init 1 = .ok (.invokespecial 1, 3) := by decide +kernel
theorem dX8_init_4 : decode cX8_init 4 = .ok (.aload_n 0, 1) := by decide +kernel
theorem dX8_init_5 : decode cX8_init 5 = .ok (.bipush 116, 2) := by decide +kernel
theorem dX8_init_7 : decode cX8_init 7 = .ok (.newarray .int, 2) := by decide +kernel
theorem dX8_init_9 : decode cX8_init 9 = .ok (.putfield 7, 3) := by decide +kernel
theorem dX8_init_12 : decode cX8_init 12 = .ok (.aload_n 0, 1) := by decide +kernel
theorem dX8_init_13 : decode cX8_init 13 = .ok (.sipush 696, 3) := by decide +kernel
theorem dX8_init_16 : decode cX8_init 16 = .ok (.newarray .int, 2) := by decide +kernel
theorem dX8_init_18 : decode cX8_init 18 = .ok (.putfield 13, 3) := by decide +kernel
theorem dX8_init_21 : decode cX8_init 21 = .ok (.aload_n 0, 1) := by decide +kernel
theorem dX8_init_22 : decode cX8_init 22 = .ok (.sipush 232, 3) := by decide +kernel
theorem dX8_init_25 : decode cX8_init 25 = .ok (.newarray .int, 2) := by decide +kernel
theorem dX8_init_27 : decode cX8_init 27 = .ok (.putfield 16, 3) := by decide +kernel
theorem dX8_init_30 : decode cX8_init 30 = .ok (.aload_n 0, 1) := by decide +kernel
theorem dX8_init_31 : decode cX8_init 31 = .ok (.iconst 2, 1) := by decide +kernel
theorem dX8_init_32 : decode cX8_init 32 = .ok (.newarray .int, 2) := by decide +kernel
theorem dX8_init_34 : decode cX8_init 34 = .ok (.putfield 19, 3) := by decide +kernel
theorem dX8_init_37 : decode cX8_init 37 = .ok (.aload_n 0, 1) := by decide +kernel
theorem dX8_init_38 : decode cX8_init 38 = .ok (.bipush 60, 2) := by decide +kernel
theorem dX8_init_40 : decode cX8_init 40 = .ok (.newarray .int, 2) := by decide +kernel
theorem dX8_init_42 : decode cX8_init 42 = .ok (.putfield 22, 3) := by decide +kernel
theorem dX8_init_45 : decode cX8_init 45 = .ok (.aload_n 0, 1) := by decide +kernel
theorem dX8_init_46 : decode cX8_init 46 = .ok (.bipush 10, 2) := by decide +kernel
theorem dX8_init_48 : decode cX8_init 48 = .ok (.newarray .int, 2) := by decide +kernel
theorem dX8_init_50 : decode cX8_init 50 = .ok (.putfield 25, 3) := by decide +kernel
theorem dX8_init_53 : decode cX8_init 53 = .ok (.aload_n 0, 1) := by decide +kernel
theorem dX8_init_54 : decode cX8_init 54 = .ok (.bipush 48, 2) := by decide +kernel
theorem dX8_init_56 : decode cX8_init 56 = .ok (.newarray .int, 2) := by decide +kernel
theorem dX8_init_58 : decode cX8_init 58 = .ok (.putfield 28, 3) := by decide +kernel
theorem dX8_init_61 : decode cX8_init 61 = .ok (.aload_n 0, 1) := by decide +kernel
theorem dX8_init_62 : decode cX8_init 62 = .ok (.bipush 50, 2) := by decide +kernel
theorem dX8_init_64 : decode cX8_init 64 = .ok (.newarray .int, 2) := by decide +kernel
theorem dX8_init_66 : decode cX8_init 66 = .ok (.putfield 31, 3) := by decide +kernel
theorem dX8_init_69 : decode cX8_init 69 = .ok (.aload_n 0, 1) := by decide +kernel
theorem dX8_init_70 : decode cX8_init 70 = .ok (.iconst 5, 1) := by decide +kernel
theorem dX8_init_71 : decode cX8_init 71 = .ok (.newarray .int, 2) := by decide +kernel
theorem dX8_init_73 : decode cX8_init 73 = .ok (.putfield 34, 3) := by decide +kernel
theorem dX8_init_76 : decode cX8_init 76 = .ok (.aload_n 0, 1) := by decide +kernel
theorem dX8_init_77 : decode cX8_init 77 = .ok (.bipush 100, 2) := by decide +kernel
theorem dX8_init_79 : decode cX8_init 79 = .ok (.newarray .int, 2) := by decide +kernel
theorem dX8_init_81 : decode cX8_init 81 = .ok (.putfield 37, 3) := by decide +kernel
theorem dX8_init_84 : decode cX8_init 84 = .ok (.aload_n 0, 1) := by decide +kernel
theorem dX8_init_85 : decode cX8_init 85 = .ok (.bipush 121, 2) := by decide +kernel
theorem dX8_init_87 : decode cX8_init 87 = .ok (.newarray .int, 2) := by decide +kernel
theorem dX8_init_89 : decode cX8_init 89 = .ok (.putfield 40, 3) := by decide +kernel
theorem dX8_init_92 : decode cX8_init 92 = .ok (.aload_n 0, 1) := by decide +kernel
theorem dX8_init_93 : decode cX8_init 93 = .ok (.bipush 121, 2) := by decide +kernel
theorem dX8_init_95 : decode cX8_init 95 = .ok (.newarray .int, 2) := by decide +kernel
theorem dX8_init_97 : decode cX8_init 97 = .ok (.putfield 43, 3) := by decide +kernel
theorem dX8_init_100 : decode cX8_init 100 = .ok (.aload_n 0, 1) := by decide +kernel
theorem dX8_init_101 : decode cX8_init 101 = .ok (.getfield 7, 3) := by decide +kernel
theorem dX8_init_104 : decode cX8_init 104 = .ok (.iconst 0, 1) := by decide +kernel
theorem dX8_init_105 : decode cX8_init 105 = .ok (.iconst 4, 1) := by decide +kernel
theorem dX8_init_106 : decode cX8_init 106 = .ok (.iastore, 1) := by decide +kernel
theorem dX8_init_107 : decode cX8_init 107 = .ok (.aload_n 0, 1) := by decide +kernel
theorem dX8_init_108 : decode cX8_init 108 = .ok (.getfield 7, 3) := by decide +kernel
theorem dX8_init_111 : decode cX8_init 111 = .ok (.iconst 1, 1) := by decide +kernel
theorem dX8_init_112 : decode cX8_init 112 = .ok (.iconst 4, 1) := by decide +kernel
theorem dX8_init_113 : decode cX8_init 113 = .ok (.iastore, 1) := by decide +kernel
theorem dX8_init_114 : decode cX8_init 114 = .ok (.aload_n 0, 1) := by decide +kernel
theorem dX8_init_115 : decode cX8_init 115 = .ok (.getfield 7, 3) := by decide +kernel
theorem dX8_init_118 : decode cX8_init 118 = .ok (.iconst 5, 1) := by decide +kernel
theorem dX8_init_119 : decode cX8_init 119 = .ok (.iconst 1, 1) := by decide +kernel
theorem dX8_init_120 : decode cX8_init 120 = .ok (.iastore, 1) := by decide +kernel
theorem dX8_init_121 : decode cX8_init 121 = .ok (.aload_n 0, 1) := by decide +kernel
theorem dX8_init_122 : decode cX8_init 122 = .ok (.getfield 7, 3) := by decide +kernel
theorem dX8_init_125 : decode cX8_init 125 = .ok (.bipush 6, 2) := by decide +kernel
theorem dX8_init_127 : decode cX8_init 127 = .ok (.iconst 1, 1) := by decide +kernel
theorem dX8_init_128 : decode cX8_init 128 = .ok (.iastore, 1) := by decide +kernel
theorem dX8_init_129 : decode cX8_init 129 = .ok (.return_, 1) := by decide +kernel
theorem dX8_thrown_0 : decode cX8_thrown 0 = .ok (.aload_n 0, 1) := by decide +kernel
theorem dX8_thrown_1 : decode cX8_thrown 1 = .ok (.getfield 46, 3) := by decide +kernel
theorem dX8_thrown_4 : decode cX8_thrown 4 = .ok (.ireturn, 1) := by decide +kernel
theorem dX8_refuses_0 : decode cX8_refuses 0 = .ok (.aload_n 0, 1) := by decide +kernel
theorem dX8_refuses_1 : decode cX8_refuses 1 = .ok (.iload_n 1, 1) := by decide +kernel
theorem dX8_refuses_2 : decode cX8_refuses 2 = .ok (.putfield 46, 3) := by decide +kernel
theorem dX8_refuses_5 : decode cX8_refuses 5 = .ok (.iconst 0, 1) := by decide +kernel
theorem dX8_refuses_6 : decode cX8_refuses 6 = .ok (.ireturn, 1) := by decide +kernel
theorem dX8_in_0 : decode cX8_in 0 = .ok (.iload_n 0, 1) := by decide +kernel
theorem dX8_in_1 : decode cX8_in 1 = .ok (.iload_n 1, 1) := by decide +kernel
theorem dX8_in_2 : decode cX8_in 2 = .ok (.if_icmp .lt 12, 3) := by decide +kernel
theorem dX8_in_5 : decode cX8_in 5 = .ok (.iload_n 0, 1) := by decide +kernel
theorem dX8_in_6 : decode cX8_in 6 = .ok (.iload_n 2, 1) := by decide +kernel
theorem dX8_in_7 : decode cX8_in 7 = .ok (.if_icmp .gt 7, 3) := by decide +kernel
theorem dX8_in_10 : decode cX8_in 10 = .ok (.iconst 1, 1) := by decide +kernel
theorem dX8_in_11 : decode cX8_in 11 = .ok (.goto 4, 3) := by decide +kernel
theorem dX8_in_14 : decode cX8_in 14 = .ok (.iconst 0, 1) := by decide +kernel
theorem dX8_in_15 : decode cX8_in 15 = .ok (.ireturn, 1) := by decide +kernel
theorem dX8_lays_0 : decode cX8_lays 0 = .ok (.iconst 0, 1) := by decide +kernel
theorem dX8_lays_1 : decode cX8_lays 1 = .ok (.istore 4, 2) := by decide +kernel
theorem dX8_lays_3 : decode cX8_lays 3 = .ok (.iload 4, 2) := by decide +kernel
theorem dX8_lays_5 : decode cX8_lays 5 = .ok (.bipush 116, 2) := by decide +kernel
theorem dX8_lays_7 : decode cX8_lays 7 = .ok (.if_icmp .ge 21, 3) := by decide +kernel
theorem dX8_lays_10 : decode cX8_lays 10 = .ok (.aload_n 2, 1) := by decide +kernel
theorem dX8_lays_11 : decode cX8_lays 11 = .ok (.iload_n 3, 1) := by decide +kernel
theorem dX8_lays_12 : decode cX8_lays 12 = .ok (.iload 4, 2) := by decide +kernel
theorem dX8_lays_14 : decode cX8_lays 14 = .ok (.iadd, 1) := by decide +kernel
theorem dX8_lays_15 : decode cX8_lays 15 = .ok (.aload_n 0, 1) := by decide +kernel
theorem dX8_lays_16 : decode cX8_lays 16 = .ok (.iload_n 1, 1) := by decide +kernel
theorem dX8_lays_17 : decode cX8_lays 17 = .ok (.iload 4, 2) := by decide +kernel
theorem dX8_lays_19 : decode cX8_lays 19 = .ok (.iadd, 1) := by decide +kernel
theorem dX8_lays_20 : decode cX8_lays 20 = .ok (.iaload, 1) := by decide +kernel
theorem dX8_lays_21 : decode cX8_lays 21 = .ok (.iastore, 1) := by decide +kernel
theorem dX8_lays_22 : decode cX8_lays 22 = .ok (.iinc 4 1, 3) := by decide +kernel
theorem dX8_lays_25 : decode cX8_lays 25 = .ok (.goto (-22), 3) := by decide +kernel
theorem dX8_lays_28 : decode cX8_lays 28 = .ok (.return_, 1) := by decide +kernel
theorem dX8_saves_0 : decode cX8_saves 0 = .ok (.aload_n 0, 1) := by decide +kernel
theorem dX8_saves_1 : decode cX8_saves 1 = .ok (.getfield 50, 3) := by decide +kernel
theorem dX8_saves_4 : decode cX8_saves 4 = .ok (.bipush 6, 2) := by decide +kernel
theorem dX8_saves_6 : decode cX8_saves 6 = .ok (.if_icmp .ne 43, 3) := by decide +kernel
theorem dX8_saves_9 : decode cX8_saves 9 = .ok (.iconst 0, 1) := by decide +kernel
theorem dX8_saves_10 : decode cX8_saves 10 = .ok (.istore_n 1, 1) := by decide +kernel
theorem dX8_saves_11 : decode cX8_saves 11 = .ok (.iload_n 1, 1) := by decide +kernel
theorem dX8_saves_12 : decode cX8_saves 12 = .ok (.sipush 580, 3) := by decide +kernel
theorem dX8_saves_15 : decode cX8_saves 15 = .ok (.if_icmp .ge 24, 3) := by decide +kernel
theorem dX8_saves_18 : decode cX8_saves 18 = .ok (.aload_n 0, 1) := by decide +kernel
theorem dX8_saves_19 : decode cX8_saves 19 = .ok (.getfield 13, 3) := by decide +kernel
theorem dX8_saves_22 : decode cX8_saves 22 = .ok (.iload_n 1, 1) := by decide +kernel
theorem dX8_saves_23 : decode cX8_saves 23 = .ok (.aload_n 0, 1) := by decide +kernel
theorem dX8_saves_24 : decode cX8_saves 24 = .ok (.getfield 13, 3) := by decide +kernel
theorem dX8_saves_27 : decode cX8_saves 27 = .ok (.iload_n 1, 1) := by decide +kernel
theorem dX8_saves_28 : decode cX8_saves 28 = .ok (.bipush 116, 2) := by decide +kernel
theorem dX8_saves_30 : decode cX8_saves 30 = .ok (.iadd, 1) := by decide +kernel
theorem dX8_saves_31 : decode cX8_saves 31 = .ok (.iaload, 1) := by decide +kernel
theorem dX8_saves_32 : decode cX8_saves 32 = .ok (.iastore, 1) := by decide +kernel
theorem dX8_saves_33 : decode cX8_saves 33 = .ok (.iinc 1 1, 3) := by decide +kernel
theorem dX8_saves_36 : decode cX8_saves 36 = .ok (.goto (-25), 3) := by decide +kernel
theorem dX8_saves_39 : decode cX8_saves 39 = .ok (.aload_n 0, 1) := by decide +kernel
theorem dX8_saves_40 : decode cX8_saves 40 = .ok (.dup, 1) := by decide +kernel
theorem dX8_saves_41 : decode cX8_saves 41 = .ok (.getfield 50, 3) := by decide +kernel
theorem dX8_saves_44 : decode cX8_saves 44 = .ok (.iconst 1, 1) := by decide +kernel
theorem dX8_saves_45 : decode cX8_saves 45 = .ok (.isub, 1) := by decide +kernel
theorem dX8_saves_46 : decode cX8_saves 46 = .ok (.putfield 50, 3) := by decide +kernel
theorem dX8_saves_49 : decode cX8_saves 49 = .ok (.aload_n 0, 1) := by decide +kernel
theorem dX8_saves_50 : decode cX8_saves 50 = .ok (.getfield 7, 3) := by decide +kernel
theorem dX8_saves_53 : decode cX8_saves 53 = .ok (.iconst 0, 1) := by decide +kernel
theorem dX8_saves_54 : decode cX8_saves 54 = .ok (.aload_n 0, 1) := by decide +kernel
theorem dX8_saves_55 : decode cX8_saves 55 = .ok (.getfield 13, 3) := by decide +kernel
theorem dX8_saves_58 : decode cX8_saves 58 = .ok (.bipush 116, 2) := by decide +kernel
theorem dX8_saves_60 : decode cX8_saves 60 = .ok (.aload_n 0, 1) := by decide +kernel
theorem dX8_saves_61 : decode cX8_saves 61 = .ok (.getfield 50, 3) := by decide +kernel
theorem dX8_saves_64 : decode cX8_saves 64 = .ok (.imul, 1) := by decide +kernel
theorem dX8_saves_65 : decode cX8_saves 65 = .ok (.invokestatic 53, 3) := by decide +kernel
theorem dX8_saves_68 : decode cX8_saves 68 = .ok (.aload_n 0, 1) := by decide +kernel
theorem dX8_saves_69 : decode cX8_saves 69 = .ok (.dup, 1) := by decide +kernel
theorem dX8_saves_70 : decode cX8_saves 70 = .ok (.getfield 50, 3) := by decide +kernel
theorem dX8_saves_73 : decode cX8_saves 73 = .ok (.iconst 1, 1) := by decide +kernel
theorem dX8_saves_74 : decode cX8_saves 74 = .ok (.iadd, 1) := by decide +kernel
theorem dX8_saves_75 : decode cX8_saves 75 = .ok (.putfield 50, 3) := by decide +kernel
theorem dX8_saves_78 : decode cX8_saves 78 = .ok (.return_, 1) := by decide +kernel
theorem dX8_at_0 : decode cX8_at 0 = .ok (.aload_n 0, 1) := by decide +kernel
theorem dX8_at_1 : decode cX8_at 1 = .ok (.getfield 7, 3) := by decide +kernel
theorem dX8_at_4 : decode cX8_at 4 = .ok (.bipush 16, 2) := by decide +kernel
theorem dX8_at_6 : decode cX8_at 6 = .ok (.bipush 10, 2) := by decide +kernel
theorem dX8_at_8 : decode cX8_at 8 = .ok (.iload_n 1, 1) := by decide +kernel
theorem dX8_at_9 : decode cX8_at 9 = .ok (.imul, 1) := by decide +kernel
theorem dX8_at_10 : decode cX8_at 10 = .ok (.iadd, 1) := by decide +kernel
theorem dX8_at_11 : decode cX8_at 11 = .ok (.iload_n 2, 1) := by decide +kernel
theorem dX8_at_12 : decode cX8_at 12 = .ok (.iadd, 1) := by decide +kernel
theorem dX8_at_13 : decode cX8_at 13 = .ok (.iaload, 1) := by decide +kernel
theorem dX8_at_14 : decode cX8_at 14 = .ok (.ireturn, 1) := by decide +kernel
theorem dX8_becomes_0 : decode cX8_becomes 0 = .ok (.aload_n 0, 1) := by decide +kernel
theorem dX8_becomes_1 : decode cX8_becomes 1 = .ok (.getfield 7, 3) := by decide +kernel
theorem dX8_becomes_4 : decode cX8_becomes 4 = .ok (.bipush 16, 2) := by decide +kernel
theorem dX8_becomes_6 : decode cX8_becomes 6 = .ok (.bipush 10, 2) := by decide +kernel
theorem dX8_becomes_8 : decode cX8_becomes 8 = .ok (.iload_n 1, 1) := by decide +kernel
theorem dX8_becomes_9 : decode cX8_becomes 9 = .ok (.imul, 1) := by decide +kernel
theorem dX8_becomes_10 : decode cX8_becomes 10 = .ok (.iadd, 1) := by decide +kernel
theorem dX8_becomes_11 : decode cX8_becomes 11 = .ok (.iload_n 2, 1) := by decide +kernel
theorem dX8_becomes_12 : decode cX8_becomes 12 = .ok (.iadd, 1) := by decide +kernel
theorem dX8_becomes_13 : decode cX8_becomes 13 = .ok (.iload_n 3, 1) := by decide +kernel
theorem dX8_becomes_14 : decode cX8_becomes 14 = .ok (.iastore, 1) := by decide +kernel
theorem dX8_becomes_15 : decode cX8_becomes 15 = .ok (.return_, 1) := by decide +kernel
theorem dX8_isAgainst_0 : decode cX8_isAgainst 0 = .ok (.aload_n 0, 1) := by decide +kernel
theorem dX8_isAgainst_1 : decode cX8_isAgainst 1 = .ok (.iload_n 1, 1) := by decide +kernel
theorem dX8_isAgainst_2 : decode cX8_isAgainst 2 = .ok (.iload_n 2, 1) := by decide +kernel
theorem dX8_isAgainst_3 : decode cX8_isAgainst 3 = .ok (.invokevirtual 57, 3) := by decide +kernel
theorem dX8_isAgainst_6 : decode cX8_isAgainst 6 = .ok (.aload_n 0, 1) := by decide +kernel
theorem dX8_isAgainst_7 : decode cX8_isAgainst 7 = .ok (.iload_n 1, 1) := by decide +kernel
theorem dX8_isAgainst_8 : decode cX8_isAgainst 8 = .ok (.iload_n 3, 1) := by decide +kernel
theorem dX8_isAgainst_9 : decode cX8_isAgainst 9 = .ok (.invokevirtual 57, 3) := by decide +kernel
theorem dX8_isAgainst_12 : decode cX8_isAgainst 12 = .ok (.if_icmp .le 26, 3) := by decide +kernel
theorem dX8_isAgainst_15 : decode cX8_isAgainst 15 = .ok (.aload_n 0, 1) := by decide +kernel
theorem dX8_isAgainst_16 : decode cX8_isAgainst 16 = .ok (.iload_n 1, 1) := by decide +kernel
theorem dX8_isAgainst_17 : decode cX8_isAgainst 17 = .ok (.iconst 1, 1) := by decide +kernel
theorem dX8_isAgainst_18 : decode cX8_isAgainst 18 = .ok (.iadd, 1) := by decide +kernel
theorem dX8_isAgainst_19 : decode cX8_isAgainst 19 = .ok (.iload_n 2, 1) := by decide +kernel
theorem dX8_isAgainst_20 : decode cX8_isAgainst 20 = .ok (.invokevirtual 57, 3) := by decide +kernel
theorem dX8_isAgainst_23 : decode cX8_isAgainst 23 = .ok (.aload_n 0, 1) := by decide +kernel
theorem dX8_isAgainst_24 : decode cX8_isAgainst 24 = .ok (.iload_n 1, 1) := by decide +kernel
theorem dX8_isAgainst_25 : decode cX8_isAgainst 25 = .ok (.iconst 1, 1) := by decide +kernel
theorem dX8_isAgainst_26 : decode cX8_isAgainst 26 = .ok (.iadd, 1) := by decide +kernel
theorem dX8_isAgainst_27 : decode cX8_isAgainst 27 = .ok (.iload_n 3, 1) := by decide +kernel
theorem dX8_isAgainst_28 : decode cX8_isAgainst 28 = .ok (.invokevirtual 57, 3) := by decide +kernel
theorem dX8_isAgainst_31 : decode cX8_isAgainst 31 = .ok (.if_icmp .gt 7, 3) := by decide +kernel
theorem dX8_isAgainst_34 : decode cX8_isAgainst 34 = .ok (.iconst 1, 1) := by decide +kernel
theorem dX8_isAgainst_35 : decode cX8_isAgainst 35 = .ok (.goto 4, 3) := by decide +kernel
theorem dX8_isAgainst_38 : decode cX8_isAgainst 38 = .ok (.iconst 0, 1) := by decide +kernel
theorem dX8_isAgainst_39 : decode cX8_isAgainst 39 = .ok (.ireturn, 1) := by decide +kernel
theorem dX8_witnesses_0 : decode cX8_witnesses 0 = .ok (.iconst 0, 1) := by decide +kernel
theorem dX8_witnesses_1 : decode cX8_witnesses 1 = .ok (.istore_n 1, 1) := by decide +kernel
theorem dX8_witnesses_2 : decode cX8_witnesses 2 = .ok (.iconst 0, 1) := by decide +kernel
theorem dX8_witnesses_3 : decode cX8_witnesses 3 = .ok (.istore_n 2, 1) := by decide +kernel
theorem dX8_witnesses_4 : decode cX8_witnesses 4 = .ok (.iload_n 2, 1) := by decide +kernel
theorem dX8_witnesses_5 : decode cX8_witnesses 5 = .ok (.bipush 100, 2) := by decide +kernel
theorem dX8_witnesses_7 : decode cX8_witnesses 7 = .ok (.aload_n 0, 1) := by decide +kernel
theorem dX8_witnesses_8 : decode cX8_witnesses 8 = .ok (.getfield 7, 3) := by decide +kernel
theorem dX8_witnesses_11 : decode cX8_witnesses 11 = .ok (.iconst 0, 1) := by decide +kernel
theorem dX8_witnesses_12 : decode cX8_witnesses 12 = .ok (.iaload, 1) := by decide +kernel
theorem dX8_witnesses_13 : decode cX8_witnesses 13 = .ok (.iconst 1, 1) := by decide +kernel
theorem dX8_witnesses_14 : decode cX8_witnesses 14 = .ok (.isub, 1) := by decide +kernel
theorem dX8_witnesses_15 : decode cX8_witnesses 15 = .ok (.imul, 1) := by decide +kernel
theorem dX8_witnesses_16 : decode cX8_witnesses 16 = .ok (.if_icmp .ge 62, 3) := by decide +kernel
theorem dX8_witnesses_19 : decode cX8_witnesses 19 = .ok (.iload_n 2, 1) := by decide +kernel
theorem dX8_witnesses_20 : decode cX8_witnesses 20 = .ok (.bipush 10, 2) := by decide +kernel
theorem dX8_witnesses_22 : decode cX8_witnesses 22 = .ok (.idiv, 1) := by decide +kernel
theorem dX8_witnesses_23 : decode cX8_witnesses 23 = .ok (.bipush 10, 2) := by decide +kernel
theorem dX8_witnesses_25 : decode cX8_witnesses 25 = .ok (.irem, 1) := by decide +kernel
theorem dX8_witnesses_26 : decode cX8_witnesses 26 = .ok (.istore_n 3, 1) := by decide +kernel
theorem dX8_witnesses_27 : decode cX8_witnesses 27 = .ok (.iload_n 2, 1) := by decide +kernel
theorem dX8_witnesses_28 : decode cX8_witnesses 28 = .ok (.bipush 10, 2) := by decide +kernel
theorem dX8_witnesses_30 : decode cX8_witnesses 30 = .ok (.irem, 1) := by decide +kernel
theorem dX8_witnesses_31 : decode cX8_witnesses 31 = .ok (.istore 4, 2) := by decide +kernel
theorem dX8_witnesses_33 : decode cX8_witnesses 33 = .ok (.iload_n 1, 1) := by decide +kernel
theorem dX8_witnesses_34 : decode cX8_witnesses 34 = .ok (.iload_n 3, 1) := by decide +kernel
theorem dX8_witnesses_35 : decode cX8_witnesses 35 = .ok (.iload 4, 2) := by decide +kernel
theorem dX8_witnesses_37 : decode cX8_witnesses 37 = .ok (.if_icmp .ge 32, 3) := by decide +kernel
theorem dX8_witnesses_40 : decode cX8_witnesses 40 = .ok (.iload 4, 2) := by decide +kernel
theorem dX8_witnesses_42 : decode cX8_witnesses 42 = .ok (.aload_n 0, 1) := by decide +kernel
theorem dX8_witnesses_43 : decode cX8_witnesses 43 = .ok (.getfield 7, 3) := by decide +kernel
theorem dX8_witnesses_46 : decode cX8_witnesses 46 = .ok (.iconst 1, 1) := by decide +kernel
theorem dX8_witnesses_47 : decode cX8_witnesses 47 = .ok (.iaload, 1) := by decide +kernel
theorem dX8_witnesses_48 : decode cX8_witnesses 48 = .ok (.if_icmp .ge 21, 3) := by decide +kernel
theorem dX8_witnesses_51 : decode cX8_witnesses 51 = .ok (.aload_n 0, 1) := by decide +kernel
theorem dX8_witnesses_52 : decode cX8_witnesses 52 = .ok (.iload_n 2, 1) := by decide +kernel
theorem dX8_witnesses_53 : decode cX8_witnesses 53 = .ok (.bipush 100, 2) := by decide +kernel
theorem dX8_witnesses_55 : decode cX8_witnesses 55 = .ok (.idiv, 1) := by decide +kernel
theorem dX8_witnesses_56 : decode cX8_witnesses 56 = .ok (.iload_n 3, 1) := by decide +kernel
theorem dX8_witnesses_57 : decode cX8_witnesses 57 = .ok (.iload 4, 2) := by decide +kernel
theorem dX8_witnesses_59 : decode cX8_witnesses 59 = .ok (.invokevirtual 61, 3) := by decide +kernel
theorem dX8_witnesses_62 : decode cX8_witnesses 62 = .ok (.ifCond .eq 7, 3) := by decide +kernel
theorem dX8_witnesses_65 : decode cX8_witnesses 65 = .ok (.iconst 1, 1) := by decide +kernel
theorem dX8_witnesses_66 : decode cX8_witnesses 66 = .ok (.goto 4, 3) := by decide +kernel
theorem dX8_witnesses_69 : decode cX8_witnesses 69 = .ok (.iconst 0, 1) := by decide +kernel
theorem dX8_witnesses_70 : decode cX8_witnesses 70 = .ok (.iadd, 1) := by decide +kernel
theorem dX8_witnesses_71 : decode cX8_witnesses 71 = .ok (.istore_n 1, 1) := by decide +kernel
theorem dX8_witnesses_72 : decode cX8_witnesses 72 = .ok (.iinc 2 1, 3) := by decide +kernel
theorem dX8_witnesses_75 : decode cX8_witnesses 75 = .ok (.goto (-71), 3) := by decide +kernel
theorem dX8_witnesses_78 : decode cX8_witnesses 78 = .ok (.iload_n 1, 1) := by decide +kernel
theorem dX8_witnesses_79 : decode cX8_witnesses 79 = .ok (.ireturn, 1) := by decide +kernel
theorem dX8_first_0 : decode cX8_first 0 = .ok (.iconst 0, 1) := by decide +kernel
theorem dX8_first_1 : decode cX8_first 1 = .ok (.istore_n 1, 1) := by decide +kernel
theorem dX8_first_2 : decode cX8_first 2 = .ok (.iload_n 1, 1) := by decide +kernel
theorem dX8_first_3 : decode cX8_first 3 = .ok (.bipush 100, 2) := by decide +kernel
theorem dX8_first_5 : decode cX8_first 5 = .ok (.aload_n 0, 1) := by decide +kernel
theorem dX8_first_6 : decode cX8_first 6 = .ok (.getfield 7, 3) := by decide +kernel
theorem dX8_first_9 : decode cX8_first 9 = .ok (.iconst 0, 1) := by decide +kernel
theorem dX8_first_10 : decode cX8_first 10 = .ok (.iaload, 1) := by decide +kernel
theorem dX8_first_11 : decode cX8_first 11 = .ok (.iconst 1, 1) := by decide +kernel
theorem dX8_first_12 : decode cX8_first 12 = .ok (.isub, 1) := by decide +kernel
theorem dX8_first_13 : decode cX8_first 13 = .ok (.imul, 1) := by decide +kernel
theorem dX8_first_14 : decode cX8_first 14 = .ok (.if_icmp .ge 52, 3) := by decide +kernel
theorem dX8_first_17 : decode cX8_first 17 = .ok (.iload_n 1, 1) := by decide +kernel
theorem dX8_first_18 : decode cX8_first 18 = .ok (.bipush 10, 2) := by decide +kernel
theorem dX8_first_20 : decode cX8_first 20 = .ok (.idiv, 1) := by decide +kernel
theorem dX8_first_21 : decode cX8_first 21 = .ok (.bipush 10, 2) := by decide +kernel
theorem dX8_first_23 : decode cX8_first 23 = .ok (.irem, 1) := by decide +kernel
theorem dX8_first_24 : decode cX8_first 24 = .ok (.istore_n 2, 1) := by decide +kernel
theorem dX8_first_25 : decode cX8_first 25 = .ok (.iload_n 1, 1) := by decide +kernel
theorem dX8_first_26 : decode cX8_first 26 = .ok (.bipush 10, 2) := by decide +kernel
theorem dX8_first_28 : decode cX8_first 28 = .ok (.irem, 1) := by decide +kernel
theorem dX8_first_29 : decode cX8_first 29 = .ok (.istore_n 3, 1) := by decide +kernel
theorem dX8_first_30 : decode cX8_first 30 = .ok (.iload_n 2, 1) := by decide +kernel
theorem dX8_first_31 : decode cX8_first 31 = .ok (.iload_n 3, 1) := by decide +kernel
theorem dX8_first_32 : decode cX8_first 32 = .ok (.if_icmp .ge 28, 3) := by decide +kernel
theorem dX8_first_35 : decode cX8_first 35 = .ok (.iload_n 3, 1) := by decide +kernel
theorem dX8_first_36 : decode cX8_first 36 = .ok (.aload_n 0, 1) := by decide +kernel
theorem dX8_first_37 : decode cX8_first 37 = .ok (.getfield 7, 3) := by decide +kernel
theorem dX8_first_40 : decode cX8_first 40 = .ok (.iconst 1, 1) := by decide +kernel
theorem dX8_first_41 : decode cX8_first 41 = .ok (.iaload, 1) := by decide +kernel
theorem dX8_first_42 : decode cX8_first 42 = .ok (.if_icmp .ge 18, 3) := by decide +kernel
theorem dX8_first_45 : decode cX8_first 45 = .ok (.aload_n 0, 1) := by decide +kernel
theorem dX8_first_46 : decode cX8_first 46 = .ok (.iload_n 1, 1) := by decide +kernel
theorem dX8_first_47 : decode cX8_first 47 = .ok (.bipush 100, 2) := by decide +kernel
theorem dX8_first_49 : decode cX8_first 49 = .ok (.idiv, 1) := by decide +kernel
theorem dX8_first_50 : decode cX8_first 50 = .ok (.iload_n 2, 1) := by decide +kernel
theorem dX8_first_51 : decode cX8_first 51 = .ok (.iload_n 3, 1) := by decide +kernel
theorem dX8_first_52 : decode cX8_first 52 = .ok (.invokevirtual 61, 3) := by decide +kernel
theorem dX8_first_55 : decode cX8_first 55 = .ok (.ifCond .eq 5, 3) := by decide +kernel
theorem dX8_first_58 : decode cX8_first 58 = .ok (.iload_n 1, 1) := by decide +kernel
theorem dX8_first_59 : decode cX8_first 59 = .ok (.ireturn, 1) := by decide +kernel
theorem dX8_first_60 : decode cX8_first 60 = .ok (.iinc 1 1, 3) := by decide +kernel
theorem dX8_first_63 : decode cX8_first 63 = .ok (.goto (-61), 3) := by decide +kernel
theorem dX8_first_66 : decode cX8_first 66 = .ok (.iconst (-1), 1) := by decide +kernel
theorem dX8_first_67 : decode cX8_first 67 = .ok (.ireturn, 1) := by decide +kernel
theorem dX8_isKeeping_0 : decode cX8_isKeeping 0 = .ok (.aload_n 0, 1) := by decide +kernel
theorem dX8_isKeeping_1 : decode cX8_isKeeping 1 = .ok (.invokevirtual 65, 3) := by decide +kernel
theorem dX8_isKeeping_4 : decode cX8_isKeeping 4 = .ok (.iconst (-1), 1) := by decide +kernel
theorem dX8_isKeeping_5 : decode cX8_isKeeping 5 = .ok (.if_icmp .ne 7, 3) := by decide +kernel
theorem dX8_isKeeping_8 : decode cX8_isKeeping 8 = .ok (.iconst 1, 1) := by decide +kernel
theorem dX8_isKeeping_9 : decode cX8_isKeeping 9 = .ok (.goto 4, 3) := by decide +kernel
theorem dX8_isKeeping_12 : decode cX8_isKeeping 12 = .ok (.iconst 0, 1) := by decide +kernel
theorem dX8_isKeeping_13 : decode cX8_isKeeping 13 = .ok (.ireturn, 1) := by decide +kernel
theorem dX8_least_0 : decode cX8_least 0 = .ok (.iload_n 2, 1) := by decide +kernel
theorem dX8_least_1 : decode cX8_least 1 = .ok (.istore 4, 2) := by decide +kernel
theorem dX8_least_3 : decode cX8_least 3 = .ok (.iload_n 2, 1) := by decide +kernel
theorem dX8_least_4 : decode cX8_least 4 = .ok (.istore 5, 2) := by decide +kernel
theorem dX8_least_6 : decode cX8_least 6 = .ok (.iload 5, 2) := by decide +kernel
theorem dX8_least_8 : decode cX8_least 8 = .ok (.iload_n 3, 1) := by decide +kernel
theorem dX8_least_9 : decode cX8_least 9 = .ok (.if_icmp .gt 35, 3) := by decide +kernel
theorem dX8_least_12 : decode cX8_least 12 = .ok (.aload_n 0, 1) := by decide +kernel
theorem dX8_least_13 : decode cX8_least 13 = .ok (.iload_n 1, 1) := by decide +kernel
theorem dX8_least_14 : decode cX8_least 14 = .ok (.iload 5, 2) := by decide +kernel
theorem dX8_least_16 : decode cX8_least 16 = .ok (.invokevirtual 57, 3) := by decide +kernel
theorem dX8_least_19 : decode cX8_least 19 = .ok (.aload_n 0, 1) := by decide +kernel
theorem dX8_least_20 : decode cX8_least 20 = .ok (.iload_n 1, 1) := by decide +kernel
theorem dX8_least_21 : decode cX8_least 21 = .ok (.iload 4, 2) := by decide +kernel
theorem dX8_least_23 : decode cX8_least 23 = .ok (.invokevirtual 57, 3) := by decide +kernel
theorem dX8_least_26 : decode cX8_least 26 = .ok (.if_icmp .ge 8, 3) := by decide +kernel
theorem dX8_least_29 : decode cX8_least 29 = .ok (.iload 5, 2) := by decide +kernel
theorem dX8_least_31 : decode cX8_least 31 = .ok (.goto 5, 3) := by decide +kernel
theorem dX8_least_34 : decode cX8_least 34 = .ok (.iload 4, 2) := by decide +kernel
theorem dX8_least_36 : decode cX8_least 36 = .ok (.istore 4, 2) := by decide +kernel
theorem dX8_least_38 : decode cX8_least 38 = .ok (.iinc 5 1, 3) := by decide +kernel
theorem dX8_least_41 : decode cX8_least 41 = .ok (.goto (-35), 3) := by decide +kernel
theorem dX8_least_44 : decode cX8_least 44 = .ok (.aload_n 0, 1) := by decide +kernel
theorem dX8_least_45 : decode cX8_least 45 = .ok (.dup, 1) := by decide +kernel
theorem dX8_least_46 : decode cX8_least 46 = .ok (.getfield 69, 3) := by decide +kernel
theorem dX8_least_49 : decode cX8_least 49 = .ok (.iload_n 3, 1) := by decide +kernel
theorem dX8_least_50 : decode cX8_least 50 = .ok (.iload_n 2, 1) := by decide +kernel
theorem dX8_least_51 : decode cX8_least 51 = .ok (.isub, 1) := by decide +kernel
theorem dX8_least_52 : decode cX8_least 52 = .ok (.iconst 1, 1) := by decide +kernel
theorem dX8_least_53 : decode cX8_least 53 = .ok (.iadd, 1) := by decide +kernel
theorem dX8_least_54 : decode cX8_least 54 = .ok (.iadd, 1) := by decide +kernel
theorem dX8_least_55 : decode cX8_least 55 = .ok (.putfield 69, 3) := by decide +kernel
theorem dX8_least_58 : decode cX8_least 58 = .ok (.iload 4, 2) := by decide +kernel
theorem dX8_least_60 : decode cX8_least 60 = .ok (.ireturn, 1) := by decide +kernel
theorem dX8_byAll_0 : decode cX8_byAll 0 = .ok (.iconst 0, 1) := by decide +kernel
theorem dX8_byAll_1 : decode cX8_byAll 1 = .ok (.istore_n 1, 1) := by decide +kernel
theorem dX8_byAll_2 : decode cX8_byAll 2 = .ok (.iload_n 1, 1) := by decide +kernel
theorem dX8_byAll_3 : decode cX8_byAll 3 = .ok (.aload_n 0, 1) := by decide +kernel
theorem dX8_byAll_4 : decode cX8_byAll 4 = .ok (.getfield 7, 3) := by decide +kernel
theorem dX8_byAll_7 : decode cX8_byAll 7 = .ok (.iconst 0, 1) := by decide +kernel
theorem dX8_byAll_8 : decode cX8_byAll 8 = .ok (.iaload, 1) := by decide +kernel
theorem dX8_byAll_9 : decode cX8_byAll 9 = .ok (.if_icmp .ge 29, 3) := by decide +kernel
theorem dX8_byAll_12 : decode cX8_byAll 12 = .ok (.aload_n 0, 1) := by decide +kernel
theorem dX8_byAll_13 : decode cX8_byAll 13 = .ok (.getfield 25, 3) := by decide +kernel
theorem dX8_byAll_16 : decode cX8_byAll 16 = .ok (.iload_n 1, 1) := by decide +kernel
theorem dX8_byAll_17 : decode cX8_byAll 17 = .ok (.aload_n 0, 1) := by decide +kernel
theorem dX8_byAll_18 : decode cX8_byAll 18 = .ok (.iload_n 1, 1) := by decide +kernel
theorem dX8_byAll_19 : decode cX8_byAll 19 = .ok (.iconst 0, 1) := by decide +kernel
theorem dX8_byAll_20 : decode cX8_byAll 20 = .ok (.aload_n 0, 1) := by decide +kernel
theorem dX8_byAll_21 : decode cX8_byAll 21 = .ok (.getfield 7, 3) := by decide +kernel
theorem dX8_byAll_24 : decode cX8_byAll 24 = .ok (.iconst 1, 1) := by decide +kernel
theorem dX8_byAll_25 : decode cX8_byAll 25 = .ok (.iaload, 1) := by decide +kernel
theorem dX8_byAll_26 : decode cX8_byAll 26 = .ok (.iconst 1, 1) := by decide +kernel
theorem dX8_byAll_27 : decode cX8_byAll 27 = .ok (.isub, 1) := by decide +kernel
theorem dX8_byAll_28 : decode cX8_byAll 28 = .ok (.invokevirtual 72, 3) := by decide +kernel
theorem dX8_byAll_31 : decode cX8_byAll 31 = .ok (.iastore, 1) := by decide +kernel
theorem dX8_byAll_32 : decode cX8_byAll 32 = .ok (.iinc 1 1, 3) := by decide +kernel
theorem dX8_byAll_35 : decode cX8_byAll 35 = .ok (.goto (-33), 3) := by decide +kernel
theorem dX8_byAll_38 : decode cX8_byAll 38 = .ok (.return_, 1) := by decide +kernel
theorem dX8_opens_0 : decode cX8_opens 0 = .ok (.iload_n 1, 1) := by decide +kernel
theorem dX8_opens_1 : decode cX8_opens 1 = .ok (.iload_n 2, 1) := by decide +kernel
theorem dX8_opens_2 : decode cX8_opens 2 = .ok (.if_icmp .gt 68, 3) := by decide +kernel
theorem dX8_opens_5 : decode cX8_opens 5 = .ok (.aload_n 0, 1) := by decide +kernel
theorem dX8_opens_6 : decode cX8_opens 6 = .ok (.getfield 28, 3) := by decide +kernel
theorem dX8_opens_9 : decode cX8_opens 9 = .ok (.iconst 4, 1) := by decide +kernel
theorem dX8_opens_10 : decode cX8_opens 10 = .ok (.aload_n 0, 1) := by decide +kernel
theorem dX8_opens_11 : decode cX8_opens 11 = .ok (.getfield 76, 3) := by decide +kernel
theorem dX8_opens_14 : decode cX8_opens 14 = .ok (.imul, 1) := by decide +kernel
theorem dX8_opens_15 : decode cX8_opens 15 = .ok (.iload_n 1, 1) := by decide +kernel
theorem dX8_opens_16 : decode cX8_opens 16 = .ok (.iastore, 1) := by decide +kernel
theorem dX8_opens_17 : decode cX8_opens 17 = .ok (.aload_n 0, 1) := by decide +kernel
theorem dX8_opens_18 : decode cX8_opens 18 = .ok (.getfield 28, 3) := by decide +kernel
theorem dX8_opens_21 : decode cX8_opens 21 = .ok (.iconst 4, 1) := by decide +kernel
theorem dX8_opens_22 : decode cX8_opens 22 = .ok (.aload_n 0, 1) := by decide +kernel
theorem dX8_opens_23 : decode cX8_opens 23 = .ok (.getfield 76, 3) := by decide +kernel
theorem dX8_opens_26 : decode cX8_opens 26 = .ok (.imul, 1) := by decide +kernel
theorem dX8_opens_27 : decode cX8_opens 27 = .ok (.iconst 1, 1) := by decide +kernel
theorem dX8_opens_28 : decode cX8_opens 28 = .ok (.iadd, 1) := by decide +kernel
theorem dX8_opens_29 : decode cX8_opens 29 = .ok (.iload_n 2, 1) := by decide +kernel
theorem dX8_opens_30 : decode cX8_opens 30 = .ok (.iastore, 1) := by decide +kernel
theorem dX8_opens_31 : decode cX8_opens 31 = .ok (.aload_n 0, 1) := by decide +kernel
theorem dX8_opens_32 : decode cX8_opens 32 = .ok (.getfield 28, 3) := by decide +kernel
theorem dX8_opens_35 : decode cX8_opens 35 = .ok (.iconst 4, 1) := by decide +kernel
theorem dX8_opens_36 : decode cX8_opens 36 = .ok (.aload_n 0, 1) := by decide +kernel
theorem dX8_opens_37 : decode cX8_opens 37 = .ok (.getfield 76, 3) := by decide +kernel
theorem dX8_opens_40 : decode cX8_opens 40 = .ok (.imul, 1) := by decide +kernel
theorem dX8_opens_41 : decode cX8_opens 41 = .ok (.iconst 2, 1) := by decide +kernel
theorem dX8_opens_42 : decode cX8_opens 42 = .ok (.iadd, 1) := by decide +kernel
theorem dX8_opens_43 : decode cX8_opens 43 = .ok (.iload_n 3, 1) := by decide +kernel
theorem dX8_opens_44 : decode cX8_opens 44 = .ok (.iastore, 1) := by decide +kernel
theorem dX8_opens_45 : decode cX8_opens 45 = .ok (.aload_n 0, 1) := by decide +kernel
theorem dX8_opens_46 : decode cX8_opens 46 = .ok (.getfield 28, 3) := by decide +kernel
theorem dX8_opens_49 : decode cX8_opens 49 = .ok (.iconst 4, 1) := by decide +kernel
theorem dX8_opens_50 : decode cX8_opens 50 = .ok (.aload_n 0, 1) := by decide +kernel
theorem dX8_opens_51 : decode cX8_opens 51 = .ok (.getfield 76, 3) := by decide +kernel
theorem dX8_opens_54 : decode cX8_opens 54 = .ok (.imul, 1) := by decide +kernel
theorem dX8_opens_55 : decode cX8_opens 55 = .ok (.iconst 3, 1) := by decide +kernel
theorem dX8_opens_56 : decode cX8_opens 56 = .ok (.iadd, 1) := by decide +kernel
theorem dX8_opens_57 : decode cX8_opens 57 = .ok (.iload 4, 2) := by decide +kernel
theorem dX8_opens_59 : decode cX8_opens 59 = .ok (.iastore, 1) := by decide +kernel
theorem dX8_opens_60 : decode cX8_opens 60 = .ok (.aload_n 0, 1) := by decide +kernel
theorem dX8_opens_61 : decode cX8_opens 61 = .ok (.dup, 1) := by decide +kernel
theorem dX8_opens_62 : decode cX8_opens 62 = .ok (.getfield 76, 3) := by decide +kernel
theorem dX8_opens_65 : decode cX8_opens 65 = .ok (.iconst 1, 1) := by decide +kernel
theorem dX8_opens_66 : decode cX8_opens 66 = .ok (.iadd, 1) := by decide +kernel
theorem dX8_opens_67 : decode cX8_opens 67 = .ok (.putfield 76, 3) := by decide +kernel
theorem dX8_opens_70 : decode cX8_opens 70 = .ok (.return_, 1) := by decide +kernel
theorem dX8_byHalves_0 : decode cX8_byHalves 0 = .ok (.aload_n 0, 1) := by decide +kernel
theorem dX8_byHalves_1 : decode cX8_byHalves 1 = .ok (.iconst 0, 1) := by decide +kernel
theorem dX8_byHalves_2 : decode cX8_byHalves 2 = .ok (.putfield 76, 3) := by decide +kernel
theorem dX8_byHalves_5 : decode cX8_byHalves 5 = .ok (.aload_n 0, 1) := by decide +kernel
theorem dX8_byHalves_6 : decode cX8_byHalves 6 = .ok (.iconst 0, 1) := by decide +kernel
theorem dX8_byHalves_7 : decode cX8_byHalves 7 = .ok (.aload_n 0, 1) := by decide +kernel
theorem dX8_byHalves_8 : decode cX8_byHalves 8 = .ok (.getfield 7, 3) := by decide +kernel
theorem dX8_byHalves_11 : decode cX8_byHalves 11 = .ok (.iconst 0, 1) := by decide +kernel
theorem dX8_byHalves_12 : decode cX8_byHalves 12 = .ok (.iaload, 1) := by decide +kernel
