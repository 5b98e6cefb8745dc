theorem dX7_counted_109 : decode cX7_counted 109 = .ok (.invokevirtual 150, 3) := by decide +kernel
theorem dX7_counted_112 : decode cX7_counted 112 = .ok (.aload_n 0, 1) := by decide +kernel
theorem dX7_counted_113 : decode cX7_counted 113 = .ok (.getfield 28, 3) := by decide +kernel
theorem dX7_counted_116 : decode cX7_counted 116 = .ok (.invokevirtual 317, 3) := by decide +kernel
theorem dX7_counted_119 : decode cX7_counted 119 = .ok (.ireturn, 1) := by decide +kernel
theorem dX7_counted_120 : decode cX7_counted 120 = .ok (.aload_n 0, 1) := by decide +kernel
theorem dX7_counted_121 : decode cX7_counted 121 = .ok (.getfield 49, 3) := by decide +kernel
theorem dX7_counted_124 : decode cX7_counted 124 = .ok (.getfield 230, 3) := by decide +kernel
theorem dX7_counted_127 : decode cX7_counted 127 = .ok (.ireturn, 1) := by decide +kernel
theorem dX7_numberIn_0 : decode cX7_numberIn 0 = .ok (.aload_n 0, 1) := by decide +kernel
theorem dX7_numberIn_1 : decode cX7_numberIn 1 = .ok (.ifnull 13, 3) := by decide +kernel
theorem dX7_numberIn_4 : decode cX7_numberIn 4 = .ok (.iload_n 1, 1) := by decide +kernel
theorem dX7_numberIn_5 : decode cX7_numberIn 5 = .ok (.ifCond .lt 9, 3) := by decide +kernel
theorem dX7_numberIn_8 : decode cX7_numberIn 8 = .ok (.iload_n 1, 1) := by decide +kernel
theorem dX7_numberIn_9 : decode cX7_numberIn 9 = .ok (.aload_n 0, 1) := by decide +kernel
theorem dX7_numberIn_10 : decode cX7_numberIn 10 = .ok (.arraylength, 1) := by decide +kernel
theorem dX7_numberIn_11 : decode cX7_numberIn 11 = .ok (.if_icmp .lt 7, 3) := by decide +kernel
theorem dX7_numberIn_14 : decode cX7_numberIn 14 = .ok (.iconst 0, 1) := by decide +kernel
theorem dX7_numberIn_15 : decode cX7_numberIn 15 = .ok (.goto 6, 3) := by decide +kernel
theorem dX7_numberIn_18 : decode cX7_numberIn 18 = .ok (.aload_n 0, 1) := by decide +kernel
theorem dX7_numberIn_19 : decode cX7_numberIn 19 = .ok (.iload_n 1, 1) := by decide +kernel
theorem dX7_numberIn_20 : decode cX7_numberIn 20 = .ok (.iaload, 1) := by decide +kernel
theorem dX7_numberIn_21 : decode cX7_numberIn 21 = .ok (.ireturn, 1) := by decide +kernel
theorem dX7_setIn_0 : decode cX7_setIn 0 = .ok (.aload_n 0, 1) := by decide +kernel
theorem dX7_setIn_1 : decode cX7_setIn 1 = .ok (.ifnull 17, 3) := by decide +kernel
theorem dX7_setIn_4 : decode cX7_setIn 4 = .ok (.iload_n 1, 1) := by decide +kernel
theorem dX7_setIn_5 : decode cX7_setIn 5 = .ok (.ifCond .lt 13, 3) := by decide +kernel
theorem dX7_setIn_8 : decode cX7_setIn 8 = .ok (.iload_n 1, 1) := by decide +kernel
theorem dX7_setIn_9 : decode cX7_setIn 9 = .ok (.aload_n 0, 1) := by decide +kernel
theorem dX7_setIn_10 : decode cX7_setIn 10 = .ok (.arraylength, 1) := by decide +kernel
theorem dX7_setIn_11 : decode cX7_setIn 11 = .ok (.if_icmp .ge 7, 3) := by decide +kernel
theorem dX7_setIn_14 : decode cX7_setIn 14 = .ok (.aload_n 0, 1) := by decide +kernel
theorem dX7_setIn_15 : decode cX7_setIn 15 = .ok (.iload_n 1, 1) := by decide +kernel
theorem dX7_setIn_16 : decode cX7_setIn 16 = .ok (.iload_n 2, 1) := by decide +kernel
theorem dX7_setIn_17 : decode cX7_setIn 17 = .ok (.iastore, 1) := by decide +kernel
theorem dX7_setIn_18 : decode cX7_setIn 18 = .ok (.return_, 1) := by decide +kernel
theorem dX7_copyAll_0 : decode cX7_copyAll 0 = .ok (.aload_n 0, 1) := by decide +kernel
theorem dX7_copyAll_1 : decode cX7_copyAll 1 = .ok (.ifnull 7, 3) := by decide +kernel
theorem dX7_copyAll_4 : decode cX7_copyAll 4 = .ok (.aload_n 1, 1) := by decide +kernel
theorem dX7_copyAll_5 : decode cX7_copyAll 5 = .ok (.ifnonnull 4, 3) := by decide +kernel
theorem dX7_copyAll_8 : decode cX7_copyAll 8 = .ok (.return_, 1) := by decide +kernel
theorem dX7_copyAll_9 : decode cX7_copyAll 9 = .ok (.iconst 0, 1) := by decide +kernel
theorem dX7_copyAll_10 : decode cX7_copyAll 10 = .ok (.istore_n 2, 1) := by decide +kernel
theorem dX7_copyAll_11 : decode cX7_copyAll 11 = .ok (.iload_n 2, 1) := by decide +kernel
theorem dX7_copyAll_12 : decode cX7_copyAll 12 = .ok (.aload_n 0, 1) := by decide +kernel
theorem dX7_copyAll_13 : decode cX7_copyAll 13 = .ok (.arraylength, 1) := by decide +kernel
theorem dX7_copyAll_14 : decode cX7_copyAll 14 = .ok (.if_icmp .ge 21, 3) := by decide +kernel
theorem dX7_copyAll_17 : decode cX7_copyAll 17 = .ok (.iload_n 2, 1) := by decide +kernel
theorem dX7_copyAll_18 : decode cX7_copyAll 18 = .ok (.aload_n 1, 1) := by decide +kernel
theorem dX7_copyAll_19 : decode cX7_copyAll 19 = .ok (.arraylength, 1) := by decide +kernel
theorem dX7_copyAll_20 : decode cX7_copyAll 20 = .ok (.if_icmp .ge 15, 3) := by decide +kernel
theorem dX7_copyAll_23 : decode cX7_copyAll 23 = .ok (.aload_n 1, 1) := by decide +kernel
theorem dX7_copyAll_24 : decode cX7_copyAll 24 = .ok (.iload_n 2, 1) := by decide +kernel
theorem dX7_copyAll_25 : decode cX7_copyAll 25 = .ok (.aload_n 0, 1) := by decide +kernel
theorem dX7_copyAll_26 : decode cX7_copyAll 26 = .ok (.iload_n 2, 1) := by decide +kernel
theorem dX7_copyAll_27 : decode cX7_copyAll 27 = .ok (.iaload, 1) := by decide +kernel
theorem dX7_copyAll_28 : decode cX7_copyAll 28 = .ok (.iastore, 1) := by decide +kernel
theorem dX7_copyAll_29 : decode cX7_copyAll 29 = .ok (.iinc 2 1, 3) := by decide +kernel
theorem dX7_copyAll_32 : decode cX7_copyAll 32 = .ok (.goto (-21), 3) := by decide +kernel
theorem dX7_copyAll_35 : decode cX7_copyAll 35 = .ok (.return_, 1) := by decide +kernel
theorem dJ9_min_7cf53_0 : decode cJ9_min_7cf53 0 = .ok (.iload_n 0, 1) := by decide +kernel
theorem dJ9_min_7cf53_1 : decode cJ9_min_7cf53 1 = .ok (.iload_n 1, 1) := by decide +kernel
theorem dJ9_min_7cf53_2 : decode cJ9_min_7cf53 2 = .ok (.if_icmp .gt 7, 3) := by decide +kernel
theorem dJ9_min_7cf53_5 : decode cJ9_min_7cf53 5 = .ok (.iload_n 0, 1) := by decide +kernel
theorem dJ9_min_7cf53_6 : decode cJ9_min_7cf53 6 = .ok (.goto 4, 3) := by decide +kernel
theorem dJ9_min_7cf53_9 : decode cJ9_min_7cf53 9 = .ok (.iload_n 1, 1) := by decide +kernel
theorem dJ9_min_7cf53_10 : decode cJ9_min_7cf53 10 = .ok (.ireturn, 1) := by decide +kernel
theorem dL_part_0 : decode cL_part 0 = .ok (.iload_n 0, 1) := by decide +kernel
theorem dL_part_1 : decode cL_part 1 = .ok (.ldc 7, 2) := by decide +kernel
theorem dL_part_3 : decode cL_part 3 = .ok (.iand, 1) := by decide +kernel
theorem dL_part_4 : decode cL_part 4 = .ok (.iload_n 1, 1) := by decide +kernel
theorem dL_part_5 : decode cL_part 5 = .ok (.irem, 1) := by decide +kernel
theorem dL_part_6 : decode cL_part 6 = .ok (.ireturn, 1) := by decide +kernel
theorem dL_drawn_0 : decode cL_drawn 0 = .ok (.aload_n 0, 1) := by decide +kernel
theorem dL_drawn_1 : decode cL_drawn 1 = .ok (.arraylength, 1) := by decide +kernel
theorem dL_drawn_2 : decode cL_drawn 2 = .ok (.ifCond .ne 13, 3) := by decide +kernel
theorem dL_drawn_5 : decode cL_drawn 5 = .ok (.sipush 7919, 3) := by decide +kernel
theorem dL_drawn_8 : decode cL_drawn 8 = .ok (.iload_n 1, 1) := by decide +kernel
theorem dL_drawn_9 : decode cL_drawn 9 = .ok (.imul, 1) := by decide +kernel
theorem dL_drawn_10 : decode cL_drawn 10 = .ok (.iconst 3, 1) := by decide +kernel
theorem dL_drawn_11 : decode cL_drawn 11 = .ok (.iadd, 1) := by decide +kernel
theorem dL_drawn_12 : decode cL_drawn 12 = .ok (.goto 27, 3) := by decide +kernel
theorem dL_drawn_15 : decode cL_drawn 15 = .ok (.aload_n 0, 1) := by decide +kernel
theorem dL_drawn_16 : decode cL_drawn 16 = .ok (.iload_n 1, 1) := by decide +kernel
theorem dL_drawn_17 : decode cL_drawn 17 = .ok (.aload_n 0, 1) := by decide +kernel
theorem dL_drawn_18 : decode cL_drawn 18 = .ok (.arraylength, 1) := by decide +kernel
theorem dL_drawn_19 : decode cL_drawn 19 = .ok (.irem, 1) := by decide +kernel
theorem dL_drawn_20 : decode cL_drawn 20 = .ok (.iaload, 1) := by decide +kernel
theorem dL_drawn_21 : decode cL_drawn 21 = .ok (.iload_n 1, 1) := by decide +kernel
theorem dL_drawn_22 : decode cL_drawn 22 = .ok (.bipush 7, 2) := by decide +kernel
theorem dL_drawn_24 : decode cL_drawn 24 = .ok (.irem, 1) := by decide +kernel
theorem dL_drawn_25 : decode cL_drawn 25 = .ok (.ishr, 1) := by decide +kernel
theorem dL_drawn_26 : decode cL_drawn 26 = .ok (.iload_n 1, 1) := by decide +kernel
theorem dL_drawn_27 : decode cL_drawn 27 = .ok (.aload_n 0, 1) := by decide +kernel
theorem dL_drawn_28 : decode cL_drawn 28 = .ok (.arraylength, 1) := by decide +kernel
theorem dL_drawn_29 : decode cL_drawn 29 = .ok (.idiv, 1) := by decide +kernel
theorem dL_drawn_30 : decode cL_drawn 30 = .ok (.bipush 31, 2) := by decide +kernel
theorem dL_drawn_32 : decode cL_drawn 32 = .ok (.imul, 1) := by decide +kernel
theorem dL_drawn_33 : decode cL_drawn 33 = .ok (.ixor, 1) := by decide +kernel
theorem dL_drawn_34 : decode cL_drawn 34 = .ok (.iload_n 1, 1) := by decide +kernel
theorem dL_drawn_35 : decode cL_drawn 35 = .ok (.ldc 8, 2) := by decide +kernel
theorem dL_drawn_37 : decode cL_drawn 37 = .ok (.imul, 1) := by decide +kernel
theorem dL_drawn_38 : decode cL_drawn 38 = .ok (.ixor, 1) := by decide +kernel
theorem dL_drawn_39 : decode cL_drawn 39 = .ok (.ireturn, 1) := by decide +kernel
theorem dL_call_0 : decode cL_call 0 = .ok (.iload_n 1, 1) := by decide +kernel
theorem dL_call_1 : decode cL_call 1 = .ok (.ifCond .ne 12, 3) := by decide +kernel
theorem dL_call_4 : decode cL_call 4 = .ok (.aload_n 0, 1) := by decide +kernel
theorem dL_call_5 : decode cL_call 5 = .ok (.iload_n 2, 1) := by decide +kernel
theorem dL_call_6 : decode cL_call 6 = .ok (.iload_n 3, 1) := by decide +kernel
theorem dL_call_7 : decode cL_call 7 = .ok (.invokevirtual 9, 3) := by decide +kernel
theorem dL_call_10 : decode cL_call 10 = .ok (.goto 264, 3) := by decide +kernel
theorem dL_call_13 : decode cL_call 13 = .ok (.iload_n 1, 1) := by decide +kernel
theorem dL_call_14 : decode cL_call 14 = .ok (.iconst 1, 1) := by decide +kernel
theorem dL_call_15 : decode cL_call 15 = .ok (.if_icmp .ne 14, 3) := by decide +kernel
theorem dL_call_18 : decode cL_call 18 = .ok (.aload_n 0, 1) := by decide +kernel
theorem dL_call_19 : decode cL_call 19 = .ok (.iload_n 2, 1) := by decide +kernel
theorem dL_call_20 : decode cL_call 20 = .ok (.iload_n 3, 1) := by decide +kernel
theorem dL_call_21 : decode cL_call 21 = .ok (.iload 4, 2) := by decide +kernel
theorem dL_call_23 : decode cL_call 23 = .ok (.invokevirtual 15, 3) := by decide +kernel
theorem dL_call_26 : decode cL_call 26 = .ok (.goto 248, 3) := by decide +kernel
theorem dL_call_29 : decode cL_call 29 = .ok (.iload_n 1, 1) := by decide +kernel
theorem dL_call_30 : decode cL_call 30 = .ok (.iconst 2, 1) := by decide +kernel
theorem dL_call_31 : decode cL_call 31 = .ok (.if_icmp .ne 16, 3) := by decide +kernel
theorem dL_call_34 : decode cL_call 34 = .ok (.aload_n 0, 1) := by decide +kernel
theorem dL_call_35 : decode cL_call 35 = .ok (.iload_n 2, 1) := by decide +kernel
theorem dL_call_36 : decode cL_call 36 = .ok (.iload_n 3, 1) := by decide +kernel
theorem dL_call_37 : decode cL_call 37 = .ok (.iload 4, 2) := by decide +kernel
theorem dL_call_39 : decode cL_call 39 = .ok (.iload 5, 2) := by decide +kernel
theorem dL_call_41 : decode cL_call 41 = .ok (.invokevirtual 19, 3) := by decide +kernel
theorem dL_call_44 : decode cL_call 44 = .ok (.goto 230, 3) := by decide +kernel
theorem dL_call_47 : decode cL_call 47 = .ok (.iload_n 1, 1) := by decide +kernel
theorem dL_call_48 : decode cL_call 48 = .ok (.iconst 3, 1) := by decide +kernel
theorem dL_call_49 : decode cL_call 49 = .ok (.if_icmp .ne 11, 3) := by decide +kernel
theorem dL_call_52 : decode cL_call 52 = .ok (.aload_n 0, 1) := by decide +kernel
theorem dL_call_53 : decode cL_call 53 = .ok (.iload_n 2, 1) := by decide +kernel
theorem dL_call_54 : decode cL_call 54 = .ok (.invokevirtual 23, 3) := by decide +kernel
theorem dL_call_57 : decode cL_call 57 = .ok (.goto 217, 3) := by decide +kernel
theorem dL_call_60 : decode cL_call 60 = .ok (.iload_n 1, 1) := by decide +kernel
theorem dL_call_61 : decode cL_call 61 = .ok (.iconst 4, 1) := by decide +kernel
theorem dL_call_62 : decode cL_call 62 = .ok (.if_icmp .ne 11, 3) := by decide +kernel
theorem dL_call_65 : decode cL_call 65 = .ok (.aload_n 0, 1) := by decide +kernel
theorem dL_call_66 : decode cL_call 66 = .ok (.iload_n 2, 1) := by decide +kernel
theorem dL_call_67 : decode cL_call 67 = .ok (.invokevirtual 27, 3) := by decide +kernel
theorem dL_call_70 : decode cL_call 70 = .ok (.goto 204, 3) := by decide +kernel
theorem dL_call_73 : decode cL_call 73 = .ok (.iload_n 1, 1) := by decide +kernel
theorem dL_call_74 : decode cL_call 74 = .ok (.iconst 5, 1) := by decide +kernel
theorem dL_call_75 : decode cL_call 75 = .ok (.if_icmp .ne 10, 3) := by decide +kernel
theorem dL_call_78 : decode cL_call 78 = .ok (.aload_n 0, 1) := by decide +kernel
theorem dL_call_79 : decode cL_call 79 = .ok (.invokevirtual 30, 3) := by decide +kernel
theorem dL_call_82 : decode cL_call 82 = .ok (.goto 192, 3) := by decide +kernel
theorem dL_call_85 : decode cL_call 85 = .ok (.iload_n 1, 1) := by decide +kernel
theorem dL_call_86 : decode cL_call 86 = .ok (.bipush 6, 2) := by decide +kernel
theorem dL_call_88 : decode cL_call 88 = .ok (.if_icmp .ne 11, 3) := by decide +kernel
theorem dL_call_91 : decode cL_call 91 = .ok (.aload_n 0, 1) := by decide +kernel
theorem dL_call_92 : decode cL_call 92 = .ok (.iload_n 2, 1) := by decide +kernel
theorem dL_call_93 : decode cL_call 93 = .ok (.invokevirtual 34, 3) := by decide +kernel
theorem dL_call_96 : decode cL_call 96 = .ok (.goto 178, 3) := by decide +kernel
theorem dL_call_99 : decode cL_call 99 = .ok (.iload_n 1, 1) := by decide +kernel
theorem dL_call_100 : decode cL_call 100 = .ok (.bipush 7, 2) := by decide +kernel
theorem dL_call_102 : decode cL_call 102 = .ok (.if_icmp .ne 10, 3) := by decide +kernel
theorem dL_call_105 : decode cL_call 105 = .ok (.aload_n 0, 1) := by decide +kernel
theorem dL_call_106 : decode cL_call 106 = .ok (.invokevirtual 37, 3) := by decide +kernel
theorem dL_call_109 : decode cL_call 109 = .ok (.goto 165, 3) := by decide +kernel
theorem dL_call_112 : decode cL_call 112 = .ok (.iload_n 1, 1) := by decide +kernel
theorem dL_call_113 : decode cL_call 113 = .ok (.bipush 8, 2) := by decide +kernel
theorem dL_call_115 : decode cL_call 115 = .ok (.if_icmp .ne 11, 3) := by decide +kernel
theorem dL_call_118 : decode cL_call 118 = .ok (.aload_n 0, 1) := by decide +kernel
theorem dL_call_119 : decode cL_call 119 = .ok (.iload_n 2, 1) := by decide +kernel
theorem dL_call_120 : decode cL_call 120 = .ok (.invokevirtual 40, 3) := by decide +kernel
theorem dL_call_123 : decode cL_call 123 = .ok (.goto 151, 3) := by decide +kernel
theorem dL_call_126 : decode cL_call 126 = .ok (.iload_n 1, 1) := by decide +kernel
theorem dL_call_127 : decode cL_call 127 = .ok (.bipush 9, 2) := by decide +kernel
theorem dL_call_129 : decode cL_call 129 = .ok (.if_icmp .ne 11, 3) := by decide +kernel
theorem dL_call_132 : decode cL_call 132 = .ok (.aload_n 0, 1) := by decide +kernel
theorem dL_call_133 : decode cL_call 133 = .ok (.iload_n 2, 1) := by decide +kernel
theorem dL_call_134 : decode cL_call 134 = .ok (.invokevirtual 43, 3) := by decide +kernel
theorem dL_call_137 : decode cL_call 137 = .ok (.goto 137, 3) := by decide +kernel
theorem dL_call_140 : decode cL_call 140 = .ok (.iload_n 1, 1) := by decide +kernel
theorem dL_call_141 : decode cL_call 141 = .ok (.bipush 10, 2) := by decide +kernel
theorem dL_call_143 : decode cL_call 143 = .ok (.if_icmp .ne 10, 3) := by decide +kernel
theorem dL_call_146 : decode cL_call 146 = .ok (.aload_n 0, 1) := by decide +kernel
theorem dL_call_147 : decode cL_call 147 = .ok (.invokevirtual 46, 3) := by decide +kernel
theorem dL_call_150 : decode cL_call 150 = .ok (.goto 124, 3) := by decide +kernel
theorem dL_call_153 : decode cL_call 153 = .ok (.iload_n 1, 1) := by decide +kernel
theorem dL_call_154 : decode cL_call 154 = .ok (.bipush 11, 2) := by decide +kernel
theorem dL_call_156 : decode cL_call 156 = .ok (.if_icmp .ne 12, 3) := by decide +kernel
theorem dL_call_159 : decode cL_call 159 = .ok (.aload_n 0, 1) := by decide +kernel
theorem dL_call_160 : decode cL_call 160 = .ok (.iload_n 2, 1) := by decide +kernel
theorem dL_call_161 : decode cL_call 161 = .ok (.iload_n 3, 1) := by decide +kernel
theorem dL_call_162 : decode cL_call 162 = .ok (.invokevirtual 49, 3) := by decide +kernel
theorem dL_call_165 : decode cL_call 165 = .ok (.goto 109, 3) := by decide +kernel
theorem dL_call_168 : decode cL_call 168 = .ok (.iload_n 1, 1) := by decide +kernel
theorem dL_call_169 : decode cL_call 169 = .ok (.bipush 12, 2) := by decide +kernel
theorem dL_call_171 : decode cL_call 171 = .ok (.if_icmp .ne 12, 3) := by decide +kernel
theorem dL_call_174 : decode cL_call 174 = .ok (.aload_n 0, 1) := by decide +kernel
theorem dL_call_175 : decode cL_call 175 = .ok (.iload_n 2, 1) := by decide +kernel
theorem dL_call_176 : decode cL_call 176 = .ok (.iload_n 3, 1) := by decide +kernel
theorem dL_call_177 : decode cL_call 177 = .ok (.invokevirtual 52, 3) := by decide +kernel
theorem dL_call_180 : decode cL_call 180 = .ok (.goto 94, 3) := by decide +kernel
theorem dL_call_183 : decode cL_call 183 = .ok (.iload_n 1, 1) := by decide +kernel
theorem dL_call_184 : decode cL_call 184 = .ok (.bipush 13, 2) := by decide +kernel
theorem dL_call_186 : decode cL_call 186 = .ok (.if_icmp .ne 11, 3) := by decide +kernel
theorem dL_call_189 : decode cL_call 189 = .ok (.aload_n 0, 1) := by decide +kernel
theorem dL_call_190 : decode cL_call 190 = .ok (.iload_n 2, 1) := by decide +kernel
theorem dL_call_191 : decode cL_call 191 = .ok (.invokevirtual 55, 3) := by decide +kernel
theorem dL_call_194 : decode cL_call 194 = .ok (.goto 80, 3) := by decide +kernel
theorem dL_call_197 : decode cL_call 197 = .ok (.iload_n 1, 1) := by decide +kernel
theorem dL_call_198 : decode cL_call 198 = .ok (.bipush 14, 2) := by decide +kernel
theorem dL_call_200 : decode cL_call 200 = .ok (.if_icmp .ne 11, 3) := by decide +kernel
theorem dL_call_203 : decode cL_call 203 = .ok (.aload_n 0, 1) := by decide +kernel
theorem dL_call_204 : decode cL_call 204 = .ok (.iload_n 2, 1) := by decide +kernel
theorem dL_call_205 : decode cL_call 205 = .ok (.invokevirtual 58, 3) := by decide +kernel
theorem dL_call_208 : decode cL_call 208 = .ok (.goto 66, 3) := by decide +kernel
theorem dL_call_211 : decode cL_call 211 = .ok (.iload_n 1, 1) := by decide +kernel
theorem dL_call_212 : decode cL_call 212 = .ok (.bipush 15, 2) := by decide +kernel
theorem dL_call_214 : decode cL_call 214 = .ok (.if_icmp .ne 11, 3) := by decide +kernel
theorem dL_call_217 : decode cL_call 217 = .ok (.aload_n 0, 1) := by decide +kernel
theorem dL_call_218 : decode cL_call 218 = .ok (.iload_n 2, 1) := by decide +kernel
theorem dL_call_219 : decode cL_call 219 = .ok (.invokevirtual 61, 3) := by decide +kernel
theorem dL_call_222 : decode cL_call 222 = .ok (.goto 52, 3) := by decide +kernel
theorem dL_call_225 : decode cL_call 225 = .ok (.iload_n 1, 1) := by decide +kernel
theorem dL_call_226 : decode cL_call 226 = .ok (.bipush 16, 2) := by decide +kernel
theorem dL_call_228 : decode cL_call 228 = .ok (.if_icmp .ne 11, 3) := by decide +kernel
theorem dL_call_231 : decode cL_call 231 = .ok (.aload_n 0, 1) := by decide +kernel
theorem dL_call_232 : decode cL_call 232 = .ok (.iload_n 2, 1) := by decide +kernel
theorem dL_call_233 : decode cL_call 233 = .ok (.invokevirtual 64, 3) := by decide +kernel
theorem dL_call_236 : decode cL_call 236 = .ok (.goto 38, 3) := by decide +kernel
theorem dL_call_239 : decode cL_call 239 = .ok (.iload_n 1, 1) := by decide +kernel
theorem dL_call_240 : decode cL_call 240 = .ok (.bipush 17, 2) := by decide +kernel
theorem dL_call_242 : decode cL_call 242 = .ok (.if_icmp .ne 12, 3) := by decide +kernel
theorem dL_call_245 : decode cL_call 245 = .ok (.aload_n 0, 1) := by decide +kernel
theorem dL_call_246 : decode cL_call 246 = .ok (.iload_n 2, 1) := by decide +kernel
theorem dL_call_247 : decode cL_call 247 = .ok (.iload_n 3, 1) := by decide +kernel
theorem dL_call_248 : decode cL_call 248 = .ok (.invokevirtual 67, 3) := by decide +kernel
theorem dL_call_251 : decode cL_call 251 = .ok (.goto 23, 3) := by decide +kernel
theorem dL_call_254 : decode cL_call 254 = .ok (.iload_n 1, 1) := by decide +kernel
theorem dL_call_255 : decode cL_call 255 = .ok (.bipush 18, 2) := by decide +kernel
theorem dL_call_257 : decode cL_call 257 = .ok (.if_icmp .ne 12, 3) := by decide +kernel
theorem dL_call_260 : decode cL_call 260 = .ok (.aload_n 0, 1) := by decide +kernel
theorem dL_call_261 : decode cL_call 261 = .ok (.iload_n 2, 1) := by decide +kernel
theorem dL_call_262 : decode cL_call 262 = .ok (.iload_n 3, 1) := by decide +kernel
theorem dL_call_263 : decode cL_call 263 = .ok (.invokevirtual 70, 3) := by decide +kernel
theorem dL_call_266 : decode cL_call 266 = .ok (.goto 8, 3) := by decide +kernel
theorem dL_call_269 : decode cL_call 269 = .ok (.aload_n 0, 1) := by decide +kernel
theorem dL_call_270 : decode cL_call 270 = .ok (.iload_n 2, 1) := by decide +kernel
theorem dL_call_271 : decode cL_call 271 = .ok (.invokevirtual 73, 3) := by decide +kernel
theorem dL_call_274 : decode cL_call 274 = .ok (.ireturn, 1) := by decide +kernel
theorem dL_call_275 : decode cL_call 275 = .ok (.astore 6, 2) := by decide +kernel
theorem dL_call_277 : decode cL_call 277 = .ok (.bipush (-11), 2) := by decide +kernel
theorem dL_call_279 : decode cL_call 279 = .ok (.ireturn, 1) := by decide +kernel
theorem dL_call_280 : decode cL_call 280 = .ok (.astore 6, 2) := by decide +kernel
theorem dL_call_282 : decode cL_call 282 = .ok (.bipush (-12), 2) := by decide +kernel
theorem dL_call_284 : decode cL_call 284 = .ok (.ireturn, 1) := by decide +kernel
theorem dL_call_285 : decode cL_call 285 = .ok (.astore 6, 2) := by decide +kernel
theorem dL_call_287 : decode cL_call 287 = .ok (.bipush (-13), 2) := by decide +kernel
theorem dL_call_289 : decode cL_call 289 = .ok (.ireturn, 1) := by decide +kernel
theorem dL_seen_0 : decode cL_seen 0 = .ok (.ldc2_w 82, 3) := by decide +kernel
theorem dL_seen_3 : decode cL_seen 3 = .ok (.lstore_n 1, 1) := by decide +kernel
theorem dL_seen_4 : decode cL_seen 4 = .ok (.iconst 0, 1) := by decide +kernel
theorem dL_seen_5 : decode cL_seen 5 = .ok (.istore_n 3, 1) := by decide +kernel
theorem dL_seen_6 : decode cL_seen 6 = .ok (.iload_n 3, 1) := by decide +kernel
theorem dL_seen_7 : decode cL_seen 7 = .ok (.bipush 8, 2) := by decide +kernel
theorem dL_seen_9 : decode cL_seen 9 = .ok (.if_icmp .ge 22, 3) := by decide +kernel
theorem dL_seen_12 : decode cL_seen 12 = .ok (.ldc2_w 84, 3) := by decide +kernel
theorem dL_seen_15 : decode cL_seen 15 = .ok (.lload_n 1, 1) := by decide +kernel
theorem dL_seen_16 : decode cL_seen 16 = .ok (.lmul, 1) := by decide +kernel
theorem dL_seen_17 : decode cL_seen 17 = .ok (.aload_n 0, 1) := by decide +kernel
theorem dL_seen_18 : decode cL_seen 18 = .ok (.iload_n 3, 1) := by decide +kernel
theorem dL_seen_19 : decode cL_seen 19 = .ok (.invokevirtual 61, 3) := by decide +kernel
theorem dL_seen_22 : decode cL_seen 22 = .ok (.i2l, 1) := by decide +kernel
theorem dL_seen_23 : decode cL_seen 23 = .ok (.ladd, 1) := by decide +kernel
theorem dL_seen_24 : decode cL_seen 24 = .ok (.lstore_n 1, 1) := by decide +kernel
theorem dL_seen_25 : decode cL_seen 25 = .ok (.iinc 3 1, 3) := by decide +kernel
theorem dL_seen_28 : decode cL_seen 28 = .ok (.goto (-22), 3) := by decide +kernel
theorem dL_seen_31 : decode cL_seen 31 = .ok (.iconst 0, 1) := by decide +kernel
theorem dL_seen_32 : decode cL_seen 32 = .ok (.istore_n 3, 1) := by decide +kernel
theorem dL_seen_33 : decode cL_seen 33 = .ok (.iload_n 3, 1) := by decide +kernel
theorem dL_seen_34 : decode cL_seen 34 = .ok (.bipush 10, 2) := by decide +kernel
theorem dL_seen_36 : decode cL_seen 36 = .ok (.aload_n 0, 1) := by decide +kernel
theorem dL_seen_37 : decode cL_seen 37 = .ok (.iconst 0, 1) := by decide +kernel
theorem dL_seen_38 : decode cL_seen 38 = .ok (.invokevirtual 61, 3) := by decide +kernel
theorem dL_seen_41 : decode cL_seen 41 = .ok (.imul, 1) := by decide +kernel
theorem dL_seen_42 : decode cL_seen 42 = .ok (.if_icmp .ge 46, 3) := by decide +kernel
theorem dL_seen_45 : decode cL_seen 45 = .ok (.ldc2_w 84, 3) := by decide +kernel
theorem dL_seen_48 : decode cL_seen 48 = .ok (.lload_n 1, 1) := by decide +kernel
theorem dL_seen_49 : decode cL_seen 49 = .ok (.lmul, 1) := by decide +kernel
theorem dL_seen_50 : decode cL_seen 50 = .ok (.iload_n 3, 1) := by decide +kernel
theorem dL_seen_51 : decode cL_seen 51 = .ok (.bipush 10, 2) := by decide +kernel
theorem dL_seen_53 : decode cL_seen 53 = .ok (.irem, 1) := by decide +kernel
theorem dL_seen_54 : decode cL_seen 54 = .ok (.aload_n 0, 1) := by decide +kernel
theorem dL_seen_55 : decode cL_seen 55 = .ok (.iconst 1, 1) := by decide +kernel
theorem dL_seen_56 : decode cL_seen 56 = .ok (.invokevirtual 61, 3) := by decide +kernel
theorem dL_seen_59 : decode cL_seen 59 = .ok (.if_icmp .ge 18, 3) := by decide +kernel
theorem dL_seen_62 : decode cL_seen 62 = .ok (.aload_n 0, 1) := by decide +kernel
theorem dL_seen_63 : decode cL_seen 63 = .ok (.iload_n 3, 1) := by decide +kernel
theorem dL_seen_64 : decode cL_seen 64 = .ok (.bipush 10, 2) := by decide +kernel
theorem dL_seen_66 : decode cL_seen 66 = .ok (.idiv, 1) := by decide +kernel
theorem dL_seen_67 : decode cL_seen 67 = .ok (.iload_n 3, 1) := by decide +kernel
theorem dL_seen_68 : decode cL_seen 68 = .ok (.bipush 10, 2) := by decide +kernel
theorem dL_seen_70 : decode cL_seen 70 = .ok (.irem, 1) := by decide +kernel
theorem dL_seen_71 : decode cL_seen 71 = .ok (.invokevirtual 49, 3) := by decide +kernel
theorem dL_seen_74 : decode cL_seen 74 = .ok (.goto 5, 3) := by decide +kernel
theorem dL_seen_77 : decode cL_seen 77 = .ok (.bipush 7, 2) := by decide +kernel
theorem dL_seen_79 : decode cL_seen 79 = .ok (.i2l, 1) := by decide +kernel
theorem dL_seen_80 : decode cL_seen 80 = .ok (.ladd, 1) := by decide +kernel
theorem dL_seen_81 : decode cL_seen 81 = .ok (.lstore_n 1, 1) := by decide +kernel
theorem dL_seen_82 : decode cL_seen 82 = .ok (.iinc 3 1, 3) := by decide +kernel
theorem dL_seen_85 : decode cL_seen 85 = .ok (.goto (-52), 3) := by decide +kernel
theorem dL_seen_88 : decode cL_seen 88 = .ok (.iconst 0, 1) := by decide +kernel
theorem dL_seen_89 : decode cL_seen 89 = .ok (.istore_n 3, 1) := by decide +kernel
theorem dL_seen_90 : decode cL_seen 90 = .ok (.iload_n 3, 1) := by decide +kernel
theorem dL_seen_91 : decode cL_seen 91 = .ok (.aload_n 0, 1) := by decide +kernel
theorem dL_seen_92 : decode cL_seen 92 = .ok (.iconst 2, 1) := by decide +kernel
theorem dL_seen_93 : decode cL_seen 93 = .ok (.invokevirtual 61, 3) := by decide +kernel
theorem dL_seen_96 : decode cL_seen 96 = .ok (.if_icmp .ge 22, 3) := by decide +kernel
theorem dL_seen_99 : decode cL_seen 99 = .ok (.ldc2_w 84, 3) := by decide +kernel
theorem dL_seen_102 : decode cL_seen 102 = .ok (.lload_n 1, 1) := by decide +kernel
theorem dL_seen_103 : decode cL_seen 103 = .ok (.lmul, 1) := by decide +kernel
theorem dL_seen_104 : decode cL_seen 104 = .ok (.aload_n 0, 1) := by decide +kernel
theorem dL_seen_105 : decode cL_seen 105 = .ok (.iload_n 3, 1) := by decide +kernel
theorem dL_seen_106 : decode cL_seen 106 = .ok (.invokevirtual 64, 3) := by decide +kernel
theorem dL_seen_109 : decode cL_seen 109 = .ok (.i2l, 1) := by decide +kernel
theorem dL_seen_110 : decode cL_seen 110 = .ok (.ladd, 1) := by decide +kernel
theorem dL_seen_111 : decode cL_seen 111 = .ok (.lstore_n 1, 1) := by decide +kernel
theorem dL_seen_112 : decode cL_seen 112 = .ok (.iinc 3 1, 3) := by decide +kernel
theorem dL_seen_115 : decode cL_seen 115 = .ok (.goto (-25), 3) := by decide +kernel
theorem dL_seen_118 : decode cL_seen 118 = .ok (.iconst 0, 1) := by decide +kernel
theorem dL_seen_119 : decode cL_seen 119 = .ok (.istore_n 3, 1) := by decide +kernel
theorem dL_seen_120 : decode cL_seen 120 = .ok (.iload_n 3, 1) := by decide +kernel
theorem dL_seen_121 : decode cL_seen 121 = .ok (.iconst 4, 1) := by decide +kernel
theorem dL_seen_122 : decode cL_seen 122 = .ok (.if_icmp .ge 45, 3) := by decide +kernel
theorem dL_seen_125 : decode cL_seen 125 = .ok (.ldc2_w 84, 3) := by decide +kernel
theorem dL_seen_128 : decode cL_seen 128 = .ok (.lload_n 1, 1) := by decide +kernel
theorem dL_seen_129 : decode cL_seen 129 = .ok (.lmul, 1) := by decide +kernel
theorem dL_seen_130 : decode cL_seen 130 = .ok (.ldc2_w 86, 3) := by decide +kernel
theorem dL_seen_133 : decode cL_seen 133 = .ok (.aload_n 0, 1) := by decide +kernel
theorem dL_seen_134 : decode cL_seen 134 = .ok (.iload_n 3, 1) := by decide +kernel
theorem dL_seen_135 : decode cL_seen 135 = .ok (.invokevirtual 58, 3) := by decide +kernel
theorem dL_seen_138 : decode cL_seen 138 = .ok (.i2l, 1) := by decide +kernel
theorem dL_seen_139 : decode cL_seen 139 = .ok (.lmul, 1) := by decide +kernel
theorem dL_seen_140 : decode cL_seen 140 = .ok (.ladd, 1) := by decide +kernel
theorem dL_seen_141 : decode cL_seen 141 = .ok (.iload_n 3, 1) := by decide +kernel
theorem dL_seen_142 : decode cL_seen 142 = .ok (.iconst 3, 1) := by decide +kernel
theorem dL_seen_143 : decode cL_seen 143 = .ok (.if_icmp .ge 11, 3) := by decide +kernel
theorem dL_seen_146 : decode cL_seen 146 = .ok (.aload_n 0, 1) := by decide +kernel
theorem dL_seen_147 : decode cL_seen 147 = .ok (.iload_n 3, 1) := by decide +kernel
theorem dL_seen_148 : decode cL_seen 148 = .ok (.invokevirtual 55, 3) := by decide +kernel
theorem dL_seen_151 : decode cL_seen 151 = .ok (.goto 7, 3) := by decide +kernel
theorem dL_seen_154 : decode cL_seen 154 = .ok (.aload_n 0, 1) := by decide +kernel
theorem dL_seen_155 : decode cL_seen 155 = .ok (.invokevirtual 88, 3) := by decide +kernel
theorem dL_seen_158 : decode cL_seen 158 = .ok (.i2l, 1) := by decide +kernel
theorem dL_seen_159 : decode cL_seen 159 = .ok (.ladd, 1) := by decide +kernel
theorem dL_seen_160 : decode cL_seen 160 = .ok (.lstore_n 1, 1) := by decide +kernel
theorem dL_seen_161 : decode cL_seen 161 = .ok (.iinc 3 1, 3) := by decide +kernel
theorem dL_seen_164 : decode cL_seen 164 = .ok (.goto (-44), 3) := by decide +kernel
theorem dL_seen_167 : decode cL_seen 167 = .ok (.lload_n 1, 1) := by decide +kernel
theorem dL_seen_168 : decode cL_seen 168 = .ok (.lreturn, 1) := by decide +kernel
theorem dL_far_0 : decode cL_far 0 = .ok (.iload_n 0, 1) := by decide +kernel
theorem dL_far_1 : decode cL_far 1 = .ok (.ifCond .ne 9, 3) := by decide +kernel
theorem dL_far_4 : decode cL_far 4 = .ok (.iload_n 1, 1) := by decide +kernel
theorem dL_far_5 : decode cL_far 5 = .ok (.iconst 1, 1) := by decide +kernel
theorem dL_far_6 : decode cL_far 6 = .ok (.isub, 1) := by decide +kernel
theorem dL_far_7 : decode cL_far 7 = .ok (.goto 26, 3) := by decide +kernel
theorem dL_far_10 : decode cL_far 10 = .ok (.iload_n 0, 1) := by decide +kernel
theorem dL_far_11 : decode cL_far 11 = .ok (.iconst 1, 1) := by decide +kernel
theorem dL_far_12 : decode cL_far 12 = .ok (.if_icmp .ne 9, 3) := by decide +kernel
theorem dL_far_15 : decode cL_far 15 = .ok (.iload_n 2, 1) := by decide +kernel
theorem dL_far_16 : decode cL_far 16 = .ok (.iconst 1, 1) := by decide +kernel
theorem dL_far_17 : decode cL_far 17 = .ok (.iadd, 1) := by decide +kernel
theorem dL_far_18 : decode cL_far 18 = .ok (.goto 15, 3) := by decide +kernel
theorem dL_far_21 : decode cL_far 21 = .ok (.iload_n 0, 1) := by decide +kernel
theorem dL_far_22 : decode cL_far 22 = .ok (.iconst 2, 1) := by decide +kernel
theorem dL_far_23 : decode cL_far 23 = .ok (.if_icmp .ne 8, 3) := by decide +kernel
theorem dL_far_26 : decode cL_far 26 = .ok (.ldc 91, 2) := by decide +kernel
theorem dL_far_28 : decode cL_far 28 = .ok (.goto 5, 3) := by decide +kernel
theorem dL_far_31 : decode cL_far 31 = .ok (.ldc 7, 2) := by decide +kernel
theorem dL_far_33 : decode cL_far 33 = .ok (.ireturn, 1) := by decide +kernel
theorem dL_refusesOne_0 : decode cL_refusesOne 0 = .ok (.iload_n 1, 1) := by decide +kernel
theorem dL_refusesOne_1 : decode cL_refusesOne 1 = .ok (.iconst 0, 1) := by decide +kernel
theorem dL_refusesOne_2 : decode cL_refusesOne 2 = .ok (.aload_n 0, 1) := by decide +kernel
theorem dL_refusesOne_3 : decode cL_refusesOne 3 = .ok (.iconst 0, 1) := by decide +kernel
theorem dL_refusesOne_4 : decode cL_refusesOne 4 = .ok (.invokevirtual 61, 3) := by decide +kernel
theorem dL_refusesOne_7 : decode cL_refusesOne 7 = .ok (.iconst 1, 1) := by decide +kernel
theorem dL_refusesOne_8 : decode cL_refusesOne 8 = .ok (.isub, 1) := by decide +kernel
theorem dL_refusesOne_9 : decode cL_refusesOne 9 = .ok (.invokestatic 92, 3) := by decide +kernel
theorem dL_refusesOne_12 : decode cL_refusesOne 12 = .ok (.istore_n 2, 1) := by decide +kernel
theorem dL_refusesOne_13 : decode cL_refusesOne 13 = .ok (.iload_n 1, 1) := by decide +kernel
theorem dL_refusesOne_14 : decode cL_refusesOne 14 = .ok (.iconst 0, 1) := by decide +kernel
theorem dL_refusesOne_15 : decode cL_refusesOne 15 = .ok (.aload_n 0, 1) := by decide +kernel
theorem dL_refusesOne_16 : decode cL_refusesOne 16 = .ok (.iconst 1, 1) := by decide +kernel
theorem dL_refusesOne_17 : decode cL_refusesOne 17 = .ok (.invokevirtual 61, 3) := by decide +kernel
theorem dL_refusesOne_20 : decode cL_refusesOne 20 = .ok (.iconst 1, 1) := by decide +kernel
theorem dL_refusesOne_21 : decode cL_refusesOne 21 = .ok (.isub, 1) := by decide +kernel
theorem dL_refusesOne_22 : decode cL_refusesOne 22 = .ok (.invokestatic 92, 3) := by decide +kernel
theorem dL_refusesOne_25 : decode cL_refusesOne 25 = .ok (.istore_n 3, 1) := by decide +kernel
theorem dL_refusesOne_26 : decode cL_refusesOne 26 = .ok (.iload_n 1, 1) := by decide +kernel
theorem dL_refusesOne_27 : decode cL_refusesOne 27 = .ok (.iconst 1, 1) := by decide +kernel
theorem dL_refusesOne_28 : decode cL_refusesOne 28 = .ok (.bipush 10, 2) := by decide +kernel
theorem dL_refusesOne_30 : decode cL_refusesOne 30 = .ok (.invokestatic 92, 3) := by decide +kernel
theorem dL_refusesOne_33 : decode cL_refusesOne 33 = .ok (.istore 4, 2) := by decide +kernel
theorem dL_refusesOne_35 : decode cL_refusesOne 35 = .ok (.aload_n 0, 1) := by decide +kernel
theorem dL_refusesOne_36 : decode cL_refusesOne 36 = .ok (.iconst 0, 1) := by decide +kernel
theorem dL_refusesOne_37 : decode cL_refusesOne 37 = .ok (.iload 4, 2) := by decide +kernel
theorem dL_refusesOne_39 : decode cL_refusesOne 39 = .ok (.iconst 1, 1) := by decide +kernel
theorem dL_refusesOne_40 : decode cL_refusesOne 40 = .ok (.iconst 0, 1) := by decide +kernel
theorem dL_refusesOne_41 : decode cL_refusesOne 41 = .ok (.iconst 0, 1) := by decide +kernel
theorem dL_refusesOne_42 : decode cL_refusesOne 42 = .ok (.invokestatic 97, 3) := by decide +kernel
theorem dL_refusesOne_45 : decode cL_refusesOne 45 = .ok (.bipush (-12), 2) := by decide +kernel
theorem dL_refusesOne_47 : decode cL_refusesOne 47 = .ok (.if_icmp .ne 267, 3) := by decide +kernel
theorem dL_refusesOne_50 : decode cL_refusesOne 50 = .ok (.aload_n 0, 1) := by decide +kernel
theorem dL_refusesOne_51 : decode cL_refusesOne 51 = .ok (.iconst 0, 1) := by decide +kernel
theorem dL_refusesOne_52 : decode cL_refusesOne 52 = .ok (.bipush 10, 2) := by decide +kernel
theorem dL_refusesOne_54 : decode cL_refusesOne 54 = .ok (.iload 4, 2) := by decide +kernel
theorem dL_refusesOne_56 : decode cL_refusesOne 56 = .ok (.iconst 0, 1) := by decide +kernel
theorem dL_refusesOne_57 : decode cL_refusesOne 57 = .ok (.iconst 0, 1) := by decide +kernel
theorem dL_refusesOne_58 : decode cL_refusesOne 58 = .ok (.invokestatic 97, 3) := by decide +kernel
theorem dL_refusesOne_61 : decode cL_refusesOne 61 = .ok (.bipush (-12), 2) := by decide +kernel
theorem dL_refusesOne_63 : decode cL_refusesOne 63 = .ok (.if_icmp .ne 251, 3) := by decide +kernel
theorem dL_refusesOne_66 : decode cL_refusesOne 66 = .ok (.aload_n 0, 1) := by decide +kernel
theorem dL_refusesOne_67 : decode cL_refusesOne 67 = .ok (.iconst 1, 1) := by decide +kernel
theorem dL_refusesOne_68 : decode cL_refusesOne 68 = .ok (.iload_n 2, 1) := by decide +kernel
theorem dL_refusesOne_69 : decode cL_refusesOne 69 = .ok (.iconst 0, 1) := by decide +kernel
theorem dL_refusesOne_70 : decode cL_refusesOne 70 = .ok (.iconst (-1), 1) := by decide +kernel
theorem dL_refusesOne_71 : decode cL_refusesOne 71 = .ok (.iconst 0, 1) := by decide +kernel
theorem dL_refusesOne_72 : decode cL_refusesOne 72 = .ok (.invokestatic 97, 3) := by decide +kernel
theorem dL_refusesOne_75 : decode cL_refusesOne 75 = .ok (.bipush (-11), 2) := by decide +kernel
theorem dL_refusesOne_77 : decode cL_refusesOne 77 = .ok (.if_icmp .ne 237, 3) := by decide +kernel
theorem dL_refusesOne_80 : decode cL_refusesOne 80 = .ok (.aload_n 0, 1) := by decide +kernel
theorem dL_refusesOne_81 : decode cL_refusesOne 81 = .ok (.iconst 1, 1) := by decide +kernel
theorem dL_refusesOne_82 : decode cL_refusesOne 82 = .ok (.iconst 0, 1) := by decide +kernel
theorem dL_refusesOne_83 : decode cL_refusesOne 83 = .ok (.iload_n 3, 1) := by decide +kernel
theorem dL_refusesOne_84 : decode cL_refusesOne 84 = .ok (.iconst (-1), 1) := by decide +kernel
theorem dL_refusesOne_85 : decode cL_refusesOne 85 = .ok (.iconst 0, 1) := by decide +kernel
theorem dL_refusesOne_86 : decode cL_refusesOne 86 = .ok (.invokestatic 97, 3) := by decide +kernel
theorem dL_refusesOne_89 : decode cL_refusesOne 89 = .ok (.bipush (-11), 2) := by decide +kernel
theorem dL_refusesOne_91 : decode cL_refusesOne 91 = .ok (.if_icmp .ne 223, 3) := by decide +kernel
theorem dL_refusesOne_94 : decode cL_refusesOne 94 = .ok (.aload_n 0, 1) := by decide +kernel
theorem dL_refusesOne_95 : decode cL_refusesOne 95 = .ok (.iconst 1, 1) := by decide +kernel
theorem dL_refusesOne_96 : decode cL_refusesOne 96 = .ok (.iconst 0, 1) := by decide +kernel
theorem dL_refusesOne_97 : decode cL_refusesOne 97 = .ok (.iconst 0, 1) := by decide +kernel
theorem dL_refusesOne_98 : decode cL_refusesOne 98 = .ok (.iload_n 1, 1) := by decide +kernel
theorem dL_refusesOne_99 : decode cL_refusesOne 99 = .ok (.iconst 0, 1) := by decide +kernel
theorem dL_refusesOne_100 : decode cL_refusesOne 100 = .ok (.sipush 9999, 3) := by decide +kernel
theorem dL_refusesOne_103 : decode cL_refusesOne 103 = .ok (.invokestatic 92, 3) := by decide +kernel
theorem dL_refusesOne_106 : decode cL_refusesOne 106 = .ok (.iconst 0, 1) := by decide +kernel
theorem dL_refusesOne_107 : decode cL_refusesOne 107 = .ok (.invokestatic 97, 3) := by decide +kernel
theorem dL_refusesOne_110 : decode cL_refusesOne 110 = .ok (.bipush (-12), 2) := by decide +kernel
theorem dL_refusesOne_112 : decode cL_refusesOne 112 = .ok (.if_icmp .ne 202, 3) := by decide +kernel
theorem dL_refusesOne_115 : decode cL_refusesOne 115 = .ok (.aload_n 0, 1) := by decide +kernel
theorem dL_refusesOne_116 : decode cL_refusesOne 116 = .ok (.iconst 2, 1) := by decide +kernel
theorem dL_refusesOne_117 : decode cL_refusesOne 117 = .ok (.iload_n 1, 1) := by decide +kernel
theorem dL_refusesOne_118 : decode cL_refusesOne 118 = .ok (.iconst 0, 1) := by decide +kernel
theorem dL_refusesOne_119 : decode cL_refusesOne 119 = .ok (.bipush 50, 2) := by decide +kernel
theorem dL_refusesOne_121 : decode cL_refusesOne 121 = .ok (.invokestatic 92, 3) := by decide +kernel
theorem dL_refusesOne_124 : decode cL_refusesOne 124 = .ok (.iconst 0, 1) := by decide +kernel
theorem dL_refusesOne_125 : decode cL_refusesOne 125 = .ok (.iconst 0, 1) := by decide +kernel
theorem dL_refusesOne_126 : decode cL_refusesOne 126 = .ok (.iconst 0, 1) := by decide +kernel
theorem dL_refusesOne_127 : decode cL_refusesOne 127 = .ok (.invokestatic 97, 3) := by decide +kernel
theorem dL_refusesOne_130 : decode cL_refusesOne 130 = .ok (.bipush (-12), 2) := by decide +kernel
theorem dL_refusesOne_132 : decode cL_refusesOne 132 = .ok (.if_icmp .ne 182, 3) := by decide +kernel
theorem dL_refusesOne_135 : decode cL_refusesOne 135 = .ok (.aload_n 0, 1) := by decide +kernel
theorem dL_refusesOne_136 : decode cL_refusesOne 136 = .ok (.iconst 2, 1) := by decide +kernel
theorem dL_refusesOne_137 : decode cL_refusesOne 137 = .ok (.bipush 50, 2) := by decide +kernel
theorem dL_refusesOne_139 : decode cL_refusesOne 139 = .ok (.iload_n 1, 1) := by decide +kernel
theorem dL_refusesOne_140 : decode cL_refusesOne 140 = .ok (.iconst 0, 1) := by decide +kernel
theorem dL_refusesOne_141 : decode cL_refusesOne 141 = .ok (.bipush 9, 2) := by decide +kernel
theorem dL_refusesOne_143 : decode cL_refusesOne 143 = .ok (.invokestatic 92, 3) := by decide +kernel
theorem dL_refusesOne_146 : decode cL_refusesOne 146 = .ok (.iconst 0, 1) := by decide +kernel
theorem dL_refusesOne_147 : decode cL_refusesOne 147 = .ok (.iconst 0, 1) := by decide +kernel
theorem dL_refusesOne_148 : decode cL_refusesOne 148 = .ok (.invokestatic 97, 3) := by decide +kernel
theorem dL_refusesOne_151 : decode cL_refusesOne 151 = .ok (.bipush (-12), 2) := by decide +kernel
theorem dL_refusesOne_153 : decode cL_refusesOne 153 = .ok (.if_icmp .ne 161, 3) := by decide +kernel
theorem dL_refusesOne_156 : decode cL_refusesOne 156 = .ok (.aload_n 0, 1) := by decide +kernel
theorem dL_refusesOne_157 : decode cL_refusesOne 157 = .ok (.iconst 2, 1) := by decide +kernel
theorem dL_refusesOne_158 : decode cL_refusesOne 158 = .ok (.iconst 0, 1) := by decide +kernel
theorem dL_refusesOne_159 : decode cL_refusesOne 159 = .ok (.bipush 9, 2) := by decide +kernel
theorem dL_refusesOne_161 : decode cL_refusesOne 161 = .ok (.iload_n 1, 1) := by decide +kernel
theorem dL_refusesOne_162 : decode cL_refusesOne 162 = .ok (.iconst 0, 1) := by decide +kernel
theorem dL_refusesOne_163 : decode cL_refusesOne 163 = .ok (.bipush 50, 2) := by decide +kernel
theorem dL_refusesOne_165 : decode cL_refusesOne 165 = .ok (.invokestatic 92, 3) := by decide +kernel
theorem dL_refusesOne_168 : decode cL_refusesOne 168 = .ok (.iconst 0, 1) := by decide +kernel
theorem dL_refusesOne_169 : decode cL_refusesOne 169 = .ok (.invokestatic 97, 3) := by decide +kernel
theorem dL_refusesOne_172 : decode cL_refusesOne 172 = .ok (.bipush (-12), 2) := by decide +kernel
theorem dL_refusesOne_174 : decode cL_refusesOne 174 = .ok (.if_icmp .ne 140, 3) := by decide +kernel
theorem dL_refusesOne_177 : decode cL_refusesOne 177 = .ok (.aload_n 0, 1) := by decide +kernel
theorem dL_refusesOne_178 : decode cL_refusesOne 178 = .ok (.iconst 2, 1) := by decide +kernel
theorem dL_refusesOne_179 : decode cL_refusesOne 179 = .ok (.iconst 0, 1) := by decide +kernel
theorem dL_refusesOne_180 : decode cL_refusesOne 180 = .ok (.iconst 0, 1) := by decide +kernel
theorem dL_refusesOne_181 : decode cL_refusesOne 181 = .ok (.bipush 50, 2) := by decide +kernel
theorem dL_refusesOne_183 : decode cL_refusesOne 183 = .ok (.iload_n 1, 1) := by decide +kernel
theorem dL_refusesOne_184 : decode cL_refusesOne 184 = .ok (.iconst 0, 1) := by decide +kernel
theorem dL_refusesOne_185 : decode cL_refusesOne 185 = .ok (.bipush 9, 2) := by decide +kernel
theorem dL_refusesOne_187 : decode cL_refusesOne 187 = .ok (.invokestatic 92, 3) := by decide +kernel
theorem dL_refusesOne_190 : decode cL_refusesOne 190 = .ok (.invokestatic 97, 3) := by decide +kernel
theorem dL_refusesOne_193 : decode cL_refusesOne 193 = .ok (.bipush (-12), 2) := by decide +kernel
theorem dL_refusesOne_195 : decode cL_refusesOne 195 = .ok (.if_icmp .ne 119, 3) := by decide +kernel
theorem dL_refusesOne_198 : decode cL_refusesOne 198 = .ok (.aload_n 0, 1) := by decide +kernel
theorem dL_refusesOne_199 : decode cL_refusesOne 199 = .ok (.iconst 3, 1) := by decide +kernel
theorem dL_refusesOne_200 : decode cL_refusesOne 200 = .ok (.iload_n 1, 1) := by decide +kernel
theorem dL_refusesOne_201 : decode cL_refusesOne 201 = .ok (.iconst 0, 1) := by decide +kernel
theorem dL_refusesOne_202 : decode cL_refusesOne 202 = .ok (.iconst 2, 1) := by decide +kernel
theorem dL_refusesOne_203 : decode cL_refusesOne 203 = .ok (.invokestatic 92, 3) := by decide +kernel
theorem dL_refusesOne_206 : decode cL_refusesOne 206 = .ok (.iconst 0, 1) := by decide +kernel
theorem dL_refusesOne_207 : decode cL_refusesOne 207 = .ok (.iconst 0, 1) := by decide +kernel
theorem dL_refusesOne_208 : decode cL_refusesOne 208 = .ok (.iconst 0, 1) := by decide +kernel
theorem dL_refusesOne_209 : decode cL_refusesOne 209 = .ok (.invokestatic 97, 3) := by decide +kernel
theorem dL_refusesOne_212 : decode cL_refusesOne 212 = .ok (.bipush (-12), 2) := by decide +kernel
theorem dL_refusesOne_214 : decode cL_refusesOne 214 = .ok (.if_icmp .ne 100, 3) := by decide +kernel
theorem dL_refusesOne_217 : decode cL_refusesOne 217 = .ok (.aload_n 0, 1) := by decide +kernel
theorem dL_refusesOne_218 : decode cL_refusesOne 218 = .ok (.iconst 4, 1) := by decide +kernel
theorem dL_refusesOne_219 : decode cL_refusesOne 219 = .ok (.iload_n 1, 1) := by decide +kernel
theorem dL_refusesOne_220 : decode cL_refusesOne 220 = .ok (.iconst 1, 1) := by decide +kernel
theorem dL_refusesOne_221 : decode cL_refusesOne 221 = .ok (.bipush 99, 2) := by decide +kernel
theorem dL_refusesOne_223 : decode cL_refusesOne 223 = .ok (.invokestatic 92, 3) := by decide +kernel
theorem dL_refusesOne_226 : decode cL_refusesOne 226 = .ok (.iconst 0, 1) := by decide +kernel
theorem dL_refusesOne_227 : decode cL_refusesOne 227 = .ok (.iconst 0, 1) := by decide +kernel
theorem dL_refusesOne_228 : decode cL_refusesOne 228 = .ok (.iconst 0, 1) := by decide +kernel
theorem dL_refusesOne_229 : decode cL_refusesOne 229 = .ok (.invokestatic 97, 3) := by decide +kernel
theorem dL_refusesOne_232 : decode cL_refusesOne 232 = .ok (.bipush (-12), 2) := by decide +kernel
theorem dL_refusesOne_234 : decode cL_refusesOne 234 = .ok (.if_icmp .ne 80, 3) := by decide +kernel
theorem dL_refusesOne_237 : decode cL_refusesOne 237 = .ok (.aload_n 0, 1) := by decide +kernel
theorem dL_refusesOne_238 : decode cL_refusesOne 238 = .ok (.bipush 6, 2) := by decide +kernel
theorem dL_refusesOne_240 : decode cL_refusesOne 240 = .ok (.iload_n 1, 1) := by decide +kernel
theorem dL_refusesOne_241 : decode cL_refusesOne 241 = .ok (.bipush 33, 2) := by decide +kernel
theorem dL_refusesOne_243 : decode cL_refusesOne 243 = .ok (.bipush 126, 2) := by decide +kernel
theorem dL_refusesOne_245 : decode cL_refusesOne 245 = .ok (.invokestatic 92, 3) := by decide +kernel
theorem dL_refusesOne_248 : decode cL_refusesOne 248 = .ok (.iconst 0, 1) := by decide +kernel
theorem dL_refusesOne_249 : decode cL_refusesOne 249 = .ok (.iconst 0, 1) := by decide +kernel
theorem dL_refusesOne_250 : decode cL_refusesOne 250 = .ok (.iconst 0, 1) := by decide +kernel
theorem dL_refusesOne_251 : decode cL_refusesOne 251 = .ok (.invokestatic 97, 3) := by decide +kernel
theorem dL_refusesOne_254 : decode cL_refusesOne 254 = .ok (.bipush (-12), 2) := by decide +kernel
theorem dL_refusesOne_256 : decode cL_refusesOne 256 = .ok (.if_icmp .ne 58, 3) := by decide +kernel
theorem dL_refusesOne_259 : decode cL_refusesOne 259 = .ok (.aload_n 0, 1) := by decide +kernel
theorem dL_refusesOne_260 : decode cL_refusesOne 260 = .ok (.bipush 7, 2) := by decide +kernel
theorem dL_refusesOne_262 : decode cL_refusesOne 262 = .ok (.iconst 0, 1) := by decide +kernel
theorem dL_refusesOne_263 : decode cL_refusesOne 263 = .ok (.iconst 0, 1) := by decide +kernel
theorem dL_refusesOne_264 : decode cL_refusesOne 264 = .ok (.iconst 0, 1) := by decide +kernel
theorem dL_refusesOne_265 : decode cL_refusesOne 265 = .ok (.iconst 0, 1) := by decide +kernel
theorem dL_refusesOne_266 : decode cL_refusesOne 266 = .ok (.invokestatic 97, 3) := by decide +kernel
theorem dL_refusesOne_269 : decode cL_refusesOne 269 = .ok (.bipush (-12), 2) := by decide +kernel
theorem dL_refusesOne_271 : decode cL_refusesOne 271 = .ok (.if_icmp .ne 43, 3) := by decide +kernel
theorem dL_refusesOne_274 : decode cL_refusesOne 274 = .ok (.aload_n 0, 1) := by decide +kernel
theorem dL_refusesOne_275 : decode cL_refusesOne 275 = .ok (.bipush 8, 2) := by decide +kernel
theorem dL_refusesOne_277 : decode cL_refusesOne 277 = .ok (.iload_n 1, 1) := by decide +kernel
theorem dL_refusesOne_278 : decode cL_refusesOne 278 = .ok (.iconst 0, 1) := by decide +kernel
theorem dL_refusesOne_279 : decode cL_refusesOne 279 = .ok (.iconst 1, 1) := by decide +kernel
theorem dL_refusesOne_280 : decode cL_refusesOne 280 = .ok (.invokestatic 92, 3) := by decide +kernel
theorem dL_refusesOne_283 : decode cL_refusesOne 283 = .ok (.iconst 0, 1) := by decide +kernel
theorem dL_refusesOne_284 : decode cL_refusesOne 284 = .ok (.iconst 0, 1) := by decide +kernel
theorem dL_refusesOne_285 : decode cL_refusesOne 285 = .ok (.iconst 0, 1) := by decide +kernel
theorem dL_refusesOne_286 : decode cL_refusesOne 286 = .ok (.invokestatic 97, 3) := by decide +kernel
theorem dL_refusesOne_289 : decode cL_refusesOne 289 = .ok (.bipush (-12), 2) := by decide +kernel
theorem dL_refusesOne_291 : decode cL_refusesOne 291 = .ok (.if_icmp .ne 23, 3) := by decide +kernel
theorem dL_refusesOne_294 : decode cL_refusesOne 294 = .ok (.aload_n 0, 1) := by decide +kernel
theorem dL_refusesOne_295 : decode cL_refusesOne 295 = .ok (.bipush 9, 2) := by decide +kernel
theorem dL_refusesOne_297 : decode cL_refusesOne 297 = .ok (.iload_n 1, 1) := by decide +kernel
theorem dL_refusesOne_298 : decode cL_refusesOne 298 = .ok (.iconst 0, 1) := by decide +kernel
theorem dL_refusesOne_299 : decode cL_refusesOne 299 = .ok (.iconst 1, 1) := by decide +kernel
theorem dL_refusesOne_300 : decode cL_refusesOne 300 = .ok (.invokestatic 92, 3) := by decide +kernel
theorem dL_refusesOne_303 : decode cL_refusesOne 303 = .ok (.iconst 0, 1) := by decide +kernel
theorem dL_refusesOne_304 : decode cL_refusesOne 304 = .ok (.iconst 0, 1) := by decide +kernel
theorem dL_refusesOne_305 : decode cL_refusesOne 305 = .ok (.iconst 0, 1) := by decide +kernel
theorem dL_refusesOne_306 : decode cL_refusesOne 306 = .ok (.invokestatic 97, 3) := by decide +kernel
theorem dL_refusesOne_309 : decode cL_refusesOne 309 = .ok (.bipush (-12), 2) := by decide +kernel
theorem dL_refusesOne_311 : decode cL_refusesOne 311 = .ok (.if_icmp .eq 5, 3) := by decide +kernel
theorem dL_refusesOne_314 : decode cL_refusesOne 314 = .ok (.iconst 0, 1) := by decide +kernel
theorem dL_refusesOne_315 : decode cL_refusesOne 315 = .ok (.ireturn, 1) := by decide +kernel
theorem dL_refusesOne_316 : decode cL_refusesOne 316 = .ok (.aload_n 0, 1) := by decide +kernel
theorem dL_refusesOne_317 : decode cL_refusesOne 317 = .ok (.bipush 11, 2) := by decide +kernel
theorem dL_refusesOne_319 : decode cL_refusesOne 319 = .ok (.iload_n 2, 1) := by decide +kernel
theorem dL_refusesOne_320 : decode cL_refusesOne 320 = .ok (.iconst 0, 1) := by decide +kernel
theorem dL_refusesOne_321 : decode cL_refusesOne 321 = .ok (.iconst 0, 1) := by decide +kernel
theorem dL_refusesOne_322 : decode cL_refusesOne 322 = .ok (.iconst 0, 1) := by decide +kernel
theorem dL_refusesOne_323 : decode cL_refusesOne 323 = .ok (.invokestatic 97, 3) := by decide +kernel
theorem dL_refusesOne_326 : decode cL_refusesOne 326 = .ok (.bipush (-11), 2) := by decide +kernel
theorem dL_refusesOne_328 : decode cL_refusesOne 328 = .ok (.if_icmp .ne 274, 3) := by decide +kernel
theorem dL_refusesOne_331 : decode cL_refusesOne 331 = .ok (.aload_n 0, 1) := by decide +kernel
theorem dL_refusesOne_332 : decode cL_refusesOne 332 = .ok (.bipush 11, 2) := by decide +kernel
theorem dL_refusesOne_334 : decode cL_refusesOne 334 = .ok (.iconst 0, 1) := by decide +kernel
theorem dL_refusesOne_335 : decode cL_refusesOne 335 = .ok (.iload_n 3, 1) := by decide +kernel
theorem dL_refusesOne_336 : decode cL_refusesOne 336 = .ok (.iconst 0, 1) := by decide +kernel
theorem dL_refusesOne_337 : decode cL_refusesOne 337 = .ok (.iconst 0, 1) := by decide +kernel
theorem dL_refusesOne_338 : decode cL_refusesOne 338 = .ok (.invokestatic 97, 3) := by decide +kernel
theorem dL_refusesOne_341 : decode cL_refusesOne 341 = .ok (.bipush (-11), 2) := by decide +kernel
theorem dL_refusesOne_343 : decode cL_refusesOne 343 = .ok (.if_icmp .ne 259, 3) := by decide +kernel
theorem dL_refusesOne_346 : decode cL_refusesOne 346 = .ok (.aload_n 0, 1) := by decide +kernel
theorem dL_refusesOne_347 : decode cL_refusesOne 347 = .ok (.bipush 12, 2) := by decide +kernel
theorem dL_refusesOne_349 : decode cL_refusesOne 349 = .ok (.iload_n 2, 1) := by decide +kernel
theorem dL_refusesOne_350 : decode cL_refusesOne 350 = .ok (.bipush 9, 2) := by decide +kernel
theorem dL_refusesOne_352 : decode cL_refusesOne 352 = .ok (.iconst 0, 1) := by decide +kernel
theorem dL_refusesOne_353 : decode cL_refusesOne 353 = .ok (.iconst 0, 1) := by decide +kernel
theorem dL_refusesOne_354 : decode cL_refusesOne 354 = .ok (.invokestatic 97, 3) := by decide +kernel
theorem dL_refusesOne_357 : decode cL_refusesOne 357 = .ok (.bipush (-11), 2) := by decide +kernel
theorem dL_refusesOne_359 : decode cL_refusesOne 359 = .ok (.if_icmp .ne 243, 3) := by decide +kernel
theorem dL_refusesOne_362 : decode cL_refusesOne 362 = .ok (.aload_n 0, 1) := by decide +kernel
theorem dL_refusesOne_363 : decode cL_refusesOne 363 = .ok (.bipush 12, 2) := by decide +kernel
theorem dL_refusesOne_365 : decode cL_refusesOne 365 = .ok (.iconst 0, 1) := by decide +kernel
theorem dL_refusesOne_366 : decode cL_refusesOne 366 = .ok (.iload_n 1, 1) := by decide +kernel
theorem dL_refusesOne_367 : decode cL_refusesOne 367 = .ok (.iconst 0, 1) := by decide +kernel
theorem dL_refusesOne_368 : decode cL_refusesOne 368 = .ok (.iconst 2, 1) := by decide +kernel
theorem dL_refusesOne_369 : decode cL_refusesOne 369 = .ok (.invokestatic 92, 3) := by decide +kernel
theorem dL_refusesOne_372 : decode cL_refusesOne 372 = .ok (.iconst 0, 1) := by decide +kernel
theorem dL_refusesOne_373 : decode cL_refusesOne 373 = .ok (.iconst 0, 1) := by decide +kernel
theorem dL_refusesOne_374 : decode cL_refusesOne 374 = .ok (.invokestatic 97, 3) := by decide +kernel
theorem dL_refusesOne_377 : decode cL_refusesOne 377 = .ok (.bipush (-12), 2) := by decide +kernel
theorem dL_refusesOne_379 : decode cL_refusesOne 379 = .ok (.if_icmp .ne 223, 3) := by decide +kernel
theorem dL_refusesOne_382 : decode cL_refusesOne 382 = .ok (.aload_n 0, 1) := by decide +kernel
theorem dL_refusesOne_383 : decode cL_refusesOne 383 = .ok (.bipush 13, 2) := by decide +kernel
theorem dL_refusesOne_385 : decode cL_refusesOne 385 = .ok (.iload_n 1, 1) := by decide +kernel
theorem dL_refusesOne_386 : decode cL_refusesOne 386 = .ok (.iconst 0, 1) := by decide +kernel
theorem dL_refusesOne_387 : decode cL_refusesOne 387 = .ok (.iconst 2, 1) := by decide +kernel
theorem dL_refusesOne_388 : decode cL_refusesOne 388 = .ok (.invokestatic 92, 3) := by decide +kernel
theorem dL_refusesOne_391 : decode cL_refusesOne 391 = .ok (.iconst 0, 1) := by decide +kernel
theorem dL_refusesOne_392 : decode cL_refusesOne 392 = .ok (.iconst 0, 1) := by decide +kernel
theorem dL_refusesOne_393 : decode cL_refusesOne 393 = .ok (.iconst 0, 1) := by decide +kernel
theorem dL_refusesOne_394 : decode cL_refusesOne 394 = .ok (.invokestatic 97, 3) := by decide +kernel
theorem dL_refusesOne_397 : decode cL_refusesOne 397 = .ok (.bipush (-12), 2) := by decide +kernel
theorem dL_refusesOne_399 : decode cL_refusesOne 399 = .ok (.if_icmp .ne 203, 3) := by decide +kernel
theorem dL_refusesOne_402 : decode cL_refusesOne 402 = .ok (.aload_n 0, 1) := by decide +kernel
theorem dL_refusesOne_403 : decode cL_refusesOne 403 = .ok (.bipush 14, 2) := by decide +kernel
theorem dL_refusesOne_405 : decode cL_refusesOne 405 = .ok (.iload_n 1, 1) := by decide +kernel
theorem dL_refusesOne_406 : decode cL_refusesOne 406 = .ok (.iconst 0, 1) := by decide +kernel
theorem dL_refusesOne_407 : decode cL_refusesOne 407 = .ok (.iconst 3, 1) := by decide +kernel
theorem dL_refusesOne_408 : decode cL_refusesOne 408 = .ok (.invokestatic 92, 3) := by decide +kernel
theorem dL_refusesOne_411 : decode cL_refusesOne 411 = .ok (.iconst 0, 1) := by decide +kernel
theorem dL_refusesOne_412 : decode cL_refusesOne 412 = .ok (.iconst 0, 1) := by decide +kernel
theorem dL_refusesOne_413 : decode cL_refusesOne 413 = .ok (.iconst 0, 1) := by decide +kernel
theorem dL_refusesOne_414 : decode cL_refusesOne 414 = .ok (.invokestatic 97, 3) := by decide +kernel
theorem dL_refusesOne_417 : decode cL_refusesOne 417 = .ok (.bipush (-12), 2) := by decide +kernel
theorem dL_refusesOne_419 : decode cL_refusesOne 419 = .ok (.if_icmp .ne 183, 3) := by decide +kernel
theorem dL_refusesOne_422 : decode cL_refusesOne 422 = .ok (.aload_n 0, 1) := by decide +kernel
theorem dL_refusesOne_423 : decode cL_refusesOne 423 = .ok (.bipush 15, 2) := by decide +kernel
theorem dL_refusesOne_425 : decode cL_refusesOne 425 = .ok (.iload_n 1, 1) := by decide +kernel
theorem dL_refusesOne_426 : decode cL_refusesOne 426 = .ok (.iconst 0, 1) := by decide +kernel
theorem dL_refusesOne_427 : decode cL_refusesOne 427 = .ok (.bipush 8, 2) := by decide +kernel
theorem dL_refusesOne_429 : decode cL_refusesOne 429 = .ok (.invokestatic 92, 3) := by decide +kernel
theorem dL_refusesOne_432 : decode cL_refusesOne 432 = .ok (.iconst 0, 1) := by decide +kernel
theorem dL_refusesOne_433 : decode cL_refusesOne 433 = .ok (.iconst 0, 1) := by decide +kernel
theorem dL_refusesOne_434 : decode cL_refusesOne 434 = .ok (.iconst 0, 1) := by decide +kernel
theorem dL_refusesOne_435 : decode cL_refusesOne 435 = .ok (.invokestatic 97, 3) := by decide +kernel
theorem dL_refusesOne_438 : decode cL_refusesOne 438 = .ok (.bipush (-12), 2) := by decide +kernel
theorem dL_refusesOne_440 : decode cL_refusesOne 440 = .ok (.if_icmp .ne 162, 3) := by decide +kernel
theorem dL_refusesOne_443 : decode cL_refusesOne 443 = .ok (.aload_n 0, 1) := by decide +kernel
theorem dL_refusesOne_444 : decode cL_refusesOne 444 = .ok (.bipush 16, 2) := by decide +kernel
theorem dL_refusesOne_446 : decode cL_refusesOne 446 = .ok (.iload_n 1, 1) := by decide +kernel
theorem dL_refusesOne_447 : decode cL_refusesOne 447 = .ok (.iconst 0, 1) := by decide +kernel
theorem dL_refusesOne_448 : decode cL_refusesOne 448 = .ok (.aload_n 0, 1) := by decide +kernel
theorem dL_refusesOne_449 : decode cL_refusesOne 449 = .ok (.iconst 2, 1) := by decide +kernel
theorem dL_refusesOne_450 : decode cL_refusesOne 450 = .ok (.invokevirtual 61, 3) := by decide +kernel
theorem dL_refusesOne_453 : decode cL_refusesOne 453 = .ok (.iconst 1, 1) := by decide +kernel
theorem dL_refusesOne_454 : decode cL_refusesOne 454 = .ok (.isub, 1) := by decide +kernel
theorem dL_refusesOne_455 : decode cL_refusesOne 455 = .ok (.invokestatic 92, 3) := by decide +kernel
theorem dL_refusesOne_458 : decode cL_refusesOne 458 = .ok (.iconst 0, 1) := by decide +kernel
theorem dL_refusesOne_459 : decode cL_refusesOne 459 = .ok (.iconst 0, 1) := by decide +kernel
theorem dL_refusesOne_460 : decode cL_refusesOne 460 = .ok (.iconst 0, 1) := by decide +kernel
theorem dL_refusesOne_461 : decode cL_refusesOne 461 = .ok (.invokestatic 97, 3) := by decide +kernel
theorem dL_refusesOne_464 : decode cL_refusesOne 464 = .ok (.bipush (-11), 2) := by decide +kernel
theorem dL_refusesOne_466 : decode cL_refusesOne 466 = .ok (.if_icmp .ne 136, 3) := by decide +kernel
theorem dL_refusesOne_469 : decode cL_refusesOne 469 = .ok (.aload_n 0, 1) := by decide +kernel
theorem dL_refusesOne_470 : decode cL_refusesOne 470 = .ok (.bipush 17, 2) := by decide +kernel
theorem dL_refusesOne_472 : decode cL_refusesOne 472 = .ok (.iload_n 1, 1) := by decide +kernel
theorem dL_refusesOne_473 : decode cL_refusesOne 473 = .ok (.iconst 1, 1) := by decide +kernel
theorem dL_refusesOne_474 : decode cL_refusesOne 474 = .ok (.aload_n 0, 1) := by decide +kernel
theorem dL_refusesOne_475 : decode cL_refusesOne 475 = .ok (.iconst 2, 1) := by decide +kernel
theorem dL_refusesOne_476 : decode cL_refusesOne 476 = .ok (.invokevirtual 61, 3) := by decide +kernel
theorem dL_refusesOne_479 : decode cL_refusesOne 479 = .ok (.invokestatic 92, 3) := by decide +kernel
theorem dL_refusesOne_482 : decode cL_refusesOne 482 = .ok (.iconst 0, 1) := by decide +kernel
theorem dL_refusesOne_483 : decode cL_refusesOne 483 = .ok (.iconst 0, 1) := by decide +kernel
theorem dL_refusesOne_484 : decode cL_refusesOne 484 = .ok (.iconst 0, 1) := by decide +kernel
theorem dL_refusesOne_485 : decode cL_refusesOne 485 = .ok (.invokestatic 97, 3) := by decide +kernel
theorem dL_refusesOne_488 : decode cL_refusesOne 488 = .ok (.bipush (-12), 2) := by decide +kernel
theorem dL_refusesOne_490 : decode cL_refusesOne 490 = .ok (.if_icmp .ne 112, 3) := by decide +kernel
theorem dL_refusesOne_493 : decode cL_refusesOne 493 = .ok (.aload_n 0, 1) := by decide +kernel
theorem dL_refusesOne_494 : decode cL_refusesOne 494 = .ok (.bipush 17, 2) := by decide +kernel
theorem dL_refusesOne_496 : decode cL_refusesOne 496 = .ok (.iconst 1, 1) := by decide +kernel
theorem dL_refusesOne_497 : decode cL_refusesOne 497 = .ok (.iload_n 1, 1) := by decide +kernel
theorem dL_refusesOne_498 : decode cL_refusesOne 498 = .ok (.iconst 0, 1) := by decide +kernel
theorem dL_refusesOne_499 : decode cL_refusesOne 499 = .ok (.iconst 1, 1) := by decide +kernel
theorem dL_refusesOne_500 : decode cL_refusesOne 500 = .ok (.invokestatic 92, 3) := by decide +kernel
theorem dL_refusesOne_503 : decode cL_refusesOne 503 = .ok (.iconst 0, 1) := by decide +kernel
theorem dL_refusesOne_504 : decode cL_refusesOne 504 = .ok (.iconst 0, 1) := by decide +kernel
theorem dL_refusesOne_505 : decode cL_refusesOne 505 = .ok (.invokestatic 97, 3) := by decide +kernel
theorem dL_refusesOne_508 : decode cL_refusesOne 508 = .ok (.bipush (-12), 2) := by decide +kernel
theorem dL_refusesOne_510 : decode cL_refusesOne 510 = .ok (.if_icmp .ne 92, 3) := by decide +kernel
theorem dL_refusesOne_513 : decode cL_refusesOne 513 = .ok (.aload_n 0, 1) := by decide +kernel
theorem dL_refusesOne_514 : decode cL_refusesOne 514 = .ok (.bipush 18, 2) := by decide +kernel
theorem dL_refusesOne_516 : decode cL_refusesOne 516 = .ok (.iload_n 1, 1) := by decide +kernel
theorem dL_refusesOne_517 : decode cL_refusesOne 517 = .ok (.iconst 1, 1) := by decide +kernel
theorem dL_refusesOne_518 : decode cL_refusesOne 518 = .ok (.aload_n 0, 1) := by decide +kernel
theorem dL_refusesOne_519 : decode cL_refusesOne 519 = .ok (.iconst 2, 1) := by decide +kernel
theorem dL_refusesOne_520 : decode cL_refusesOne 520 = .ok (.invokevirtual 61, 3) := by decide +kernel
theorem dL_refusesOne_523 : decode cL_refusesOne 523 = .ok (.invokestatic 92, 3) := by decide +kernel
theorem dL_refusesOne_526 : decode cL_refusesOne 526 = .ok (.iconst 0, 1) := by decide +kernel
theorem dL_refusesOne_527 : decode cL_refusesOne 527 = .ok (.iconst 0, 1) := by decide +kernel
theorem dL_refusesOne_528 : decode cL_refusesOne 528 = .ok (.iconst 0, 1) := by decide +kernel
theorem dL_refusesOne_529 : decode cL_refusesOne 529 = .ok (.invokestatic 97, 3) := by decide +kernel
theorem dL_refusesOne_532 : decode cL_refusesOne 532 = .ok (.bipush (-12), 2) := by decide +kernel
theorem dL_refusesOne_534 : decode cL_refusesOne 534 = .ok (.if_icmp .ne 68, 3) := by decide +kernel
theorem dL_refusesOne_537 : decode cL_refusesOne 537 = .ok (.aload_n 0, 1) := by decide +kernel
theorem dL_refusesOne_538 : decode cL_refusesOne 538 = .ok (.bipush 18, 2) := by decide +kernel
theorem dL_refusesOne_540 : decode cL_refusesOne 540 = .ok (.iconst 1, 1) := by decide +kernel
theorem dL_refusesOne_541 : decode cL_refusesOne 541 = .ok (.iload_n 1, 1) := by decide +kernel
theorem dL_refusesOne_542 : decode cL_refusesOne 542 = .ok (.iconst 2, 1) := by decide +kernel
theorem dL_refusesOne_543 : decode cL_refusesOne 543 = .ok (.if_icmp .ne 8, 3) := by decide +kernel
theorem dL_refusesOne_546 : decode cL_refusesOne 546 = .ok (.ldc 91, 2) := by decide +kernel
theorem dL_refusesOne_548 : decode cL_refusesOne 548 = .ok (.goto 4, 3) := by decide +kernel
theorem dL_refusesOne_551 : decode cL_refusesOne 551 = .ok (.iconst (-1), 1) := by decide +kernel
theorem dL_refusesOne_552 : decode cL_refusesOne 552 = .ok (.iconst 0, 1) := by decide +kernel
theorem dL_refusesOne_553 : decode cL_refusesOne 553 = .ok (.iconst 0, 1) := by decide +kernel
theorem dL_refusesOne_554 : decode cL_refusesOne 554 = .ok (.invokestatic 97, 3) := by decide +kernel
theorem dL_refusesOne_557 : decode cL_refusesOne 557 = .ok (.bipush (-12), 2) := by decide +kernel
theorem dL_refusesOne_559 : decode cL_refusesOne 559 = .ok (.if_icmp .ne 43, 3) := by decide +kernel
theorem dL_refusesOne_562 : decode cL_refusesOne 562 = .ok (.aload_n 0, 1) := by decide +kernel
theorem dL_refusesOne_563 : decode cL_refusesOne 563 = .ok (.bipush 18, 2) := by decide +kernel
theorem dL_refusesOne_565 : decode cL_refusesOne 565 = .ok (.iconst 1, 1) := by decide +kernel
theorem dL_refusesOne_566 : decode cL_refusesOne 566 = .ok (.ldc 7, 2) := by decide +kernel
theorem dL_refusesOne_568 : decode cL_refusesOne 568 = .ok (.iconst 0, 1) := by decide +kernel
theorem dL_refusesOne_569 : decode cL_refusesOne 569 = .ok (.iconst 0, 1) := by decide +kernel
theorem dL_refusesOne_570 : decode cL_refusesOne 570 = .ok (.invokestatic 97, 3) := by decide +kernel
theorem dL_refusesOne_573 : decode cL_refusesOne 573 = .ok (.iconst (-1), 1) := by decide +kernel
theorem dL_refusesOne_574 : decode cL_refusesOne 574 = .ok (.if_icmp .ne 28, 3) := by decide +kernel
theorem dL_refusesOne_577 : decode cL_refusesOne 577 = .ok (.aload_n 0, 1) := by decide +kernel
theorem dL_refusesOne_578 : decode cL_refusesOne 578 = .ok (.bipush 19, 2) := by decide +kernel
theorem dL_refusesOne_580 : decode cL_refusesOne 580 = .ok (.iload_n 1, 1) := by decide +kernel
theorem dL_refusesOne_581 : decode cL_refusesOne 581 = .ok (.iconst 1, 1) := by decide +kernel
theorem dL_refusesOne_582 : decode cL_refusesOne 582 = .ok (.ldc 101, 2) := by decide +kernel
theorem dL_refusesOne_584 : decode cL_refusesOne 584 = .ok (.invokestatic 92, 3) := by decide +kernel
theorem dL_refusesOne_587 : decode cL_refusesOne 587 = .ok (.iconst 0, 1) := by decide +kernel
theorem dL_refusesOne_588 : decode cL_refusesOne 588 = .ok (.iconst 0, 1) := by decide +kernel
theorem dL_refusesOne_589 : decode cL_refusesOne 589 = .ok (.iconst 0, 1) := by decide +kernel
theorem dL_refusesOne_590 : decode cL_refusesOne 590 = .ok (.invokestatic 97, 3) := by decide +kernel
theorem dL_refusesOne_593 : decode cL_refusesOne 593 = .ok (.bipush (-12), 2) := by decide +kernel
theorem dL_refusesOne_595 : decode cL_refusesOne 595 = .ok (.if_icmp .ne 7, 3) := by decide +kernel
theorem dL_refusesOne_598 : decode cL_refusesOne 598 = .ok (.iconst 1, 1) := by decide +kernel
theorem dL_refusesOne_599 : decode cL_refusesOne 599 = .ok (.goto 4, 3) := by decide +kernel
theorem dL_refusesOne_602 : decode cL_refusesOne 602 = .ok (.iconst 0, 1) := by decide +kernel
theorem dL_refusesOne_603 : decode cL_refusesOne 603 = .ok (.ireturn, 1) := by decide +kernel
theorem dL_refused_0 : decode cL_refused 0 = .ok (.aload_n 0, 1) := by decide +kernel
theorem dL_refused_1 : decode cL_refused 1 = .ok (.invokestatic 102, 3) := by decide +kernel
theorem dL_refused_4 : decode cL_refused 4 = .ok (.lstore_n 1, 1) := by decide +kernel
theorem dL_refused_5 : decode cL_refused 5 = .ok (.aload_n 0, 1) := by decide +kernel
theorem dL_refused_6 : decode cL_refused 6 = .ok (.bipush 8, 2) := by decide +kernel
theorem dL_refused_8 : decode cL_refused 8 = .ok (.invokevirtual 61, 3) := by decide +kernel
theorem dL_refused_11 : decode cL_refused 11 = .ok (.istore_n 3, 1) := by decide +kernel
theorem dL_refused_12 : decode cL_refused 12 = .ok (.iconst 0, 1) := by decide +kernel
theorem dL_refused_13 : decode cL_refused 13 = .ok (.istore 4, 2) := by decide +kernel
theorem dL_refused_15 : decode cL_refused 15 = .ok (.iload 4, 2) := by decide +kernel
theorem dL_refused_17 : decode cL_refused 17 = .ok (.iconst 4, 1) := by decide +kernel
theorem dL_refused_18 : decode cL_refused 18 = .ok (.if_icmp .ge 20, 3) := by decide +kernel
theorem dL_refused_21 : decode cL_refused 21 = .ok (.aload_n 0, 1) := by decide +kernel
theorem dL_refused_22 : decode cL_refused 22 = .ok (.iload 4, 2) := by decide +kernel
theorem dL_refused_24 : decode cL_refused 24 = .ok (.invokestatic 106, 3) := by decide +kernel
theorem dL_refused_27 : decode cL_refused 27 = .ok (.ifCond .ne 5, 3) := by decide +kernel
theorem dL_refused_30 : decode cL_refused 30 = .ok (.iconst 0, 1) := by decide +kernel
theorem dL_refused_31 : decode cL_refused 31 = .ok (.ireturn, 1) := by decide +kernel
theorem dL_refused_32 : decode cL_refused 32 = .ok (.iinc 4 1, 3) := by decide +kernel
theorem dL_refused_35 : decode cL_refused 35 = .ok (.goto (-20), 3) := by decide +kernel
theorem dL_refused_38 : decode cL_refused 38 = .ok (.aload_n 0, 1) := by decide +kernel
theorem dL_refused_39 : decode cL_refused 39 = .ok (.invokestatic 102, 3) := by decide +kernel
theorem dL_refused_42 : decode cL_refused 42 = .ok (.lload_n 1, 1) := by decide +kernel
theorem dL_refused_43 : decode cL_refused 43 = .ok (.lcmp, 1) := by decide +kernel
theorem dL_refused_44 : decode cL_refused 44 = .ok (.ifCond .ne 17, 3) := by decide +kernel
theorem dL_refused_47 : decode cL_refused 47 = .ok (.aload_n 0, 1) := by decide +kernel
theorem dL_refused_48 : decode cL_refused 48 = .ok (.bipush 8, 2) := by decide +kernel
theorem dL_refused_50 : decode cL_refused 50 = .ok (.invokevirtual 61, 3) := by decide +kernel
theorem dL_refused_53 : decode cL_refused 53 = .ok (.iload_n 3, 1) := by decide +kernel
theorem dL_refused_54 : decode cL_refused 54 = .ok (.if_icmp .ne 7, 3) := by decide +kernel
theorem dL_refused_57 : decode cL_refused 57 = .ok (.iconst 1, 1) := by decide +kernel
theorem dL_refused_58 : decode cL_refused 58 = .ok (.goto 4, 3) := by decide +kernel
theorem dL_refused_61 : decode cL_refused 61 = .ok (.iconst 0, 1) := by decide +kernel
theorem dL_refused_62 : decode cL_refused 62 = .ok (.ireturn, 1) := by decide +kernel
theorem dL_small_0 : decode cL_small 0 = .ok (.new 10, 3) := by decide +kernel
theorem dL_small_3 : decode cL_small 3 = .ok (.dup, 1) := by decide +kernel
theorem dL_small_4 : decode cL_small 4 = .ok (.invokespecial 110, 3) := by decide +kernel
theorem dL_small_7 : decode cL_small 7 = .ok (.astore_n 0, 1) := by decide +kernel
theorem dL_small_8 : decode cL_small 8 = .ok (.aload_n 0, 1) := by decide +kernel
theorem dL_small_9 : decode cL_small 9 = .ok (.bipush 10, 2) := by decide +kernel
theorem dL_small_11 : decode cL_small 11 = .ok (.iconst 0, 1) := by decide +kernel
theorem dL_small_12 : decode cL_small 12 = .ok (.iconst 0, 1) := by decide +kernel
theorem dL_small_13 : decode cL_small 13 = .ok (.iconst 0, 1) := by decide +kernel
theorem dL_small_14 : decode cL_small 14 = .ok (.iconst 0, 1) := by decide +kernel
theorem dL_small_15 : decode cL_small 15 = .ok (.invokestatic 97, 3) := by decide +kernel
theorem dL_small_18 : decode cL_small 18 = .ok (.bipush (-13), 2) := by decide +kernel
theorem dL_small_20 : decode cL_small 20 = .ok (.if_icmp .ne 168, 3) := by decide +kernel
theorem dL_small_23 : decode cL_small 23 = .ok (.aload_n 0, 1) := by decide +kernel
theorem dL_small_24 : decode cL_small 24 = .ok (.bipush 9, 2) := by decide +kernel
theorem dL_small_26 : decode cL_small 26 = .ok (.iconst 1, 1) := by decide +kernel
theorem dL_small_27 : decode cL_small 27 = .ok (.iconst 0, 1) := by decide +kernel
theorem dL_small_28 : decode cL_small 28 = .ok (.iconst 0, 1) := by decide +kernel
theorem dL_small_29 : decode cL_small 29 = .ok (.iconst 0, 1) := by decide +kernel
theorem dL_small_30 : decode cL_small 30 = .ok (.invokestatic 97, 3) := by decide +kernel
theorem dL_small_33 : decode cL_small 33 = .ok (.bipush (-13), 2) := by decide +kernel
theorem dL_small_35 : decode cL_small 35 = .ok (.if_icmp .ne 153, 3) := by decide +kernel
theorem dL_small_38 : decode cL_small 38 = .ok (.aload_n 0, 1) := by decide +kernel
theorem dL_small_39 : decode cL_small 39 = .ok (.iconst 5, 1) := by decide +kernel
theorem dL_small_40 : decode cL_small 40 = .ok (.iconst 0, 1) := by decide +kernel
theorem dL_small_41 : decode cL_small 41 = .ok (.iconst 0, 1) := by decide +kernel
theorem dL_small_42 : decode cL_small 42 = .ok (.iconst 0, 1) := by decide +kernel
theorem dL_small_43 : decode cL_small 43 = .ok (.iconst 0, 1) := by decide +kernel
theorem dL_small_44 : decode cL_small 44 = .ok (.invokestatic 97, 3) := by decide +kernel
theorem dL_small_47 : decode cL_small 47 = .ok (.bipush (-13), 2) := by decide +kernel
theorem dL_small_49 : decode cL_small 49 = .ok (.if_icmp .ne 139, 3) := by decide +kernel
theorem dL_small_52 : decode cL_small 52 = .ok (.aload_n 0, 1) := by decide +kernel
theorem dL_small_53 : decode cL_small 53 = .ok (.iconst 0, 1) := by decide +kernel
theorem dL_small_54 : decode cL_small 54 = .ok (.invokevirtual 55, 3) := by decide +kernel
theorem dL_small_57 : decode cL_small 57 = .ok (.bipush 16, 2) := by decide +kernel
theorem dL_small_59 : decode cL_small 59 = .ok (.if_icmp .ne 129, 3) := by decide +kernel
theorem dL_small_62 : decode cL_small 62 = .ok (.aload_n 0, 1) := by decide +kernel
theorem dL_small_63 : decode cL_small 63 = .ok (.iconst 1, 1) := by decide +kernel
theorem dL_small_64 : decode cL_small 64 = .ok (.invokevirtual 55, 3) := by decide +kernel
theorem dL_small_67 : decode cL_small 67 = .ok (.bipush 13, 2) := by decide +kernel
theorem dL_small_69 : decode cL_small 69 = .ok (.if_icmp .ne 119, 3) := by decide +kernel
theorem dL_small_72 : decode cL_small 72 = .ok (.aload_n 0, 1) := by decide +kernel
theorem dL_small_73 : decode cL_small 73 = .ok (.iconst 2, 1) := by decide +kernel
theorem dL_small_74 : decode cL_small 74 = .ok (.invokevirtual 55, 3) := by decide +kernel
theorem dL_small_77 : decode cL_small 77 = .ok (.bipush 18, 2) := by decide +kernel
theorem dL_small_79 : decode cL_small 79 = .ok (.if_icmp .ne 109, 3) := by decide +kernel
theorem dL_small_82 : decode cL_small 82 = .ok (.aload_n 0, 1) := by decide +kernel
theorem dL_small_83 : decode cL_small 83 = .ok (.invokevirtual 88, 3) := by decide +kernel
theorem dL_small_86 : decode cL_small 86 = .ok (.bipush 24, 2) := by decide +kernel
theorem dL_small_88 : decode cL_small 88 = .ok (.if_icmp .ne 100, 3) := by decide +kernel
theorem dL_small_91 : decode cL_small 91 = .ok (.aload_n 0, 1) := by decide +kernel
theorem dL_small_92 : decode cL_small 92 = .ok (.invokevirtual 111, 3) := by decide +kernel
theorem dL_small_95 : decode cL_small 95 = .ok (.ldc2_w 115, 3) := by decide +kernel
theorem dL_small_98 : decode cL_small 98 = .ok (.dcmp .l, 1) := by decide +kernel
theorem dL_small_99 : decode cL_small 99 = .ok (.ifCond .ne 89, 3) := by decide +kernel
theorem dL_small_102 : decode cL_small 102 = .ok (.aload_n 0, 1) := by decide +kernel
theorem dL_small_103 : decode cL_small 103 = .ok (.iconst 3, 1) := by decide +kernel
theorem dL_small_104 : decode cL_small 104 = .ok (.iconst 2, 1) := by decide +kernel
theorem dL_small_105 : decode cL_small 105 = .ok (.invokevirtual 52, 3) := by decide +kernel
theorem dL_small_108 : decode cL_small 108 = .ok (.ifCond .ne 80, 3) := by decide +kernel
theorem dL_small_111 : decode cL_small 111 = .ok (.aload_n 0, 1) := by decide +kernel
theorem dL_small_112 : decode cL_small 112 = .ok (.iconst 0, 1) := by decide +kernel
theorem dL_small_113 : decode cL_small 113 = .ok (.invokevirtual 58, 3) := by decide +kernel
theorem dL_small_116 : decode cL_small 116 = .ok (.iconst (-1), 1) := by decide +kernel
theorem dL_small_117 : decode cL_small 117 = .ok (.if_icmp .ne 71, 3) := by decide +kernel
theorem dL_small_120 : decode cL_small 120 = .ok (.aload_n 0, 1) := by decide +kernel
theorem dL_small_121 : decode cL_small 121 = .ok (.iconst 1, 1) := by decide +kernel
theorem dL_small_122 : decode cL_small 122 = .ok (.iconst 1, 1) := by decide +kernel
theorem dL_small_123 : decode cL_small 123 = .ok (.invokevirtual 67, 3) := by decide +kernel
theorem dL_small_126 : decode cL_small 126 = .ok (.iconst 1, 1) := by decide +kernel
theorem dL_small_127 : decode cL_small 127 = .ok (.if_icmp .ne 61, 3) := by decide +kernel
theorem dL_small_130 : decode cL_small 130 = .ok (.aload_n 0, 1) := by decide +kernel
theorem dL_small_131 : decode cL_small 131 = .ok (.invokestatic 117, 3) := by decide +kernel
theorem dL_small_134 : decode cL_small 134 = .ok (.ifCond .eq 54, 3) := by decide +kernel
theorem dL_small_137 : decode cL_small 137 = .ok (.aload_n 0, 1) := by decide +kernel
theorem dL_small_138 : decode cL_small 138 = .ok (.iconst 2, 1) := by decide +kernel
theorem dL_small_139 : decode cL_small 139 = .ok (.iconst 2, 1) := by decide +kernel
theorem dL_small_140 : decode cL_small 140 = .ok (.invokevirtual 9, 3) := by decide +kernel
theorem dL_small_143 : decode cL_small 143 = .ok (.bipush 48, 2) := by decide +kernel
theorem dL_small_145 : decode cL_small 145 = .ok (.if_icmp .ne 43, 3) := by decide +kernel
theorem dL_small_148 : decode cL_small 148 = .ok (.aload_n 0, 1) := by decide +kernel
theorem dL_small_149 : decode cL_small 149 = .ok (.iconst 0, 1) := by decide +kernel
theorem dL_small_150 : decode cL_small 150 = .ok (.iconst 0, 1) := by decide +kernel
theorem dL_small_151 : decode cL_small 151 = .ok (.iconst 5, 1) := by decide +kernel
theorem dL_small_152 : decode cL_small 152 = .ok (.invokevirtual 15, 3) := by decide +kernel
theorem dL_small_155 : decode cL_small 155 = .ok (.ifCond .ne 33, 3) := by decide +kernel
theorem dL_small_158 : decode cL_small 158 = .ok (.aload_n 0, 1) := by decide +kernel
theorem dL_small_159 : decode cL_small 159 = .ok (.iconst 0, 1) := by decide +kernel
theorem dL_small_160 : decode cL_small 160 = .ok (.iconst 1, 1) := by decide +kernel
theorem dL_small_161 : decode cL_small 161 = .ok (.iconst 3, 1) := by decide +kernel
theorem dL_small_162 : decode cL_small 162 = .ok (.invokevirtual 15, 3) := by decide +kernel
theorem dL_small_165 : decode cL_small 165 = .ok (.ifCond .ne 23, 3) := by decide +kernel
theorem dL_small_168 : decode cL_small 168 = .ok (.aload_n 0, 1) := by decide +kernel
theorem dL_small_169 : decode cL_small 169 = .ok (.iconst 1, 1) := by decide +kernel
theorem dL_small_170 : decode cL_small 170 = .ok (.iconst 0, 1) := by decide +kernel
theorem dL_small_171 : decode cL_small 171 = .ok (.iconst 1, 1) := by decide +kernel
theorem dL_small_172 : decode cL_small 172 = .ok (.invokevirtual 15, 3) := by decide +kernel
theorem dL_small_175 : decode cL_small 175 = .ok (.ifCond .ne 13, 3) := by decide +kernel
theorem dL_small_178 : decode cL_small 178 = .ok (.aload_n 0, 1) := by decide +kernel
theorem dL_small_179 : decode cL_small 179 = .ok (.iconst 1, 1) := by decide +kernel
theorem dL_small_180 : decode cL_small 180 = .ok (.iconst 1, 1) := by decide +kernel
theorem dL_small_181 : decode cL_small 181 = .ok (.iconst 2, 1) := by decide +kernel
theorem dL_small_182 : decode cL_small 182 = .ok (.invokevirtual 15, 3) := by decide +kernel
theorem dL_small_185 : decode cL_small 185 = .ok (.ifCond .eq 5, 3) := by decide +kernel
theorem dL_small_188 : decode cL_small 188 = .ok (.iconst 0, 1) := by decide +kernel
theorem dL_small_189 : decode cL_small 189 = .ok (.ireturn, 1) := by decide +kernel
theorem dL_small_190 : decode cL_small 190 = .ok (.aload_n 0, 1) := by decide +kernel
theorem dL_small_191 : decode cL_small 191 = .ok (.iconst 0, 1) := by decide +kernel
theorem dL_small_192 : decode cL_small 192 = .ok (.invokevirtual 58, 3) := by decide +kernel
theorem dL_small_195 : decode cL_small 195 = .ok (.ifCond .ne 204, 3) := by decide +kernel
theorem dL_small_198 : decode cL_small 198 = .ok (.aload_n 0, 1) := by decide +kernel
theorem dL_small_199 : decode cL_small 199 = .ok (.iconst 1, 1) := by decide +kernel
theorem dL_small_200 : decode cL_small 200 = .ok (.invokevirtual 58, 3) := by decide +kernel
theorem dL_small_203 : decode cL_small 203 = .ok (.ifCond .ne 196, 3) := by decide +kernel
theorem dL_small_206 : decode cL_small 206 = .ok (.aload_n 0, 1) := by decide +kernel
theorem dL_small_207 : decode cL_small 207 = .ok (.iconst 2, 1) := by decide +kernel
theorem dL_small_208 : decode cL_small 208 = .ok (.invokevirtual 58, 3) := by decide +kernel
theorem dL_small_211 : decode cL_small 211 = .ok (.iconst 1, 1) := by decide +kernel
theorem dL_small_212 : decode cL_small 212 = .ok (.if_icmp .ne 187, 3) := by decide +kernel
theorem dL_small_215 : decode cL_small 215 = .ok (.aload_n 0, 1) := by decide +kernel
theorem dL_small_216 : decode cL_small 216 = .ok (.iconst 3, 1) := by decide +kernel
theorem dL_small_217 : decode cL_small 217 = .ok (.invokevirtual 58, 3) := by decide +kernel
theorem dL_small_220 : decode cL_small 220 = .ok (.iconst 1, 1) := by decide +kernel
theorem dL_small_221 : decode cL_small 221 = .ok (.if_icmp .ne 178, 3) := by decide +kernel
theorem dL_small_224 : decode cL_small 224 = .ok (.aload_n 0, 1) := by decide +kernel
theorem dL_small_225 : decode cL_small 225 = .ok (.iconst 0, 1) := by decide +kernel
theorem dL_small_226 : decode cL_small 226 = .ok (.iconst 0, 1) := by decide +kernel
theorem dL_small_227 : decode cL_small 227 = .ok (.invokevirtual 52, 3) := by decide +kernel
theorem dL_small_230 : decode cL_small 230 = .ok (.iconst 1, 1) := by decide +kernel
theorem dL_small_231 : decode cL_small 231 = .ok (.if_icmp .ne 168, 3) := by decide +kernel
theorem dL_small_234 : decode cL_small 234 = .ok (.aload_n 0, 1) := by decide +kernel
theorem dL_small_235 : decode cL_small 235 = .ok (.iconst 1, 1) := by decide +kernel
theorem dL_small_236 : decode cL_small 236 = .ok (.iconst 0, 1) := by decide +kernel
theorem dL_small_237 : decode cL_small 237 = .ok (.invokevirtual 52, 3) := by decide +kernel
theorem dL_small_240 : decode cL_small 240 = .ok (.ifCond .ne 159, 3) := by decide +kernel
theorem dL_small_243 : decode cL_small 243 = .ok (.aload_n 0, 1) := by decide +kernel
theorem dL_small_244 : decode cL_small 244 = .ok (.iconst 0, 1) := by decide +kernel
theorem dL_small_245 : decode cL_small 245 = .ok (.iconst 1, 1) := by decide +kernel
theorem dL_small_246 : decode cL_small 246 = .ok (.invokevirtual 52, 3) := by decide +kernel
theorem dL_small_249 : decode cL_small 249 = .ok (.iconst (-1), 1) := by decide +kernel
theorem dL_small_250 : decode cL_small 250 = .ok (.if_icmp .ne 149, 3) := by decide +kernel
theorem dL_small_253 : decode cL_small 253 = .ok (.aload_n 0, 1) := by decide +kernel
theorem dL_small_254 : decode cL_small 254 = .ok (.iconst 1, 1) := by decide +kernel
theorem dL_small_255 : decode cL_small 255 = .ok (.iconst 2, 1) := by decide +kernel
theorem dL_small_256 : decode cL_small 256 = .ok (.invokevirtual 52, 3) := by decide +kernel
theorem dL_small_259 : decode cL_small 259 = .ok (.iconst (-1), 1) := by decide +kernel
theorem dL_small_260 : decode cL_small 260 = .ok (.if_icmp .ne 139, 3) := by decide +kernel
theorem dL_small_263 : decode cL_small 263 = .ok (.aload_n 0, 1) := by decide +kernel
theorem dL_small_264 : decode cL_small 264 = .ok (.iconst 1, 1) := by decide +kernel
theorem dL_small_265 : decode cL_small 265 = .ok (.invokevirtual 55, 3) := by decide +kernel
theorem dL_small_268 : decode cL_small 268 = .ok (.iconst (-1), 1) := by decide +kernel
theorem dL_small_269 : decode cL_small 269 = .ok (.if_icmp .ne 130, 3) := by decide +kernel
theorem dL_small_272 : decode cL_small 272 = .ok (.aload_n 0, 1) := by decide +kernel
theorem dL_small_273 : decode cL_small 273 = .ok (.iconst 2, 1) := by decide +kernel
theorem dL_small_274 : decode cL_small 274 = .ok (.invokevirtual 55, 3) := by decide +kernel
theorem dL_small_277 : decode cL_small 277 = .ok (.iconst (-1), 1) := by decide +kernel
theorem dL_small_278 : decode cL_small 278 = .ok (.if_icmp .ne 121, 3) := by decide +kernel
theorem dL_small_281 : decode cL_small 281 = .ok (.aload_n 0, 1) := by decide +kernel
theorem dL_small_282 : decode cL_small 282 = .ok (.iconst 0, 1) := by decide +kernel
theorem dL_small_283 : decode cL_small 283 = .ok (.invokevirtual 55, 3) := by decide +kernel
theorem dL_small_286 : decode cL_small 286 = .ok (.iconst 4, 1) := by decide +kernel
theorem dL_small_287 : decode cL_small 287 = .ok (.if_icmp .ne 112, 3) := by decide +kernel
theorem dL_small_290 : decode cL_small 290 = .ok (.aload_n 0, 1) := by decide +kernel
theorem dL_small_291 : decode cL_small 291 = .ok (.invokevirtual 111, 3) := by decide +kernel
theorem dL_small_294 : decode cL_small 294 = .ok (.dconst 0, 1) := by decide +kernel
theorem dL_small_295 : decode cL_small 295 = .ok (.dcmp .l, 1) := by decide +kernel
theorem dL_small_296 : decode cL_small 296 = .ok (.ifCond .ne 103, 3) := by decide +kernel
theorem dL_small_299 : decode cL_small 299 = .ok (.aload_n 0, 1) := by decide +kernel
theorem dL_small_300 : decode cL_small 300 = .ok (.bipush 7, 2) := by decide +kernel
theorem dL_small_302 : decode cL_small 302 = .ok (.invokevirtual 61, 3) := by decide +kernel
theorem dL_small_305 : decode cL_small 305 = .ok (.iconst 1, 1) := by decide +kernel
theorem dL_small_306 : decode cL_small 306 = .ok (.if_icmp .ne 93, 3) := by decide +kernel
theorem dL_small_309 : decode cL_small 309 = .ok (.aload_n 0, 1) := by decide +kernel
theorem dL_small_310 : decode cL_small 310 = .ok (.iconst 3, 1) := by decide +kernel
theorem dL_small_311 : decode cL_small 311 = .ok (.iconst 1, 1) := by decide +kernel
theorem dL_small_312 : decode cL_small 312 = .ok (.iconst 0, 1) := by decide +kernel
theorem dL_small_313 : decode cL_small 313 = .ok (.iconst 0, 1) := by decide +kernel
theorem dL_small_314 : decode cL_small 314 = .ok (.iconst 0, 1) := by decide +kernel
theorem dL_small_315 : decode cL_small 315 = .ok (.invokestatic 97, 3) := by decide +kernel
theorem dL_small_318 : decode cL_small 318 = .ok (.bipush (-13), 2) := by decide +kernel
theorem dL_small_320 : decode cL_small 320 = .ok (.if_icmp .ne 79, 3) := by decide +kernel
theorem dL_small_323 : decode cL_small 323 = .ok (.aload_n 0, 1) := by decide +kernel
theorem dL_small_324 : decode cL_small 324 = .ok (.iconst 3, 1) := by decide +kernel
theorem dL_small_325 : decode cL_small 325 = .ok (.iconst 2, 1) := by decide +kernel
theorem dL_small_326 : decode cL_small 326 = .ok (.iconst 0, 1) := by decide +kernel
theorem dL_small_327 : decode cL_small 327 = .ok (.iconst 0, 1) := by decide +kernel
theorem dL_small_328 : decode cL_small 328 = .ok (.iconst 0, 1) := by decide +kernel
theorem dL_small_329 : decode cL_small 329 = .ok (.invokestatic 97, 3) := by decide +kernel
theorem dL_small_332 : decode cL_small 332 = .ok (.bipush (-13), 2) := by decide +kernel
theorem dL_small_334 : decode cL_small 334 = .ok (.if_icmp .ne 65, 3) := by decide +kernel
theorem dL_small_337 : decode cL_small 337 = .ok (.aload_n 0, 1) := by decide +kernel
theorem dL_small_338 : decode cL_small 338 = .ok (.iconst 0, 1) := by decide +kernel
theorem dL_small_339 : decode cL_small 339 = .ok (.invokevirtual 23, 3) := by decide +kernel
theorem dL_small_342 : decode cL_small 342 = .ok (.iconst 4, 1) := by decide +kernel
theorem dL_small_343 : decode cL_small 343 = .ok (.if_icmp .ne 56, 3) := by decide +kernel
theorem dL_small_346 : decode cL_small 346 = .ok (.aload_n 0, 1) := by decide +kernel
theorem dL_small_347 : decode cL_small 347 = .ok (.iconst 0, 1) := by decide +kernel
theorem dL_small_348 : decode cL_small 348 = .ok (.invokevirtual 40, 3) := by decide +kernel
theorem dL_small_351 : decode cL_small 351 = .ok (.iconst 2, 1) := by decide +kernel
theorem dL_small_352 : decode cL_small 352 = .ok (.if_icmp .ne 47, 3) := by decide +kernel
theorem dL_small_355 : decode cL_small 355 = .ok (.aload_n 0, 1) := by decide +kernel
theorem dL_small_356 : decode cL_small 356 = .ok (.invokevirtual 121, 3) := by decide +kernel
theorem dL_small_359 : decode cL_small 359 = .ok (.ifCond .ne 40, 3) := by decide +kernel
theorem dL_small_362 : decode cL_small 362 = .ok (.aload_n 0, 1) := by decide +kernel
theorem dL_small_363 : decode cL_small 363 = .ok (.iconst 1, 1) := by decide +kernel
theorem dL_small_364 : decode cL_small 364 = .ok (.iconst 0, 1) := by decide +kernel
theorem dL_small_365 : decode cL_small 365 = .ok (.invokevirtual 49, 3) := by decide +kernel
theorem dL_small_368 : decode cL_small 368 = .ok (.iconst 3, 1) := by decide +kernel
theorem dL_small_369 : decode cL_small 369 = .ok (.if_icmp .ne 30, 3) := by decide +kernel
theorem dL_small_372 : decode cL_small 372 = .ok (.aload_n 0, 1) := by decide +kernel
theorem dL_small_373 : decode cL_small 373 = .ok (.iconst 3, 1) := by decide +kernel
theorem dL_small_374 : decode cL_small 374 = .ok (.invokevirtual 58, 3) := by decide +kernel
theorem dL_small_377 : decode cL_small 377 = .ok (.ifCond .ne 22, 3) := by decide +kernel
theorem dL_small_380 : decode cL_small 380 = .ok (.aload_n 0, 1) := by decide +kernel
theorem dL_small_381 : decode cL_small 381 = .ok (.bipush 6, 2) := by decide +kernel
theorem dL_small_383 : decode cL_small 383 = .ok (.invokevirtual 61, 3) := by decide +kernel
theorem dL_small_386 : decode cL_small 386 = .ok (.iconst 1, 1) := by decide +kernel
theorem dL_small_387 : decode cL_small 387 = .ok (.if_icmp .ne 12, 3) := by decide +kernel
theorem dL_small_390 : decode cL_small 390 = .ok (.aload_n 0, 1) := by decide +kernel
theorem dL_small_391 : decode cL_small 391 = .ok (.bipush 7, 2) := by decide +kernel
theorem dL_small_393 : decode cL_small 393 = .ok (.invokevirtual 61, 3) := by decide +kernel
theorem dL_small_396 : decode cL_small 396 = .ok (.ifCond .eq 5, 3) := by decide +kernel
theorem dL_small_399 : decode cL_small 399 = .ok (.iconst 0, 1) := by decide +kernel
theorem dL_small_400 : decode cL_small 400 = .ok (.ireturn, 1) := by decide +kernel
theorem dL_small_401 : decode cL_small 401 = .ok (.aload_n 0, 1) := by decide +kernel
theorem dL_small_402 : decode cL_small 402 = .ok (.iconst 1, 1) := by decide +kernel
theorem dL_small_403 : decode cL_small 403 = .ok (.iconst 1, 1) := by decide +kernel
theorem dL_small_404 : decode cL_small 404 = .ok (.invokevirtual 52, 3) := by decide +kernel
theorem dL_small_407 : decode cL_small 407 = .ok (.iconst 1, 1) := by decide +kernel
theorem dL_small_408 : decode cL_small 408 = .ok (.if_icmp .ne 223, 3) := by decide +kernel
theorem dL_small_411 : decode cL_small 411 = .ok (.aload_n 0, 1) := by decide +kernel
theorem dL_small_412 : decode cL_small 412 = .ok (.iconst 0, 1) := by decide +kernel
theorem dL_small_413 : decode cL_small 413 = .ok (.iconst 2, 1) := by decide +kernel
theorem dL_small_414 : decode cL_small 414 = .ok (.invokevirtual 52, 3) := by decide +kernel
theorem dL_small_417 : decode cL_small 417 = .ok (.iconst 1, 1) := by decide +kernel
theorem dL_small_418 : decode cL_small 418 = .ok (.if_icmp .ne 213, 3) := by decide +kernel
theorem dL_small_421 : decode cL_small 421 = .ok (.aload_n 0, 1) := by decide +kernel
theorem dL_small_422 : decode cL_small 422 = .ok (.iconst 1, 1) := by decide +kernel
theorem dL_small_423 : decode cL_small 423 = .ok (.invokevirtual 55, 3) := by decide +kernel
theorem dL_small_426 : decode cL_small 426 = .ok (.iconst 3, 1) := by decide +kernel
theorem dL_small_427 : decode cL_small 427 = .ok (.if_icmp .ne 204, 3) := by decide +kernel
theorem dL_small_430 : decode cL_small 430 = .ok (.aload_n 0, 1) := by decide +kernel
theorem dL_small_431 : decode cL_small 431 = .ok (.iconst 2, 1) := by decide +kernel
theorem dL_small_432 : decode cL_small 432 = .ok (.invokevirtual 55, 3) := by decide +kernel
theorem dL_small_435 : decode cL_small 435 = .ok (.iconst 4, 1) := by decide +kernel
theorem dL_small_436 : decode cL_small 436 = .ok (.if_icmp .ne 195, 3) := by decide +kernel
theorem dL_small_439 : decode cL_small 439 = .ok (.aload_n 0, 1) := by decide +kernel
theorem dL_small_440 : decode cL_small 440 = .ok (.invokevirtual 88, 3) := by decide +kernel
theorem dL_small_443 : decode cL_small 443 = .ok (.bipush 8, 2) := by decide +kernel
theorem dL_small_445 : decode cL_small 445 = .ok (.if_icmp .ne 186, 3) := by decide +kernel
theorem dL_small_448 : decode cL_small 448 = .ok (.aload_n 0, 1) := by decide +kernel
theorem dL_small_449 : decode cL_small 449 = .ok (.invokevirtual 111, 3) := by decide +kernel
theorem dL_small_452 : decode cL_small 452 = .ok (.ldc2_w 124, 3) := by decide +kernel
theorem dL_small_455 : decode cL_small 455 = .ok (.dcmp .l, 1) := by decide +kernel
theorem dL_small_456 : decode cL_small 456 = .ok (.ifCond .ne 175, 3) := by decide +kernel
theorem dL_small_459 : decode cL_small 459 = .ok (.aload_n 0, 1) := by decide +kernel
theorem dL_small_460 : decode cL_small 460 = .ok (.iconst 1, 1) := by decide +kernel
theorem dL_small_461 : decode cL_small 461 = .ok (.invokevirtual 23, 3) := by decide +kernel
theorem dL_small_464 : decode cL_small 464 = .ok (.iconst 3, 1) := by decide +kernel
theorem dL_small_465 : decode cL_small 465 = .ok (.if_icmp .ne 166, 3) := by decide +kernel
theorem dL_small_468 : decode cL_small 468 = .ok (.aload_n 0, 1) := by decide +kernel
theorem dL_small_469 : decode cL_small 469 = .ok (.iconst 2, 1) := by decide +kernel
theorem dL_small_470 : decode cL_small 470 = .ok (.invokevirtual 23, 3) := by decide +kernel
theorem dL_small_473 : decode cL_small 473 = .ok (.iconst 4, 1) := by decide +kernel
theorem dL_small_474 : decode cL_small 474 = .ok (.if_icmp .ne 157, 3) := by decide +kernel
theorem dL_small_477 : decode cL_small 477 = .ok (.aload_n 0, 1) := by decide +kernel
theorem dL_small_478 : decode cL_small 478 = .ok (.iconst 4, 1) := by decide +kernel
theorem dL_small_479 : decode cL_small 479 = .ok (.invokevirtual 61, 3) := by decide +kernel
theorem dL_small_482 : decode cL_small 482 = .ok (.bipush 11, 2) := by decide +kernel
theorem dL_small_484 : decode cL_small 484 = .ok (.if_icmp .ne 147, 3) := by decide +kernel
theorem dL_small_487 : decode cL_small 487 = .ok (.aload_n 0, 1) := by decide +kernel
theorem dL_small_488 : decode cL_small 488 = .ok (.iconst 5, 1) := by decide +kernel
theorem dL_small_489 : decode cL_small 489 = .ok (.invokevirtual 61, 3) := by decide +kernel
theorem dL_small_492 : decode cL_small 492 = .ok (.iconst 3, 1) := by decide +kernel
theorem dL_small_493 : decode cL_small 493 = .ok (.if_icmp .ne 138, 3) := by decide +kernel
theorem dL_small_496 : decode cL_small 496 = .ok (.aload_n 0, 1) := by decide +kernel
theorem dL_small_497 : decode cL_small 497 = .ok (.bipush 8, 2) := by decide +kernel
theorem dL_small_499 : decode cL_small 499 = .ok (.invokevirtual 61, 3) := by decide +kernel
theorem dL_small_502 : decode cL_small 502 = .ok (.bipush 6, 2) := by decide +kernel
theorem dL_small_504 : decode cL_small 504 = .ok (.if_icmp .ne 127, 3) := by decide +kernel
theorem dL_small_507 : decode cL_small 507 = .ok (.aload_n 0, 1) := by decide +kernel
theorem dL_small_508 : decode cL_small 508 = .ok (.invokevirtual 121, 3) := by decide +kernel
theorem dL_small_511 : decode cL_small 511 = .ok (.iconst (-1), 1) := by decide +kernel
theorem dL_small_512 : decode cL_small 512 = .ok (.if_icmp .ne 119, 3) := by decide +kernel
theorem dL_small_515 : decode cL_small 515 = .ok (.aload_n 0, 1) := by decide +kernel
theorem dL_small_516 : decode cL_small 516 = .ok (.bipush 6, 2) := by decide +kernel
theorem dL_small_518 : decode cL_small 518 = .ok (.invokevirtual 61, 3) := by decide +kernel
theorem dL_small_521 : decode cL_small 521 = .ok (.iconst 1, 1) := by decide +kernel
theorem dL_small_522 : decode cL_small 522 = .ok (.if_icmp .ne 109, 3) := by decide +kernel
theorem dL_small_525 : decode cL_small 525 = .ok (.aload_n 0, 1) := by decide +kernel
theorem dL_small_526 : decode cL_small 526 = .ok (.invokevirtual 46, 3) := by decide +kernel
theorem dL_small_529 : decode cL_small 529 = .ok (.iconst 5, 1) := by decide +kernel
theorem dL_small_530 : decode cL_small 530 = .ok (.if_icmp .ne 101, 3) := by decide +kernel
theorem dL_small_533 : decode cL_small 533 = .ok (.aload_n 0, 1) := by decide +kernel
theorem dL_small_534 : decode cL_small 534 = .ok (.iconst 5, 1) := by decide +kernel
theorem dL_small_535 : decode cL_small 535 = .ok (.invokevirtual 61, 3) := by decide +kernel
theorem dL_small_538 : decode cL_small 538 = .ok (.iconst 3, 1) := by decide +kernel
theorem dL_small_539 : decode cL_small 539 = .ok (.if_icmp .ne 92, 3) := by decide +kernel
theorem dL_small_542 : decode cL_small 542 = .ok (.aload_n 0, 1) := by decide +kernel
theorem dL_small_543 : decode cL_small 543 = .ok (.iconst 1, 1) := by decide +kernel
theorem dL_small_544 : decode cL_small 544 = .ok (.iconst 1, 1) := by decide +kernel
theorem dL_small_545 : decode cL_small 545 = .ok (.sipush 9999, 3) := by decide +kernel
theorem dL_small_548 : decode cL_small 548 = .ok (.invokevirtual 15, 3) := by decide +kernel
theorem dL_small_551 : decode cL_small 551 = .ok (.iconst 2, 1) := by decide +kernel
theorem dL_small_552 : decode cL_small 552 = .ok (.if_icmp .ne 79, 3) := by decide +kernel
theorem dL_small_555 : decode cL_small 555 = .ok (.aload_n 0, 1) := by decide +kernel
theorem dL_small_556 : decode cL_small 556 = .ok (.iconst 3, 1) := by decide +kernel
theorem dL_small_557 : decode cL_small 557 = .ok (.invokevirtual 58, 3) := by decide +kernel
theorem dL_small_560 : decode cL_small 560 = .ok (.iconst 1, 1) := by decide +kernel
theorem dL_small_561 : decode cL_small 561 = .ok (.if_icmp .ne 70, 3) := by decide +kernel
theorem dL_small_564 : decode cL_small 564 = .ok (.aload_n 0, 1) := by decide +kernel
theorem dL_small_565 : decode cL_small 565 = .ok (.invokevirtual 121, 3) := by decide +kernel
theorem dL_small_568 : decode cL_small 568 = .ok (.iconst (-1), 1) := by decide +kernel
theorem dL_small_569 : decode cL_small 569 = .ok (.if_icmp .ne 62, 3) := by decide +kernel
theorem dL_small_572 : decode cL_small 572 = .ok (.aload_n 0, 1) := by decide +kernel
theorem dL_small_573 : decode cL_small 573 = .ok (.iconst 3, 1) := by decide +kernel
theorem dL_small_574 : decode cL_small 574 = .ok (.invokevirtual 58, 3) := by decide +kernel
theorem dL_small_577 : decode cL_small 577 = .ok (.iconst 1, 1) := by decide +kernel
theorem dL_small_578 : decode cL_small 578 = .ok (.if_icmp .ne 53, 3) := by decide +kernel
theorem dL_small_581 : decode cL_small 581 = .ok (.aload_n 0, 1) := by decide +kernel
theorem dL_small_582 : decode cL_small 582 = .ok (.bipush 6, 2) := by decide +kernel
theorem dL_small_584 : decode cL_small 584 = .ok (.invokevirtual 61, 3) := by decide +kernel
theorem dL_small_587 : decode cL_small 587 = .ok (.iconst 1, 1) := by decide +kernel
theorem dL_small_588 : decode cL_small 588 = .ok (.if_icmp .ne 43, 3) := by decide +kernel
theorem dL_small_591 : decode cL_small 591 = .ok (.aload_n 0, 1) := by decide +kernel
theorem dL_small_592 : decode cL_small 592 = .ok (.iconst 1, 1) := by decide +kernel
theorem dL_small_593 : decode cL_small 593 = .ok (.iconst 0, 1) := by decide +kernel
theorem dL_small_594 : decode cL_small 594 = .ok (.sipush 9999, 3) := by decide +kernel
theorem dL_small_597 : decode cL_small 597 = .ok (.invokevirtual 15, 3) := by decide +kernel
theorem dL_small_600 : decode cL_small 600 = .ok (.iconst 3, 1) := by decide +kernel
theorem dL_small_601 : decode cL_small 601 = .ok (.if_icmp .ne 30, 3) := by decide +kernel
theorem dL_small_604 : decode cL_small 604 = .ok (.aload_n 0, 1) := by decide +kernel
theorem dL_small_605 : decode cL_small 605 = .ok (.invokevirtual 121, 3) := by decide +kernel
theorem dL_small_608 : decode cL_small 608 = .ok (.iconst (-1), 1) := by decide +kernel
theorem dL_small_609 : decode cL_small 609 = .ok (.if_icmp .ne 22, 3) := by decide +kernel
theorem dL_small_612 : decode cL_small 612 = .ok (.aload_n 0, 1) := by decide +kernel
theorem dL_small_613 : decode cL_small 613 = .ok (.iconst 0, 1) := by decide +kernel
theorem dL_small_614 : decode cL_small 614 = .ok (.iconst 0, 1) := by decide +kernel
theorem dL_small_615 : decode cL_small 615 = .ok (.iconst 3, 1) := by decide +kernel
theorem dL_small_616 : decode cL_small 616 = .ok (.invokevirtual 15, 3) := by decide +kernel
theorem dL_small_619 : decode cL_small 619 = .ok (.iconst 5, 1) := by decide +kernel
theorem dL_small_620 : decode cL_small 620 = .ok (.if_icmp .ne 11, 3) := by decide +kernel
theorem dL_small_623 : decode cL_small 623 = .ok (.aload_n 0, 1) := by decide +kernel
theorem dL_small_624 : decode cL_small 624 = .ok (.iconst 3, 1) := by decide +kernel
theorem dL_small_625 : decode cL_small 625 = .ok (.invokevirtual 58, 3) := by decide +kernel
theorem dL_small_628 : decode cL_small 628 = .ok (.ifCond .eq 5, 3) := by decide +kernel
theorem dL_small_631 : decode cL_small 631 = .ok (.iconst 0, 1) := by decide +kernel
theorem dL_small_632 : decode cL_small 632 = .ok (.ireturn, 1) := by decide +kernel
theorem dL_small_633 : decode cL_small 633 = .ok (.aload_n 0, 1) := by decide +kernel
theorem dL_small_634 : decode cL_small 634 = .ok (.iconst 3, 1) := by decide +kernel
theorem dL_small_635 : decode cL_small 635 = .ok (.iconst 4, 1) := by decide +kernel
theorem dL_small_636 : decode cL_small 636 = .ok (.invokevirtual 9, 3) := by decide +kernel
theorem dL_small_639 : decode cL_small 639 = .ok (.bipush 24, 2) := by decide +kernel
theorem dL_small_641 : decode cL_small 641 = .ok (.if_icmp .ne 125, 3) := by decide +kernel
theorem dL_small_644 : decode cL_small 644 = .ok (.aload_n 0, 1) := by decide +kernel
theorem dL_small_645 : decode cL_small 645 = .ok (.iconst 0, 1) := by decide +kernel
theorem dL_small_646 : decode cL_small 646 = .ok (.iconst 2, 1) := by decide +kernel
theorem dL_small_647 : decode cL_small 647 = .ok (.iconst 0, 1) := by decide +kernel
theorem dL_small_648 : decode cL_small 648 = .ok (.iconst 1, 1) := by decide +kernel
theorem dL_small_649 : decode cL_small 649 = .ok (.invokevirtual 19, 3) := by decide +kernel
theorem dL_small_652 : decode cL_small 652 = .ok (.iconst 1, 1) := by decide +kernel
theorem dL_small_653 : decode cL_small 653 = .ok (.if_icmp .ne 113, 3) := by decide +kernel
theorem dL_small_656 : decode cL_small 656 = .ok (.aload_n 0, 1) := by decide +kernel
theorem dL_small_657 : decode cL_small 657 = .ok (.iconst 2, 1) := by decide +kernel
theorem dL_small_658 : decode cL_small 658 = .ok (.iconst 0, 1) := by decide +kernel
theorem dL_small_659 : decode cL_small 659 = .ok (.invokevirtual 49, 3) := by decide +kernel
theorem dL_small_662 : decode cL_small 662 = .ok (.bipush 16, 2) := by decide +kernel
theorem dL_small_664 : decode cL_small 664 = .ok (.if_icmp .ne 102, 3) := by decide +kernel
theorem dL_small_667 : decode cL_small 667 = .ok (.aload_n 0, 1) := by decide +kernel
theorem dL_small_668 : decode cL_small 668 = .ok (.iconst 1, 1) := by decide +kernel
theorem dL_small_669 : decode cL_small 669 = .ok (.iconst 2, 1) := by decide +kernel
theorem dL_small_670 : decode cL_small 670 = .ok (.invokevirtual 49, 3) := by decide +kernel
theorem dL_small_673 : decode cL_small 673 = .ok (.ifCond .ne 93, 3) := by decide +kernel
theorem dL_small_676 : decode cL_small 676 = .ok (.aload_n 0, 1) := by decide +kernel
theorem dL_small_677 : decode cL_small 677 = .ok (.iconst 0, 1) := by decide +kernel
theorem dL_small_678 : decode cL_small 678 = .ok (.iconst 3, 1) := by decide +kernel
theorem dL_small_679 : decode cL_small 679 = .ok (.invokevirtual 49, 3) := by decide +kernel
theorem dL_small_682 : decode cL_small 682 = .ok (.bipush 9, 2) := by decide +kernel
theorem dL_small_684 : decode cL_small 684 = .ok (.if_icmp .ne 82, 3) := by decide +kernel
theorem dL_small_687 : decode cL_small 687 = .ok (.aload_n 0, 1) := by decide +kernel
theorem dL_small_688 : decode cL_small 688 = .ok (.iconst 0, 1) := by decide +kernel
theorem dL_small_689 : decode cL_small 689 = .ok (.iconst 1, 1) := by decide +kernel
theorem dL_small_690 : decode cL_small 690 = .ok (.invokevirtual 52, 3) := by decide +kernel
theorem dL_small_693 : decode cL_small 693 = .ok (.ifCond .ne 73, 3) := by decide +kernel
theorem dL_small_696 : decode cL_small 696 = .ok (.aload_n 0, 1) := by decide +kernel
theorem dL_small_697 : decode cL_small 697 = .ok (.iconst 1, 1) := by decide +kernel
theorem dL_small_698 : decode cL_small 698 = .ok (.iconst 1, 1) := by decide +kernel
theorem dL_small_699 : decode cL_small 699 = .ok (.invokevirtual 52, 3) := by decide +kernel
theorem dL_small_702 : decode cL_small 702 = .ok (.iconst 2, 1) := by decide +kernel
