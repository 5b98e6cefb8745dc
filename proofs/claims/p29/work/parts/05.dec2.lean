theorem dX5_copyFrom_29 : decode cX5_copyFrom 29 = .ok (.aload_n 0, 1) := by decide +kernel
theorem dX5_copyFrom_30 : decode cX5_copyFrom 30 = .ok (.aload_n 1, 1) := by decide +kernel
theorem dX5_copyFrom_31 : decode cX5_copyFrom 31 = .ok (.getfield 21, 3) := by decide +kernel
theorem dX5_copyFrom_34 : decode cX5_copyFrom 34 = .ok (.putfield 21, 3) := by decide +kernel
theorem dX5_copyFrom_37 : decode cX5_copyFrom 37 = .ok (.aload_n 0, 1) := by decide +kernel
theorem dX5_copyFrom_38 : decode cX5_copyFrom 38 = .ok (.aload_n 1, 1) := by decide +kernel
theorem dX5_copyFrom_39 : decode cX5_copyFrom 39 = .ok (.getfield 24, 3) := by decide +kernel
theorem dX5_copyFrom_42 : decode cX5_copyFrom 42 = .ok (.putfield 24, 3) := by decide +kernel
theorem dX5_copyFrom_45 : decode cX5_copyFrom 45 = .ok (.aload_n 0, 1) := by decide +kernel
theorem dX5_copyFrom_46 : decode cX5_copyFrom 46 = .ok (.aload_n 1, 1) := by decide +kernel
theorem dX5_copyFrom_47 : decode cX5_copyFrom 47 = .ok (.getfield 27, 3) := by decide +kernel
theorem dX5_copyFrom_50 : decode cX5_copyFrom 50 = .ok (.putfield 27, 3) := by decide +kernel
theorem dX5_copyFrom_53 : decode cX5_copyFrom 53 = .ok (.aload_n 1, 1) := by decide +kernel
theorem dX5_copyFrom_54 : decode cX5_copyFrom 54 = .ok (.getfield 30, 3) := by decide +kernel
theorem dX5_copyFrom_57 : decode cX5_copyFrom 57 = .ok (.aload_n 0, 1) := by decide +kernel
theorem dX5_copyFrom_58 : decode cX5_copyFrom 58 = .ok (.getfield 30, 3) := by decide +kernel
theorem dX5_copyFrom_61 : decode cX5_copyFrom 61 = .ok (.invokestatic 53, 3) := by decide +kernel
theorem dX5_copyFrom_64 : decode cX5_copyFrom 64 = .ok (.aload_n 1, 1) := by decide +kernel
theorem dX5_copyFrom_65 : decode cX5_copyFrom 65 = .ok (.getfield 34, 3) := by decide +kernel
theorem dX5_copyFrom_68 : decode cX5_copyFrom 68 = .ok (.aload_n 0, 1) := by decide +kernel
theorem dX5_copyFrom_69 : decode cX5_copyFrom 69 = .ok (.getfield 34, 3) := by decide +kernel
theorem dX5_copyFrom_72 : decode cX5_copyFrom 72 = .ok (.invokestatic 53, 3) := by decide +kernel
theorem dX5_copyFrom_75 : decode cX5_copyFrom 75 = .ok (.return_, 1) := by decide +kernel
theorem dX6_init_0 : decode cX6_init 0 = .ok (.aload_n 0, 1) := by decide +kernel
theorem dX6_init_1 : decode cX6_init 1 = .ok (.invokespecial 3, 3) := by decide +kernel
theorem dX6_init_4 : decode cX6_init 4 = .ok (.aload_n 0, 1) := by decide +kernel
theorem dX6_init_5 : decode cX6_init 5 = .ok (.iconst 0, 1) := by decide +kernel
theorem dX6_init_6 : decode cX6_init 6 = .ok (.putfield 9, 3) := by decide +kernel
theorem dX6_init_9 : decode cX6_init 9 = .ok (.aload_n 0, 1) := by decide +kernel
theorem dX6_init_10 : decode cX6_init 10 = .ok (.bipush 60, 2) := by decide +kernel
theorem dX6_init_12 : decode cX6_init 12 = .ok (.newarray .int, 2) := by decide +kernel
theorem dX6_init_14 : decode cX6_init 14 = .ok (.putfield 15, 3) := by decide +kernel
theorem dX6_init_17 : decode cX6_init 17 = .ok (.aload_n 0, 1) := by decide +kernel
theorem dX6_init_18 : decode cX6_init 18 = .ok (.bipush 100, 2) := by decide +kernel
theorem dX6_init_20 : decode cX6_init 20 = .ok (.newarray .int, 2) := by decide +kernel
theorem dX6_init_22 : decode cX6_init 22 = .ok (.putfield 19, 3) := by decide +kernel
theorem dX6_init_25 : decode cX6_init 25 = .ok (.aload_n 0, 1) := by decide +kernel
theorem dX6_init_26 : decode cX6_init 26 = .ok (.iconst 0, 1) := by decide +kernel
theorem dX6_init_27 : decode cX6_init 27 = .ok (.putfield 22, 3) := by decide +kernel
theorem dX6_init_30 : decode cX6_init 30 = .ok (.aload_n 0, 1) := by decide +kernel
theorem dX6_init_31 : decode cX6_init 31 = .ok (.iconst 0, 1) := by decide +kernel
theorem dX6_init_32 : decode cX6_init 32 = .ok (.putfield 25, 3) := by decide +kernel
theorem dX6_init_35 : decode cX6_init 35 = .ok (.aload_n 0, 1) := by decide +kernel
theorem dX6_init_36 : decode cX6_init 36 = .ok (.iconst 0, 1) := by decide +kernel
theorem dX6_init_37 : decode cX6_init 37 = .ok (.putfield 28, 3) := by decide +kernel
theorem dX6_init_40 : decode cX6_init 40 = .ok (.aload_n 0, 1) := by decide +kernel
theorem dX6_init_41 : decode cX6_init 41 = .ok (.iconst 0, 1) := by decide +kernel
theorem dX6_init_42 : decode cX6_init 42 = .ok (.putfield 31, 3) := by decide +kernel
theorem dX6_init_45 : decode cX6_init 45 = .ok (.aload_n 0, 1) := by decide +kernel
theorem dX6_init_46 : decode cX6_init 46 = .ok (.iconst 0, 1) := by decide +kernel
theorem dX6_init_47 : decode cX6_init 47 = .ok (.putfield 34, 3) := by decide +kernel
theorem dX6_init_50 : decode cX6_init 50 = .ok (.return_, 1) := by decide +kernel
theorem dX6_add_0 : decode cX6_add 0 = .ok (.aload_n 0, 1) := by decide +kernel
theorem dX6_add_1 : decode cX6_add 1 = .ok (.getfield 15, 3) := by decide +kernel
theorem dX6_add_4 : decode cX6_add 4 = .ok (.aload_n 0, 1) := by decide +kernel
theorem dX6_add_5 : decode cX6_add 5 = .ok (.getfield 9, 3) := by decide +kernel
theorem dX6_add_8 : decode cX6_add 8 = .ok (.iload_n 1, 1) := by decide +kernel
theorem dX6_add_9 : decode cX6_add 9 = .ok (.invokestatic 37, 3) := by decide +kernel
theorem dX6_add_12 : decode cX6_add 12 = .ok (.aload_n 0, 1) := by decide +kernel
theorem dX6_add_13 : decode cX6_add 13 = .ok (.dup, 1) := by decide +kernel
theorem dX6_add_14 : decode cX6_add 14 = .ok (.getfield 9, 3) := by decide +kernel
theorem dX6_add_17 : decode cX6_add 17 = .ok (.iconst 1, 1) := by decide +kernel
theorem dX6_add_18 : decode cX6_add 18 = .ok (.iadd, 1) := by decide +kernel
theorem dX6_add_19 : decode cX6_add 19 = .ok (.putfield 9, 3) := by decide +kernel
theorem dX6_add_22 : decode cX6_add 22 = .ok (.return_, 1) := by decide +kernel
theorem dX6_clear_0 : decode cX6_clear 0 = .ok (.aload_n 0, 1) := by decide +kernel
theorem dX6_clear_1 : decode cX6_clear 1 = .ok (.iconst 0, 1) := by decide +kernel
theorem dX6_clear_2 : decode cX6_clear 2 = .ok (.putfield 9, 3) := by decide +kernel
theorem dX6_clear_5 : decode cX6_clear 5 = .ok (.return_, 1) := by decide +kernel
theorem dX6_codeAt_0 : decode cX6_codeAt 0 = .ok (.aload_n 0, 1) := by decide +kernel
theorem dX6_codeAt_1 : decode cX6_codeAt 1 = .ok (.getfield 15, 3) := by decide +kernel
theorem dX6_codeAt_4 : decode cX6_codeAt 4 = .ok (.iload_n 1, 1) := by decide +kernel
theorem dX6_codeAt_5 : decode cX6_codeAt 5 = .ok (.invokestatic 41, 3) := by decide +kernel
theorem dX6_codeAt_8 : decode cX6_codeAt 8 = .ok (.ireturn, 1) := by decide +kernel
theorem dX6_readToError_0 : decode cX6_readToError 0 = .ok (.aload_n 0, 1) := by decide +kernel
theorem dX6_readToError_1 : decode cX6_readToError 1 = .ok (.iconst 0, 1) := by decide +kernel
theorem dX6_readToError_2 : decode cX6_readToError 2 = .ok (.putfield 22, 3) := by decide +kernel
theorem dX6_readToError_5 : decode cX6_readToError 5 = .ok (.aload_n 0, 1) := by decide +kernel
theorem dX6_readToError_6 : decode cX6_readToError 6 = .ok (.iconst 0, 1) := by decide +kernel
theorem dX6_readToError_7 : decode cX6_readToError 7 = .ok (.putfield 25, 3) := by decide +kernel
theorem dX6_readToError_10 : decode cX6_readToError 10 = .ok (.aload_n 0, 1) := by decide +kernel
theorem dX6_readToError_11 : decode cX6_readToError 11 = .ok (.bipush 10, 2) := by decide +kernel
theorem dX6_readToError_13 : decode cX6_readToError 13 = .ok (.putfield 28, 3) := by decide +kernel
theorem dX6_readToError_16 : decode cX6_readToError 16 = .ok (.aload_n 0, 1) := by decide +kernel
theorem dX6_readToError_17 : decode cX6_readToError 17 = .ok (.iconst 0, 1) := by decide +kernel
theorem dX6_readToError_18 : decode cX6_readToError 18 = .ok (.putfield 31, 3) := by decide +kernel
theorem dX6_readToError_21 : decode cX6_readToError 21 = .ok (.aload_n 0, 1) := by decide +kernel
theorem dX6_readToError_22 : decode cX6_readToError 22 = .ok (.iconst 0, 1) := by decide +kernel
theorem dX6_readToError_23 : decode cX6_readToError 23 = .ok (.putfield 34, 3) := by decide +kernel
theorem dX6_readToError_26 : decode cX6_readToError 26 = .ok (.iconst 0, 1) := by decide +kernel
theorem dX6_readToError_27 : decode cX6_readToError 27 = .ok (.istore_n 1, 1) := by decide +kernel
theorem dX6_readToError_28 : decode cX6_readToError 28 = .ok (.iload_n 1, 1) := by decide +kernel
theorem dX6_readToError_29 : decode cX6_readToError 29 = .ok (.aload_n 0, 1) := by decide +kernel
theorem dX6_readToError_30 : decode cX6_readToError 30 = .ok (.getfield 9, 3) := by decide +kernel
theorem dX6_readToError_33 : decode cX6_readToError 33 = .ok (.if_icmp .ge 23, 3) := by decide +kernel
theorem dX6_readToError_36 : decode cX6_readToError 36 = .ok (.aload_n 0, 1) := by decide +kernel
theorem dX6_readToError_37 : decode cX6_readToError 37 = .ok (.aload_n 0, 1) := by decide +kernel
theorem dX6_readToError_38 : decode cX6_readToError 38 = .ok (.iload_n 1, 1) := by decide +kernel
theorem dX6_readToError_39 : decode cX6_readToError 39 = .ok (.invokevirtual 45, 3) := by decide +kernel
theorem dX6_readToError_42 : decode cX6_readToError 42 = .ok (.invokevirtual 49, 3) := by decide +kernel
theorem dX6_readToError_45 : decode cX6_readToError 45 = .ok (.ifCond .ne 5, 3) := by decide +kernel
theorem dX6_readToError_48 : decode cX6_readToError 48 = .ok (.iload_n 1, 1) := by decide +kernel
theorem dX6_readToError_49 : decode cX6_readToError 49 = .ok (.ireturn, 1) := by decide +kernel
theorem dX6_readToError_50 : decode cX6_readToError 50 = .ok (.iinc 1 1, 3) := by decide +kernel
theorem dX6_readToError_53 : decode cX6_readToError 53 = .ok (.goto (-25), 3) := by decide +kernel
theorem dX6_readToError_56 : decode cX6_readToError 56 = .ok (.aload_n 0, 1) := by decide +kernel
theorem dX6_readToError_57 : decode cX6_readToError 57 = .ok (.getfield 9, 3) := by decide +kernel
theorem dX6_readToError_60 : decode cX6_readToError 60 = .ok (.ireturn, 1) := by decide +kernel
theorem dX6_tellsTable_0 : decode cX6_tellsTable 0 = .ok (.aload_n 0, 1) := by decide +kernel
theorem dX6_tellsTable_1 : decode cX6_tellsTable 1 = .ok (.invokevirtual 53, 3) := by decide +kernel
theorem dX6_tellsTable_4 : decode cX6_tellsTable 4 = .ok (.aload_n 0, 1) := by decide +kernel
theorem dX6_tellsTable_5 : decode cX6_tellsTable 5 = .ok (.getfield 9, 3) := by decide +kernel
theorem dX6_tellsTable_8 : decode cX6_tellsTable 8 = .ok (.if_icmp .ne 21, 3) := by decide +kernel
theorem dX6_tellsTable_11 : decode cX6_tellsTable 11 = .ok (.aload_n 0, 1) := by decide +kernel
theorem dX6_tellsTable_12 : decode cX6_tellsTable 12 = .ok (.getfield 31, 3) := by decide +kernel
theorem dX6_tellsTable_15 : decode cX6_tellsTable 15 = .ok (.ifCond .le 14, 3) := by decide +kernel
theorem dX6_tellsTable_18 : decode cX6_tellsTable 18 = .ok (.aload_n 0, 1) := by decide +kernel
theorem dX6_tellsTable_19 : decode cX6_tellsTable 19 = .ok (.invokevirtual 57, 3) := by decide +kernel
theorem dX6_tellsTable_22 : decode cX6_tellsTable 22 = .ok (.ifCond .eq 7, 3) := by decide +kernel
theorem dX6_tellsTable_25 : decode cX6_tellsTable 25 = .ok (.iconst 1, 1) := by decide +kernel
theorem dX6_tellsTable_26 : decode cX6_tellsTable 26 = .ok (.goto 4, 3) := by decide +kernel
theorem dX6_tellsTable_29 : decode cX6_tellsTable 29 = .ok (.iconst 0, 1) := by decide +kernel
theorem dX6_tellsTable_30 : decode cX6_tellsTable 30 = .ok (.ireturn, 1) := by decide +kernel
theorem dX6_rowsTold_0 : decode cX6_rowsTold 0 = .ok (.aload_n 0, 1) := by decide +kernel
theorem dX6_rowsTold_1 : decode cX6_rowsTold 1 = .ok (.getfield 22, 3) := by decide +kernel
theorem dX6_rowsTold_4 : decode cX6_rowsTold 4 = .ok (.iconst 1, 1) := by decide +kernel
theorem dX6_rowsTold_5 : decode cX6_rowsTold 5 = .ok (.iadd, 1) := by decide +kernel
theorem dX6_rowsTold_6 : decode cX6_rowsTold 6 = .ok (.ireturn, 1) := by decide +kernel
theorem dX6_columnsTold_0 : decode cX6_columnsTold 0 = .ok (.aload_n 0, 1) := by decide +kernel
theorem dX6_columnsTold_1 : decode cX6_columnsTold 1 = .ok (.getfield 25, 3) := by decide +kernel
theorem dX6_columnsTold_4 : decode cX6_columnsTold 4 = .ok (.iconst 1, 1) := by decide +kernel
theorem dX6_columnsTold_5 : decode cX6_columnsTold 5 = .ok (.iadd, 1) := by decide +kernel
theorem dX6_columnsTold_6 : decode cX6_columnsTold 6 = .ok (.ireturn, 1) := by decide +kernel
theorem dX6_numberTold_0 : decode cX6_numberTold 0 = .ok (.aload_n 0, 1) := by decide +kernel
theorem dX6_numberTold_1 : decode cX6_numberTold 1 = .ok (.getfield 19, 3) := by decide +kernel
theorem dX6_numberTold_4 : decode cX6_numberTold 4 = .ok (.iload_n 1, 1) := by decide +kernel
theorem dX6_numberTold_5 : decode cX6_numberTold 5 = .ok (.bipush 10, 2) := by decide +kernel
theorem dX6_numberTold_7 : decode cX6_numberTold 7 = .ok (.imul, 1) := by decide +kernel
theorem dX6_numberTold_8 : decode cX6_numberTold 8 = .ok (.iload_n 2, 1) := by decide +kernel
theorem dX6_numberTold_9 : decode cX6_numberTold 9 = .ok (.iadd, 1) := by decide +kernel
theorem dX6_numberTold_10 : decode cX6_numberTold 10 = .ok (.invokestatic 41, 3) := by decide +kernel
theorem dX6_numberTold_13 : decode cX6_numberTold 13 = .ok (.ireturn, 1) := by decide +kernel
theorem dX6_takes_0 : decode cX6_takes 0 = .ok (.iload_n 1, 1) := by decide +kernel
theorem dX6_takes_1 : decode cX6_takes 1 = .ok (.bipush 48, 2) := by decide +kernel
theorem dX6_takes_3 : decode cX6_takes 3 = .ok (.bipush 57, 2) := by decide +kernel
theorem dX6_takes_5 : decode cX6_takes 5 = .ok (.invokestatic 61, 3) := by decide +kernel
theorem dX6_takes_8 : decode cX6_takes 8 = .ok (.ifCond .eq 12, 3) := by decide +kernel
theorem dX6_takes_11 : decode cX6_takes 11 = .ok (.aload_n 0, 1) := by decide +kernel
theorem dX6_takes_12 : decode cX6_takes 12 = .ok (.iload_n 1, 1) := by decide +kernel
theorem dX6_takes_13 : decode cX6_takes 13 = .ok (.bipush 48, 2) := by decide +kernel
theorem dX6_takes_15 : decode cX6_takes 15 = .ok (.isub, 1) := by decide +kernel
theorem dX6_takes_16 : decode cX6_takes 16 = .ok (.invokevirtual 65, 3) := by decide +kernel
theorem dX6_takes_19 : decode cX6_takes 19 = .ok (.ireturn, 1) := by decide +kernel
theorem dX6_takes_20 : decode cX6_takes 20 = .ok (.iload_n 1, 1) := by decide +kernel
theorem dX6_takes_21 : decode cX6_takes 21 = .ok (.bipush 44, 2) := by decide +kernel
theorem dX6_takes_23 : decode cX6_takes 23 = .ok (.if_icmp .ne 8, 3) := by decide +kernel
theorem dX6_takes_26 : decode cX6_takes 26 = .ok (.aload_n 0, 1) := by decide +kernel
theorem dX6_takes_27 : decode cX6_takes 27 = .ok (.invokevirtual 68, 3) := by decide +kernel
theorem dX6_takes_30 : decode cX6_takes 30 = .ok (.ireturn, 1) := by decide +kernel
theorem dX6_takes_31 : decode cX6_takes 31 = .ok (.iload_n 1, 1) := by decide +kernel
theorem dX6_takes_32 : decode cX6_takes 32 = .ok (.bipush 47, 2) := by decide +kernel
theorem dX6_takes_34 : decode cX6_takes 34 = .ok (.if_icmp .ne 14, 3) := by decide +kernel
theorem dX6_takes_37 : decode cX6_takes 37 = .ok (.aload_n 0, 1) := by decide +kernel
theorem dX6_takes_38 : decode cX6_takes 38 = .ok (.invokevirtual 71, 3) := by decide +kernel
theorem dX6_takes_41 : decode cX6_takes 41 = .ok (.ifCond .eq 7, 3) := by decide +kernel
theorem dX6_takes_44 : decode cX6_takes 44 = .ok (.iconst 1, 1) := by decide +kernel
theorem dX6_takes_45 : decode cX6_takes 45 = .ok (.goto 4, 3) := by decide +kernel
theorem dX6_takes_48 : decode cX6_takes 48 = .ok (.iconst 0, 1) := by decide +kernel
theorem dX6_takes_49 : decode cX6_takes 49 = .ok (.ireturn, 1) := by decide +kernel
theorem dX6_takesDigit_0 : decode cX6_takesDigit 0 = .ok (.aload_n 0, 1) := by decide +kernel
theorem dX6_takesDigit_1 : decode cX6_takesDigit 1 = .ok (.getfield 31, 3) := by decide +kernel
theorem dX6_takesDigit_4 : decode cX6_takesDigit 4 = .ok (.ifCond .ne 7, 3) := by decide +kernel
theorem dX6_takesDigit_7 : decode cX6_takesDigit 7 = .ok (.iconst 1, 1) := by decide +kernel
theorem dX6_takesDigit_8 : decode cX6_takesDigit 8 = .ok (.goto 4, 3) := by decide +kernel
theorem dX6_takesDigit_11 : decode cX6_takesDigit 11 = .ok (.iconst 0, 1) := by decide +kernel
theorem dX6_takesDigit_12 : decode cX6_takesDigit 12 = .ok (.istore_n 2, 1) := by decide +kernel
theorem dX6_takesDigit_13 : decode cX6_takesDigit 13 = .ok (.iload_n 2, 1) := by decide +kernel
theorem dX6_takesDigit_14 : decode cX6_takesDigit 14 = .ok (.ifCond .ne 20, 3) := by decide +kernel
theorem dX6_takesDigit_17 : decode cX6_takesDigit 17 = .ok (.aload_n 0, 1) := by decide +kernel
theorem dX6_takesDigit_18 : decode cX6_takesDigit 18 = .ok (.getfield 34, 3) := by decide +kernel
theorem dX6_takesDigit_21 : decode cX6_takesDigit 21 = .ok (.ifCond .eq 11, 3) := by decide +kernel
theorem dX6_takesDigit_24 : decode cX6_takesDigit 24 = .ok (.aload_n 0, 1) := by decide +kernel
theorem dX6_takesDigit_25 : decode cX6_takesDigit 25 = .ok (.getfield 31, 3) := by decide +kernel
theorem dX6_takesDigit_28 : decode cX6_takesDigit 28 = .ok (.iconst 4, 1) := by decide +kernel
theorem dX6_takesDigit_29 : decode cX6_takesDigit 29 = .ok (.if_icmp .ne 5, 3) := by decide +kernel
theorem dX6_takesDigit_32 : decode cX6_takesDigit 32 = .ok (.iconst 0, 1) := by decide +kernel
theorem dX6_takesDigit_33 : decode cX6_takesDigit 33 = .ok (.ireturn, 1) := by decide +kernel
theorem dX6_takesDigit_34 : decode cX6_takesDigit 34 = .ok (.aload_n 0, 1) := by decide +kernel
theorem dX6_takesDigit_35 : decode cX6_takesDigit 35 = .ok (.iload_n 2, 1) := by decide +kernel
theorem dX6_takesDigit_36 : decode cX6_takesDigit 36 = .ok (.ifCond .eq 7, 3) := by decide +kernel
theorem dX6_takesDigit_39 : decode cX6_takesDigit 39 = .ok (.iload_n 1, 1) := by decide +kernel
theorem dX6_takesDigit_40 : decode cX6_takesDigit 40 = .ok (.goto 12, 3) := by decide +kernel
theorem dX6_takesDigit_43 : decode cX6_takesDigit 43 = .ok (.aload_n 0, 1) := by decide +kernel
theorem dX6_takesDigit_44 : decode cX6_takesDigit 44 = .ok (.getfield 34, 3) := by decide +kernel
theorem dX6_takesDigit_47 : decode cX6_takesDigit 47 = .ok (.bipush 10, 2) := by decide +kernel
theorem dX6_takesDigit_49 : decode cX6_takesDigit 49 = .ok (.imul, 1) := by decide +kernel
theorem dX6_takesDigit_50 : decode cX6_takesDigit 50 = .ok (.iload_n 1, 1) := by decide +kernel
theorem dX6_takesDigit_51 : decode cX6_takesDigit 51 = .ok (.iadd, 1) := by decide +kernel
theorem dX6_takesDigit_52 : decode cX6_takesDigit 52 = .ok (.putfield 34, 3) := by decide +kernel
theorem dX6_takesDigit_55 : decode cX6_takesDigit 55 = .ok (.aload_n 0, 1) := by decide +kernel
theorem dX6_takesDigit_56 : decode cX6_takesDigit 56 = .ok (.dup, 1) := by decide +kernel
theorem dX6_takesDigit_57 : decode cX6_takesDigit 57 = .ok (.getfield 31, 3) := by decide +kernel
theorem dX6_takesDigit_60 : decode cX6_takesDigit 60 = .ok (.iconst 1, 1) := by decide +kernel
theorem dX6_takesDigit_61 : decode cX6_takesDigit 61 = .ok (.iadd, 1) := by decide +kernel
theorem dX6_takesDigit_62 : decode cX6_takesDigit 62 = .ok (.putfield 31, 3) := by decide +kernel
theorem dX6_takesDigit_65 : decode cX6_takesDigit 65 = .ok (.aload_n 0, 1) := by decide +kernel
theorem dX6_takesDigit_66 : decode cX6_takesDigit 66 = .ok (.getfield 19, 3) := by decide +kernel
theorem dX6_takesDigit_69 : decode cX6_takesDigit 69 = .ok (.aload_n 0, 1) := by decide +kernel
theorem dX6_takesDigit_70 : decode cX6_takesDigit 70 = .ok (.getfield 22, 3) := by decide +kernel
theorem dX6_takesDigit_73 : decode cX6_takesDigit 73 = .ok (.bipush 10, 2) := by decide +kernel
theorem dX6_takesDigit_75 : decode cX6_takesDigit 75 = .ok (.imul, 1) := by decide +kernel
theorem dX6_takesDigit_76 : decode cX6_takesDigit 76 = .ok (.aload_n 0, 1) := by decide +kernel
theorem dX6_takesDigit_77 : decode cX6_takesDigit 77 = .ok (.getfield 25, 3) := by decide +kernel
theorem dX6_takesDigit_80 : decode cX6_takesDigit 80 = .ok (.iadd, 1) := by decide +kernel
theorem dX6_takesDigit_81 : decode cX6_takesDigit 81 = .ok (.aload_n 0, 1) := by decide +kernel
theorem dX6_takesDigit_82 : decode cX6_takesDigit 82 = .ok (.getfield 34, 3) := by decide +kernel
theorem dX6_takesDigit_85 : decode cX6_takesDigit 85 = .ok (.invokestatic 37, 3) := by decide +kernel
theorem dX6_takesDigit_88 : decode cX6_takesDigit 88 = .ok (.iconst 1, 1) := by decide +kernel
theorem dX6_takesDigit_89 : decode cX6_takesDigit 89 = .ok (.ireturn, 1) := by decide +kernel
theorem dX6_takesComma_0 : decode cX6_takesComma 0 = .ok (.aload_n 0, 1) := by decide +kernel
theorem dX6_takesComma_1 : decode cX6_takesComma 1 = .ok (.getfield 31, 3) := by decide +kernel
theorem dX6_takesComma_4 : decode cX6_takesComma 4 = .ok (.ifCond .eq 16, 3) := by decide +kernel
theorem dX6_takesComma_7 : decode cX6_takesComma 7 = .ok (.aload_n 0, 1) := by decide +kernel
theorem dX6_takesComma_8 : decode cX6_takesComma 8 = .ok (.getfield 25, 3) := by decide +kernel
theorem dX6_takesComma_11 : decode cX6_takesComma 11 = .ok (.iconst 1, 1) := by decide +kernel
theorem dX6_takesComma_12 : decode cX6_takesComma 12 = .ok (.iadd, 1) := by decide +kernel
theorem dX6_takesComma_13 : decode cX6_takesComma 13 = .ok (.aload_n 0, 1) := by decide +kernel
theorem dX6_takesComma_14 : decode cX6_takesComma 14 = .ok (.getfield 28, 3) := by decide +kernel
theorem dX6_takesComma_17 : decode cX6_takesComma 17 = .ok (.if_icmp .lt 5, 3) := by decide +kernel
theorem dX6_takesComma_20 : decode cX6_takesComma 20 = .ok (.iconst 0, 1) := by decide +kernel
theorem dX6_takesComma_21 : decode cX6_takesComma 21 = .ok (.ireturn, 1) := by decide +kernel
theorem dX6_takesComma_22 : decode cX6_takesComma 22 = .ok (.aload_n 0, 1) := by decide +kernel
theorem dX6_takesComma_23 : decode cX6_takesComma 23 = .ok (.dup, 1) := by decide +kernel
theorem dX6_takesComma_24 : decode cX6_takesComma 24 = .ok (.getfield 25, 3) := by decide +kernel
theorem dX6_takesComma_27 : decode cX6_takesComma 27 = .ok (.iconst 1, 1) := by decide +kernel
theorem dX6_takesComma_28 : decode cX6_takesComma 28 = .ok (.iadd, 1) := by decide +kernel
theorem dX6_takesComma_29 : decode cX6_takesComma 29 = .ok (.putfield 25, 3) := by decide +kernel
theorem dX6_takesComma_32 : decode cX6_takesComma 32 = .ok (.aload_n 0, 1) := by decide +kernel
theorem dX6_takesComma_33 : decode cX6_takesComma 33 = .ok (.iconst 0, 1) := by decide +kernel
theorem dX6_takesComma_34 : decode cX6_takesComma 34 = .ok (.putfield 31, 3) := by decide +kernel
theorem dX6_takesComma_37 : decode cX6_takesComma 37 = .ok (.iconst 1, 1) := by decide +kernel
theorem dX6_takesComma_38 : decode cX6_takesComma 38 = .ok (.ireturn, 1) := by decide +kernel
theorem dX6_takesSlash_0 : decode cX6_takesSlash 0 = .ok (.aload_n 0, 1) := by decide +kernel
theorem dX6_takesSlash_1 : decode cX6_takesSlash 1 = .ok (.getfield 31, 3) := by decide +kernel
theorem dX6_takesSlash_4 : decode cX6_takesSlash 4 = .ok (.ifCond .eq 21, 3) := by decide +kernel
theorem dX6_takesSlash_7 : decode cX6_takesSlash 7 = .ok (.aload_n 0, 1) := by decide +kernel
theorem dX6_takesSlash_8 : decode cX6_takesSlash 8 = .ok (.getfield 22, 3) := by decide +kernel
theorem dX6_takesSlash_11 : decode cX6_takesSlash 11 = .ok (.iconst 1, 1) := by decide +kernel
theorem dX6_takesSlash_12 : decode cX6_takesSlash 12 = .ok (.iadd, 1) := by decide +kernel
theorem dX6_takesSlash_13 : decode cX6_takesSlash 13 = .ok (.bipush 10, 2) := by decide +kernel
theorem dX6_takesSlash_15 : decode cX6_takesSlash 15 = .ok (.if_icmp .ge 10, 3) := by decide +kernel
theorem dX6_takesSlash_18 : decode cX6_takesSlash 18 = .ok (.aload_n 0, 1) := by decide +kernel
theorem dX6_takesSlash_19 : decode cX6_takesSlash 19 = .ok (.invokevirtual 57, 3) := by decide +kernel
theorem dX6_takesSlash_22 : decode cX6_takesSlash 22 = .ok (.ifCond .ne 5, 3) := by decide +kernel
theorem dX6_takesSlash_25 : decode cX6_takesSlash 25 = .ok (.iconst 0, 1) := by decide +kernel
theorem dX6_takesSlash_26 : decode cX6_takesSlash 26 = .ok (.ireturn, 1) := by decide +kernel
theorem dX6_takesSlash_27 : decode cX6_takesSlash 27 = .ok (.aload_n 0, 1) := by decide +kernel
theorem dX6_takesSlash_28 : decode cX6_takesSlash 28 = .ok (.aload_n 0, 1) := by decide +kernel
theorem dX6_takesSlash_29 : decode cX6_takesSlash 29 = .ok (.getfield 25, 3) := by decide +kernel
theorem dX6_takesSlash_32 : decode cX6_takesSlash 32 = .ok (.iconst 1, 1) := by decide +kernel
theorem dX6_takesSlash_33 : decode cX6_takesSlash 33 = .ok (.iadd, 1) := by decide +kernel
theorem dX6_takesSlash_34 : decode cX6_takesSlash 34 = .ok (.putfield 28, 3) := by decide +kernel
theorem dX6_takesSlash_37 : decode cX6_takesSlash 37 = .ok (.aload_n 0, 1) := by decide +kernel
theorem dX6_takesSlash_38 : decode cX6_takesSlash 38 = .ok (.dup, 1) := by decide +kernel
theorem dX6_takesSlash_39 : decode cX6_takesSlash 39 = .ok (.getfield 22, 3) := by decide +kernel
theorem dX6_takesSlash_42 : decode cX6_takesSlash 42 = .ok (.iconst 1, 1) := by decide +kernel
theorem dX6_takesSlash_43 : decode cX6_takesSlash 43 = .ok (.iadd, 1) := by decide +kernel
theorem dX6_takesSlash_44 : decode cX6_takesSlash 44 = .ok (.putfield 22, 3) := by decide +kernel
theorem dX6_takesSlash_47 : decode cX6_takesSlash 47 = .ok (.aload_n 0, 1) := by decide +kernel
theorem dX6_takesSlash_48 : decode cX6_takesSlash 48 = .ok (.iconst 0, 1) := by decide +kernel
theorem dX6_takesSlash_49 : decode cX6_takesSlash 49 = .ok (.putfield 25, 3) := by decide +kernel
theorem dX6_takesSlash_52 : decode cX6_takesSlash 52 = .ok (.aload_n 0, 1) := by decide +kernel
theorem dX6_takesSlash_53 : decode cX6_takesSlash 53 = .ok (.iconst 0, 1) := by decide +kernel
theorem dX6_takesSlash_54 : decode cX6_takesSlash 54 = .ok (.putfield 31, 3) := by decide +kernel
theorem dX6_takesSlash_57 : decode cX6_takesSlash 57 = .ok (.iconst 1, 1) := by decide +kernel
theorem dX6_takesSlash_58 : decode cX6_takesSlash 58 = .ok (.ireturn, 1) := by decide +kernel
theorem dX6_isRowFull_0 : decode cX6_isRowFull 0 = .ok (.aload_n 0, 1) := by decide +kernel
theorem dX6_isRowFull_1 : decode cX6_isRowFull 1 = .ok (.getfield 22, 3) := by decide +kernel
theorem dX6_isRowFull_4 : decode cX6_isRowFull 4 = .ok (.ifCond .eq 16, 3) := by decide +kernel
theorem dX6_isRowFull_7 : decode cX6_isRowFull 7 = .ok (.aload_n 0, 1) := by decide +kernel
theorem dX6_isRowFull_8 : decode cX6_isRowFull 8 = .ok (.getfield 25, 3) := by decide +kernel
theorem dX6_isRowFull_11 : decode cX6_isRowFull 11 = .ok (.iconst 1, 1) := by decide +kernel
theorem dX6_isRowFull_12 : decode cX6_isRowFull 12 = .ok (.iadd, 1) := by decide +kernel
theorem dX6_isRowFull_13 : decode cX6_isRowFull 13 = .ok (.aload_n 0, 1) := by decide +kernel
theorem dX6_isRowFull_14 : decode cX6_isRowFull 14 = .ok (.getfield 28, 3) := by decide +kernel
theorem dX6_isRowFull_17 : decode cX6_isRowFull 17 = .ok (.if_icmp .ne 7, 3) := by decide +kernel
theorem dX6_isRowFull_20 : decode cX6_isRowFull 20 = .ok (.iconst 1, 1) := by decide +kernel
theorem dX6_isRowFull_21 : decode cX6_isRowFull 21 = .ok (.goto 4, 3) := by decide +kernel
theorem dX6_isRowFull_24 : decode cX6_isRowFull 24 = .ok (.iconst 0, 1) := by decide +kernel
theorem dX6_isRowFull_25 : decode cX6_isRowFull 25 = .ok (.ireturn, 1) := by decide +kernel
theorem dX7_init_0 : decode cX7_init 0 = .ok (.aload_n 0, 1) := by decide +kernel
theorem dX7_init_1 : decode cX7_init 1 = .ok (.invokespecial 1, 3) := by decide +kernel
theorem dX7_init_4 : decode cX7_init 4 = .ok (.aload_n 0, 1) := by decide +kernel
theorem dX7_init_5 : decode cX7_init 5 = .ok (.new 7, 3) := by decide +kernel
theorem dX7_init_8 : decode cX7_init 8 = .ok (.dup, 1) := by decide +kernel
theorem dX7_init_9 : decode cX7_init 9 = .ok (.invokespecial 9, 3) := by decide +kernel
theorem dX7_init_12 : decode cX7_init 12 = .ok (.putfield 10, 3) := by decide +kernel
theorem dX7_init_15 : decode cX7_init 15 = .ok (.aload_n 0, 1) := by decide +kernel
theorem dX7_init_16 : decode cX7_init 16 = .ok (.new 16, 3) := by decide +kernel
theorem dX7_init_19 : decode cX7_init 19 = .ok (.dup, 1) := by decide +kernel
theorem dX7_init_20 : decode cX7_init 20 = .ok (.aload_n 0, 1) := by decide +kernel
theorem dX7_init_21 : decode cX7_init 21 = .ok (.getfield 10, 3) := by decide +kernel
theorem dX7_init_24 : decode cX7_init 24 = .ok (.invokespecial 18, 3) := by decide +kernel
theorem dX7_init_27 : decode cX7_init 27 = .ok (.putfield 21, 3) := by decide +kernel
theorem dX7_init_30 : decode cX7_init 30 = .ok (.aload_n 0, 1) := by decide +kernel
theorem dX7_init_31 : decode cX7_init 31 = .ok (.new 25, 3) := by decide +kernel
theorem dX7_init_34 : decode cX7_init 34 = .ok (.dup, 1) := by decide +kernel
theorem dX7_init_35 : decode cX7_init 35 = .ok (.aload_n 0, 1) := by decide +kernel
theorem dX7_init_36 : decode cX7_init 36 = .ok (.getfield 10, 3) := by decide +kernel
theorem dX7_init_39 : decode cX7_init 39 = .ok (.invokespecial 27, 3) := by decide +kernel
theorem dX7_init_42 : decode cX7_init 42 = .ok (.putfield 28, 3) := by decide +kernel
theorem dX7_init_45 : decode cX7_init 45 = .ok (.aload_n 0, 1) := by decide +kernel
theorem dX7_init_46 : decode cX7_init 46 = .ok (.new 32, 3) := by decide +kernel
theorem dX7_init_49 : decode cX7_init 49 = .ok (.dup, 1) := by decide +kernel
theorem dX7_init_50 : decode cX7_init 50 = .ok (.aload_n 0, 1) := by decide +kernel
theorem dX7_init_51 : decode cX7_init 51 = .ok (.getfield 10, 3) := by decide +kernel
theorem dX7_init_54 : decode cX7_init 54 = .ok (.invokespecial 34, 3) := by decide +kernel
theorem dX7_init_57 : decode cX7_init 57 = .ok (.putfield 35, 3) := by decide +kernel
theorem dX7_init_60 : decode cX7_init 60 = .ok (.aload_n 0, 1) := by decide +kernel
theorem dX7_init_61 : decode cX7_init 61 = .ok (.new 39, 3) := by decide +kernel
theorem dX7_init_64 : decode cX7_init 64 = .ok (.dup, 1) := by decide +kernel
theorem dX7_init_65 : decode cX7_init 65 = .ok (.invokespecial 41, 3) := by decide +kernel
theorem dX7_init_68 : decode cX7_init 68 = .ok (.putfield 42, 3) := by decide +kernel
theorem dX7_init_71 : decode cX7_init 71 = .ok (.aload_n 0, 1) := by decide +kernel
theorem dX7_init_72 : decode cX7_init 72 = .ok (.new 46, 3) := by decide +kernel
theorem dX7_init_75 : decode cX7_init 75 = .ok (.dup, 1) := by decide +kernel
theorem dX7_init_76 : decode cX7_init 76 = .ok (.invokespecial 48, 3) := by decide +kernel
theorem dX7_init_79 : decode cX7_init 79 = .ok (.putfield 49, 3) := by decide +kernel
theorem dX7_init_82 : decode cX7_init 82 = .ok (.aload_n 0, 1) := by decide +kernel
theorem dX7_init_83 : decode cX7_init 83 = .ok (.new 53, 3) := by decide +kernel
theorem dX7_init_86 : decode cX7_init 86 = .ok (.dup, 1) := by decide +kernel
theorem dX7_init_87 : decode cX7_init 87 = .ok (.invokespecial 55, 3) := by decide +kernel
theorem dX7_init_90 : decode cX7_init 90 = .ok (.putfield 56, 3) := by decide +kernel
theorem dX7_init_93 : decode cX7_init 93 = .ok (.aload_n 0, 1) := by decide +kernel
theorem dX7_init_94 : decode cX7_init 94 = .ok (.new 53, 3) := by decide +kernel
theorem dX7_init_97 : decode cX7_init 97 = .ok (.dup, 1) := by decide +kernel
theorem dX7_init_98 : decode cX7_init 98 = .ok (.invokespecial 55, 3) := by decide +kernel
theorem dX7_init_101 : decode cX7_init 101 = .ok (.putfield 60, 3) := by decide +kernel
theorem dX7_init_104 : decode cX7_init 104 = .ok (.return_, 1) := by decide +kernel
theorem dX7_size_0 : decode cX7_size 0 = .ok (.iload_n 1, 1) := by decide +kernel
theorem dX7_size_1 : decode cX7_size 1 = .ok (.iconst 1, 1) := by decide +kernel
theorem dX7_size_2 : decode cX7_size 2 = .ok (.bipush 10, 2) := by decide +kernel
theorem dX7_size_4 : decode cX7_size 4 = .ok (.invokestatic 63, 3) := by decide +kernel
theorem dX7_size_7 : decode cX7_size 7 = .ok (.ifCond .eq 13, 3) := by decide +kernel
theorem dX7_size_10 : decode cX7_size 10 = .ok (.iload_n 2, 1) := by decide +kernel
theorem dX7_size_11 : decode cX7_size 11 = .ok (.iconst 1, 1) := by decide +kernel
theorem dX7_size_12 : decode cX7_size 12 = .ok (.bipush 10, 2) := by decide +kernel
theorem dX7_size_14 : decode cX7_size 14 = .ok (.invokestatic 63, 3) := by decide +kernel
theorem dX7_size_17 : decode cX7_size 17 = .ok (.ifCond .ne 13, 3) := by decide +kernel
theorem dX7_size_20 : decode cX7_size 20 = .ok (.new 67, 3) := by decide +kernel
theorem dX7_size_23 : decode cX7_size 23 = .ok (.dup, 1) := by decide +kernel
theorem dX7_size_24 : decode cX7_size 24 = .ok (.ldc 69, 2) := by decide +kernel
theorem dX7_size_26 : decode cX7_size 26 = .ok (.invokespecial 71, 3) := by decide +kernel
theorem dX7_size_29 : decode cX7_size 29 = .ok (.athrow, 1) := by decide +kernel
theorem dX7_size_30 : decode cX7_size 30 = .ok (.aload_n 0, 1) := by decide +kernel
theorem dX7_size_31 : decode cX7_size 31 = .ok (.getfield 49, 3) := by decide +kernel
theorem dX7_size_34 : decode cX7_size 34 = .ok (.aload_n 0, 1) := by decide +kernel
theorem dX7_size_35 : decode cX7_size 35 = .ok (.getfield 10, 3) := by decide +kernel
theorem dX7_size_38 : decode cX7_size 38 = .ok (.invokevirtual 74, 3) := by decide +kernel
theorem dX7_size_41 : decode cX7_size 41 = .ok (.aload_n 0, 1) := by decide +kernel
theorem dX7_size_42 : decode cX7_size 42 = .ok (.getfield 10, 3) := by decide +kernel
theorem dX7_size_45 : decode cX7_size 45 = .ok (.invokevirtual 77, 3) := by decide +kernel
theorem dX7_size_48 : decode cX7_size 48 = .ok (.istore_n 3, 1) := by decide +kernel
theorem dX7_size_49 : decode cX7_size 49 = .ok (.aload_n 0, 1) := by decide +kernel
theorem dX7_size_50 : decode cX7_size 50 = .ok (.getfield 10, 3) := by decide +kernel
theorem dX7_size_53 : decode cX7_size 53 = .ok (.iload_n 1, 1) := by decide +kernel
theorem dX7_size_54 : decode cX7_size 54 = .ok (.putfield 81, 3) := by decide +kernel
theorem dX7_size_57 : decode cX7_size 57 = .ok (.aload_n 0, 1) := by decide +kernel
theorem dX7_size_58 : decode cX7_size 58 = .ok (.getfield 10, 3) := by decide +kernel
theorem dX7_size_61 : decode cX7_size 61 = .ok (.iload_n 2, 1) := by decide +kernel
theorem dX7_size_62 : decode cX7_size 62 = .ok (.putfield 85, 3) := by decide +kernel
theorem dX7_size_65 : decode cX7_size 65 = .ok (.iload_n 3, 1) := by decide +kernel
theorem dX7_size_66 : decode cX7_size 66 = .ok (.ireturn, 1) := by decide +kernel
theorem dX7_put_0 : decode cX7_put 0 = .ok (.aload_n 0, 1) := by decide +kernel
theorem dX7_put_1 : decode cX7_put 1 = .ok (.getfield 10, 3) := by decide +kernel
theorem dX7_put_4 : decode cX7_put 4 = .ok (.iload_n 1, 1) := by decide +kernel
theorem dX7_put_5 : decode cX7_put 5 = .ok (.iload_n 2, 1) := by decide +kernel
theorem dX7_put_6 : decode cX7_put 6 = .ok (.invokevirtual 88, 3) := by decide +kernel
theorem dX7_put_9 : decode cX7_put 9 = .ok (.ifCond .ne 13, 3) := by decide +kernel
theorem dX7_put_12 : decode cX7_put 12 = .ok (.new 92, 3) := by decide +kernel
theorem dX7_put_15 : decode cX7_put 15 = .ok (.dup, 1) := by decide +kernel
theorem dX7_put_16 : decode cX7_put 16 = .ok (.ldc 94, 2) := by decide +kernel
theorem dX7_put_18 : decode cX7_put 18 = .ok (.invokespecial 96, 3) := by decide +kernel
theorem dX7_put_21 : decode cX7_put 21 = .ok (.athrow, 1) := by decide +kernel
theorem dX7_put_22 : decode cX7_put 22 = .ok (.iload_n 3, 1) := by decide +kernel
theorem dX7_put_23 : decode cX7_put 23 = .ok (.iconst 0, 1) := by decide +kernel
theorem dX7_put_24 : decode cX7_put 24 = .ok (.sipush 9999, 3) := by decide +kernel
theorem dX7_put_27 : decode cX7_put 27 = .ok (.invokestatic 63, 3) := by decide +kernel
theorem dX7_put_30 : decode cX7_put 30 = .ok (.ifCond .ne 13, 3) := by decide +kernel
theorem dX7_put_33 : decode cX7_put 33 = .ok (.new 67, 3) := by decide +kernel
theorem dX7_put_36 : decode cX7_put 36 = .ok (.dup, 1) := by decide +kernel
theorem dX7_put_37 : decode cX7_put 37 = .ok (.ldc 97, 2) := by decide +kernel
theorem dX7_put_39 : decode cX7_put 39 = .ok (.invokespecial 71, 3) := by decide +kernel
theorem dX7_put_42 : decode cX7_put 42 = .ok (.athrow, 1) := by decide +kernel
theorem dX7_put_43 : decode cX7_put 43 = .ok (.aload_n 0, 1) := by decide +kernel
theorem dX7_put_44 : decode cX7_put 44 = .ok (.getfield 49, 3) := by decide +kernel
theorem dX7_put_47 : decode cX7_put 47 = .ok (.aload_n 0, 1) := by decide +kernel
theorem dX7_put_48 : decode cX7_put 48 = .ok (.getfield 10, 3) := by decide +kernel
theorem dX7_put_51 : decode cX7_put 51 = .ok (.invokevirtual 74, 3) := by decide +kernel
theorem dX7_put_54 : decode cX7_put 54 = .ok (.aload_n 0, 1) := by decide +kernel
theorem dX7_put_55 : decode cX7_put 55 = .ok (.getfield 10, 3) := by decide +kernel
theorem dX7_put_58 : decode cX7_put 58 = .ok (.iload_n 1, 1) := by decide +kernel
theorem dX7_put_59 : decode cX7_put 59 = .ok (.iload_n 2, 1) := by decide +kernel
theorem dX7_put_60 : decode cX7_put 60 = .ok (.invokevirtual 99, 3) := by decide +kernel
theorem dX7_put_63 : decode cX7_put 63 = .ok (.istore 4, 2) := by decide +kernel
theorem dX7_put_65 : decode cX7_put 65 = .ok (.aload_n 0, 1) := by decide +kernel
theorem dX7_put_66 : decode cX7_put 66 = .ok (.getfield 10, 3) := by decide +kernel
theorem dX7_put_69 : decode cX7_put 69 = .ok (.iload_n 1, 1) := by decide +kernel
theorem dX7_put_70 : decode cX7_put 70 = .ok (.iload_n 2, 1) := by decide +kernel
theorem dX7_put_71 : decode cX7_put 71 = .ok (.iload_n 3, 1) := by decide +kernel
theorem dX7_put_72 : decode cX7_put 72 = .ok (.invokevirtual 103, 3) := by decide +kernel
theorem dX7_put_75 : decode cX7_put 75 = .ok (.iload 4, 2) := by decide +kernel
theorem dX7_put_77 : decode cX7_put 77 = .ok (.ireturn, 1) := by decide +kernel
theorem dX7_points_0 : decode cX7_points 0 = .ok (.iload_n 1, 1) := by decide +kernel
theorem dX7_points_1 : decode cX7_points 1 = .ok (.iconst 0, 1) := by decide +kernel
theorem dX7_points_2 : decode cX7_points 2 = .ok (.bipush 50, 2) := by decide +kernel
theorem dX7_points_4 : decode cX7_points 4 = .ok (.invokestatic 63, 3) := by decide +kernel
theorem dX7_points_7 : decode cX7_points 7 = .ok (.ifCond .eq 34, 3) := by decide +kernel
theorem dX7_points_10 : decode cX7_points 10 = .ok (.iload_n 2, 1) := by decide +kernel
theorem dX7_points_11 : decode cX7_points 11 = .ok (.iconst 0, 1) := by decide +kernel
theorem dX7_points_12 : decode cX7_points 12 = .ok (.bipush 9, 2) := by decide +kernel
theorem dX7_points_14 : decode cX7_points 14 = .ok (.invokestatic 63, 3) := by decide +kernel
theorem dX7_points_17 : decode cX7_points 17 = .ok (.ifCond .eq 24, 3) := by decide +kernel
theorem dX7_points_20 : decode cX7_points 20 = .ok (.iload_n 3, 1) := by decide +kernel
theorem dX7_points_21 : decode cX7_points 21 = .ok (.iconst 0, 1) := by decide +kernel
theorem dX7_points_22 : decode cX7_points 22 = .ok (.bipush 50, 2) := by decide +kernel
theorem dX7_points_24 : decode cX7_points 24 = .ok (.invokestatic 63, 3) := by decide +kernel
theorem dX7_points_27 : decode cX7_points 27 = .ok (.ifCond .eq 14, 3) := by decide +kernel
theorem dX7_points_30 : decode cX7_points 30 = .ok (.iload 4, 2) := by decide +kernel
theorem dX7_points_32 : decode cX7_points 32 = .ok (.iconst 0, 1) := by decide +kernel
theorem dX7_points_33 : decode cX7_points 33 = .ok (.bipush 9, 2) := by decide +kernel
theorem dX7_points_35 : decode cX7_points 35 = .ok (.invokestatic 63, 3) := by decide +kernel
theorem dX7_points_38 : decode cX7_points 38 = .ok (.ifCond .ne 13, 3) := by decide +kernel
theorem dX7_points_41 : decode cX7_points 41 = .ok (.new 67, 3) := by decide +kernel
theorem dX7_points_44 : decode cX7_points 44 = .ok (.dup, 1) := by decide +kernel
theorem dX7_points_45 : decode cX7_points 45 = .ok (.ldc 107, 2) := by decide +kernel
theorem dX7_points_47 : decode cX7_points 47 = .ok (.invokespecial 71, 3) := by decide +kernel
theorem dX7_points_50 : decode cX7_points 50 = .ok (.athrow, 1) := by decide +kernel
theorem dX7_points_51 : decode cX7_points 51 = .ok (.aload_n 0, 1) := by decide +kernel
theorem dX7_points_52 : decode cX7_points 52 = .ok (.getfield 49, 3) := by decide +kernel
theorem dX7_points_55 : decode cX7_points 55 = .ok (.aload_n 0, 1) := by decide +kernel
theorem dX7_points_56 : decode cX7_points 56 = .ok (.getfield 10, 3) := by decide +kernel
theorem dX7_points_59 : decode cX7_points 59 = .ok (.invokevirtual 74, 3) := by decide +kernel
theorem dX7_points_62 : decode cX7_points 62 = .ok (.iconst 0, 1) := by decide +kernel
theorem dX7_points_63 : decode cX7_points 63 = .ok (.istore 5, 2) := by decide +kernel
theorem dX7_points_65 : decode cX7_points 65 = .ok (.iload 5, 2) := by decide +kernel
theorem dX7_points_67 : decode cX7_points 67 = .ok (.aload_n 0, 1) := by decide +kernel
theorem dX7_points_68 : decode cX7_points 68 = .ok (.getfield 10, 3) := by decide +kernel
theorem dX7_points_71 : decode cX7_points 71 = .ok (.getfield 81, 3) := by decide +kernel
theorem dX7_points_74 : decode cX7_points 74 = .ok (.if_icmp .ge 68, 3) := by decide +kernel
theorem dX7_points_77 : decode cX7_points 77 = .ok (.iconst 0, 1) := by decide +kernel
theorem dX7_points_78 : decode cX7_points 78 = .ok (.istore 6, 2) := by decide +kernel
theorem dX7_points_80 : decode cX7_points 80 = .ok (.iload 6, 2) := by decide +kernel
theorem dX7_points_82 : decode cX7_points 82 = .ok (.aload_n 0, 1) := by decide +kernel
theorem dX7_points_83 : decode cX7_points 83 = .ok (.getfield 10, 3) := by decide +kernel
theorem dX7_points_86 : decode cX7_points 86 = .ok (.getfield 85, 3) := by decide +kernel
theorem dX7_points_89 : decode cX7_points 89 = .ok (.if_icmp .ge 47, 3) := by decide +kernel
theorem dX7_points_92 : decode cX7_points 92 = .ok (.iload_n 1, 1) := by decide +kernel
theorem dX7_points_93 : decode cX7_points 93 = .ok (.iload_n 2, 1) := by decide +kernel
theorem dX7_points_94 : decode cX7_points 94 = .ok (.iload 5, 2) := by decide +kernel
theorem dX7_points_96 : decode cX7_points 96 = .ok (.imul, 1) := by decide +kernel
theorem dX7_points_97 : decode cX7_points 97 = .ok (.iadd, 1) := by decide +kernel
theorem dX7_points_98 : decode cX7_points 98 = .ok (.iload_n 3, 1) := by decide +kernel
theorem dX7_points_99 : decode cX7_points 99 = .ok (.iload 4, 2) := by decide +kernel
theorem dX7_points_101 : decode cX7_points 101 = .ok (.iload 6, 2) := by decide +kernel
theorem dX7_points_103 : decode cX7_points 103 = .ok (.imul, 1) := by decide +kernel
theorem dX7_points_104 : decode cX7_points 104 = .ok (.iadd, 1) := by decide +kernel
theorem dX7_points_105 : decode cX7_points 105 = .ok (.isub, 1) := by decide +kernel
theorem dX7_points_106 : decode cX7_points 106 = .ok (.istore 7, 2) := by decide +kernel
theorem dX7_points_108 : decode cX7_points 108 = .ok (.aload_n 0, 1) := by decide +kernel
theorem dX7_points_109 : decode cX7_points 109 = .ok (.getfield 10, 3) := by decide +kernel
theorem dX7_points_112 : decode cX7_points 112 = .ok (.iload 5, 2) := by decide +kernel
theorem dX7_points_114 : decode cX7_points 114 = .ok (.iload 6, 2) := by decide +kernel
theorem dX7_points_116 : decode cX7_points 116 = .ok (.iload 7, 2) := by decide +kernel
theorem dX7_points_118 : decode cX7_points 118 = .ok (.iload 7, 2) := by decide +kernel
theorem dX7_points_120 : decode cX7_points 120 = .ok (.imul, 1) := by decide +kernel
theorem dX7_points_121 : decode cX7_points 121 = .ok (.sipush 9999, 3) := by decide +kernel
theorem dX7_points_124 : decode cX7_points 124 = .ok (.invokestatic 109, 3) := by decide +kernel
theorem dX7_points_127 : decode cX7_points 127 = .ok (.invokevirtual 103, 3) := by decide +kernel
theorem dX7_points_130 : decode cX7_points 130 = .ok (.iinc 6 1, 3) := by decide +kernel
theorem dX7_points_133 : decode cX7_points 133 = .ok (.goto (-53), 3) := by decide +kernel
theorem dX7_points_136 : decode cX7_points 136 = .ok (.iinc 5 1, 3) := by decide +kernel
theorem dX7_points_139 : decode cX7_points 139 = .ok (.goto (-74), 3) := by decide +kernel
theorem dX7_points_142 : decode cX7_points 142 = .ok (.aload_n 0, 1) := by decide +kernel
theorem dX7_points_143 : decode cX7_points 143 = .ok (.getfield 21, 3) := by decide +kernel
theorem dX7_points_146 : decode cX7_points 146 = .ok (.invokevirtual 114, 3) := by decide +kernel
theorem dX7_points_149 : decode cX7_points 149 = .ok (.ifCond .eq 7, 3) := by decide +kernel
theorem dX7_points_152 : decode cX7_points 152 = .ok (.iconst 1, 1) := by decide +kernel
theorem dX7_points_153 : decode cX7_points 153 = .ok (.goto 4, 3) := by decide +kernel
theorem dX7_points_156 : decode cX7_points 156 = .ok (.iconst 0, 1) := by decide +kernel
theorem dX7_points_157 : decode cX7_points 157 = .ok (.ireturn, 1) := by decide +kernel
theorem dX7_mend_0 : decode cX7_mend 0 = .ok (.aload_n 0, 1) := by decide +kernel
theorem dX7_mend_1 : decode cX7_mend 1 = .ok (.getfield 49, 3) := by decide +kernel
theorem dX7_mend_4 : decode cX7_mend 4 = .ok (.aload_n 0, 1) := by decide +kernel
theorem dX7_mend_5 : decode cX7_mend 5 = .ok (.getfield 10, 3) := by decide +kernel
theorem dX7_mend_8 : decode cX7_mend 8 = .ok (.invokevirtual 74, 3) := by decide +kernel
theorem dX7_mend_11 : decode cX7_mend 11 = .ok (.aload_n 0, 1) := by decide +kernel
theorem dX7_mend_12 : decode cX7_mend 12 = .ok (.getfield 21, 3) := by decide +kernel
theorem dX7_mend_15 : decode cX7_mend 15 = .ok (.invokevirtual 118, 3) := by decide +kernel
theorem dX7_mend_18 : decode cX7_mend 18 = .ok (.aload_n 0, 1) := by decide +kernel
theorem dX7_mend_19 : decode cX7_mend 19 = .ok (.getfield 21, 3) := by decide +kernel
theorem dX7_mend_22 : decode cX7_mend 22 = .ok (.getfield 121, 3) := by decide +kernel
theorem dX7_mend_25 : decode cX7_mend 25 = .ok (.ifCond .ne 5, 3) := by decide +kernel
theorem dX7_mend_28 : decode cX7_mend 28 = .ok (.iconst (-1), 1) := by decide +kernel
theorem dX7_mend_29 : decode cX7_mend 29 = .ok (.ireturn, 1) := by decide +kernel
theorem dX7_mend_30 : decode cX7_mend 30 = .ok (.aload_n 0, 1) := by decide +kernel
theorem dX7_mend_31 : decode cX7_mend 31 = .ok (.getfield 10, 3) := by decide +kernel
theorem dX7_mend_34 : decode cX7_mend 34 = .ok (.aload_n 0, 1) := by decide +kernel
theorem dX7_mend_35 : decode cX7_mend 35 = .ok (.getfield 21, 3) := by decide +kernel
theorem dX7_mend_38 : decode cX7_mend 38 = .ok (.getfield 124, 3) := by decide +kernel
theorem dX7_mend_41 : decode cX7_mend 41 = .ok (.iconst 1, 1) := by decide +kernel
theorem dX7_mend_42 : decode cX7_mend 42 = .ok (.iadd, 1) := by decide +kernel
theorem dX7_mend_43 : decode cX7_mend 43 = .ok (.aload_n 0, 1) := by decide +kernel
theorem dX7_mend_44 : decode cX7_mend 44 = .ok (.getfield 21, 3) := by decide +kernel
theorem dX7_mend_47 : decode cX7_mend 47 = .ok (.getfield 127, 3) := by decide +kernel
theorem dX7_mend_50 : decode cX7_mend 50 = .ok (.invokevirtual 99, 3) := by decide +kernel
theorem dX7_mend_53 : decode cX7_mend 53 = .ok (.iconst 1, 1) := by decide +kernel
theorem dX7_mend_54 : decode cX7_mend 54 = .ok (.iadd, 1) := by decide +kernel
theorem dX7_mend_55 : decode cX7_mend 55 = .ok (.istore_n 1, 1) := by decide +kernel
theorem dX7_mend_56 : decode cX7_mend 56 = .ok (.iload_n 1, 1) := by decide +kernel
theorem dX7_mend_57 : decode cX7_mend 57 = .ok (.sipush 9999, 3) := by decide +kernel
theorem dX7_mend_60 : decode cX7_mend 60 = .ok (.if_icmp .le 5, 3) := by decide +kernel
theorem dX7_mend_63 : decode cX7_mend 63 = .ok (.iconst (-1), 1) := by decide +kernel
theorem dX7_mend_64 : decode cX7_mend 64 = .ok (.ireturn, 1) := by decide +kernel
theorem dX7_mend_65 : decode cX7_mend 65 = .ok (.aload_n 0, 1) := by decide +kernel
theorem dX7_mend_66 : decode cX7_mend 66 = .ok (.getfield 10, 3) := by decide +kernel
theorem dX7_mend_69 : decode cX7_mend 69 = .ok (.aload_n 0, 1) := by decide +kernel
theorem dX7_mend_70 : decode cX7_mend 70 = .ok (.getfield 21, 3) := by decide +kernel
theorem dX7_mend_73 : decode cX7_mend 73 = .ok (.getfield 124, 3) := by decide +kernel
theorem dX7_mend_76 : decode cX7_mend 76 = .ok (.iconst 1, 1) := by decide +kernel
theorem dX7_mend_77 : decode cX7_mend 77 = .ok (.iadd, 1) := by decide +kernel
theorem dX7_mend_78 : decode cX7_mend 78 = .ok (.aload_n 0, 1) := by decide +kernel
theorem dX7_mend_79 : decode cX7_mend 79 = .ok (.getfield 21, 3) := by decide +kernel
theorem dX7_mend_82 : decode cX7_mend 82 = .ok (.getfield 130, 3) := by decide +kernel
theorem dX7_mend_85 : decode cX7_mend 85 = .ok (.iload_n 1, 1) := by decide +kernel
theorem dX7_mend_86 : decode cX7_mend 86 = .ok (.invokevirtual 103, 3) := by decide +kernel
theorem dX7_mend_89 : decode cX7_mend 89 = .ok (.aload_n 0, 1) := by decide +kernel
theorem dX7_mend_90 : decode cX7_mend 90 = .ok (.getfield 10, 3) := by decide +kernel
theorem dX7_mend_93 : decode cX7_mend 93 = .ok (.dup, 1) := by decide +kernel
theorem dX7_mend_94 : decode cX7_mend 94 = .ok (.getfield 133, 3) := by decide +kernel
theorem dX7_mend_97 : decode cX7_mend 97 = .ok (.iconst 1, 1) := by decide +kernel
theorem dX7_mend_98 : decode cX7_mend 98 = .ok (.iadd, 1) := by decide +kernel
theorem dX7_mend_99 : decode cX7_mend 99 = .ok (.putfield 133, 3) := by decide +kernel
theorem dX7_mend_102 : decode cX7_mend 102 = .ok (.aload_n 0, 1) := by decide +kernel
theorem dX7_mend_103 : decode cX7_mend 103 = .ok (.getfield 21, 3) := by decide +kernel
theorem dX7_mend_106 : decode cX7_mend 106 = .ok (.getfield 124, 3) := by decide +kernel
theorem dX7_mend_109 : decode cX7_mend 109 = .ok (.ireturn, 1) := by decide +kernel
theorem dX7_find_0 : decode cX7_find 0 = .ok (.iload_n 1, 1) := by decide +kernel
theorem dX7_find_1 : decode cX7_find 1 = .ok (.invokestatic 136, 3) := by decide +kernel
theorem dX7_find_4 : decode cX7_find 4 = .ok (.ifCond .ne 13, 3) := by decide +kernel
theorem dX7_find_7 : decode cX7_find 7 = .ok (.new 67, 3) := by decide +kernel
theorem dX7_find_10 : decode cX7_find 10 = .ok (.dup, 1) := by decide +kernel
theorem dX7_find_11 : decode cX7_find 11 = .ok (.ldc 140, 2) := by decide +kernel
theorem dX7_find_13 : decode cX7_find 13 = .ok (.invokespecial 71, 3) := by decide +kernel
theorem dX7_find_16 : decode cX7_find 16 = .ok (.athrow, 1) := by decide +kernel
theorem dX7_find_17 : decode cX7_find 17 = .ok (.aload_n 0, 1) := by decide +kernel
theorem dX7_find_18 : decode cX7_find 18 = .ok (.iload_n 1, 1) := by decide +kernel
theorem dX7_find_19 : decode cX7_find 19 = .ok (.invokevirtual 142, 3) := by decide +kernel
theorem dX7_find_22 : decode cX7_find 22 = .ok (.ifCond .ne 13, 3) := by decide +kernel
theorem dX7_find_25 : decode cX7_find 25 = .ok (.new 145, 3) := by decide +kernel
theorem dX7_find_28 : decode cX7_find 28 = .ok (.dup, 1) := by decide +kernel
theorem dX7_find_29 : decode cX7_find 29 = .ok (.ldc 147, 2) := by decide +kernel
theorem dX7_find_31 : decode cX7_find 31 = .ok (.invokespecial 149, 3) := by decide +kernel
theorem dX7_find_34 : decode cX7_find 34 = .ok (.athrow, 1) := by decide +kernel
theorem dX7_find_35 : decode cX7_find 35 = .ok (.aload_n 0, 1) := by decide +kernel
theorem dX7_find_36 : decode cX7_find 36 = .ok (.getfield 49, 3) := by decide +kernel
theorem dX7_find_39 : decode cX7_find 39 = .ok (.aload_n 0, 1) := by decide +kernel
theorem dX7_find_40 : decode cX7_find 40 = .ok (.getfield 10, 3) := by decide +kernel
theorem dX7_find_43 : decode cX7_find 43 = .ok (.invokevirtual 74, 3) := by decide +kernel
theorem dX7_find_46 : decode cX7_find 46 = .ok (.aload_n 0, 1) := by decide +kernel
theorem dX7_find_47 : decode cX7_find 47 = .ok (.getfield 28, 3) := by decide +kernel
theorem dX7_find_50 : decode cX7_find 50 = .ok (.iload_n 1, 1) := by decide +kernel
theorem dX7_find_51 : decode cX7_find 51 = .ok (.invokevirtual 150, 3) := by decide +kernel
theorem dX7_find_54 : decode cX7_find 54 = .ok (.aload_n 0, 1) := by decide +kernel
theorem dX7_find_55 : decode cX7_find 55 = .ok (.getfield 28, 3) := by decide +kernel
theorem dX7_find_58 : decode cX7_find 58 = .ok (.iload_n 1, 1) := by decide +kernel
theorem dX7_find_59 : decode cX7_find 59 = .ok (.invokevirtual 154, 3) := by decide +kernel
theorem dX7_find_62 : decode cX7_find 62 = .ok (.istore_n 2, 1) := by decide +kernel
theorem dX7_find_63 : decode cX7_find 63 = .ok (.aload_n 0, 1) := by decide +kernel
theorem dX7_find_64 : decode cX7_find 64 = .ok (.getfield 10, 3) := by decide +kernel
theorem dX7_find_67 : decode cX7_find 67 = .ok (.dup, 1) := by decide +kernel
theorem dX7_find_68 : decode cX7_find 68 = .ok (.getfield 158, 3) := by decide +kernel
theorem dX7_find_71 : decode cX7_find 71 = .ok (.iload_n 2, 1) := by decide +kernel
theorem dX7_find_72 : decode cX7_find 72 = .ok (.iadd, 1) := by decide +kernel
theorem dX7_find_73 : decode cX7_find 73 = .ok (.putfield 158, 3) := by decide +kernel
theorem dX7_find_76 : decode cX7_find 76 = .ok (.aload_n 0, 1) := by decide +kernel
theorem dX7_find_77 : decode cX7_find 77 = .ok (.getfield 10, 3) := by decide +kernel
theorem dX7_find_80 : decode cX7_find 80 = .ok (.dup, 1) := by decide +kernel
theorem dX7_find_81 : decode cX7_find 81 = .ok (.getfield 161, 3) := by decide +kernel
theorem dX7_find_84 : decode cX7_find 84 = .ok (.iconst 1, 1) := by decide +kernel
theorem dX7_find_85 : decode cX7_find 85 = .ok (.iadd, 1) := by decide +kernel
theorem dX7_find_86 : decode cX7_find 86 = .ok (.putfield 161, 3) := by decide +kernel
theorem dX7_find_89 : decode cX7_find 89 = .ok (.iload_n 2, 1) := by decide +kernel
theorem dX7_find_90 : decode cX7_find 90 = .ok (.ireturn, 1) := by decide +kernel
theorem dX7_weigh_0 : decode cX7_weigh 0 = .ok (.iload_n 1, 1) := by decide +kernel
theorem dX7_weigh_1 : decode cX7_weigh 1 = .ok (.iconst 1, 1) := by decide +kernel
theorem dX7_weigh_2 : decode cX7_weigh 2 = .ok (.bipush 99, 2) := by decide +kernel
theorem dX7_weigh_4 : decode cX7_weigh 4 = .ok (.invokestatic 63, 3) := by decide +kernel
theorem dX7_weigh_7 : decode cX7_weigh 7 = .ok (.ifCond .ne 13, 3) := by decide +kernel
theorem dX7_weigh_10 : decode cX7_weigh 10 = .ok (.new 67, 3) := by decide +kernel
theorem dX7_weigh_13 : decode cX7_weigh 13 = .ok (.dup, 1) := by decide +kernel
theorem dX7_weigh_14 : decode cX7_weigh 14 = .ok (.ldc 164, 2) := by decide +kernel
theorem dX7_weigh_16 : decode cX7_weigh 16 = .ok (.invokespecial 71, 3) := by decide +kernel
theorem dX7_weigh_19 : decode cX7_weigh 19 = .ok (.athrow, 1) := by decide +kernel
theorem dX7_weigh_20 : decode cX7_weigh 20 = .ok (.aload_n 0, 1) := by decide +kernel
theorem dX7_weigh_21 : decode cX7_weigh 21 = .ok (.getfield 10, 3) := by decide +kernel
theorem dX7_weigh_24 : decode cX7_weigh 24 = .ok (.getfield 166, 3) := by decide +kernel
theorem dX7_weigh_27 : decode cX7_weigh 27 = .ok (.bipush 10, 2) := by decide +kernel
theorem dX7_weigh_29 : decode cX7_weigh 29 = .ok (.if_icmp .lt 13, 3) := by decide +kernel
theorem dX7_weigh_32 : decode cX7_weigh 32 = .ok (.new 145, 3) := by decide +kernel
theorem dX7_weigh_35 : decode cX7_weigh 35 = .ok (.dup, 1) := by decide +kernel
theorem dX7_weigh_36 : decode cX7_weigh 36 = .ok (.ldc 169, 2) := by decide +kernel
theorem dX7_weigh_38 : decode cX7_weigh 38 = .ok (.invokespecial 149, 3) := by decide +kernel
theorem dX7_weigh_41 : decode cX7_weigh 41 = .ok (.athrow, 1) := by decide +kernel
theorem dX7_weigh_42 : decode cX7_weigh 42 = .ok (.aload_n 0, 1) := by decide +kernel
theorem dX7_weigh_43 : decode cX7_weigh 43 = .ok (.getfield 49, 3) := by decide +kernel
theorem dX7_weigh_46 : decode cX7_weigh 46 = .ok (.aload_n 0, 1) := by decide +kernel
theorem dX7_weigh_47 : decode cX7_weigh 47 = .ok (.getfield 10, 3) := by decide +kernel
theorem dX7_weigh_50 : decode cX7_weigh 50 = .ok (.invokevirtual 74, 3) := by decide +kernel
theorem dX7_weigh_53 : decode cX7_weigh 53 = .ok (.aload_n 0, 1) := by decide +kernel
theorem dX7_weigh_54 : decode cX7_weigh 54 = .ok (.getfield 10, 3) := by decide +kernel
theorem dX7_weigh_57 : decode cX7_weigh 57 = .ok (.iload_n 1, 1) := by decide +kernel
theorem dX7_weigh_58 : decode cX7_weigh 58 = .ok (.invokevirtual 171, 3) := by decide +kernel
theorem dX7_weigh_61 : decode cX7_weigh 61 = .ok (.aload_n 0, 1) := by decide +kernel
theorem dX7_weigh_62 : decode cX7_weigh 62 = .ok (.getfield 10, 3) := by decide +kernel
theorem dX7_weigh_65 : decode cX7_weigh 65 = .ok (.getfield 166, 3) := by decide +kernel
theorem dX7_weigh_68 : decode cX7_weigh 68 = .ok (.ireturn, 1) := by decide +kernel
theorem dX7_unweigh_0 : decode cX7_unweigh 0 = .ok (.aload_n 0, 1) := by decide +kernel
theorem dX7_unweigh_1 : decode cX7_unweigh 1 = .ok (.getfield 10, 3) := by decide +kernel
theorem dX7_unweigh_4 : decode cX7_unweigh 4 = .ok (.getfield 166, 3) := by decide +kernel
theorem dX7_unweigh_7 : decode cX7_unweigh 7 = .ok (.iconst 1, 1) := by decide +kernel
theorem dX7_unweigh_8 : decode cX7_unweigh 8 = .ok (.if_icmp .gt 13, 3) := by decide +kernel
theorem dX7_unweigh_11 : decode cX7_unweigh 11 = .ok (.new 145, 3) := by decide +kernel
theorem dX7_unweigh_14 : decode cX7_unweigh 14 = .ok (.dup, 1) := by decide +kernel
theorem dX7_unweigh_15 : decode cX7_unweigh 15 = .ok (.ldc 174, 2) := by decide +kernel
theorem dX7_unweigh_17 : decode cX7_unweigh 17 = .ok (.invokespecial 149, 3) := by decide +kernel
theorem dX7_unweigh_20 : decode cX7_unweigh 20 = .ok (.athrow, 1) := by decide +kernel
theorem dX7_unweigh_21 : decode cX7_unweigh 21 = .ok (.aload_n 0, 1) := by decide +kernel
theorem dX7_unweigh_22 : decode cX7_unweigh 22 = .ok (.getfield 49, 3) := by decide +kernel
theorem dX7_unweigh_25 : decode cX7_unweigh 25 = .ok (.aload_n 0, 1) := by decide +kernel
theorem dX7_unweigh_26 : decode cX7_unweigh 26 = .ok (.getfield 10, 3) := by decide +kernel
theorem dX7_unweigh_29 : decode cX7_unweigh 29 = .ok (.invokevirtual 74, 3) := by decide +kernel
theorem dX7_unweigh_32 : decode cX7_unweigh 32 = .ok (.aload_n 0, 1) := by decide +kernel
theorem dX7_unweigh_33 : decode cX7_unweigh 33 = .ok (.getfield 10, 3) := by decide +kernel
theorem dX7_unweigh_36 : decode cX7_unweigh 36 = .ok (.dup, 1) := by decide +kernel
theorem dX7_unweigh_37 : decode cX7_unweigh 37 = .ok (.getfield 166, 3) := by decide +kernel
theorem dX7_unweigh_40 : decode cX7_unweigh 40 = .ok (.iconst 1, 1) := by decide +kernel
theorem dX7_unweigh_41 : decode cX7_unweigh 41 = .ok (.isub, 1) := by decide +kernel
theorem dX7_unweigh_42 : decode cX7_unweigh 42 = .ok (.putfield 166, 3) := by decide +kernel
theorem dX7_unweigh_45 : decode cX7_unweigh 45 = .ok (.aload_n 0, 1) := by decide +kernel
theorem dX7_unweigh_46 : decode cX7_unweigh 46 = .ok (.getfield 10, 3) := by decide +kernel
theorem dX7_unweigh_49 : decode cX7_unweigh 49 = .ok (.aload_n 0, 1) := by decide +kernel
theorem dX7_unweigh_50 : decode cX7_unweigh 50 = .ok (.getfield 10, 3) := by decide +kernel
theorem dX7_unweigh_53 : decode cX7_unweigh 53 = .ok (.getfield 166, 3) := by decide +kernel
theorem dX7_unweigh_56 : decode cX7_unweigh 56 = .ok (.invokevirtual 176, 3) := by decide +kernel
theorem dX7_unweigh_59 : decode cX7_unweigh 59 = .ok (.ireturn, 1) := by decide +kernel
theorem dX7_append_0 : decode cX7_append 0 = .ok (.iload_n 1, 1) := by decide +kernel
theorem dX7_append_1 : decode cX7_append 1 = .ok (.bipush 33, 2) := by decide +kernel
theorem dX7_append_3 : decode cX7_append 3 = .ok (.bipush 126, 2) := by decide +kernel
theorem dX7_append_5 : decode cX7_append 5 = .ok (.invokestatic 63, 3) := by decide +kernel
theorem dX7_append_8 : decode cX7_append 8 = .ok (.ifCond .ne 13, 3) := by decide +kernel
theorem dX7_append_11 : decode cX7_append 11 = .ok (.new 67, 3) := by decide +kernel
theorem dX7_append_14 : decode cX7_append 14 = .ok (.dup, 1) := by decide +kernel
theorem dX7_append_15 : decode cX7_append 15 = .ok (.ldc 179, 2) := by decide +kernel
theorem dX7_append_17 : decode cX7_append 17 = .ok (.invokespecial 71, 3) := by decide +kernel
theorem dX7_append_20 : decode cX7_append 20 = .ok (.athrow, 1) := by decide +kernel
theorem dX7_append_21 : decode cX7_append 21 = .ok (.aload_n 0, 1) := by decide +kernel
theorem dX7_append_22 : decode cX7_append 22 = .ok (.getfield 42, 3) := by decide +kernel
theorem dX7_append_25 : decode cX7_append 25 = .ok (.getfield 181, 3) := by decide +kernel
theorem dX7_append_28 : decode cX7_append 28 = .ok (.bipush 60, 2) := by decide +kernel
theorem dX7_append_30 : decode cX7_append 30 = .ok (.if_icmp .lt 13, 3) := by decide +kernel
theorem dX7_append_33 : decode cX7_append 33 = .ok (.new 145, 3) := by decide +kernel
theorem dX7_append_36 : decode cX7_append 36 = .ok (.dup, 1) := by decide +kernel
theorem dX7_append_37 : decode cX7_append 37 = .ok (.ldc 184, 2) := by decide +kernel
theorem dX7_append_39 : decode cX7_append 39 = .ok (.invokespecial 149, 3) := by decide +kernel
theorem dX7_append_42 : decode cX7_append 42 = .ok (.athrow, 1) := by decide +kernel
theorem dX7_append_43 : decode cX7_append 43 = .ok (.aload_n 0, 1) := by decide +kernel
theorem dX7_append_44 : decode cX7_append 44 = .ok (.getfield 42, 3) := by decide +kernel
theorem dX7_append_47 : decode cX7_append 47 = .ok (.iload_n 1, 1) := by decide +kernel
theorem dX7_append_48 : decode cX7_append 48 = .ok (.invokevirtual 186, 3) := by decide +kernel
theorem dX7_append_51 : decode cX7_append 51 = .ok (.aload_n 0, 1) := by decide +kernel
theorem dX7_append_52 : decode cX7_append 52 = .ok (.getfield 42, 3) := by decide +kernel
theorem dX7_append_55 : decode cX7_append 55 = .ok (.getfield 181, 3) := by decide +kernel
theorem dX7_append_58 : decode cX7_append 58 = .ok (.ireturn, 1) := by decide +kernel
theorem dX7_clearBuffer_0 : decode cX7_clearBuffer 0 = .ok (.aload_n 0, 1) := by decide +kernel
theorem dX7_clearBuffer_1 : decode cX7_clearBuffer 1 = .ok (.getfield 42, 3) := by decide +kernel
theorem dX7_clearBuffer_4 : decode cX7_clearBuffer 4 = .ok (.getfield 181, 3) := by decide +kernel
theorem dX7_clearBuffer_7 : decode cX7_clearBuffer 7 = .ok (.istore_n 1, 1) := by decide +kernel
theorem dX7_clearBuffer_8 : decode cX7_clearBuffer 8 = .ok (.aload_n 0, 1) := by decide +kernel
theorem dX7_clearBuffer_9 : decode cX7_clearBuffer 9 = .ok (.getfield 42, 3) := by decide +kernel
theorem dX7_clearBuffer_12 : decode cX7_clearBuffer 12 = .ok (.invokevirtual 189, 3) := by decide +kernel
theorem dX7_clearBuffer_15 : decode cX7_clearBuffer 15 = .ok (.iload_n 1, 1) := by decide +kernel
theorem dX7_clearBuffer_16 : decode cX7_clearBuffer 16 = .ok (.ireturn, 1) := by decide +kernel
theorem dX7_firstError_0 : decode cX7_firstError 0 = .ok (.aload_n 0, 1) := by decide +kernel
theorem dX7_firstError_1 : decode cX7_firstError 1 = .ok (.getfield 42, 3) := by decide +kernel
theorem dX7_firstError_4 : decode cX7_firstError 4 = .ok (.invokevirtual 192, 3) := by decide +kernel
theorem dX7_firstError_7 : decode cX7_firstError 7 = .ok (.ireturn, 1) := by decide +kernel
theorem dX7_load_0 : decode cX7_load 0 = .ok (.aload_n 0, 1) := by decide +kernel
theorem dX7_load_1 : decode cX7_load 1 = .ok (.getfield 42, 3) := by decide +kernel
theorem dX7_load_4 : decode cX7_load 4 = .ok (.invokevirtual 195, 3) := by decide +kernel
theorem dX7_load_7 : decode cX7_load 7 = .ok (.ifCond .ne 13, 3) := by decide +kernel
theorem dX7_load_10 : decode cX7_load 10 = .ok (.new 67, 3) := by decide +kernel
theorem dX7_load_13 : decode cX7_load 13 = .ok (.dup, 1) := by decide +kernel
theorem dX7_load_14 : decode cX7_load 14 = .ok (.ldc 198, 2) := by decide +kernel
theorem dX7_load_16 : decode cX7_load 16 = .ok (.invokespecial 71, 3) := by decide +kernel
theorem dX7_load_19 : decode cX7_load 19 = .ok (.athrow, 1) := by decide +kernel
theorem dX7_load_20 : decode cX7_load 20 = .ok (.aload_n 0, 1) := by decide +kernel
theorem dX7_load_21 : decode cX7_load 21 = .ok (.getfield 49, 3) := by decide +kernel
theorem dX7_load_24 : decode cX7_load 24 = .ok (.aload_n 0, 1) := by decide +kernel
theorem dX7_load_25 : decode cX7_load 25 = .ok (.getfield 10, 3) := by decide +kernel
theorem dX7_load_28 : decode cX7_load 28 = .ok (.invokevirtual 74, 3) := by decide +kernel
theorem dX7_load_31 : decode cX7_load 31 = .ok (.aload_n 0, 1) := by decide +kernel
theorem dX7_load_32 : decode cX7_load 32 = .ok (.getfield 10, 3) := by decide +kernel
theorem dX7_load_35 : decode cX7_load 35 = .ok (.aload_n 0, 1) := by decide +kernel
theorem dX7_load_36 : decode cX7_load 36 = .ok (.getfield 42, 3) := by decide +kernel
theorem dX7_load_39 : decode cX7_load 39 = .ok (.invokevirtual 200, 3) := by decide +kernel
theorem dX7_load_42 : decode cX7_load 42 = .ok (.putfield 81, 3) := by decide +kernel
theorem dX7_load_45 : decode cX7_load 45 = .ok (.aload_n 0, 1) := by decide +kernel
theorem dX7_load_46 : decode cX7_load 46 = .ok (.getfield 10, 3) := by decide +kernel
theorem dX7_load_49 : decode cX7_load 49 = .ok (.aload_n 0, 1) := by decide +kernel
theorem dX7_load_50 : decode cX7_load 50 = .ok (.getfield 42, 3) := by decide +kernel
theorem dX7_load_53 : decode cX7_load 53 = .ok (.invokevirtual 203, 3) := by decide +kernel
theorem dX7_load_56 : decode cX7_load 56 = .ok (.putfield 85, 3) := by decide +kernel
theorem dX7_load_59 : decode cX7_load 59 = .ok (.iconst 0, 1) := by decide +kernel
theorem dX7_load_60 : decode cX7_load 60 = .ok (.istore_n 1, 1) := by decide +kernel
theorem dX7_load_61 : decode cX7_load 61 = .ok (.iload_n 1, 1) := by decide +kernel
theorem dX7_load_62 : decode cX7_load 62 = .ok (.aload_n 0, 1) := by decide +kernel
theorem dX7_load_63 : decode cX7_load 63 = .ok (.getfield 10, 3) := by decide +kernel
theorem dX7_load_66 : decode cX7_load 66 = .ok (.getfield 81, 3) := by decide +kernel
theorem dX7_load_69 : decode cX7_load 69 = .ok (.if_icmp .ge 46, 3) := by decide +kernel
theorem dX7_load_72 : decode cX7_load 72 = .ok (.iconst 0, 1) := by decide +kernel
theorem dX7_load_73 : decode cX7_load 73 = .ok (.istore_n 2, 1) := by decide +kernel
theorem dX7_load_74 : decode cX7_load 74 = .ok (.iload_n 2, 1) := by decide +kernel
theorem dX7_load_75 : decode cX7_load 75 = .ok (.aload_n 0, 1) := by decide +kernel
theorem dX7_load_76 : decode cX7_load 76 = .ok (.getfield 10, 3) := by decide +kernel
theorem dX7_load_79 : decode cX7_load 79 = .ok (.getfield 85, 3) := by decide +kernel
theorem dX7_load_82 : decode cX7_load 82 = .ok (.if_icmp .ge 27, 3) := by decide +kernel
theorem dX7_load_85 : decode cX7_load 85 = .ok (.aload_n 0, 1) := by decide +kernel
theorem dX7_load_86 : decode cX7_load 86 = .ok (.getfield 10, 3) := by decide +kernel
theorem dX7_load_89 : decode cX7_load 89 = .ok (.iload_n 1, 1) := by decide +kernel
theorem dX7_load_90 : decode cX7_load 90 = .ok (.iload_n 2, 1) := by decide +kernel
theorem dX7_load_91 : decode cX7_load 91 = .ok (.aload_n 0, 1) := by decide +kernel
theorem dX7_load_92 : decode cX7_load 92 = .ok (.getfield 42, 3) := by decide +kernel
theorem dX7_load_95 : decode cX7_load 95 = .ok (.iload_n 1, 1) := by decide +kernel
theorem dX7_load_96 : decode cX7_load 96 = .ok (.iload_n 2, 1) := by decide +kernel
theorem dX7_load_97 : decode cX7_load 97 = .ok (.invokevirtual 206, 3) := by decide +kernel
theorem dX7_load_100 : decode cX7_load 100 = .ok (.invokevirtual 103, 3) := by decide +kernel
theorem dX7_load_103 : decode cX7_load 103 = .ok (.iinc 2 1, 3) := by decide +kernel
theorem dX7_load_106 : decode cX7_load 106 = .ok (.goto (-32), 3) := by decide +kernel
theorem dX7_load_109 : decode cX7_load 109 = .ok (.iinc 1 1, 3) := by decide +kernel
theorem dX7_load_112 : decode cX7_load 112 = .ok (.goto (-51), 3) := by decide +kernel
theorem dX7_load_115 : decode cX7_load 115 = .ok (.aload_n 0, 1) := by decide +kernel
theorem dX7_load_116 : decode cX7_load 116 = .ok (.getfield 42, 3) := by decide +kernel
theorem dX7_load_119 : decode cX7_load 119 = .ok (.invokevirtual 189, 3) := by decide +kernel
theorem dX7_load_122 : decode cX7_load 122 = .ok (.aload_n 0, 1) := by decide +kernel
theorem dX7_load_123 : decode cX7_load 123 = .ok (.getfield 10, 3) := by decide +kernel
theorem dX7_load_126 : decode cX7_load 126 = .ok (.invokevirtual 77, 3) := by decide +kernel
theorem dX7_load_129 : decode cX7_load 129 = .ok (.ireturn, 1) := by decide +kernel
theorem dX7_keep_0 : decode cX7_keep 0 = .ok (.iload_n 1, 1) := by decide +kernel
theorem dX7_keep_1 : decode cX7_keep 1 = .ok (.iconst 0, 1) := by decide +kernel
theorem dX7_keep_2 : decode cX7_keep 2 = .ok (.iconst 1, 1) := by decide +kernel
theorem dX7_keep_3 : decode cX7_keep 3 = .ok (.invokestatic 63, 3) := by decide +kernel
theorem dX7_keep_6 : decode cX7_keep 6 = .ok (.ifCond .ne 13, 3) := by decide +kernel
theorem dX7_keep_9 : decode cX7_keep 9 = .ok (.new 67, 3) := by decide +kernel
theorem dX7_keep_12 : decode cX7_keep 12 = .ok (.dup, 1) := by decide +kernel
theorem dX7_keep_13 : decode cX7_keep 13 = .ok (.ldc 209, 2) := by decide +kernel
theorem dX7_keep_15 : decode cX7_keep 15 = .ok (.invokespecial 71, 3) := by decide +kernel
theorem dX7_keep_18 : decode cX7_keep 18 = .ok (.athrow, 1) := by decide +kernel
theorem dX7_keep_19 : decode cX7_keep 19 = .ok (.aload_n 0, 1) := by decide +kernel
theorem dX7_keep_20 : decode cX7_keep 20 = .ok (.iload_n 1, 1) := by decide +kernel
theorem dX7_keep_21 : decode cX7_keep 21 = .ok (.invokevirtual 211, 3) := by decide +kernel
theorem dX7_keep_24 : decode cX7_keep 24 = .ok (.aload_n 0, 1) := by decide +kernel
theorem dX7_keep_25 : decode cX7_keep 25 = .ok (.getfield 10, 3) := by decide +kernel
theorem dX7_keep_28 : decode cX7_keep 28 = .ok (.invokevirtual 215, 3) := by decide +kernel
theorem dX7_keep_31 : decode cX7_keep 31 = .ok (.aload_n 0, 1) := by decide +kernel
theorem dX7_keep_32 : decode cX7_keep 32 = .ok (.getfield 10, 3) := by decide +kernel
theorem dX7_keep_35 : decode cX7_keep 35 = .ok (.getfield 81, 3) := by decide +kernel
theorem dX7_keep_38 : decode cX7_keep 38 = .ok (.ireturn, 1) := by decide +kernel
theorem dX7_goBack_0 : decode cX7_goBack 0 = .ok (.iload_n 1, 1) := by decide +kernel
theorem dX7_goBack_1 : decode cX7_goBack 1 = .ok (.iconst 0, 1) := by decide +kernel
theorem dX7_goBack_2 : decode cX7_goBack 2 = .ok (.iconst 1, 1) := by decide +kernel
theorem dX7_goBack_3 : decode cX7_goBack 3 = .ok (.invokestatic 63, 3) := by decide +kernel
theorem dX7_goBack_6 : decode cX7_goBack 6 = .ok (.ifCond .ne 13, 3) := by decide +kernel
theorem dX7_goBack_9 : decode cX7_goBack 9 = .ok (.new 67, 3) := by decide +kernel
theorem dX7_goBack_12 : decode cX7_goBack 12 = .ok (.dup, 1) := by decide +kernel
theorem dX7_goBack_13 : decode cX7_goBack 13 = .ok (.ldc 209, 2) := by decide +kernel
theorem dX7_goBack_15 : decode cX7_goBack 15 = .ok (.invokespecial 71, 3) := by decide +kernel
theorem dX7_goBack_18 : decode cX7_goBack 18 = .ok (.athrow, 1) := by decide +kernel
theorem dX7_goBack_19 : decode cX7_goBack 19 = .ok (.aload_n 0, 1) := by decide +kernel
theorem dX7_goBack_20 : decode cX7_goBack 20 = .ok (.iload_n 1, 1) := by decide +kernel
theorem dX7_goBack_21 : decode cX7_goBack 21 = .ok (.invokevirtual 211, 3) := by decide +kernel
theorem dX7_goBack_24 : decode cX7_goBack 24 = .ok (.astore_n 2, 1) := by decide +kernel
theorem dX7_goBack_25 : decode cX7_goBack 25 = .ok (.aload_n 2, 1) := by decide +kernel
theorem dX7_goBack_26 : decode cX7_goBack 26 = .ok (.getfield 218, 3) := by decide +kernel
theorem dX7_goBack_29 : decode cX7_goBack 29 = .ok (.ifCond .ne 13, 3) := by decide +kernel
theorem dX7_goBack_32 : decode cX7_goBack 32 = .ok (.new 145, 3) := by decide +kernel
theorem dX7_goBack_35 : decode cX7_goBack 35 = .ok (.dup, 1) := by decide +kernel
theorem dX7_goBack_36 : decode cX7_goBack 36 = .ok (.ldc 222, 2) := by decide +kernel
theorem dX7_goBack_38 : decode cX7_goBack 38 = .ok (.invokespecial 149, 3) := by decide +kernel
theorem dX7_goBack_41 : decode cX7_goBack 41 = .ok (.athrow, 1) := by decide +kernel
theorem dX7_goBack_42 : decode cX7_goBack 42 = .ok (.aload_n 0, 1) := by decide +kernel
theorem dX7_goBack_43 : decode cX7_goBack 43 = .ok (.getfield 49, 3) := by decide +kernel
theorem dX7_goBack_46 : decode cX7_goBack 46 = .ok (.aload_n 0, 1) := by decide +kernel
theorem dX7_goBack_47 : decode cX7_goBack 47 = .ok (.getfield 10, 3) := by decide +kernel
theorem dX7_goBack_50 : decode cX7_goBack 50 = .ok (.invokevirtual 74, 3) := by decide +kernel
theorem dX7_goBack_53 : decode cX7_goBack 53 = .ok (.aload_n 0, 1) := by decide +kernel
theorem dX7_goBack_54 : decode cX7_goBack 54 = .ok (.getfield 10, 3) := by decide +kernel
theorem dX7_goBack_57 : decode cX7_goBack 57 = .ok (.aload_n 2, 1) := by decide +kernel
theorem dX7_goBack_58 : decode cX7_goBack 58 = .ok (.getfield 224, 3) := by decide +kernel
theorem dX7_goBack_61 : decode cX7_goBack 61 = .ok (.invokevirtual 227, 3) := by decide +kernel
theorem dX7_goBack_64 : decode cX7_goBack 64 = .ok (.aload_n 0, 1) := by decide +kernel
theorem dX7_goBack_65 : decode cX7_goBack 65 = .ok (.getfield 10, 3) := by decide +kernel
theorem dX7_goBack_68 : decode cX7_goBack 68 = .ok (.getfield 81, 3) := by decide +kernel
theorem dX7_goBack_71 : decode cX7_goBack 71 = .ok (.ireturn, 1) := by decide +kernel
theorem dX7_undo_0 : decode cX7_undo 0 = .ok (.aload_n 0, 1) := by decide +kernel
theorem dX7_undo_1 : decode cX7_undo 1 = .ok (.getfield 49, 3) := by decide +kernel
theorem dX7_undo_4 : decode cX7_undo 4 = .ok (.getfield 230, 3) := by decide +kernel
theorem dX7_undo_7 : decode cX7_undo 7 = .ok (.ifCond .ne 13, 3) := by decide +kernel
theorem dX7_undo_10 : decode cX7_undo 10 = .ok (.new 145, 3) := by decide +kernel
theorem dX7_undo_13 : decode cX7_undo 13 = .ok (.dup, 1) := by decide +kernel
theorem dX7_undo_14 : decode cX7_undo 14 = .ok (.ldc 233, 2) := by decide +kernel
theorem dX7_undo_16 : decode cX7_undo 16 = .ok (.invokespecial 149, 3) := by decide +kernel
theorem dX7_undo_19 : decode cX7_undo 19 = .ok (.athrow, 1) := by decide +kernel
theorem dX7_undo_20 : decode cX7_undo 20 = .ok (.aload_n 0, 1) := by decide +kernel
theorem dX7_undo_21 : decode cX7_undo 21 = .ok (.getfield 10, 3) := by decide +kernel
theorem dX7_undo_24 : decode cX7_undo 24 = .ok (.aload_n 0, 1) := by decide +kernel
theorem dX7_undo_25 : decode cX7_undo 25 = .ok (.getfield 49, 3) := by decide +kernel
theorem dX7_undo_28 : decode cX7_undo 28 = .ok (.invokevirtual 235, 3) := by decide +kernel
theorem dX7_undo_31 : decode cX7_undo 31 = .ok (.invokevirtual 227, 3) := by decide +kernel
theorem dX7_undo_34 : decode cX7_undo 34 = .ok (.aload_n 0, 1) := by decide +kernel
theorem dX7_undo_35 : decode cX7_undo 35 = .ok (.getfield 49, 3) := by decide +kernel
theorem dX7_undo_38 : decode cX7_undo 38 = .ok (.dup, 1) := by decide +kernel
theorem dX7_undo_39 : decode cX7_undo 39 = .ok (.getfield 230, 3) := by decide +kernel
theorem dX7_undo_42 : decode cX7_undo 42 = .ok (.iconst 1, 1) := by decide +kernel
theorem dX7_undo_43 : decode cX7_undo 43 = .ok (.isub, 1) := by decide +kernel
theorem dX7_undo_44 : decode cX7_undo 44 = .ok (.putfield 230, 3) := by decide +kernel
theorem dX7_undo_47 : decode cX7_undo 47 = .ok (.aload_n 0, 1) := by decide +kernel
theorem dX7_undo_48 : decode cX7_undo 48 = .ok (.getfield 49, 3) := by decide +kernel
theorem dX7_undo_51 : decode cX7_undo 51 = .ok (.getfield 230, 3) := by decide +kernel
theorem dX7_undo_54 : decode cX7_undo 54 = .ok (.ireturn, 1) := by decide +kernel
theorem dX7_cell_0 : decode cX7_cell 0 = .ok (.aload_n 0, 1) := by decide +kernel
theorem dX7_cell_1 : decode cX7_cell 1 = .ok (.getfield 10, 3) := by decide +kernel
theorem dX7_cell_4 : decode cX7_cell 4 = .ok (.iload_n 1, 1) := by decide +kernel
theorem dX7_cell_5 : decode cX7_cell 5 = .ok (.iload_n 2, 1) := by decide +kernel
theorem dX7_cell_6 : decode cX7_cell 6 = .ok (.invokevirtual 88, 3) := by decide +kernel
theorem dX7_cell_9 : decode cX7_cell 9 = .ok (.ifCond .ne 13, 3) := by decide +kernel
theorem dX7_cell_12 : decode cX7_cell 12 = .ok (.new 92, 3) := by decide +kernel
theorem dX7_cell_15 : decode cX7_cell 15 = .ok (.dup, 1) := by decide +kernel
theorem dX7_cell_16 : decode cX7_cell 16 = .ok (.ldc 94, 2) := by decide +kernel
theorem dX7_cell_18 : decode cX7_cell 18 = .ok (.invokespecial 96, 3) := by decide +kernel
theorem dX7_cell_21 : decode cX7_cell 21 = .ok (.athrow, 1) := by decide +kernel
theorem dX7_cell_22 : decode cX7_cell 22 = .ok (.aload_n 0, 1) := by decide +kernel
theorem dX7_cell_23 : decode cX7_cell 23 = .ok (.getfield 10, 3) := by decide +kernel
theorem dX7_cell_26 : decode cX7_cell 26 = .ok (.iload_n 1, 1) := by decide +kernel
theorem dX7_cell_27 : decode cX7_cell 27 = .ok (.iload_n 2, 1) := by decide +kernel
theorem dX7_cell_28 : decode cX7_cell 28 = .ok (.invokevirtual 99, 3) := by decide +kernel
theorem dX7_cell_31 : decode cX7_cell 31 = .ok (.ireturn, 1) := by decide +kernel
theorem dX7_place_0 : decode cX7_place 0 = .ok (.iload_n 1, 1) := by decide +kernel
theorem dX7_place_1 : decode cX7_place 1 = .ok (.iconst 0, 1) := by decide +kernel
theorem dX7_place_2 : decode cX7_place 2 = .ok (.aload_n 0, 1) := by decide +kernel
theorem dX7_place_3 : decode cX7_place 3 = .ok (.getfield 10, 3) := by decide +kernel
theorem dX7_place_6 : decode cX7_place 6 = .ok (.getfield 81, 3) := by decide +kernel
theorem dX7_place_9 : decode cX7_place 9 = .ok (.iconst 1, 1) := by decide +kernel
theorem dX7_place_10 : decode cX7_place 10 = .ok (.isub, 1) := by decide +kernel
theorem dX7_place_11 : decode cX7_place 11 = .ok (.invokestatic 63, 3) := by decide +kernel
theorem dX7_place_14 : decode cX7_place 14 = .ok (.ifCond .ne 13, 3) := by decide +kernel
theorem dX7_place_17 : decode cX7_place 17 = .ok (.new 92, 3) := by decide +kernel
theorem dX7_place_20 : decode cX7_place 20 = .ok (.dup, 1) := by decide +kernel
theorem dX7_place_21 : decode cX7_place 21 = .ok (.ldc 239, 2) := by decide +kernel
theorem dX7_place_23 : decode cX7_place 23 = .ok (.invokespecial 96, 3) := by decide +kernel
theorem dX7_place_26 : decode cX7_place 26 = .ok (.athrow, 1) := by decide +kernel
theorem dX7_place_27 : decode cX7_place 27 = .ok (.iload_n 2, 1) := by decide +kernel
theorem dX7_place_28 : decode cX7_place 28 = .ok (.invokestatic 136, 3) := by decide +kernel
theorem dX7_place_31 : decode cX7_place 31 = .ok (.ifCond .ne 13, 3) := by decide +kernel
theorem dX7_place_34 : decode cX7_place 34 = .ok (.new 67, 3) := by decide +kernel
theorem dX7_place_37 : decode cX7_place 37 = .ok (.dup, 1) := by decide +kernel
theorem dX7_place_38 : decode cX7_place 38 = .ok (.ldc 140, 2) := by decide +kernel
theorem dX7_place_40 : decode cX7_place 40 = .ok (.invokespecial 71, 3) := by decide +kernel
theorem dX7_place_43 : decode cX7_place 43 = .ok (.athrow, 1) := by decide +kernel
theorem dX7_place_44 : decode cX7_place 44 = .ok (.aload_n 0, 1) := by decide +kernel
theorem dX7_place_45 : decode cX7_place 45 = .ok (.iload_n 2, 1) := by decide +kernel
theorem dX7_place_46 : decode cX7_place 46 = .ok (.invokevirtual 142, 3) := by decide +kernel
theorem dX7_place_49 : decode cX7_place 49 = .ok (.ifCond .ne 5, 3) := by decide +kernel
theorem dX7_place_52 : decode cX7_place 52 = .ok (.iconst (-1), 1) := by decide +kernel
theorem dX7_place_53 : decode cX7_place 53 = .ok (.ireturn, 1) := by decide +kernel
theorem dX7_place_54 : decode cX7_place 54 = .ok (.aload_n 0, 1) := by decide +kernel
theorem dX7_place_55 : decode cX7_place 55 = .ok (.getfield 28, 3) := by decide +kernel
theorem dX7_place_58 : decode cX7_place 58 = .ok (.iload_n 2, 1) := by decide +kernel
theorem dX7_place_59 : decode cX7_place 59 = .ok (.invokevirtual 150, 3) := by decide +kernel
theorem dX7_place_62 : decode cX7_place 62 = .ok (.aload_n 0, 1) := by decide +kernel
theorem dX7_place_63 : decode cX7_place 63 = .ok (.getfield 28, 3) := by decide +kernel
theorem dX7_place_66 : decode cX7_place 66 = .ok (.iload_n 2, 1) := by decide +kernel
theorem dX7_place_67 : decode cX7_place 67 = .ok (.iload_n 1, 1) := by decide +kernel
theorem dX7_place_68 : decode cX7_place 68 = .ok (.invokevirtual 241, 3) := by decide +kernel
theorem dX7_place_71 : decode cX7_place 71 = .ok (.ireturn, 1) := by decide +kernel
theorem dX7_looks_0 : decode cX7_looks 0 = .ok (.iload_n 1, 1) := by decide +kernel
theorem dX7_looks_1 : decode cX7_looks 1 = .ok (.invokestatic 136, 3) := by decide +kernel
theorem dX7_looks_4 : decode cX7_looks 4 = .ok (.ifCond .ne 13, 3) := by decide +kernel
theorem dX7_looks_7 : decode cX7_looks 7 = .ok (.new 67, 3) := by decide +kernel
theorem dX7_looks_10 : decode cX7_looks 10 = .ok (.dup, 1) := by decide +kernel
theorem dX7_looks_11 : decode cX7_looks 11 = .ok (.ldc 140, 2) := by decide +kernel
theorem dX7_looks_13 : decode cX7_looks 13 = .ok (.invokespecial 71, 3) := by decide +kernel
theorem dX7_looks_16 : decode cX7_looks 16 = .ok (.athrow, 1) := by decide +kernel
theorem dX7_looks_17 : decode cX7_looks 17 = .ok (.aload_n 0, 1) := by decide +kernel
theorem dX7_looks_18 : decode cX7_looks 18 = .ok (.iload_n 1, 1) := by decide +kernel
theorem dX7_looks_19 : decode cX7_looks 19 = .ok (.invokevirtual 142, 3) := by decide +kernel
theorem dX7_looks_22 : decode cX7_looks 22 = .ok (.ifCond .ne 5, 3) := by decide +kernel
theorem dX7_looks_25 : decode cX7_looks 25 = .ok (.iconst (-1), 1) := by decide +kernel
theorem dX7_looks_26 : decode cX7_looks 26 = .ok (.ireturn, 1) := by decide +kernel
theorem dX7_looks_27 : decode cX7_looks 27 = .ok (.aload_n 0, 1) := by decide +kernel
theorem dX7_looks_28 : decode cX7_looks 28 = .ok (.getfield 28, 3) := by decide +kernel
theorem dX7_looks_31 : decode cX7_looks 31 = .ok (.iload_n 1, 1) := by decide +kernel
theorem dX7_looks_32 : decode cX7_looks 32 = .ok (.invokevirtual 150, 3) := by decide +kernel
theorem dX7_looks_35 : decode cX7_looks 35 = .ok (.aload_n 0, 1) := by decide +kernel
theorem dX7_looks_36 : decode cX7_looks 36 = .ok (.getfield 28, 3) := by decide +kernel
theorem dX7_looks_39 : decode cX7_looks 39 = .ok (.iload_n 1, 1) := by decide +kernel
theorem dX7_looks_40 : decode cX7_looks 40 = .ok (.invokevirtual 154, 3) := by decide +kernel
theorem dX7_looks_43 : decode cX7_looks 43 = .ok (.ireturn, 1) := by decide +kernel
theorem dX7_bound_0 : decode cX7_bound 0 = .ok (.iconst 0, 1) := by decide +kernel
theorem dX7_bound_1 : decode cX7_bound 1 = .ok (.istore_n 1, 1) := by decide +kernel
theorem dX7_bound_2 : decode cX7_bound 2 = .ok (.aload_n 0, 1) := by decide +kernel
theorem dX7_bound_3 : decode cX7_bound 3 = .ok (.getfield 10, 3) := by decide +kernel
theorem dX7_bound_6 : decode cX7_bound 6 = .ok (.getfield 81, 3) := by decide +kernel
theorem dX7_bound_9 : decode cX7_bound 9 = .ok (.istore_n 2, 1) := by decide +kernel
theorem dX7_bound_10 : decode cX7_bound 10 = .ok (.iload_n 2, 1) := by decide +kernel
theorem dX7_bound_11 : decode cX7_bound 11 = .ok (.ifCond .le 13, 3) := by decide +kernel
theorem dX7_bound_14 : decode cX7_bound 14 = .ok (.iinc 1 1, 3) := by decide +kernel
theorem dX7_bound_17 : decode cX7_bound 17 = .ok (.iload_n 2, 1) := by decide +kernel
theorem dX7_bound_18 : decode cX7_bound 18 = .ok (.iconst 2, 1) := by decide +kernel
theorem dX7_bound_19 : decode cX7_bound 19 = .ok (.idiv, 1) := by decide +kernel
theorem dX7_bound_20 : decode cX7_bound 20 = .ok (.istore_n 2, 1) := by decide +kernel
theorem dX7_bound_21 : decode cX7_bound 21 = .ok (.goto (-11), 3) := by decide +kernel
theorem dX7_bound_24 : decode cX7_bound 24 = .ok (.aload_n 0, 1) := by decide +kernel
theorem dX7_bound_25 : decode cX7_bound 25 = .ok (.getfield 10, 3) := by decide +kernel
theorem dX7_bound_28 : decode cX7_bound 28 = .ok (.getfield 81, 3) := by decide +kernel
theorem dX7_bound_31 : decode cX7_bound 31 = .ok (.aload_n 0, 1) := by decide +kernel
theorem dX7_bound_32 : decode cX7_bound 32 = .ok (.getfield 10, 3) := by decide +kernel
theorem dX7_bound_35 : decode cX7_bound 35 = .ok (.getfield 85, 3) := by decide +kernel
theorem dX7_bound_38 : decode cX7_bound 38 = .ok (.iadd, 1) := by decide +kernel
theorem dX7_bound_39 : decode cX7_bound 39 = .ok (.iload_n 1, 1) := by decide +kernel
theorem dX7_bound_40 : decode cX7_bound 40 = .ok (.imul, 1) := by decide +kernel
theorem dX7_bound_41 : decode cX7_bound 41 = .ok (.ireturn, 1) := by decide +kernel
theorem dX7_witness_0 : decode cX7_witness 0 = .ok (.iload_n 1, 1) := by decide +kernel
theorem dX7_witness_1 : decode cX7_witness 1 = .ok (.iconst 0, 1) := by decide +kernel
theorem dX7_witness_2 : decode cX7_witness 2 = .ok (.iconst 3, 1) := by decide +kernel
theorem dX7_witness_3 : decode cX7_witness 3 = .ok (.invokestatic 63, 3) := by decide +kernel
theorem dX7_witness_6 : decode cX7_witness 6 = .ok (.ifCond .ne 13, 3) := by decide +kernel
theorem dX7_witness_9 : decode cX7_witness 9 = .ok (.new 67, 3) := by decide +kernel
theorem dX7_witness_12 : decode cX7_witness 12 = .ok (.dup, 1) := by decide +kernel
theorem dX7_witness_13 : decode cX7_witness 13 = .ok (.ldc 244, 2) := by decide +kernel
theorem dX7_witness_15 : decode cX7_witness 15 = .ok (.invokespecial 71, 3) := by decide +kernel
theorem dX7_witness_18 : decode cX7_witness 18 = .ok (.athrow, 1) := by decide +kernel
theorem dX7_witness_19 : decode cX7_witness 19 = .ok (.aload_n 0, 1) := by decide +kernel
theorem dX7_witness_20 : decode cX7_witness 20 = .ok (.getfield 21, 3) := by decide +kernel
theorem dX7_witness_23 : decode cX7_witness 23 = .ok (.invokevirtual 118, 3) := by decide +kernel
theorem dX7_witness_26 : decode cX7_witness 26 = .ok (.aload_n 0, 1) := by decide +kernel
theorem dX7_witness_27 : decode cX7_witness 27 = .ok (.getfield 21, 3) := by decide +kernel
theorem dX7_witness_30 : decode cX7_witness 30 = .ok (.iload_n 1, 1) := by decide +kernel
theorem dX7_witness_31 : decode cX7_witness 31 = .ok (.invokevirtual 246, 3) := by decide +kernel
theorem dX7_witness_34 : decode cX7_witness 34 = .ok (.ireturn, 1) := by decide +kernel
theorem dX7_count_0 : decode cX7_count 0 = .ok (.iload_n 1, 1) := by decide +kernel
theorem dX7_count_1 : decode cX7_count 1 = .ok (.iconst 0, 1) := by decide +kernel
theorem dX7_count_2 : decode cX7_count 2 = .ok (.bipush 8, 2) := by decide +kernel
theorem dX7_count_4 : decode cX7_count 4 = .ok (.invokestatic 63, 3) := by decide +kernel
theorem dX7_count_7 : decode cX7_count 7 = .ok (.ifCond .ne 13, 3) := by decide +kernel
theorem dX7_count_10 : decode cX7_count 10 = .ok (.new 67, 3) := by decide +kernel
theorem dX7_count_13 : decode cX7_count 13 = .ok (.dup, 1) := by decide +kernel
theorem dX7_count_14 : decode cX7_count 14 = .ok (.ldc 249, 2) := by decide +kernel
theorem dX7_count_16 : decode cX7_count 16 = .ok (.invokespecial 71, 3) := by decide +kernel
theorem dX7_count_19 : decode cX7_count 19 = .ok (.athrow, 1) := by decide +kernel
theorem dX7_count_20 : decode cX7_count 20 = .ok (.aload_n 0, 1) := by decide +kernel
theorem dX7_count_21 : decode cX7_count 21 = .ok (.iload_n 1, 1) := by decide +kernel
theorem dX7_count_22 : decode cX7_count 22 = .ok (.invokevirtual 251, 3) := by decide +kernel
theorem dX7_count_25 : decode cX7_count 25 = .ok (.ireturn, 1) := by decide +kernel
theorem dX7_weight_0 : decode cX7_weight 0 = .ok (.iload_n 1, 1) := by decide +kernel
theorem dX7_weight_1 : decode cX7_weight 1 = .ok (.iconst 0, 1) := by decide +kernel
theorem dX7_weight_2 : decode cX7_weight 2 = .ok (.aload_n 0, 1) := by decide +kernel
theorem dX7_weight_3 : decode cX7_weight 3 = .ok (.getfield 10, 3) := by decide +kernel
theorem dX7_weight_6 : decode cX7_weight 6 = .ok (.getfield 166, 3) := by decide +kernel
theorem dX7_weight_9 : decode cX7_weight 9 = .ok (.iconst 1, 1) := by decide +kernel
theorem dX7_weight_10 : decode cX7_weight 10 = .ok (.isub, 1) := by decide +kernel
theorem dX7_weight_11 : decode cX7_weight 11 = .ok (.invokestatic 63, 3) := by decide +kernel
theorem dX7_weight_14 : decode cX7_weight 14 = .ok (.ifCond .ne 13, 3) := by decide +kernel
theorem dX7_weight_17 : decode cX7_weight 17 = .ok (.new 92, 3) := by decide +kernel
theorem dX7_weight_20 : decode cX7_weight 20 = .ok (.dup, 1) := by decide +kernel
theorem dX7_weight_21 : decode cX7_weight 21 = .ok (.ldc 254, 2) := by decide +kernel
theorem dX7_weight_23 : decode cX7_weight 23 = .ok (.invokespecial 96, 3) := by decide +kernel
theorem dX7_weight_26 : decode cX7_weight 26 = .ok (.athrow, 1) := by decide +kernel
theorem dX7_weight_27 : decode cX7_weight 27 = .ok (.aload_n 0, 1) := by decide +kernel
theorem dX7_weight_28 : decode cX7_weight 28 = .ok (.getfield 10, 3) := by decide +kernel
theorem dX7_weight_31 : decode cX7_weight 31 = .ok (.iload_n 1, 1) := by decide +kernel
theorem dX7_weight_32 : decode cX7_weight 32 = .ok (.invokevirtual 176, 3) := by decide +kernel
theorem dX7_weight_35 : decode cX7_weight 35 = .ok (.ireturn, 1) := by decide +kernel
theorem dX7_cost_0 : decode cX7_cost 0 = .ok (.iload_n 1, 1) := by decide +kernel
theorem dX7_cost_1 : decode cX7_cost 1 = .ok (.iconst 1, 1) := by decide +kernel
theorem dX7_cost_2 : decode cX7_cost 2 = .ok (.aload_n 0, 1) := by decide +kernel
theorem dX7_cost_3 : decode cX7_cost 3 = .ok (.getfield 10, 3) := by decide +kernel
theorem dX7_cost_6 : decode cX7_cost 6 = .ok (.getfield 166, 3) := by decide +kernel
theorem dX7_cost_9 : decode cX7_cost 9 = .ok (.invokestatic 63, 3) := by decide +kernel
theorem dX7_cost_12 : decode cX7_cost 12 = .ok (.ifCond .eq 12, 3) := by decide +kernel
theorem dX7_cost_15 : decode cX7_cost 15 = .ok (.iload_n 2, 1) := by decide +kernel
theorem dX7_cost_16 : decode cX7_cost 16 = .ok (.iconst 0, 1) := by decide +kernel
theorem dX7_cost_17 : decode cX7_cost 17 = .ok (.iconst 1, 1) := by decide +kernel
theorem dX7_cost_18 : decode cX7_cost 18 = .ok (.invokestatic 63, 3) := by decide +kernel
theorem dX7_cost_21 : decode cX7_cost 21 = .ok (.ifCond .ne 14, 3) := by decide +kernel
theorem dX7_cost_24 : decode cX7_cost 24 = .ok (.new 67, 3) := by decide +kernel
theorem dX7_cost_27 : decode cX7_cost 27 = .ok (.dup, 1) := by decide +kernel
theorem dX7_cost_28 : decode cX7_cost 28 = .ok (.ldc_w 256, 3) := by decide +kernel
theorem dX7_cost_31 : decode cX7_cost 31 = .ok (.invokespecial 71, 3) := by decide +kernel
theorem dX7_cost_34 : decode cX7_cost 34 = .ok (.athrow, 1) := by decide +kernel
theorem dX7_cost_35 : decode cX7_cost 35 = .ok (.iload_n 2, 1) := by decide +kernel
theorem dX7_cost_36 : decode cX7_cost 36 = .ok (.ifCond .ne 19, 3) := by decide +kernel
theorem dX7_cost_39 : decode cX7_cost 39 = .ok (.aload_n 0, 1) := by decide +kernel
theorem dX7_cost_40 : decode cX7_cost 40 = .ok (.getfield 35, 3) := by decide +kernel
theorem dX7_cost_43 : decode cX7_cost 43 = .ok (.invokevirtual 258, 3) := by decide +kernel
theorem dX7_cost_46 : decode cX7_cost 46 = .ok (.aload_n 0, 1) := by decide +kernel
theorem dX7_cost_47 : decode cX7_cost 47 = .ok (.getfield 35, 3) := by decide +kernel
theorem dX7_cost_50 : decode cX7_cost 50 = .ok (.iload_n 1, 1) := by decide +kernel
theorem dX7_cost_51 : decode cX7_cost 51 = .ok (.invokevirtual 261, 3) := by decide +kernel
theorem dX7_cost_54 : decode cX7_cost 54 = .ok (.ireturn, 1) := by decide +kernel
theorem dX7_cost_55 : decode cX7_cost 55 = .ok (.aload_n 0, 1) := by decide +kernel
theorem dX7_cost_56 : decode cX7_cost 56 = .ok (.getfield 35, 3) := by decide +kernel
theorem dX7_cost_59 : decode cX7_cost 59 = .ok (.invokevirtual 264, 3) := by decide +kernel
theorem dX7_cost_62 : decode cX7_cost 62 = .ok (.aload_n 0, 1) := by decide +kernel
theorem dX7_cost_63 : decode cX7_cost 63 = .ok (.getfield 35, 3) := by decide +kernel
theorem dX7_cost_66 : decode cX7_cost 66 = .ok (.iload_n 1, 1) := by decide +kernel
theorem dX7_cost_67 : decode cX7_cost 67 = .ok (.invokevirtual 267, 3) := by decide +kernel
theorem dX7_cost_70 : decode cX7_cost 70 = .ok (.ireturn, 1) := by decide +kernel
theorem dX7_cut_0 : decode cX7_cut 0 = .ok (.iload_n 1, 1) := by decide +kernel
theorem dX7_cut_1 : decode cX7_cut 1 = .ok (.iconst 1, 1) := by decide +kernel
theorem dX7_cut_2 : decode cX7_cut 2 = .ok (.aload_n 0, 1) := by decide +kernel
theorem dX7_cut_3 : decode cX7_cut 3 = .ok (.getfield 10, 3) := by decide +kernel
theorem dX7_cut_6 : decode cX7_cut 6 = .ok (.getfield 166, 3) := by decide +kernel
theorem dX7_cut_9 : decode cX7_cut 9 = .ok (.invokestatic 63, 3) := by decide +kernel
theorem dX7_cut_12 : decode cX7_cut 12 = .ok (.ifCond .eq 7, 3) := by decide +kernel
theorem dX7_cut_15 : decode cX7_cut 15 = .ok (.iload_n 2, 1) := by decide +kernel
theorem dX7_cut_16 : decode cX7_cut 16 = .ok (.ifCond .ge 14, 3) := by decide +kernel
theorem dX7_cut_19 : decode cX7_cut 19 = .ok (.new 67, 3) := by decide +kernel
theorem dX7_cut_22 : decode cX7_cut 22 = .ok (.dup, 1) := by decide +kernel
theorem dX7_cut_23 : decode cX7_cut 23 = .ok (.ldc_w 270, 3) := by decide +kernel
theorem dX7_cut_26 : decode cX7_cut 26 = .ok (.invokespecial 71, 3) := by decide +kernel
theorem dX7_cut_29 : decode cX7_cut 29 = .ok (.athrow, 1) := by decide +kernel
theorem dX7_cut_30 : decode cX7_cut 30 = .ok (.iload_n 2, 1) := by decide +kernel
theorem dX7_cut_31 : decode cX7_cut 31 = .ok (.iload_n 1, 1) := by decide +kernel
theorem dX7_cut_32 : decode cX7_cut 32 = .ok (.iconst 1, 1) := by decide +kernel
theorem dX7_cut_33 : decode cX7_cut 33 = .ok (.isub, 1) := by decide +kernel
theorem dX7_cut_34 : decode cX7_cut 34 = .ok (.if_icmp .lt 5, 3) := by decide +kernel
theorem dX7_cut_37 : decode cX7_cut 37 = .ok (.iconst (-1), 1) := by decide +kernel
theorem dX7_cut_38 : decode cX7_cut 38 = .ok (.ireturn, 1) := by decide +kernel
theorem dX7_cut_39 : decode cX7_cut 39 = .ok (.aload_n 0, 1) := by decide +kernel
theorem dX7_cut_40 : decode cX7_cut 40 = .ok (.getfield 35, 3) := by decide +kernel
theorem dX7_cut_43 : decode cX7_cut 43 = .ok (.invokevirtual 258, 3) := by decide +kernel
theorem dX7_cut_46 : decode cX7_cut 46 = .ok (.aload_n 0, 1) := by decide +kernel
theorem dX7_cut_47 : decode cX7_cut 47 = .ok (.getfield 35, 3) := by decide +kernel
theorem dX7_cut_50 : decode cX7_cut 50 = .ok (.iload_n 1, 1) := by decide +kernel
theorem dX7_cut_51 : decode cX7_cut 51 = .ok (.iload_n 2, 1) := by decide +kernel
theorem dX7_cut_52 : decode cX7_cut 52 = .ok (.invokevirtual 272, 3) := by decide +kernel
theorem dX7_cut_55 : decode cX7_cut 55 = .ok (.ireturn, 1) := by decide +kernel
theorem dX7_fewestParts_0 : decode cX7_fewestParts 0 = .ok (.iload_n 1, 1) := by decide +kernel
theorem dX7_fewestParts_1 : decode cX7_fewestParts 1 = .ok (.iconst 1, 1) := by decide +kernel
theorem dX7_fewestParts_2 : decode cX7_fewestParts 2 = .ok (.ldc_w 275, 3) := by decide +kernel
theorem dX7_fewestParts_5 : decode cX7_fewestParts 5 = .ok (.invokestatic 63, 3) := by decide +kernel
theorem dX7_fewestParts_8 : decode cX7_fewestParts 8 = .ok (.ifCond .ne 14, 3) := by decide +kernel
theorem dX7_fewestParts_11 : decode cX7_fewestParts 11 = .ok (.new 67, 3) := by decide +kernel
theorem dX7_fewestParts_14 : decode cX7_fewestParts 14 = .ok (.dup, 1) := by decide +kernel
theorem dX7_fewestParts_15 : decode cX7_fewestParts 15 = .ok (.ldc_w 276, 3) := by decide +kernel
theorem dX7_fewestParts_18 : decode cX7_fewestParts 18 = .ok (.invokespecial 71, 3) := by decide +kernel
theorem dX7_fewestParts_21 : decode cX7_fewestParts 21 = .ok (.athrow, 1) := by decide +kernel
theorem dX7_fewestParts_22 : decode cX7_fewestParts 22 = .ok (.aload_n 0, 1) := by decide +kernel
theorem dX7_fewestParts_23 : decode cX7_fewestParts 23 = .ok (.getfield 35, 3) := by decide +kernel
theorem dX7_fewestParts_26 : decode cX7_fewestParts 26 = .ok (.invokevirtual 258, 3) := by decide +kernel
theorem dX7_fewestParts_29 : decode cX7_fewestParts 29 = .ok (.aload_n 0, 1) := by decide +kernel
theorem dX7_fewestParts_30 : decode cX7_fewestParts 30 = .ok (.getfield 35, 3) := by decide +kernel
theorem dX7_fewestParts_33 : decode cX7_fewestParts 33 = .ok (.iload_n 1, 1) := by decide +kernel
theorem dX7_fewestParts_34 : decode cX7_fewestParts 34 = .ok (.invokevirtual 278, 3) := by decide +kernel
theorem dX7_fewestParts_37 : decode cX7_fewestParts 37 = .ok (.ireturn, 1) := by decide +kernel
theorem dX7_halfShare_0 : decode cX7_halfShare 0 = .ok (.aload_n 0, 1) := by decide +kernel
theorem dX7_halfShare_1 : decode cX7_halfShare 1 = .ok (.getfield 21, 3) := by decide +kernel
theorem dX7_halfShare_4 : decode cX7_halfShare 4 = .ok (.invokevirtual 114, 3) := by decide +kernel
theorem dX7_halfShare_7 : decode cX7_halfShare 7 = .ok (.ifCond .ne 5, 3) := by decide +kernel
theorem dX7_halfShare_10 : decode cX7_halfShare 10 = .ok (.dconst 0, 1) := by decide +kernel
theorem dX7_halfShare_11 : decode cX7_halfShare 11 = .ok (.dreturn, 1) := by decide +kernel
theorem dX7_halfShare_12 : decode cX7_halfShare 12 = .ok (.aload_n 0, 1) := by decide +kernel
theorem dX7_halfShare_13 : decode cX7_halfShare 13 = .ok (.getfield 28, 3) := by decide +kernel
theorem dX7_halfShare_16 : decode cX7_halfShare 16 = .ok (.iconst 0, 1) := by decide +kernel
theorem dX7_halfShare_17 : decode cX7_halfShare 17 = .ok (.invokevirtual 150, 3) := by decide +kernel
theorem dX7_halfShare_20 : decode cX7_halfShare 20 = .ok (.aload_n 0, 1) := by decide +kernel
theorem dX7_halfShare_21 : decode cX7_halfShare 21 = .ok (.getfield 28, 3) := by decide +kernel
theorem dX7_halfShare_24 : decode cX7_halfShare 24 = .ok (.iconst 1, 1) := by decide +kernel
theorem dX7_halfShare_25 : decode cX7_halfShare 25 = .ok (.invokevirtual 150, 3) := by decide +kernel
theorem dX7_halfShare_28 : decode cX7_halfShare 28 = .ok (.aload_n 0, 1) := by decide +kernel
theorem dX7_halfShare_29 : decode cX7_halfShare 29 = .ok (.getfield 28, 3) := by decide +kernel
theorem dX7_halfShare_32 : decode cX7_halfShare 32 = .ok (.invokevirtual 281, 3) := by decide +kernel
theorem dX7_halfShare_35 : decode cX7_halfShare 35 = .ok (.dreturn, 1) := by decide +kernel
theorem dX7_isFromTo_0 : decode cX7_isFromTo 0 = .ok (.iload_n 0, 1) := by decide +kernel
theorem dX7_isFromTo_1 : decode cX7_isFromTo 1 = .ok (.iload_n 1, 1) := by decide +kernel
theorem dX7_isFromTo_2 : decode cX7_isFromTo 2 = .ok (.if_icmp .lt 12, 3) := by decide +kernel
theorem dX7_isFromTo_5 : decode cX7_isFromTo 5 = .ok (.iload_n 0, 1) := by decide +kernel
theorem dX7_isFromTo_6 : decode cX7_isFromTo 6 = .ok (.iload_n 2, 1) := by decide +kernel
theorem dX7_isFromTo_7 : decode cX7_isFromTo 7 = .ok (.if_icmp .gt 7, 3) := by decide +kernel
theorem dX7_isFromTo_10 : decode cX7_isFromTo 10 = .ok (.iconst 1, 1) := by decide +kernel
theorem dX7_isFromTo_11 : decode cX7_isFromTo 11 = .ok (.goto 4, 3) := by decide +kernel
theorem dX7_isFromTo_14 : decode cX7_isFromTo 14 = .ok (.iconst 0, 1) := by decide +kernel
theorem dX7_isFromTo_15 : decode cX7_isFromTo 15 = .ok (.ireturn, 1) := by decide +kernel
theorem dX7_isWay_0 : decode cX7_isWay 0 = .ok (.iload_n 0, 1) := by decide +kernel
theorem dX7_isWay_1 : decode cX7_isWay 1 = .ok (.iconst 0, 1) := by decide +kernel
theorem dX7_isWay_2 : decode cX7_isWay 2 = .ok (.iconst 2, 1) := by decide +kernel
theorem dX7_isWay_3 : decode cX7_isWay 3 = .ok (.invokestatic 63, 3) := by decide +kernel
theorem dX7_isWay_6 : decode cX7_isWay 6 = .ok (.ireturn, 1) := by decide +kernel
theorem dX7_isOpen_0 : decode cX7_isOpen 0 = .ok (.iload_n 1, 1) := by decide +kernel
theorem dX7_isOpen_1 : decode cX7_isOpen 1 = .ok (.ifCond .eq 13, 3) := by decide +kernel
theorem dX7_isOpen_4 : decode cX7_isOpen 4 = .ok (.aload_n 0, 1) := by decide +kernel
theorem dX7_isOpen_5 : decode cX7_isOpen 5 = .ok (.getfield 21, 3) := by decide +kernel
theorem dX7_isOpen_8 : decode cX7_isOpen 8 = .ok (.invokevirtual 114, 3) := by decide +kernel
theorem dX7_isOpen_11 : decode cX7_isOpen 11 = .ok (.ifCond .eq 7, 3) := by decide +kernel
theorem dX7_isOpen_14 : decode cX7_isOpen 14 = .ok (.iconst 1, 1) := by decide +kernel
theorem dX7_isOpen_15 : decode cX7_isOpen 15 = .ok (.goto 4, 3) := by decide +kernel
theorem dX7_isOpen_18 : decode cX7_isOpen 18 = .ok (.iconst 0, 1) := by decide +kernel
theorem dX7_isOpen_19 : decode cX7_isOpen 19 = .ok (.ireturn, 1) := by decide +kernel
theorem dX7_slotAt_0 : decode cX7_slotAt 0 = .ok (.iload_n 1, 1) := by decide +kernel
theorem dX7_slotAt_1 : decode cX7_slotAt 1 = .ok (.ifCond .ne 10, 3) := by decide +kernel
theorem dX7_slotAt_4 : decode cX7_slotAt 4 = .ok (.aload_n 0, 1) := by decide +kernel
theorem dX7_slotAt_5 : decode cX7_slotAt 5 = .ok (.getfield 56, 3) := by decide +kernel
theorem dX7_slotAt_8 : decode cX7_slotAt 8 = .ok (.goto 7, 3) := by decide +kernel
theorem dX7_slotAt_11 : decode cX7_slotAt 11 = .ok (.aload_n 0, 1) := by decide +kernel
theorem dX7_slotAt_12 : decode cX7_slotAt 12 = .ok (.getfield 60, 3) := by decide +kernel
theorem dX7_slotAt_15 : decode cX7_slotAt 15 = .ok (.areturn, 1) := by decide +kernel
theorem dX7_counted_0 : decode cX7_counted 0 = .ok (.iload_n 1, 1) := by decide +kernel
theorem dX7_counted_1 : decode cX7_counted 1 = .ok (.tableswitch 119 0 7 #[47, 55, 63, 71, 79, 87, 95, 103], 47) := by decide +kernel
theorem dX7_counted_48 : decode cX7_counted 48 = .ok (.aload_n 0, 1) := by decide +kernel
theorem dX7_counted_49 : decode cX7_counted 49 = .ok (.getfield 10, 3) := by decide +kernel
theorem dX7_counted_52 : decode cX7_counted 52 = .ok (.getfield 81, 3) := by decide +kernel
theorem dX7_counted_55 : decode cX7_counted 55 = .ok (.ireturn, 1) := by decide +kernel
theorem dX7_counted_56 : decode cX7_counted 56 = .ok (.aload_n 0, 1) := by decide +kernel
theorem dX7_counted_57 : decode cX7_counted 57 = .ok (.getfield 10, 3) := by decide +kernel
theorem dX7_counted_60 : decode cX7_counted 60 = .ok (.getfield 85, 3) := by decide +kernel
theorem dX7_counted_63 : decode cX7_counted 63 = .ok (.ireturn, 1) := by decide +kernel
theorem dX7_counted_64 : decode cX7_counted 64 = .ok (.aload_n 0, 1) := by decide +kernel
theorem dX7_counted_65 : decode cX7_counted 65 = .ok (.getfield 10, 3) := by decide +kernel
theorem dX7_counted_68 : decode cX7_counted 68 = .ok (.getfield 166, 3) := by decide +kernel
theorem dX7_counted_71 : decode cX7_counted 71 = .ok (.ireturn, 1) := by decide +kernel
theorem dX7_counted_72 : decode cX7_counted 72 = .ok (.aload_n 0, 1) := by decide +kernel
theorem dX7_counted_73 : decode cX7_counted 73 = .ok (.getfield 10, 3) := by decide +kernel
theorem dX7_counted_76 : decode cX7_counted 76 = .ok (.invokevirtual 314, 3) := by decide +kernel
theorem dX7_counted_79 : decode cX7_counted 79 = .ok (.ireturn, 1) := by decide +kernel
theorem dX7_counted_80 : decode cX7_counted 80 = .ok (.aload_n 0, 1) := by decide +kernel
theorem dX7_counted_81 : decode cX7_counted 81 = .ok (.getfield 10, 3) := by decide +kernel
theorem dX7_counted_84 : decode cX7_counted 84 = .ok (.getfield 158, 3) := by decide +kernel
theorem dX7_counted_87 : decode cX7_counted 87 = .ok (.ireturn, 1) := by decide +kernel
theorem dX7_counted_88 : decode cX7_counted 88 = .ok (.aload_n 0, 1) := by decide +kernel
theorem dX7_counted_89 : decode cX7_counted 89 = .ok (.getfield 10, 3) := by decide +kernel
theorem dX7_counted_92 : decode cX7_counted 92 = .ok (.getfield 161, 3) := by decide +kernel
theorem dX7_counted_95 : decode cX7_counted 95 = .ok (.ireturn, 1) := by decide +kernel
theorem dX7_counted_96 : decode cX7_counted 96 = .ok (.aload_n 0, 1) := by decide +kernel
theorem dX7_counted_97 : decode cX7_counted 97 = .ok (.getfield 10, 3) := by decide +kernel
theorem dX7_counted_100 : decode cX7_counted 100 = .ok (.getfield 133, 3) := by decide +kernel
theorem dX7_counted_103 : decode cX7_counted 103 = .ok (.ireturn, 1) := by decide +kernel
theorem dX7_counted_104 : decode cX7_counted 104 = .ok (.aload_n 0, 1) := by decide +kernel
theorem dX7_counted_105 : decode cX7_counted 105 = .ok (.getfield 28, 3) := by decide +kernel
theorem dX7_counted_108 : decode cX7_counted 108 = .ok (.iconst 0, 1) := by decide +kernel
