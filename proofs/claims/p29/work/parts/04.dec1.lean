theorem dX0_init_0 : decode cX0_init 0 = .ok (.aload_n 0, 1) := by decide +kernel
theorem dX0_init_1 : decode cX0_init 1 = .ok (.invokespecial 3, 3) := by decide +kernel
theorem dX0_init_4 : decode cX0_init 4 = .ok (.aload_n 0, 1) := by decide +kernel
theorem dX0_init_5 : decode cX0_init 5 = .ok (.bipush 121, 2) := by decide +kernel
theorem dX0_init_7 : decode cX0_init 7 = .ok (.newarray .int, 2) := by decide +kernel
theorem dX0_init_9 : decode cX0_init 9 = .ok (.putfield 11, 3) := by decide +kernel
theorem dX0_init_12 : decode cX0_init 12 = .ok (.aload_n 0, 1) := by decide +kernel
theorem dX0_init_13 : decode cX0_init 13 = .ok (.bipush 121, 2) := by decide +kernel
theorem dX0_init_15 : decode cX0_init 15 = .ok (.newarray .int, 2) := by decide +kernel
theorem dX0_init_17 : decode cX0_init 17 = .ok (.putfield 15, 3) := by decide +kernel
theorem dX0_init_20 : decode cX0_init 20 = .ok (.aload_n 0, 1) := by decide +kernel
theorem dX0_init_21 : decode cX0_init 21 = .ok (.bipush 11, 2) := by decide +kernel
theorem dX0_init_23 : decode cX0_init 23 = .ok (.newarray .int, 2) := by decide +kernel
theorem dX0_init_25 : decode cX0_init 25 = .ok (.putfield 18, 3) := by decide +kernel
theorem dX0_init_28 : decode cX0_init 28 = .ok (.aload_n 0, 1) := by decide +kernel
theorem dX0_init_29 : decode cX0_init 29 = .ok (.bipush 11, 2) := by decide +kernel
theorem dX0_init_31 : decode cX0_init 31 = .ok (.newarray .int, 2) := by decide +kernel
theorem dX0_init_33 : decode cX0_init 33 = .ok (.putfield 21, 3) := by decide +kernel
theorem dX0_init_36 : decode cX0_init 36 = .ok (.aload_n 0, 1) := by decide +kernel
theorem dX0_init_37 : decode cX0_init 37 = .ok (.aload_n 1, 1) := by decide +kernel
theorem dX0_init_38 : decode cX0_init 38 = .ok (.putfield 24, 3) := by decide +kernel
theorem dX0_init_41 : decode cX0_init 41 = .ok (.return_, 1) := by decide +kernel
theorem dX0_planCuts_0 : decode cX0_planCuts 0 = .ok (.iconst 0, 1) := by decide +kernel
theorem dX0_planCuts_1 : decode cX0_planCuts 1 = .ok (.istore_n 1, 1) := by decide +kernel
theorem dX0_planCuts_2 : decode cX0_planCuts 2 = .ok (.iconst 0, 1) := by decide +kernel
theorem dX0_planCuts_3 : decode cX0_planCuts 3 = .ok (.istore_n 2, 1) := by decide +kernel
theorem dX0_planCuts_4 : decode cX0_planCuts 4 = .ok (.iload_n 2, 1) := by decide +kernel
theorem dX0_planCuts_5 : decode cX0_planCuts 5 = .ok (.aload_n 0, 1) := by decide +kernel
theorem dX0_planCuts_6 : decode cX0_planCuts 6 = .ok (.getfield 24, 3) := by decide +kernel
theorem dX0_planCuts_9 : decode cX0_planCuts 9 = .ok (.getfield 28, 3) := by decide +kernel
theorem dX0_planCuts_12 : decode cX0_planCuts 12 = .ok (.if_icmp .ge 31, 3) := by decide +kernel
theorem dX0_planCuts_15 : decode cX0_planCuts 15 = .ok (.iload_n 1, 1) := by decide +kernel
theorem dX0_planCuts_16 : decode cX0_planCuts 16 = .ok (.aload_n 0, 1) := by decide +kernel
theorem dX0_planCuts_17 : decode cX0_planCuts 17 = .ok (.getfield 24, 3) := by decide +kernel
theorem dX0_planCuts_20 : decode cX0_planCuts 20 = .ok (.iload_n 2, 1) := by decide +kernel
theorem dX0_planCuts_21 : decode cX0_planCuts 21 = .ok (.invokevirtual 34, 3) := by decide +kernel
theorem dX0_planCuts_24 : decode cX0_planCuts 24 = .ok (.iadd, 1) := by decide +kernel
theorem dX0_planCuts_25 : decode cX0_planCuts 25 = .ok (.istore_n 1, 1) := by decide +kernel
theorem dX0_planCuts_26 : decode cX0_planCuts 26 = .ok (.aload_n 0, 1) := by decide +kernel
theorem dX0_planCuts_27 : decode cX0_planCuts 27 = .ok (.getfield 18, 3) := by decide +kernel
theorem dX0_planCuts_30 : decode cX0_planCuts 30 = .ok (.iload_n 2, 1) := by decide +kernel
theorem dX0_planCuts_31 : decode cX0_planCuts 31 = .ok (.iconst 1, 1) := by decide +kernel
theorem dX0_planCuts_32 : decode cX0_planCuts 32 = .ok (.iadd, 1) := by decide +kernel
theorem dX0_planCuts_33 : decode cX0_planCuts 33 = .ok (.iload_n 1, 1) := by decide +kernel
theorem dX0_planCuts_34 : decode cX0_planCuts 34 = .ok (.invokestatic 38, 3) := by decide +kernel
theorem dX0_planCuts_37 : decode cX0_planCuts 37 = .ok (.iinc 2 1, 3) := by decide +kernel
theorem dX0_planCuts_40 : decode cX0_planCuts 40 = .ok (.goto (-36), 3) := by decide +kernel
theorem dX0_planCuts_43 : decode cX0_planCuts 43 = .ok (.iconst 1, 1) := by decide +kernel
theorem dX0_planCuts_44 : decode cX0_planCuts 44 = .ok (.istore_n 2, 1) := by decide +kernel
theorem dX0_planCuts_45 : decode cX0_planCuts 45 = .ok (.iload_n 2, 1) := by decide +kernel
theorem dX0_planCuts_46 : decode cX0_planCuts 46 = .ok (.aload_n 0, 1) := by decide +kernel
theorem dX0_planCuts_47 : decode cX0_planCuts 47 = .ok (.getfield 24, 3) := by decide +kernel
theorem dX0_planCuts_50 : decode cX0_planCuts 50 = .ok (.getfield 28, 3) := by decide +kernel
theorem dX0_planCuts_53 : decode cX0_planCuts 53 = .ok (.if_icmp .gt 34, 3) := by decide +kernel
theorem dX0_planCuts_56 : decode cX0_planCuts 56 = .ok (.iload_n 2, 1) := by decide +kernel
theorem dX0_planCuts_57 : decode cX0_planCuts 57 = .ok (.istore_n 3, 1) := by decide +kernel
theorem dX0_planCuts_58 : decode cX0_planCuts 58 = .ok (.iload_n 3, 1) := by decide +kernel
theorem dX0_planCuts_59 : decode cX0_planCuts 59 = .ok (.aload_n 0, 1) := by decide +kernel
theorem dX0_planCuts_60 : decode cX0_planCuts 60 = .ok (.getfield 24, 3) := by decide +kernel
theorem dX0_planCuts_63 : decode cX0_planCuts 63 = .ok (.getfield 28, 3) := by decide +kernel
theorem dX0_planCuts_66 : decode cX0_planCuts 66 = .ok (.if_icmp .gt 15, 3) := by decide +kernel
theorem dX0_planCuts_69 : decode cX0_planCuts 69 = .ok (.aload_n 0, 1) := by decide +kernel
theorem dX0_planCuts_70 : decode cX0_planCuts 70 = .ok (.iload_n 2, 1) := by decide +kernel
theorem dX0_planCuts_71 : decode cX0_planCuts 71 = .ok (.iload_n 3, 1) := by decide +kernel
theorem dX0_planCuts_72 : decode cX0_planCuts 72 = .ok (.invokevirtual 42, 3) := by decide +kernel
theorem dX0_planCuts_75 : decode cX0_planCuts 75 = .ok (.iinc 3 1, 3) := by decide +kernel
theorem dX0_planCuts_78 : decode cX0_planCuts 78 = .ok (.goto (-20), 3) := by decide +kernel
theorem dX0_planCuts_81 : decode cX0_planCuts 81 = .ok (.iinc 2 1, 3) := by decide +kernel
theorem dX0_planCuts_84 : decode cX0_planCuts 84 = .ok (.goto (-39), 3) := by decide +kernel
theorem dX0_planCuts_87 : decode cX0_planCuts 87 = .ok (.return_, 1) := by decide +kernel
theorem dX0_plannedCost_0 : decode cX0_plannedCost 0 = .ok (.aload_n 0, 1) := by decide +kernel
theorem dX0_plannedCost_1 : decode cX0_plannedCost 1 = .ok (.getfield 11, 3) := by decide +kernel
theorem dX0_plannedCost_4 : decode cX0_plannedCost 4 = .ok (.iload_n 1, 1) := by decide +kernel
theorem dX0_plannedCost_5 : decode cX0_plannedCost 5 = .ok (.bipush 11, 2) := by decide +kernel
theorem dX0_plannedCost_7 : decode cX0_plannedCost 7 = .ok (.imul, 1) := by decide +kernel
theorem dX0_plannedCost_8 : decode cX0_plannedCost 8 = .ok (.aload_n 0, 1) := by decide +kernel
theorem dX0_plannedCost_9 : decode cX0_plannedCost 9 = .ok (.getfield 24, 3) := by decide +kernel
theorem dX0_plannedCost_12 : decode cX0_plannedCost 12 = .ok (.getfield 28, 3) := by decide +kernel
theorem dX0_plannedCost_15 : decode cX0_plannedCost 15 = .ok (.iadd, 1) := by decide +kernel
theorem dX0_plannedCost_16 : decode cX0_plannedCost 16 = .ok (.invokestatic 46, 3) := by decide +kernel
theorem dX0_plannedCost_19 : decode cX0_plannedCost 19 = .ok (.ireturn, 1) := by decide +kernel
theorem dX0_plannedCut_0 : decode cX0_plannedCut 0 = .ok (.aload_n 0, 1) := by decide +kernel
theorem dX0_plannedCut_1 : decode cX0_plannedCut 1 = .ok (.getfield 24, 3) := by decide +kernel
theorem dX0_plannedCut_4 : decode cX0_plannedCut 4 = .ok (.getfield 28, 3) := by decide +kernel
theorem dX0_plannedCut_7 : decode cX0_plannedCut 7 = .ok (.istore_n 3, 1) := by decide +kernel
theorem dX0_plannedCut_8 : decode cX0_plannedCut 8 = .ok (.iload_n 1, 1) := by decide +kernel
theorem dX0_plannedCut_9 : decode cX0_plannedCut 9 = .ok (.istore 4, 2) := by decide +kernel
theorem dX0_plannedCut_11 : decode cX0_plannedCut 11 = .ok (.iload 4, 2) := by decide +kernel
theorem dX0_plannedCut_13 : decode cX0_plannedCut 13 = .ok (.iload_n 2, 1) := by decide +kernel
theorem dX0_plannedCut_14 : decode cX0_plannedCut 14 = .ok (.iconst 1, 1) := by decide +kernel
theorem dX0_plannedCut_15 : decode cX0_plannedCut 15 = .ok (.iadd, 1) := by decide +kernel
theorem dX0_plannedCut_16 : decode cX0_plannedCut 16 = .ok (.if_icmp .le 24, 3) := by decide +kernel
theorem dX0_plannedCut_19 : decode cX0_plannedCut 19 = .ok (.aload_n 0, 1) := by decide +kernel
theorem dX0_plannedCut_20 : decode cX0_plannedCut 20 = .ok (.getfield 15, 3) := by decide +kernel
theorem dX0_plannedCut_23 : decode cX0_plannedCut 23 = .ok (.iload 4, 2) := by decide +kernel
theorem dX0_plannedCut_25 : decode cX0_plannedCut 25 = .ok (.bipush 11, 2) := by decide +kernel
theorem dX0_plannedCut_27 : decode cX0_plannedCut 27 = .ok (.imul, 1) := by decide +kernel
theorem dX0_plannedCut_28 : decode cX0_plannedCut 28 = .ok (.iload_n 3, 1) := by decide +kernel
theorem dX0_plannedCut_29 : decode cX0_plannedCut 29 = .ok (.iadd, 1) := by decide +kernel
theorem dX0_plannedCut_30 : decode cX0_plannedCut 30 = .ok (.invokestatic 46, 3) := by decide +kernel
theorem dX0_plannedCut_33 : decode cX0_plannedCut 33 = .ok (.istore_n 3, 1) := by decide +kernel
theorem dX0_plannedCut_34 : decode cX0_plannedCut 34 = .ok (.iinc 4 (-1), 3) := by decide +kernel
theorem dX0_plannedCut_37 : decode cX0_plannedCut 37 = .ok (.goto (-26), 3) := by decide +kernel
theorem dX0_plannedCut_40 : decode cX0_plannedCut 40 = .ok (.iload_n 3, 1) := by decide +kernel
theorem dX0_plannedCut_41 : decode cX0_plannedCut 41 = .ok (.ireturn, 1) := by decide +kernel
theorem dX0_fewestPartsFor_0 : decode cX0_fewestPartsFor 0 = .ok (.iconst 1, 1) := by decide +kernel
theorem dX0_fewestPartsFor_1 : decode cX0_fewestPartsFor 1 = .ok (.istore_n 2, 1) := by decide +kernel
theorem dX0_fewestPartsFor_2 : decode cX0_fewestPartsFor 2 = .ok (.iload_n 2, 1) := by decide +kernel
theorem dX0_fewestPartsFor_3 : decode cX0_fewestPartsFor 3 = .ok (.aload_n 0, 1) := by decide +kernel
theorem dX0_fewestPartsFor_4 : decode cX0_fewestPartsFor 4 = .ok (.getfield 24, 3) := by decide +kernel
theorem dX0_fewestPartsFor_7 : decode cX0_fewestPartsFor 7 = .ok (.getfield 28, 3) := by decide +kernel
theorem dX0_fewestPartsFor_10 : decode cX0_fewestPartsFor 10 = .ok (.if_icmp .gt 20, 3) := by decide +kernel
theorem dX0_fewestPartsFor_13 : decode cX0_fewestPartsFor 13 = .ok (.aload_n 0, 1) := by decide +kernel
theorem dX0_fewestPartsFor_14 : decode cX0_fewestPartsFor 14 = .ok (.iload_n 2, 1) := by decide +kernel
theorem dX0_fewestPartsFor_15 : decode cX0_fewestPartsFor 15 = .ok (.invokevirtual 50, 3) := by decide +kernel
theorem dX0_fewestPartsFor_18 : decode cX0_fewestPartsFor 18 = .ok (.iload_n 1, 1) := by decide +kernel
theorem dX0_fewestPartsFor_19 : decode cX0_fewestPartsFor 19 = .ok (.if_icmp .gt 5, 3) := by decide +kernel
theorem dX0_fewestPartsFor_22 : decode cX0_fewestPartsFor 22 = .ok (.iload_n 2, 1) := by decide +kernel
theorem dX0_fewestPartsFor_23 : decode cX0_fewestPartsFor 23 = .ok (.ireturn, 1) := by decide +kernel
theorem dX0_fewestPartsFor_24 : decode cX0_fewestPartsFor 24 = .ok (.iinc 2 1, 3) := by decide +kernel
theorem dX0_fewestPartsFor_27 : decode cX0_fewestPartsFor 27 = .ok (.goto (-25), 3) := by decide +kernel
theorem dX0_fewestPartsFor_30 : decode cX0_fewestPartsFor 30 = .ok (.iconst (-1), 1) := by decide +kernel
theorem dX0_fewestPartsFor_31 : decode cX0_fewestPartsFor 31 = .ok (.ireturn, 1) := by decide +kernel
theorem dX0_tryAllCuts_0 : decode cX0_tryAllCuts 0 = .ok (.iconst 1, 1) := by decide +kernel
theorem dX0_tryAllCuts_1 : decode cX0_tryAllCuts 1 = .ok (.istore_n 1, 1) := by decide +kernel
theorem dX0_tryAllCuts_2 : decode cX0_tryAllCuts 2 = .ok (.iload_n 1, 1) := by decide +kernel
theorem dX0_tryAllCuts_3 : decode cX0_tryAllCuts 3 = .ok (.aload_n 0, 1) := by decide +kernel
theorem dX0_tryAllCuts_4 : decode cX0_tryAllCuts 4 = .ok (.getfield 24, 3) := by decide +kernel
theorem dX0_tryAllCuts_7 : decode cX0_tryAllCuts 7 = .ok (.getfield 28, 3) := by decide +kernel
theorem dX0_tryAllCuts_10 : decode cX0_tryAllCuts 10 = .ok (.if_icmp .gt 19, 3) := by decide +kernel
theorem dX0_tryAllCuts_13 : decode cX0_tryAllCuts 13 = .ok (.aload_n 0, 1) := by decide +kernel
theorem dX0_tryAllCuts_14 : decode cX0_tryAllCuts 14 = .ok (.getfield 21, 3) := by decide +kernel
theorem dX0_tryAllCuts_17 : decode cX0_tryAllCuts 17 = .ok (.iload_n 1, 1) := by decide +kernel
theorem dX0_tryAllCuts_18 : decode cX0_tryAllCuts 18 = .ok (.ldc 53, 2) := by decide +kernel
theorem dX0_tryAllCuts_20 : decode cX0_tryAllCuts 20 = .ok (.invokestatic 38, 3) := by decide +kernel
theorem dX0_tryAllCuts_23 : decode cX0_tryAllCuts 23 = .ok (.iinc 1 1, 3) := by decide +kernel
theorem dX0_tryAllCuts_26 : decode cX0_tryAllCuts 26 = .ok (.goto (-24), 3) := by decide +kernel
theorem dX0_tryAllCuts_29 : decode cX0_tryAllCuts 29 = .ok (.aload_n 0, 1) := by decide +kernel
theorem dX0_tryAllCuts_30 : decode cX0_tryAllCuts 30 = .ok (.iconst 1, 1) := by decide +kernel
theorem dX0_tryAllCuts_31 : decode cX0_tryAllCuts 31 = .ok (.iconst 0, 1) := by decide +kernel
theorem dX0_tryAllCuts_32 : decode cX0_tryAllCuts 32 = .ok (.iconst 0, 1) := by decide +kernel
theorem dX0_tryAllCuts_33 : decode cX0_tryAllCuts 33 = .ok (.invokestatic 54, 3) := by decide +kernel
theorem dX0_tryAllCuts_36 : decode cX0_tryAllCuts 36 = .ok (.return_, 1) := by decide +kernel
theorem dX0_triedCost_0 : decode cX0_triedCost 0 = .ok (.aload_n 0, 1) := by decide +kernel
theorem dX0_triedCost_1 : decode cX0_triedCost 1 = .ok (.getfield 21, 3) := by decide +kernel
theorem dX0_triedCost_4 : decode cX0_triedCost 4 = .ok (.iload_n 1, 1) := by decide +kernel
theorem dX0_triedCost_5 : decode cX0_triedCost 5 = .ok (.invokestatic 46, 3) := by decide +kernel
theorem dX0_triedCost_8 : decode cX0_triedCost 8 = .ok (.ireturn, 1) := by decide +kernel
theorem dX0_planLastCut_0 : decode cX0_planLastCut 0 = .ok (.ldc 53, 2) := by decide +kernel
theorem dX0_planLastCut_2 : decode cX0_planLastCut 2 = .ok (.istore_n 3, 1) := by decide +kernel
theorem dX0_planLastCut_3 : decode cX0_planLastCut 3 = .ok (.iconst 0, 1) := by decide +kernel
theorem dX0_planLastCut_4 : decode cX0_planLastCut 4 = .ok (.istore 4, 2) := by decide +kernel
theorem dX0_planLastCut_6 : decode cX0_planLastCut 6 = .ok (.iload_n 1, 1) := by decide +kernel
theorem dX0_planLastCut_7 : decode cX0_planLastCut 7 = .ok (.iconst 1, 1) := by decide +kernel
theorem dX0_planLastCut_8 : decode cX0_planLastCut 8 = .ok (.if_icmp .ne 7, 3) := by decide +kernel
theorem dX0_planLastCut_11 : decode cX0_planLastCut 11 = .ok (.iconst 0, 1) := by decide +kernel
theorem dX0_planLastCut_12 : decode cX0_planLastCut 12 = .ok (.goto 6, 3) := by decide +kernel
theorem dX0_planLastCut_15 : decode cX0_planLastCut 15 = .ok (.iload_n 2, 1) := by decide +kernel
theorem dX0_planLastCut_16 : decode cX0_planLastCut 16 = .ok (.iconst 1, 1) := by decide +kernel
theorem dX0_planLastCut_17 : decode cX0_planLastCut 17 = .ok (.isub, 1) := by decide +kernel
theorem dX0_planLastCut_18 : decode cX0_planLastCut 18 = .ok (.istore 5, 2) := by decide +kernel
theorem dX0_planLastCut_20 : decode cX0_planLastCut 20 = .ok (.iload_n 1, 1) := by decide +kernel
theorem dX0_planLastCut_21 : decode cX0_planLastCut 21 = .ok (.iconst 1, 1) := by decide +kernel
theorem dX0_planLastCut_22 : decode cX0_planLastCut 22 = .ok (.isub, 1) := by decide +kernel
theorem dX0_planLastCut_23 : decode cX0_planLastCut 23 = .ok (.istore 6, 2) := by decide +kernel
theorem dX0_planLastCut_25 : decode cX0_planLastCut 25 = .ok (.iload 6, 2) := by decide +kernel
theorem dX0_planLastCut_27 : decode cX0_planLastCut 27 = .ok (.iload 5, 2) := by decide +kernel
theorem dX0_planLastCut_29 : decode cX0_planLastCut 29 = .ok (.if_icmp .gt 66, 3) := by decide +kernel
theorem dX0_planLastCut_32 : decode cX0_planLastCut 32 = .ok (.aload_n 0, 1) := by decide +kernel
theorem dX0_planLastCut_33 : decode cX0_planLastCut 33 = .ok (.getfield 18, 3) := by decide +kernel
theorem dX0_planLastCut_36 : decode cX0_planLastCut 36 = .ok (.iload_n 2, 1) := by decide +kernel
theorem dX0_planLastCut_37 : decode cX0_planLastCut 37 = .ok (.invokestatic 46, 3) := by decide +kernel
theorem dX0_planLastCut_40 : decode cX0_planLastCut 40 = .ok (.aload_n 0, 1) := by decide +kernel
theorem dX0_planLastCut_41 : decode cX0_planLastCut 41 = .ok (.getfield 18, 3) := by decide +kernel
theorem dX0_planLastCut_44 : decode cX0_planLastCut 44 = .ok (.iload 6, 2) := by decide +kernel
theorem dX0_planLastCut_46 : decode cX0_planLastCut 46 = .ok (.invokestatic 46, 3) := by decide +kernel
theorem dX0_planLastCut_49 : decode cX0_planLastCut 49 = .ok (.isub, 1) := by decide +kernel
theorem dX0_planLastCut_50 : decode cX0_planLastCut 50 = .ok (.istore 7, 2) := by decide +kernel
theorem dX0_planLastCut_52 : decode cX0_planLastCut 52 = .ok (.aload_n 0, 1) := by decide +kernel
theorem dX0_planLastCut_53 : decode cX0_planLastCut 53 = .ok (.getfield 11, 3) := by decide +kernel
theorem dX0_planLastCut_56 : decode cX0_planLastCut 56 = .ok (.iload_n 1, 1) := by decide +kernel
theorem dX0_planLastCut_57 : decode cX0_planLastCut 57 = .ok (.iconst 1, 1) := by decide +kernel
theorem dX0_planLastCut_58 : decode cX0_planLastCut 58 = .ok (.isub, 1) := by decide +kernel
theorem dX0_planLastCut_59 : decode cX0_planLastCut 59 = .ok (.bipush 11, 2) := by decide +kernel
theorem dX0_planLastCut_61 : decode cX0_planLastCut 61 = .ok (.imul, 1) := by decide +kernel
theorem dX0_planLastCut_62 : decode cX0_planLastCut 62 = .ok (.iload 6, 2) := by decide +kernel
theorem dX0_planLastCut_64 : decode cX0_planLastCut 64 = .ok (.iadd, 1) := by decide +kernel
theorem dX0_planLastCut_65 : decode cX0_planLastCut 65 = .ok (.invokestatic 46, 3) := by decide +kernel
theorem dX0_planLastCut_68 : decode cX0_planLastCut 68 = .ok (.iload 7, 2) := by decide +kernel
theorem dX0_planLastCut_70 : decode cX0_planLastCut 70 = .ok (.iload 7, 2) := by decide +kernel
theorem dX0_planLastCut_72 : decode cX0_planLastCut 72 = .ok (.imul, 1) := by decide +kernel
theorem dX0_planLastCut_73 : decode cX0_planLastCut 73 = .ok (.iadd, 1) := by decide +kernel
theorem dX0_planLastCut_74 : decode cX0_planLastCut 74 = .ok (.istore 8, 2) := by decide +kernel
theorem dX0_planLastCut_76 : decode cX0_planLastCut 76 = .ok (.iload 8, 2) := by decide +kernel
theorem dX0_planLastCut_78 : decode cX0_planLastCut 78 = .ok (.iload_n 3, 1) := by decide +kernel
theorem dX0_planLastCut_79 : decode cX0_planLastCut 79 = .ok (.if_icmp .ge 10, 3) := by decide +kernel
theorem dX0_planLastCut_82 : decode cX0_planLastCut 82 = .ok (.iload 8, 2) := by decide +kernel
theorem dX0_planLastCut_84 : decode cX0_planLastCut 84 = .ok (.istore_n 3, 1) := by decide +kernel
theorem dX0_planLastCut_85 : decode cX0_planLastCut 85 = .ok (.iload 6, 2) := by decide +kernel
theorem dX0_planLastCut_87 : decode cX0_planLastCut 87 = .ok (.istore 4, 2) := by decide +kernel
theorem dX0_planLastCut_89 : decode cX0_planLastCut 89 = .ok (.iinc 6 1, 3) := by decide +kernel
theorem dX0_planLastCut_92 : decode cX0_planLastCut 92 = .ok (.goto (-67), 3) := by decide +kernel
theorem dX0_planLastCut_95 : decode cX0_planLastCut 95 = .ok (.aload_n 0, 1) := by decide +kernel
theorem dX0_planLastCut_96 : decode cX0_planLastCut 96 = .ok (.getfield 11, 3) := by decide +kernel
theorem dX0_planLastCut_99 : decode cX0_planLastCut 99 = .ok (.iload_n 1, 1) := by decide +kernel
theorem dX0_planLastCut_100 : decode cX0_planLastCut 100 = .ok (.bipush 11, 2) := by decide +kernel
theorem dX0_planLastCut_102 : decode cX0_planLastCut 102 = .ok (.imul, 1) := by decide +kernel
theorem dX0_planLastCut_103 : decode cX0_planLastCut 103 = .ok (.iload_n 2, 1) := by decide +kernel
theorem dX0_planLastCut_104 : decode cX0_planLastCut 104 = .ok (.iadd, 1) := by decide +kernel
theorem dX0_planLastCut_105 : decode cX0_planLastCut 105 = .ok (.iload_n 3, 1) := by decide +kernel
theorem dX0_planLastCut_106 : decode cX0_planLastCut 106 = .ok (.invokestatic 38, 3) := by decide +kernel
theorem dX0_planLastCut_109 : decode cX0_planLastCut 109 = .ok (.aload_n 0, 1) := by decide +kernel
theorem dX0_planLastCut_110 : decode cX0_planLastCut 110 = .ok (.getfield 15, 3) := by decide +kernel
theorem dX0_planLastCut_113 : decode cX0_planLastCut 113 = .ok (.iload_n 1, 1) := by decide +kernel
theorem dX0_planLastCut_114 : decode cX0_planLastCut 114 = .ok (.bipush 11, 2) := by decide +kernel
theorem dX0_planLastCut_116 : decode cX0_planLastCut 116 = .ok (.imul, 1) := by decide +kernel
theorem dX0_planLastCut_117 : decode cX0_planLastCut 117 = .ok (.iload_n 2, 1) := by decide +kernel
theorem dX0_planLastCut_118 : decode cX0_planLastCut 118 = .ok (.iadd, 1) := by decide +kernel
theorem dX0_planLastCut_119 : decode cX0_planLastCut 119 = .ok (.iload 4, 2) := by decide +kernel
theorem dX0_planLastCut_121 : decode cX0_planLastCut 121 = .ok (.invokestatic 38, 3) := by decide +kernel
theorem dX0_planLastCut_124 : decode cX0_planLastCut 124 = .ok (.return_, 1) := by decide +kernel
theorem dX0_tryNextPart_0 : decode cX0_tryNextPart 0 = .ok (.aload_n 0, 1) := by decide +kernel
theorem dX0_tryNextPart_1 : decode cX0_tryNextPart 1 = .ok (.ifnull 9, 3) := by decide +kernel
theorem dX0_tryNextPart_4 : decode cX0_tryNextPart 4 = .ok (.iload_n 1, 1) := by decide +kernel
theorem dX0_tryNextPart_5 : decode cX0_tryNextPart 5 = .ok (.bipush 10, 2) := by decide +kernel
theorem dX0_tryNextPart_7 : decode cX0_tryNextPart 7 = .ok (.if_icmp .le 4, 3) := by decide +kernel
theorem dX0_tryNextPart_10 : decode cX0_tryNextPart 10 = .ok (.return_, 1) := by decide +kernel
theorem dX0_tryNextPart_11 : decode cX0_tryNextPart 11 = .ok (.aload_n 0, 1) := by decide +kernel
theorem dX0_tryNextPart_12 : decode cX0_tryNextPart 12 = .ok (.getfield 24, 3) := by decide +kernel
theorem dX0_tryNextPart_15 : decode cX0_tryNextPart 15 = .ok (.getfield 28, 3) := by decide +kernel
theorem dX0_tryNextPart_18 : decode cX0_tryNextPart 18 = .ok (.istore 4, 2) := by decide +kernel
theorem dX0_tryNextPart_20 : decode cX0_tryNextPart 20 = .ok (.iconst 0, 1) := by decide +kernel
theorem dX0_tryNextPart_21 : decode cX0_tryNextPart 21 = .ok (.istore 5, 2) := by decide +kernel
theorem dX0_tryNextPart_23 : decode cX0_tryNextPart 23 = .ok (.iload_n 2, 1) := by decide +kernel
theorem dX0_tryNextPart_24 : decode cX0_tryNextPart 24 = .ok (.iconst 1, 1) := by decide +kernel
theorem dX0_tryNextPart_25 : decode cX0_tryNextPart 25 = .ok (.iadd, 1) := by decide +kernel
theorem dX0_tryNextPart_26 : decode cX0_tryNextPart 26 = .ok (.istore 6, 2) := by decide +kernel
theorem dX0_tryNextPart_28 : decode cX0_tryNextPart 28 = .ok (.iload 6, 2) := by decide +kernel
theorem dX0_tryNextPart_30 : decode cX0_tryNextPart 30 = .ok (.iload 4, 2) := by decide +kernel
theorem dX0_tryNextPart_32 : decode cX0_tryNextPart 32 = .ok (.if_icmp .gt 74, 3) := by decide +kernel
theorem dX0_tryNextPart_35 : decode cX0_tryNextPart 35 = .ok (.iload 5, 2) := by decide +kernel
theorem dX0_tryNextPart_37 : decode cX0_tryNextPart 37 = .ok (.aload_n 0, 1) := by decide +kernel
theorem dX0_tryNextPart_38 : decode cX0_tryNextPart 38 = .ok (.getfield 24, 3) := by decide +kernel
theorem dX0_tryNextPart_41 : decode cX0_tryNextPart 41 = .ok (.iload 6, 2) := by decide +kernel
theorem dX0_tryNextPart_43 : decode cX0_tryNextPart 43 = .ok (.iconst 1, 1) := by decide +kernel
theorem dX0_tryNextPart_44 : decode cX0_tryNextPart 44 = .ok (.isub, 1) := by decide +kernel
theorem dX0_tryNextPart_45 : decode cX0_tryNextPart 45 = .ok (.invokevirtual 34, 3) := by decide +kernel
theorem dX0_tryNextPart_48 : decode cX0_tryNextPart 48 = .ok (.iadd, 1) := by decide +kernel
theorem dX0_tryNextPart_49 : decode cX0_tryNextPart 49 = .ok (.istore 5, 2) := by decide +kernel
theorem dX0_tryNextPart_51 : decode cX0_tryNextPart 51 = .ok (.iload 6, 2) := by decide +kernel
theorem dX0_tryNextPart_53 : decode cX0_tryNextPart 53 = .ok (.iload 4, 2) := by decide +kernel
theorem dX0_tryNextPart_55 : decode cX0_tryNextPart 55 = .ok (.if_icmp .ge 22, 3) := by decide +kernel
theorem dX0_tryNextPart_58 : decode cX0_tryNextPart 58 = .ok (.aload_n 0, 1) := by decide +kernel
theorem dX0_tryNextPart_59 : decode cX0_tryNextPart 59 = .ok (.iload_n 1, 1) := by decide +kernel
theorem dX0_tryNextPart_60 : decode cX0_tryNextPart 60 = .ok (.iconst 1, 1) := by decide +kernel
theorem dX0_tryNextPart_61 : decode cX0_tryNextPart 61 = .ok (.iadd, 1) := by decide +kernel
theorem dX0_tryNextPart_62 : decode cX0_tryNextPart 62 = .ok (.iload 6, 2) := by decide +kernel
theorem dX0_tryNextPart_64 : decode cX0_tryNextPart 64 = .ok (.iload_n 3, 1) := by decide +kernel
theorem dX0_tryNextPart_65 : decode cX0_tryNextPart 65 = .ok (.iload 5, 2) := by decide +kernel
theorem dX0_tryNextPart_67 : decode cX0_tryNextPart 67 = .ok (.iload 5, 2) := by decide +kernel
theorem dX0_tryNextPart_69 : decode cX0_tryNextPart 69 = .ok (.imul, 1) := by decide +kernel
theorem dX0_tryNextPart_70 : decode cX0_tryNextPart 70 = .ok (.iadd, 1) := by decide +kernel
theorem dX0_tryNextPart_71 : decode cX0_tryNextPart 71 = .ok (.invokestatic 54, 3) := by decide +kernel
theorem dX0_tryNextPart_74 : decode cX0_tryNextPart 74 = .ok (.goto 26, 3) := by decide +kernel
theorem dX0_tryNextPart_77 : decode cX0_tryNextPart 77 = .ok (.aload_n 0, 1) := by decide +kernel
theorem dX0_tryNextPart_78 : decode cX0_tryNextPart 78 = .ok (.getfield 21, 3) := by decide +kernel
theorem dX0_tryNextPart_81 : decode cX0_tryNextPart 81 = .ok (.iload_n 1, 1) := by decide +kernel
theorem dX0_tryNextPart_82 : decode cX0_tryNextPart 82 = .ok (.aload_n 0, 1) := by decide +kernel
theorem dX0_tryNextPart_83 : decode cX0_tryNextPart 83 = .ok (.iload_n 1, 1) := by decide +kernel
theorem dX0_tryNextPart_84 : decode cX0_tryNextPart 84 = .ok (.invokevirtual 58, 3) := by decide +kernel
theorem dX0_tryNextPart_87 : decode cX0_tryNextPart 87 = .ok (.iload_n 3, 1) := by decide +kernel
theorem dX0_tryNextPart_88 : decode cX0_tryNextPart 88 = .ok (.iload 5, 2) := by decide +kernel
theorem dX0_tryNextPart_90 : decode cX0_tryNextPart 90 = .ok (.iload 5, 2) := by decide +kernel
theorem dX0_tryNextPart_92 : decode cX0_tryNextPart 92 = .ok (.imul, 1) := by decide +kernel
theorem dX0_tryNextPart_93 : decode cX0_tryNextPart 93 = .ok (.iadd, 1) := by decide +kernel
theorem dX0_tryNextPart_94 : decode cX0_tryNextPart 94 = .ok (.invokestatic 61, 3) := by decide +kernel
theorem dX0_tryNextPart_97 : decode cX0_tryNextPart 97 = .ok (.invokestatic 38, 3) := by decide +kernel
theorem dX0_tryNextPart_100 : decode cX0_tryNextPart 100 = .ok (.iinc 6 1, 3) := by decide +kernel
theorem dX0_tryNextPart_103 : decode cX0_tryNextPart 103 = .ok (.goto (-75), 3) := by decide +kernel
theorem dX0_tryNextPart_106 : decode cX0_tryNextPart 106 = .ok (.return_, 1) := by decide +kernel
theorem dX1_init_0 : decode cX1_init 0 = .ok (.aload_n 0, 1) := by decide +kernel
theorem dX1_init_1 : decode cX1_init 1 = .ok (.invokespecial 3, 3) := by decide +kernel
theorem dX1_init_4 : decode cX1_init 4 = .ok (.aload_n 0, 1) := by decide +kernel
theorem dX1_init_5 : decode cX1_init 5 = .ok (.bipush 30, 2) := by decide +kernel
theorem dX1_init_7 : decode cX1_init 7 = .ok (.newarray .int, 2) := by decide +kernel
theorem dX1_init_9 : decode cX1_init 9 = .ok (.putfield 9, 3) := by decide +kernel
theorem dX1_init_12 : decode cX1_init 12 = .ok (.aload_n 0, 1) := by decide +kernel
theorem dX1_init_13 : decode cX1_init 13 = .ok (.iconst 3, 1) := by decide +kernel
theorem dX1_init_14 : decode cX1_init 14 = .ok (.newarray .int, 2) := by decide +kernel
theorem dX1_init_16 : decode cX1_init 16 = .ok (.putfield 15, 3) := by decide +kernel
theorem dX1_init_19 : decode cX1_init 19 = .ok (.aload_n 0, 1) := by decide +kernel
theorem dX1_init_20 : decode cX1_init 20 = .ok (.bipush 50, 2) := by decide +kernel
theorem dX1_init_22 : decode cX1_init 22 = .ok (.newarray .int, 2) := by decide +kernel
theorem dX1_init_24 : decode cX1_init 24 = .ok (.putfield 18, 3) := by decide +kernel
theorem dX1_init_27 : decode cX1_init 27 = .ok (.aload_n 0, 1) := by decide +kernel
theorem dX1_init_28 : decode cX1_init 28 = .ok (.iconst 5, 1) := by decide +kernel
theorem dX1_init_29 : decode cX1_init 29 = .ok (.newarray .int, 2) := by decide +kernel
theorem dX1_init_31 : decode cX1_init 31 = .ok (.putfield 21, 3) := by decide +kernel
theorem dX1_init_34 : decode cX1_init 34 = .ok (.aload_n 0, 1) := by decide +kernel
theorem dX1_init_35 : decode cX1_init 35 = .ok (.iconst 0, 1) := by decide +kernel
theorem dX1_init_36 : decode cX1_init 36 = .ok (.putfield 24, 3) := by decide +kernel
theorem dX1_init_39 : decode cX1_init 39 = .ok (.aload_n 0, 1) := by decide +kernel
theorem dX1_init_40 : decode cX1_init 40 = .ok (.iconst 0, 1) := by decide +kernel
theorem dX1_init_41 : decode cX1_init 41 = .ok (.putfield 28, 3) := by decide +kernel
theorem dX1_init_44 : decode cX1_init 44 = .ok (.aload_n 0, 1) := by decide +kernel
theorem dX1_init_45 : decode cX1_init 45 = .ok (.aload_n 1, 1) := by decide +kernel
theorem dX1_init_46 : decode cX1_init 46 = .ok (.putfield 31, 3) := by decide +kernel
theorem dX1_init_49 : decode cX1_init 49 = .ok (.return_, 1) := by decide +kernel
theorem dX1_seek_0 : decode cX1_seek 0 = .ok (.aload_n 0, 1) := by decide +kernel
theorem dX1_seek_1 : decode cX1_seek 1 = .ok (.iload_n 1, 1) := by decide +kernel
theorem dX1_seek_2 : decode cX1_seek 2 = .ok (.putfield 24, 3) := by decide +kernel
theorem dX1_seek_5 : decode cX1_seek 5 = .ok (.aload_n 0, 1) := by decide +kernel
theorem dX1_seek_6 : decode cX1_seek 6 = .ok (.iconst 0, 1) := by decide +kernel
theorem dX1_seek_7 : decode cX1_seek 7 = .ok (.putfield 28, 3) := by decide +kernel
theorem dX1_seek_10 : decode cX1_seek 10 = .ok (.aload_n 0, 1) := by decide +kernel
theorem dX1_seek_11 : decode cX1_seek 11 = .ok (.invokevirtual 35, 3) := by decide +kernel
theorem dX1_seek_14 : decode cX1_seek 14 = .ok (.aload_n 0, 1) := by decide +kernel
theorem dX1_seek_15 : decode cX1_seek 15 = .ok (.getfield 24, 3) := by decide +kernel
theorem dX1_seek_18 : decode cX1_seek 18 = .ok (.iconst 1, 1) := by decide +kernel
theorem dX1_seek_19 : decode cX1_seek 19 = .ok (.if_icmp .ne 31, 3) := by decide +kernel
theorem dX1_seek_22 : decode cX1_seek 22 = .ok (.aload_n 0, 1) := by decide +kernel
theorem dX1_seek_23 : decode cX1_seek 23 = .ok (.iconst 0, 1) := by decide +kernel
theorem dX1_seek_24 : decode cX1_seek 24 = .ok (.aload_n 0, 1) := by decide +kernel
theorem dX1_seek_25 : decode cX1_seek 25 = .ok (.getfield 31, 3) := by decide +kernel
theorem dX1_seek_28 : decode cX1_seek 28 = .ok (.getfield 38, 3) := by decide +kernel
theorem dX1_seek_31 : decode cX1_seek 31 = .ok (.iconst 1, 1) := by decide +kernel
theorem dX1_seek_32 : decode cX1_seek 32 = .ok (.isub, 1) := by decide +kernel
theorem dX1_seek_33 : decode cX1_seek 33 = .ok (.iconst 0, 1) := by decide +kernel
theorem dX1_seek_34 : decode cX1_seek 34 = .ok (.aload_n 0, 1) := by decide +kernel
theorem dX1_seek_35 : decode cX1_seek 35 = .ok (.getfield 31, 3) := by decide +kernel
theorem dX1_seek_38 : decode cX1_seek 38 = .ok (.getfield 43, 3) := by decide +kernel
theorem dX1_seek_41 : decode cX1_seek 41 = .ok (.iconst 1, 1) := by decide +kernel
theorem dX1_seek_42 : decode cX1_seek 42 = .ok (.isub, 1) := by decide +kernel
theorem dX1_seek_43 : decode cX1_seek 43 = .ok (.iconst 0, 1) := by decide +kernel
theorem dX1_seek_44 : decode cX1_seek 44 = .ok (.invokestatic 46, 3) := by decide +kernel
theorem dX1_seek_47 : decode cX1_seek 47 = .ok (.goto 53, 3) := by decide +kernel
theorem dX1_seek_50 : decode cX1_seek 50 = .ok (.aload_n 0, 1) := by decide +kernel
theorem dX1_seek_51 : decode cX1_seek 51 = .ok (.getfield 24, 3) := by decide +kernel
theorem dX1_seek_54 : decode cX1_seek 54 = .ok (.iconst 2, 1) := by decide +kernel
theorem dX1_seek_55 : decode cX1_seek 55 = .ok (.if_icmp .ne 41, 3) := by decide +kernel
theorem dX1_seek_58 : decode cX1_seek 58 = .ok (.iconst 0, 1) := by decide +kernel
theorem dX1_seek_59 : decode cX1_seek 59 = .ok (.istore_n 2, 1) := by decide +kernel
theorem dX1_seek_60 : decode cX1_seek 60 = .ok (.iload_n 2, 1) := by decide +kernel
theorem dX1_seek_61 : decode cX1_seek 61 = .ok (.iconst 4, 1) := by decide +kernel
theorem dX1_seek_62 : decode cX1_seek 62 = .ok (.if_icmp .ge 14, 3) := by decide +kernel
theorem dX1_seek_65 : decode cX1_seek 65 = .ok (.aload_n 0, 1) := by decide +kernel
theorem dX1_seek_66 : decode cX1_seek 66 = .ok (.iload_n 2, 1) := by decide +kernel
theorem dX1_seek_67 : decode cX1_seek 67 = .ok (.invokevirtual 50, 3) := by decide +kernel
theorem dX1_seek_70 : decode cX1_seek 70 = .ok (.iinc 2 1, 3) := by decide +kernel
theorem dX1_seek_73 : decode cX1_seek 73 = .ok (.goto (-13), 3) := by decide +kernel
theorem dX1_seek_76 : decode cX1_seek 76 = .ok (.iconst 3, 1) := by decide +kernel
theorem dX1_seek_77 : decode cX1_seek 77 = .ok (.istore_n 2, 1) := by decide +kernel
theorem dX1_seek_78 : decode cX1_seek 78 = .ok (.iload_n 2, 1) := by decide +kernel
theorem dX1_seek_79 : decode cX1_seek 79 = .ok (.ifCond .lt 14, 3) := by decide +kernel
theorem dX1_seek_82 : decode cX1_seek 82 = .ok (.aload_n 0, 1) := by decide +kernel
theorem dX1_seek_83 : decode cX1_seek 83 = .ok (.iload_n 2, 1) := by decide +kernel
theorem dX1_seek_84 : decode cX1_seek 84 = .ok (.invokevirtual 54, 3) := by decide +kernel
theorem dX1_seek_87 : decode cX1_seek 87 = .ok (.iinc 2 (-1), 3) := by decide +kernel
theorem dX1_seek_90 : decode cX1_seek 90 = .ok (.goto (-12), 3) := by decide +kernel
theorem dX1_seek_93 : decode cX1_seek 93 = .ok (.goto 7, 3) := by decide +kernel
theorem dX1_seek_96 : decode cX1_seek 96 = .ok (.aload_n 0, 1) := by decide +kernel
theorem dX1_seek_97 : decode cX1_seek 97 = .ok (.invokevirtual 57, 3) := by decide +kernel
theorem dX1_seek_100 : decode cX1_seek 100 = .ok (.aload_n 0, 1) := by decide +kernel
theorem dX1_seek_101 : decode cX1_seek 101 = .ok (.getfield 15, 3) := by decide +kernel
theorem dX1_seek_104 : decode cX1_seek 104 = .ok (.aload_n 0, 1) := by decide +kernel
theorem dX1_seek_105 : decode cX1_seek 105 = .ok (.getfield 24, 3) := by decide +kernel
theorem dX1_seek_108 : decode cX1_seek 108 = .ok (.aload_n 0, 1) := by decide +kernel
theorem dX1_seek_109 : decode cX1_seek 109 = .ok (.getfield 28, 3) := by decide +kernel
theorem dX1_seek_112 : decode cX1_seek 112 = .ok (.invokestatic 60, 3) := by decide +kernel
theorem dX1_seek_115 : decode cX1_seek 115 = .ok (.return_, 1) := by decide +kernel
theorem dX1_looksBy_0 : decode cX1_looksBy 0 = .ok (.aload_n 0, 1) := by decide +kernel
theorem dX1_looksBy_1 : decode cX1_looksBy 1 = .ok (.getfield 15, 3) := by decide +kernel
theorem dX1_looksBy_4 : decode cX1_looksBy 4 = .ok (.iload_n 1, 1) := by decide +kernel
theorem dX1_looksBy_5 : decode cX1_looksBy 5 = .ok (.invokestatic 64, 3) := by decide +kernel
theorem dX1_looksBy_8 : decode cX1_looksBy 8 = .ok (.ireturn, 1) := by decide +kernel
theorem dX1_placeBy_0 : decode cX1_placeBy 0 = .ok (.aload_n 0, 1) := by decide +kernel
theorem dX1_placeBy_1 : decode cX1_placeBy 1 = .ok (.getfield 9, 3) := by decide +kernel
theorem dX1_placeBy_4 : decode cX1_placeBy 4 = .ok (.iload_n 1, 1) := by decide +kernel
theorem dX1_placeBy_5 : decode cX1_placeBy 5 = .ok (.bipush 10, 2) := by decide +kernel
theorem dX1_placeBy_7 : decode cX1_placeBy 7 = .ok (.imul, 1) := by decide +kernel
theorem dX1_placeBy_8 : decode cX1_placeBy 8 = .ok (.iload_n 2, 1) := by decide +kernel
theorem dX1_placeBy_9 : decode cX1_placeBy 9 = .ok (.iadd, 1) := by decide +kernel
theorem dX1_placeBy_10 : decode cX1_placeBy 10 = .ok (.invokestatic 64, 3) := by decide +kernel
theorem dX1_placeBy_13 : decode cX1_placeBy 13 = .ok (.ireturn, 1) := by decide +kernel
theorem dX1_placesGoneBack_0 : decode cX1_placesGoneBack 0 = .ok (.iconst 0, 1) := by decide +kernel
theorem dX1_placesGoneBack_1 : decode cX1_placesGoneBack 1 = .ok (.istore_n 1, 1) := by decide +kernel
theorem dX1_placesGoneBack_2 : decode cX1_placesGoneBack 2 = .ok (.iconst 1, 1) := by decide +kernel
theorem dX1_placesGoneBack_3 : decode cX1_placesGoneBack 3 = .ok (.istore_n 2, 1) := by decide +kernel
theorem dX1_placesGoneBack_4 : decode cX1_placesGoneBack 4 = .ok (.iload_n 2, 1) := by decide +kernel
theorem dX1_placesGoneBack_5 : decode cX1_placesGoneBack 5 = .ok (.aload_n 0, 1) := by decide +kernel
theorem dX1_placesGoneBack_6 : decode cX1_placesGoneBack 6 = .ok (.getfield 31, 3) := by decide +kernel
theorem dX1_placesGoneBack_9 : decode cX1_placesGoneBack 9 = .ok (.getfield 38, 3) := by decide +kernel
theorem dX1_placesGoneBack_12 : decode cX1_placesGoneBack 12 = .ok (.if_icmp .ge 29, 3) := by decide +kernel
theorem dX1_placesGoneBack_15 : decode cX1_placesGoneBack 15 = .ok (.aload_n 0, 1) := by decide +kernel
theorem dX1_placesGoneBack_16 : decode cX1_placesGoneBack 16 = .ok (.iconst 0, 1) := by decide +kernel
theorem dX1_placesGoneBack_17 : decode cX1_placesGoneBack 17 = .ok (.iload_n 2, 1) := by decide +kernel
theorem dX1_placesGoneBack_18 : decode cX1_placesGoneBack 18 = .ok (.invokevirtual 68, 3) := by decide +kernel
theorem dX1_placesGoneBack_21 : decode cX1_placesGoneBack 21 = .ok (.aload_n 0, 1) := by decide +kernel
theorem dX1_placesGoneBack_22 : decode cX1_placesGoneBack 22 = .ok (.iconst 0, 1) := by decide +kernel
theorem dX1_placesGoneBack_23 : decode cX1_placesGoneBack 23 = .ok (.iload_n 2, 1) := by decide +kernel
theorem dX1_placesGoneBack_24 : decode cX1_placesGoneBack 24 = .ok (.iconst 1, 1) := by decide +kernel
theorem dX1_placesGoneBack_25 : decode cX1_placesGoneBack 25 = .ok (.isub, 1) := by decide +kernel
theorem dX1_placesGoneBack_26 : decode cX1_placesGoneBack 26 = .ok (.invokevirtual 68, 3) := by decide +kernel
theorem dX1_placesGoneBack_29 : decode cX1_placesGoneBack 29 = .ok (.if_icmp .ge 6, 3) := by decide +kernel
theorem dX1_placesGoneBack_32 : decode cX1_placesGoneBack 32 = .ok (.iinc 1 1, 3) := by decide +kernel
theorem dX1_placesGoneBack_35 : decode cX1_placesGoneBack 35 = .ok (.iinc 2 1, 3) := by decide +kernel
theorem dX1_placesGoneBack_38 : decode cX1_placesGoneBack 38 = .ok (.goto (-34), 3) := by decide +kernel
theorem dX1_placesGoneBack_41 : decode cX1_placesGoneBack 41 = .ok (.iload_n 1, 1) := by decide +kernel
theorem dX1_placesGoneBack_42 : decode cX1_placesGoneBack 42 = .ok (.ireturn, 1) := by decide +kernel
theorem dX1_shareOfHalves_0 : decode cX1_shareOfHalves 0 = .ok (.aload_n 0, 1) := by decide +kernel
theorem dX1_shareOfHalves_1 : decode cX1_shareOfHalves 1 = .ok (.iconst 0, 1) := by decide +kernel
theorem dX1_shareOfHalves_2 : decode cX1_shareOfHalves 2 = .ok (.invokevirtual 72, 3) := by decide +kernel
theorem dX1_shareOfHalves_5 : decode cX1_shareOfHalves 5 = .ok (.istore_n 1, 1) := by decide +kernel
theorem dX1_shareOfHalves_6 : decode cX1_shareOfHalves 6 = .ok (.iload_n 1, 1) := by decide +kernel
theorem dX1_shareOfHalves_7 : decode cX1_shareOfHalves 7 = .ok (.ifCond .gt 7, 3) := by decide +kernel
theorem dX1_shareOfHalves_10 : decode cX1_shareOfHalves 10 = .ok (.dconst 0, 1) := by decide +kernel
theorem dX1_shareOfHalves_11 : decode cX1_shareOfHalves 11 = .ok (.goto 12, 3) := by decide +kernel
theorem dX1_shareOfHalves_14 : decode cX1_shareOfHalves 14 = .ok (.aload_n 0, 1) := by decide +kernel
theorem dX1_shareOfHalves_15 : decode cX1_shareOfHalves 15 = .ok (.iconst 1, 1) := by decide +kernel
theorem dX1_shareOfHalves_16 : decode cX1_shareOfHalves 16 = .ok (.invokevirtual 72, 3) := by decide +kernel
theorem dX1_shareOfHalves_19 : decode cX1_shareOfHalves 19 = .ok (.i2d, 1) := by decide +kernel
theorem dX1_shareOfHalves_20 : decode cX1_shareOfHalves 20 = .ok (.iload_n 1, 1) := by decide +kernel
theorem dX1_shareOfHalves_21 : decode cX1_shareOfHalves 21 = .ok (.i2d, 1) := by decide +kernel
theorem dX1_shareOfHalves_22 : decode cX1_shareOfHalves 22 = .ok (.ddiv, 1) := by decide +kernel
theorem dX1_shareOfHalves_23 : decode cX1_shareOfHalves 23 = .ok (.dreturn, 1) := by decide +kernel
theorem dX1_leaveAllColumns_0 : decode cX1_leaveAllColumns 0 = .ok (.iconst 0, 1) := by decide +kernel
theorem dX1_leaveAllColumns_1 : decode cX1_leaveAllColumns 1 = .ok (.istore_n 1, 1) := by decide +kernel
theorem dX1_leaveAllColumns_2 : decode cX1_leaveAllColumns 2 = .ok (.iload_n 1, 1) := by decide +kernel
theorem dX1_leaveAllColumns_3 : decode cX1_leaveAllColumns 3 = .ok (.aload_n 0, 1) := by decide +kernel
theorem dX1_leaveAllColumns_4 : decode cX1_leaveAllColumns 4 = .ok (.getfield 31, 3) := by decide +kernel
theorem dX1_leaveAllColumns_7 : decode cX1_leaveAllColumns 7 = .ok (.getfield 43, 3) := by decide +kernel
theorem dX1_leaveAllColumns_10 : decode cX1_leaveAllColumns 10 = .ok (.if_icmp .ge 18, 3) := by decide +kernel
theorem dX1_leaveAllColumns_13 : decode cX1_leaveAllColumns 13 = .ok (.aload_n 0, 1) := by decide +kernel
theorem dX1_leaveAllColumns_14 : decode cX1_leaveAllColumns 14 = .ok (.getfield 18, 3) := by decide +kernel
theorem dX1_leaveAllColumns_17 : decode cX1_leaveAllColumns 17 = .ok (.iload_n 1, 1) := by decide +kernel
theorem dX1_leaveAllColumns_18 : decode cX1_leaveAllColumns 18 = .ok (.iload_n 1, 1) := by decide +kernel
theorem dX1_leaveAllColumns_19 : decode cX1_leaveAllColumns 19 = .ok (.invokestatic 60, 3) := by decide +kernel
theorem dX1_leaveAllColumns_22 : decode cX1_leaveAllColumns 22 = .ok (.iinc 1 1, 3) := by decide +kernel
theorem dX1_leaveAllColumns_25 : decode cX1_leaveAllColumns 25 = .ok (.goto (-23), 3) := by decide +kernel
theorem dX1_leaveAllColumns_28 : decode cX1_leaveAllColumns 28 = .ok (.aload_n 0, 1) := by decide +kernel
theorem dX1_leaveAllColumns_29 : decode cX1_leaveAllColumns 29 = .ok (.getfield 21, 3) := by decide +kernel
theorem dX1_leaveAllColumns_32 : decode cX1_leaveAllColumns 32 = .ok (.iconst 0, 1) := by decide +kernel
theorem dX1_leaveAllColumns_33 : decode cX1_leaveAllColumns 33 = .ok (.aload_n 0, 1) := by decide +kernel
theorem dX1_leaveAllColumns_34 : decode cX1_leaveAllColumns 34 = .ok (.getfield 31, 3) := by decide +kernel
theorem dX1_leaveAllColumns_37 : decode cX1_leaveAllColumns 37 = .ok (.getfield 43, 3) := by decide +kernel
theorem dX1_leaveAllColumns_40 : decode cX1_leaveAllColumns 40 = .ok (.invokestatic 60, 3) := by decide +kernel
theorem dX1_leaveAllColumns_43 : decode cX1_leaveAllColumns 43 = .ok (.return_, 1) := by decide +kernel
theorem dX1_lookAtAll_0 : decode cX1_lookAtAll 0 = .ok (.iconst 0, 1) := by decide +kernel
theorem dX1_lookAtAll_1 : decode cX1_lookAtAll 1 = .ok (.istore_n 1, 1) := by decide +kernel
theorem dX1_lookAtAll_2 : decode cX1_lookAtAll 2 = .ok (.iload_n 1, 1) := by decide +kernel
theorem dX1_lookAtAll_3 : decode cX1_lookAtAll 3 = .ok (.aload_n 0, 1) := by decide +kernel
theorem dX1_lookAtAll_4 : decode cX1_lookAtAll 4 = .ok (.getfield 31, 3) := by decide +kernel
theorem dX1_lookAtAll_7 : decode cX1_lookAtAll 7 = .ok (.getfield 38, 3) := by decide +kernel
theorem dX1_lookAtAll_10 : decode cX1_lookAtAll 10 = .ok (.if_icmp .ge 30, 3) := by decide +kernel
theorem dX1_lookAtAll_13 : decode cX1_lookAtAll 13 = .ok (.aload_n 0, 1) := by decide +kernel
theorem dX1_lookAtAll_14 : decode cX1_lookAtAll 14 = .ok (.iload_n 1, 1) := by decide +kernel
theorem dX1_lookAtAll_15 : decode cX1_lookAtAll 15 = .ok (.aload_n 0, 1) := by decide +kernel
theorem dX1_lookAtAll_16 : decode cX1_lookAtAll 16 = .ok (.iload_n 1, 1) := by decide +kernel
theorem dX1_lookAtAll_17 : decode cX1_lookAtAll 17 = .ok (.iconst 0, 1) := by decide +kernel
theorem dX1_lookAtAll_18 : decode cX1_lookAtAll 18 = .ok (.iconst 0, 1) := by decide +kernel
theorem dX1_lookAtAll_19 : decode cX1_lookAtAll 19 = .ok (.aload_n 0, 1) := by decide +kernel
theorem dX1_lookAtAll_20 : decode cX1_lookAtAll 20 = .ok (.getfield 31, 3) := by decide +kernel
theorem dX1_lookAtAll_23 : decode cX1_lookAtAll 23 = .ok (.getfield 43, 3) := by decide +kernel
theorem dX1_lookAtAll_26 : decode cX1_lookAtAll 26 = .ok (.iconst 1, 1) := by decide +kernel
theorem dX1_lookAtAll_27 : decode cX1_lookAtAll 27 = .ok (.isub, 1) := by decide +kernel
theorem dX1_lookAtAll_28 : decode cX1_lookAtAll 28 = .ok (.invokevirtual 76, 3) := by decide +kernel
theorem dX1_lookAtAll_31 : decode cX1_lookAtAll 31 = .ok (.invokevirtual 80, 3) := by decide +kernel
theorem dX1_lookAtAll_34 : decode cX1_lookAtAll 34 = .ok (.iinc 1 1, 3) := by decide +kernel
theorem dX1_lookAtAll_37 : decode cX1_lookAtAll 37 = .ok (.goto (-35), 3) := by decide +kernel
theorem dX1_lookAtAll_40 : decode cX1_lookAtAll 40 = .ok (.return_, 1) := by decide +kernel
theorem dX1_halve_0 : decode cX1_halve 0 = .ok (.aload_n 0, 1) := by decide +kernel
theorem dX1_halve_1 : decode cX1_halve 1 = .ok (.ifnull 15, 3) := by decide +kernel
theorem dX1_halve_4 : decode cX1_halve 4 = .ok (.iload_n 1, 1) := by decide +kernel
theorem dX1_halve_5 : decode cX1_halve 5 = .ok (.iload_n 2, 1) := by decide +kernel
theorem dX1_halve_6 : decode cX1_halve 6 = .ok (.if_icmp .gt 10, 3) := by decide +kernel
theorem dX1_halve_9 : decode cX1_halve 9 = .ok (.iload 5, 2) := by decide +kernel
theorem dX1_halve_11 : decode cX1_halve 11 = .ok (.bipush 10, 2) := by decide +kernel
theorem dX1_halve_13 : decode cX1_halve 13 = .ok (.if_icmp .le 4, 3) := by decide +kernel
theorem dX1_halve_16 : decode cX1_halve 16 = .ok (.return_, 1) := by decide +kernel
theorem dX1_halve_17 : decode cX1_halve 17 = .ok (.iload_n 1, 1) := by decide +kernel
theorem dX1_halve_18 : decode cX1_halve 18 = .ok (.iload_n 2, 1) := by decide +kernel
theorem dX1_halve_19 : decode cX1_halve 19 = .ok (.iadd, 1) := by decide +kernel
theorem dX1_halve_20 : decode cX1_halve 20 = .ok (.iconst 2, 1) := by decide +kernel
theorem dX1_halve_21 : decode cX1_halve 21 = .ok (.idiv, 1) := by decide +kernel
theorem dX1_halve_22 : decode cX1_halve 22 = .ok (.istore 6, 2) := by decide +kernel
theorem dX1_halve_24 : decode cX1_halve 24 = .ok (.aload_n 0, 1) := by decide +kernel
theorem dX1_halve_25 : decode cX1_halve 25 = .ok (.iload 6, 2) := by decide +kernel
theorem dX1_halve_27 : decode cX1_halve 27 = .ok (.iconst 0, 1) := by decide +kernel
theorem dX1_halve_28 : decode cX1_halve 28 = .ok (.iload_n 3, 1) := by decide +kernel
theorem dX1_halve_29 : decode cX1_halve 29 = .ok (.iload 4, 2) := by decide +kernel
theorem dX1_halve_31 : decode cX1_halve 31 = .ok (.invokevirtual 76, 3) := by decide +kernel
theorem dX1_halve_34 : decode cX1_halve 34 = .ok (.istore 7, 2) := by decide +kernel
theorem dX1_halve_36 : decode cX1_halve 36 = .ok (.aload_n 0, 1) := by decide +kernel
theorem dX1_halve_37 : decode cX1_halve 37 = .ok (.iload 6, 2) := by decide +kernel
theorem dX1_halve_39 : decode cX1_halve 39 = .ok (.iload 7, 2) := by decide +kernel
theorem dX1_halve_41 : decode cX1_halve 41 = .ok (.invokevirtual 80, 3) := by decide +kernel
theorem dX1_halve_44 : decode cX1_halve 44 = .ok (.aload_n 0, 1) := by decide +kernel
theorem dX1_halve_45 : decode cX1_halve 45 = .ok (.iload_n 1, 1) := by decide +kernel
theorem dX1_halve_46 : decode cX1_halve 46 = .ok (.iload 6, 2) := by decide +kernel
theorem dX1_halve_48 : decode cX1_halve 48 = .ok (.iconst 1, 1) := by decide +kernel
theorem dX1_halve_49 : decode cX1_halve 49 = .ok (.isub, 1) := by decide +kernel
theorem dX1_halve_50 : decode cX1_halve 50 = .ok (.iload_n 3, 1) := by decide +kernel
theorem dX1_halve_51 : decode cX1_halve 51 = .ok (.iload 7, 2) := by decide +kernel
theorem dX1_halve_53 : decode cX1_halve 53 = .ok (.iload 5, 2) := by decide +kernel
theorem dX1_halve_55 : decode cX1_halve 55 = .ok (.iconst 1, 1) := by decide +kernel
theorem dX1_halve_56 : decode cX1_halve 56 = .ok (.iadd, 1) := by decide +kernel
theorem dX1_halve_57 : decode cX1_halve 57 = .ok (.invokestatic 46, 3) := by decide +kernel
theorem dX1_halve_60 : decode cX1_halve 60 = .ok (.aload_n 0, 1) := by decide +kernel
theorem dX1_halve_61 : decode cX1_halve 61 = .ok (.iload 6, 2) := by decide +kernel
theorem dX1_halve_63 : decode cX1_halve 63 = .ok (.iconst 1, 1) := by decide +kernel
theorem dX1_halve_64 : decode cX1_halve 64 = .ok (.iadd, 1) := by decide +kernel
theorem dX1_halve_65 : decode cX1_halve 65 = .ok (.iload_n 2, 1) := by decide +kernel
theorem dX1_halve_66 : decode cX1_halve 66 = .ok (.iload 7, 2) := by decide +kernel
theorem dX1_halve_68 : decode cX1_halve 68 = .ok (.iload 4, 2) := by decide +kernel
theorem dX1_halve_70 : decode cX1_halve 70 = .ok (.iload 5, 2) := by decide +kernel
theorem dX1_halve_72 : decode cX1_halve 72 = .ok (.iconst 1, 1) := by decide +kernel
theorem dX1_halve_73 : decode cX1_halve 73 = .ok (.iadd, 1) := by decide +kernel
theorem dX1_halve_74 : decode cX1_halve 74 = .ok (.invokestatic 46, 3) := by decide +kernel
theorem dX1_halve_77 : decode cX1_halve 77 = .ok (.return_, 1) := by decide +kernel
theorem dX1_rowsAt_0 : decode cX1_rowsAt 0 = .ok (.aload_n 0, 1) := by decide +kernel
theorem dX1_rowsAt_1 : decode cX1_rowsAt 1 = .ok (.getfield 31, 3) := by decide +kernel
theorem dX1_rowsAt_4 : decode cX1_rowsAt 4 = .ok (.getfield 38, 3) := by decide +kernel
theorem dX1_rowsAt_7 : decode cX1_rowsAt 7 = .ok (.iload_n 1, 1) := by decide +kernel
theorem dX1_rowsAt_8 : decode cX1_rowsAt 8 = .ok (.ishr, 1) := by decide +kernel
theorem dX1_rowsAt_9 : decode cX1_rowsAt 9 = .ok (.ireturn, 1) := by decide +kernel
theorem dX1_rowAt_0 : decode cX1_rowAt 0 = .ok (.iload_n 2, 1) := by decide +kernel
theorem dX1_rowAt_1 : decode cX1_rowAt 1 = .ok (.iconst 1, 1) := by decide +kernel
theorem dX1_rowAt_2 : decode cX1_rowAt 2 = .ok (.iadd, 1) := by decide +kernel
theorem dX1_rowAt_3 : decode cX1_rowAt 3 = .ok (.iload_n 1, 1) := by decide +kernel
theorem dX1_rowAt_4 : decode cX1_rowAt 4 = .ok (.ishl, 1) := by decide +kernel
theorem dX1_rowAt_5 : decode cX1_rowAt 5 = .ok (.iconst 1, 1) := by decide +kernel
theorem dX1_rowAt_6 : decode cX1_rowAt 6 = .ok (.isub, 1) := by decide +kernel
theorem dX1_rowAt_7 : decode cX1_rowAt 7 = .ok (.ireturn, 1) := by decide +kernel
theorem dX1_columnLeft_0 : decode cX1_columnLeft 0 = .ok (.aload_n 0, 1) := by decide +kernel
theorem dX1_columnLeft_1 : decode cX1_columnLeft 1 = .ok (.getfield 18, 3) := by decide +kernel
theorem dX1_columnLeft_4 : decode cX1_columnLeft 4 = .ok (.iload_n 1, 1) := by decide +kernel
theorem dX1_columnLeft_5 : decode cX1_columnLeft 5 = .ok (.bipush 10, 2) := by decide +kernel
theorem dX1_columnLeft_7 : decode cX1_columnLeft 7 = .ok (.imul, 1) := by decide +kernel
theorem dX1_columnLeft_8 : decode cX1_columnLeft 8 = .ok (.iload_n 2, 1) := by decide +kernel
theorem dX1_columnLeft_9 : decode cX1_columnLeft 9 = .ok (.iadd, 1) := by decide +kernel
theorem dX1_columnLeft_10 : decode cX1_columnLeft 10 = .ok (.invokestatic 64, 3) := by decide +kernel
theorem dX1_columnLeft_13 : decode cX1_columnLeft 13 = .ok (.ireturn, 1) := by decide +kernel
theorem dX1_pileColumns_0 : decode cX1_pileColumns 0 = .ok (.aload_n 0, 1) := by decide +kernel
theorem dX1_pileColumns_1 : decode cX1_pileColumns 1 = .ok (.iload_n 1, 1) := by decide +kernel
theorem dX1_pileColumns_2 : decode cX1_pileColumns 2 = .ok (.invokevirtual 84, 3) := by decide +kernel
theorem dX1_pileColumns_5 : decode cX1_pileColumns 5 = .ok (.istore_n 2, 1) := by decide +kernel
theorem dX1_pileColumns_6 : decode cX1_pileColumns 6 = .ok (.iload_n 2, 1) := by decide +kernel
theorem dX1_pileColumns_7 : decode cX1_pileColumns 7 = .ok (.ifCond .ne 7, 3) := by decide +kernel
theorem dX1_pileColumns_10 : decode cX1_pileColumns 10 = .ok (.iconst 0, 1) := by decide +kernel
theorem dX1_pileColumns_11 : decode cX1_pileColumns 11 = .ok (.goto 11, 3) := by decide +kernel
theorem dX1_pileColumns_14 : decode cX1_pileColumns 14 = .ok (.aload_n 0, 1) := by decide +kernel
theorem dX1_pileColumns_15 : decode cX1_pileColumns 15 = .ok (.getfield 21, 3) := by decide +kernel
theorem dX1_pileColumns_18 : decode cX1_pileColumns 18 = .ok (.iload_n 1, 1) := by decide +kernel
theorem dX1_pileColumns_19 : decode cX1_pileColumns 19 = .ok (.invokestatic 64, 3) := by decide +kernel
theorem dX1_pileColumns_22 : decode cX1_pileColumns 22 = .ok (.istore_n 3, 1) := by decide +kernel
theorem dX1_pileColumns_23 : decode cX1_pileColumns 23 = .ok (.iconst 0, 1) := by decide +kernel
theorem dX1_pileColumns_24 : decode cX1_pileColumns 24 = .ok (.istore 4, 2) := by decide +kernel
theorem dX1_pileColumns_26 : decode cX1_pileColumns 26 = .ok (.iconst 0, 1) := by decide +kernel
theorem dX1_pileColumns_27 : decode cX1_pileColumns 27 = .ok (.istore 5, 2) := by decide +kernel
theorem dX1_pileColumns_29 : decode cX1_pileColumns 29 = .ok (.iload 5, 2) := by decide +kernel
theorem dX1_pileColumns_31 : decode cX1_pileColumns 31 = .ok (.iload_n 3, 1) := by decide +kernel
theorem dX1_pileColumns_32 : decode cX1_pileColumns 32 = .ok (.if_icmp .ge 56, 3) := by decide +kernel
theorem dX1_pileColumns_35 : decode cX1_pileColumns 35 = .ok (.aload_n 0, 1) := by decide +kernel
theorem dX1_pileColumns_36 : decode cX1_pileColumns 36 = .ok (.iload_n 1, 1) := by decide +kernel
theorem dX1_pileColumns_37 : decode cX1_pileColumns 37 = .ok (.iload 5, 2) := by decide +kernel
theorem dX1_pileColumns_39 : decode cX1_pileColumns 39 = .ok (.invokevirtual 87, 3) := by decide +kernel
theorem dX1_pileColumns_42 : decode cX1_pileColumns 42 = .ok (.istore 6, 2) := by decide +kernel
theorem dX1_pileColumns_44 : decode cX1_pileColumns 44 = .ok (.aload_n 0, 1) := by decide +kernel
theorem dX1_pileColumns_45 : decode cX1_pileColumns 45 = .ok (.iload_n 1, 1) := by decide +kernel
theorem dX1_pileColumns_46 : decode cX1_pileColumns 46 = .ok (.iload 4, 2) := by decide +kernel
theorem dX1_pileColumns_48 : decode cX1_pileColumns 48 = .ok (.iload 6, 2) := by decide +kernel
theorem dX1_pileColumns_50 : decode cX1_pileColumns 50 = .ok (.invokevirtual 90, 3) := by decide +kernel
theorem dX1_pileColumns_53 : decode cX1_pileColumns 53 = .ok (.istore 4, 2) := by decide +kernel
theorem dX1_pileColumns_55 : decode cX1_pileColumns 55 = .ok (.iload 4, 2) := by decide +kernel
theorem dX1_pileColumns_57 : decode cX1_pileColumns 57 = .ok (.iload_n 2, 1) := by decide +kernel
theorem dX1_pileColumns_58 : decode cX1_pileColumns 58 = .ok (.if_icmp .ge 24, 3) := by decide +kernel
theorem dX1_pileColumns_61 : decode cX1_pileColumns 61 = .ok (.aload_n 0, 1) := by decide +kernel
theorem dX1_pileColumns_62 : decode cX1_pileColumns 62 = .ok (.getfield 18, 3) := by decide +kernel
theorem dX1_pileColumns_65 : decode cX1_pileColumns 65 = .ok (.iload_n 1, 1) := by decide +kernel
theorem dX1_pileColumns_66 : decode cX1_pileColumns 66 = .ok (.iconst 1, 1) := by decide +kernel
theorem dX1_pileColumns_67 : decode cX1_pileColumns 67 = .ok (.iadd, 1) := by decide +kernel
theorem dX1_pileColumns_68 : decode cX1_pileColumns 68 = .ok (.bipush 10, 2) := by decide +kernel
theorem dX1_pileColumns_70 : decode cX1_pileColumns 70 = .ok (.imul, 1) := by decide +kernel
theorem dX1_pileColumns_71 : decode cX1_pileColumns 71 = .ok (.iload 4, 2) := by decide +kernel
theorem dX1_pileColumns_73 : decode cX1_pileColumns 73 = .ok (.iadd, 1) := by decide +kernel
theorem dX1_pileColumns_74 : decode cX1_pileColumns 74 = .ok (.iload 6, 2) := by decide +kernel
theorem dX1_pileColumns_76 : decode cX1_pileColumns 76 = .ok (.invokestatic 60, 3) := by decide +kernel
theorem dX1_pileColumns_79 : decode cX1_pileColumns 79 = .ok (.iinc 4 1, 3) := by decide +kernel
theorem dX1_pileColumns_82 : decode cX1_pileColumns 82 = .ok (.iinc 5 1, 3) := by decide +kernel
theorem dX1_pileColumns_85 : decode cX1_pileColumns 85 = .ok (.goto (-56), 3) := by decide +kernel
theorem dX1_pileColumns_88 : decode cX1_pileColumns 88 = .ok (.aload_n 0, 1) := by decide +kernel
theorem dX1_pileColumns_89 : decode cX1_pileColumns 89 = .ok (.getfield 21, 3) := by decide +kernel
theorem dX1_pileColumns_92 : decode cX1_pileColumns 92 = .ok (.iload_n 1, 1) := by decide +kernel
theorem dX1_pileColumns_93 : decode cX1_pileColumns 93 = .ok (.iconst 1, 1) := by decide +kernel
theorem dX1_pileColumns_94 : decode cX1_pileColumns 94 = .ok (.iadd, 1) := by decide +kernel
theorem dX1_pileColumns_95 : decode cX1_pileColumns 95 = .ok (.iload 4, 2) := by decide +kernel
theorem dX1_pileColumns_97 : decode cX1_pileColumns 97 = .ok (.invokestatic 60, 3) := by decide +kernel
theorem dX1_pileColumns_100 : decode cX1_pileColumns 100 = .ok (.return_, 1) := by decide +kernel
theorem dX1_heightAfterThrowing_0 : decode cX1_heightAfterThrowing 0 = .ok (.iload_n 2, 1) := by decide +kernel
theorem dX1_heightAfterThrowing_1 : decode cX1_heightAfterThrowing 1 = .ok (.istore 4, 2) := by decide +kernel
theorem dX1_heightAfterThrowing_3 : decode cX1_heightAfterThrowing 3 = .ok (.iload 4, 2) := by decide +kernel
theorem dX1_heightAfterThrowing_5 : decode cX1_heightAfterThrowing 5 = .ok (.ifCond .le 58, 3) := by decide +kernel
theorem dX1_heightAfterThrowing_8 : decode cX1_heightAfterThrowing 8 = .ok (.aload_n 0, 1) := by decide +kernel
theorem dX1_heightAfterThrowing_9 : decode cX1_heightAfterThrowing 9 = .ok (.iload_n 1, 1) := by decide +kernel
theorem dX1_heightAfterThrowing_10 : decode cX1_heightAfterThrowing 10 = .ok (.iload 4, 2) := by decide +kernel
theorem dX1_heightAfterThrowing_12 : decode cX1_heightAfterThrowing 12 = .ok (.iconst 1, 1) := by decide +kernel
theorem dX1_heightAfterThrowing_13 : decode cX1_heightAfterThrowing 13 = .ok (.isub, 1) := by decide +kernel
theorem dX1_heightAfterThrowing_14 : decode cX1_heightAfterThrowing 14 = .ok (.invokevirtual 94, 3) := by decide +kernel
theorem dX1_heightAfterThrowing_17 : decode cX1_heightAfterThrowing 17 = .ok (.istore 5, 2) := by decide +kernel
theorem dX1_heightAfterThrowing_19 : decode cX1_heightAfterThrowing 19 = .ok (.aload_n 0, 1) := by decide +kernel
theorem dX1_heightAfterThrowing_20 : decode cX1_heightAfterThrowing 20 = .ok (.iload 5, 2) := by decide +kernel
theorem dX1_heightAfterThrowing_22 : decode cX1_heightAfterThrowing 22 = .ok (.aload_n 0, 1) := by decide +kernel
theorem dX1_heightAfterThrowing_23 : decode cX1_heightAfterThrowing 23 = .ok (.iload_n 1, 1) := by decide +kernel
theorem dX1_heightAfterThrowing_24 : decode cX1_heightAfterThrowing 24 = .ok (.iconst 1, 1) := by decide +kernel
theorem dX1_heightAfterThrowing_25 : decode cX1_heightAfterThrowing 25 = .ok (.iadd, 1) := by decide +kernel
theorem dX1_heightAfterThrowing_26 : decode cX1_heightAfterThrowing 26 = .ok (.iload 4, 2) := by decide +kernel
theorem dX1_heightAfterThrowing_28 : decode cX1_heightAfterThrowing 28 = .ok (.iconst 1, 1) := by decide +kernel
theorem dX1_heightAfterThrowing_29 : decode cX1_heightAfterThrowing 29 = .ok (.isub, 1) := by decide +kernel
theorem dX1_heightAfterThrowing_30 : decode cX1_heightAfterThrowing 30 = .ok (.invokevirtual 87, 3) := by decide +kernel
theorem dX1_heightAfterThrowing_33 : decode cX1_heightAfterThrowing 33 = .ok (.invokevirtual 97, 3) := by decide +kernel
theorem dX1_heightAfterThrowing_36 : decode cX1_heightAfterThrowing 36 = .ok (.istore 6, 2) := by decide +kernel
theorem dX1_heightAfterThrowing_38 : decode cX1_heightAfterThrowing 38 = .ok (.aload_n 0, 1) := by decide +kernel
theorem dX1_heightAfterThrowing_39 : decode cX1_heightAfterThrowing 39 = .ok (.iload 5, 2) := by decide +kernel
theorem dX1_heightAfterThrowing_41 : decode cX1_heightAfterThrowing 41 = .ok (.iload_n 3, 1) := by decide +kernel
theorem dX1_heightAfterThrowing_42 : decode cX1_heightAfterThrowing 42 = .ok (.invokevirtual 97, 3) := by decide +kernel
theorem dX1_heightAfterThrowing_45 : decode cX1_heightAfterThrowing 45 = .ok (.istore 7, 2) := by decide +kernel
theorem dX1_heightAfterThrowing_47 : decode cX1_heightAfterThrowing 47 = .ok (.iload 6, 2) := by decide +kernel
theorem dX1_heightAfterThrowing_49 : decode cX1_heightAfterThrowing 49 = .ok (.iload 7, 2) := by decide +kernel
theorem dX1_heightAfterThrowing_51 : decode cX1_heightAfterThrowing 51 = .ok (.if_icmp .gt 6, 3) := by decide +kernel
theorem dX1_heightAfterThrowing_54 : decode cX1_heightAfterThrowing 54 = .ok (.iload 4, 2) := by decide +kernel
theorem dX1_heightAfterThrowing_56 : decode cX1_heightAfterThrowing 56 = .ok (.ireturn, 1) := by decide +kernel
theorem dX1_heightAfterThrowing_57 : decode cX1_heightAfterThrowing 57 = .ok (.iinc 4 (-1), 3) := by decide +kernel
theorem dX1_heightAfterThrowing_60 : decode cX1_heightAfterThrowing 60 = .ok (.goto (-57), 3) := by decide +kernel
theorem dX1_heightAfterThrowing_63 : decode cX1_heightAfterThrowing 63 = .ok (.iconst 0, 1) := by decide +kernel
theorem dX1_heightAfterThrowing_64 : decode cX1_heightAfterThrowing 64 = .ok (.ireturn, 1) := by decide +kernel
theorem dX1_fillBetween_0 : decode cX1_fillBetween 0 = .ok (.aload_n 0, 1) := by decide +kernel
theorem dX1_fillBetween_1 : decode cX1_fillBetween 1 = .ok (.iload_n 1, 1) := by decide +kernel
theorem dX1_fillBetween_2 : decode cX1_fillBetween 2 = .ok (.invokevirtual 84, 3) := by decide +kernel
theorem dX1_fillBetween_5 : decode cX1_fillBetween 5 = .ok (.istore_n 2, 1) := by decide +kernel
theorem dX1_fillBetween_6 : decode cX1_fillBetween 6 = .ok (.iconst 0, 1) := by decide +kernel
theorem dX1_fillBetween_7 : decode cX1_fillBetween 7 = .ok (.istore_n 3, 1) := by decide +kernel
theorem dX1_fillBetween_8 : decode cX1_fillBetween 8 = .ok (.iload_n 3, 1) := by decide +kernel
theorem dX1_fillBetween_9 : decode cX1_fillBetween 9 = .ok (.iload_n 2, 1) := by decide +kernel
theorem dX1_fillBetween_10 : decode cX1_fillBetween 10 = .ok (.if_icmp .ge 99, 3) := by decide +kernel
theorem dX1_fillBetween_13 : decode cX1_fillBetween 13 = .ok (.aload_n 0, 1) := by decide +kernel
theorem dX1_fillBetween_14 : decode cX1_fillBetween 14 = .ok (.iload_n 1, 1) := by decide +kernel
theorem dX1_fillBetween_15 : decode cX1_fillBetween 15 = .ok (.iload_n 3, 1) := by decide +kernel
theorem dX1_fillBetween_16 : decode cX1_fillBetween 16 = .ok (.invokevirtual 94, 3) := by decide +kernel
theorem dX1_fillBetween_19 : decode cX1_fillBetween 19 = .ok (.istore 4, 2) := by decide +kernel
theorem dX1_fillBetween_21 : decode cX1_fillBetween 21 = .ok (.iload_n 3, 1) := by decide +kernel
theorem dX1_fillBetween_22 : decode cX1_fillBetween 22 = .ok (.ifCond .ne 7, 3) := by decide +kernel
theorem dX1_fillBetween_25 : decode cX1_fillBetween 25 = .ok (.iconst 0, 1) := by decide +kernel
theorem dX1_fillBetween_26 : decode cX1_fillBetween 26 = .ok (.goto 19, 3) := by decide +kernel
theorem dX1_fillBetween_29 : decode cX1_fillBetween 29 = .ok (.aload_n 0, 1) := by decide +kernel
theorem dX1_fillBetween_30 : decode cX1_fillBetween 30 = .ok (.aload_n 0, 1) := by decide +kernel
theorem dX1_fillBetween_31 : decode cX1_fillBetween 31 = .ok (.getfield 24, 3) := by decide +kernel
theorem dX1_fillBetween_34 : decode cX1_fillBetween 34 = .ok (.aload_n 0, 1) := by decide +kernel
theorem dX1_fillBetween_35 : decode cX1_fillBetween 35 = .ok (.iload_n 1, 1) := by decide +kernel
theorem dX1_fillBetween_36 : decode cX1_fillBetween 36 = .ok (.iload_n 3, 1) := by decide +kernel
theorem dX1_fillBetween_37 : decode cX1_fillBetween 37 = .ok (.iconst 1, 1) := by decide +kernel
theorem dX1_fillBetween_38 : decode cX1_fillBetween 38 = .ok (.isub, 1) := by decide +kernel
theorem dX1_fillBetween_39 : decode cX1_fillBetween 39 = .ok (.invokevirtual 94, 3) := by decide +kernel
theorem dX1_fillBetween_42 : decode cX1_fillBetween 42 = .ok (.invokevirtual 68, 3) := by decide +kernel
theorem dX1_fillBetween_45 : decode cX1_fillBetween 45 = .ok (.istore 5, 2) := by decide +kernel
theorem dX1_fillBetween_47 : decode cX1_fillBetween 47 = .ok (.iload_n 3, 1) := by decide +kernel
theorem dX1_fillBetween_48 : decode cX1_fillBetween 48 = .ok (.iload_n 2, 1) := by decide +kernel
theorem dX1_fillBetween_49 : decode cX1_fillBetween 49 = .ok (.iconst 1, 1) := by decide +kernel
theorem dX1_fillBetween_50 : decode cX1_fillBetween 50 = .ok (.isub, 1) := by decide +kernel
theorem dX1_fillBetween_51 : decode cX1_fillBetween 51 = .ok (.if_icmp .ne 15, 3) := by decide +kernel
theorem dX1_fillBetween_54 : decode cX1_fillBetween 54 = .ok (.aload_n 0, 1) := by decide +kernel
theorem dX1_fillBetween_55 : decode cX1_fillBetween 55 = .ok (.getfield 31, 3) := by decide +kernel
theorem dX1_fillBetween_58 : decode cX1_fillBetween 58 = .ok (.getfield 43, 3) := by decide +kernel
theorem dX1_fillBetween_61 : decode cX1_fillBetween 61 = .ok (.iconst 1, 1) := by decide +kernel
theorem dX1_fillBetween_62 : decode cX1_fillBetween 62 = .ok (.isub, 1) := by decide +kernel
theorem dX1_fillBetween_63 : decode cX1_fillBetween 63 = .ok (.goto 19, 3) := by decide +kernel
theorem dX1_fillBetween_66 : decode cX1_fillBetween 66 = .ok (.aload_n 0, 1) := by decide +kernel
theorem dX1_fillBetween_67 : decode cX1_fillBetween 67 = .ok (.aload_n 0, 1) := by decide +kernel
theorem dX1_fillBetween_68 : decode cX1_fillBetween 68 = .ok (.getfield 24, 3) := by decide +kernel
theorem dX1_fillBetween_71 : decode cX1_fillBetween 71 = .ok (.aload_n 0, 1) := by decide +kernel
theorem dX1_fillBetween_72 : decode cX1_fillBetween 72 = .ok (.iload_n 1, 1) := by decide +kernel
theorem dX1_fillBetween_73 : decode cX1_fillBetween 73 = .ok (.iload_n 3, 1) := by decide +kernel
theorem dX1_fillBetween_74 : decode cX1_fillBetween 74 = .ok (.iconst 1, 1) := by decide +kernel
theorem dX1_fillBetween_75 : decode cX1_fillBetween 75 = .ok (.iadd, 1) := by decide +kernel
theorem dX1_fillBetween_76 : decode cX1_fillBetween 76 = .ok (.invokevirtual 94, 3) := by decide +kernel
theorem dX1_fillBetween_79 : decode cX1_fillBetween 79 = .ok (.invokevirtual 68, 3) := by decide +kernel
theorem dX1_fillBetween_82 : decode cX1_fillBetween 82 = .ok (.istore 6, 2) := by decide +kernel
theorem dX1_fillBetween_84 : decode cX1_fillBetween 84 = .ok (.aload_n 0, 1) := by decide +kernel
theorem dX1_fillBetween_85 : decode cX1_fillBetween 85 = .ok (.iload 4, 2) := by decide +kernel
theorem dX1_fillBetween_87 : decode cX1_fillBetween 87 = .ok (.aload_n 0, 1) := by decide +kernel
theorem dX1_fillBetween_88 : decode cX1_fillBetween 88 = .ok (.iload 4, 2) := by decide +kernel
theorem dX1_fillBetween_90 : decode cX1_fillBetween 90 = .ok (.iload_n 1, 1) := by decide +kernel
theorem dX1_fillBetween_91 : decode cX1_fillBetween 91 = .ok (.iconst 1, 1) := by decide +kernel
theorem dX1_fillBetween_92 : decode cX1_fillBetween 92 = .ok (.iadd, 1) := by decide +kernel
theorem dX1_fillBetween_93 : decode cX1_fillBetween 93 = .ok (.iload 5, 2) := by decide +kernel
theorem dX1_fillBetween_95 : decode cX1_fillBetween 95 = .ok (.iload 6, 2) := by decide +kernel
theorem dX1_fillBetween_97 : decode cX1_fillBetween 97 = .ok (.invokevirtual 76, 3) := by decide +kernel
theorem dX1_fillBetween_100 : decode cX1_fillBetween 100 = .ok (.invokevirtual 80, 3) := by decide +kernel
theorem dX1_fillBetween_103 : decode cX1_fillBetween 103 = .ok (.iinc 3 2, 3) := by decide +kernel
theorem dX1_fillBetween_106 : decode cX1_fillBetween 106 = .ok (.goto (-98), 3) := by decide +kernel
theorem dX1_fillBetween_109 : decode cX1_fillBetween 109 = .ok (.return_, 1) := by decide +kernel
theorem dX1_leftmostLeast_0 : decode cX1_leftmostLeast 0 = .ok (.iconst (-1), 1) := by decide +kernel
theorem dX1_leftmostLeast_1 : decode cX1_leftmostLeast 1 = .ok (.istore 5, 2) := by decide +kernel
theorem dX1_leftmostLeast_3 : decode cX1_leftmostLeast 3 = .ok (.iconst 0, 1) := by decide +kernel
theorem dX1_leftmostLeast_4 : decode cX1_leftmostLeast 4 = .ok (.istore 6, 2) := by decide +kernel
theorem dX1_leftmostLeast_6 : decode cX1_leftmostLeast 6 = .ok (.aload_n 0, 1) := by decide +kernel
theorem dX1_leftmostLeast_7 : decode cX1_leftmostLeast 7 = .ok (.getfield 21, 3) := by decide +kernel
theorem dX1_leftmostLeast_10 : decode cX1_leftmostLeast 10 = .ok (.iload_n 2, 1) := by decide +kernel
theorem dX1_leftmostLeast_11 : decode cX1_leftmostLeast 11 = .ok (.invokestatic 64, 3) := by decide +kernel
theorem dX1_leftmostLeast_14 : decode cX1_leftmostLeast 14 = .ok (.istore 7, 2) := by decide +kernel
theorem dX1_leftmostLeast_16 : decode cX1_leftmostLeast 16 = .ok (.iconst 0, 1) := by decide +kernel
theorem dX1_leftmostLeast_17 : decode cX1_leftmostLeast 17 = .ok (.istore 8, 2) := by decide +kernel
theorem dX1_leftmostLeast_19 : decode cX1_leftmostLeast 19 = .ok (.iload 8, 2) := by decide +kernel
theorem dX1_leftmostLeast_21 : decode cX1_leftmostLeast 21 = .ok (.iload 7, 2) := by decide +kernel
theorem dX1_leftmostLeast_23 : decode cX1_leftmostLeast 23 = .ok (.if_icmp .ge 59, 3) := by decide +kernel
theorem dX1_leftmostLeast_26 : decode cX1_leftmostLeast 26 = .ok (.aload_n 0, 1) := by decide +kernel
theorem dX1_leftmostLeast_27 : decode cX1_leftmostLeast 27 = .ok (.iload_n 2, 1) := by decide +kernel
theorem dX1_leftmostLeast_28 : decode cX1_leftmostLeast 28 = .ok (.iload 8, 2) := by decide +kernel
theorem dX1_leftmostLeast_30 : decode cX1_leftmostLeast 30 = .ok (.invokevirtual 87, 3) := by decide +kernel
theorem dX1_leftmostLeast_33 : decode cX1_leftmostLeast 33 = .ok (.istore 9, 2) := by decide +kernel
theorem dX1_leftmostLeast_35 : decode cX1_leftmostLeast 35 = .ok (.iload 9, 2) := by decide +kernel
theorem dX1_leftmostLeast_37 : decode cX1_leftmostLeast 37 = .ok (.iload_n 3, 1) := by decide +kernel
theorem dX1_leftmostLeast_38 : decode cX1_leftmostLeast 38 = .ok (.iload 4, 2) := by decide +kernel
theorem dX1_leftmostLeast_40 : decode cX1_leftmostLeast 40 = .ok (.invokestatic 100, 3) := by decide +kernel
theorem dX1_leftmostLeast_43 : decode cX1_leftmostLeast 43 = .ok (.ifCond .eq 33, 3) := by decide +kernel
theorem dX1_leftmostLeast_46 : decode cX1_leftmostLeast 46 = .ok (.aload_n 0, 1) := by decide +kernel
theorem dX1_leftmostLeast_47 : decode cX1_leftmostLeast 47 = .ok (.iload_n 1, 1) := by decide +kernel
theorem dX1_leftmostLeast_48 : decode cX1_leftmostLeast 48 = .ok (.iload 9, 2) := by decide +kernel
theorem dX1_leftmostLeast_50 : decode cX1_leftmostLeast 50 = .ok (.invokevirtual 97, 3) := by decide +kernel
theorem dX1_leftmostLeast_53 : decode cX1_leftmostLeast 53 = .ok (.istore 10, 2) := by decide +kernel
theorem dX1_leftmostLeast_55 : decode cX1_leftmostLeast 55 = .ok (.iload 5, 2) := by decide +kernel
theorem dX1_leftmostLeast_57 : decode cX1_leftmostLeast 57 = .ok (.iconst (-1), 1) := by decide +kernel
theorem dX1_leftmostLeast_58 : decode cX1_leftmostLeast 58 = .ok (.if_icmp .eq 10, 3) := by decide +kernel
theorem dX1_leftmostLeast_61 : decode cX1_leftmostLeast 61 = .ok (.iload 10, 2) := by decide +kernel
theorem dX1_leftmostLeast_63 : decode cX1_leftmostLeast 63 = .ok (.iload 6, 2) := by decide +kernel
theorem dX1_leftmostLeast_65 : decode cX1_leftmostLeast 65 = .ok (.if_icmp .ge 11, 3) := by decide +kernel
theorem dX1_leftmostLeast_68 : decode cX1_leftmostLeast 68 = .ok (.iload 9, 2) := by decide +kernel
theorem dX1_leftmostLeast_70 : decode cX1_leftmostLeast 70 = .ok (.istore 5, 2) := by decide +kernel
theorem dX1_leftmostLeast_72 : decode cX1_leftmostLeast 72 = .ok (.iload 10, 2) := by decide +kernel
theorem dX1_leftmostLeast_74 : decode cX1_leftmostLeast 74 = .ok (.istore 6, 2) := by decide +kernel
theorem dX1_leftmostLeast_76 : decode cX1_leftmostLeast 76 = .ok (.iinc 8 1, 3) := by decide +kernel
theorem dX1_leftmostLeast_79 : decode cX1_leftmostLeast 79 = .ok (.goto (-60), 3) := by decide +kernel
theorem dX1_leftmostLeast_82 : decode cX1_leftmostLeast 82 = .ok (.iload 5, 2) := by decide +kernel
theorem dX1_leftmostLeast_84 : decode cX1_leftmostLeast 84 = .ok (.ireturn, 1) := by decide +kernel
theorem dX1_look_0 : decode cX1_look 0 = .ok (.aload_n 0, 1) := by decide +kernel
theorem dX1_look_1 : decode cX1_look 1 = .ok (.dup, 1) := by decide +kernel
theorem dX1_look_2 : decode cX1_look 2 = .ok (.getfield 28, 3) := by decide +kernel
theorem dX1_look_5 : decode cX1_look 5 = .ok (.iconst 1, 1) := by decide +kernel
theorem dX1_look_6 : decode cX1_look 6 = .ok (.iadd, 1) := by decide +kernel
theorem dX1_look_7 : decode cX1_look 7 = .ok (.putfield 28, 3) := by decide +kernel
theorem dX1_look_10 : decode cX1_look 10 = .ok (.aload_n 0, 1) := by decide +kernel
theorem dX1_look_11 : decode cX1_look 11 = .ok (.getfield 31, 3) := by decide +kernel
theorem dX1_look_14 : decode cX1_look 14 = .ok (.iload_n 1, 1) := by decide +kernel
theorem dX1_look_15 : decode cX1_look 15 = .ok (.iload_n 2, 1) := by decide +kernel
theorem dX1_look_16 : decode cX1_look 16 = .ok (.invokevirtual 104, 3) := by decide +kernel
theorem dX1_look_19 : decode cX1_look 19 = .ok (.ireturn, 1) := by decide +kernel
theorem dX1_setPlace_0 : decode cX1_setPlace 0 = .ok (.aload_n 0, 1) := by decide +kernel
theorem dX1_setPlace_1 : decode cX1_setPlace 1 = .ok (.getfield 9, 3) := by decide +kernel
theorem dX1_setPlace_4 : decode cX1_setPlace 4 = .ok (.aload_n 0, 1) := by decide +kernel
theorem dX1_setPlace_5 : decode cX1_setPlace 5 = .ok (.getfield 24, 3) := by decide +kernel
theorem dX1_setPlace_8 : decode cX1_setPlace 8 = .ok (.bipush 10, 2) := by decide +kernel
theorem dX1_setPlace_10 : decode cX1_setPlace 10 = .ok (.imul, 1) := by decide +kernel
theorem dX1_setPlace_11 : decode cX1_setPlace 11 = .ok (.iload_n 1, 1) := by decide +kernel
theorem dX1_setPlace_12 : decode cX1_setPlace 12 = .ok (.iadd, 1) := by decide +kernel
theorem dX1_setPlace_13 : decode cX1_setPlace 13 = .ok (.iload_n 2, 1) := by decide +kernel
theorem dX1_setPlace_14 : decode cX1_setPlace 14 = .ok (.invokestatic 60, 3) := by decide +kernel
theorem dX1_setPlace_17 : decode cX1_setPlace 17 = .ok (.return_, 1) := by decide +kernel
theorem dX2_init_0 : decode cX2_init 0 = .ok (.aload_n 0, 1) := by decide +kernel
theorem dX2_init_1 : decode cX2_init 1 = .ok (.invokespecial 3, 3) := by decide +kernel
theorem dX2_init_4 : decode cX2_init 4 = .ok (.aload_n 0, 1) := by decide +kernel
theorem dX2_init_5 : decode cX2_init 5 = .ok (.iconst 0, 1) := by decide +kernel
theorem dX2_init_6 : decode cX2_init 6 = .ok (.putfield 9, 3) := by decide +kernel
theorem dX2_init_9 : decode cX2_init 9 = .ok (.aload_n 0, 1) := by decide +kernel
theorem dX2_init_10 : decode cX2_init 10 = .ok (.iconst 0, 1) := by decide +kernel
theorem dX2_init_11 : decode cX2_init 11 = .ok (.putfield 15, 3) := by decide +kernel
theorem dX2_init_14 : decode cX2_init 14 = .ok (.aload_n 0, 1) := by decide +kernel
theorem dX2_init_15 : decode cX2_init 15 = .ok (.bipush 6, 2) := by decide +kernel
theorem dX2_init_17 : decode cX2_init 17 = .ok (.anewarray 18, 3) := by decide +kernel
theorem dX2_init_20 : decode cX2_init 20 = .ok (.putfield 20, 3) := by decide +kernel
theorem dX2_init_23 : decode cX2_init 23 = .ok (.iconst 0, 1) := by decide +kernel
theorem dX2_init_24 : decode cX2_init 24 = .ok (.istore_n 1, 1) := by decide +kernel
theorem dX2_init_25 : decode cX2_init 25 = .ok (.iload_n 1, 1) := by decide +kernel
theorem dX2_init_26 : decode cX2_init 26 = .ok (.aload_n 0, 1) := by decide +kernel
theorem dX2_init_27 : decode cX2_init 27 = .ok (.getfield 20, 3) := by decide +kernel
theorem dX2_init_30 : decode cX2_init 30 = .ok (.arraylength, 1) := by decide +kernel
theorem dX2_init_31 : decode cX2_init 31 = .ok (.if_icmp .ge 22, 3) := by decide +kernel
theorem dX2_init_34 : decode cX2_init 34 = .ok (.aload_n 0, 1) := by decide +kernel
theorem dX2_init_35 : decode cX2_init 35 = .ok (.getfield 20, 3) := by decide +kernel
theorem dX2_init_38 : decode cX2_init 38 = .ok (.iload_n 1, 1) := by decide +kernel
theorem dX2_init_39 : decode cX2_init 39 = .ok (.new 18, 3) := by decide +kernel
theorem dX2_init_42 : decode cX2_init 42 = .ok (.dup, 1) := by decide +kernel
theorem dX2_init_43 : decode cX2_init 43 = .ok (.invokespecial 24, 3) := by decide +kernel
theorem dX2_init_46 : decode cX2_init 46 = .ok (.aastore, 1) := by decide +kernel
theorem dX2_init_47 : decode cX2_init 47 = .ok (.iinc 1 1, 3) := by decide +kernel
theorem dX2_init_50 : decode cX2_init 50 = .ok (.goto (-25), 3) := by decide +kernel
theorem dX2_init_53 : decode cX2_init 53 = .ok (.return_, 1) := by decide +kernel
theorem dX2_save_0 : decode cX2_save 0 = .ok (.aload_n 0, 1) := by decide +kernel
theorem dX2_save_1 : decode cX2_save 1 = .ok (.getfield 9, 3) := by decide +kernel
theorem dX2_save_4 : decode cX2_save 4 = .ok (.bipush 6, 2) := by decide +kernel
theorem dX2_save_6 : decode cX2_save 6 = .ok (.if_icmp .ne 26, 3) := by decide +kernel
theorem dX2_save_9 : decode cX2_save 9 = .ok (.aload_n 0, 1) := by decide +kernel
theorem dX2_save_10 : decode cX2_save 10 = .ok (.aload_n 0, 1) := by decide +kernel
theorem dX2_save_11 : decode cX2_save 11 = .ok (.getfield 15, 3) := by decide +kernel
theorem dX2_save_14 : decode cX2_save 14 = .ok (.iconst 1, 1) := by decide +kernel
theorem dX2_save_15 : decode cX2_save 15 = .ok (.iadd, 1) := by decide +kernel
theorem dX2_save_16 : decode cX2_save 16 = .ok (.bipush 6, 2) := by decide +kernel
theorem dX2_save_18 : decode cX2_save 18 = .ok (.irem, 1) := by decide +kernel
theorem dX2_save_19 : decode cX2_save 19 = .ok (.putfield 15, 3) := by decide +kernel
theorem dX2_save_22 : decode cX2_save 22 = .ok (.aload_n 0, 1) := by decide +kernel
theorem dX2_save_23 : decode cX2_save 23 = .ok (.dup, 1) := by decide +kernel
theorem dX2_save_24 : decode cX2_save 24 = .ok (.getfield 9, 3) := by decide +kernel
theorem dX2_save_27 : decode cX2_save 27 = .ok (.iconst 1, 1) := by decide +kernel
theorem dX2_save_28 : decode cX2_save 28 = .ok (.isub, 1) := by decide +kernel
theorem dX2_save_29 : decode cX2_save 29 = .ok (.putfield 9, 3) := by decide +kernel
theorem dX2_save_32 : decode cX2_save 32 = .ok (.aload_n 0, 1) := by decide +kernel
theorem dX2_save_33 : decode cX2_save 33 = .ok (.aload_n 0, 1) := by decide +kernel
theorem dX2_save_34 : decode cX2_save 34 = .ok (.getfield 9, 3) := by decide +kernel
theorem dX2_save_37 : decode cX2_save 37 = .ok (.invokevirtual 25, 3) := by decide +kernel
theorem dX2_save_40 : decode cX2_save 40 = .ok (.astore_n 2, 1) := by decide +kernel
theorem dX2_save_41 : decode cX2_save 41 = .ok (.aload_n 2, 1) := by decide +kernel
theorem dX2_save_42 : decode cX2_save 42 = .ok (.ifnull 18, 3) := by decide +kernel
theorem dX2_save_45 : decode cX2_save 45 = .ok (.aload_n 2, 1) := by decide +kernel
theorem dX2_save_46 : decode cX2_save 46 = .ok (.aload_n 1, 1) := by decide +kernel
theorem dX2_save_47 : decode cX2_save 47 = .ok (.invokevirtual 29, 3) := by decide +kernel
theorem dX2_save_50 : decode cX2_save 50 = .ok (.aload_n 0, 1) := by decide +kernel
theorem dX2_save_51 : decode cX2_save 51 = .ok (.dup, 1) := by decide +kernel
theorem dX2_save_52 : decode cX2_save 52 = .ok (.getfield 9, 3) := by decide +kernel
theorem dX2_save_55 : decode cX2_save 55 = .ok (.iconst 1, 1) := by decide +kernel
theorem dX2_save_56 : decode cX2_save 56 = .ok (.iadd, 1) := by decide +kernel
theorem dX2_save_57 : decode cX2_save 57 = .ok (.putfield 9, 3) := by decide +kernel
theorem dX2_save_60 : decode cX2_save 60 = .ok (.return_, 1) := by decide +kernel
theorem dX2_latest_0 : decode cX2_latest 0 = .ok (.aload_n 0, 1) := by decide +kernel
theorem dX2_latest_1 : decode cX2_latest 1 = .ok (.aload_n 0, 1) := by decide +kernel
theorem dX2_latest_2 : decode cX2_latest 2 = .ok (.getfield 9, 3) := by decide +kernel
theorem dX2_latest_5 : decode cX2_latest 5 = .ok (.iconst 1, 1) := by decide +kernel
theorem dX2_latest_6 : decode cX2_latest 6 = .ok (.isub, 1) := by decide +kernel
theorem dX2_latest_7 : decode cX2_latest 7 = .ok (.invokevirtual 25, 3) := by decide +kernel
theorem dX2_latest_10 : decode cX2_latest 10 = .ok (.areturn, 1) := by decide +kernel
theorem dX2_stateAt_0 : decode cX2_stateAt 0 = .ok (.aload_n 0, 1) := by decide +kernel
theorem dX2_stateAt_1 : decode cX2_stateAt 1 = .ok (.getfield 15, 3) := by decide +kernel
theorem dX2_stateAt_4 : decode cX2_stateAt 4 = .ok (.iload_n 1, 1) := by decide +kernel
theorem dX2_stateAt_5 : decode cX2_stateAt 5 = .ok (.iadd, 1) := by decide +kernel
theorem dX2_stateAt_6 : decode cX2_stateAt 6 = .ok (.bipush 6, 2) := by decide +kernel
theorem dX2_stateAt_8 : decode cX2_stateAt 8 = .ok (.irem, 1) := by decide +kernel
theorem dX2_stateAt_9 : decode cX2_stateAt 9 = .ok (.istore_n 2, 1) := by decide +kernel
theorem dX2_stateAt_10 : decode cX2_stateAt 10 = .ok (.iload_n 2, 1) := by decide +kernel
theorem dX2_stateAt_11 : decode cX2_stateAt 11 = .ok (.ifCond .lt 12, 3) := by decide +kernel
theorem dX2_stateAt_14 : decode cX2_stateAt 14 = .ok (.iload_n 2, 1) := by decide +kernel
theorem dX2_stateAt_15 : decode cX2_stateAt 15 = .ok (.aload_n 0, 1) := by decide +kernel
theorem dX2_stateAt_16 : decode cX2_stateAt 16 = .ok (.getfield 20, 3) := by decide +kernel
theorem dX2_stateAt_19 : decode cX2_stateAt 19 = .ok (.arraylength, 1) := by decide +kernel
theorem dX2_stateAt_20 : decode cX2_stateAt 20 = .ok (.if_icmp .lt 7, 3) := by decide +kernel
theorem dX2_stateAt_23 : decode cX2_stateAt 23 = .ok (.aconst_null, 1) := by decide +kernel
theorem dX2_stateAt_24 : decode cX2_stateAt 24 = .ok (.goto 9, 3) := by decide +kernel
theorem dX2_stateAt_27 : decode cX2_stateAt 27 = .ok (.aload_n 0, 1) := by decide +kernel
theorem dX2_stateAt_28 : decode cX2_stateAt 28 = .ok (.getfield 20, 3) := by decide +kernel
theorem dX2_stateAt_31 : decode cX2_stateAt 31 = .ok (.iload_n 2, 1) := by decide +kernel
theorem dX2_stateAt_32 : decode cX2_stateAt 32 = .ok (.aaload, 1) := by decide +kernel
theorem dX2_stateAt_33 : decode cX2_stateAt 33 = .ok (.areturn, 1) := by decide +kernel
theorem dX3_init_0 : decode cX3_init 0 = .ok (.aload_n 0, 1) := by decide +kernel
theorem dX3_init_1 : decode cX3_init 1 = .ok (.invokespecial 3, 3) := by decide +kernel
theorem dX3_init_4 : decode cX3_init 4 = .ok (.aload_n 0, 1) := by decide +kernel
theorem dX3_init_5 : decode cX3_init 5 = .ok (.iconst (-1), 1) := by decide +kernel
theorem dX3_init_6 : decode cX3_init 6 = .ok (.putfield 9, 3) := by decide +kernel
theorem dX3_init_9 : decode cX3_init 9 = .ok (.aload_n 0, 1) := by decide +kernel
theorem dX3_init_10 : decode cX3_init 10 = .ok (.iconst (-1), 1) := by decide +kernel
theorem dX3_init_11 : decode cX3_init 11 = .ok (.putfield 15, 3) := by decide +kernel
theorem dX3_init_14 : decode cX3_init 14 = .ok (.aload_n 0, 1) := by decide +kernel
theorem dX3_init_15 : decode cX3_init 15 = .ok (.iconst (-1), 1) := by decide +kernel
theorem dX3_init_16 : decode cX3_init 16 = .ok (.putfield 18, 3) := by decide +kernel
theorem dX3_init_19 : decode cX3_init 19 = .ok (.aload_n 0, 1) := by decide +kernel
theorem dX3_init_20 : decode cX3_init 20 = .ok (.iconst 0, 1) := by decide +kernel
theorem dX3_init_21 : decode cX3_init 21 = .ok (.putfield 21, 3) := by decide +kernel
theorem dX3_init_24 : decode cX3_init 24 = .ok (.aload_n 0, 1) := by decide +kernel
theorem dX3_init_25 : decode cX3_init 25 = .ok (.aload_n 1, 1) := by decide +kernel
theorem dX3_init_26 : decode cX3_init 26 = .ok (.putfield 24, 3) := by decide +kernel
theorem dX3_init_29 : decode cX3_init 29 = .ok (.return_, 1) := by decide +kernel
theorem dX3_isKept_0 : decode cX3_isKept 0 = .ok (.aload_n 0, 1) := by decide +kernel
theorem dX3_isKept_1 : decode cX3_isKept 1 = .ok (.invokevirtual 28, 3) := by decide +kernel
theorem dX3_isKept_4 : decode cX3_isKept 4 = .ok (.aload_n 0, 1) := by decide +kernel
theorem dX3_isKept_5 : decode cX3_isKept 5 = .ok (.getfield 21, 3) := by decide +kernel
theorem dX3_isKept_8 : decode cX3_isKept 8 = .ok (.ifCond .ne 7, 3) := by decide +kernel
theorem dX3_isKept_11 : decode cX3_isKept 11 = .ok (.iconst 1, 1) := by decide +kernel
theorem dX3_isKept_12 : decode cX3_isKept 12 = .ok (.goto 4, 3) := by decide +kernel
theorem dX3_isKept_15 : decode cX3_isKept 15 = .ok (.iconst 0, 1) := by decide +kernel
theorem dX3_isKept_16 : decode cX3_isKept 16 = .ok (.ireturn, 1) := by decide +kernel
theorem dX3_examine_0 : decode cX3_examine 0 = .ok (.aload_n 0, 1) := by decide +kernel
theorem dX3_examine_1 : decode cX3_examine 1 = .ok (.iconst (-1), 1) := by decide +kernel
theorem dX3_examine_2 : decode cX3_examine 2 = .ok (.putfield 9, 3) := by decide +kernel
theorem dX3_examine_5 : decode cX3_examine 5 = .ok (.aload_n 0, 1) := by decide +kernel
theorem dX3_examine_6 : decode cX3_examine 6 = .ok (.iconst (-1), 1) := by decide +kernel
theorem dX3_examine_7 : decode cX3_examine 7 = .ok (.putfield 15, 3) := by decide +kernel
theorem dX3_examine_10 : decode cX3_examine 10 = .ok (.aload_n 0, 1) := by decide +kernel
theorem dX3_examine_11 : decode cX3_examine 11 = .ok (.iconst (-1), 1) := by decide +kernel
theorem dX3_examine_12 : decode cX3_examine 12 = .ok (.putfield 18, 3) := by decide +kernel
theorem dX3_examine_15 : decode cX3_examine 15 = .ok (.aload_n 0, 1) := by decide +kernel
theorem dX3_examine_16 : decode cX3_examine 16 = .ok (.iconst 0, 1) := by decide +kernel
theorem dX3_examine_17 : decode cX3_examine 17 = .ok (.putfield 21, 3) := by decide +kernel
theorem dX3_examine_20 : decode cX3_examine 20 = .ok (.iconst 0, 1) := by decide +kernel
theorem dX3_examine_21 : decode cX3_examine 21 = .ok (.istore_n 1, 1) := by decide +kernel
theorem dX3_examine_22 : decode cX3_examine 22 = .ok (.iload_n 1, 1) := by decide +kernel
theorem dX3_examine_23 : decode cX3_examine 23 = .ok (.aload_n 0, 1) := by decide +kernel
theorem dX3_examine_24 : decode cX3_examine 24 = .ok (.getfield 24, 3) := by decide +kernel
theorem dX3_examine_27 : decode cX3_examine 27 = .ok (.getfield 31, 3) := by decide +kernel
theorem dX3_examine_30 : decode cX3_examine 30 = .ok (.iconst 1, 1) := by decide +kernel
theorem dX3_examine_31 : decode cX3_examine 31 = .ok (.isub, 1) := by decide +kernel
theorem dX3_examine_32 : decode cX3_examine 32 = .ok (.if_icmp .ge 80, 3) := by decide +kernel
theorem dX3_examine_35 : decode cX3_examine 35 = .ok (.iconst 0, 1) := by decide +kernel
theorem dX3_examine_36 : decode cX3_examine 36 = .ok (.istore_n 2, 1) := by decide +kernel
theorem dX3_examine_37 : decode cX3_examine 37 = .ok (.iload_n 2, 1) := by decide +kernel
theorem dX3_examine_38 : decode cX3_examine 38 = .ok (.aload_n 0, 1) := by decide +kernel
theorem dX3_examine_39 : decode cX3_examine 39 = .ok (.getfield 24, 3) := by decide +kernel
theorem dX3_examine_42 : decode cX3_examine 42 = .ok (.getfield 36, 3) := by decide +kernel
theorem dX3_examine_45 : decode cX3_examine 45 = .ok (.iconst 1, 1) := by decide +kernel
theorem dX3_examine_46 : decode cX3_examine 46 = .ok (.isub, 1) := by decide +kernel
theorem dX3_examine_47 : decode cX3_examine 47 = .ok (.if_icmp .ge 59, 3) := by decide +kernel
theorem dX3_examine_50 : decode cX3_examine 50 = .ok (.iload_n 2, 1) := by decide +kernel
theorem dX3_examine_51 : decode cX3_examine 51 = .ok (.iconst 1, 1) := by decide +kernel
theorem dX3_examine_52 : decode cX3_examine 52 = .ok (.iadd, 1) := by decide +kernel
theorem dX3_examine_53 : decode cX3_examine 53 = .ok (.istore_n 3, 1) := by decide +kernel
theorem dX3_examine_54 : decode cX3_examine 54 = .ok (.iload_n 3, 1) := by decide +kernel
theorem dX3_examine_55 : decode cX3_examine 55 = .ok (.aload_n 0, 1) := by decide +kernel
theorem dX3_examine_56 : decode cX3_examine 56 = .ok (.getfield 24, 3) := by decide +kernel
theorem dX3_examine_59 : decode cX3_examine 59 = .ok (.getfield 36, 3) := by decide +kernel
theorem dX3_examine_62 : decode cX3_examine 62 = .ok (.if_icmp .ge 38, 3) := by decide +kernel
theorem dX3_examine_65 : decode cX3_examine 65 = .ok (.aload_n 0, 1) := by decide +kernel
theorem dX3_examine_66 : decode cX3_examine 66 = .ok (.iload_n 1, 1) := by decide +kernel
theorem dX3_examine_67 : decode cX3_examine 67 = .ok (.iload_n 2, 1) := by decide +kernel
theorem dX3_examine_68 : decode cX3_examine 68 = .ok (.iload_n 3, 1) := by decide +kernel
theorem dX3_examine_69 : decode cX3_examine 69 = .ok (.invokevirtual 39, 3) := by decide +kernel
theorem dX3_examine_72 : decode cX3_examine 72 = .ok (.ifCond .eq 22, 3) := by decide +kernel
theorem dX3_examine_75 : decode cX3_examine 75 = .ok (.aload_n 0, 1) := by decide +kernel
theorem dX3_examine_76 : decode cX3_examine 76 = .ok (.iload_n 1, 1) := by decide +kernel
theorem dX3_examine_77 : decode cX3_examine 77 = .ok (.iconst 1, 1) := by decide +kernel
theorem dX3_examine_78 : decode cX3_examine 78 = .ok (.iadd, 1) := by decide +kernel
theorem dX3_examine_79 : decode cX3_examine 79 = .ok (.iload_n 2, 1) := by decide +kernel
theorem dX3_examine_80 : decode cX3_examine 80 = .ok (.iload_n 3, 1) := by decide +kernel
theorem dX3_examine_81 : decode cX3_examine 81 = .ok (.invokevirtual 39, 3) := by decide +kernel
theorem dX3_examine_84 : decode cX3_examine 84 = .ok (.ifCond .ne 10, 3) := by decide +kernel
theorem dX3_examine_87 : decode cX3_examine 87 = .ok (.aload_n 0, 1) := by decide +kernel
theorem dX3_examine_88 : decode cX3_examine 88 = .ok (.iload_n 1, 1) := by decide +kernel
theorem dX3_examine_89 : decode cX3_examine 89 = .ok (.iload_n 2, 1) := by decide +kernel
theorem dX3_examine_90 : decode cX3_examine 90 = .ok (.iload_n 3, 1) := by decide +kernel
theorem dX3_examine_91 : decode cX3_examine 91 = .ok (.invokevirtual 43, 3) := by decide +kernel
theorem dX3_examine_94 : decode cX3_examine 94 = .ok (.iinc 3 1, 3) := by decide +kernel
theorem dX3_examine_97 : decode cX3_examine 97 = .ok (.goto (-43), 3) := by decide +kernel
theorem dX3_examine_100 : decode cX3_examine 100 = .ok (.iinc 2 1, 3) := by decide +kernel
theorem dX3_examine_103 : decode cX3_examine 103 = .ok (.goto (-66), 3) := by decide +kernel
theorem dX3_examine_106 : decode cX3_examine 106 = .ok (.iinc 1 1, 3) := by decide +kernel
theorem dX3_examine_109 : decode cX3_examine 109 = .ok (.goto (-87), 3) := by decide +kernel
theorem dX3_examine_112 : decode cX3_examine 112 = .ok (.return_, 1) := by decide +kernel
theorem dX3_told_0 : decode cX3_told 0 = .ok (.iload_n 1, 1) := by decide +kernel
theorem dX3_told_1 : decode cX3_told 1 = .ok (.tableswitch 42 0 2 #[27, 32, 37], 27) := by decide +kernel
theorem dX3_told_28 : decode cX3_told 28 = .ok (.aload_n 0, 1) := by decide +kernel
theorem dX3_told_29 : decode cX3_told 29 = .ok (.getfield 9, 3) := by decide +kernel
theorem dX3_told_32 : decode cX3_told 32 = .ok (.ireturn, 1) := by decide +kernel
theorem dX3_told_33 : decode cX3_told 33 = .ok (.aload_n 0, 1) := by decide +kernel
theorem dX3_told_34 : decode cX3_told 34 = .ok (.getfield 15, 3) := by decide +kernel
theorem dX3_told_37 : decode cX3_told 37 = .ok (.ireturn, 1) := by decide +kernel
theorem dX3_told_38 : decode cX3_told 38 = .ok (.aload_n 0, 1) := by decide +kernel
theorem dX3_told_39 : decode cX3_told 39 = .ok (.getfield 18, 3) := by decide +kernel
theorem dX3_told_42 : decode cX3_told 42 = .ok (.ireturn, 1) := by decide +kernel
theorem dX3_told_43 : decode cX3_told 43 = .ok (.aload_n 0, 1) := by decide +kernel
theorem dX3_told_44 : decode cX3_told 44 = .ok (.getfield 21, 3) := by decide +kernel
theorem dX3_told_47 : decode cX3_told 47 = .ok (.ireturn, 1) := by decide +kernel
theorem dX3_isGreater_0 : decode cX3_isGreater 0 = .ok (.aload_n 0, 1) := by decide +kernel
theorem dX3_isGreater_1 : decode cX3_isGreater 1 = .ok (.getfield 24, 3) := by decide +kernel
theorem dX3_isGreater_4 : decode cX3_isGreater 4 = .ok (.iload_n 1, 1) := by decide +kernel
theorem dX3_isGreater_5 : decode cX3_isGreater 5 = .ok (.iload_n 2, 1) := by decide +kernel
theorem dX3_isGreater_6 : decode cX3_isGreater 6 = .ok (.invokevirtual 47, 3) := by decide +kernel
theorem dX3_isGreater_9 : decode cX3_isGreater 9 = .ok (.aload_n 0, 1) := by decide +kernel
theorem dX3_isGreater_10 : decode cX3_isGreater 10 = .ok (.getfield 24, 3) := by decide +kernel
theorem dX3_isGreater_13 : decode cX3_isGreater 13 = .ok (.iload_n 1, 1) := by decide +kernel
theorem dX3_isGreater_14 : decode cX3_isGreater 14 = .ok (.iload_n 3, 1) := by decide +kernel
theorem dX3_isGreater_15 : decode cX3_isGreater 15 = .ok (.invokevirtual 47, 3) := by decide +kernel
theorem dX3_isGreater_18 : decode cX3_isGreater 18 = .ok (.if_icmp .le 7, 3) := by decide +kernel
theorem dX3_isGreater_21 : decode cX3_isGreater 21 = .ok (.iconst 1, 1) := by decide +kernel
theorem dX3_isGreater_22 : decode cX3_isGreater 22 = .ok (.goto 4, 3) := by decide +kernel
theorem dX3_isGreater_25 : decode cX3_isGreater 25 = .ok (.iconst 0, 1) := by decide +kernel
theorem dX3_isGreater_26 : decode cX3_isGreater 26 = .ok (.ireturn, 1) := by decide +kernel
theorem dX3_note_0 : decode cX3_note 0 = .ok (.aload_n 0, 1) := by decide +kernel
theorem dX3_note_1 : decode cX3_note 1 = .ok (.getfield 21, 3) := by decide +kernel
theorem dX3_note_4 : decode cX3_note 4 = .ok (.ifCond .ne 18, 3) := by decide +kernel
theorem dX3_note_7 : decode cX3_note 7 = .ok (.aload_n 0, 1) := by decide +kernel
theorem dX3_note_8 : decode cX3_note 8 = .ok (.iload_n 1, 1) := by decide +kernel
theorem dX3_note_9 : decode cX3_note 9 = .ok (.putfield 9, 3) := by decide +kernel
theorem dX3_note_12 : decode cX3_note 12 = .ok (.aload_n 0, 1) := by decide +kernel
theorem dX3_note_13 : decode cX3_note 13 = .ok (.iload_n 2, 1) := by decide +kernel
theorem dX3_note_14 : decode cX3_note 14 = .ok (.putfield 15, 3) := by decide +kernel
theorem dX3_note_17 : decode cX3_note 17 = .ok (.aload_n 0, 1) := by decide +kernel
theorem dX3_note_18 : decode cX3_note 18 = .ok (.iload_n 3, 1) := by decide +kernel
theorem dX3_note_19 : decode cX3_note 19 = .ok (.putfield 18, 3) := by decide +kernel
theorem dX3_note_22 : decode cX3_note 22 = .ok (.aload_n 0, 1) := by decide +kernel
theorem dX3_note_23 : decode cX3_note 23 = .ok (.dup, 1) := by decide +kernel
theorem dX3_note_24 : decode cX3_note 24 = .ok (.getfield 21, 3) := by decide +kernel
theorem dX3_note_27 : decode cX3_note 27 = .ok (.iconst 1, 1) := by decide +kernel
theorem dX3_note_28 : decode cX3_note 28 = .ok (.iadd, 1) := by decide +kernel
theorem dX3_note_29 : decode cX3_note 29 = .ok (.putfield 21, 3) := by decide +kernel
theorem dX3_note_32 : decode cX3_note 32 = .ok (.return_, 1) := by decide +kernel
theorem dX4_init_0 : decode cX4_init 0 = .ok (.aload_n 0, 1) := by decide +kernel
theorem dX4_init_1 : decode cX4_init 1 = .ok (.invokespecial 1, 3) := by decide +kernel
theorem dX4_init_4 : decode cX4_init 4 = .ok (.aload_n 0, 1) := by decide +kernel
theorem dX4_init_5 : decode cX4_init 5 = .ok (.iconst 0, 1) := by decide +kernel
theorem dX4_init_6 : decode cX4_init 6 = .ok (.putfield 7, 3) := by decide +kernel
theorem dX4_init_9 : decode cX4_init 9 = .ok (.aload_n 0, 1) := by decide +kernel
theorem dX4_init_10 : decode cX4_init 10 = .ok (.new 13, 3) := by decide +kernel
theorem dX4_init_13 : decode cX4_init 13 = .ok (.dup, 1) := by decide +kernel
theorem dX4_init_14 : decode cX4_init 14 = .ok (.invokespecial 15, 3) := by decide +kernel
theorem dX4_init_17 : decode cX4_init 17 = .ok (.putfield 16, 3) := by decide +kernel
theorem dX4_init_20 : decode cX4_init 20 = .ok (.return_, 1) := by decide +kernel
theorem dX4_fillFrom_0 : decode cX4_fillFrom 0 = .ok (.aload_n 0, 1) := by decide +kernel
theorem dX4_fillFrom_1 : decode cX4_fillFrom 1 = .ok (.getfield 16, 3) := by decide +kernel
theorem dX4_fillFrom_4 : decode cX4_fillFrom 4 = .ok (.aload_n 1, 1) := by decide +kernel
theorem dX4_fillFrom_5 : decode cX4_fillFrom 5 = .ok (.invokevirtual 20, 3) := by decide +kernel
theorem dX4_fillFrom_8 : decode cX4_fillFrom 8 = .ok (.aload_n 0, 1) := by decide +kernel
theorem dX4_fillFrom_9 : decode cX4_fillFrom 9 = .ok (.iconst 1, 1) := by decide +kernel
theorem dX4_fillFrom_10 : decode cX4_fillFrom 10 = .ok (.putfield 7, 3) := by decide +kernel
theorem dX4_fillFrom_13 : decode cX4_fillFrom 13 = .ok (.return_, 1) := by decide +kernel
theorem dX5_init_0 : decode cX5_init 0 = .ok (.aload_n 0, 1) := by decide +kernel
theorem dX5_init_1 : decode cX5_init 1 = .ok (.invokespecial 3, 3) := by decide +kernel
theorem dX5_init_4 : decode cX5_init 4 = .ok (.aload_n 0, 1) := by decide +kernel
theorem dX5_init_5 : decode cX5_init 5 = .ok (.iconst 4, 1) := by decide +kernel
theorem dX5_init_6 : decode cX5_init 6 = .ok (.putfield 9, 3) := by decide +kernel
theorem dX5_init_9 : decode cX5_init 9 = .ok (.aload_n 0, 1) := by decide +kernel
theorem dX5_init_10 : decode cX5_init 10 = .ok (.iconst 4, 1) := by decide +kernel
theorem dX5_init_11 : decode cX5_init 11 = .ok (.putfield 15, 3) := by decide +kernel
theorem dX5_init_14 : decode cX5_init 14 = .ok (.aload_n 0, 1) := by decide +kernel
theorem dX5_init_15 : decode cX5_init 15 = .ok (.iconst 1, 1) := by decide +kernel
theorem dX5_init_16 : decode cX5_init 16 = .ok (.putfield 18, 3) := by decide +kernel
theorem dX5_init_19 : decode cX5_init 19 = .ok (.aload_n 0, 1) := by decide +kernel
theorem dX5_init_20 : decode cX5_init 20 = .ok (.iconst 0, 1) := by decide +kernel
theorem dX5_init_21 : decode cX5_init 21 = .ok (.putfield 21, 3) := by decide +kernel
theorem dX5_init_24 : decode cX5_init 24 = .ok (.aload_n 0, 1) := by decide +kernel
theorem dX5_init_25 : decode cX5_init 25 = .ok (.iconst 0, 1) := by decide +kernel
theorem dX5_init_26 : decode cX5_init 26 = .ok (.putfield 24, 3) := by decide +kernel
theorem dX5_init_29 : decode cX5_init 29 = .ok (.aload_n 0, 1) := by decide +kernel
theorem dX5_init_30 : decode cX5_init 30 = .ok (.iconst 0, 1) := by decide +kernel
theorem dX5_init_31 : decode cX5_init 31 = .ok (.putfield 27, 3) := by decide +kernel
theorem dX5_init_34 : decode cX5_init 34 = .ok (.aload_n 0, 1) := by decide +kernel
theorem dX5_init_35 : decode cX5_init 35 = .ok (.bipush 100, 2) := by decide +kernel
theorem dX5_init_37 : decode cX5_init 37 = .ok (.newarray .int, 2) := by decide +kernel
theorem dX5_init_39 : decode cX5_init 39 = .ok (.putfield 30, 3) := by decide +kernel
theorem dX5_init_42 : decode cX5_init 42 = .ok (.aload_n 0, 1) := by decide +kernel
theorem dX5_init_43 : decode cX5_init 43 = .ok (.bipush 10, 2) := by decide +kernel
theorem dX5_init_45 : decode cX5_init 45 = .ok (.newarray .int, 2) := by decide +kernel
theorem dX5_init_47 : decode cX5_init 47 = .ok (.putfield 34, 3) := by decide +kernel
theorem dX5_init_50 : decode cX5_init 50 = .ok (.aload_n 0, 1) := by decide +kernel
theorem dX5_init_51 : decode cX5_init 51 = .ok (.getfield 34, 3) := by decide +kernel
theorem dX5_init_54 : decode cX5_init 54 = .ok (.iconst 0, 1) := by decide +kernel
theorem dX5_init_55 : decode cX5_init 55 = .ok (.iconst 1, 1) := by decide +kernel
theorem dX5_init_56 : decode cX5_init 56 = .ok (.invokestatic 37, 3) := by decide +kernel
theorem dX5_init_59 : decode cX5_init 59 = .ok (.return_, 1) := by decide +kernel
theorem dX5_hasCell_0 : decode cX5_hasCell 0 = .ok (.iload_n 1, 1) := by decide +kernel
theorem dX5_hasCell_1 : decode cX5_hasCell 1 = .ok (.iconst 0, 1) := by decide +kernel
theorem dX5_hasCell_2 : decode cX5_hasCell 2 = .ok (.aload_n 0, 1) := by decide +kernel
theorem dX5_hasCell_3 : decode cX5_hasCell 3 = .ok (.getfield 9, 3) := by decide +kernel
theorem dX5_hasCell_6 : decode cX5_hasCell 6 = .ok (.iconst 1, 1) := by decide +kernel
theorem dX5_hasCell_7 : decode cX5_hasCell 7 = .ok (.isub, 1) := by decide +kernel
theorem dX5_hasCell_8 : decode cX5_hasCell 8 = .ok (.invokestatic 41, 3) := by decide +kernel
theorem dX5_hasCell_11 : decode cX5_hasCell 11 = .ok (.ifCond .eq 21, 3) := by decide +kernel
theorem dX5_hasCell_14 : decode cX5_hasCell 14 = .ok (.iload_n 2, 1) := by decide +kernel
theorem dX5_hasCell_15 : decode cX5_hasCell 15 = .ok (.iconst 0, 1) := by decide +kernel
theorem dX5_hasCell_16 : decode cX5_hasCell 16 = .ok (.aload_n 0, 1) := by decide +kernel
theorem dX5_hasCell_17 : decode cX5_hasCell 17 = .ok (.getfield 15, 3) := by decide +kernel
theorem dX5_hasCell_20 : decode cX5_hasCell 20 = .ok (.iconst 1, 1) := by decide +kernel
theorem dX5_hasCell_21 : decode cX5_hasCell 21 = .ok (.isub, 1) := by decide +kernel
theorem dX5_hasCell_22 : decode cX5_hasCell 22 = .ok (.invokestatic 41, 3) := by decide +kernel
theorem dX5_hasCell_25 : decode cX5_hasCell 25 = .ok (.ifCond .eq 7, 3) := by decide +kernel
theorem dX5_hasCell_28 : decode cX5_hasCell 28 = .ok (.iconst 1, 1) := by decide +kernel
theorem dX5_hasCell_29 : decode cX5_hasCell 29 = .ok (.goto 4, 3) := by decide +kernel
theorem dX5_hasCell_32 : decode cX5_hasCell 32 = .ok (.iconst 0, 1) := by decide +kernel
theorem dX5_hasCell_33 : decode cX5_hasCell 33 = .ok (.ireturn, 1) := by decide +kernel
theorem dX5_sizeCode_0 : decode cX5_sizeCode 0 = .ok (.bipush 11, 2) := by decide +kernel
theorem dX5_sizeCode_2 : decode cX5_sizeCode 2 = .ok (.aload_n 0, 1) := by decide +kernel
theorem dX5_sizeCode_3 : decode cX5_sizeCode 3 = .ok (.getfield 9, 3) := by decide +kernel
theorem dX5_sizeCode_6 : decode cX5_sizeCode 6 = .ok (.imul, 1) := by decide +kernel
theorem dX5_sizeCode_7 : decode cX5_sizeCode 7 = .ok (.aload_n 0, 1) := by decide +kernel
theorem dX5_sizeCode_8 : decode cX5_sizeCode 8 = .ok (.getfield 15, 3) := by decide +kernel
theorem dX5_sizeCode_11 : decode cX5_sizeCode 11 = .ok (.iadd, 1) := by decide +kernel
theorem dX5_sizeCode_12 : decode cX5_sizeCode 12 = .ok (.ireturn, 1) := by decide +kernel
theorem dX5_numberAt_0 : decode cX5_numberAt 0 = .ok (.iload_n 1, 1) := by decide +kernel
theorem dX5_numberAt_1 : decode cX5_numberAt 1 = .ok (.bipush 10, 2) := by decide +kernel
theorem dX5_numberAt_3 : decode cX5_numberAt 3 = .ok (.imul, 1) := by decide +kernel
theorem dX5_numberAt_4 : decode cX5_numberAt 4 = .ok (.iload_n 2, 1) := by decide +kernel
theorem dX5_numberAt_5 : decode cX5_numberAt 5 = .ok (.iadd, 1) := by decide +kernel
theorem dX5_numberAt_6 : decode cX5_numberAt 6 = .ok (.istore_n 3, 1) := by decide +kernel
theorem dX5_numberAt_7 : decode cX5_numberAt 7 = .ok (.iload_n 3, 1) := by decide +kernel
theorem dX5_numberAt_8 : decode cX5_numberAt 8 = .ok (.ifCond .lt 12, 3) := by decide +kernel
theorem dX5_numberAt_11 : decode cX5_numberAt 11 = .ok (.iload_n 3, 1) := by decide +kernel
theorem dX5_numberAt_12 : decode cX5_numberAt 12 = .ok (.aload_n 0, 1) := by decide +kernel
theorem dX5_numberAt_13 : decode cX5_numberAt 13 = .ok (.getfield 30, 3) := by decide +kernel
theorem dX5_numberAt_16 : decode cX5_numberAt 16 = .ok (.arraylength, 1) := by decide +kernel
theorem dX5_numberAt_17 : decode cX5_numberAt 17 = .ok (.if_icmp .lt 7, 3) := by decide +kernel
theorem dX5_numberAt_20 : decode cX5_numberAt 20 = .ok (.iconst 0, 1) := by decide +kernel
theorem dX5_numberAt_21 : decode cX5_numberAt 21 = .ok (.goto 9, 3) := by decide +kernel
theorem dX5_numberAt_24 : decode cX5_numberAt 24 = .ok (.aload_n 0, 1) := by decide +kernel
theorem dX5_numberAt_25 : decode cX5_numberAt 25 = .ok (.getfield 30, 3) := by decide +kernel
theorem dX5_numberAt_28 : decode cX5_numberAt 28 = .ok (.iload_n 3, 1) := by decide +kernel
theorem dX5_numberAt_29 : decode cX5_numberAt 29 = .ok (.iaload, 1) := by decide +kernel
theorem dX5_numberAt_30 : decode cX5_numberAt 30 = .ok (.ireturn, 1) := by decide +kernel
theorem dX5_setNumber_0 : decode cX5_setNumber 0 = .ok (.aload_n 0, 1) := by decide +kernel
theorem dX5_setNumber_1 : decode cX5_setNumber 1 = .ok (.getfield 30, 3) := by decide +kernel
theorem dX5_setNumber_4 : decode cX5_setNumber 4 = .ok (.iload_n 1, 1) := by decide +kernel
theorem dX5_setNumber_5 : decode cX5_setNumber 5 = .ok (.bipush 10, 2) := by decide +kernel
theorem dX5_setNumber_7 : decode cX5_setNumber 7 = .ok (.imul, 1) := by decide +kernel
theorem dX5_setNumber_8 : decode cX5_setNumber 8 = .ok (.iload_n 2, 1) := by decide +kernel
theorem dX5_setNumber_9 : decode cX5_setNumber 9 = .ok (.iadd, 1) := by decide +kernel
theorem dX5_setNumber_10 : decode cX5_setNumber 10 = .ok (.iload_n 3, 1) := by decide +kernel
theorem dX5_setNumber_11 : decode cX5_setNumber 11 = .ok (.invokestatic 37, 3) := by decide +kernel
theorem dX5_setNumber_14 : decode cX5_setNumber 14 = .ok (.return_, 1) := by decide +kernel
theorem dX5_weightAt_0 : decode cX5_weightAt 0 = .ok (.aload_n 0, 1) := by decide +kernel
theorem dX5_weightAt_1 : decode cX5_weightAt 1 = .ok (.getfield 34, 3) := by decide +kernel
theorem dX5_weightAt_4 : decode cX5_weightAt 4 = .ok (.iload_n 1, 1) := by decide +kernel
theorem dX5_weightAt_5 : decode cX5_weightAt 5 = .ok (.invokestatic 45, 3) := by decide +kernel
theorem dX5_weightAt_8 : decode cX5_weightAt 8 = .ok (.ireturn, 1) := by decide +kernel
theorem dX5_addWeight_0 : decode cX5_addWeight 0 = .ok (.aload_n 0, 1) := by decide +kernel
theorem dX5_addWeight_1 : decode cX5_addWeight 1 = .ok (.getfield 34, 3) := by decide +kernel
theorem dX5_addWeight_4 : decode cX5_addWeight 4 = .ok (.aload_n 0, 1) := by decide +kernel
theorem dX5_addWeight_5 : decode cX5_addWeight 5 = .ok (.getfield 18, 3) := by decide +kernel
theorem dX5_addWeight_8 : decode cX5_addWeight 8 = .ok (.iload_n 1, 1) := by decide +kernel
theorem dX5_addWeight_9 : decode cX5_addWeight 9 = .ok (.invokestatic 37, 3) := by decide +kernel
theorem dX5_addWeight_12 : decode cX5_addWeight 12 = .ok (.aload_n 0, 1) := by decide +kernel
theorem dX5_addWeight_13 : decode cX5_addWeight 13 = .ok (.dup, 1) := by decide +kernel
theorem dX5_addWeight_14 : decode cX5_addWeight 14 = .ok (.getfield 18, 3) := by decide +kernel
theorem dX5_addWeight_17 : decode cX5_addWeight 17 = .ok (.iconst 1, 1) := by decide +kernel
theorem dX5_addWeight_18 : decode cX5_addWeight 18 = .ok (.iadd, 1) := by decide +kernel
theorem dX5_addWeight_19 : decode cX5_addWeight 19 = .ok (.putfield 18, 3) := by decide +kernel
theorem dX5_addWeight_22 : decode cX5_addWeight 22 = .ok (.return_, 1) := by decide +kernel
theorem dX5_weightsTogether_0 : decode cX5_weightsTogether 0 = .ok (.iconst 0, 1) := by decide +kernel
theorem dX5_weightsTogether_1 : decode cX5_weightsTogether 1 = .ok (.istore_n 1, 1) := by decide +kernel
theorem dX5_weightsTogether_2 : decode cX5_weightsTogether 2 = .ok (.iconst 0, 1) := by decide +kernel
theorem dX5_weightsTogether_3 : decode cX5_weightsTogether 3 = .ok (.istore_n 2, 1) := by decide +kernel
theorem dX5_weightsTogether_4 : decode cX5_weightsTogether 4 = .ok (.iload_n 2, 1) := by decide +kernel
theorem dX5_weightsTogether_5 : decode cX5_weightsTogether 5 = .ok (.aload_n 0, 1) := by decide +kernel
theorem dX5_weightsTogether_6 : decode cX5_weightsTogether 6 = .ok (.getfield 18, 3) := by decide +kernel
theorem dX5_weightsTogether_9 : decode cX5_weightsTogether 9 = .ok (.if_icmp .ge 17, 3) := by decide +kernel
theorem dX5_weightsTogether_12 : decode cX5_weightsTogether 12 = .ok (.iload_n 1, 1) := by decide +kernel
theorem dX5_weightsTogether_13 : decode cX5_weightsTogether 13 = .ok (.aload_n 0, 1) := by decide +kernel
theorem dX5_weightsTogether_14 : decode cX5_weightsTogether 14 = .ok (.iload_n 2, 1) := by decide +kernel
theorem dX5_weightsTogether_15 : decode cX5_weightsTogether 15 = .ok (.invokevirtual 49, 3) := by decide +kernel
theorem dX5_weightsTogether_18 : decode cX5_weightsTogether 18 = .ok (.iadd, 1) := by decide +kernel
theorem dX5_weightsTogether_19 : decode cX5_weightsTogether 19 = .ok (.istore_n 1, 1) := by decide +kernel
theorem dX5_weightsTogether_20 : decode cX5_weightsTogether 20 = .ok (.iinc 2 1, 3) := by decide +kernel
theorem dX5_weightsTogether_23 : decode cX5_weightsTogether 23 = .ok (.goto (-19), 3) := by decide +kernel
theorem dX5_weightsTogether_26 : decode cX5_weightsTogether 26 = .ok (.iload_n 1, 1) := by decide +kernel
theorem dX5_weightsTogether_27 : decode cX5_weightsTogether 27 = .ok (.ireturn, 1) := by decide +kernel
theorem dX5_copyFrom_0 : decode cX5_copyFrom 0 = .ok (.aload_n 1, 1) := by decide +kernel
theorem dX5_copyFrom_1 : decode cX5_copyFrom 1 = .ok (.ifnonnull 4, 3) := by decide +kernel
theorem dX5_copyFrom_4 : decode cX5_copyFrom 4 = .ok (.return_, 1) := by decide +kernel
theorem dX5_copyFrom_5 : decode cX5_copyFrom 5 = .ok (.aload_n 0, 1) := by decide +kernel
theorem dX5_copyFrom_6 : decode cX5_copyFrom 6 = .ok (.aload_n 1, 1) := by decide +kernel
theorem dX5_copyFrom_7 : decode cX5_copyFrom 7 = .ok (.getfield 9, 3) := by decide +kernel
theorem dX5_copyFrom_10 : decode cX5_copyFrom 10 = .ok (.putfield 9, 3) := by decide +kernel
theorem dX5_copyFrom_13 : decode cX5_copyFrom 13 = .ok (.aload_n 0, 1) := by decide +kernel
theorem dX5_copyFrom_14 : decode cX5_copyFrom 14 = .ok (.aload_n 1, 1) := by decide +kernel
theorem dX5_copyFrom_15 : decode cX5_copyFrom 15 = .ok (.getfield 15, 3) := by decide +kernel
theorem dX5_copyFrom_18 : decode cX5_copyFrom 18 = .ok (.putfield 15, 3) := by decide +kernel
theorem dX5_copyFrom_21 : decode cX5_copyFrom 21 = .ok (.aload_n 0, 1) := by decide +kernel
theorem dX5_copyFrom_22 : decode cX5_copyFrom 22 = .ok (.aload_n 1, 1) := by decide +kernel
theorem dX5_copyFrom_23 : decode cX5_copyFrom 23 = .ok (.getfield 18, 3) := by decide +kernel
theorem dX5_copyFrom_26 : decode cX5_copyFrom 26 = .ok (.putfield 18, 3) := by decide +kernel
