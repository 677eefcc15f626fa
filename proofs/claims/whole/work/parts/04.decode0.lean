theorem dX0_init_0 : decode cX0_init 0 = .ok (.aload_n 0, 1) := by decide +kernel
theorem dX0_init_1 : decode cX0_init 1 = .ok (.invokespecial 3, 3) := by decide +kernel
theorem dX0_init_4 : decode cX0_init 4 = .ok (.aload_n 0, 1) := by decide +kernel
theorem dX0_init_5 : decode cX0_init 5 = .ok (.bipush 6, 2) := by decide +kernel
theorem dX0_init_7 : decode cX0_init 7 = .ok (.newarray .int, 2) := by decide +kernel
theorem dX0_init_9 : decode cX0_init 9 = .ok (.putfield 9, 3) := by decide +kernel
theorem dX0_init_12 : decode cX0_init 12 = .ok (.aload_n 0, 1) := by decide +kernel
theorem dX0_init_13 : decode cX0_init 13 = .ok (.bipush 6, 2) := by decide +kernel
theorem dX0_init_15 : decode cX0_init 15 = .ok (.newarray .int, 2) := by decide +kernel
theorem dX0_init_17 : decode cX0_init 17 = .ok (.putfield 15, 3) := by decide +kernel
theorem dX0_init_20 : decode cX0_init 20 = .ok (.aload_n 0, 1) := by decide +kernel
theorem dX0_init_21 : decode cX0_init 21 = .ok (.aload_n 1, 1) := by decide +kernel
theorem dX0_init_22 : decode cX0_init 22 = .ok (.putfield 18, 3) := by decide +kernel
theorem dX0_init_25 : decode cX0_init 25 = .ok (.aload_n 0, 1) := by decide +kernel
theorem dX0_init_26 : decode cX0_init 26 = .ok (.aload_n 2, 1) := by decide +kernel
theorem dX0_init_27 : decode cX0_init 27 = .ok (.putfield 22, 3) := by decide +kernel
theorem dX0_init_30 : decode cX0_init 30 = .ok (.return_, 1) := by decide +kernel
theorem dX0_empty_0 : decode cX0_empty 0 = .ok (.aload_n 0, 1) := by decide +kernel
theorem dX0_empty_1 : decode cX0_empty 1 = .ok (.iconst 0, 1) := by decide +kernel
theorem dX0_empty_2 : decode cX0_empty 2 = .ok (.putfield 26, 3) := by decide +kernel
theorem dX0_empty_5 : decode cX0_empty 5 = .ok (.return_, 1) := by decide +kernel
theorem dX0_add_0 : decode cX0_add 0 = .ok (.aload_n 0, 1) := by decide +kernel
theorem dX0_add_1 : decode cX0_add 1 = .ok (.getfield 26, 3) := by decide +kernel
theorem dX0_add_4 : decode cX0_add 4 = .ok (.bipush 6, 2) := by decide +kernel
theorem dX0_add_6 : decode cX0_add 6 = .ok (.if_icmp .lt 6, 3) := by decide +kernel
theorem dX0_add_9 : decode cX0_add 9 = .ok (.bipush (-3), 2) := by decide +kernel
theorem dX0_add_11 : decode cX0_add 11 = .ok (.ireturn, 1) := by decide +kernel
theorem dX0_add_12 : decode cX0_add 12 = .ok (.aload_n 0, 1) := by decide +kernel
theorem dX0_add_13 : decode cX0_add 13 = .ok (.getfield 9, 3) := by decide +kernel
theorem dX0_add_16 : decode cX0_add 16 = .ok (.aload_n 0, 1) := by decide +kernel
theorem dX0_add_17 : decode cX0_add 17 = .ok (.getfield 26, 3) := by decide +kernel
theorem dX0_add_20 : decode cX0_add 20 = .ok (.iload_n 1, 1) := by decide +kernel
theorem dX0_add_21 : decode cX0_add 21 = .ok (.iastore, 1) := by decide +kernel
theorem dX0_add_22 : decode cX0_add 22 = .ok (.aload_n 0, 1) := by decide +kernel
theorem dX0_add_23 : decode cX0_add 23 = .ok (.getfield 15, 3) := by decide +kernel
theorem dX0_add_26 : decode cX0_add 26 = .ok (.aload_n 0, 1) := by decide +kernel
theorem dX0_add_27 : decode cX0_add 27 = .ok (.getfield 26, 3) := by decide +kernel
theorem dX0_add_30 : decode cX0_add 30 = .ok (.iload_n 2, 1) := by decide +kernel
theorem dX0_add_31 : decode cX0_add 31 = .ok (.iastore, 1) := by decide +kernel
theorem dX0_add_32 : decode cX0_add 32 = .ok (.aload_n 0, 1) := by decide +kernel
theorem dX0_add_33 : decode cX0_add 33 = .ok (.dup, 1) := by decide +kernel
theorem dX0_add_34 : decode cX0_add 34 = .ok (.getfield 26, 3) := by decide +kernel
theorem dX0_add_37 : decode cX0_add 37 = .ok (.iconst 1, 1) := by decide +kernel
theorem dX0_add_38 : decode cX0_add 38 = .ok (.iadd, 1) := by decide +kernel
theorem dX0_add_39 : decode cX0_add 39 = .ok (.putfield 26, 3) := by decide +kernel
theorem dX0_add_42 : decode cX0_add 42 = .ok (.aload_n 0, 1) := by decide +kernel
theorem dX0_add_43 : decode cX0_add 43 = .ok (.getfield 26, 3) := by decide +kernel
theorem dX0_add_46 : decode cX0_add 46 = .ok (.ireturn, 1) := by decide +kernel
theorem dX0_possibleYears_0 : decode cX0_possibleYears 0 = .ok (.iconst 0, 1) := by decide +kernel
theorem dX0_possibleYears_1 : decode cX0_possibleYears 1 = .ok (.istore_n 1, 1) := by decide +kernel
theorem dX0_possibleYears_2 : decode cX0_possibleYears 2 = .ok (.iconst 1, 1) := by decide +kernel
theorem dX0_possibleYears_3 : decode cX0_possibleYears 3 = .ok (.istore_n 2, 1) := by decide +kernel
theorem dX0_possibleYears_4 : decode cX0_possibleYears 4 = .ok (.iload_n 2, 1) := by decide +kernel
theorem dX0_possibleYears_5 : decode cX0_possibleYears 5 = .ok (.bipush 9, 2) := by decide +kernel
theorem dX0_possibleYears_7 : decode cX0_possibleYears 7 = .ok (.if_icmp .gt 23, 3) := by decide +kernel
theorem dX0_possibleYears_10 : decode cX0_possibleYears 10 = .ok (.aload_n 0, 1) := by decide +kernel
theorem dX0_possibleYears_11 : decode cX0_possibleYears 11 = .ok (.iload_n 2, 1) := by decide +kernel
theorem dX0_possibleYears_12 : decode cX0_possibleYears 12 = .ok (.invokevirtual 30, 3) := by decide +kernel
theorem dX0_possibleYears_15 : decode cX0_possibleYears 15 = .ok (.ifCond .eq 9, 3) := by decide +kernel
theorem dX0_possibleYears_18 : decode cX0_possibleYears 18 = .ok (.iload_n 1, 1) := by decide +kernel
theorem dX0_possibleYears_19 : decode cX0_possibleYears 19 = .ok (.iconst 1, 1) := by decide +kernel
theorem dX0_possibleYears_20 : decode cX0_possibleYears 20 = .ok (.iload_n 2, 1) := by decide +kernel
theorem dX0_possibleYears_21 : decode cX0_possibleYears 21 = .ok (.ishl, 1) := by decide +kernel
theorem dX0_possibleYears_22 : decode cX0_possibleYears 22 = .ok (.ior, 1) := by decide +kernel
theorem dX0_possibleYears_23 : decode cX0_possibleYears 23 = .ok (.istore_n 1, 1) := by decide +kernel
theorem dX0_possibleYears_24 : decode cX0_possibleYears 24 = .ok (.iinc 2 1, 3) := by decide +kernel
theorem dX0_possibleYears_27 : decode cX0_possibleYears 27 = .ok (.goto (-23), 3) := by decide +kernel
theorem dX0_possibleYears_30 : decode cX0_possibleYears 30 = .ok (.iload_n 1, 1) := by decide +kernel
theorem dX0_possibleYears_31 : decode cX0_possibleYears 31 = .ok (.ireturn, 1) := by decide +kernel
theorem dX0_fits_0 : decode cX0_fits 0 = .ok (.iconst 0, 1) := by decide +kernel
theorem dX0_fits_1 : decode cX0_fits 1 = .ok (.istore_n 2, 1) := by decide +kernel
theorem dX0_fits_2 : decode cX0_fits 2 = .ok (.iload_n 2, 1) := by decide +kernel
theorem dX0_fits_3 : decode cX0_fits 3 = .ok (.aload_n 0, 1) := by decide +kernel
theorem dX0_fits_4 : decode cX0_fits 4 = .ok (.getfield 26, 3) := by decide +kernel
theorem dX0_fits_7 : decode cX0_fits 7 = .ok (.if_icmp .ge 44, 3) := by decide +kernel
theorem dX0_fits_10 : decode cX0_fits 10 = .ok (.aload_n 0, 1) := by decide +kernel
theorem dX0_fits_11 : decode cX0_fits 11 = .ok (.getfield 9, 3) := by decide +kernel
theorem dX0_fits_14 : decode cX0_fits 14 = .ok (.iload_n 2, 1) := by decide +kernel
theorem dX0_fits_15 : decode cX0_fits 15 = .ok (.iaload, 1) := by decide +kernel
theorem dX0_fits_16 : decode cX0_fits 16 = .ok (.iload_n 1, 1) := by decide +kernel
theorem dX0_fits_17 : decode cX0_fits 17 = .ok (.if_icmp .lt 7, 3) := by decide +kernel
theorem dX0_fits_20 : decode cX0_fits 20 = .ok (.iconst 1, 1) := by decide +kernel
theorem dX0_fits_21 : decode cX0_fits 21 = .ok (.goto 4, 3) := by decide +kernel
theorem dX0_fits_24 : decode cX0_fits 24 = .ok (.iconst 0, 1) := by decide +kernel
theorem dX0_fits_25 : decode cX0_fits 25 = .ok (.aload_n 0, 1) := by decide +kernel
theorem dX0_fits_26 : decode cX0_fits 26 = .ok (.getfield 15, 3) := by decide +kernel
theorem dX0_fits_29 : decode cX0_fits 29 = .ok (.iload_n 2, 1) := by decide +kernel
theorem dX0_fits_30 : decode cX0_fits 30 = .ok (.iaload, 1) := by decide +kernel
theorem dX0_fits_31 : decode cX0_fits 31 = .ok (.iconst 1, 1) := by decide +kernel
theorem dX0_fits_32 : decode cX0_fits 32 = .ok (.if_icmp .ne 7, 3) := by decide +kernel
theorem dX0_fits_35 : decode cX0_fits 35 = .ok (.iconst 1, 1) := by decide +kernel
theorem dX0_fits_36 : decode cX0_fits 36 = .ok (.goto 4, 3) := by decide +kernel
theorem dX0_fits_39 : decode cX0_fits 39 = .ok (.iconst 0, 1) := by decide +kernel
theorem dX0_fits_40 : decode cX0_fits 40 = .ok (.if_icmp .eq 5, 3) := by decide +kernel
theorem dX0_fits_43 : decode cX0_fits 43 = .ok (.iconst 0, 1) := by decide +kernel
theorem dX0_fits_44 : decode cX0_fits 44 = .ok (.ireturn, 1) := by decide +kernel
theorem dX0_fits_45 : decode cX0_fits 45 = .ok (.iinc 2 1, 3) := by decide +kernel
theorem dX0_fits_48 : decode cX0_fits 48 = .ok (.goto (-46), 3) := by decide +kernel
theorem dX0_fits_51 : decode cX0_fits 51 = .ok (.iconst 1, 1) := by decide +kernel
theorem dX0_fits_52 : decode cX0_fits 52 = .ok (.ireturn, 1) := by decide +kernel
theorem dX0_worthOfAll_0 : decode cX0_worthOfAll 0 = .ok (.aload_n 0, 1) := by decide +kernel
theorem dX0_worthOfAll_1 : decode cX0_worthOfAll 1 = .ok (.aload_n 0, 1) := by decide +kernel
theorem dX0_worthOfAll_2 : decode cX0_worthOfAll 2 = .ok (.getfield 22, 3) := by decide +kernel
theorem dX0_worthOfAll_5 : decode cX0_worthOfAll 5 = .ok (.invokevirtual 34, 3) := by decide +kernel
theorem dX0_worthOfAll_8 : decode cX0_worthOfAll 8 = .ok (.iconst (-1), 1) := by decide +kernel
theorem dX0_worthOfAll_9 : decode cX0_worthOfAll 9 = .ok (.ixor, 1) := by decide +kernel
theorem dX0_worthOfAll_10 : decode cX0_worthOfAll 10 = .ok (.invokevirtual 40, 3) := by decide +kernel
theorem dX0_worthOfAll_13 : decode cX0_worthOfAll 13 = .ok (.ireturn, 1) := by decide +kernel
theorem dX0_worthOfFalse_0 : decode cX0_worthOfFalse 0 = .ok (.aload_n 0, 1) := by decide +kernel
theorem dX0_worthOfFalse_1 : decode cX0_worthOfFalse 1 = .ok (.aload_n 0, 1) := by decide +kernel
theorem dX0_worthOfFalse_2 : decode cX0_worthOfFalse 2 = .ok (.invokevirtual 44, 3) := by decide +kernel
theorem dX0_worthOfFalse_5 : decode cX0_worthOfFalse 5 = .ok (.aload_n 0, 1) := by decide +kernel
theorem dX0_worthOfFalse_6 : decode cX0_worthOfFalse 6 = .ok (.getfield 22, 3) := by decide +kernel
theorem dX0_worthOfFalse_9 : decode cX0_worthOfFalse 9 = .ok (.invokevirtual 34, 3) := by decide +kernel
theorem dX0_worthOfFalse_12 : decode cX0_worthOfFalse 12 = .ok (.iconst (-1), 1) := by decide +kernel
theorem dX0_worthOfFalse_13 : decode cX0_worthOfFalse 13 = .ok (.ixor, 1) := by decide +kernel
theorem dX0_worthOfFalse_14 : decode cX0_worthOfFalse 14 = .ok (.iand, 1) := by decide +kernel
theorem dX0_worthOfFalse_15 : decode cX0_worthOfFalse 15 = .ok (.invokevirtual 40, 3) := by decide +kernel
theorem dX0_worthOfFalse_18 : decode cX0_worthOfFalse 18 = .ok (.ireturn, 1) := by decide +kernel
theorem dX0_worthOf_0 : decode cX0_worthOf 0 = .ok (.iconst 0, 1) := by decide +kernel
theorem dX0_worthOf_1 : decode cX0_worthOf 1 = .ok (.istore_n 2, 1) := by decide +kernel
theorem dX0_worthOf_2 : decode cX0_worthOf 2 = .ok (.iconst 0, 1) := by decide +kernel
theorem dX0_worthOf_3 : decode cX0_worthOf 3 = .ok (.istore_n 3, 1) := by decide +kernel
theorem dX0_worthOf_4 : decode cX0_worthOf 4 = .ok (.iload_n 3, 1) := by decide +kernel
theorem dX0_worthOf_5 : decode cX0_worthOf 5 = .ok (.aload_n 0, 1) := by decide +kernel
theorem dX0_worthOf_6 : decode cX0_worthOf 6 = .ok (.getfield 18, 3) := by decide +kernel
theorem dX0_worthOf_9 : decode cX0_worthOf 9 = .ok (.getfield 47, 3) := by decide +kernel
theorem dX0_worthOf_12 : decode cX0_worthOf 12 = .ok (.if_icmp .ge 29, 3) := by decide +kernel
theorem dX0_worthOf_15 : decode cX0_worthOf 15 = .ok (.iload_n 1, 1) := by decide +kernel
theorem dX0_worthOf_16 : decode cX0_worthOf 16 = .ok (.iload_n 3, 1) := by decide +kernel
theorem dX0_worthOf_17 : decode cX0_worthOf 17 = .ok (.invokestatic 52, 3) := by decide +kernel
theorem dX0_worthOf_20 : decode cX0_worthOf 20 = .ok (.ifCond .eq 15, 3) := by decide +kernel
theorem dX0_worthOf_23 : decode cX0_worthOf 23 = .ok (.iload_n 2, 1) := by decide +kernel
theorem dX0_worthOf_24 : decode cX0_worthOf 24 = .ok (.aload_n 0, 1) := by decide +kernel
theorem dX0_worthOf_25 : decode cX0_worthOf 25 = .ok (.getfield 18, 3) := by decide +kernel
theorem dX0_worthOf_28 : decode cX0_worthOf 28 = .ok (.getfield 56, 3) := by decide +kernel
theorem dX0_worthOf_31 : decode cX0_worthOf 31 = .ok (.iload_n 3, 1) := by decide +kernel
theorem dX0_worthOf_32 : decode cX0_worthOf 32 = .ok (.iaload, 1) := by decide +kernel
theorem dX0_worthOf_33 : decode cX0_worthOf 33 = .ok (.iadd, 1) := by decide +kernel
theorem dX0_worthOf_34 : decode cX0_worthOf 34 = .ok (.istore_n 2, 1) := by decide +kernel
theorem dX0_worthOf_35 : decode cX0_worthOf 35 = .ok (.iinc 3 1, 3) := by decide +kernel
theorem dX0_worthOf_38 : decode cX0_worthOf 38 = .ok (.goto (-34), 3) := by decide +kernel
theorem dX0_worthOf_41 : decode cX0_worthOf 41 = .ok (.iload_n 2, 1) := by decide +kernel
theorem dX0_worthOf_42 : decode cX0_worthOf 42 = .ok (.ireturn, 1) := by decide +kernel
theorem dX0_bestSet_0 : decode cX0_bestSet 0 = .ok (.aload_n 0, 1) := by decide +kernel
theorem dX0_bestSet_1 : decode cX0_bestSet 1 = .ok (.invokevirtual 44, 3) := by decide +kernel
theorem dX0_bestSet_4 : decode cX0_bestSet 4 = .ok (.aload_n 0, 1) := by decide +kernel
theorem dX0_bestSet_5 : decode cX0_bestSet 5 = .ok (.getfield 22, 3) := by decide +kernel
theorem dX0_bestSet_8 : decode cX0_bestSet 8 = .ok (.invokevirtual 34, 3) := by decide +kernel
theorem dX0_bestSet_11 : decode cX0_bestSet 11 = .ok (.iconst (-1), 1) := by decide +kernel
theorem dX0_bestSet_12 : decode cX0_bestSet 12 = .ok (.ixor, 1) := by decide +kernel
theorem dX0_bestSet_13 : decode cX0_bestSet 13 = .ok (.iand, 1) := by decide +kernel
theorem dX0_bestSet_14 : decode cX0_bestSet 14 = .ok (.aload_n 0, 1) := by decide +kernel
theorem dX0_bestSet_15 : decode cX0_bestSet 15 = .ok (.getfield 22, 3) := by decide +kernel
theorem dX0_bestSet_18 : decode cX0_bestSet 18 = .ok (.invokevirtual 59, 3) := by decide +kernel
theorem dX0_bestSet_21 : decode cX0_bestSet 21 = .ok (.iconst (-1), 1) := by decide +kernel
theorem dX0_bestSet_22 : decode cX0_bestSet 22 = .ok (.ixor, 1) := by decide +kernel
theorem dX0_bestSet_23 : decode cX0_bestSet 23 = .ok (.iand, 1) := by decide +kernel
theorem dX0_bestSet_24 : decode cX0_bestSet 24 = .ok (.istore_n 1, 1) := by decide +kernel
theorem dX0_bestSet_25 : decode cX0_bestSet 25 = .ok (.aload_n 0, 1) := by decide +kernel
theorem dX0_bestSet_26 : decode cX0_bestSet 26 = .ok (.getfield 18, 3) := by decide +kernel
theorem dX0_bestSet_29 : decode cX0_bestSet 29 = .ok (.getfield 62, 3) := by decide +kernel
theorem dX0_bestSet_32 : decode cX0_bestSet 32 = .ok (.aload_n 0, 1) := by decide +kernel
theorem dX0_bestSet_33 : decode cX0_bestSet 33 = .ok (.invokevirtual 65, 3) := by decide +kernel
theorem dX0_bestSet_36 : decode cX0_bestSet 36 = .ok (.imul, 1) := by decide +kernel
theorem dX0_bestSet_37 : decode cX0_bestSet 37 = .ok (.bipush 10, 2) := by decide +kernel
theorem dX0_bestSet_39 : decode cX0_bestSet 39 = .ok (.aload_n 0, 1) := by decide +kernel
theorem dX0_bestSet_40 : decode cX0_bestSet 40 = .ok (.aload_n 0, 1) := by decide +kernel
theorem dX0_bestSet_41 : decode cX0_bestSet 41 = .ok (.getfield 22, 3) := by decide +kernel
theorem dX0_bestSet_44 : decode cX0_bestSet 44 = .ok (.invokevirtual 59, 3) := by decide +kernel
theorem dX0_bestSet_47 : decode cX0_bestSet 47 = .ok (.aload_n 0, 1) := by decide +kernel
theorem dX0_bestSet_48 : decode cX0_bestSet 48 = .ok (.getfield 22, 3) := by decide +kernel
theorem dX0_bestSet_51 : decode cX0_bestSet 51 = .ok (.invokevirtual 34, 3) := by decide +kernel
theorem dX0_bestSet_54 : decode cX0_bestSet 54 = .ok (.iconst (-1), 1) := by decide +kernel
theorem dX0_bestSet_55 : decode cX0_bestSet 55 = .ok (.ixor, 1) := by decide +kernel
theorem dX0_bestSet_56 : decode cX0_bestSet 56 = .ok (.iand, 1) := by decide +kernel
theorem dX0_bestSet_57 : decode cX0_bestSet 57 = .ok (.invokevirtual 40, 3) := by decide +kernel
theorem dX0_bestSet_60 : decode cX0_bestSet 60 = .ok (.imul, 1) := by decide +kernel
theorem dX0_bestSet_61 : decode cX0_bestSet 61 = .ok (.isub, 1) := by decide +kernel
theorem dX0_bestSet_62 : decode cX0_bestSet 62 = .ok (.istore_n 2, 1) := by decide +kernel
theorem dX0_bestSet_63 : decode cX0_bestSet 63 = .ok (.bipush (-9), 2) := by decide +kernel
theorem dX0_bestSet_65 : decode cX0_bestSet 65 = .ok (.istore_n 3, 1) := by decide +kernel
theorem dX0_bestSet_66 : decode cX0_bestSet 66 = .ok (.iconst 0, 1) := by decide +kernel
theorem dX0_bestSet_67 : decode cX0_bestSet 67 = .ok (.istore 4, 2) := by decide +kernel
theorem dX0_bestSet_69 : decode cX0_bestSet 69 = .ok (.iload 4, 2) := by decide +kernel
theorem dX0_bestSet_71 : decode cX0_bestSet 71 = .ok (.bipush 64, 2) := by decide +kernel
theorem dX0_bestSet_73 : decode cX0_bestSet 73 = .ok (.if_icmp .ge 44, 3) := by decide +kernel
theorem dX0_bestSet_76 : decode cX0_bestSet 76 = .ok (.iload 4, 2) := by decide +kernel
theorem dX0_bestSet_78 : decode cX0_bestSet 78 = .ok (.iload_n 1, 1) := by decide +kernel
theorem dX0_bestSet_79 : decode cX0_bestSet 79 = .ok (.iconst (-1), 1) := by decide +kernel
theorem dX0_bestSet_80 : decode cX0_bestSet 80 = .ok (.ixor, 1) := by decide +kernel
theorem dX0_bestSet_81 : decode cX0_bestSet 81 = .ok (.iand, 1) := by decide +kernel
theorem dX0_bestSet_82 : decode cX0_bestSet 82 = .ok (.ifCond .ne 29, 3) := by decide +kernel
theorem dX0_bestSet_85 : decode cX0_bestSet 85 = .ok (.bipush 10, 2) := by decide +kernel
theorem dX0_bestSet_87 : decode cX0_bestSet 87 = .ok (.aload_n 0, 1) := by decide +kernel
theorem dX0_bestSet_88 : decode cX0_bestSet 88 = .ok (.iload 4, 2) := by decide +kernel
theorem dX0_bestSet_90 : decode cX0_bestSet 90 = .ok (.invokevirtual 40, 3) := by decide +kernel
theorem dX0_bestSet_93 : decode cX0_bestSet 93 = .ok (.imul, 1) := by decide +kernel
theorem dX0_bestSet_94 : decode cX0_bestSet 94 = .ok (.iload_n 2, 1) := by decide +kernel
theorem dX0_bestSet_95 : decode cX0_bestSet 95 = .ok (.if_icmp .gt 16, 3) := by decide +kernel
theorem dX0_bestSet_98 : decode cX0_bestSet 98 = .ok (.aload_n 0, 1) := by decide +kernel
theorem dX0_bestSet_99 : decode cX0_bestSet 99 = .ok (.iload 4, 2) := by decide +kernel
theorem dX0_bestSet_101 : decode cX0_bestSet 101 = .ok (.iload_n 3, 1) := by decide +kernel
theorem dX0_bestSet_102 : decode cX0_bestSet 102 = .ok (.invokevirtual 68, 3) := by decide +kernel
theorem dX0_bestSet_105 : decode cX0_bestSet 105 = .ok (.ifCond .eq 6, 3) := by decide +kernel
theorem dX0_bestSet_108 : decode cX0_bestSet 108 = .ok (.iload 4, 2) := by decide +kernel
theorem dX0_bestSet_110 : decode cX0_bestSet 110 = .ok (.istore_n 3, 1) := by decide +kernel
theorem dX0_bestSet_111 : decode cX0_bestSet 111 = .ok (.iinc 4 1, 3) := by decide +kernel
theorem dX0_bestSet_114 : decode cX0_bestSet 114 = .ok (.goto (-45), 3) := by decide +kernel
theorem dX0_bestSet_117 : decode cX0_bestSet 117 = .ok (.iload_n 3, 1) := by decide +kernel
theorem dX0_bestSet_118 : decode cX0_bestSet 118 = .ok (.ireturn, 1) := by decide +kernel
theorem dX0_isBetter_0 : decode cX0_isBetter 0 = .ok (.iload_n 2, 1) := by decide +kernel
theorem dX0_isBetter_1 : decode cX0_isBetter 1 = .ok (.bipush (-9), 2) := by decide +kernel
theorem dX0_isBetter_3 : decode cX0_isBetter 3 = .ok (.if_icmp .ne 5, 3) := by decide +kernel
theorem dX0_isBetter_6 : decode cX0_isBetter 6 = .ok (.iconst 1, 1) := by decide +kernel
theorem dX0_isBetter_7 : decode cX0_isBetter 7 = .ok (.ireturn, 1) := by decide +kernel
theorem dX0_isBetter_8 : decode cX0_isBetter 8 = .ok (.iload_n 1, 1) := by decide +kernel
theorem dX0_isBetter_9 : decode cX0_isBetter 9 = .ok (.invokestatic 71, 3) := by decide +kernel
theorem dX0_isBetter_12 : decode cX0_isBetter 12 = .ok (.iload_n 2, 1) := by decide +kernel
theorem dX0_isBetter_13 : decode cX0_isBetter 13 = .ok (.invokestatic 71, 3) := by decide +kernel
theorem dX0_isBetter_16 : decode cX0_isBetter 16 = .ok (.isub, 1) := by decide +kernel
theorem dX0_isBetter_17 : decode cX0_isBetter 17 = .ok (.istore_n 3, 1) := by decide +kernel
theorem dX0_isBetter_18 : decode cX0_isBetter 18 = .ok (.iload_n 3, 1) := by decide +kernel
theorem dX0_isBetter_19 : decode cX0_isBetter 19 = .ok (.ifCond .gt 20, 3) := by decide +kernel
theorem dX0_isBetter_22 : decode cX0_isBetter 22 = .ok (.iload_n 3, 1) := by decide +kernel
theorem dX0_isBetter_23 : decode cX0_isBetter 23 = .ok (.ifCond .ne 20, 3) := by decide +kernel
theorem dX0_isBetter_26 : decode cX0_isBetter 26 = .ok (.aload_n 0, 1) := by decide +kernel
theorem dX0_isBetter_27 : decode cX0_isBetter 27 = .ok (.iload_n 1, 1) := by decide +kernel
theorem dX0_isBetter_28 : decode cX0_isBetter 28 = .ok (.invokevirtual 40, 3) := by decide +kernel
theorem dX0_isBetter_31 : decode cX0_isBetter 31 = .ok (.aload_n 0, 1) := by decide +kernel
theorem dX0_isBetter_32 : decode cX0_isBetter 32 = .ok (.iload_n 2, 1) := by decide +kernel
theorem dX0_isBetter_33 : decode cX0_isBetter 33 = .ok (.invokevirtual 40, 3) := by decide +kernel
theorem dX0_isBetter_36 : decode cX0_isBetter 36 = .ok (.if_icmp .le 7, 3) := by decide +kernel
theorem dX0_isBetter_39 : decode cX0_isBetter 39 = .ok (.iconst 1, 1) := by decide +kernel
theorem dX0_isBetter_40 : decode cX0_isBetter 40 = .ok (.goto 4, 3) := by decide +kernel
theorem dX0_isBetter_43 : decode cX0_isBetter 43 = .ok (.iconst 0, 1) := by decide +kernel
theorem dX0_isBetter_44 : decode cX0_isBetter 44 = .ok (.ireturn, 1) := by decide +kernel
theorem dX0_falseNotes_0 : decode cX0_falseNotes 0 = .ok (.iconst 0, 1) := by decide +kernel
theorem dX0_falseNotes_1 : decode cX0_falseNotes 1 = .ok (.istore_n 1, 1) := by decide +kernel
theorem dX0_falseNotes_2 : decode cX0_falseNotes 2 = .ok (.iconst 0, 1) := by decide +kernel
theorem dX0_falseNotes_3 : decode cX0_falseNotes 3 = .ok (.istore_n 2, 1) := by decide +kernel
theorem dX0_falseNotes_4 : decode cX0_falseNotes 4 = .ok (.iload_n 2, 1) := by decide +kernel
theorem dX0_falseNotes_5 : decode cX0_falseNotes 5 = .ok (.aload_n 0, 1) := by decide +kernel
theorem dX0_falseNotes_6 : decode cX0_falseNotes 6 = .ok (.getfield 18, 3) := by decide +kernel
theorem dX0_falseNotes_9 : decode cX0_falseNotes 9 = .ok (.getfield 47, 3) := by decide +kernel
theorem dX0_falseNotes_12 : decode cX0_falseNotes 12 = .ok (.if_icmp .ge 26, 3) := by decide +kernel
theorem dX0_falseNotes_15 : decode cX0_falseNotes 15 = .ok (.aload_n 0, 1) := by decide +kernel
theorem dX0_falseNotes_16 : decode cX0_falseNotes 16 = .ok (.getfield 18, 3) := by decide +kernel
theorem dX0_falseNotes_19 : decode cX0_falseNotes 19 = .ok (.iload_n 2, 1) := by decide +kernel
theorem dX0_falseNotes_20 : decode cX0_falseNotes 20 = .ok (.invokevirtual 76, 3) := by decide +kernel
theorem dX0_falseNotes_23 : decode cX0_falseNotes 23 = .ok (.ifCond .eq 9, 3) := by decide +kernel
theorem dX0_falseNotes_26 : decode cX0_falseNotes 26 = .ok (.iload_n 1, 1) := by decide +kernel
theorem dX0_falseNotes_27 : decode cX0_falseNotes 27 = .ok (.iconst 1, 1) := by decide +kernel
theorem dX0_falseNotes_28 : decode cX0_falseNotes 28 = .ok (.iload_n 2, 1) := by decide +kernel
theorem dX0_falseNotes_29 : decode cX0_falseNotes 29 = .ok (.ishl, 1) := by decide +kernel
theorem dX0_falseNotes_30 : decode cX0_falseNotes 30 = .ok (.ior, 1) := by decide +kernel
theorem dX0_falseNotes_31 : decode cX0_falseNotes 31 = .ok (.istore_n 1, 1) := by decide +kernel
theorem dX0_falseNotes_32 : decode cX0_falseNotes 32 = .ok (.iinc 2 1, 3) := by decide +kernel
theorem dX0_falseNotes_35 : decode cX0_falseNotes 35 = .ok (.goto (-31), 3) := by decide +kernel
theorem dX0_falseNotes_38 : decode cX0_falseNotes 38 = .ok (.iload_n 1, 1) := by decide +kernel
theorem dX0_falseNotes_39 : decode cX0_falseNotes 39 = .ok (.ireturn, 1) := by decide +kernel
theorem dX1_init_0 : decode cX1_init 0 = .ok (.aload_n 0, 1) := by decide +kernel
theorem dX1_init_1 : decode cX1_init 1 = .ok (.invokespecial 3, 3) := by decide +kernel
theorem dX1_init_4 : decode cX1_init 4 = .ok (.aload_n 0, 1) := by decide +kernel
theorem dX1_init_5 : decode cX1_init 5 = .ok (.iconst 5, 1) := by decide +kernel
theorem dX1_init_6 : decode cX1_init 6 = .ok (.newarray .int, 2) := by decide +kernel
theorem dX1_init_8 : decode cX1_init 8 = .ok (.putfield 9, 3) := by decide +kernel
theorem dX1_init_11 : decode cX1_init 11 = .ok (.aload_n 0, 1) := by decide +kernel
theorem dX1_init_12 : decode cX1_init 12 = .ok (.bipush 6, 2) := by decide +kernel
theorem dX1_init_14 : decode cX1_init 14 = .ok (.newarray .int, 2) := by decide +kernel
theorem dX1_init_16 : decode cX1_init 16 = .ok (.putfield 15, 3) := by decide +kernel
theorem dX1_init_19 : decode cX1_init 19 = .ok (.aload_n 0, 1) := by decide +kernel
theorem dX1_init_20 : decode cX1_init 20 = .ok (.bipush 6, 2) := by decide +kernel
theorem dX1_init_22 : decode cX1_init 22 = .ok (.newarray .int, 2) := by decide +kernel
theorem dX1_init_24 : decode cX1_init 24 = .ok (.putfield 18, 3) := by decide +kernel
theorem dX1_init_27 : decode cX1_init 27 = .ok (.aload_n 0, 1) := by decide +kernel
theorem dX1_init_28 : decode cX1_init 28 = .ok (.bipush 6, 2) := by decide +kernel
theorem dX1_init_30 : decode cX1_init 30 = .ok (.newarray .int, 2) := by decide +kernel
theorem dX1_init_32 : decode cX1_init 32 = .ok (.putfield 21, 3) := by decide +kernel
theorem dX1_init_35 : decode cX1_init 35 = .ok (.aload_n 0, 1) := by decide +kernel
theorem dX1_init_36 : decode cX1_init 36 = .ok (.iconst 3, 1) := by decide +kernel
theorem dX1_init_37 : decode cX1_init 37 = .ok (.putfield 24, 3) := by decide +kernel
theorem dX1_init_40 : decode cX1_init 40 = .ok (.aload_n 0, 1) := by decide +kernel
theorem dX1_init_41 : decode cX1_init 41 = .ok (.iconst 3, 1) := by decide +kernel
theorem dX1_init_42 : decode cX1_init 42 = .ok (.putfield 28, 3) := by decide +kernel
theorem dX1_init_45 : decode cX1_init 45 = .ok (.return_, 1) := by decide +kernel
theorem dX1_empty_0 : decode cX1_empty 0 = .ok (.aload_n 0, 1) := by decide +kernel
theorem dX1_empty_1 : decode cX1_empty 1 = .ok (.iconst 0, 1) := by decide +kernel
theorem dX1_empty_2 : decode cX1_empty 2 = .ok (.putfield 31, 3) := by decide +kernel
theorem dX1_empty_5 : decode cX1_empty 5 = .ok (.aload_n 0, 1) := by decide +kernel
theorem dX1_empty_6 : decode cX1_empty 6 = .ok (.iconst 0, 1) := by decide +kernel
theorem dX1_empty_7 : decode cX1_empty 7 = .ok (.putfield 34, 3) := by decide +kernel
theorem dX1_empty_10 : decode cX1_empty 10 = .ok (.aload_n 0, 1) := by decide +kernel
theorem dX1_empty_11 : decode cX1_empty 11 = .ok (.iconst 3, 1) := by decide +kernel
theorem dX1_empty_12 : decode cX1_empty 12 = .ok (.putfield 24, 3) := by decide +kernel
theorem dX1_empty_15 : decode cX1_empty 15 = .ok (.aload_n 0, 1) := by decide +kernel
theorem dX1_empty_16 : decode cX1_empty 16 = .ok (.iconst 3, 1) := by decide +kernel
theorem dX1_empty_17 : decode cX1_empty 17 = .ok (.putfield 28, 3) := by decide +kernel
theorem dX1_empty_20 : decode cX1_empty 20 = .ok (.return_, 1) := by decide +kernel
theorem dX1_copyFrom_0 : decode cX1_copyFrom 0 = .ok (.aload_n 1, 1) := by decide +kernel
theorem dX1_copyFrom_1 : decode cX1_copyFrom 1 = .ok (.getfield 9, 3) := by decide +kernel
theorem dX1_copyFrom_4 : decode cX1_copyFrom 4 = .ok (.iconst 0, 1) := by decide +kernel
theorem dX1_copyFrom_5 : decode cX1_copyFrom 5 = .ok (.aload_n 0, 1) := by decide +kernel
theorem dX1_copyFrom_6 : decode cX1_copyFrom 6 = .ok (.getfield 9, 3) := by decide +kernel
theorem dX1_copyFrom_9 : decode cX1_copyFrom 9 = .ok (.iconst 0, 1) := by decide +kernel
theorem dX1_copyFrom_10 : decode cX1_copyFrom 10 = .ok (.iconst 5, 1) := by decide +kernel
theorem dX1_copyFrom_11 : decode cX1_copyFrom 11 = .ok (.invokestatic 37, 3) := by decide +kernel
theorem dX1_copyFrom_14 : decode cX1_copyFrom 14 = .ok (.aload_n 1, 1) := by decide +kernel
theorem dX1_copyFrom_15 : decode cX1_copyFrom 15 = .ok (.getfield 15, 3) := by decide +kernel
theorem dX1_copyFrom_18 : decode cX1_copyFrom 18 = .ok (.iconst 0, 1) := by decide +kernel
theorem dX1_copyFrom_19 : decode cX1_copyFrom 19 = .ok (.aload_n 0, 1) := by decide +kernel
theorem dX1_copyFrom_20 : decode cX1_copyFrom 20 = .ok (.getfield 15, 3) := by decide +kernel
theorem dX1_copyFrom_23 : decode cX1_copyFrom 23 = .ok (.iconst 0, 1) := by decide +kernel
theorem dX1_copyFrom_24 : decode cX1_copyFrom 24 = .ok (.bipush 6, 2) := by decide +kernel
theorem dX1_copyFrom_26 : decode cX1_copyFrom 26 = .ok (.invokestatic 37, 3) := by decide +kernel
theorem dX1_copyFrom_29 : decode cX1_copyFrom 29 = .ok (.aload_n 1, 1) := by decide +kernel
theorem dX1_copyFrom_30 : decode cX1_copyFrom 30 = .ok (.getfield 18, 3) := by decide +kernel
theorem dX1_copyFrom_33 : decode cX1_copyFrom 33 = .ok (.iconst 0, 1) := by decide +kernel
theorem dX1_copyFrom_34 : decode cX1_copyFrom 34 = .ok (.aload_n 0, 1) := by decide +kernel
theorem dX1_copyFrom_35 : decode cX1_copyFrom 35 = .ok (.getfield 18, 3) := by decide +kernel
theorem dX1_copyFrom_38 : decode cX1_copyFrom 38 = .ok (.iconst 0, 1) := by decide +kernel
theorem dX1_copyFrom_39 : decode cX1_copyFrom 39 = .ok (.bipush 6, 2) := by decide +kernel
theorem dX1_copyFrom_41 : decode cX1_copyFrom 41 = .ok (.invokestatic 37, 3) := by decide +kernel
theorem dX1_copyFrom_44 : decode cX1_copyFrom 44 = .ok (.aload_n 1, 1) := by decide +kernel
theorem dX1_copyFrom_45 : decode cX1_copyFrom 45 = .ok (.getfield 21, 3) := by decide +kernel
theorem dX1_copyFrom_48 : decode cX1_copyFrom 48 = .ok (.iconst 0, 1) := by decide +kernel
theorem dX1_copyFrom_49 : decode cX1_copyFrom 49 = .ok (.aload_n 0, 1) := by decide +kernel
theorem dX1_copyFrom_50 : decode cX1_copyFrom 50 = .ok (.getfield 21, 3) := by decide +kernel
theorem dX1_copyFrom_53 : decode cX1_copyFrom 53 = .ok (.iconst 0, 1) := by decide +kernel
theorem dX1_copyFrom_54 : decode cX1_copyFrom 54 = .ok (.bipush 6, 2) := by decide +kernel
theorem dX1_copyFrom_56 : decode cX1_copyFrom 56 = .ok (.invokestatic 37, 3) := by decide +kernel
theorem dX1_copyFrom_59 : decode cX1_copyFrom 59 = .ok (.aload_n 0, 1) := by decide +kernel
theorem dX1_copyFrom_60 : decode cX1_copyFrom 60 = .ok (.aload_n 1, 1) := by decide +kernel
theorem dX1_copyFrom_61 : decode cX1_copyFrom 61 = .ok (.getfield 31, 3) := by decide +kernel
theorem dX1_copyFrom_64 : decode cX1_copyFrom 64 = .ok (.putfield 31, 3) := by decide +kernel
theorem dX1_copyFrom_67 : decode cX1_copyFrom 67 = .ok (.aload_n 0, 1) := by decide +kernel
theorem dX1_copyFrom_68 : decode cX1_copyFrom 68 = .ok (.aload_n 1, 1) := by decide +kernel
theorem dX1_copyFrom_69 : decode cX1_copyFrom 69 = .ok (.getfield 34, 3) := by decide +kernel
theorem dX1_copyFrom_72 : decode cX1_copyFrom 72 = .ok (.putfield 34, 3) := by decide +kernel
theorem dX1_copyFrom_75 : decode cX1_copyFrom 75 = .ok (.aload_n 0, 1) := by decide +kernel
theorem dX1_copyFrom_76 : decode cX1_copyFrom 76 = .ok (.aload_n 1, 1) := by decide +kernel
theorem dX1_copyFrom_77 : decode cX1_copyFrom 77 = .ok (.getfield 24, 3) := by decide +kernel
theorem dX1_copyFrom_80 : decode cX1_copyFrom 80 = .ok (.putfield 24, 3) := by decide +kernel
theorem dX1_copyFrom_83 : decode cX1_copyFrom 83 = .ok (.aload_n 0, 1) := by decide +kernel
theorem dX1_copyFrom_84 : decode cX1_copyFrom 84 = .ok (.aload_n 1, 1) := by decide +kernel
theorem dX1_copyFrom_85 : decode cX1_copyFrom 85 = .ok (.getfield 28, 3) := by decide +kernel
theorem dX1_copyFrom_88 : decode cX1_copyFrom 88 = .ok (.putfield 28, 3) := by decide +kernel
theorem dX1_copyFrom_91 : decode cX1_copyFrom 91 = .ok (.return_, 1) := by decide +kernel
theorem dX1_hasPerson_0 : decode cX1_hasPerson 0 = .ok (.iload_n 1, 1) := by decide +kernel
theorem dX1_hasPerson_1 : decode cX1_hasPerson 1 = .ok (.ifCond .lt 15, 3) := by decide +kernel
theorem dX1_hasPerson_4 : decode cX1_hasPerson 4 = .ok (.iload_n 1, 1) := by decide +kernel
theorem dX1_hasPerson_5 : decode cX1_hasPerson 5 = .ok (.aload_n 0, 1) := by decide +kernel
theorem dX1_hasPerson_6 : decode cX1_hasPerson 6 = .ok (.getfield 31, 3) := by decide +kernel
theorem dX1_hasPerson_9 : decode cX1_hasPerson 9 = .ok (.if_icmp .ge 7, 3) := by decide +kernel
theorem dX1_hasPerson_12 : decode cX1_hasPerson 12 = .ok (.iconst 1, 1) := by decide +kernel
theorem dX1_hasPerson_13 : decode cX1_hasPerson 13 = .ok (.goto 4, 3) := by decide +kernel
theorem dX1_hasPerson_16 : decode cX1_hasPerson 16 = .ok (.iconst 0, 1) := by decide +kernel
theorem dX1_hasPerson_17 : decode cX1_hasPerson 17 = .ok (.ireturn, 1) := by decide +kernel
theorem dX1_hasNote_0 : decode cX1_hasNote 0 = .ok (.iload_n 1, 1) := by decide +kernel
theorem dX1_hasNote_1 : decode cX1_hasNote 1 = .ok (.ifCond .lt 15, 3) := by decide +kernel
theorem dX1_hasNote_4 : decode cX1_hasNote 4 = .ok (.iload_n 1, 1) := by decide +kernel
theorem dX1_hasNote_5 : decode cX1_hasNote 5 = .ok (.aload_n 0, 1) := by decide +kernel
theorem dX1_hasNote_6 : decode cX1_hasNote 6 = .ok (.getfield 34, 3) := by decide +kernel
theorem dX1_hasNote_9 : decode cX1_hasNote 9 = .ok (.if_icmp .ge 7, 3) := by decide +kernel
theorem dX1_hasNote_12 : decode cX1_hasNote 12 = .ok (.iconst 1, 1) := by decide +kernel
theorem dX1_hasNote_13 : decode cX1_hasNote 13 = .ok (.goto 4, 3) := by decide +kernel
theorem dX1_hasNote_16 : decode cX1_hasNote 16 = .ok (.iconst 0, 1) := by decide +kernel
theorem dX1_hasNote_17 : decode cX1_hasNote 17 = .ok (.ireturn, 1) := by decide +kernel
theorem dX1_isFalse_0 : decode cX1_isFalse 0 = .ok (.aload_n 0, 1) := by decide +kernel
theorem dX1_isFalse_1 : decode cX1_isFalse 1 = .ok (.getfield 18, 3) := by decide +kernel
theorem dX1_isFalse_4 : decode cX1_isFalse 4 = .ok (.iload_n 1, 1) := by decide +kernel
theorem dX1_isFalse_5 : decode cX1_isFalse 5 = .ok (.iaload, 1) := by decide +kernel
theorem dX1_isFalse_6 : decode cX1_isFalse 6 = .ok (.ifCond .eq 7, 3) := by decide +kernel
theorem dX1_isFalse_9 : decode cX1_isFalse 9 = .ok (.iconst 1, 1) := by decide +kernel
theorem dX1_isFalse_10 : decode cX1_isFalse 10 = .ok (.goto 4, 3) := by decide +kernel
theorem dX1_isFalse_13 : decode cX1_isFalse 13 = .ok (.iconst 0, 1) := by decide +kernel
theorem dX1_isFalse_14 : decode cX1_isFalse 14 = .ok (.ireturn, 1) := by decide +kernel
theorem dX2_init_0 : decode cX2_init 0 = .ok (.aload_n 0, 1) := by decide +kernel
theorem dX2_init_1 : decode cX2_init 1 = .ok (.invokespecial 3, 3) := by decide +kernel
theorem dX2_init_4 : decode cX2_init 4 = .ok (.aload_n 0, 1) := by decide +kernel
theorem dX2_init_5 : decode cX2_init 5 = .ok (.sipush 200, 3) := by decide +kernel
theorem dX2_init_8 : decode cX2_init 8 = .ok (.newarray .int, 2) := by decide +kernel
theorem dX2_init_10 : decode cX2_init 10 = .ok (.putfield 11, 3) := by decide +kernel
theorem dX2_init_13 : decode cX2_init 13 = .ok (.return_, 1) := by decide +kernel
theorem dX2_empty_0 : decode cX2_empty 0 = .ok (.aload_n 0, 1) := by decide +kernel
theorem dX2_empty_1 : decode cX2_empty 1 = .ok (.iconst 0, 1) := by decide +kernel
theorem dX2_empty_2 : decode cX2_empty 2 = .ok (.putfield 17, 3) := by decide +kernel
theorem dX2_empty_5 : decode cX2_empty 5 = .ok (.aload_n 0, 1) := by decide +kernel
theorem dX2_empty_6 : decode cX2_empty 6 = .ok (.iconst 0, 1) := by decide +kernel
theorem dX2_empty_7 : decode cX2_empty 7 = .ok (.putfield 21, 3) := by decide +kernel
theorem dX2_empty_10 : decode cX2_empty 10 = .ok (.return_, 1) := by decide +kernel
theorem dX2_push_0 : decode cX2_push 0 = .ok (.aload_n 1, 1) := by decide +kernel
theorem dX2_push_1 : decode cX2_push 1 = .ok (.aload_n 0, 1) := by decide +kernel
theorem dX2_push_2 : decode cX2_push 2 = .ok (.getfield 11, 3) := by decide +kernel
theorem dX2_push_5 : decode cX2_push 5 = .ok (.aload_n 0, 1) := by decide +kernel
theorem dX2_push_6 : decode cX2_push 6 = .ok (.getfield 17, 3) := by decide +kernel
theorem dX2_push_9 : decode cX2_push 9 = .ok (.invokevirtual 24, 3) := by decide +kernel
theorem dX2_push_12 : decode cX2_push 12 = .ok (.aload_n 0, 1) := by decide +kernel
theorem dX2_push_13 : decode cX2_push 13 = .ok (.aload_n 0, 1) := by decide +kernel
theorem dX2_push_14 : decode cX2_push 14 = .ok (.getfield 17, 3) := by decide +kernel
theorem dX2_push_17 : decode cX2_push 17 = .ok (.iconst 1, 1) := by decide +kernel
theorem dX2_push_18 : decode cX2_push 18 = .ok (.iadd, 1) := by decide +kernel
theorem dX2_push_19 : decode cX2_push 19 = .ok (.bipush 10, 2) := by decide +kernel
theorem dX2_push_21 : decode cX2_push 21 = .ok (.irem, 1) := by decide +kernel
theorem dX2_push_22 : decode cX2_push 22 = .ok (.putfield 17, 3) := by decide +kernel
theorem dX2_push_25 : decode cX2_push 25 = .ok (.aload_n 0, 1) := by decide +kernel
theorem dX2_push_26 : decode cX2_push 26 = .ok (.bipush 10, 2) := by decide +kernel
theorem dX2_push_28 : decode cX2_push 28 = .ok (.aload_n 0, 1) := by decide +kernel
theorem dX2_push_29 : decode cX2_push 29 = .ok (.getfield 21, 3) := by decide +kernel
theorem dX2_push_32 : decode cX2_push 32 = .ok (.iconst 1, 1) := by decide +kernel
theorem dX2_push_33 : decode cX2_push 33 = .ok (.iadd, 1) := by decide +kernel
theorem dX2_push_34 : decode cX2_push 34 = .ok (.invokestatic 28, 3) := by decide +kernel
theorem dX2_push_37 : decode cX2_push 37 = .ok (.putfield 21, 3) := by decide +kernel
theorem dX2_push_40 : decode cX2_push 40 = .ok (.return_, 1) := by decide +kernel
theorem dX2_pop_0 : decode cX2_pop 0 = .ok (.aload_n 0, 1) := by decide +kernel
theorem dX2_pop_1 : decode cX2_pop 1 = .ok (.aload_n 0, 1) := by decide +kernel
theorem dX2_pop_2 : decode cX2_pop 2 = .ok (.getfield 17, 3) := by decide +kernel
theorem dX2_pop_5 : decode cX2_pop 5 = .ok (.bipush 10, 2) := by decide +kernel
theorem dX2_pop_7 : decode cX2_pop 7 = .ok (.iadd, 1) := by decide +kernel
theorem dX2_pop_8 : decode cX2_pop 8 = .ok (.iconst 1, 1) := by decide +kernel
theorem dX2_pop_9 : decode cX2_pop 9 = .ok (.isub, 1) := by decide +kernel
theorem dX2_pop_10 : decode cX2_pop 10 = .ok (.bipush 10, 2) := by decide +kernel
theorem dX2_pop_12 : decode cX2_pop 12 = .ok (.irem, 1) := by decide +kernel
theorem dX2_pop_13 : decode cX2_pop 13 = .ok (.putfield 17, 3) := by decide +kernel
theorem dX2_pop_16 : decode cX2_pop 16 = .ok (.aload_n 0, 1) := by decide +kernel
theorem dX2_pop_17 : decode cX2_pop 17 = .ok (.dup, 1) := by decide +kernel
theorem dX2_pop_18 : decode cX2_pop 18 = .ok (.getfield 21, 3) := by decide +kernel
theorem dX2_pop_21 : decode cX2_pop 21 = .ok (.iconst 1, 1) := by decide +kernel
theorem dX2_pop_22 : decode cX2_pop 22 = .ok (.isub, 1) := by decide +kernel
theorem dX2_pop_23 : decode cX2_pop 23 = .ok (.putfield 21, 3) := by decide +kernel
theorem dX2_pop_26 : decode cX2_pop 26 = .ok (.aload_n 1, 1) := by decide +kernel
theorem dX2_pop_27 : decode cX2_pop 27 = .ok (.aload_n 0, 1) := by decide +kernel
theorem dX2_pop_28 : decode cX2_pop 28 = .ok (.getfield 11, 3) := by decide +kernel
theorem dX2_pop_31 : decode cX2_pop 31 = .ok (.aload_n 0, 1) := by decide +kernel
theorem dX2_pop_32 : decode cX2_pop 32 = .ok (.getfield 17, 3) := by decide +kernel
theorem dX2_pop_35 : decode cX2_pop 35 = .ok (.invokevirtual 34, 3) := by decide +kernel
theorem dX2_pop_38 : decode cX2_pop 38 = .ok (.return_, 1) := by decide +kernel
theorem dX3_init_0 : decode cX3_init 0 = .ok (.aload_n 0, 1) := by decide +kernel
theorem dX3_init_1 : decode cX3_init 1 = .ok (.invokespecial 3, 3) := by decide +kernel
theorem dX3_init_4 : decode cX3_init 4 = .ok (.aload_n 0, 1) := by decide +kernel
theorem dX3_init_5 : decode cX3_init 5 = .ok (.bipush 40, 2) := by decide +kernel
theorem dX3_init_7 : decode cX3_init 7 = .ok (.newarray .int, 2) := by decide +kernel
theorem dX3_init_9 : decode cX3_init 9 = .ok (.putfield 11, 3) := by decide +kernel
theorem dX3_init_12 : decode cX3_init 12 = .ok (.return_, 1) := by decide +kernel
theorem dX3_empty_0 : decode cX3_empty 0 = .ok (.aload_n 0, 1) := by decide +kernel
theorem dX3_empty_1 : decode cX3_empty 1 = .ok (.iconst 0, 1) := by decide +kernel
theorem dX3_empty_2 : decode cX3_empty 2 = .ok (.putfield 17, 3) := by decide +kernel
theorem dX3_empty_5 : decode cX3_empty 5 = .ok (.return_, 1) := by decide +kernel
theorem dX3_has_0 : decode cX3_has 0 = .ok (.aload_n 0, 1) := by decide +kernel
theorem dX3_has_1 : decode cX3_has 1 = .ok (.getfield 17, 3) := by decide +kernel
theorem dX3_has_4 : decode cX3_has 4 = .ok (.iload_n 1, 1) := by decide +kernel
theorem dX3_has_5 : decode cX3_has 5 = .ok (.invokestatic 21, 3) := by decide +kernel
theorem dX3_has_8 : decode cX3_has 8 = .ok (.ireturn, 1) := by decide +kernel
theorem dX3_store_0 : decode cX3_store 0 = .ok (.aload_n 2, 1) := by decide +kernel
theorem dX3_store_1 : decode cX3_store 1 = .ok (.aload_n 0, 1) := by decide +kernel
theorem dX3_store_2 : decode cX3_store 2 = .ok (.getfield 11, 3) := by decide +kernel
theorem dX3_store_5 : decode cX3_store 5 = .ok (.iload_n 1, 1) := by decide +kernel
theorem dX3_store_6 : decode cX3_store 6 = .ok (.invokevirtual 25, 3) := by decide +kernel
theorem dX3_store_9 : decode cX3_store 9 = .ok (.aload_n 0, 1) := by decide +kernel
theorem dX3_store_10 : decode cX3_store 10 = .ok (.dup, 1) := by decide +kernel
theorem dX3_store_11 : decode cX3_store 11 = .ok (.getfield 17, 3) := by decide +kernel
theorem dX3_store_14 : decode cX3_store 14 = .ok (.iconst 1, 1) := by decide +kernel
theorem dX3_store_15 : decode cX3_store 15 = .ok (.iload_n 1, 1) := by decide +kernel
theorem dX3_store_16 : decode cX3_store 16 = .ok (.ishl, 1) := by decide +kernel
theorem dX3_store_17 : decode cX3_store 17 = .ok (.ior, 1) := by decide +kernel
theorem dX3_store_18 : decode cX3_store 18 = .ok (.putfield 17, 3) := by decide +kernel
theorem dX3_store_21 : decode cX3_store 21 = .ok (.return_, 1) := by decide +kernel
theorem dX3_restore_0 : decode cX3_restore 0 = .ok (.aload_n 2, 1) := by decide +kernel
theorem dX3_restore_1 : decode cX3_restore 1 = .ok (.aload_n 0, 1) := by decide +kernel
theorem dX3_restore_2 : decode cX3_restore 2 = .ok (.getfield 11, 3) := by decide +kernel
theorem dX3_restore_5 : decode cX3_restore 5 = .ok (.iload_n 1, 1) := by decide +kernel
theorem dX3_restore_6 : decode cX3_restore 6 = .ok (.invokevirtual 29, 3) := by decide +kernel
theorem dX3_restore_9 : decode cX3_restore 9 = .ok (.return_, 1) := by decide +kernel
theorem dX4_init_0 : decode cX4_init 0 = .ok (.aload_n 0, 1) := by decide +kernel
theorem dX4_init_1 : decode cX4_init 1 = .ok (.invokespecial 3, 3) := by decide +kernel
theorem dX4_init_4 : decode cX4_init 4 = .ok (.aload_n 0, 1) := by decide +kernel
theorem dX4_init_5 : decode cX4_init 5 = .ok (.aload_n 1, 1) := by decide +kernel
theorem dX4_init_6 : decode cX4_init 6 = .ok (.putfield 9, 3) := by decide +kernel
theorem dX4_init_9 : decode cX4_init 9 = .ok (.aload_n 0, 1) := by decide +kernel
theorem dX4_init_10 : decode cX4_init 10 = .ok (.aload_n 2, 1) := by decide +kernel
theorem dX4_init_11 : decode cX4_init 11 = .ok (.putfield 15, 3) := by decide +kernel
theorem dX4_init_14 : decode cX4_init 14 = .ok (.return_, 1) := by decide +kernel
theorem dX4_rateAs_0 : decode cX4_rateAs 0 = .ok (.iload_n 1, 1) := by decide +kernel
theorem dX4_rateAs_1 : decode cX4_rateAs 1 = .ok (.tableswitch 75 0 5 #[39, 45, 51, 57, 63, 69], 39) := by decide +kernel
theorem dX4_rateAs_40 : decode cX4_rateAs 40 = .ok (.aload_n 0, 1) := by decide +kernel
theorem dX4_rateAs_41 : decode cX4_rateAs 41 = .ok (.iload_n 2, 1) := by decide +kernel
theorem dX4_rateAs_42 : decode cX4_rateAs 42 = .ok (.invokevirtual 19, 3) := by decide +kernel
theorem dX4_rateAs_45 : decode cX4_rateAs 45 = .ok (.ireturn, 1) := by decide +kernel
theorem dX4_rateAs_46 : decode cX4_rateAs 46 = .ok (.aload_n 0, 1) := by decide +kernel
theorem dX4_rateAs_47 : decode cX4_rateAs 47 = .ok (.iload_n 2, 1) := by decide +kernel
theorem dX4_rateAs_48 : decode cX4_rateAs 48 = .ok (.invokevirtual 23, 3) := by decide +kernel
theorem dX4_rateAs_51 : decode cX4_rateAs 51 = .ok (.ireturn, 1) := by decide +kernel
theorem dX4_rateAs_52 : decode cX4_rateAs 52 = .ok (.aload_n 0, 1) := by decide +kernel
theorem dX4_rateAs_53 : decode cX4_rateAs 53 = .ok (.iload_n 2, 1) := by decide +kernel
theorem dX4_rateAs_54 : decode cX4_rateAs 54 = .ok (.invokevirtual 26, 3) := by decide +kernel
theorem dX4_rateAs_57 : decode cX4_rateAs 57 = .ok (.ireturn, 1) := by decide +kernel
theorem dX4_rateAs_58 : decode cX4_rateAs 58 = .ok (.aload_n 0, 1) := by decide +kernel
theorem dX4_rateAs_59 : decode cX4_rateAs 59 = .ok (.iload_n 2, 1) := by decide +kernel
theorem dX4_rateAs_60 : decode cX4_rateAs 60 = .ok (.invokevirtual 29, 3) := by decide +kernel
theorem dX4_rateAs_63 : decode cX4_rateAs 63 = .ok (.ireturn, 1) := by decide +kernel
theorem dX4_rateAs_64 : decode cX4_rateAs 64 = .ok (.aload_n 0, 1) := by decide +kernel
theorem dX4_rateAs_65 : decode cX4_rateAs 65 = .ok (.iload_n 2, 1) := by decide +kernel
theorem dX4_rateAs_66 : decode cX4_rateAs 66 = .ok (.invokevirtual 32, 3) := by decide +kernel
theorem dX4_rateAs_69 : decode cX4_rateAs 69 = .ok (.ireturn, 1) := by decide +kernel
theorem dX4_rateAs_70 : decode cX4_rateAs 70 = .ok (.aload_n 0, 1) := by decide +kernel
theorem dX4_rateAs_71 : decode cX4_rateAs 71 = .ok (.iload_n 2, 1) := by decide +kernel
theorem dX4_rateAs_72 : decode cX4_rateAs 72 = .ok (.invokevirtual 35, 3) := by decide +kernel
theorem dX4_rateAs_75 : decode cX4_rateAs 75 = .ok (.ireturn, 1) := by decide +kernel
theorem dX4_rateAs_76 : decode cX4_rateAs 76 = .ok (.ldc 38, 2) := by decide +kernel
theorem dX4_rateAs_78 : decode cX4_rateAs 78 = .ok (.ireturn, 1) := by decide +kernel
theorem dX4_asNote_0 : decode cX4_asNote 0 = .ok (.aload_n 0, 1) := by decide +kernel
theorem dX4_asNote_1 : decode cX4_asNote 1 = .ok (.dup, 1) := by decide +kernel
theorem dX4_asNote_2 : decode cX4_asNote 2 = .ok (.getfield 39, 3) := by decide +kernel
theorem dX4_asNote_5 : decode cX4_asNote 5 = .ok (.lconst 1, 1) := by decide +kernel
theorem dX4_asNote_6 : decode cX4_asNote 6 = .ok (.ladd, 1) := by decide +kernel
theorem dX4_asNote_7 : decode cX4_asNote 7 = .ok (.putfield 39, 3) := by decide +kernel
theorem dX4_asNote_10 : decode cX4_asNote 10 = .ok (.aload_n 0, 1) := by decide +kernel
theorem dX4_asNote_11 : decode cX4_asNote 11 = .ok (.getfield 9, 3) := by decide +kernel
theorem dX4_asNote_14 : decode cX4_asNote 14 = .ok (.getfield 43, 3) := by decide +kernel
theorem dX4_asNote_17 : decode cX4_asNote 17 = .ok (.iload_n 1, 1) := by decide +kernel
theorem dX4_asNote_18 : decode cX4_asNote 18 = .ok (.iaload, 1) := by decide +kernel
theorem dX4_asNote_19 : decode cX4_asNote 19 = .ok (.ireturn, 1) := by decide +kernel
theorem dX4_asTwenty_0 : decode cX4_asTwenty 0 = .ok (.aload_n 0, 1) := by decide +kernel
theorem dX4_asTwenty_1 : decode cX4_asTwenty 1 = .ok (.dup, 1) := by decide +kernel
theorem dX4_asTwenty_2 : decode cX4_asTwenty 2 = .ok (.getfield 39, 3) := by decide +kernel
theorem dX4_asTwenty_5 : decode cX4_asTwenty 5 = .ok (.ldc2_w 49, 3) := by decide +kernel
theorem dX4_asTwenty_8 : decode cX4_asTwenty 8 = .ok (.ladd, 1) := by decide +kernel
theorem dX4_asTwenty_9 : decode cX4_asTwenty 9 = .ok (.putfield 39, 3) := by decide +kernel
theorem dX4_asTwenty_12 : decode cX4_asTwenty 12 = .ok (.aload_n 0, 1) := by decide +kernel
theorem dX4_asTwenty_13 : decode cX4_asTwenty 13 = .ok (.iload_n 1, 1) := by decide +kernel
theorem dX4_asTwenty_14 : decode cX4_asTwenty 14 = .ok (.invokevirtual 19, 3) := by decide +kernel
theorem dX4_asTwenty_17 : decode cX4_asTwenty 17 = .ok (.aload_n 0, 1) := by decide +kernel
theorem dX4_asTwenty_18 : decode cX4_asTwenty 18 = .ok (.getfield 15, 3) := by decide +kernel
theorem dX4_asTwenty_21 : decode cX4_asTwenty 21 = .ok (.iload_n 1, 1) := by decide +kernel
theorem dX4_asTwenty_22 : decode cX4_asTwenty 22 = .ok (.invokevirtual 51, 3) := by decide +kernel
theorem dX4_asTwenty_25 : decode cX4_asTwenty 25 = .ok (.iadd, 1) := by decide +kernel
theorem dX4_asTwenty_26 : decode cX4_asTwenty 26 = .ok (.ireturn, 1) := by decide +kernel
theorem dX4_asQueen_0 : decode cX4_asQueen 0 = .ok (.aload_n 0, 1) := by decide +kernel
theorem dX4_asQueen_1 : decode cX4_asQueen 1 = .ok (.dup, 1) := by decide +kernel
theorem dX4_asQueen_2 : decode cX4_asQueen 2 = .ok (.getfield 39, 3) := by decide +kernel
theorem dX4_asQueen_5 : decode cX4_asQueen 5 = .ok (.ldc2_w 56, 3) := by decide +kernel
theorem dX4_asQueen_8 : decode cX4_asQueen 8 = .ok (.ladd, 1) := by decide +kernel
theorem dX4_asQueen_9 : decode cX4_asQueen 9 = .ok (.putfield 39, 3) := by decide +kernel
theorem dX4_asQueen_12 : decode cX4_asQueen 12 = .ok (.aload_n 0, 1) := by decide +kernel
theorem dX4_asQueen_13 : decode cX4_asQueen 13 = .ok (.iload_n 1, 1) := by decide +kernel
theorem dX4_asQueen_14 : decode cX4_asQueen 14 = .ok (.invokevirtual 19, 3) := by decide +kernel
theorem dX4_asQueen_17 : decode cX4_asQueen 17 = .ok (.aload_n 0, 1) := by decide +kernel
theorem dX4_asQueen_18 : decode cX4_asQueen 18 = .ok (.getfield 9, 3) := by decide +kernel
theorem dX4_asQueen_21 : decode cX4_asQueen 21 = .ok (.getfield 58, 3) := by decide +kernel
theorem dX4_asQueen_24 : decode cX4_asQueen 24 = .ok (.iload_n 1, 1) := by decide +kernel
theorem dX4_asQueen_25 : decode cX4_asQueen 25 = .ok (.iaload, 1) := by decide +kernel
theorem dX4_asQueen_26 : decode cX4_asQueen 26 = .ok (.invokestatic 61, 3) := by decide +kernel
theorem dX4_asQueen_29 : decode cX4_asQueen 29 = .ok (.isub, 1) := by decide +kernel
theorem dX4_asQueen_30 : decode cX4_asQueen 30 = .ok (.ireturn, 1) := by decide +kernel
theorem dX4_asAccent_0 : decode cX4_asAccent 0 = .ok (.aload_n 0, 1) := by decide +kernel
theorem dX4_asAccent_1 : decode cX4_asAccent 1 = .ok (.dup, 1) := by decide +kernel
theorem dX4_asAccent_2 : decode cX4_asAccent 2 = .ok (.getfield 39, 3) := by decide +kernel
theorem dX4_asAccent_5 : decode cX4_asAccent 5 = .ok (.ldc2_w 66, 3) := by decide +kernel
theorem dX4_asAccent_8 : decode cX4_asAccent 8 = .ok (.ladd, 1) := by decide +kernel
theorem dX4_asAccent_9 : decode cX4_asAccent 9 = .ok (.putfield 39, 3) := by decide +kernel
theorem dX4_asAccent_12 : decode cX4_asAccent 12 = .ok (.iconst 2, 1) := by decide +kernel
theorem dX4_asAccent_13 : decode cX4_asAccent 13 = .ok (.aload_n 0, 1) := by decide +kernel
theorem dX4_asAccent_14 : decode cX4_asAccent 14 = .ok (.iload_n 1, 1) := by decide +kernel
theorem dX4_asAccent_15 : decode cX4_asAccent 15 = .ok (.invokevirtual 23, 3) := by decide +kernel
theorem dX4_asAccent_18 : decode cX4_asAccent 18 = .ok (.imul, 1) := by decide +kernel
theorem dX4_asAccent_19 : decode cX4_asAccent 19 = .ok (.ireturn, 1) := by decide +kernel
theorem dX4_asNose_0 : decode cX4_asNose 0 = .ok (.aload_n 0, 1) := by decide +kernel
theorem dX4_asNose_1 : decode cX4_asNose 1 = .ok (.dup, 1) := by decide +kernel
theorem dX4_asNose_2 : decode cX4_asNose 2 = .ok (.getfield 39, 3) := by decide +kernel
theorem dX4_asNose_5 : decode cX4_asNose 5 = .ok (.ldc2_w 68, 3) := by decide +kernel
theorem dX4_asNose_8 : decode cX4_asNose 8 = .ok (.ladd, 1) := by decide +kernel
theorem dX4_asNose_9 : decode cX4_asNose 9 = .ok (.putfield 39, 3) := by decide +kernel
theorem dX4_asNose_12 : decode cX4_asNose 12 = .ok (.aload_n 0, 1) := by decide +kernel
theorem dX4_asNose_13 : decode cX4_asNose 13 = .ok (.iload_n 1, 1) := by decide +kernel
theorem dX4_asNose_14 : decode cX4_asNose 14 = .ok (.invokevirtual 26, 3) := by decide +kernel
theorem dX4_asNose_17 : decode cX4_asNose 17 = .ok (.iload_n 1, 1) := by decide +kernel
theorem dX4_asNose_18 : decode cX4_asNose 18 = .ok (.iadd, 1) := by decide +kernel
theorem dX4_asNose_19 : decode cX4_asNose 19 = .ok (.ireturn, 1) := by decide +kernel
theorem dX4_asPaper_0 : decode cX4_asPaper 0 = .ok (.aload_n 0, 1) := by decide +kernel
theorem dX4_asPaper_1 : decode cX4_asPaper 1 = .ok (.dup, 1) := by decide +kernel
theorem dX4_asPaper_2 : decode cX4_asPaper 2 = .ok (.getfield 39, 3) := by decide +kernel
theorem dX4_asPaper_5 : decode cX4_asPaper 5 = .ok (.ldc2_w 70, 3) := by decide +kernel
theorem dX4_asPaper_8 : decode cX4_asPaper 8 = .ok (.ladd, 1) := by decide +kernel
theorem dX4_asPaper_9 : decode cX4_asPaper 9 = .ok (.putfield 39, 3) := by decide +kernel
theorem dX4_asPaper_12 : decode cX4_asPaper 12 = .ok (.aload_n 0, 1) := by decide +kernel
theorem dX4_asPaper_13 : decode cX4_asPaper 13 = .ok (.iload_n 1, 1) := by decide +kernel
theorem dX4_asPaper_14 : decode cX4_asPaper 14 = .ok (.invokevirtual 19, 3) := by decide +kernel
theorem dX4_asPaper_17 : decode cX4_asPaper 17 = .ok (.aload_n 0, 1) := by decide +kernel
theorem dX4_asPaper_18 : decode cX4_asPaper 18 = .ok (.getfield 15, 3) := by decide +kernel
theorem dX4_asPaper_21 : decode cX4_asPaper 21 = .ok (.invokevirtual 72, 3) := by decide +kernel
theorem dX4_asPaper_24 : decode cX4_asPaper 24 = .ok (.iadd, 1) := by decide +kernel
theorem dX4_asPaper_25 : decode cX4_asPaper 25 = .ok (.ireturn, 1) := by decide +kernel
theorem dX5_init_0 : decode cX5_init 0 = .ok (.aload_n 0, 1) := by decide +kernel
theorem dX5_init_1 : decode cX5_init 1 = .ok (.invokespecial 3, 3) := by decide +kernel
theorem dX5_init_4 : decode cX5_init 4 = .ok (.aload_n 0, 1) := by decide +kernel
theorem dX5_init_5 : decode cX5_init 5 = .ok (.bipush 6, 2) := by decide +kernel
theorem dX5_init_7 : decode cX5_init 7 = .ok (.newarray .int, 2) := by decide +kernel
theorem dX5_init_9 : decode cX5_init 9 = .ok (.putfield 9, 3) := by decide +kernel
theorem dX5_init_12 : decode cX5_init 12 = .ok (.aload_n 0, 1) := by decide +kernel
theorem dX5_init_13 : decode cX5_init 13 = .ok (.bipush 6, 2) := by decide +kernel
theorem dX5_init_15 : decode cX5_init 15 = .ok (.newarray .int, 2) := by decide +kernel
theorem dX5_init_17 : decode cX5_init 17 = .ok (.putfield 15, 3) := by decide +kernel
theorem dX5_init_20 : decode cX5_init 20 = .ok (.aload_n 0, 1) := by decide +kernel
theorem dX5_init_21 : decode cX5_init 21 = .ok (.aload_n 1, 1) := by decide +kernel
theorem dX5_init_22 : decode cX5_init 22 = .ok (.putfield 18, 3) := by decide +kernel
theorem dX5_init_25 : decode cX5_init 25 = .ok (.aload_n 0, 1) := by decide +kernel
theorem dX5_init_26 : decode cX5_init 26 = .ok (.aload_n 2, 1) := by decide +kernel
theorem dX5_init_27 : decode cX5_init 27 = .ok (.putfield 22, 3) := by decide +kernel
theorem dX5_init_30 : decode cX5_init 30 = .ok (.return_, 1) := by decide +kernel
theorem dX5_empty_0 : decode cX5_empty 0 = .ok (.aload_n 0, 1) := by decide +kernel
theorem dX5_empty_1 : decode cX5_empty 1 = .ok (.iconst 0, 1) := by decide +kernel
theorem dX5_empty_2 : decode cX5_empty 2 = .ok (.putfield 26, 3) := by decide +kernel
theorem dX5_empty_5 : decode cX5_empty 5 = .ok (.return_, 1) := by decide +kernel
theorem dX5_add_0 : decode cX5_add 0 = .ok (.aload_n 0, 1) := by decide +kernel
theorem dX5_add_1 : decode cX5_add 1 = .ok (.getfield 26, 3) := by decide +kernel
theorem dX5_add_4 : decode cX5_add 4 = .ok (.bipush 6, 2) := by decide +kernel
theorem dX5_add_6 : decode cX5_add 6 = .ok (.if_icmp .lt 6, 3) := by decide +kernel
theorem dX5_add_9 : decode cX5_add 9 = .ok (.bipush (-3), 2) := by decide +kernel
theorem dX5_add_11 : decode cX5_add 11 = .ok (.ireturn, 1) := by decide +kernel
theorem dX5_add_12 : decode cX5_add 12 = .ok (.aload_n 0, 1) := by decide +kernel
theorem dX5_add_13 : decode cX5_add 13 = .ok (.getfield 9, 3) := by decide +kernel
theorem dX5_add_16 : decode cX5_add 16 = .ok (.aload_n 0, 1) := by decide +kernel
theorem dX5_add_17 : decode cX5_add 17 = .ok (.getfield 26, 3) := by decide +kernel
theorem dX5_add_20 : decode cX5_add 20 = .ok (.iload_n 1, 1) := by decide +kernel
theorem dX5_add_21 : decode cX5_add 21 = .ok (.iastore, 1) := by decide +kernel
theorem dX5_add_22 : decode cX5_add 22 = .ok (.aload_n 0, 1) := by decide +kernel
theorem dX5_add_23 : decode cX5_add 23 = .ok (.getfield 15, 3) := by decide +kernel
theorem dX5_add_26 : decode cX5_add 26 = .ok (.aload_n 0, 1) := by decide +kernel
theorem dX5_add_27 : decode cX5_add 27 = .ok (.getfield 26, 3) := by decide +kernel
theorem dX5_add_30 : decode cX5_add 30 = .ok (.iload_n 2, 1) := by decide +kernel
theorem dX5_add_31 : decode cX5_add 31 = .ok (.iastore, 1) := by decide +kernel
theorem dX5_add_32 : decode cX5_add 32 = .ok (.aload_n 0, 1) := by decide +kernel
theorem dX5_add_33 : decode cX5_add 33 = .ok (.dup, 1) := by decide +kernel
theorem dX5_add_34 : decode cX5_add 34 = .ok (.getfield 26, 3) := by decide +kernel
theorem dX5_add_37 : decode cX5_add 37 = .ok (.iconst 1, 1) := by decide +kernel
theorem dX5_add_38 : decode cX5_add 38 = .ok (.iadd, 1) := by decide +kernel
theorem dX5_add_39 : decode cX5_add 39 = .ok (.putfield 26, 3) := by decide +kernel
theorem dX5_add_42 : decode cX5_add 42 = .ok (.aload_n 0, 1) := by decide +kernel
theorem dX5_add_43 : decode cX5_add 43 = .ok (.getfield 26, 3) := by decide +kernel
theorem dX5_add_46 : decode cX5_add 46 = .ok (.ireturn, 1) := by decide +kernel
theorem dX5_howMany_0 : decode cX5_howMany 0 = .ok (.iconst 0, 1) := by decide +kernel
theorem dX5_howMany_1 : decode cX5_howMany 1 = .ok (.istore_n 1, 1) := by decide +kernel
theorem dX5_howMany_2 : decode cX5_howMany 2 = .ok (.iconst 0, 1) := by decide +kernel
theorem dX5_howMany_3 : decode cX5_howMany 3 = .ok (.istore_n 2, 1) := by decide +kernel
theorem dX5_howMany_4 : decode cX5_howMany 4 = .ok (.iload_n 2, 1) := by decide +kernel
theorem dX5_howMany_5 : decode cX5_howMany 5 = .ok (.bipush 31, 2) := by decide +kernel
theorem dX5_howMany_7 : decode cX5_howMany 7 = .ok (.if_icmp .gt 20, 3) := by decide +kernel
theorem dX5_howMany_10 : decode cX5_howMany 10 = .ok (.aload_n 0, 1) := by decide +kernel
theorem dX5_howMany_11 : decode cX5_howMany 11 = .ok (.iload_n 2, 1) := by decide +kernel
theorem dX5_howMany_12 : decode cX5_howMany 12 = .ok (.invokevirtual 30, 3) := by decide +kernel
theorem dX5_howMany_15 : decode cX5_howMany 15 = .ok (.ifCond .eq 6, 3) := by decide +kernel
theorem dX5_howMany_18 : decode cX5_howMany 18 = .ok (.iinc 1 1, 3) := by decide +kernel
theorem dX5_howMany_21 : decode cX5_howMany 21 = .ok (.iinc 2 1, 3) := by decide +kernel
theorem dX5_howMany_24 : decode cX5_howMany 24 = .ok (.goto (-20), 3) := by decide +kernel
theorem dX5_howMany_27 : decode cX5_howMany 27 = .ok (.iload_n 1, 1) := by decide +kernel
theorem dX5_howMany_28 : decode cX5_howMany 28 = .ok (.ireturn, 1) := by decide +kernel
theorem dX5_least_0 : decode cX5_least 0 = .ok (.iconst 0, 1) := by decide +kernel
theorem dX5_least_1 : decode cX5_least 1 = .ok (.istore_n 1, 1) := by decide +kernel
theorem dX5_least_2 : decode cX5_least 2 = .ok (.iload_n 1, 1) := by decide +kernel
theorem dX5_least_3 : decode cX5_least 3 = .ok (.bipush 31, 2) := by decide +kernel
theorem dX5_least_5 : decode cX5_least 5 = .ok (.if_icmp .gt 19, 3) := by decide +kernel
theorem dX5_least_8 : decode cX5_least 8 = .ok (.aload_n 0, 1) := by decide +kernel
theorem dX5_least_9 : decode cX5_least 9 = .ok (.iload_n 1, 1) := by decide +kernel
theorem dX5_least_10 : decode cX5_least 10 = .ok (.invokevirtual 30, 3) := by decide +kernel
theorem dX5_least_13 : decode cX5_least 13 = .ok (.ifCond .eq 5, 3) := by decide +kernel
theorem dX5_least_16 : decode cX5_least 16 = .ok (.iload_n 1, 1) := by decide +kernel
theorem dX5_least_17 : decode cX5_least 17 = .ok (.ireturn, 1) := by decide +kernel
theorem dX5_least_18 : decode cX5_least 18 = .ok (.iinc 1 1, 3) := by decide +kernel
theorem dX5_least_21 : decode cX5_least 21 = .ok (.goto (-19), 3) := by decide +kernel
theorem dX5_least_24 : decode cX5_least 24 = .ok (.bipush (-9), 2) := by decide +kernel
theorem dX5_least_26 : decode cX5_least 26 = .ok (.ireturn, 1) := by decide +kernel
theorem dX5_inAll_0 : decode cX5_inAll 0 = .ok (.bipush (-9), 2) := by decide +kernel
theorem dX5_inAll_2 : decode cX5_inAll 2 = .ok (.istore_n 1, 1) := by decide +kernel
theorem dX5_inAll_3 : decode cX5_inAll 3 = .ok (.iconst 0, 1) := by decide +kernel
theorem dX5_inAll_4 : decode cX5_inAll 4 = .ok (.istore_n 2, 1) := by decide +kernel
theorem dX5_inAll_5 : decode cX5_inAll 5 = .ok (.iload_n 2, 1) := by decide +kernel
theorem dX5_inAll_6 : decode cX5_inAll 6 = .ok (.bipush 31, 2) := by decide +kernel
theorem dX5_inAll_8 : decode cX5_inAll 8 = .ok (.if_icmp .gt 31, 3) := by decide +kernel
theorem dX5_inAll_11 : decode cX5_inAll 11 = .ok (.aload_n 0, 1) := by decide +kernel
theorem dX5_inAll_12 : decode cX5_inAll 12 = .ok (.iload_n 2, 1) := by decide +kernel
theorem dX5_inAll_13 : decode cX5_inAll 13 = .ok (.invokevirtual 30, 3) := by decide +kernel
theorem dX5_inAll_16 : decode cX5_inAll 16 = .ok (.ifCond .eq 17, 3) := by decide +kernel
theorem dX5_inAll_19 : decode cX5_inAll 19 = .ok (.iload_n 1, 1) := by decide +kernel
theorem dX5_inAll_20 : decode cX5_inAll 20 = .ok (.bipush (-9), 2) := by decide +kernel
theorem dX5_inAll_22 : decode cX5_inAll 22 = .ok (.if_icmp .ne 7, 3) := by decide +kernel
theorem dX5_inAll_25 : decode cX5_inAll 25 = .ok (.iload_n 2, 1) := by decide +kernel
theorem dX5_inAll_26 : decode cX5_inAll 26 = .ok (.goto 6, 3) := by decide +kernel
theorem dX5_inAll_29 : decode cX5_inAll 29 = .ok (.iload_n 1, 1) := by decide +kernel
theorem dX5_inAll_30 : decode cX5_inAll 30 = .ok (.iload_n 2, 1) := by decide +kernel
theorem dX5_inAll_31 : decode cX5_inAll 31 = .ok (.iand, 1) := by decide +kernel
theorem dX5_inAll_32 : decode cX5_inAll 32 = .ok (.istore_n 1, 1) := by decide +kernel
theorem dX5_inAll_33 : decode cX5_inAll 33 = .ok (.iinc 2 1, 3) := by decide +kernel
theorem dX5_inAll_36 : decode cX5_inAll 36 = .ok (.goto (-31), 3) := by decide +kernel
theorem dX5_inAll_39 : decode cX5_inAll 39 = .ok (.iload_n 1, 1) := by decide +kernel
theorem dX5_inAll_40 : decode cX5_inAll 40 = .ok (.ireturn, 1) := by decide +kernel
theorem dX5_bestPerson_0 : decode cX5_bestPerson 0 = .ok (.aload_n 0, 1) := by decide +kernel
theorem dX5_bestPerson_1 : decode cX5_bestPerson 1 = .ok (.invokevirtual 34, 3) := by decide +kernel
theorem dX5_bestPerson_4 : decode cX5_bestPerson 4 = .ok (.istore_n 1, 1) := by decide +kernel
theorem dX5_bestPerson_5 : decode cX5_bestPerson 5 = .ok (.iload_n 1, 1) := by decide +kernel
theorem dX5_bestPerson_6 : decode cX5_bestPerson 6 = .ok (.iconst 1, 1) := by decide +kernel
theorem dX5_bestPerson_7 : decode cX5_bestPerson 7 = .ok (.if_icmp .gt 6, 3) := by decide +kernel
theorem dX5_bestPerson_10 : decode cX5_bestPerson 10 = .ok (.bipush (-9), 2) := by decide +kernel
theorem dX5_bestPerson_12 : decode cX5_bestPerson 12 = .ok (.ireturn, 1) := by decide +kernel
theorem dX5_bestPerson_13 : decode cX5_bestPerson 13 = .ok (.bipush (-9), 2) := by decide +kernel
theorem dX5_bestPerson_15 : decode cX5_bestPerson 15 = .ok (.istore_n 2, 1) := by decide +kernel
theorem dX5_bestPerson_16 : decode cX5_bestPerson 16 = .ok (.iload_n 1, 1) := by decide +kernel
theorem dX5_bestPerson_17 : decode cX5_bestPerson 17 = .ok (.iconst 1, 1) := by decide +kernel
theorem dX5_bestPerson_18 : decode cX5_bestPerson 18 = .ok (.iadd, 1) := by decide +kernel
theorem dX5_bestPerson_19 : decode cX5_bestPerson 19 = .ok (.istore_n 3, 1) := by decide +kernel
theorem dX5_bestPerson_20 : decode cX5_bestPerson 20 = .ok (.iconst 0, 1) := by decide +kernel
theorem dX5_bestPerson_21 : decode cX5_bestPerson 21 = .ok (.istore 4, 2) := by decide +kernel
theorem dX5_bestPerson_23 : decode cX5_bestPerson 23 = .ok (.iload 4, 2) := by decide +kernel
theorem dX5_bestPerson_25 : decode cX5_bestPerson 25 = .ok (.aload_n 0, 1) := by decide +kernel
theorem dX5_bestPerson_26 : decode cX5_bestPerson 26 = .ok (.getfield 18, 3) := by decide +kernel
theorem dX5_bestPerson_29 : decode cX5_bestPerson 29 = .ok (.getfield 38, 3) := by decide +kernel
theorem dX5_bestPerson_32 : decode cX5_bestPerson 32 = .ok (.if_icmp .ge 40, 3) := by decide +kernel
theorem dX5_bestPerson_35 : decode cX5_bestPerson 35 = .ok (.aload_n 0, 1) := by decide +kernel
theorem dX5_bestPerson_36 : decode cX5_bestPerson 36 = .ok (.iload 4, 2) := by decide +kernel
theorem dX5_bestPerson_38 : decode cX5_bestPerson 38 = .ok (.invokevirtual 43, 3) := by decide +kernel
theorem dX5_bestPerson_41 : decode cX5_bestPerson 41 = .ok (.istore 5, 2) := by decide +kernel
theorem dX5_bestPerson_43 : decode cX5_bestPerson 43 = .ok (.iload 5, 2) := by decide +kernel
theorem dX5_bestPerson_45 : decode cX5_bestPerson 45 = .ok (.iload_n 1, 1) := by decide +kernel
theorem dX5_bestPerson_46 : decode cX5_bestPerson 46 = .ok (.iload 5, 2) := by decide +kernel
theorem dX5_bestPerson_48 : decode cX5_bestPerson 48 = .ok (.isub, 1) := by decide +kernel
theorem dX5_bestPerson_49 : decode cX5_bestPerson 49 = .ok (.invokestatic 47, 3) := by decide +kernel
theorem dX5_bestPerson_52 : decode cX5_bestPerson 52 = .ok (.istore 6, 2) := by decide +kernel
theorem dX5_bestPerson_54 : decode cX5_bestPerson 54 = .ok (.iload 6, 2) := by decide +kernel
theorem dX5_bestPerson_56 : decode cX5_bestPerson 56 = .ok (.iload_n 3, 1) := by decide +kernel
theorem dX5_bestPerson_57 : decode cX5_bestPerson 57 = .ok (.if_icmp .ge 9, 3) := by decide +kernel
theorem dX5_bestPerson_60 : decode cX5_bestPerson 60 = .ok (.iload 4, 2) := by decide +kernel
theorem dX5_bestPerson_62 : decode cX5_bestPerson 62 = .ok (.istore_n 2, 1) := by decide +kernel
theorem dX5_bestPerson_63 : decode cX5_bestPerson 63 = .ok (.iload 6, 2) := by decide +kernel
theorem dX5_bestPerson_65 : decode cX5_bestPerson 65 = .ok (.istore_n 3, 1) := by decide +kernel
theorem dX5_bestPerson_66 : decode cX5_bestPerson 66 = .ok (.iinc 4 1, 3) := by decide +kernel
theorem dX5_bestPerson_69 : decode cX5_bestPerson 69 = .ok (.goto (-46), 3) := by decide +kernel
theorem dX5_bestPerson_72 : decode cX5_bestPerson 72 = .ok (.iload_n 2, 1) := by decide +kernel
theorem dX5_bestPerson_73 : decode cX5_bestPerson 73 = .ok (.ireturn, 1) := by decide +kernel
theorem dX5_howManyTakenBy_0 : decode cX5_howManyTakenBy 0 = .ok (.iconst 0, 1) := by decide +kernel
theorem dX5_howManyTakenBy_1 : decode cX5_howManyTakenBy 1 = .ok (.istore_n 2, 1) := by decide +kernel
theorem dX5_howManyTakenBy_2 : decode cX5_howManyTakenBy 2 = .ok (.iconst 0, 1) := by decide +kernel
theorem dX5_howManyTakenBy_3 : decode cX5_howManyTakenBy 3 = .ok (.istore_n 3, 1) := by decide +kernel
theorem dX5_howManyTakenBy_4 : decode cX5_howManyTakenBy 4 = .ok (.iload_n 3, 1) := by decide +kernel
theorem dX5_howManyTakenBy_5 : decode cX5_howManyTakenBy 5 = .ok (.bipush 31, 2) := by decide +kernel
theorem dX5_howManyTakenBy_7 : decode cX5_howManyTakenBy 7 = .ok (.if_icmp .gt 30, 3) := by decide +kernel
theorem dX5_howManyTakenBy_10 : decode cX5_howManyTakenBy 10 = .ok (.aload_n 0, 1) := by decide +kernel
theorem dX5_howManyTakenBy_11 : decode cX5_howManyTakenBy 11 = .ok (.iload_n 3, 1) := by decide +kernel
theorem dX5_howManyTakenBy_12 : decode cX5_howManyTakenBy 12 = .ok (.invokevirtual 30, 3) := by decide +kernel
theorem dX5_howManyTakenBy_15 : decode cX5_howManyTakenBy 15 = .ok (.ifCond .eq 16, 3) := by decide +kernel
theorem dX5_howManyTakenBy_18 : decode cX5_howManyTakenBy 18 = .ok (.aload_n 0, 1) := by decide +kernel
theorem dX5_howManyTakenBy_19 : decode cX5_howManyTakenBy 19 = .ok (.iload_n 1, 1) := by decide +kernel
theorem dX5_howManyTakenBy_20 : decode cX5_howManyTakenBy 20 = .ok (.iload_n 3, 1) := by decide +kernel
theorem dX5_howManyTakenBy_21 : decode cX5_howManyTakenBy 21 = .ok (.invokevirtual 53, 3) := by decide +kernel
theorem dX5_howManyTakenBy_24 : decode cX5_howManyTakenBy 24 = .ok (.iconst 1, 1) := by decide +kernel
theorem dX5_howManyTakenBy_25 : decode cX5_howManyTakenBy 25 = .ok (.if_icmp .ne 6, 3) := by decide +kernel
theorem dX5_howManyTakenBy_28 : decode cX5_howManyTakenBy 28 = .ok (.iinc 2 1, 3) := by decide +kernel
theorem dX5_howManyTakenBy_31 : decode cX5_howManyTakenBy 31 = .ok (.iinc 3 1, 3) := by decide +kernel
theorem dX5_howManyTakenBy_34 : decode cX5_howManyTakenBy 34 = .ok (.goto (-30), 3) := by decide +kernel
theorem dX5_howManyTakenBy_37 : decode cX5_howManyTakenBy 37 = .ok (.iload_n 2, 1) := by decide +kernel
theorem dX5_howManyTakenBy_38 : decode cX5_howManyTakenBy 38 = .ok (.ireturn, 1) := by decide +kernel
theorem dX5_fits_0 : decode cX5_fits 0 = .ok (.iconst 0, 1) := by decide +kernel
theorem dX5_fits_1 : decode cX5_fits 1 = .ok (.istore_n 2, 1) := by decide +kernel
theorem dX5_fits_2 : decode cX5_fits 2 = .ok (.iload_n 2, 1) := by decide +kernel
theorem dX5_fits_3 : decode cX5_fits 3 = .ok (.aload_n 0, 1) := by decide +kernel
theorem dX5_fits_4 : decode cX5_fits 4 = .ok (.getfield 26, 3) := by decide +kernel
theorem dX5_fits_7 : decode cX5_fits 7 = .ok (.if_icmp .ge 31, 3) := by decide +kernel
theorem dX5_fits_10 : decode cX5_fits 10 = .ok (.aload_n 0, 1) := by decide +kernel
theorem dX5_fits_11 : decode cX5_fits 11 = .ok (.aload_n 0, 1) := by decide +kernel
theorem dX5_fits_12 : decode cX5_fits 12 = .ok (.getfield 9, 3) := by decide +kernel
theorem dX5_fits_15 : decode cX5_fits 15 = .ok (.iload_n 2, 1) := by decide +kernel
theorem dX5_fits_16 : decode cX5_fits 16 = .ok (.iaload, 1) := by decide +kernel
theorem dX5_fits_17 : decode cX5_fits 17 = .ok (.iload_n 1, 1) := by decide +kernel
theorem dX5_fits_18 : decode cX5_fits 18 = .ok (.invokevirtual 53, 3) := by decide +kernel
theorem dX5_fits_21 : decode cX5_fits 21 = .ok (.aload_n 0, 1) := by decide +kernel
theorem dX5_fits_22 : decode cX5_fits 22 = .ok (.getfield 15, 3) := by decide +kernel
theorem dX5_fits_25 : decode cX5_fits 25 = .ok (.iload_n 2, 1) := by decide +kernel
theorem dX5_fits_26 : decode cX5_fits 26 = .ok (.iaload, 1) := by decide +kernel
theorem dX5_fits_27 : decode cX5_fits 27 = .ok (.if_icmp .eq 5, 3) := by decide +kernel
theorem dX5_fits_30 : decode cX5_fits 30 = .ok (.iconst 0, 1) := by decide +kernel
theorem dX5_fits_31 : decode cX5_fits 31 = .ok (.ireturn, 1) := by decide +kernel
theorem dX5_fits_32 : decode cX5_fits 32 = .ok (.iinc 2 1, 3) := by decide +kernel
theorem dX5_fits_35 : decode cX5_fits 35 = .ok (.goto (-33), 3) := by decide +kernel
theorem dX5_fits_38 : decode cX5_fits 38 = .ok (.iconst 1, 1) := by decide +kernel
theorem dX5_fits_39 : decode cX5_fits 39 = .ok (.ireturn, 1) := by decide +kernel
theorem dX5_wouldTake_0 : decode cX5_wouldTake 0 = .ok (.aload_n 0, 1) := by decide +kernel
theorem dX5_wouldTake_1 : decode cX5_wouldTake 1 = .ok (.getfield 22, 3) := by decide +kernel
theorem dX5_wouldTake_4 : decode cX5_wouldTake 4 = .ok (.iload_n 1, 1) := by decide +kernel
theorem dX5_wouldTake_5 : decode cX5_wouldTake 5 = .ok (.invokevirtual 56, 3) := by decide +kernel
theorem dX5_wouldTake_8 : decode cX5_wouldTake 8 = .ok (.iload_n 2, 1) := by decide +kernel
theorem dX5_wouldTake_9 : decode cX5_wouldTake 9 = .ok (.iand, 1) := by decide +kernel
theorem dX5_wouldTake_10 : decode cX5_wouldTake 10 = .ok (.ifCond .ne 7, 3) := by decide +kernel
theorem dX5_wouldTake_13 : decode cX5_wouldTake 13 = .ok (.iconst 1, 1) := by decide +kernel
theorem dX5_wouldTake_14 : decode cX5_wouldTake 14 = .ok (.goto 4, 3) := by decide +kernel
theorem dX5_wouldTake_17 : decode cX5_wouldTake 17 = .ok (.iconst 0, 1) := by decide +kernel
theorem dX5_wouldTake_18 : decode cX5_wouldTake 18 = .ok (.ireturn, 1) := by decide +kernel
theorem dX6_init_0 : decode cX6_init 0 = .ok (.aload_n 0, 1) := by decide +kernel
theorem dX6_init_1 : decode cX6_init 1 = .ok (.invokespecial 5, 3) := by decide +kernel
theorem dX6_init_4 : decode cX6_init 4 = .ok (.aload_n 0, 1) := by decide +kernel
theorem dX6_init_5 : decode cX6_init 5 = .ok (.bipush 20, 2) := by decide +kernel
theorem dX6_init_7 : decode cX6_init 7 = .ok (.newarray .int, 2) := by decide +kernel
theorem dX6_init_9 : decode cX6_init 9 = .ok (.putfield 11, 3) := by decide +kernel
theorem dX6_init_12 : decode cX6_init 12 = .ok (.return_, 1) := by decide +kernel
theorem dX6_begin_0 : decode cX6_begin 0 = .ok (.aload_n 1, 1) := by decide +kernel
theorem dX6_begin_1 : decode cX6_begin 1 = .ok (.getfield 15, 3) := by decide +kernel
theorem dX6_begin_4 : decode cX6_begin 4 = .ok (.iconst 0, 1) := by decide +kernel
theorem dX6_begin_5 : decode cX6_begin 5 = .ok (.aload_n 0, 1) := by decide +kernel
theorem dX6_begin_6 : decode cX6_begin 6 = .ok (.getfield 11, 3) := by decide +kernel
theorem dX6_begin_9 : decode cX6_begin 9 = .ok (.iconst 0, 1) := by decide +kernel
theorem dX6_begin_10 : decode cX6_begin 10 = .ok (.bipush 6, 2) := by decide +kernel
theorem dX6_begin_12 : decode cX6_begin 12 = .ok (.invokestatic 20, 3) := by decide +kernel
theorem dX6_begin_15 : decode cX6_begin 15 = .ok (.aload_n 1, 1) := by decide +kernel
theorem dX6_begin_16 : decode cX6_begin 16 = .ok (.getfield 26, 3) := by decide +kernel
theorem dX6_begin_19 : decode cX6_begin 19 = .ok (.iconst 0, 1) := by decide +kernel
theorem dX6_begin_20 : decode cX6_begin 20 = .ok (.aload_n 0, 1) := by decide +kernel
theorem dX6_begin_21 : decode cX6_begin 21 = .ok (.getfield 11, 3) := by decide +kernel
theorem dX6_begin_24 : decode cX6_begin 24 = .ok (.bipush 12, 2) := by decide +kernel
theorem dX6_begin_26 : decode cX6_begin 26 = .ok (.iconst 5, 1) := by decide +kernel
theorem dX6_begin_27 : decode cX6_begin 27 = .ok (.invokestatic 20, 3) := by decide +kernel
theorem dX6_begin_30 : decode cX6_begin 30 = .ok (.iconst 0, 1) := by decide +kernel
theorem dX6_begin_31 : decode cX6_begin 31 = .ok (.istore_n 2, 1) := by decide +kernel
theorem dX6_begin_32 : decode cX6_begin 32 = .ok (.iload_n 2, 1) := by decide +kernel
theorem dX6_begin_33 : decode cX6_begin 33 = .ok (.bipush 6, 2) := by decide +kernel
theorem dX6_begin_35 : decode cX6_begin 35 = .ok (.if_icmp .ge 19, 3) := by decide +kernel
theorem dX6_begin_38 : decode cX6_begin 38 = .ok (.aload_n 0, 1) := by decide +kernel
theorem dX6_begin_39 : decode cX6_begin 39 = .ok (.getfield 11, 3) := by decide +kernel
theorem dX6_begin_42 : decode cX6_begin 42 = .ok (.bipush 6, 2) := by decide +kernel
theorem dX6_begin_44 : decode cX6_begin 44 = .ok (.iload_n 2, 1) := by decide +kernel
theorem dX6_begin_45 : decode cX6_begin 45 = .ok (.iadd, 1) := by decide +kernel
theorem dX6_begin_46 : decode cX6_begin 46 = .ok (.iconst 0, 1) := by decide +kernel
theorem dX6_begin_47 : decode cX6_begin 47 = .ok (.iastore, 1) := by decide +kernel
theorem dX6_begin_48 : decode cX6_begin 48 = .ok (.iinc 2 1, 3) := by decide +kernel
theorem dX6_begin_51 : decode cX6_begin 51 = .ok (.goto (-19), 3) := by decide +kernel
theorem dX6_begin_54 : decode cX6_begin 54 = .ok (.aload_n 0, 1) := by decide +kernel
theorem dX6_begin_55 : decode cX6_begin 55 = .ok (.getfield 11, 3) := by decide +kernel
theorem dX6_begin_58 : decode cX6_begin 58 = .ok (.bipush 17, 2) := by decide +kernel
theorem dX6_begin_60 : decode cX6_begin 60 = .ok (.iconst 0, 1) := by decide +kernel
theorem dX6_begin_61 : decode cX6_begin 61 = .ok (.iastore, 1) := by decide +kernel
theorem dX6_begin_62 : decode cX6_begin 62 = .ok (.aload_n 0, 1) := by decide +kernel
theorem dX6_begin_63 : decode cX6_begin 63 = .ok (.getfield 11, 3) := by decide +kernel
theorem dX6_begin_66 : decode cX6_begin 66 = .ok (.bipush 18, 2) := by decide +kernel
theorem dX6_begin_68 : decode cX6_begin 68 = .ok (.iconst 0, 1) := by decide +kernel
theorem dX6_begin_69 : decode cX6_begin 69 = .ok (.iastore, 1) := by decide +kernel
theorem dX6_begin_70 : decode cX6_begin 70 = .ok (.aload_n 0, 1) := by decide +kernel
theorem dX6_begin_71 : decode cX6_begin 71 = .ok (.getfield 11, 3) := by decide +kernel
theorem dX6_begin_74 : decode cX6_begin 74 = .ok (.bipush 19, 2) := by decide +kernel
theorem dX6_begin_76 : decode cX6_begin 76 = .ok (.iconst 0, 1) := by decide +kernel
theorem dX6_begin_77 : decode cX6_begin 77 = .ok (.iastore, 1) := by decide +kernel
theorem dX6_begin_78 : decode cX6_begin 78 = .ok (.return_, 1) := by decide +kernel
theorem dX6_copyTo_0 : decode cX6_copyTo 0 = .ok (.aload_n 0, 1) := by decide +kernel
theorem dX6_copyTo_1 : decode cX6_copyTo 1 = .ok (.getfield 11, 3) := by decide +kernel
theorem dX6_copyTo_4 : decode cX6_copyTo 4 = .ok (.iconst 0, 1) := by decide +kernel
theorem dX6_copyTo_5 : decode cX6_copyTo 5 = .ok (.aload_n 1, 1) := by decide +kernel
theorem dX6_copyTo_6 : decode cX6_copyTo 6 = .ok (.iload_n 2, 1) := by decide +kernel
theorem dX6_copyTo_7 : decode cX6_copyTo 7 = .ok (.bipush 20, 2) := by decide +kernel
theorem dX6_copyTo_9 : decode cX6_copyTo 9 = .ok (.imul, 1) := by decide +kernel
theorem dX6_copyTo_10 : decode cX6_copyTo 10 = .ok (.bipush 20, 2) := by decide +kernel
theorem dX6_copyTo_12 : decode cX6_copyTo 12 = .ok (.invokestatic 20, 3) := by decide +kernel
theorem dX6_copyTo_15 : decode cX6_copyTo 15 = .ok (.return_, 1) := by decide +kernel
theorem dX6_copyFrom_0 : decode cX6_copyFrom 0 = .ok (.aload_n 1, 1) := by decide +kernel
theorem dX6_copyFrom_1 : decode cX6_copyFrom 1 = .ok (.iload_n 2, 1) := by decide +kernel
theorem dX6_copyFrom_2 : decode cX6_copyFrom 2 = .ok (.bipush 20, 2) := by decide +kernel
theorem dX6_copyFrom_4 : decode cX6_copyFrom 4 = .ok (.imul, 1) := by decide +kernel
theorem dX6_copyFrom_5 : decode cX6_copyFrom 5 = .ok (.aload_n 0, 1) := by decide +kernel
theorem dX6_copyFrom_6 : decode cX6_copyFrom 6 = .ok (.getfield 11, 3) := by decide +kernel
theorem dX6_copyFrom_9 : decode cX6_copyFrom 9 = .ok (.iconst 0, 1) := by decide +kernel
theorem dX6_copyFrom_10 : decode cX6_copyFrom 10 = .ok (.bipush 20, 2) := by decide +kernel
theorem dX6_copyFrom_12 : decode cX6_copyFrom 12 = .ok (.invokestatic 20, 3) := by decide +kernel
theorem dX6_copyFrom_15 : decode cX6_copyFrom 15 = .ok (.return_, 1) := by decide +kernel
theorem dX6_holder_0 : decode cX6_holder 0 = .ok (.aload_n 0, 1) := by decide +kernel
theorem dX6_holder_1 : decode cX6_holder 1 = .ok (.getfield 11, 3) := by decide +kernel
theorem dX6_holder_4 : decode cX6_holder 4 = .ok (.iconst 0, 1) := by decide +kernel
theorem dX6_holder_5 : decode cX6_holder 5 = .ok (.iload_n 1, 1) := by decide +kernel
theorem dX6_holder_6 : decode cX6_holder 6 = .ok (.iadd, 1) := by decide +kernel
theorem dX6_holder_7 : decode cX6_holder 7 = .ok (.iaload, 1) := by decide +kernel
theorem dX6_holder_8 : decode cX6_holder 8 = .ok (.ireturn, 1) := by decide +kernel
theorem dX6_uses_0 : decode cX6_uses 0 = .ok (.aload_n 0, 1) := by decide +kernel
theorem dX6_uses_1 : decode cX6_uses 1 = .ok (.getfield 11, 3) := by decide +kernel
theorem dX6_uses_4 : decode cX6_uses 4 = .ok (.bipush 6, 2) := by decide +kernel
theorem dX6_uses_6 : decode cX6_uses 6 = .ok (.iload_n 1, 1) := by decide +kernel
theorem dX6_uses_7 : decode cX6_uses 7 = .ok (.iadd, 1) := by decide +kernel
theorem dX6_uses_8 : decode cX6_uses 8 = .ok (.iaload, 1) := by decide +kernel
theorem dX6_uses_9 : decode cX6_uses 9 = .ok (.ireturn, 1) := by decide +kernel
theorem dX6_looks_0 : decode cX6_looks 0 = .ok (.aload_n 0, 1) := by decide +kernel
theorem dX6_looks_1 : decode cX6_looks 1 = .ok (.getfield 11, 3) := by decide +kernel
theorem dX6_looks_4 : decode cX6_looks 4 = .ok (.bipush 12, 2) := by decide +kernel
theorem dX6_looks_6 : decode cX6_looks 6 = .ok (.iload_n 1, 1) := by decide +kernel
theorem dX6_looks_7 : decode cX6_looks 7 = .ok (.iadd, 1) := by decide +kernel
theorem dX6_looks_8 : decode cX6_looks 8 = .ok (.iaload, 1) := by decide +kernel
theorem dX6_looks_9 : decode cX6_looks 9 = .ok (.ireturn, 1) := by decide +kernel
theorem dX6_parity_0 : decode cX6_parity 0 = .ok (.aload_n 0, 1) := by decide +kernel
theorem dX6_parity_1 : decode cX6_parity 1 = .ok (.getfield 11, 3) := by decide +kernel
theorem dX6_parity_4 : decode cX6_parity 4 = .ok (.bipush 17, 2) := by decide +kernel
theorem dX6_parity_6 : decode cX6_parity 6 = .ok (.iaload, 1) := by decide +kernel
theorem dX6_parity_7 : decode cX6_parity 7 = .ok (.ireturn, 1) := by decide +kernel
theorem dX6_away_0 : decode cX6_away 0 = .ok (.aload_n 0, 1) := by decide +kernel
theorem dX6_away_1 : decode cX6_away 1 = .ok (.getfield 11, 3) := by decide +kernel
theorem dX6_away_4 : decode cX6_away 4 = .ok (.bipush 18, 2) := by decide +kernel
theorem dX6_away_6 : decode cX6_away 6 = .ok (.iaload, 1) := by decide +kernel
theorem dX6_away_7 : decode cX6_away 7 = .ok (.ireturn, 1) := by decide +kernel
theorem dX6_refused_0 : decode cX6_refused 0 = .ok (.aload_n 0, 1) := by decide +kernel
theorem dX6_refused_1 : decode cX6_refused 1 = .ok (.getfield 11, 3) := by decide +kernel
theorem dX6_refused_4 : decode cX6_refused 4 = .ok (.bipush 19, 2) := by decide +kernel
theorem dX6_refused_6 : decode cX6_refused 6 = .ok (.iaload, 1) := by decide +kernel
theorem dX6_refused_7 : decode cX6_refused 7 = .ok (.ireturn, 1) := by decide +kernel
theorem dX6_hasParity_0 : decode cX6_hasParity 0 = .ok (.aload_n 0, 1) := by decide +kernel
theorem dX6_hasParity_1 : decode cX6_hasParity 1 = .ok (.getfield 11, 3) := by decide +kernel
theorem dX6_hasParity_4 : decode cX6_hasParity 4 = .ok (.bipush 17, 2) := by decide +kernel
theorem dX6_hasParity_6 : decode cX6_hasParity 6 = .ok (.iaload, 1) := by decide +kernel
theorem dX6_hasParity_7 : decode cX6_hasParity 7 = .ok (.iload_n 1, 1) := by decide +kernel
theorem dX6_hasParity_8 : decode cX6_hasParity 8 = .ok (.invokestatic 29, 3) := by decide +kernel
theorem dX6_hasParity_11 : decode cX6_hasParity 11 = .ok (.ireturn, 1) := by decide +kernel
theorem dX6_isAway_0 : decode cX6_isAway 0 = .ok (.aload_n 0, 1) := by decide +kernel
theorem dX6_isAway_1 : decode cX6_isAway 1 = .ok (.getfield 11, 3) := by decide +kernel
theorem dX6_isAway_4 : decode cX6_isAway 4 = .ok (.bipush 18, 2) := by decide +kernel
theorem dX6_isAway_6 : decode cX6_isAway 6 = .ok (.iaload, 1) := by decide +kernel
theorem dX6_isAway_7 : decode cX6_isAway 7 = .ok (.iload_n 1, 1) := by decide +kernel
theorem dX6_isAway_8 : decode cX6_isAway 8 = .ok (.invokestatic 29, 3) := by decide +kernel
theorem dX6_isAway_11 : decode cX6_isAway 11 = .ok (.ireturn, 1) := by decide +kernel
theorem dX6_take_0 : decode cX6_take 0 = .ok (.aload_n 0, 1) := by decide +kernel
theorem dX6_take_1 : decode cX6_take 1 = .ok (.getfield 11, 3) := by decide +kernel
theorem dX6_take_4 : decode cX6_take 4 = .ok (.iconst 0, 1) := by decide +kernel
theorem dX6_take_5 : decode cX6_take 5 = .ok (.iload_n 1, 1) := by decide +kernel
theorem dX6_take_6 : decode cX6_take 6 = .ok (.iadd, 1) := by decide +kernel
theorem dX6_take_7 : decode cX6_take 7 = .ok (.iload_n 2, 1) := by decide +kernel
theorem dX6_take_8 : decode cX6_take 8 = .ok (.iastore, 1) := by decide +kernel
theorem dX6_take_9 : decode cX6_take 9 = .ok (.aload_n 0, 1) := by decide +kernel
theorem dX6_take_10 : decode cX6_take 10 = .ok (.getfield 11, 3) := by decide +kernel
theorem dX6_take_13 : decode cX6_take 13 = .ok (.bipush 6, 2) := by decide +kernel
theorem dX6_take_15 : decode cX6_take 15 = .ok (.iload_n 1, 1) := by decide +kernel
theorem dX6_take_16 : decode cX6_take 16 = .ok (.iadd, 1) := by decide +kernel
theorem dX6_take_17 : decode cX6_take 17 = .ok (.dup2, 1) := by decide +kernel
theorem dX6_take_18 : decode cX6_take 18 = .ok (.iaload, 1) := by decide +kernel
theorem dX6_take_19 : decode cX6_take 19 = .ok (.iconst 1, 1) := by decide +kernel
theorem dX6_take_20 : decode cX6_take 20 = .ok (.iadd, 1) := by decide +kernel
theorem dX6_take_21 : decode cX6_take 21 = .ok (.iastore, 1) := by decide +kernel
theorem dX6_take_22 : decode cX6_take 22 = .ok (.return_, 1) := by decide +kernel
theorem dX6_giveParity_0 : decode cX6_giveParity 0 = .ok (.aload_n 0, 1) := by decide +kernel
theorem dX6_giveParity_1 : decode cX6_giveParity 1 = .ok (.getfield 11, 3) := by decide +kernel
theorem dX6_giveParity_4 : decode cX6_giveParity 4 = .ok (.bipush 17, 2) := by decide +kernel
theorem dX6_giveParity_6 : decode cX6_giveParity 6 = .ok (.dup2, 1) := by decide +kernel
theorem dX6_giveParity_7 : decode cX6_giveParity 7 = .ok (.iaload, 1) := by decide +kernel
theorem dX6_giveParity_8 : decode cX6_giveParity 8 = .ok (.iconst 1, 1) := by decide +kernel
theorem dX6_giveParity_9 : decode cX6_giveParity 9 = .ok (.iload_n 1, 1) := by decide +kernel
theorem dX6_giveParity_10 : decode cX6_giveParity 10 = .ok (.ishl, 1) := by decide +kernel
theorem dX6_giveParity_11 : decode cX6_giveParity 11 = .ok (.ior, 1) := by decide +kernel
theorem dX6_giveParity_12 : decode cX6_giveParity 12 = .ok (.iastore, 1) := by decide +kernel
theorem dX6_giveParity_13 : decode cX6_giveParity 13 = .ok (.return_, 1) := by decide +kernel
theorem dX6_refuse_0 : decode cX6_refuse 0 = .ok (.aload_n 0, 1) := by decide +kernel
theorem dX6_refuse_1 : decode cX6_refuse 1 = .ok (.getfield 11, 3) := by decide +kernel
theorem dX6_refuse_4 : decode cX6_refuse 4 = .ok (.bipush 6, 2) := by decide +kernel
theorem dX6_refuse_6 : decode cX6_refuse 6 = .ok (.iload_n 1, 1) := by decide +kernel
theorem dX6_refuse_7 : decode cX6_refuse 7 = .ok (.iadd, 1) := by decide +kernel
theorem dX6_refuse_8 : decode cX6_refuse 8 = .ok (.iconst 0, 1) := by decide +kernel
theorem dX6_refuse_9 : decode cX6_refuse 9 = .ok (.iastore, 1) := by decide +kernel
theorem dX6_refuse_10 : decode cX6_refuse 10 = .ok (.aload_n 0, 1) := by decide +kernel
theorem dX6_refuse_11 : decode cX6_refuse 11 = .ok (.getfield 11, 3) := by decide +kernel
theorem dX6_refuse_14 : decode cX6_refuse 14 = .ok (.bipush 19, 2) := by decide +kernel
theorem dX6_refuse_16 : decode cX6_refuse 16 = .ok (.dup2, 1) := by decide +kernel
theorem dX6_refuse_17 : decode cX6_refuse 17 = .ok (.iaload, 1) := by decide +kernel
theorem dX6_refuse_18 : decode cX6_refuse 18 = .ok (.iconst 1, 1) := by decide +kernel
theorem dX6_refuse_19 : decode cX6_refuse 19 = .ok (.iadd, 1) := by decide +kernel
theorem dX6_refuse_20 : decode cX6_refuse 20 = .ok (.iastore, 1) := by decide +kernel
theorem dX6_refuse_21 : decode cX6_refuse 21 = .ok (.return_, 1) := by decide +kernel
theorem dX6_teach_0 : decode cX6_teach 0 = .ok (.aload_n 0, 1) := by decide +kernel
theorem dX6_teach_1 : decode cX6_teach 1 = .ok (.getfield 11, 3) := by decide +kernel
theorem dX6_teach_4 : decode cX6_teach 4 = .ok (.bipush 12, 2) := by decide +kernel
theorem dX6_teach_6 : decode cX6_teach 6 = .ok (.iload_n 1, 1) := by decide +kernel
theorem dX6_teach_7 : decode cX6_teach 7 = .ok (.iadd, 1) := by decide +kernel
theorem dX6_teach_8 : decode cX6_teach 8 = .ok (.iload_n 2, 1) := by decide +kernel
theorem dX6_teach_9 : decode cX6_teach 9 = .ok (.iastore, 1) := by decide +kernel
theorem dX6_teach_10 : decode cX6_teach 10 = .ok (.return_, 1) := by decide +kernel
theorem dX6_turnAway_0 : decode cX6_turnAway 0 = .ok (.aload_n 0, 1) := by decide +kernel
theorem dX6_turnAway_1 : decode cX6_turnAway 1 = .ok (.getfield 11, 3) := by decide +kernel
theorem dX6_turnAway_4 : decode cX6_turnAway 4 = .ok (.bipush 18, 2) := by decide +kernel
theorem dX6_turnAway_6 : decode cX6_turnAway 6 = .ok (.dup2, 1) := by decide +kernel
theorem dX6_turnAway_7 : decode cX6_turnAway 7 = .ok (.iaload, 1) := by decide +kernel
theorem dX6_turnAway_8 : decode cX6_turnAway 8 = .ok (.iconst 1, 1) := by decide +kernel
theorem dX6_turnAway_9 : decode cX6_turnAway 9 = .ok (.iload_n 1, 1) := by decide +kernel
theorem dX6_turnAway_10 : decode cX6_turnAway 10 = .ok (.ishl, 1) := by decide +kernel
theorem dX6_turnAway_11 : decode cX6_turnAway 11 = .ok (.ixor, 1) := by decide +kernel
theorem dX6_turnAway_12 : decode cX6_turnAway 12 = .ok (.iastore, 1) := by decide +kernel
theorem dX6_turnAway_13 : decode cX6_turnAway 13 = .ok (.return_, 1) := by decide +kernel
theorem dX7_init_0 : decode cX7_init 0 = .ok (.aload_n 0, 1) := by decide +kernel
theorem dX7_init_1 : decode cX7_init 1 = .ok (.invokespecial 3, 3) := by decide +kernel
theorem dX7_init_4 : decode cX7_init 4 = .ok (.aload_n 0, 1) := by decide +kernel
theorem dX7_init_5 : decode cX7_init 5 = .ok (.aload_n 1, 1) := by decide +kernel
theorem dX7_init_6 : decode cX7_init 6 = .ok (.putfield 9, 3) := by decide +kernel
theorem dX7_init_9 : decode cX7_init 9 = .ok (.aload_n 0, 1) := by decide +kernel
theorem dX7_init_10 : decode cX7_init 10 = .ok (.aload_n 2, 1) := by decide +kernel
theorem dX7_init_11 : decode cX7_init 11 = .ok (.putfield 15, 3) := by decide +kernel
theorem dX7_init_14 : decode cX7_init 14 = .ok (.return_, 1) := by decide +kernel
theorem dX7_takers_0 : decode cX7_takers 0 = .ok (.aload_n 0, 1) := by decide +kernel
theorem dX7_takers_1 : decode cX7_takers 1 = .ok (.getfield 15, 3) := by decide +kernel
theorem dX7_takers_4 : decode cX7_takers 4 = .ok (.iload_n 1, 1) := by decide +kernel
theorem dX7_takers_5 : decode cX7_takers 5 = .ok (.invokevirtual 19, 3) := by decide +kernel
theorem dX7_takers_8 : decode cX7_takers 8 = .ok (.ifCond .eq 17, 3) := by decide +kernel
theorem dX7_takers_11 : decode cX7_takers 11 = .ok (.iconst 1, 1) := by decide +kernel
theorem dX7_takers_12 : decode cX7_takers 12 = .ok (.aload_n 0, 1) := by decide +kernel
theorem dX7_takers_13 : decode cX7_takers 13 = .ok (.getfield 9, 3) := by decide +kernel
theorem dX7_takers_16 : decode cX7_takers 16 = .ok (.getfield 25, 3) := by decide +kernel
theorem dX7_takers_19 : decode cX7_takers 19 = .ok (.ishl, 1) := by decide +kernel
theorem dX7_takers_20 : decode cX7_takers 20 = .ok (.iconst 1, 1) := by decide +kernel
theorem dX7_takers_21 : decode cX7_takers 21 = .ok (.isub, 1) := by decide +kernel
theorem dX7_takers_22 : decode cX7_takers 22 = .ok (.goto 8, 3) := by decide +kernel
theorem dX7_takers_25 : decode cX7_takers 25 = .ok (.aload_n 0, 1) := by decide +kernel
theorem dX7_takers_26 : decode cX7_takers 26 = .ok (.iload_n 1, 1) := by decide +kernel
theorem dX7_takers_27 : decode cX7_takers 27 = .ok (.invokevirtual 31, 3) := by decide +kernel
theorem dX7_takers_30 : decode cX7_takers 30 = .ok (.ireturn, 1) := by decide +kernel
theorem dX7_takes_0 : decode cX7_takes 0 = .ok (.aload_n 0, 1) := by decide +kernel
theorem dX7_takes_1 : decode cX7_takes 1 = .ok (.iload_n 1, 1) := by decide +kernel
theorem dX7_takes_2 : decode cX7_takes 2 = .ok (.invokevirtual 35, 3) := by decide +kernel
theorem dX7_takes_5 : decode cX7_takes 5 = .ok (.iload_n 2, 1) := by decide +kernel
theorem dX7_takes_6 : decode cX7_takes 6 = .ok (.invokestatic 38, 3) := by decide +kernel
theorem dX7_takes_9 : decode cX7_takes 9 = .ok (.ireturn, 1) := by decide +kernel
theorem dX7_neededForParity_0 : decode cX7_neededForParity 0 = .ok (.aload_n 0, 1) := by decide +kernel
theorem dX7_neededForParity_1 : decode cX7_neededForParity 1 = .ok (.getfield 9, 3) := by decide +kernel
theorem dX7_neededForParity_4 : decode cX7_neededForParity 4 = .ok (.getfield 42, 3) := by decide +kernel
theorem dX7_neededForParity_7 : decode cX7_neededForParity 7 = .ok (.aload_n 0, 1) := by decide +kernel
theorem dX7_neededForParity_8 : decode cX7_neededForParity 8 = .ok (.getfield 15, 3) := by decide +kernel
theorem dX7_neededForParity_11 : decode cX7_neededForParity 11 = .ok (.iload_n 1, 1) := by decide +kernel
theorem dX7_neededForParity_12 : decode cX7_neededForParity 12 = .ok (.invokevirtual 45, 3) := by decide +kernel
theorem dX7_neededForParity_15 : decode cX7_neededForParity 15 = .ok (.isub, 1) := by decide +kernel
theorem dX7_neededForParity_16 : decode cX7_neededForParity 16 = .ok (.ireturn, 1) := by decide +kernel
theorem dX7_canGoOn_0 : decode cX7_canGoOn 0 = .ok (.iconst 0, 1) := by decide +kernel
theorem dX7_canGoOn_1 : decode cX7_canGoOn 1 = .ok (.istore_n 3, 1) := by decide +kernel
theorem dX7_canGoOn_2 : decode cX7_canGoOn 2 = .ok (.iload_n 3, 1) := by decide +kernel
theorem dX7_canGoOn_3 : decode cX7_canGoOn 3 = .ok (.iload_n 2, 1) := by decide +kernel
theorem dX7_canGoOn_4 : decode cX7_canGoOn 4 = .ok (.if_icmp .ge 20, 3) := by decide +kernel
theorem dX7_canGoOn_7 : decode cX7_canGoOn 7 = .ok (.aload_n 0, 1) := by decide +kernel
theorem dX7_canGoOn_8 : decode cX7_canGoOn 8 = .ok (.iload_n 1, 1) := by decide +kernel
theorem dX7_canGoOn_9 : decode cX7_canGoOn 9 = .ok (.iload_n 3, 1) := by decide +kernel
theorem dX7_canGoOn_10 : decode cX7_canGoOn 10 = .ok (.invokevirtual 48, 3) := by decide +kernel
theorem dX7_canGoOn_13 : decode cX7_canGoOn 13 = .ok (.ifCond .ne 5, 3) := by decide +kernel
theorem dX7_canGoOn_16 : decode cX7_canGoOn 16 = .ok (.iconst 0, 1) := by decide +kernel
theorem dX7_canGoOn_17 : decode cX7_canGoOn 17 = .ok (.ireturn, 1) := by decide +kernel
theorem dX7_canGoOn_18 : decode cX7_canGoOn 18 = .ok (.iinc 3 1, 3) := by decide +kernel
theorem dX7_canGoOn_21 : decode cX7_canGoOn 21 = .ok (.goto (-19), 3) := by decide +kernel
theorem dX7_canGoOn_24 : decode cX7_canGoOn 24 = .ok (.iconst 1, 1) := by decide +kernel
theorem dX7_canGoOn_25 : decode cX7_canGoOn 25 = .ok (.ireturn, 1) := by decide +kernel
theorem dX7_personOfRow_0 : decode cX7_personOfRow 0 = .ok (.aload_n 0, 1) := by decide +kernel
theorem dX7_personOfRow_1 : decode cX7_personOfRow 1 = .ok (.iload_n 1, 1) := by decide +kernel
theorem dX7_personOfRow_2 : decode cX7_personOfRow 2 = .ok (.invokevirtual 31, 3) := by decide +kernel
theorem dX7_personOfRow_5 : decode cX7_personOfRow 5 = .ok (.istore_n 3, 1) := by decide +kernel
theorem dX7_personOfRow_6 : decode cX7_personOfRow 6 = .ok (.aload_n 0, 1) := by decide +kernel
theorem dX7_personOfRow_7 : decode cX7_personOfRow 7 = .ok (.getfield 15, 3) := by decide +kernel
theorem dX7_personOfRow_10 : decode cX7_personOfRow 10 = .ok (.iload_n 1, 1) := by decide +kernel
theorem dX7_personOfRow_11 : decode cX7_personOfRow 11 = .ok (.invokevirtual 52, 3) := by decide +kernel
theorem dX7_personOfRow_14 : decode cX7_personOfRow 14 = .ok (.istore 4, 2) := by decide +kernel
theorem dX7_personOfRow_16 : decode cX7_personOfRow 16 = .ok (.iconst 0, 1) := by decide +kernel
theorem dX7_personOfRow_17 : decode cX7_personOfRow 17 = .ok (.istore 5, 2) := by decide +kernel
theorem dX7_personOfRow_19 : decode cX7_personOfRow 19 = .ok (.iload 5, 2) := by decide +kernel
theorem dX7_personOfRow_21 : decode cX7_personOfRow 21 = .ok (.iload_n 2, 1) := by decide +kernel
theorem dX7_personOfRow_22 : decode cX7_personOfRow 22 = .ok (.if_icmp .gt 18, 3) := by decide +kernel
theorem dX7_personOfRow_25 : decode cX7_personOfRow 25 = .ok (.aload_n 0, 1) := by decide +kernel
theorem dX7_personOfRow_26 : decode cX7_personOfRow 26 = .ok (.iload_n 3, 1) := by decide +kernel
theorem dX7_personOfRow_27 : decode cX7_personOfRow 27 = .ok (.iload 4, 2) := by decide +kernel
theorem dX7_personOfRow_29 : decode cX7_personOfRow 29 = .ok (.invokevirtual 55, 3) := by decide +kernel
theorem dX7_personOfRow_32 : decode cX7_personOfRow 32 = .ok (.istore 4, 2) := by decide +kernel
theorem dX7_personOfRow_34 : decode cX7_personOfRow 34 = .ok (.iinc 5 1, 3) := by decide +kernel
theorem dX7_personOfRow_37 : decode cX7_personOfRow 37 = .ok (.goto (-18), 3) := by decide +kernel
theorem dX7_personOfRow_40 : decode cX7_personOfRow 40 = .ok (.iload 4, 2) := by decide +kernel
theorem dX7_personOfRow_42 : decode cX7_personOfRow 42 = .ok (.ireturn, 1) := by decide +kernel
theorem dX7_lowestOther_0 : decode cX7_lowestOther 0 = .ok (.iconst 0, 1) := by decide +kernel
theorem dX7_lowestOther_1 : decode cX7_lowestOther 1 = .ok (.istore_n 3, 1) := by decide +kernel
theorem dX7_lowestOther_2 : decode cX7_lowestOther 2 = .ok (.iload_n 3, 1) := by decide +kernel
theorem dX7_lowestOther_3 : decode cX7_lowestOther 3 = .ok (.aload_n 0, 1) := by decide +kernel
theorem dX7_lowestOther_4 : decode cX7_lowestOther 4 = .ok (.getfield 9, 3) := by decide +kernel
theorem dX7_lowestOther_7 : decode cX7_lowestOther 7 = .ok (.getfield 25, 3) := by decide +kernel
theorem dX7_lowestOther_10 : decode cX7_lowestOther 10 = .ok (.if_icmp .ge 24, 3) := by decide +kernel
theorem dX7_lowestOther_13 : decode cX7_lowestOther 13 = .ok (.iload_n 3, 1) := by decide +kernel
theorem dX7_lowestOther_14 : decode cX7_lowestOther 14 = .ok (.iload_n 2, 1) := by decide +kernel
theorem dX7_lowestOther_15 : decode cX7_lowestOther 15 = .ok (.if_icmp .eq 13, 3) := by decide +kernel
theorem dX7_lowestOther_18 : decode cX7_lowestOther 18 = .ok (.iload_n 1, 1) := by decide +kernel
theorem dX7_lowestOther_19 : decode cX7_lowestOther 19 = .ok (.iload_n 3, 1) := by decide +kernel
theorem dX7_lowestOther_20 : decode cX7_lowestOther 20 = .ok (.invokestatic 38, 3) := by decide +kernel
theorem dX7_lowestOther_23 : decode cX7_lowestOther 23 = .ok (.ifCond .eq 5, 3) := by decide +kernel
theorem dX7_lowestOther_26 : decode cX7_lowestOther 26 = .ok (.iload_n 3, 1) := by decide +kernel
theorem dX7_lowestOther_27 : decode cX7_lowestOther 27 = .ok (.ireturn, 1) := by decide +kernel
theorem dX7_lowestOther_28 : decode cX7_lowestOther 28 = .ok (.iinc 3 1, 3) := by decide +kernel
theorem dX7_lowestOther_31 : decode cX7_lowestOther 31 = .ok (.goto (-29), 3) := by decide +kernel
theorem dX7_lowestOther_34 : decode cX7_lowestOther 34 = .ok (.iload_n 2, 1) := by decide +kernel
theorem dX7_lowestOther_35 : decode cX7_lowestOther 35 = .ok (.ireturn, 1) := by decide +kernel
theorem dX7_most_0 : decode cX7_most 0 = .ok (.iconst 0, 1) := by decide +kernel
theorem dX7_most_1 : decode cX7_most 1 = .ok (.istore_n 2, 1) := by decide +kernel
theorem dX7_most_2 : decode cX7_most 2 = .ok (.iload_n 2, 1) := by decide +kernel
theorem dX7_most_3 : decode cX7_most 3 = .ok (.bipush 9, 2) := by decide +kernel
theorem dX7_most_5 : decode cX7_most 5 = .ok (.if_icmp .gt 20, 3) := by decide +kernel
theorem dX7_most_8 : decode cX7_most 8 = .ok (.aload_n 0, 1) := by decide +kernel
theorem dX7_most_9 : decode cX7_most 9 = .ok (.iload_n 1, 1) := by decide +kernel
theorem dX7_most_10 : decode cX7_most 10 = .ok (.iload_n 2, 1) := by decide +kernel
theorem dX7_most_11 : decode cX7_most 11 = .ok (.invokevirtual 48, 3) := by decide +kernel
theorem dX7_most_14 : decode cX7_most 14 = .ok (.ifCond .ne 5, 3) := by decide +kernel
theorem dX7_most_17 : decode cX7_most 17 = .ok (.iload_n 2, 1) := by decide +kernel
theorem dX7_most_18 : decode cX7_most 18 = .ok (.ireturn, 1) := by decide +kernel
theorem dX7_most_19 : decode cX7_most 19 = .ok (.iinc 2 1, 3) := by decide +kernel
theorem dX7_most_22 : decode cX7_most 22 = .ok (.goto (-20), 3) := by decide +kernel
theorem dX7_most_25 : decode cX7_most 25 = .ok (.bipush (-5), 2) := by decide +kernel
theorem dX7_most_27 : decode cX7_most 27 = .ok (.ireturn, 1) := by decide +kernel
theorem dX7_waysTaken_0 : decode cX7_waysTaken 0 = .ok (.iconst 1, 1) := by decide +kernel
theorem dX7_waysTaken_1 : decode cX7_waysTaken 1 = .ok (.istore_n 3, 1) := by decide +kernel
theorem dX7_waysTaken_2 : decode cX7_waysTaken 2 = .ok (.iconst 0, 1) := by decide +kernel
theorem dX7_waysTaken_3 : decode cX7_waysTaken 3 = .ok (.istore 4, 2) := by decide +kernel
theorem dX7_waysTaken_5 : decode cX7_waysTaken 5 = .ok (.iload 4, 2) := by decide +kernel
theorem dX7_waysTaken_7 : decode cX7_waysTaken 7 = .ok (.iload_n 2, 1) := by decide +kernel
theorem dX7_waysTaken_8 : decode cX7_waysTaken 8 = .ok (.if_icmp .ge 19, 3) := by decide +kernel
theorem dX7_waysTaken_11 : decode cX7_waysTaken 11 = .ok (.iload_n 3, 1) := by decide +kernel
theorem dX7_waysTaken_12 : decode cX7_waysTaken 12 = .ok (.aload_n 0, 1) := by decide +kernel
theorem dX7_waysTaken_13 : decode cX7_waysTaken 13 = .ok (.iload_n 1, 1) := by decide +kernel
theorem dX7_waysTaken_14 : decode cX7_waysTaken 14 = .ok (.iload 4, 2) := by decide +kernel
theorem dX7_waysTaken_16 : decode cX7_waysTaken 16 = .ok (.invokevirtual 48, 3) := by decide +kernel
theorem dX7_waysTaken_19 : decode cX7_waysTaken 19 = .ok (.imul, 1) := by decide +kernel
theorem dX7_waysTaken_20 : decode cX7_waysTaken 20 = .ok (.istore_n 3, 1) := by decide +kernel
theorem dX7_waysTaken_21 : decode cX7_waysTaken 21 = .ok (.iinc 4 1, 3) := by decide +kernel
theorem dX7_waysTaken_24 : decode cX7_waysTaken 24 = .ok (.goto (-19), 3) := by decide +kernel
theorem dX7_waysTaken_27 : decode cX7_waysTaken 27 = .ok (.iload_n 3, 1) := by decide +kernel
theorem dX7_waysTaken_28 : decode cX7_waysTaken 28 = .ok (.ireturn, 1) := by decide +kernel
theorem dX7_waysAtAll_0 : decode cX7_waysAtAll 0 = .ok (.iconst 1, 1) := by decide +kernel
theorem dX7_waysAtAll_1 : decode cX7_waysAtAll 1 = .ok (.istore_n 2, 1) := by decide +kernel
theorem dX7_waysAtAll_2 : decode cX7_waysAtAll 2 = .ok (.iconst 0, 1) := by decide +kernel
theorem dX7_waysAtAll_3 : decode cX7_waysAtAll 3 = .ok (.istore_n 3, 1) := by decide +kernel
theorem dX7_waysAtAll_4 : decode cX7_waysAtAll 4 = .ok (.iload_n 3, 1) := by decide +kernel
theorem dX7_waysAtAll_5 : decode cX7_waysAtAll 5 = .ok (.iload_n 1, 1) := by decide +kernel
theorem dX7_waysAtAll_6 : decode cX7_waysAtAll 6 = .ok (.if_icmp .ge 21, 3) := by decide +kernel
theorem dX7_waysAtAll_9 : decode cX7_waysAtAll 9 = .ok (.iload_n 2, 1) := by decide +kernel
theorem dX7_waysAtAll_10 : decode cX7_waysAtAll 10 = .ok (.aload_n 0, 1) := by decide +kernel
theorem dX7_waysAtAll_11 : decode cX7_waysAtAll 11 = .ok (.getfield 9, 3) := by decide +kernel
theorem dX7_waysAtAll_14 : decode cX7_waysAtAll 14 = .ok (.getfield 25, 3) := by decide +kernel
theorem dX7_waysAtAll_17 : decode cX7_waysAtAll 17 = .ok (.iconst 1, 1) := by decide +kernel
theorem dX7_waysAtAll_18 : decode cX7_waysAtAll 18 = .ok (.isub, 1) := by decide +kernel
theorem dX7_waysAtAll_19 : decode cX7_waysAtAll 19 = .ok (.imul, 1) := by decide +kernel
theorem dX7_waysAtAll_20 : decode cX7_waysAtAll 20 = .ok (.istore_n 2, 1) := by decide +kernel
theorem dX7_waysAtAll_21 : decode cX7_waysAtAll 21 = .ok (.iinc 3 1, 3) := by decide +kernel
theorem dX7_waysAtAll_24 : decode cX7_waysAtAll 24 = .ok (.goto (-20), 3) := by decide +kernel
theorem dX7_waysAtAll_27 : decode cX7_waysAtAll 27 = .ok (.iload_n 2, 1) := by decide +kernel
theorem dX7_waysAtAll_28 : decode cX7_waysAtAll 28 = .ok (.ireturn, 1) := by decide +kernel
theorem dX7_choices_0 : decode cX7_choices 0 = .ok (.aload_n 0, 1) := by decide +kernel
theorem dX7_choices_1 : decode cX7_choices 1 = .ok (.iload_n 1, 1) := by decide +kernel
theorem dX7_choices_2 : decode cX7_choices 2 = .ok (.iload_n 2, 1) := by decide +kernel
theorem dX7_choices_3 : decode cX7_choices 3 = .ok (.invokevirtual 58, 3) := by decide +kernel
theorem dX7_choices_6 : decode cX7_choices 6 = .ok (.ifCond .eq 13, 3) := by decide +kernel
theorem dX7_choices_9 : decode cX7_choices 9 = .ok (.aload_n 0, 1) := by decide +kernel
theorem dX7_choices_10 : decode cX7_choices 10 = .ok (.getfield 9, 3) := by decide +kernel
theorem dX7_choices_13 : decode cX7_choices 13 = .ok (.getfield 25, 3) := by decide +kernel
theorem dX7_choices_16 : decode cX7_choices 16 = .ok (.iconst 1, 1) := by decide +kernel
theorem dX7_choices_17 : decode cX7_choices 17 = .ok (.isub, 1) := by decide +kernel
theorem dX7_choices_18 : decode cX7_choices 18 = .ok (.ireturn, 1) := by decide +kernel
theorem dX7_choices_19 : decode cX7_choices 19 = .ok (.aload_n 0, 1) := by decide +kernel
theorem dX7_choices_20 : decode cX7_choices 20 = .ok (.iload_n 1, 1) := by decide +kernel
theorem dX7_choices_21 : decode cX7_choices 21 = .ok (.invokevirtual 31, 3) := by decide +kernel
theorem dX7_choices_24 : decode cX7_choices 24 = .ok (.istore_n 3, 1) := by decide +kernel
theorem dX7_choices_25 : decode cX7_choices 25 = .ok (.iload_n 2, 1) := by decide +kernel
theorem dX7_choices_26 : decode cX7_choices 26 = .ok (.ifCond .gt 18, 3) := by decide +kernel
theorem dX7_choices_29 : decode cX7_choices 29 = .ok (.iload_n 3, 1) := by decide +kernel
theorem dX7_choices_30 : decode cX7_choices 30 = .ok (.aload_n 0, 1) := by decide +kernel
theorem dX7_choices_31 : decode cX7_choices 31 = .ok (.getfield 15, 3) := by decide +kernel
theorem dX7_choices_34 : decode cX7_choices 34 = .ok (.iload_n 1, 1) := by decide +kernel
theorem dX7_choices_35 : decode cX7_choices 35 = .ok (.invokevirtual 52, 3) := by decide +kernel
theorem dX7_choices_38 : decode cX7_choices 38 = .ok (.invokestatic 38, 3) := by decide +kernel
theorem dX7_choices_41 : decode cX7_choices 41 = .ok (.ifCond .eq 7, 3) := by decide +kernel
theorem dX7_choices_44 : decode cX7_choices 44 = .ok (.iconst 1, 1) := by decide +kernel
theorem dX7_choices_45 : decode cX7_choices 45 = .ok (.goto 4, 3) := by decide +kernel
theorem dX7_choices_48 : decode cX7_choices 48 = .ok (.iconst 0, 1) := by decide +kernel
theorem dX7_choices_49 : decode cX7_choices 49 = .ok (.istore 4, 2) := by decide +kernel
theorem dX7_choices_51 : decode cX7_choices 51 = .ok (.iload_n 3, 1) := by decide +kernel
theorem dX7_choices_52 : decode cX7_choices 52 = .ok (.invokestatic 61, 3) := by decide +kernel
theorem dX7_choices_55 : decode cX7_choices 55 = .ok (.iload 4, 2) := by decide +kernel
theorem dX7_choices_57 : decode cX7_choices 57 = .ok (.ifCond .eq 7, 3) := by decide +kernel
theorem dX7_choices_60 : decode cX7_choices 60 = .ok (.iconst 1, 1) := by decide +kernel
theorem dX7_choices_61 : decode cX7_choices 61 = .ok (.goto 4, 3) := by decide +kernel
theorem dX7_choices_64 : decode cX7_choices 64 = .ok (.iconst 0, 1) := by decide +kernel
theorem dX7_choices_65 : decode cX7_choices 65 = .ok (.isub, 1) := by decide +kernel
theorem dX7_choices_66 : decode cX7_choices 66 = .ok (.ireturn, 1) := by decide +kernel
theorem dX7_hasParityBehind_0 : decode cX7_hasParityBehind 0 = .ok (.aload_n 0, 1) := by decide +kernel
theorem dX7_hasParityBehind_1 : decode cX7_hasParityBehind 1 = .ok (.getfield 15, 3) := by decide +kernel
theorem dX7_hasParityBehind_4 : decode cX7_hasParityBehind 4 = .ok (.iload_n 1, 1) := by decide +kernel
theorem dX7_hasParityBehind_5 : decode cX7_hasParityBehind 5 = .ok (.invokevirtual 19, 3) := by decide +kernel
theorem dX7_hasParityBehind_8 : decode cX7_hasParityBehind 8 = .ok (.ifCond .ne 34, 3) := by decide +kernel
theorem dX7_hasParityBehind_11 : decode cX7_hasParityBehind 11 = .ok (.aload_n 0, 1) := by decide +kernel
theorem dX7_hasParityBehind_12 : decode cX7_hasParityBehind 12 = .ok (.getfield 9, 3) := by decide +kernel
theorem dX7_hasParityBehind_15 : decode cX7_hasParityBehind 15 = .ok (.iload_n 1, 1) := by decide +kernel
theorem dX7_hasParityBehind_16 : decode cX7_hasParityBehind 16 = .ok (.invokevirtual 66, 3) := by decide +kernel
theorem dX7_hasParityBehind_19 : decode cX7_hasParityBehind 19 = .ok (.ifCond .eq 27, 3) := by decide +kernel
theorem dX7_hasParityBehind_22 : decode cX7_hasParityBehind 22 = .ok (.aload_n 0, 1) := by decide +kernel
theorem dX7_hasParityBehind_23 : decode cX7_hasParityBehind 23 = .ok (.getfield 15, 3) := by decide +kernel
theorem dX7_hasParityBehind_26 : decode cX7_hasParityBehind 26 = .ok (.iload_n 1, 1) := by decide +kernel
theorem dX7_hasParityBehind_27 : decode cX7_hasParityBehind 27 = .ok (.invokevirtual 45, 3) := by decide +kernel
theorem dX7_hasParityBehind_30 : decode cX7_hasParityBehind 30 = .ok (.iload_n 2, 1) := by decide +kernel
theorem dX7_hasParityBehind_31 : decode cX7_hasParityBehind 31 = .ok (.iadd, 1) := by decide +kernel
theorem dX7_hasParityBehind_32 : decode cX7_hasParityBehind 32 = .ok (.aload_n 0, 1) := by decide +kernel
theorem dX7_hasParityBehind_33 : decode cX7_hasParityBehind 33 = .ok (.getfield 9, 3) := by decide +kernel
theorem dX7_hasParityBehind_36 : decode cX7_hasParityBehind 36 = .ok (.getfield 42, 3) := by decide +kernel
theorem dX7_hasParityBehind_39 : decode cX7_hasParityBehind 39 = .ok (.if_icmp .lt 7, 3) := by decide +kernel
theorem dX7_hasParityBehind_42 : decode cX7_hasParityBehind 42 = .ok (.iconst 1, 1) := by decide +kernel
theorem dX7_hasParityBehind_43 : decode cX7_hasParityBehind 43 = .ok (.goto 4, 3) := by decide +kernel
theorem dX7_hasParityBehind_46 : decode cX7_hasParityBehind 46 = .ok (.iconst 0, 1) := by decide +kernel
theorem dX7_hasParityBehind_47 : decode cX7_hasParityBehind 47 = .ok (.ireturn, 1) := by decide +kernel
theorem dX7_takersByLooks_0 : decode cX7_takersByLooks 0 = .ok (.iconst 0, 1) := by decide +kernel
theorem dX7_takersByLooks_1 : decode cX7_takersByLooks 1 = .ok (.istore_n 2, 1) := by decide +kernel
theorem dX7_takersByLooks_2 : decode cX7_takersByLooks 2 = .ok (.iconst 0, 1) := by decide +kernel
theorem dX7_takersByLooks_3 : decode cX7_takersByLooks 3 = .ok (.istore_n 3, 1) := by decide +kernel
theorem dX7_takersByLooks_4 : decode cX7_takersByLooks 4 = .ok (.iload_n 3, 1) := by decide +kernel
theorem dX7_takersByLooks_5 : decode cX7_takersByLooks 5 = .ok (.aload_n 0, 1) := by decide +kernel
theorem dX7_takersByLooks_6 : decode cX7_takersByLooks 6 = .ok (.getfield 9, 3) := by decide +kernel
theorem dX7_takersByLooks_9 : decode cX7_takersByLooks 9 = .ok (.getfield 25, 3) := by decide +kernel
theorem dX7_takersByLooks_12 : decode cX7_takersByLooks 12 = .ok (.if_icmp .ge 36, 3) := by decide +kernel
theorem dX7_takersByLooks_15 : decode cX7_takersByLooks 15 = .ok (.aload_n 0, 1) := by decide +kernel
theorem dX7_takersByLooks_16 : decode cX7_takersByLooks 16 = .ok (.getfield 9, 3) := by decide +kernel
theorem dX7_takersByLooks_19 : decode cX7_takersByLooks 19 = .ok (.getfield 69, 3) := by decide +kernel
theorem dX7_takersByLooks_22 : decode cX7_takersByLooks 22 = .ok (.iload_n 1, 1) := by decide +kernel
theorem dX7_takersByLooks_23 : decode cX7_takersByLooks 23 = .ok (.iaload, 1) := by decide +kernel
theorem dX7_takersByLooks_24 : decode cX7_takersByLooks 24 = .ok (.aload_n 0, 1) := by decide +kernel
theorem dX7_takersByLooks_25 : decode cX7_takersByLooks 25 = .ok (.getfield 15, 3) := by decide +kernel
theorem dX7_takersByLooks_28 : decode cX7_takersByLooks 28 = .ok (.iload_n 3, 1) := by decide +kernel
theorem dX7_takersByLooks_29 : decode cX7_takersByLooks 29 = .ok (.invokevirtual 73, 3) := by decide +kernel
theorem dX7_takersByLooks_32 : decode cX7_takersByLooks 32 = .ok (.iand, 1) := by decide +kernel
theorem dX7_takersByLooks_33 : decode cX7_takersByLooks 33 = .ok (.ifCond .ne 9, 3) := by decide +kernel
theorem dX7_takersByLooks_36 : decode cX7_takersByLooks 36 = .ok (.iload_n 2, 1) := by decide +kernel
theorem dX7_takersByLooks_37 : decode cX7_takersByLooks 37 = .ok (.iconst 1, 1) := by decide +kernel
theorem dX7_takersByLooks_38 : decode cX7_takersByLooks 38 = .ok (.iload_n 3, 1) := by decide +kernel
theorem dX7_takersByLooks_39 : decode cX7_takersByLooks 39 = .ok (.ishl, 1) := by decide +kernel
theorem dX7_takersByLooks_40 : decode cX7_takersByLooks 40 = .ok (.ior, 1) := by decide +kernel
theorem dX7_takersByLooks_41 : decode cX7_takersByLooks 41 = .ok (.istore_n 2, 1) := by decide +kernel
theorem dX7_takersByLooks_42 : decode cX7_takersByLooks 42 = .ok (.iinc 3 1, 3) := by decide +kernel
theorem dX7_takersByLooks_45 : decode cX7_takersByLooks 45 = .ok (.goto (-41), 3) := by decide +kernel
theorem dX7_takersByLooks_48 : decode cX7_takersByLooks 48 = .ok (.iload_n 2, 1) := by decide +kernel
theorem dX7_takersByLooks_49 : decode cX7_takersByLooks 49 = .ok (.ireturn, 1) := by decide +kernel
theorem dX8_init_0 : decode cX8_init 0 = .ok (.aload_n 0, 1) := by decide +kernel
theorem dX8_init_1 : decode cX8_init 1 = .ok (.invokespecial 3, 3) := by decide +kernel
theorem dX8_init_4 : decode cX8_init 4 = .ok (.aload_n 0, 1) := by decide +kernel
theorem dX8_init_5 : decode cX8_init 5 = .ok (.new 9, 3) := by decide +kernel
theorem dX8_init_8 : decode cX8_init 8 = .ok (.dup, 1) := by decide +kernel
theorem dX8_init_9 : decode cX8_init 9 = .ok (.invokespecial 11, 3) := by decide +kernel
theorem dX8_init_12 : decode cX8_init 12 = .ok (.putfield 12, 3) := by decide +kernel
theorem dX8_init_15 : decode cX8_init 15 = .ok (.aload_n 0, 1) := by decide +kernel
theorem dX8_init_16 : decode cX8_init 16 = .ok (.aload_n 1, 1) := by decide +kernel
theorem dX8_init_17 : decode cX8_init 17 = .ok (.putfield 18, 3) := by decide +kernel
theorem dX8_init_20 : decode cX8_init 20 = .ok (.return_, 1) := by decide +kernel
theorem dX8_read_0 : decode cX8_read 0 = .ok (.aload_n 0, 1) := by decide +kernel
theorem dX8_read_1 : decode cX8_read 1 = .ok (.invokevirtual 22, 3) := by decide +kernel
theorem dX8_read_4 : decode cX8_read 4 = .ok (.iconst 0, 1) := by decide +kernel
theorem dX8_read_5 : decode cX8_read 5 = .ok (.istore_n 1, 1) := by decide +kernel
theorem dX8_read_6 : decode cX8_read 6 = .ok (.iload_n 1, 1) := by decide +kernel
theorem dX8_read_7 : decode cX8_read 7 = .ok (.aload_n 0, 1) := by decide +kernel
theorem dX8_read_8 : decode cX8_read 8 = .ok (.getfield 18, 3) := by decide +kernel
theorem dX8_read_11 : decode cX8_read 11 = .ok (.getfield 25, 3) := by decide +kernel
theorem dX8_read_14 : decode cX8_read 14 = .ok (.if_icmp .ge 30, 3) := by decide +kernel
theorem dX8_read_17 : decode cX8_read 17 = .ok (.aload_n 0, 1) := by decide +kernel
theorem dX8_read_18 : decode cX8_read 18 = .ok (.iload_n 1, 1) := by decide +kernel
theorem dX8_read_19 : decode cX8_read 19 = .ok (.invokevirtual 31, 3) := by decide +kernel
theorem dX8_read_22 : decode cX8_read 22 = .ok (.ifCond .eq 16, 3) := by decide +kernel
theorem dX8_read_25 : decode cX8_read 25 = .ok (.aload_n 0, 1) := by decide +kernel
theorem dX8_read_26 : decode cX8_read 26 = .ok (.iload_n 1, 1) := by decide +kernel
theorem dX8_read_27 : decode cX8_read 27 = .ok (.invokevirtual 35, 3) := by decide +kernel
theorem dX8_read_30 : decode cX8_read 30 = .ok (.ifCond .ne 8, 3) := by decide +kernel
theorem dX8_read_33 : decode cX8_read 33 = .ok (.bipush (-10), 2) := by decide +kernel
theorem dX8_read_35 : decode cX8_read 35 = .ok (.iload_n 1, 1) := by decide +kernel
theorem dX8_read_36 : decode cX8_read 36 = .ok (.isub, 1) := by decide +kernel
theorem dX8_read_37 : decode cX8_read 37 = .ok (.ireturn, 1) := by decide +kernel
theorem dX8_read_38 : decode cX8_read 38 = .ok (.iinc 1 1, 3) := by decide +kernel
theorem dX8_read_41 : decode cX8_read 41 = .ok (.goto (-35), 3) := by decide +kernel
theorem dX8_read_44 : decode cX8_read 44 = .ok (.aload_n 0, 1) := by decide +kernel
theorem dX8_read_45 : decode cX8_read 45 = .ok (.getfield 38, 3) := by decide +kernel
theorem dX8_read_48 : decode cX8_read 48 = .ok (.ifCond .ne 10, 3) := by decide +kernel
theorem dX8_read_51 : decode cX8_read 51 = .ok (.aload_n 0, 1) := by decide +kernel
theorem dX8_read_52 : decode cX8_read 52 = .ok (.getfield 41, 3) := by decide +kernel
theorem dX8_read_55 : decode cX8_read 55 = .ok (.goto 13, 3) := by decide +kernel
theorem dX8_read_58 : decode cX8_read 58 = .ok (.bipush (-10), 2) := by decide +kernel
theorem dX8_read_60 : decode cX8_read 60 = .ok (.aload_n 0, 1) := by decide +kernel
theorem dX8_read_61 : decode cX8_read 61 = .ok (.getfield 18, 3) := by decide +kernel
theorem dX8_read_64 : decode cX8_read 64 = .ok (.getfield 25, 3) := by decide +kernel
theorem dX8_read_67 : decode cX8_read 67 = .ok (.isub, 1) := by decide +kernel
theorem dX8_read_68 : decode cX8_read 68 = .ok (.ireturn, 1) := by decide +kernel
theorem dX8_begin_0 : decode cX8_begin 0 = .ok (.aload_n 0, 1) := by decide +kernel
theorem dX8_begin_1 : decode cX8_begin 1 = .ok (.getfield 12, 3) := by decide +kernel
theorem dX8_begin_4 : decode cX8_begin 4 = .ok (.invokevirtual 44, 3) := by decide +kernel
theorem dX8_begin_7 : decode cX8_begin 7 = .ok (.aload_n 0, 1) := by decide +kernel
theorem dX8_begin_8 : decode cX8_begin 8 = .ok (.iconst 0, 1) := by decide +kernel
theorem dX8_begin_9 : decode cX8_begin 9 = .ok (.putfield 41, 3) := by decide +kernel
theorem dX8_begin_12 : decode cX8_begin 12 = .ok (.aload_n 0, 1) := by decide +kernel
theorem dX8_begin_13 : decode cX8_begin 13 = .ok (.iconst 0, 1) := by decide +kernel
theorem dX8_begin_14 : decode cX8_begin 14 = .ok (.putfield 38, 3) := by decide +kernel
theorem dX8_begin_17 : decode cX8_begin 17 = .ok (.aload_n 0, 1) := by decide +kernel
theorem dX8_begin_18 : decode cX8_begin 18 = .ok (.iconst 0, 1) := by decide +kernel
theorem dX8_begin_19 : decode cX8_begin 19 = .ok (.putfield 47, 3) := by decide +kernel
theorem dX8_begin_22 : decode cX8_begin 22 = .ok (.aload_n 0, 1) := by decide +kernel
theorem dX8_begin_23 : decode cX8_begin 23 = .ok (.iconst 0, 1) := by decide +kernel
theorem dX8_begin_24 : decode cX8_begin 24 = .ok (.putfield 51, 3) := by decide +kernel
theorem dX8_begin_27 : decode cX8_begin 27 = .ok (.return_, 1) := by decide +kernel
theorem dX8_beginsToken_0 : decode cX8_beginsToken 0 = .ok (.aload_n 0, 1) := by decide +kernel
theorem dX8_beginsToken_1 : decode cX8_beginsToken 1 = .ok (.getfield 18, 3) := by decide +kernel
theorem dX8_beginsToken_4 : decode cX8_beginsToken 4 = .ok (.iload_n 1, 1) := by decide +kernel
theorem dX8_beginsToken_5 : decode cX8_beginsToken 5 = .ok (.invokevirtual 54, 3) := by decide +kernel
theorem dX8_beginsToken_8 : decode cX8_beginsToken 8 = .ok (.ifCond .eq 22, 3) := by decide +kernel
theorem dX8_beginsToken_11 : decode cX8_beginsToken 11 = .ok (.aload_n 0, 1) := by decide +kernel
theorem dX8_beginsToken_12 : decode cX8_beginsToken 12 = .ok (.getfield 18, 3) := by decide +kernel
theorem dX8_beginsToken_15 : decode cX8_beginsToken 15 = .ok (.iload_n 1, 1) := by decide +kernel
theorem dX8_beginsToken_16 : decode cX8_beginsToken 16 = .ok (.iconst 1, 1) := by decide +kernel
theorem dX8_beginsToken_17 : decode cX8_beginsToken 17 = .ok (.isub, 1) := by decide +kernel
theorem dX8_beginsToken_18 : decode cX8_beginsToken 18 = .ok (.invokevirtual 54, 3) := by decide +kernel
theorem dX8_beginsToken_21 : decode cX8_beginsToken 21 = .ok (.ifCond .ne 7, 3) := by decide +kernel
theorem dX8_beginsToken_24 : decode cX8_beginsToken 24 = .ok (.iconst 1, 1) := by decide +kernel
theorem dX8_beginsToken_25 : decode cX8_beginsToken 25 = .ok (.goto 4, 3) := by decide +kernel
theorem dX8_beginsToken_28 : decode cX8_beginsToken 28 = .ok (.iconst 0, 1) := by decide +kernel
theorem dX8_beginsToken_29 : decode cX8_beginsToken 29 = .ok (.ireturn, 1) := by decide +kernel
theorem dX8_beginsToken_30 : decode cX8_beginsToken 30 = .ok (.aload_n 0, 1) := by decide +kernel
theorem dX8_beginsToken_31 : decode cX8_beginsToken 31 = .ok (.getfield 18, 3) := by decide +kernel
theorem dX8_beginsToken_34 : decode cX8_beginsToken 34 = .ok (.getfield 57, 3) := by decide +kernel
theorem dX8_beginsToken_37 : decode cX8_beginsToken 37 = .ok (.iload_n 1, 1) := by decide +kernel
theorem dX8_beginsToken_38 : decode cX8_beginsToken 38 = .ok (.iaload, 1) := by decide +kernel
theorem dX8_beginsToken_39 : decode cX8_beginsToken 39 = .ok (.bipush 32, 2) := by decide +kernel
theorem dX8_beginsToken_41 : decode cX8_beginsToken 41 = .ok (.if_icmp .eq 7, 3) := by decide +kernel
theorem dX8_beginsToken_44 : decode cX8_beginsToken 44 = .ok (.iconst 1, 1) := by decide +kernel
theorem dX8_beginsToken_45 : decode cX8_beginsToken 45 = .ok (.goto 4, 3) := by decide +kernel
theorem dX8_beginsToken_48 : decode cX8_beginsToken 48 = .ok (.iconst 0, 1) := by decide +kernel
theorem dX8_beginsToken_49 : decode cX8_beginsToken 49 = .ok (.ireturn, 1) := by decide +kernel
theorem dX8_accepts_0 : decode cX8_accepts 0 = .ok (.aload_n 0, 1) := by decide +kernel
theorem dX8_accepts_1 : decode cX8_accepts 1 = .ok (.getfield 18, 3) := by decide +kernel
theorem dX8_accepts_4 : decode cX8_accepts 4 = .ok (.getfield 57, 3) := by decide +kernel
theorem dX8_accepts_7 : decode cX8_accepts 7 = .ok (.iload_n 1, 1) := by decide +kernel
theorem dX8_accepts_8 : decode cX8_accepts 8 = .ok (.iaload, 1) := by decide +kernel
theorem dX8_accepts_9 : decode cX8_accepts 9 = .ok (.istore_n 2, 1) := by decide +kernel
theorem dX8_accepts_10 : decode cX8_accepts 10 = .ok (.aload_n 0, 1) := by decide +kernel
theorem dX8_accepts_11 : decode cX8_accepts 11 = .ok (.getfield 38, 3) := by decide +kernel
theorem dX8_accepts_14 : decode cX8_accepts 14 = .ok (.ifCond .ne 9, 3) := by decide +kernel
theorem dX8_accepts_17 : decode cX8_accepts 17 = .ok (.aload_n 0, 1) := by decide +kernel
theorem dX8_accepts_18 : decode cX8_accepts 18 = .ok (.iload_n 2, 1) := by decide +kernel
theorem dX8_accepts_19 : decode cX8_accepts 19 = .ok (.invokevirtual 61, 3) := by decide +kernel
theorem dX8_accepts_22 : decode cX8_accepts 22 = .ok (.ireturn, 1) := by decide +kernel
theorem dX8_accepts_23 : decode cX8_accepts 23 = .ok (.aload_n 0, 1) := by decide +kernel
theorem dX8_accepts_24 : decode cX8_accepts 24 = .ok (.getfield 64, 3) := by decide +kernel
theorem dX8_accepts_27 : decode cX8_accepts 27 = .ok (.aload_n 0, 1) := by decide +kernel
theorem dX8_accepts_28 : decode cX8_accepts 28 = .ok (.invokevirtual 67, 3) := by decide +kernel
theorem dX8_accepts_31 : decode cX8_accepts 31 = .ok (.if_icmp .ge 32, 3) := by decide +kernel
theorem dX8_accepts_34 : decode cX8_accepts 34 = .ok (.aload_n 0, 1) := by decide +kernel
theorem dX8_accepts_35 : decode cX8_accepts 35 = .ok (.getfield 18, 3) := by decide +kernel
theorem dX8_accepts_38 : decode cX8_accepts 38 = .ok (.iload_n 1, 1) := by decide +kernel
theorem dX8_accepts_39 : decode cX8_accepts 39 = .ok (.invokevirtual 54, 3) := by decide +kernel
theorem dX8_accepts_42 : decode cX8_accepts 42 = .ok (.ifCond .eq 19, 3) := by decide +kernel
theorem dX8_accepts_45 : decode cX8_accepts 45 = .ok (.aload_n 0, 1) := by decide +kernel
theorem dX8_accepts_46 : decode cX8_accepts 46 = .ok (.aload_n 0, 1) := by decide +kernel
theorem dX8_accepts_47 : decode cX8_accepts 47 = .ok (.iload_n 1, 1) := by decide +kernel
theorem dX8_accepts_48 : decode cX8_accepts 48 = .ok (.invokevirtual 71, 3) := by decide +kernel
theorem dX8_accepts_51 : decode cX8_accepts 51 = .ok (.invokevirtual 75, 3) := by decide +kernel
theorem dX8_accepts_54 : decode cX8_accepts 54 = .ok (.ifCond .eq 7, 3) := by decide +kernel
theorem dX8_accepts_57 : decode cX8_accepts 57 = .ok (.iconst 1, 1) := by decide +kernel
theorem dX8_accepts_58 : decode cX8_accepts 58 = .ok (.goto 4, 3) := by decide +kernel
theorem dX8_accepts_61 : decode cX8_accepts 61 = .ok (.iconst 0, 1) := by decide +kernel
theorem dX8_accepts_62 : decode cX8_accepts 62 = .ok (.ireturn, 1) := by decide +kernel
theorem dX8_accepts_63 : decode cX8_accepts 63 = .ok (.iload_n 2, 1) := by decide +kernel
theorem dX8_accepts_64 : decode cX8_accepts 64 = .ok (.bipush 59, 2) := by decide +kernel
theorem dX8_accepts_66 : decode cX8_accepts 66 = .ok (.if_icmp .ne 14, 3) := by decide +kernel
theorem dX8_accepts_69 : decode cX8_accepts 69 = .ok (.aload_n 0, 1) := by decide +kernel
theorem dX8_accepts_70 : decode cX8_accepts 70 = .ok (.invokevirtual 78, 3) := by decide +kernel
theorem dX8_accepts_73 : decode cX8_accepts 73 = .ok (.ifCond .eq 7, 3) := by decide +kernel
theorem dX8_accepts_76 : decode cX8_accepts 76 = .ok (.iconst 1, 1) := by decide +kernel
theorem dX8_accepts_77 : decode cX8_accepts 77 = .ok (.goto 4, 3) := by decide +kernel
theorem dX8_accepts_80 : decode cX8_accepts 80 = .ok (.iconst 0, 1) := by decide +kernel
theorem dX8_accepts_81 : decode cX8_accepts 81 = .ok (.ireturn, 1) := by decide +kernel
theorem dX8_beginsItem_0 : decode cX8_beginsItem 0 = .ok (.aload_n 0, 1) := by decide +kernel
theorem dX8_beginsItem_1 : decode cX8_beginsItem 1 = .ok (.iload_n 1, 1) := by decide +kernel
theorem dX8_beginsItem_2 : decode cX8_beginsItem 2 = .ok (.invokevirtual 82, 3) := by decide +kernel
theorem dX8_beginsItem_5 : decode cX8_beginsItem 5 = .ok (.ifCond .ne 5, 3) := by decide +kernel
theorem dX8_beginsItem_8 : decode cX8_beginsItem 8 = .ok (.iconst 0, 1) := by decide +kernel
theorem dX8_beginsItem_9 : decode cX8_beginsItem 9 = .ok (.ireturn, 1) := by decide +kernel
theorem dX8_beginsItem_10 : decode cX8_beginsItem 10 = .ok (.aload_n 0, 1) := by decide +kernel
theorem dX8_beginsItem_11 : decode cX8_beginsItem 11 = .ok (.iload_n 1, 1) := by decide +kernel
theorem dX8_beginsItem_12 : decode cX8_beginsItem 12 = .ok (.putfield 38, 3) := by decide +kernel
theorem dX8_beginsItem_15 : decode cX8_beginsItem 15 = .ok (.aload_n 0, 1) := by decide +kernel
theorem dX8_beginsItem_16 : decode cX8_beginsItem 16 = .ok (.iconst 0, 1) := by decide +kernel
theorem dX8_beginsItem_17 : decode cX8_beginsItem 17 = .ok (.putfield 64, 3) := by decide +kernel
theorem dX8_beginsItem_20 : decode cX8_beginsItem 20 = .ok (.iconst 1, 1) := by decide +kernel
theorem dX8_beginsItem_21 : decode cX8_beginsItem 21 = .ok (.ireturn, 1) := by decide +kernel
theorem dX8_canBegin_0 : decode cX8_canBegin 0 = .ok (.iload_n 1, 1) := by decide +kernel
theorem dX8_canBegin_1 : decode cX8_canBegin 1 = .ok (.lookupswitch 104 #[(98, 78), (110, 60), (112, 43), (115, 91)], 43) := by decide +kernel
theorem dX8_canBegin_44 : decode cX8_canBegin 44 = .ok (.aload_n 0, 1) := by decide +kernel
theorem dX8_canBegin_45 : decode cX8_canBegin 45 = .ok (.getfield 12, 3) := by decide +kernel
theorem dX8_canBegin_48 : decode cX8_canBegin 48 = .ok (.getfield 85, 3) := by decide +kernel
theorem dX8_canBegin_51 : decode cX8_canBegin 51 = .ok (.iconst 5, 1) := by decide +kernel
theorem dX8_canBegin_52 : decode cX8_canBegin 52 = .ok (.if_icmp .ge 7, 3) := by decide +kernel
theorem dX8_canBegin_55 : decode cX8_canBegin 55 = .ok (.iconst 1, 1) := by decide +kernel
theorem dX8_canBegin_56 : decode cX8_canBegin 56 = .ok (.goto 4, 3) := by decide +kernel
theorem dX8_canBegin_59 : decode cX8_canBegin 59 = .ok (.iconst 0, 1) := by decide +kernel
theorem dX8_canBegin_60 : decode cX8_canBegin 60 = .ok (.ireturn, 1) := by decide +kernel
theorem dX8_canBegin_61 : decode cX8_canBegin 61 = .ok (.aload_n 0, 1) := by decide +kernel
theorem dX8_canBegin_62 : decode cX8_canBegin 62 = .ok (.getfield 12, 3) := by decide +kernel
theorem dX8_canBegin_65 : decode cX8_canBegin 65 = .ok (.getfield 88, 3) := by decide +kernel
theorem dX8_canBegin_68 : decode cX8_canBegin 68 = .ok (.bipush 6, 2) := by decide +kernel
theorem dX8_canBegin_70 : decode cX8_canBegin 70 = .ok (.if_icmp .ge 7, 3) := by decide +kernel
theorem dX8_canBegin_73 : decode cX8_canBegin 73 = .ok (.iconst 1, 1) := by decide +kernel
theorem dX8_canBegin_74 : decode cX8_canBegin 74 = .ok (.goto 4, 3) := by decide +kernel
theorem dX8_canBegin_77 : decode cX8_canBegin 77 = .ok (.iconst 0, 1) := by decide +kernel
theorem dX8_canBegin_78 : decode cX8_canBegin 78 = .ok (.ireturn, 1) := by decide +kernel
theorem dX8_canBegin_79 : decode cX8_canBegin 79 = .ok (.aload_n 0, 1) := by decide +kernel
theorem dX8_canBegin_80 : decode cX8_canBegin 80 = .ok (.getfield 47, 3) := by decide +kernel
theorem dX8_canBegin_83 : decode cX8_canBegin 83 = .ok (.ifCond .ne 7, 3) := by decide +kernel
theorem dX8_canBegin_86 : decode cX8_canBegin 86 = .ok (.iconst 1, 1) := by decide +kernel
theorem dX8_canBegin_87 : decode cX8_canBegin 87 = .ok (.goto 4, 3) := by decide +kernel
theorem dX8_canBegin_90 : decode cX8_canBegin 90 = .ok (.iconst 0, 1) := by decide +kernel
theorem dX8_canBegin_91 : decode cX8_canBegin 91 = .ok (.ireturn, 1) := by decide +kernel
theorem dX8_canBegin_92 : decode cX8_canBegin 92 = .ok (.aload_n 0, 1) := by decide +kernel
theorem dX8_canBegin_93 : decode cX8_canBegin 93 = .ok (.getfield 51, 3) := by decide +kernel
