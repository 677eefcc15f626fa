theorem dX8_canBegin_96 : decode cX8_canBegin 96 = .ok (.ifCond .ne 7, 3) := by decide +kernel
theorem dX8_canBegin_99 : decode cX8_canBegin 99 = .ok (.iconst 1, 1) := by decide +kernel
theorem dX8_canBegin_100 : decode cX8_canBegin 100 = .ok (.goto 4, 3) := by decide +kernel
theorem dX8_canBegin_103 : decode cX8_canBegin 103 = .ok (.iconst 0, 1) := by decide +kernel
theorem dX8_canBegin_104 : decode cX8_canBegin 104 = .ok (.ireturn, 1) := by decide +kernel
theorem dX8_canBegin_105 : decode cX8_canBegin 105 = .ok (.iconst 0, 1) := by decide +kernel
theorem dX8_canBegin_106 : decode cX8_canBegin 106 = .ok (.ireturn, 1) := by decide +kernel
theorem dX8_numbersOfItem_0 : decode cX8_numbersOfItem 0 = .ok (.aload_n 0, 1) := by decide +kernel
theorem dX8_numbersOfItem_1 : decode cX8_numbersOfItem 1 = .ok (.getfield 38, 3) := by decide +kernel
theorem dX8_numbersOfItem_4 : decode cX8_numbersOfItem 4 = .ok (.bipush 110, 2) := by decide +kernel
theorem dX8_numbersOfItem_6 : decode cX8_numbersOfItem 6 = .ok (.if_icmp .ne 7, 3) := by decide +kernel
theorem dX8_numbersOfItem_9 : decode cX8_numbersOfItem 9 = .ok (.iconst 3, 1) := by decide +kernel
theorem dX8_numbersOfItem_10 : decode cX8_numbersOfItem 10 = .ok (.goto 4, 3) := by decide +kernel
theorem dX8_numbersOfItem_13 : decode cX8_numbersOfItem 13 = .ok (.iconst 1, 1) := by decide +kernel
theorem dX8_numbersOfItem_14 : decode cX8_numbersOfItem 14 = .ok (.ireturn, 1) := by decide +kernel
theorem dX8_numberAt_0 : decode cX8_numberAt 0 = .ok (.aload_n 0, 1) := by decide +kernel
theorem dX8_numberAt_1 : decode cX8_numberAt 1 = .ok (.getfield 18, 3) := by decide +kernel
theorem dX8_numberAt_4 : decode cX8_numberAt 4 = .ok (.getfield 57, 3) := by decide +kernel
theorem dX8_numberAt_7 : decode cX8_numberAt 7 = .ok (.iload_n 1, 1) := by decide +kernel
theorem dX8_numberAt_8 : decode cX8_numberAt 8 = .ok (.iaload, 1) := by decide +kernel
theorem dX8_numberAt_9 : decode cX8_numberAt 9 = .ok (.bipush 48, 2) := by decide +kernel
theorem dX8_numberAt_11 : decode cX8_numberAt 11 = .ok (.if_icmp .ne 19, 3) := by decide +kernel
theorem dX8_numberAt_14 : decode cX8_numberAt 14 = .ok (.aload_n 0, 1) := by decide +kernel
theorem dX8_numberAt_15 : decode cX8_numberAt 15 = .ok (.getfield 18, 3) := by decide +kernel
theorem dX8_numberAt_18 : decode cX8_numberAt 18 = .ok (.iload_n 1, 1) := by decide +kernel
theorem dX8_numberAt_19 : decode cX8_numberAt 19 = .ok (.iconst 1, 1) := by decide +kernel
theorem dX8_numberAt_20 : decode cX8_numberAt 20 = .ok (.iadd, 1) := by decide +kernel
theorem dX8_numberAt_21 : decode cX8_numberAt 21 = .ok (.invokevirtual 54, 3) := by decide +kernel
theorem dX8_numberAt_24 : decode cX8_numberAt 24 = .ok (.ifCond .eq 6, 3) := by decide +kernel
theorem dX8_numberAt_27 : decode cX8_numberAt 27 = .ok (.bipush 100, 2) := by decide +kernel
theorem dX8_numberAt_29 : decode cX8_numberAt 29 = .ok (.ireturn, 1) := by decide +kernel
theorem dX8_numberAt_30 : decode cX8_numberAt 30 = .ok (.iconst 0, 1) := by decide +kernel
theorem dX8_numberAt_31 : decode cX8_numberAt 31 = .ok (.istore_n 2, 1) := by decide +kernel
theorem dX8_numberAt_32 : decode cX8_numberAt 32 = .ok (.iload_n 1, 1) := by decide +kernel
theorem dX8_numberAt_33 : decode cX8_numberAt 33 = .ok (.istore_n 3, 1) := by decide +kernel
theorem dX8_numberAt_34 : decode cX8_numberAt 34 = .ok (.iload_n 3, 1) := by decide +kernel
theorem dX8_numberAt_35 : decode cX8_numberAt 35 = .ok (.aload_n 0, 1) := by decide +kernel
theorem dX8_numberAt_36 : decode cX8_numberAt 36 = .ok (.getfield 18, 3) := by decide +kernel
theorem dX8_numberAt_39 : decode cX8_numberAt 39 = .ok (.getfield 25, 3) := by decide +kernel
theorem dX8_numberAt_42 : decode cX8_numberAt 42 = .ok (.if_icmp .ge 43, 3) := by decide +kernel
theorem dX8_numberAt_45 : decode cX8_numberAt 45 = .ok (.aload_n 0, 1) := by decide +kernel
theorem dX8_numberAt_46 : decode cX8_numberAt 46 = .ok (.getfield 18, 3) := by decide +kernel
theorem dX8_numberAt_49 : decode cX8_numberAt 49 = .ok (.iload_n 3, 1) := by decide +kernel
theorem dX8_numberAt_50 : decode cX8_numberAt 50 = .ok (.invokevirtual 54, 3) := by decide +kernel
theorem dX8_numberAt_53 : decode cX8_numberAt 53 = .ok (.ifCond .eq 32, 3) := by decide +kernel
theorem dX8_numberAt_56 : decode cX8_numberAt 56 = .ok (.bipush 100, 2) := by decide +kernel
theorem dX8_numberAt_58 : decode cX8_numberAt 58 = .ok (.iload_n 2, 1) := by decide +kernel
theorem dX8_numberAt_59 : decode cX8_numberAt 59 = .ok (.bipush 10, 2) := by decide +kernel
theorem dX8_numberAt_61 : decode cX8_numberAt 61 = .ok (.imul, 1) := by decide +kernel
theorem dX8_numberAt_62 : decode cX8_numberAt 62 = .ok (.aload_n 0, 1) := by decide +kernel
theorem dX8_numberAt_63 : decode cX8_numberAt 63 = .ok (.getfield 18, 3) := by decide +kernel
theorem dX8_numberAt_66 : decode cX8_numberAt 66 = .ok (.getfield 57, 3) := by decide +kernel
theorem dX8_numberAt_69 : decode cX8_numberAt 69 = .ok (.iload_n 3, 1) := by decide +kernel
theorem dX8_numberAt_70 : decode cX8_numberAt 70 = .ok (.iaload, 1) := by decide +kernel
theorem dX8_numberAt_71 : decode cX8_numberAt 71 = .ok (.iadd, 1) := by decide +kernel
theorem dX8_numberAt_72 : decode cX8_numberAt 72 = .ok (.bipush 48, 2) := by decide +kernel
theorem dX8_numberAt_74 : decode cX8_numberAt 74 = .ok (.isub, 1) := by decide +kernel
theorem dX8_numberAt_75 : decode cX8_numberAt 75 = .ok (.invokestatic 91, 3) := by decide +kernel
theorem dX8_numberAt_78 : decode cX8_numberAt 78 = .ok (.istore_n 2, 1) := by decide +kernel
theorem dX8_numberAt_79 : decode cX8_numberAt 79 = .ok (.iinc 3 1, 3) := by decide +kernel
theorem dX8_numberAt_82 : decode cX8_numberAt 82 = .ok (.goto (-48), 3) := by decide +kernel
theorem dX8_numberAt_85 : decode cX8_numberAt 85 = .ok (.iload_n 2, 1) := by decide +kernel
theorem dX8_numberAt_86 : decode cX8_numberAt 86 = .ok (.ireturn, 1) := by decide +kernel
theorem dX8_acceptsNumber_0 : decode cX8_acceptsNumber 0 = .ok (.iload_n 1, 1) := by decide +kernel
theorem dX8_acceptsNumber_1 : decode cX8_acceptsNumber 1 = .ok (.aload_n 0, 1) := by decide +kernel
theorem dX8_acceptsNumber_2 : decode cX8_acceptsNumber 2 = .ok (.invokevirtual 97, 3) := by decide +kernel
theorem dX8_acceptsNumber_5 : decode cX8_acceptsNumber 5 = .ok (.if_icmp .lt 11, 3) := by decide +kernel
theorem dX8_acceptsNumber_8 : decode cX8_acceptsNumber 8 = .ok (.iload_n 1, 1) := by decide +kernel
theorem dX8_acceptsNumber_9 : decode cX8_acceptsNumber 9 = .ok (.aload_n 0, 1) := by decide +kernel
theorem dX8_acceptsNumber_10 : decode cX8_acceptsNumber 10 = .ok (.invokevirtual 100, 3) := by decide +kernel
theorem dX8_acceptsNumber_13 : decode cX8_acceptsNumber 13 = .ok (.if_icmp .le 5, 3) := by decide +kernel
theorem dX8_acceptsNumber_16 : decode cX8_acceptsNumber 16 = .ok (.iconst 0, 1) := by decide +kernel
theorem dX8_acceptsNumber_17 : decode cX8_acceptsNumber 17 = .ok (.ireturn, 1) := by decide +kernel
theorem dX8_acceptsNumber_18 : decode cX8_acceptsNumber 18 = .ok (.aload_n 0, 1) := by decide +kernel
theorem dX8_acceptsNumber_19 : decode cX8_acceptsNumber 19 = .ok (.iload_n 1, 1) := by decide +kernel
theorem dX8_acceptsNumber_20 : decode cX8_acceptsNumber 20 = .ok (.invokevirtual 103, 3) := by decide +kernel
theorem dX8_acceptsNumber_23 : decode cX8_acceptsNumber 23 = .ok (.aload_n 0, 1) := by decide +kernel
theorem dX8_acceptsNumber_24 : decode cX8_acceptsNumber 24 = .ok (.dup, 1) := by decide +kernel
theorem dX8_acceptsNumber_25 : decode cX8_acceptsNumber 25 = .ok (.getfield 64, 3) := by decide +kernel
theorem dX8_acceptsNumber_28 : decode cX8_acceptsNumber 28 = .ok (.iconst 1, 1) := by decide +kernel
theorem dX8_acceptsNumber_29 : decode cX8_acceptsNumber 29 = .ok (.iadd, 1) := by decide +kernel
theorem dX8_acceptsNumber_30 : decode cX8_acceptsNumber 30 = .ok (.putfield 64, 3) := by decide +kernel
theorem dX8_acceptsNumber_33 : decode cX8_acceptsNumber 33 = .ok (.iconst 1, 1) := by decide +kernel
theorem dX8_acceptsNumber_34 : decode cX8_acceptsNumber 34 = .ok (.ireturn, 1) := by decide +kernel
theorem dX8_leastNumber_0 : decode cX8_leastNumber 0 = .ok (.aload_n 0, 1) := by decide +kernel
theorem dX8_leastNumber_1 : decode cX8_leastNumber 1 = .ok (.getfield 38, 3) := by decide +kernel
theorem dX8_leastNumber_4 : decode cX8_leastNumber 4 = .ok (.bipush 98, 2) := by decide +kernel
theorem dX8_leastNumber_6 : decode cX8_leastNumber 6 = .ok (.if_icmp .eq 19, 3) := by decide +kernel
theorem dX8_leastNumber_9 : decode cX8_leastNumber 9 = .ok (.aload_n 0, 1) := by decide +kernel
theorem dX8_leastNumber_10 : decode cX8_leastNumber 10 = .ok (.getfield 38, 3) := by decide +kernel
theorem dX8_leastNumber_13 : decode cX8_leastNumber 13 = .ok (.bipush 110, 2) := by decide +kernel
theorem dX8_leastNumber_15 : decode cX8_leastNumber 15 = .ok (.if_icmp .ne 14, 3) := by decide +kernel
theorem dX8_leastNumber_18 : decode cX8_leastNumber 18 = .ok (.aload_n 0, 1) := by decide +kernel
theorem dX8_leastNumber_19 : decode cX8_leastNumber 19 = .ok (.getfield 64, 3) := by decide +kernel
theorem dX8_leastNumber_22 : decode cX8_leastNumber 22 = .ok (.ifCond .ne 7, 3) := by decide +kernel
theorem dX8_leastNumber_25 : decode cX8_leastNumber 25 = .ok (.iconst 1, 1) := by decide +kernel
theorem dX8_leastNumber_26 : decode cX8_leastNumber 26 = .ok (.goto 4, 3) := by decide +kernel
theorem dX8_leastNumber_29 : decode cX8_leastNumber 29 = .ok (.iconst 0, 1) := by decide +kernel
theorem dX8_leastNumber_30 : decode cX8_leastNumber 30 = .ok (.ireturn, 1) := by decide +kernel
theorem dX8_mostNumber_0 : decode cX8_mostNumber 0 = .ok (.aload_n 0, 1) := by decide +kernel
theorem dX8_mostNumber_1 : decode cX8_mostNumber 1 = .ok (.getfield 38, 3) := by decide +kernel
theorem dX8_mostNumber_4 : decode cX8_mostNumber 4 = .ok (.lookupswitch 47 #[(98, 36), (110, 42), (115, 39)], 36) := by decide +kernel
theorem dX8_mostNumber_40 : decode cX8_mostNumber 40 = .ok (.bipush 9, 2) := by decide +kernel
theorem dX8_mostNumber_42 : decode cX8_mostNumber 42 = .ok (.ireturn, 1) := by decide +kernel
theorem dX8_mostNumber_43 : decode cX8_mostNumber 43 = .ok (.bipush 10, 2) := by decide +kernel
theorem dX8_mostNumber_45 : decode cX8_mostNumber 45 = .ok (.ireturn, 1) := by decide +kernel
theorem dX8_mostNumber_46 : decode cX8_mostNumber 46 = .ok (.aload_n 0, 1) := by decide +kernel
theorem dX8_mostNumber_47 : decode cX8_mostNumber 47 = .ok (.invokevirtual 107, 3) := by decide +kernel
theorem dX8_mostNumber_50 : decode cX8_mostNumber 50 = .ok (.ireturn, 1) := by decide +kernel
theorem dX8_mostNumber_51 : decode cX8_mostNumber 51 = .ok (.bipush 31, 2) := by decide +kernel
theorem dX8_mostNumber_53 : decode cX8_mostNumber 53 = .ok (.ireturn, 1) := by decide +kernel
theorem dX8_mostOfNote_0 : decode cX8_mostOfNote 0 = .ok (.aload_n 0, 1) := by decide +kernel
theorem dX8_mostOfNote_1 : decode cX8_mostOfNote 1 = .ok (.getfield 64, 3) := by decide +kernel
theorem dX8_mostOfNote_4 : decode cX8_mostOfNote 4 = .ok (.lookupswitch 34 #[(0, 28), (1, 31)], 28) := by decide +kernel
theorem dX8_mostOfNote_32 : decode cX8_mostOfNote 32 = .ok (.bipush 99, 2) := by decide +kernel
theorem dX8_mostOfNote_34 : decode cX8_mostOfNote 34 = .ok (.ireturn, 1) := by decide +kernel
theorem dX8_mostOfNote_35 : decode cX8_mostOfNote 35 = .ok (.bipush 31, 2) := by decide +kernel
theorem dX8_mostOfNote_37 : decode cX8_mostOfNote 37 = .ok (.ireturn, 1) := by decide +kernel
theorem dX8_mostOfNote_38 : decode cX8_mostOfNote 38 = .ok (.aload_n 0, 1) := by decide +kernel
theorem dX8_mostOfNote_39 : decode cX8_mostOfNote 39 = .ok (.getfield 12, 3) := by decide +kernel
theorem dX8_mostOfNote_42 : decode cX8_mostOfNote 42 = .ok (.getfield 85, 3) := by decide +kernel
theorem dX8_mostOfNote_45 : decode cX8_mostOfNote 45 = .ok (.iconst 1, 1) := by decide +kernel
theorem dX8_mostOfNote_46 : decode cX8_mostOfNote 46 = .ok (.isub, 1) := by decide +kernel
theorem dX8_mostOfNote_47 : decode cX8_mostOfNote 47 = .ok (.ireturn, 1) := by decide +kernel
theorem dX8_store_0 : decode cX8_store 0 = .ok (.aload_n 0, 1) := by decide +kernel
theorem dX8_store_1 : decode cX8_store 1 = .ok (.getfield 38, 3) := by decide +kernel
theorem dX8_store_4 : decode cX8_store 4 = .ok (.lookupswitch 81 #[(98, 70), (110, 55), (112, 36)], 36) := by decide +kernel
theorem dX8_store_40 : decode cX8_store 40 = .ok (.aload_n 0, 1) := by decide +kernel
theorem dX8_store_41 : decode cX8_store 41 = .ok (.getfield 12, 3) := by decide +kernel
theorem dX8_store_44 : decode cX8_store 44 = .ok (.getfield 110, 3) := by decide +kernel
theorem dX8_store_47 : decode cX8_store 47 = .ok (.aload_n 0, 1) := by decide +kernel
theorem dX8_store_48 : decode cX8_store 48 = .ok (.getfield 12, 3) := by decide +kernel
theorem dX8_store_51 : decode cX8_store 51 = .ok (.getfield 85, 3) := by decide +kernel
theorem dX8_store_54 : decode cX8_store 54 = .ok (.iload_n 1, 1) := by decide +kernel
theorem dX8_store_55 : decode cX8_store 55 = .ok (.iastore, 1) := by decide +kernel
theorem dX8_store_56 : decode cX8_store 56 = .ok (.goto 37, 3) := by decide +kernel
theorem dX8_store_59 : decode cX8_store 59 = .ok (.aload_n 0, 1) := by decide +kernel
theorem dX8_store_60 : decode cX8_store 60 = .ok (.aload_n 0, 1) := by decide +kernel
theorem dX8_store_61 : decode cX8_store 61 = .ok (.getfield 12, 3) := by decide +kernel
theorem dX8_store_64 : decode cX8_store 64 = .ok (.getfield 88, 3) := by decide +kernel
theorem dX8_store_67 : decode cX8_store 67 = .ok (.iload_n 1, 1) := by decide +kernel
theorem dX8_store_68 : decode cX8_store 68 = .ok (.invokevirtual 113, 3) := by decide +kernel
theorem dX8_store_71 : decode cX8_store 71 = .ok (.goto 22, 3) := by decide +kernel
theorem dX8_store_74 : decode cX8_store 74 = .ok (.aload_n 0, 1) := by decide +kernel
theorem dX8_store_75 : decode cX8_store 75 = .ok (.getfield 12, 3) := by decide +kernel
theorem dX8_store_78 : decode cX8_store 78 = .ok (.iload_n 1, 1) := by decide +kernel
theorem dX8_store_79 : decode cX8_store 79 = .ok (.putfield 117, 3) := by decide +kernel
theorem dX8_store_82 : decode cX8_store 82 = .ok (.goto 11, 3) := by decide +kernel
theorem dX8_store_85 : decode cX8_store 85 = .ok (.aload_n 0, 1) := by decide +kernel
theorem dX8_store_86 : decode cX8_store 86 = .ok (.getfield 12, 3) := by decide +kernel
theorem dX8_store_89 : decode cX8_store 89 = .ok (.iload_n 1, 1) := by decide +kernel
theorem dX8_store_90 : decode cX8_store 90 = .ok (.putfield 120, 3) := by decide +kernel
theorem dX8_store_93 : decode cX8_store 93 = .ok (.return_, 1) := by decide +kernel
theorem dX8_storeOfNote_0 : decode cX8_storeOfNote 0 = .ok (.aload_n 0, 1) := by decide +kernel
theorem dX8_storeOfNote_1 : decode cX8_storeOfNote 1 = .ok (.getfield 64, 3) := by decide +kernel
theorem dX8_storeOfNote_4 : decode cX8_storeOfNote 4 = .ok (.lookupswitch 54 #[(0, 28), (1, 41)], 28) := by decide +kernel
theorem dX8_storeOfNote_32 : decode cX8_storeOfNote 32 = .ok (.aload_n 0, 1) := by decide +kernel
theorem dX8_storeOfNote_33 : decode cX8_storeOfNote 33 = .ok (.getfield 12, 3) := by decide +kernel
theorem dX8_storeOfNote_36 : decode cX8_storeOfNote 36 = .ok (.getfield 123, 3) := by decide +kernel
theorem dX8_storeOfNote_39 : decode cX8_storeOfNote 39 = .ok (.iload_n 1, 1) := by decide +kernel
theorem dX8_storeOfNote_40 : decode cX8_storeOfNote 40 = .ok (.iload_n 2, 1) := by decide +kernel
theorem dX8_storeOfNote_41 : decode cX8_storeOfNote 41 = .ok (.iastore, 1) := by decide +kernel
theorem dX8_storeOfNote_42 : decode cX8_storeOfNote 42 = .ok (.goto 26, 3) := by decide +kernel
theorem dX8_storeOfNote_45 : decode cX8_storeOfNote 45 = .ok (.aload_n 0, 1) := by decide +kernel
theorem dX8_storeOfNote_46 : decode cX8_storeOfNote 46 = .ok (.getfield 12, 3) := by decide +kernel
theorem dX8_storeOfNote_49 : decode cX8_storeOfNote 49 = .ok (.getfield 126, 3) := by decide +kernel
theorem dX8_storeOfNote_52 : decode cX8_storeOfNote 52 = .ok (.iload_n 1, 1) := by decide +kernel
theorem dX8_storeOfNote_53 : decode cX8_storeOfNote 53 = .ok (.iload_n 2, 1) := by decide +kernel
theorem dX8_storeOfNote_54 : decode cX8_storeOfNote 54 = .ok (.iastore, 1) := by decide +kernel
theorem dX8_storeOfNote_55 : decode cX8_storeOfNote 55 = .ok (.goto 13, 3) := by decide +kernel
theorem dX8_storeOfNote_58 : decode cX8_storeOfNote 58 = .ok (.aload_n 0, 1) := by decide +kernel
theorem dX8_storeOfNote_59 : decode cX8_storeOfNote 59 = .ok (.getfield 12, 3) := by decide +kernel
theorem dX8_storeOfNote_62 : decode cX8_storeOfNote 62 = .ok (.getfield 129, 3) := by decide +kernel
theorem dX8_storeOfNote_65 : decode cX8_storeOfNote 65 = .ok (.iload_n 1, 1) := by decide +kernel
theorem dX8_storeOfNote_66 : decode cX8_storeOfNote 66 = .ok (.iload_n 2, 1) := by decide +kernel
theorem dX8_storeOfNote_67 : decode cX8_storeOfNote 67 = .ok (.iastore, 1) := by decide +kernel
theorem dX8_storeOfNote_68 : decode cX8_storeOfNote 68 = .ok (.return_, 1) := by decide +kernel
theorem dX8_endsItem_0 : decode cX8_endsItem 0 = .ok (.aload_n 0, 1) := by decide +kernel
theorem dX8_endsItem_1 : decode cX8_endsItem 1 = .ok (.getfield 38, 3) := by decide +kernel
theorem dX8_endsItem_4 : decode cX8_endsItem 4 = .ok (.lookupswitch 76 #[(98, 68), (110, 52), (112, 36)], 36) := by decide +kernel
theorem dX8_endsItem_40 : decode cX8_endsItem 40 = .ok (.aload_n 0, 1) := by decide +kernel
theorem dX8_endsItem_41 : decode cX8_endsItem 41 = .ok (.getfield 12, 3) := by decide +kernel
theorem dX8_endsItem_44 : decode cX8_endsItem 44 = .ok (.dup, 1) := by decide +kernel
theorem dX8_endsItem_45 : decode cX8_endsItem 45 = .ok (.getfield 85, 3) := by decide +kernel
theorem dX8_endsItem_48 : decode cX8_endsItem 48 = .ok (.iconst 1, 1) := by decide +kernel
theorem dX8_endsItem_49 : decode cX8_endsItem 49 = .ok (.iadd, 1) := by decide +kernel
theorem dX8_endsItem_50 : decode cX8_endsItem 50 = .ok (.putfield 85, 3) := by decide +kernel
theorem dX8_endsItem_53 : decode cX8_endsItem 53 = .ok (.goto 32, 3) := by decide +kernel
theorem dX8_endsItem_56 : decode cX8_endsItem 56 = .ok (.aload_n 0, 1) := by decide +kernel
theorem dX8_endsItem_57 : decode cX8_endsItem 57 = .ok (.getfield 12, 3) := by decide +kernel
theorem dX8_endsItem_60 : decode cX8_endsItem 60 = .ok (.dup, 1) := by decide +kernel
theorem dX8_endsItem_61 : decode cX8_endsItem 61 = .ok (.getfield 88, 3) := by decide +kernel
theorem dX8_endsItem_64 : decode cX8_endsItem 64 = .ok (.iconst 1, 1) := by decide +kernel
theorem dX8_endsItem_65 : decode cX8_endsItem 65 = .ok (.iadd, 1) := by decide +kernel
theorem dX8_endsItem_66 : decode cX8_endsItem 66 = .ok (.putfield 88, 3) := by decide +kernel
theorem dX8_endsItem_69 : decode cX8_endsItem 69 = .ok (.goto 16, 3) := by decide +kernel
theorem dX8_endsItem_72 : decode cX8_endsItem 72 = .ok (.aload_n 0, 1) := by decide +kernel
theorem dX8_endsItem_73 : decode cX8_endsItem 73 = .ok (.iconst 1, 1) := by decide +kernel
theorem dX8_endsItem_74 : decode cX8_endsItem 74 = .ok (.putfield 47, 3) := by decide +kernel
theorem dX8_endsItem_77 : decode cX8_endsItem 77 = .ok (.goto 8, 3) := by decide +kernel
theorem dX8_endsItem_80 : decode cX8_endsItem 80 = .ok (.aload_n 0, 1) := by decide +kernel
theorem dX8_endsItem_81 : decode cX8_endsItem 81 = .ok (.iconst 1, 1) := by decide +kernel
theorem dX8_endsItem_82 : decode cX8_endsItem 82 = .ok (.putfield 51, 3) := by decide +kernel
theorem dX8_endsItem_85 : decode cX8_endsItem 85 = .ok (.aload_n 0, 1) := by decide +kernel
theorem dX8_endsItem_86 : decode cX8_endsItem 86 = .ok (.iconst 0, 1) := by decide +kernel
theorem dX8_endsItem_87 : decode cX8_endsItem 87 = .ok (.putfield 38, 3) := by decide +kernel
theorem dX8_endsItem_90 : decode cX8_endsItem 90 = .ok (.aload_n 0, 1) := by decide +kernel
theorem dX8_endsItem_91 : decode cX8_endsItem 91 = .ok (.dup, 1) := by decide +kernel
theorem dX8_endsItem_92 : decode cX8_endsItem 92 = .ok (.getfield 41, 3) := by decide +kernel
theorem dX8_endsItem_95 : decode cX8_endsItem 95 = .ok (.iconst 1, 1) := by decide +kernel
theorem dX8_endsItem_96 : decode cX8_endsItem 96 = .ok (.iadd, 1) := by decide +kernel
theorem dX8_endsItem_97 : decode cX8_endsItem 97 = .ok (.putfield 41, 3) := by decide +kernel
theorem dX8_endsItem_100 : decode cX8_endsItem 100 = .ok (.iconst 1, 1) := by decide +kernel
theorem dX8_endsItem_101 : decode cX8_endsItem 101 = .ok (.ireturn, 1) := by decide +kernel
theorem dX9_init_0 : decode cX9_init 0 = .ok (.aload_n 0, 1) := by decide +kernel
theorem dX9_init_1 : decode cX9_init 1 = .ok (.invokespecial 3, 3) := by decide +kernel
theorem dX9_init_4 : decode cX9_init 4 = .ok (.aload_n 0, 1) := by decide +kernel
theorem dX9_init_5 : decode cX9_init 5 = .ok (.sipush 150, 3) := by decide +kernel
theorem dX9_init_8 : decode cX9_init 8 = .ok (.newarray .int, 2) := by decide +kernel
theorem dX9_init_10 : decode cX9_init 10 = .ok (.putfield 9, 3) := by decide +kernel
theorem dX9_init_13 : decode cX9_init 13 = .ok (.return_, 1) := by decide +kernel
theorem dX9_add_0 : decode cX9_add 0 = .ok (.aload_n 0, 1) := by decide +kernel
theorem dX9_add_1 : decode cX9_add 1 = .ok (.getfield 15, 3) := by decide +kernel
theorem dX9_add_4 : decode cX9_add 4 = .ok (.sipush 150, 3) := by decide +kernel
theorem dX9_add_7 : decode cX9_add 7 = .ok (.if_icmp .lt 6, 3) := by decide +kernel
theorem dX9_add_10 : decode cX9_add 10 = .ok (.bipush (-3), 2) := by decide +kernel
theorem dX9_add_12 : decode cX9_add 12 = .ok (.ireturn, 1) := by decide +kernel
theorem dX9_add_13 : decode cX9_add 13 = .ok (.aload_n 0, 1) := by decide +kernel
theorem dX9_add_14 : decode cX9_add 14 = .ok (.getfield 9, 3) := by decide +kernel
theorem dX9_add_17 : decode cX9_add 17 = .ok (.aload_n 0, 1) := by decide +kernel
theorem dX9_add_18 : decode cX9_add 18 = .ok (.getfield 15, 3) := by decide +kernel
theorem dX9_add_21 : decode cX9_add 21 = .ok (.iload_n 1, 1) := by decide +kernel
theorem dX9_add_22 : decode cX9_add 22 = .ok (.iastore, 1) := by decide +kernel
theorem dX9_add_23 : decode cX9_add 23 = .ok (.aload_n 0, 1) := by decide +kernel
theorem dX9_add_24 : decode cX9_add 24 = .ok (.dup, 1) := by decide +kernel
theorem dX9_add_25 : decode cX9_add 25 = .ok (.getfield 15, 3) := by decide +kernel
theorem dX9_add_28 : decode cX9_add 28 = .ok (.iconst 1, 1) := by decide +kernel
theorem dX9_add_29 : decode cX9_add 29 = .ok (.iadd, 1) := by decide +kernel
theorem dX9_add_30 : decode cX9_add 30 = .ok (.putfield 15, 3) := by decide +kernel
theorem dX9_add_33 : decode cX9_add 33 = .ok (.aload_n 0, 1) := by decide +kernel
theorem dX9_add_34 : decode cX9_add 34 = .ok (.getfield 15, 3) := by decide +kernel
theorem dX9_add_37 : decode cX9_add 37 = .ok (.ireturn, 1) := by decide +kernel
theorem dX9_empty_0 : decode cX9_empty 0 = .ok (.aload_n 0, 1) := by decide +kernel
theorem dX9_empty_1 : decode cX9_empty 1 = .ok (.getfield 15, 3) := by decide +kernel
theorem dX9_empty_4 : decode cX9_empty 4 = .ok (.istore_n 1, 1) := by decide +kernel
theorem dX9_empty_5 : decode cX9_empty 5 = .ok (.aload_n 0, 1) := by decide +kernel
theorem dX9_empty_6 : decode cX9_empty 6 = .ok (.iconst 0, 1) := by decide +kernel
theorem dX9_empty_7 : decode cX9_empty 7 = .ok (.putfield 15, 3) := by decide +kernel
theorem dX9_empty_10 : decode cX9_empty 10 = .ok (.iload_n 1, 1) := by decide +kernel
theorem dX9_empty_11 : decode cX9_empty 11 = .ok (.ireturn, 1) := by decide +kernel
theorem dX9_hasDigit_0 : decode cX9_hasDigit 0 = .ok (.iload_n 1, 1) := by decide +kernel
theorem dX9_hasDigit_1 : decode cX9_hasDigit 1 = .ok (.ifCond .lt 37, 3) := by decide +kernel
theorem dX9_hasDigit_4 : decode cX9_hasDigit 4 = .ok (.iload_n 1, 1) := by decide +kernel
theorem dX9_hasDigit_5 : decode cX9_hasDigit 5 = .ok (.aload_n 0, 1) := by decide +kernel
theorem dX9_hasDigit_6 : decode cX9_hasDigit 6 = .ok (.getfield 15, 3) := by decide +kernel
theorem dX9_hasDigit_9 : decode cX9_hasDigit 9 = .ok (.if_icmp .ge 29, 3) := by decide +kernel
theorem dX9_hasDigit_12 : decode cX9_hasDigit 12 = .ok (.aload_n 0, 1) := by decide +kernel
theorem dX9_hasDigit_13 : decode cX9_hasDigit 13 = .ok (.getfield 9, 3) := by decide +kernel
theorem dX9_hasDigit_16 : decode cX9_hasDigit 16 = .ok (.iload_n 1, 1) := by decide +kernel
theorem dX9_hasDigit_17 : decode cX9_hasDigit 17 = .ok (.iaload, 1) := by decide +kernel
theorem dX9_hasDigit_18 : decode cX9_hasDigit 18 = .ok (.bipush 48, 2) := by decide +kernel
theorem dX9_hasDigit_20 : decode cX9_hasDigit 20 = .ok (.if_icmp .lt 18, 3) := by decide +kernel
theorem dX9_hasDigit_23 : decode cX9_hasDigit 23 = .ok (.aload_n 0, 1) := by decide +kernel
theorem dX9_hasDigit_24 : decode cX9_hasDigit 24 = .ok (.getfield 9, 3) := by decide +kernel
theorem dX9_hasDigit_27 : decode cX9_hasDigit 27 = .ok (.iload_n 1, 1) := by decide +kernel
theorem dX9_hasDigit_28 : decode cX9_hasDigit 28 = .ok (.iaload, 1) := by decide +kernel
theorem dX9_hasDigit_29 : decode cX9_hasDigit 29 = .ok (.bipush 57, 2) := by decide +kernel
theorem dX9_hasDigit_31 : decode cX9_hasDigit 31 = .ok (.if_icmp .gt 7, 3) := by decide +kernel
theorem dX9_hasDigit_34 : decode cX9_hasDigit 34 = .ok (.iconst 1, 1) := by decide +kernel
theorem dX9_hasDigit_35 : decode cX9_hasDigit 35 = .ok (.goto 4, 3) := by decide +kernel
theorem dX9_hasDigit_38 : decode cX9_hasDigit 38 = .ok (.iconst 0, 1) := by decide +kernel
theorem dX9_hasDigit_39 : decode cX9_hasDigit 39 = .ok (.ireturn, 1) := by decide +kernel
theorem dX10_init_0 : decode cX10_init 0 = .ok (.aload_n 0, 1) := by decide +kernel
theorem dX10_init_1 : decode cX10_init 1 = .ok (.invokespecial 1, 3) := by decide +kernel
theorem dX10_init_4 : decode cX10_init 4 = .ok (.aload_n 0, 1) := by decide +kernel
theorem dX10_init_5 : decode cX10_init 5 = .ok (.new 7, 3) := by decide +kernel
theorem dX10_init_8 : decode cX10_init 8 = .ok (.dup, 1) := by decide +kernel
theorem dX10_init_9 : decode cX10_init 9 = .ok (.invokespecial 9, 3) := by decide +kernel
theorem dX10_init_12 : decode cX10_init 12 = .ok (.putfield 10, 3) := by decide +kernel
theorem dX10_init_15 : decode cX10_init 15 = .ok (.aload_n 0, 1) := by decide +kernel
theorem dX10_init_16 : decode cX10_init 16 = .ok (.new 16, 3) := by decide +kernel
theorem dX10_init_19 : decode cX10_init 19 = .ok (.dup, 1) := by decide +kernel
theorem dX10_init_20 : decode cX10_init 20 = .ok (.aload_n 0, 1) := by decide +kernel
theorem dX10_init_21 : decode cX10_init 21 = .ok (.getfield 10, 3) := by decide +kernel
theorem dX10_init_24 : decode cX10_init 24 = .ok (.invokespecial 18, 3) := by decide +kernel
theorem dX10_init_27 : decode cX10_init 27 = .ok (.putfield 21, 3) := by decide +kernel
theorem dX10_init_30 : decode cX10_init 30 = .ok (.aload_n 0, 1) := by decide +kernel
theorem dX10_init_31 : decode cX10_init 31 = .ok (.new 25, 3) := by decide +kernel
theorem dX10_init_34 : decode cX10_init 34 = .ok (.dup, 1) := by decide +kernel
theorem dX10_init_35 : decode cX10_init 35 = .ok (.invokespecial 27, 3) := by decide +kernel
theorem dX10_init_38 : decode cX10_init 38 = .ok (.putfield 28, 3) := by decide +kernel
theorem dX10_init_41 : decode cX10_init 41 = .ok (.aload_n 0, 1) := by decide +kernel
theorem dX10_init_42 : decode cX10_init 42 = .ok (.new 32, 3) := by decide +kernel
theorem dX10_init_45 : decode cX10_init 45 = .ok (.dup, 1) := by decide +kernel
theorem dX10_init_46 : decode cX10_init 46 = .ok (.invokespecial 34, 3) := by decide +kernel
theorem dX10_init_49 : decode cX10_init 49 = .ok (.putfield 35, 3) := by decide +kernel
theorem dX10_init_52 : decode cX10_init 52 = .ok (.aload_n 0, 1) := by decide +kernel
theorem dX10_init_53 : decode cX10_init 53 = .ok (.new 39, 3) := by decide +kernel
theorem dX10_init_56 : decode cX10_init 56 = .ok (.dup, 1) := by decide +kernel
theorem dX10_init_57 : decode cX10_init 57 = .ok (.invokespecial 41, 3) := by decide +kernel
theorem dX10_init_60 : decode cX10_init 60 = .ok (.putfield 42, 3) := by decide +kernel
theorem dX10_init_63 : decode cX10_init 63 = .ok (.aload_n 0, 1) := by decide +kernel
theorem dX10_init_64 : decode cX10_init 64 = .ok (.new 46, 3) := by decide +kernel
theorem dX10_init_67 : decode cX10_init 67 = .ok (.dup, 1) := by decide +kernel
theorem dX10_init_68 : decode cX10_init 68 = .ok (.invokespecial 48, 3) := by decide +kernel
theorem dX10_init_71 : decode cX10_init 71 = .ok (.putfield 49, 3) := by decide +kernel
theorem dX10_init_74 : decode cX10_init 74 = .ok (.aload_n 0, 1) := by decide +kernel
theorem dX10_init_75 : decode cX10_init 75 = .ok (.new 53, 3) := by decide +kernel
theorem dX10_init_78 : decode cX10_init 78 = .ok (.dup, 1) := by decide +kernel
theorem dX10_init_79 : decode cX10_init 79 = .ok (.aload_n 0, 1) := by decide +kernel
theorem dX10_init_80 : decode cX10_init 80 = .ok (.getfield 28, 3) := by decide +kernel
theorem dX10_init_83 : decode cX10_init 83 = .ok (.aload_n 0, 1) := by decide +kernel
theorem dX10_init_84 : decode cX10_init 84 = .ok (.getfield 35, 3) := by decide +kernel
theorem dX10_init_87 : decode cX10_init 87 = .ok (.invokespecial 55, 3) := by decide +kernel
theorem dX10_init_90 : decode cX10_init 90 = .ok (.putfield 58, 3) := by decide +kernel
theorem dX10_init_93 : decode cX10_init 93 = .ok (.aload_n 0, 1) := by decide +kernel
theorem dX10_init_94 : decode cX10_init 94 = .ok (.new 62, 3) := by decide +kernel
theorem dX10_init_97 : decode cX10_init 97 = .ok (.dup, 1) := by decide +kernel
theorem dX10_init_98 : decode cX10_init 98 = .ok (.aload_n 0, 1) := by decide +kernel
theorem dX10_init_99 : decode cX10_init 99 = .ok (.getfield 28, 3) := by decide +kernel
theorem dX10_init_102 : decode cX10_init 102 = .ok (.aload_n 0, 1) := by decide +kernel
theorem dX10_init_103 : decode cX10_init 103 = .ok (.getfield 35, 3) := by decide +kernel
theorem dX10_init_106 : decode cX10_init 106 = .ok (.invokespecial 64, 3) := by decide +kernel
theorem dX10_init_109 : decode cX10_init 109 = .ok (.putfield 65, 3) := by decide +kernel
theorem dX10_init_112 : decode cX10_init 112 = .ok (.aload_n 0, 1) := by decide +kernel
theorem dX10_init_113 : decode cX10_init 113 = .ok (.new 69, 3) := by decide +kernel
theorem dX10_init_116 : decode cX10_init 116 = .ok (.dup, 1) := by decide +kernel
theorem dX10_init_117 : decode cX10_init 117 = .ok (.aload_n 0, 1) := by decide +kernel
theorem dX10_init_118 : decode cX10_init 118 = .ok (.getfield 28, 3) := by decide +kernel
theorem dX10_init_121 : decode cX10_init 121 = .ok (.aload_n 0, 1) := by decide +kernel
theorem dX10_init_122 : decode cX10_init 122 = .ok (.getfield 35, 3) := by decide +kernel
theorem dX10_init_125 : decode cX10_init 125 = .ok (.invokespecial 71, 3) := by decide +kernel
theorem dX10_init_128 : decode cX10_init 128 = .ok (.putfield 72, 3) := by decide +kernel
theorem dX10_init_131 : decode cX10_init 131 = .ok (.aload_n 0, 1) := by decide +kernel
theorem dX10_init_132 : decode cX10_init 132 = .ok (.new 76, 3) := by decide +kernel
theorem dX10_init_135 : decode cX10_init 135 = .ok (.dup, 1) := by decide +kernel
theorem dX10_init_136 : decode cX10_init 136 = .ok (.aload_n 0, 1) := by decide +kernel
theorem dX10_init_137 : decode cX10_init 137 = .ok (.getfield 28, 3) := by decide +kernel
theorem dX10_init_140 : decode cX10_init 140 = .ok (.aload_n 0, 1) := by decide +kernel
theorem dX10_init_141 : decode cX10_init 141 = .ok (.getfield 35, 3) := by decide +kernel
theorem dX10_init_144 : decode cX10_init 144 = .ok (.invokespecial 78, 3) := by decide +kernel
theorem dX10_init_147 : decode cX10_init 147 = .ok (.putfield 79, 3) := by decide +kernel
theorem dX10_init_150 : decode cX10_init 150 = .ok (.return_, 1) := by decide +kernel
theorem dX10_type_0 : decode cX10_type 0 = .ok (.iload_n 1, 1) := by decide +kernel
theorem dX10_type_1 : decode cX10_type 1 = .ok (.ifCond .lt 10, 3) := by decide +kernel
theorem dX10_type_4 : decode cX10_type 4 = .ok (.iload_n 1, 1) := by decide +kernel
theorem dX10_type_5 : decode cX10_type 5 = .ok (.sipush 255, 3) := by decide +kernel
theorem dX10_type_8 : decode cX10_type 8 = .ok (.if_icmp .le 5, 3) := by decide +kernel
theorem dX10_type_11 : decode cX10_type 11 = .ok (.iconst (-1), 1) := by decide +kernel
theorem dX10_type_12 : decode cX10_type 12 = .ok (.ireturn, 1) := by decide +kernel
theorem dX10_type_13 : decode cX10_type 13 = .ok (.aload_n 0, 1) := by decide +kernel
theorem dX10_type_14 : decode cX10_type 14 = .ok (.getfield 10, 3) := by decide +kernel
theorem dX10_type_17 : decode cX10_type 17 = .ok (.iload_n 1, 1) := by decide +kernel
theorem dX10_type_18 : decode cX10_type 18 = .ok (.invokevirtual 83, 3) := by decide +kernel
theorem dX10_type_21 : decode cX10_type 21 = .ok (.ireturn, 1) := by decide +kernel
theorem dX10_clear_0 : decode cX10_clear 0 = .ok (.aload_n 0, 1) := by decide +kernel
theorem dX10_clear_1 : decode cX10_clear 1 = .ok (.getfield 10, 3) := by decide +kernel
theorem dX10_clear_4 : decode cX10_clear 4 = .ok (.invokevirtual 87, 3) := by decide +kernel
theorem dX10_clear_7 : decode cX10_clear 7 = .ok (.ireturn, 1) := by decide +kernel
theorem dX10_country_0 : decode cX10_country 0 = .ok (.aload_n 0, 1) := by decide +kernel
theorem dX10_country_1 : decode cX10_country 1 = .ok (.getfield 21, 3) := by decide +kernel
theorem dX10_country_4 : decode cX10_country 4 = .ok (.invokevirtual 91, 3) := by decide +kernel
theorem dX10_country_7 : decode cX10_country 7 = .ok (.istore_n 1, 1) := by decide +kernel
theorem dX10_country_8 : decode cX10_country 8 = .ok (.iload_n 1, 1) := by decide +kernel
theorem dX10_country_9 : decode cX10_country 9 = .ok (.ifCond .ge 5, 3) := by decide +kernel
theorem dX10_country_12 : decode cX10_country 12 = .ok (.iload_n 1, 1) := by decide +kernel
theorem dX10_country_13 : decode cX10_country 13 = .ok (.ireturn, 1) := by decide +kernel
theorem dX10_country_14 : decode cX10_country 14 = .ok (.aload_n 0, 1) := by decide +kernel
theorem dX10_country_15 : decode cX10_country 15 = .ok (.getfield 28, 3) := by decide +kernel
theorem dX10_country_18 : decode cX10_country 18 = .ok (.aload_n 0, 1) := by decide +kernel
theorem dX10_country_19 : decode cX10_country 19 = .ok (.getfield 21, 3) := by decide +kernel
theorem dX10_country_22 : decode cX10_country 22 = .ok (.getfield 94, 3) := by decide +kernel
theorem dX10_country_25 : decode cX10_country 25 = .ok (.invokevirtual 97, 3) := by decide +kernel
theorem dX10_country_28 : decode cX10_country 28 = .ok (.aload_n 0, 1) := by decide +kernel
theorem dX10_country_29 : decode cX10_country 29 = .ok (.getfield 35, 3) := by decide +kernel
theorem dX10_country_32 : decode cX10_country 32 = .ok (.aload_n 0, 1) := by decide +kernel
theorem dX10_country_33 : decode cX10_country 33 = .ok (.getfield 28, 3) := by decide +kernel
theorem dX10_country_36 : decode cX10_country 36 = .ok (.invokevirtual 101, 3) := by decide +kernel
theorem dX10_country_39 : decode cX10_country 39 = .ok (.aload_n 0, 1) := by decide +kernel
theorem dX10_country_40 : decode cX10_country 40 = .ok (.getfield 42, 3) := by decide +kernel
theorem dX10_country_43 : decode cX10_country 43 = .ok (.invokevirtual 104, 3) := by decide +kernel
theorem dX10_country_46 : decode cX10_country 46 = .ok (.aload_n 0, 1) := by decide +kernel
theorem dX10_country_47 : decode cX10_country 47 = .ok (.getfield 49, 3) := by decide +kernel
theorem dX10_country_50 : decode cX10_country 50 = .ok (.invokevirtual 106, 3) := by decide +kernel
theorem dX10_country_53 : decode cX10_country 53 = .ok (.aload_n 0, 1) := by decide +kernel
theorem dX10_country_54 : decode cX10_country 54 = .ok (.getfield 65, 3) := by decide +kernel
theorem dX10_country_57 : decode cX10_country 57 = .ok (.invokevirtual 107, 3) := by decide +kernel
theorem dX10_country_60 : decode cX10_country 60 = .ok (.aload_n 0, 1) := by decide +kernel
theorem dX10_country_61 : decode cX10_country 61 = .ok (.getfield 72, 3) := by decide +kernel
theorem dX10_country_64 : decode cX10_country 64 = .ok (.invokevirtual 108, 3) := by decide +kernel
theorem dX10_country_67 : decode cX10_country 67 = .ok (.aload_n 0, 1) := by decide +kernel
theorem dX10_country_68 : decode cX10_country 68 = .ok (.getfield 10, 3) := by decide +kernel
theorem dX10_country_71 : decode cX10_country 71 = .ok (.invokevirtual 87, 3) := by decide +kernel
theorem dX10_country_74 : decode cX10_country 74 = .ok (.pop, 1) := by decide +kernel
theorem dX10_country_75 : decode cX10_country 75 = .ok (.iload_n 1, 1) := by decide +kernel
theorem dX10_country_76 : decode cX10_country 76 = .ok (.ireturn, 1) := by decide +kernel
theorem dX10_note_0 : decode cX10_note 0 = .ok (.aload_n 0, 1) := by decide +kernel
theorem dX10_note_1 : decode cX10_note 1 = .ok (.getfield 28, 3) := by decide +kernel
theorem dX10_note_4 : decode cX10_note 4 = .ok (.iload_n 1, 1) := by decide +kernel
theorem dX10_note_5 : decode cX10_note 5 = .ok (.invokevirtual 109, 3) := by decide +kernel
theorem dX10_note_8 : decode cX10_note 8 = .ok (.ifCond .ne 5, 3) := by decide +kernel
theorem dX10_note_11 : decode cX10_note 11 = .ok (.iconst (-1), 1) := by decide +kernel
theorem dX10_note_12 : decode cX10_note 12 = .ok (.ireturn, 1) := by decide +kernel
theorem dX10_note_13 : decode cX10_note 13 = .ok (.iload_n 2, 1) := by decide +kernel
theorem dX10_note_14 : decode cX10_note 14 = .ok (.tableswitch 123 0 6 #[42, 52, 62, 71, 80, 97, 114], 42) := by decide +kernel
theorem dX10_note_56 : decode cX10_note 56 = .ok (.aload_n 0, 1) := by decide +kernel
theorem dX10_note_57 : decode cX10_note 57 = .ok (.getfield 28, 3) := by decide +kernel
theorem dX10_note_60 : decode cX10_note 60 = .ok (.getfield 113, 3) := by decide +kernel
theorem dX10_note_63 : decode cX10_note 63 = .ok (.iload_n 1, 1) := by decide +kernel
theorem dX10_note_64 : decode cX10_note 64 = .ok (.iaload, 1) := by decide +kernel
theorem dX10_note_65 : decode cX10_note 65 = .ok (.ireturn, 1) := by decide +kernel
theorem dX10_note_66 : decode cX10_note 66 = .ok (.aload_n 0, 1) := by decide +kernel
theorem dX10_note_67 : decode cX10_note 67 = .ok (.getfield 28, 3) := by decide +kernel
theorem dX10_note_70 : decode cX10_note 70 = .ok (.getfield 117, 3) := by decide +kernel
theorem dX10_note_73 : decode cX10_note 73 = .ok (.iload_n 1, 1) := by decide +kernel
theorem dX10_note_74 : decode cX10_note 74 = .ok (.iaload, 1) := by decide +kernel
theorem dX10_note_75 : decode cX10_note 75 = .ok (.ireturn, 1) := by decide +kernel
theorem dX10_note_76 : decode cX10_note 76 = .ok (.aload_n 0, 1) := by decide +kernel
theorem dX10_note_77 : decode cX10_note 77 = .ok (.getfield 35, 3) := by decide +kernel
theorem dX10_note_80 : decode cX10_note 80 = .ok (.iload_n 1, 1) := by decide +kernel
theorem dX10_note_81 : decode cX10_note 81 = .ok (.invokevirtual 119, 3) := by decide +kernel
theorem dX10_note_84 : decode cX10_note 84 = .ok (.ireturn, 1) := by decide +kernel
theorem dX10_note_85 : decode cX10_note 85 = .ok (.aload_n 0, 1) := by decide +kernel
theorem dX10_note_86 : decode cX10_note 86 = .ok (.getfield 35, 3) := by decide +kernel
theorem dX10_note_89 : decode cX10_note 89 = .ok (.iload_n 1, 1) := by decide +kernel
theorem dX10_note_90 : decode cX10_note 90 = .ok (.invokevirtual 122, 3) := by decide +kernel
theorem dX10_note_93 : decode cX10_note 93 = .ok (.ireturn, 1) := by decide +kernel
theorem dX10_note_94 : decode cX10_note 94 = .ok (.aload_n 0, 1) := by decide +kernel
theorem dX10_note_95 : decode cX10_note 95 = .ok (.getfield 35, 3) := by decide +kernel
theorem dX10_note_98 : decode cX10_note 98 = .ok (.iload_n 1, 1) := by decide +kernel
theorem dX10_note_99 : decode cX10_note 99 = .ok (.invokevirtual 125, 3) := by decide +kernel
theorem dX10_note_102 : decode cX10_note 102 = .ok (.ifCond .eq 7, 3) := by decide +kernel
theorem dX10_note_105 : decode cX10_note 105 = .ok (.iconst 1, 1) := by decide +kernel
theorem dX10_note_106 : decode cX10_note 106 = .ok (.goto 4, 3) := by decide +kernel
theorem dX10_note_109 : decode cX10_note 109 = .ok (.iconst 0, 1) := by decide +kernel
theorem dX10_note_110 : decode cX10_note 110 = .ok (.ireturn, 1) := by decide +kernel
theorem dX10_note_111 : decode cX10_note 111 = .ok (.aload_n 0, 1) := by decide +kernel
theorem dX10_note_112 : decode cX10_note 112 = .ok (.getfield 35, 3) := by decide +kernel
theorem dX10_note_115 : decode cX10_note 115 = .ok (.iload_n 1, 1) := by decide +kernel
theorem dX10_note_116 : decode cX10_note 116 = .ok (.invokevirtual 128, 3) := by decide +kernel
theorem dX10_note_119 : decode cX10_note 119 = .ok (.ifCond .eq 7, 3) := by decide +kernel
theorem dX10_note_122 : decode cX10_note 122 = .ok (.iconst 1, 1) := by decide +kernel
theorem dX10_note_123 : decode cX10_note 123 = .ok (.goto 4, 3) := by decide +kernel
theorem dX10_note_126 : decode cX10_note 126 = .ok (.iconst 0, 1) := by decide +kernel
theorem dX10_note_127 : decode cX10_note 127 = .ok (.ireturn, 1) := by decide +kernel
theorem dX10_note_128 : decode cX10_note 128 = .ok (.aload_n 0, 1) := by decide +kernel
theorem dX10_note_129 : decode cX10_note 129 = .ok (.getfield 58, 3) := by decide +kernel
theorem dX10_note_132 : decode cX10_note 132 = .ok (.iload_n 1, 1) := by decide +kernel
theorem dX10_note_133 : decode cX10_note 133 = .ok (.invokevirtual 131, 3) := by decide +kernel
theorem dX10_note_136 : decode cX10_note 136 = .ok (.ireturn, 1) := by decide +kernel
theorem dX10_note_137 : decode cX10_note 137 = .ok (.iconst (-1), 1) := by decide +kernel
theorem dX10_note_138 : decode cX10_note 138 = .ok (.ireturn, 1) := by decide +kernel
theorem dX10_person_0 : decode cX10_person 0 = .ok (.aload_n 0, 1) := by decide +kernel
theorem dX10_person_1 : decode cX10_person 1 = .ok (.getfield 28, 3) := by decide +kernel
theorem dX10_person_4 : decode cX10_person 4 = .ok (.iload_n 1, 1) := by decide +kernel
theorem dX10_person_5 : decode cX10_person 5 = .ok (.invokevirtual 134, 3) := by decide +kernel
theorem dX10_person_8 : decode cX10_person 8 = .ok (.ifCond .ne 5, 3) := by decide +kernel
theorem dX10_person_11 : decode cX10_person 11 = .ok (.iconst (-1), 1) := by decide +kernel
theorem dX10_person_12 : decode cX10_person 12 = .ok (.ireturn, 1) := by decide +kernel
theorem dX10_person_13 : decode cX10_person 13 = .ok (.iload_n 2, 1) := by decide +kernel
theorem dX10_person_14 : decode cX10_person 14 = .ok (.lookupswitch 41 #[(0, 26), (1, 35)], 26) := by decide +kernel
theorem dX10_person_40 : decode cX10_person 40 = .ok (.aload_n 0, 1) := by decide +kernel
theorem dX10_person_41 : decode cX10_person 41 = .ok (.getfield 35, 3) := by decide +kernel
theorem dX10_person_44 : decode cX10_person 44 = .ok (.iload_n 1, 1) := by decide +kernel
theorem dX10_person_45 : decode cX10_person 45 = .ok (.invokevirtual 137, 3) := by decide +kernel
theorem dX10_person_48 : decode cX10_person 48 = .ok (.ireturn, 1) := by decide +kernel
theorem dX10_person_49 : decode cX10_person 49 = .ok (.aload_n 0, 1) := by decide +kernel
theorem dX10_person_50 : decode cX10_person 50 = .ok (.iload_n 1, 1) := by decide +kernel
theorem dX10_person_51 : decode cX10_person 51 = .ok (.invokevirtual 140, 3) := by decide +kernel
theorem dX10_person_54 : decode cX10_person 54 = .ok (.ireturn, 1) := by decide +kernel
theorem dX10_person_55 : decode cX10_person 55 = .ok (.iconst (-1), 1) := by decide +kernel
theorem dX10_person_56 : decode cX10_person 56 = .ok (.ireturn, 1) := by decide +kernel
theorem dX10_now_0 : decode cX10_now 0 = .ok (.iload_n 1, 1) := by decide +kernel
theorem dX10_now_1 : decode cX10_now 1 = .ok (.tableswitch 87 0 5 #[39, 47, 55, 63, 71, 79], 39) := by decide +kernel
theorem dX10_now_40 : decode cX10_now 40 = .ok (.aload_n 0, 1) := by decide +kernel
theorem dX10_now_41 : decode cX10_now 41 = .ok (.getfield 35, 3) := by decide +kernel
theorem dX10_now_44 : decode cX10_now 44 = .ok (.invokevirtual 143, 3) := by decide +kernel
theorem dX10_now_47 : decode cX10_now 47 = .ok (.ireturn, 1) := by decide +kernel
theorem dX10_now_48 : decode cX10_now 48 = .ok (.aload_n 0, 1) := by decide +kernel
theorem dX10_now_49 : decode cX10_now 49 = .ok (.getfield 35, 3) := by decide +kernel
theorem dX10_now_52 : decode cX10_now 52 = .ok (.invokevirtual 146, 3) := by decide +kernel
theorem dX10_now_55 : decode cX10_now 55 = .ok (.ireturn, 1) := by decide +kernel
theorem dX10_now_56 : decode cX10_now 56 = .ok (.aload_n 0, 1) := by decide +kernel
theorem dX10_now_57 : decode cX10_now 57 = .ok (.getfield 35, 3) := by decide +kernel
theorem dX10_now_60 : decode cX10_now 60 = .ok (.invokevirtual 149, 3) := by decide +kernel
theorem dX10_now_63 : decode cX10_now 63 = .ok (.ireturn, 1) := by decide +kernel
theorem dX10_now_64 : decode cX10_now 64 = .ok (.aload_n 0, 1) := by decide +kernel
theorem dX10_now_65 : decode cX10_now 65 = .ok (.getfield 72, 3) := by decide +kernel
theorem dX10_now_68 : decode cX10_now 68 = .ok (.invokevirtual 152, 3) := by decide +kernel
theorem dX10_now_71 : decode cX10_now 71 = .ok (.ireturn, 1) := by decide +kernel
theorem dX10_now_72 : decode cX10_now 72 = .ok (.aload_n 0, 1) := by decide +kernel
theorem dX10_now_73 : decode cX10_now 73 = .ok (.getfield 72, 3) := by decide +kernel
theorem dX10_now_76 : decode cX10_now 76 = .ok (.invokevirtual 155, 3) := by decide +kernel
theorem dX10_now_79 : decode cX10_now 79 = .ok (.ireturn, 1) := by decide +kernel
theorem dX10_now_80 : decode cX10_now 80 = .ok (.aload_n 0, 1) := by decide +kernel
theorem dX10_now_81 : decode cX10_now 81 = .ok (.getfield 42, 3) := by decide +kernel
theorem dX10_now_84 : decode cX10_now 84 = .ok (.getfield 158, 3) := by decide +kernel
theorem dX10_now_87 : decode cX10_now 87 = .ok (.ireturn, 1) := by decide +kernel
theorem dX10_now_88 : decode cX10_now 88 = .ok (.iconst (-1), 1) := by decide +kernel
theorem dX10_now_89 : decode cX10_now 89 = .ok (.ireturn, 1) := by decide +kernel
theorem dX10_passes_0 : decode cX10_passes 0 = .ok (.aload_n 0, 1) := by decide +kernel
theorem dX10_passes_1 : decode cX10_passes 1 = .ok (.getfield 28, 3) := by decide +kernel
theorem dX10_passes_4 : decode cX10_passes 4 = .ok (.iload_n 1, 1) := by decide +kernel
theorem dX10_passes_5 : decode cX10_passes 5 = .ok (.invokevirtual 109, 3) := by decide +kernel
theorem dX10_passes_8 : decode cX10_passes 8 = .ok (.ifCond .eq 14, 3) := by decide +kernel
theorem dX10_passes_11 : decode cX10_passes 11 = .ok (.aload_n 0, 1) := by decide +kernel
theorem dX10_passes_12 : decode cX10_passes 12 = .ok (.getfield 28, 3) := by decide +kernel
theorem dX10_passes_15 : decode cX10_passes 15 = .ok (.iload_n 2, 1) := by decide +kernel
theorem dX10_passes_16 : decode cX10_passes 16 = .ok (.invokevirtual 134, 3) := by decide +kernel
theorem dX10_passes_19 : decode cX10_passes 19 = .ok (.ifCond .ne 5, 3) := by decide +kernel
theorem dX10_passes_22 : decode cX10_passes 22 = .ok (.iconst (-1), 1) := by decide +kernel
theorem dX10_passes_23 : decode cX10_passes 23 = .ok (.ireturn, 1) := by decide +kernel
theorem dX10_passes_24 : decode cX10_passes 24 = .ok (.aload_n 0, 1) := by decide +kernel
theorem dX10_passes_25 : decode cX10_passes 25 = .ok (.getfield 35, 3) := by decide +kernel
theorem dX10_passes_28 : decode cX10_passes 28 = .ok (.iload_n 1, 1) := by decide +kernel
theorem dX10_passes_29 : decode cX10_passes 29 = .ok (.invokevirtual 128, 3) := by decide +kernel
theorem dX10_passes_32 : decode cX10_passes 32 = .ok (.ifCond .ne 15, 3) := by decide +kernel
theorem dX10_passes_35 : decode cX10_passes 35 = .ok (.aload_n 0, 1) := by decide +kernel
theorem dX10_passes_36 : decode cX10_passes 36 = .ok (.getfield 35, 3) := by decide +kernel
theorem dX10_passes_39 : decode cX10_passes 39 = .ok (.iload_n 1, 1) := by decide +kernel
theorem dX10_passes_40 : decode cX10_passes 40 = .ok (.invokevirtual 119, 3) := by decide +kernel
theorem dX10_passes_43 : decode cX10_passes 43 = .ok (.iload_n 2, 1) := by decide +kernel
theorem dX10_passes_44 : decode cX10_passes 44 = .ok (.if_icmp .ne 6, 3) := by decide +kernel
theorem dX10_passes_47 : decode cX10_passes 47 = .ok (.bipush (-2), 2) := by decide +kernel
theorem dX10_passes_49 : decode cX10_passes 49 = .ok (.ireturn, 1) := by decide +kernel
theorem dX10_passes_50 : decode cX10_passes 50 = .ok (.aload_n 0, 1) := by decide +kernel
theorem dX10_passes_51 : decode cX10_passes 51 = .ok (.getfield 35, 3) := by decide +kernel
theorem dX10_passes_54 : decode cX10_passes 54 = .ok (.iload_n 1, 1) := by decide +kernel
theorem dX10_passes_55 : decode cX10_passes 55 = .ok (.invokevirtual 122, 3) := by decide +kernel
theorem dX10_passes_58 : decode cX10_passes 58 = .ok (.sipush 999, 3) := by decide +kernel
theorem dX10_passes_61 : decode cX10_passes 61 = .ok (.if_icmp .ge 16, 3) := by decide +kernel
theorem dX10_passes_64 : decode cX10_passes 64 = .ok (.aload_n 0, 1) := by decide +kernel
theorem dX10_passes_65 : decode cX10_passes 65 = .ok (.getfield 35, 3) := by decide +kernel
theorem dX10_passes_68 : decode cX10_passes 68 = .ok (.invokevirtual 149, 3) := by decide +kernel
theorem dX10_passes_71 : decode cX10_passes 71 = .ok (.sipush 999, 3) := by decide +kernel
theorem dX10_passes_74 : decode cX10_passes 74 = .ok (.if_icmp .lt 6, 3) := by decide +kernel
theorem dX10_passes_77 : decode cX10_passes 77 = .ok (.bipush (-2), 2) := by decide +kernel
theorem dX10_passes_79 : decode cX10_passes 79 = .ok (.ireturn, 1) := by decide +kernel
theorem dX10_passes_80 : decode cX10_passes 80 = .ok (.aload_n 0, 1) := by decide +kernel
theorem dX10_passes_81 : decode cX10_passes 81 = .ok (.getfield 42, 3) := by decide +kernel
theorem dX10_passes_84 : decode cX10_passes 84 = .ok (.aload_n 0, 1) := by decide +kernel
theorem dX10_passes_85 : decode cX10_passes 85 = .ok (.getfield 35, 3) := by decide +kernel
theorem dX10_passes_88 : decode cX10_passes 88 = .ok (.invokevirtual 162, 3) := by decide +kernel
theorem dX10_passes_91 : decode cX10_passes 91 = .ok (.aload_n 0, 1) := by decide +kernel
theorem dX10_passes_92 : decode cX10_passes 92 = .ok (.getfield 58, 3) := by decide +kernel
theorem dX10_passes_95 : decode cX10_passes 95 = .ok (.iload_n 1, 1) := by decide +kernel
theorem dX10_passes_96 : decode cX10_passes 96 = .ok (.iload_n 2, 1) := by decide +kernel
theorem dX10_passes_97 : decode cX10_passes 97 = .ok (.invokevirtual 166, 3) := by decide +kernel
theorem dX10_passes_100 : decode cX10_passes 100 = .ok (.ifCond .ne 13, 3) := by decide +kernel
theorem dX10_passes_103 : decode cX10_passes 103 = .ok (.aload_n 0, 1) := by decide +kernel
theorem dX10_passes_104 : decode cX10_passes 104 = .ok (.getfield 35, 3) := by decide +kernel
theorem dX10_passes_107 : decode cX10_passes 107 = .ok (.iload_n 1, 1) := by decide +kernel
theorem dX10_passes_108 : decode cX10_passes 108 = .ok (.invokevirtual 170, 3) := by decide +kernel
theorem dX10_passes_111 : decode cX10_passes 111 = .ok (.iconst 0, 1) := by decide +kernel
theorem dX10_passes_112 : decode cX10_passes 112 = .ok (.ireturn, 1) := by decide +kernel
theorem dX10_passes_113 : decode cX10_passes 113 = .ok (.aload_n 0, 1) := by decide +kernel
theorem dX10_passes_114 : decode cX10_passes 114 = .ok (.getfield 35, 3) := by decide +kernel
theorem dX10_passes_117 : decode cX10_passes 117 = .ok (.iload_n 1, 1) := by decide +kernel
theorem dX10_passes_118 : decode cX10_passes 118 = .ok (.iload_n 2, 1) := by decide +kernel
theorem dX10_passes_119 : decode cX10_passes 119 = .ok (.invokevirtual 174, 3) := by decide +kernel
theorem dX10_passes_122 : decode cX10_passes 122 = .ok (.aload_n 0, 1) := by decide +kernel
theorem dX10_passes_123 : decode cX10_passes 123 = .ok (.getfield 28, 3) := by decide +kernel
theorem dX10_passes_126 : decode cX10_passes 126 = .ok (.iload_n 1, 1) := by decide +kernel
theorem dX10_passes_127 : decode cX10_passes 127 = .ok (.invokevirtual 178, 3) := by decide +kernel
theorem dX10_passes_130 : decode cX10_passes 130 = .ok (.ifCond .eq 29, 3) := by decide +kernel
theorem dX10_passes_133 : decode cX10_passes 133 = .ok (.aload_n 0, 1) := by decide +kernel
theorem dX10_passes_134 : decode cX10_passes 134 = .ok (.getfield 35, 3) := by decide +kernel
theorem dX10_passes_137 : decode cX10_passes 137 = .ok (.iload_n 1, 1) := by decide +kernel
theorem dX10_passes_138 : decode cX10_passes 138 = .ok (.invokevirtual 122, 3) := by decide +kernel
theorem dX10_passes_141 : decode cX10_passes 141 = .ok (.aload_n 0, 1) := by decide +kernel
theorem dX10_passes_142 : decode cX10_passes 142 = .ok (.getfield 28, 3) := by decide +kernel
theorem dX10_passes_145 : decode cX10_passes 145 = .ok (.getfield 181, 3) := by decide +kernel
theorem dX10_passes_148 : decode cX10_passes 148 = .ok (.if_icmp .lt 11, 3) := by decide +kernel
theorem dX10_passes_151 : decode cX10_passes 151 = .ok (.aload_n 0, 1) := by decide +kernel
theorem dX10_passes_152 : decode cX10_passes 152 = .ok (.getfield 35, 3) := by decide +kernel
theorem dX10_passes_155 : decode cX10_passes 155 = .ok (.iload_n 1, 1) := by decide +kernel
theorem dX10_passes_156 : decode cX10_passes 156 = .ok (.invokevirtual 183, 3) := by decide +kernel
theorem dX10_passes_159 : decode cX10_passes 159 = .ok (.iconst 1, 1) := by decide +kernel
theorem dX10_passes_160 : decode cX10_passes 160 = .ok (.ireturn, 1) := by decide +kernel
theorem dX10_teaches_0 : decode cX10_teaches 0 = .ok (.aload_n 0, 1) := by decide +kernel
theorem dX10_teaches_1 : decode cX10_teaches 1 = .ok (.getfield 28, 3) := by decide +kernel
theorem dX10_teaches_4 : decode cX10_teaches 4 = .ok (.iload_n 1, 1) := by decide +kernel
theorem dX10_teaches_5 : decode cX10_teaches 5 = .ok (.invokevirtual 134, 3) := by decide +kernel
theorem dX10_teaches_8 : decode cX10_teaches 8 = .ok (.ifCond .eq 13, 3) := by decide +kernel
theorem dX10_teaches_11 : decode cX10_teaches 11 = .ok (.iload_n 2, 1) := by decide +kernel
theorem dX10_teaches_12 : decode cX10_teaches 12 = .ok (.ifCond .lt 9, 3) := by decide +kernel
theorem dX10_teaches_15 : decode cX10_teaches 15 = .ok (.iload_n 2, 1) := by decide +kernel
theorem dX10_teaches_16 : decode cX10_teaches 16 = .ok (.bipush 31, 2) := by decide +kernel
theorem dX10_teaches_18 : decode cX10_teaches 18 = .ok (.if_icmp .le 5, 3) := by decide +kernel
theorem dX10_teaches_21 : decode cX10_teaches 21 = .ok (.iconst (-1), 1) := by decide +kernel
theorem dX10_teaches_22 : decode cX10_teaches 22 = .ok (.ireturn, 1) := by decide +kernel
theorem dX10_teaches_23 : decode cX10_teaches 23 = .ok (.aload_n 0, 1) := by decide +kernel
theorem dX10_teaches_24 : decode cX10_teaches 24 = .ok (.getfield 35, 3) := by decide +kernel
theorem dX10_teaches_27 : decode cX10_teaches 27 = .ok (.iload_n 1, 1) := by decide +kernel
theorem dX10_teaches_28 : decode cX10_teaches 28 = .ok (.invokevirtual 137, 3) := by decide +kernel
theorem dX10_teaches_31 : decode cX10_teaches 31 = .ok (.istore_n 3, 1) := by decide +kernel
theorem dX10_teaches_32 : decode cX10_teaches 32 = .ok (.aload_n 0, 1) := by decide +kernel
theorem dX10_teaches_33 : decode cX10_teaches 33 = .ok (.getfield 42, 3) := by decide +kernel
theorem dX10_teaches_36 : decode cX10_teaches 36 = .ok (.aload_n 0, 1) := by decide +kernel
theorem dX10_teaches_37 : decode cX10_teaches 37 = .ok (.getfield 35, 3) := by decide +kernel
theorem dX10_teaches_40 : decode cX10_teaches 40 = .ok (.invokevirtual 162, 3) := by decide +kernel
theorem dX10_teaches_43 : decode cX10_teaches 43 = .ok (.aload_n 0, 1) := by decide +kernel
theorem dX10_teaches_44 : decode cX10_teaches 44 = .ok (.getfield 35, 3) := by decide +kernel
theorem dX10_teaches_47 : decode cX10_teaches 47 = .ok (.iload_n 1, 1) := by decide +kernel
theorem dX10_teaches_48 : decode cX10_teaches 48 = .ok (.iload_n 2, 1) := by decide +kernel
theorem dX10_teaches_49 : decode cX10_teaches 49 = .ok (.invokevirtual 186, 3) := by decide +kernel
theorem dX10_teaches_52 : decode cX10_teaches 52 = .ok (.iload_n 3, 1) := by decide +kernel
theorem dX10_teaches_53 : decode cX10_teaches 53 = .ok (.ireturn, 1) := by decide +kernel
theorem dX10_sends_0 : decode cX10_sends 0 = .ok (.aload_n 0, 1) := by decide +kernel
theorem dX10_sends_1 : decode cX10_sends 1 = .ok (.getfield 28, 3) := by decide +kernel
theorem dX10_sends_4 : decode cX10_sends 4 = .ok (.iload_n 1, 1) := by decide +kernel
theorem dX10_sends_5 : decode cX10_sends 5 = .ok (.invokevirtual 109, 3) := by decide +kernel
theorem dX10_sends_8 : decode cX10_sends 8 = .ok (.ifCond .eq 10, 3) := by decide +kernel
theorem dX10_sends_11 : decode cX10_sends 11 = .ok (.iload_n 2, 1) := by decide +kernel
theorem dX10_sends_12 : decode cX10_sends 12 = .ok (.invokestatic 189, 3) := by decide +kernel
theorem dX10_sends_15 : decode cX10_sends 15 = .ok (.ifCond .ne 5, 3) := by decide +kernel
theorem dX10_sends_18 : decode cX10_sends 18 = .ok (.iconst (-1), 1) := by decide +kernel
theorem dX10_sends_19 : decode cX10_sends 19 = .ok (.ireturn, 1) := by decide +kernel
theorem dX10_sends_20 : decode cX10_sends 20 = .ok (.aload_n 0, 1) := by decide +kernel
theorem dX10_sends_21 : decode cX10_sends 21 = .ok (.getfield 35, 3) := by decide +kernel
theorem dX10_sends_24 : decode cX10_sends 24 = .ok (.iload_n 1, 1) := by decide +kernel
theorem dX10_sends_25 : decode cX10_sends 25 = .ok (.invokevirtual 128, 3) := by decide +kernel
theorem dX10_sends_28 : decode cX10_sends 28 = .ok (.iload_n 2, 1) := by decide +kernel
theorem dX10_sends_29 : decode cX10_sends 29 = .ok (.iconst 1, 1) := by decide +kernel
theorem dX10_sends_30 : decode cX10_sends 30 = .ok (.if_icmp .ne 7, 3) := by decide +kernel
theorem dX10_sends_33 : decode cX10_sends 33 = .ok (.iconst 1, 1) := by decide +kernel
theorem dX10_sends_34 : decode cX10_sends 34 = .ok (.goto 4, 3) := by decide +kernel
theorem dX10_sends_37 : decode cX10_sends 37 = .ok (.iconst 0, 1) := by decide +kernel
theorem dX10_sends_38 : decode cX10_sends 38 = .ok (.if_icmp .ne 6, 3) := by decide +kernel
theorem dX10_sends_41 : decode cX10_sends 41 = .ok (.bipush (-2), 2) := by decide +kernel
theorem dX10_sends_43 : decode cX10_sends 43 = .ok (.ireturn, 1) := by decide +kernel
theorem dX10_sends_44 : decode cX10_sends 44 = .ok (.aload_n 0, 1) := by decide +kernel
theorem dX10_sends_45 : decode cX10_sends 45 = .ok (.getfield 42, 3) := by decide +kernel
theorem dX10_sends_48 : decode cX10_sends 48 = .ok (.aload_n 0, 1) := by decide +kernel
theorem dX10_sends_49 : decode cX10_sends 49 = .ok (.getfield 35, 3) := by decide +kernel
theorem dX10_sends_52 : decode cX10_sends 52 = .ok (.invokevirtual 162, 3) := by decide +kernel
theorem dX10_sends_55 : decode cX10_sends 55 = .ok (.aload_n 0, 1) := by decide +kernel
theorem dX10_sends_56 : decode cX10_sends 56 = .ok (.getfield 35, 3) := by decide +kernel
theorem dX10_sends_59 : decode cX10_sends 59 = .ok (.iload_n 1, 1) := by decide +kernel
theorem dX10_sends_60 : decode cX10_sends 60 = .ok (.invokevirtual 192, 3) := by decide +kernel
theorem dX10_sends_63 : decode cX10_sends 63 = .ok (.aload_n 0, 1) := by decide +kernel
theorem dX10_sends_64 : decode cX10_sends 64 = .ok (.getfield 35, 3) := by decide +kernel
theorem dX10_sends_67 : decode cX10_sends 67 = .ok (.invokevirtual 146, 3) := by decide +kernel
theorem dX10_sends_70 : decode cX10_sends 70 = .ok (.invokestatic 195, 3) := by decide +kernel
theorem dX10_sends_73 : decode cX10_sends 73 = .ok (.ireturn, 1) := by decide +kernel
theorem dX10_undo_0 : decode cX10_undo 0 = .ok (.aload_n 0, 1) := by decide +kernel
theorem dX10_undo_1 : decode cX10_undo 1 = .ok (.getfield 42, 3) := by decide +kernel
theorem dX10_undo_4 : decode cX10_undo 4 = .ok (.getfield 158, 3) := by decide +kernel
theorem dX10_undo_7 : decode cX10_undo 7 = .ok (.ifCond .ne 6, 3) := by decide +kernel
theorem dX10_undo_10 : decode cX10_undo 10 = .ok (.bipush (-2), 2) := by decide +kernel
theorem dX10_undo_12 : decode cX10_undo 12 = .ok (.ireturn, 1) := by decide +kernel
theorem dX10_undo_13 : decode cX10_undo 13 = .ok (.aload_n 0, 1) := by decide +kernel
theorem dX10_undo_14 : decode cX10_undo 14 = .ok (.getfield 42, 3) := by decide +kernel
theorem dX10_undo_17 : decode cX10_undo 17 = .ok (.aload_n 0, 1) := by decide +kernel
theorem dX10_undo_18 : decode cX10_undo 18 = .ok (.getfield 35, 3) := by decide +kernel
theorem dX10_undo_21 : decode cX10_undo 21 = .ok (.invokevirtual 200, 3) := by decide +kernel
theorem dX10_undo_24 : decode cX10_undo 24 = .ok (.aload_n 0, 1) := by decide +kernel
theorem dX10_undo_25 : decode cX10_undo 25 = .ok (.getfield 42, 3) := by decide +kernel
theorem dX10_undo_28 : decode cX10_undo 28 = .ok (.getfield 158, 3) := by decide +kernel
theorem dX10_undo_31 : decode cX10_undo 31 = .ok (.ireturn, 1) := by decide +kernel
theorem dX10_soonest_0 : decode cX10_soonest 0 = .ok (.aload_n 0, 1) := by decide +kernel
theorem dX10_soonest_1 : decode cX10_soonest 1 = .ok (.getfield 28, 3) := by decide +kernel
theorem dX10_soonest_4 : decode cX10_soonest 4 = .ok (.iload_n 1, 1) := by decide +kernel
theorem dX10_soonest_5 : decode cX10_soonest 5 = .ok (.invokevirtual 109, 3) := by decide +kernel
theorem dX10_soonest_8 : decode cX10_soonest 8 = .ok (.ifCond .eq 8, 3) := by decide +kernel
theorem dX10_soonest_11 : decode cX10_soonest 11 = .ok (.iload_n 2, 1) := by decide +kernel
theorem dX10_soonest_12 : decode cX10_soonest 12 = .ok (.iconst (-1), 1) := by decide +kernel
theorem dX10_soonest_13 : decode cX10_soonest 13 = .ok (.if_icmp .ge 5, 3) := by decide +kernel
theorem dX10_soonest_16 : decode cX10_soonest 16 = .ok (.iconst (-1), 1) := by decide +kernel
theorem dX10_soonest_17 : decode cX10_soonest 17 = .ok (.ireturn, 1) := by decide +kernel
theorem dX10_soonest_18 : decode cX10_soonest 18 = .ok (.aload_n 0, 1) := by decide +kernel
theorem dX10_soonest_19 : decode cX10_soonest 19 = .ok (.getfield 35, 3) := by decide +kernel
theorem dX10_soonest_22 : decode cX10_soonest 22 = .ok (.iload_n 1, 1) := by decide +kernel
theorem dX10_soonest_23 : decode cX10_soonest 23 = .ok (.invokevirtual 128, 3) := by decide +kernel
theorem dX10_soonest_26 : decode cX10_soonest 26 = .ok (.ifCond .ne 25, 3) := by decide +kernel
theorem dX10_soonest_29 : decode cX10_soonest 29 = .ok (.aload_n 0, 1) := by decide +kernel
theorem dX10_soonest_30 : decode cX10_soonest 30 = .ok (.getfield 28, 3) := by decide +kernel
theorem dX10_soonest_33 : decode cX10_soonest 33 = .ok (.iload_n 1, 1) := by decide +kernel
theorem dX10_soonest_34 : decode cX10_soonest 34 = .ok (.invokevirtual 178, 3) := by decide +kernel
theorem dX10_soonest_37 : decode cX10_soonest 37 = .ok (.ifCond .eq 14, 3) := by decide +kernel
theorem dX10_soonest_40 : decode cX10_soonest 40 = .ok (.aload_n 0, 1) := by decide +kernel
theorem dX10_soonest_41 : decode cX10_soonest 41 = .ok (.getfield 35, 3) := by decide +kernel
theorem dX10_soonest_44 : decode cX10_soonest 44 = .ok (.iload_n 1, 1) := by decide +kernel
theorem dX10_soonest_45 : decode cX10_soonest 45 = .ok (.invokevirtual 125, 3) := by decide +kernel
theorem dX10_soonest_48 : decode cX10_soonest 48 = .ok (.ifCond .eq 6, 3) := by decide +kernel
theorem dX10_soonest_51 : decode cX10_soonest 51 = .ok (.bipush (-2), 2) := by decide +kernel
theorem dX10_soonest_53 : decode cX10_soonest 53 = .ok (.ireturn, 1) := by decide +kernel
theorem dX10_soonest_54 : decode cX10_soonest 54 = .ok (.aload_n 0, 1) := by decide +kernel
theorem dX10_soonest_55 : decode cX10_soonest 55 = .ok (.getfield 58, 3) := by decide +kernel
theorem dX10_soonest_58 : decode cX10_soonest 58 = .ok (.iload_n 1, 1) := by decide +kernel
theorem dX10_soonest_59 : decode cX10_soonest 59 = .ok (.invokevirtual 203, 3) := by decide +kernel
theorem dX10_soonest_62 : decode cX10_soonest 62 = .ok (.istore_n 3, 1) := by decide +kernel
theorem dX10_soonest_63 : decode cX10_soonest 63 = .ok (.aload_n 0, 1) := by decide +kernel
theorem dX10_soonest_64 : decode cX10_soonest 64 = .ok (.getfield 58, 3) := by decide +kernel
theorem dX10_soonest_67 : decode cX10_soonest 67 = .ok (.iload_n 1, 1) := by decide +kernel
theorem dX10_soonest_68 : decode cX10_soonest 68 = .ok (.iload_n 3, 1) := by decide +kernel
theorem dX10_soonest_69 : decode cX10_soonest 69 = .ok (.invokevirtual 206, 3) := by decide +kernel
theorem dX10_soonest_72 : decode cX10_soonest 72 = .ok (.ifCond .ne 6, 3) := by decide +kernel
theorem dX10_soonest_75 : decode cX10_soonest 75 = .ok (.bipush (-9), 2) := by decide +kernel
theorem dX10_soonest_77 : decode cX10_soonest 77 = .ok (.ireturn, 1) := by decide +kernel
theorem dX10_soonest_78 : decode cX10_soonest 78 = .ok (.iload_n 2, 1) := by decide +kernel
theorem dX10_soonest_79 : decode cX10_soonest 79 = .ok (.iconst (-1), 1) := by decide +kernel
theorem dX10_soonest_80 : decode cX10_soonest 80 = .ok (.if_icmp .ne 5, 3) := by decide +kernel
theorem dX10_soonest_83 : decode cX10_soonest 83 = .ok (.iload_n 3, 1) := by decide +kernel
theorem dX10_soonest_84 : decode cX10_soonest 84 = .ok (.ireturn, 1) := by decide +kernel
theorem dX10_soonest_85 : decode cX10_soonest 85 = .ok (.iload_n 2, 1) := by decide +kernel
theorem dX10_soonest_86 : decode cX10_soonest 86 = .ok (.iload_n 3, 1) := by decide +kernel
theorem dX10_soonest_87 : decode cX10_soonest 87 = .ok (.if_icmp .ge 15, 3) := by decide +kernel
theorem dX10_soonest_90 : decode cX10_soonest 90 = .ok (.aload_n 0, 1) := by decide +kernel
theorem dX10_soonest_91 : decode cX10_soonest 91 = .ok (.getfield 58, 3) := by decide +kernel
theorem dX10_soonest_94 : decode cX10_soonest 94 = .ok (.iload_n 1, 1) := by decide +kernel
theorem dX10_soonest_95 : decode cX10_soonest 95 = .ok (.iload_n 2, 1) := by decide +kernel
theorem dX10_soonest_96 : decode cX10_soonest 96 = .ok (.invokevirtual 209, 3) := by decide +kernel
theorem dX10_soonest_99 : decode cX10_soonest 99 = .ok (.goto 5, 3) := by decide +kernel
theorem dX10_soonest_102 : decode cX10_soonest 102 = .ok (.bipush (-5), 2) := by decide +kernel
theorem dX10_soonest_104 : decode cX10_soonest 104 = .ok (.ireturn, 1) := by decide +kernel
theorem dX10_till_0 : decode cX10_till 0 = .ok (.aload_n 0, 1) := by decide +kernel
theorem dX10_till_1 : decode cX10_till 1 = .ok (.getfield 28, 3) := by decide +kernel
theorem dX10_till_4 : decode cX10_till 4 = .ok (.iload_n 1, 1) := by decide +kernel
theorem dX10_till_5 : decode cX10_till 5 = .ok (.invokevirtual 109, 3) := by decide +kernel
theorem dX10_till_8 : decode cX10_till 8 = .ok (.ifCond .ne 5, 3) := by decide +kernel
theorem dX10_till_11 : decode cX10_till 11 = .ok (.iconst (-1), 1) := by decide +kernel
theorem dX10_till_12 : decode cX10_till 12 = .ok (.ireturn, 1) := by decide +kernel
theorem dX10_till_13 : decode cX10_till 13 = .ok (.aload_n 0, 1) := by decide +kernel
theorem dX10_till_14 : decode cX10_till 14 = .ok (.getfield 35, 3) := by decide +kernel
theorem dX10_till_17 : decode cX10_till 17 = .ok (.iload_n 1, 1) := by decide +kernel
theorem dX10_till_18 : decode cX10_till 18 = .ok (.invokevirtual 128, 3) := by decide +kernel
theorem dX10_till_21 : decode cX10_till 21 = .ok (.ifCond .eq 8, 3) := by decide +kernel
theorem dX10_till_24 : decode cX10_till 24 = .ok (.bipush (-2), 2) := by decide +kernel
theorem dX10_till_26 : decode cX10_till 26 = .ok (.goto 11, 3) := by decide +kernel
theorem dX10_till_29 : decode cX10_till 29 = .ok (.aload_n 0, 1) := by decide +kernel
theorem dX10_till_30 : decode cX10_till 30 = .ok (.getfield 58, 3) := by decide +kernel
theorem dX10_till_33 : decode cX10_till 33 = .ok (.iload_n 1, 1) := by decide +kernel
theorem dX10_till_34 : decode cX10_till 34 = .ok (.invokevirtual 213, 3) := by decide +kernel
theorem dX10_till_37 : decode cX10_till 37 = .ok (.ireturn, 1) := by decide +kernel
theorem dX10_odds_0 : decode cX10_odds 0 = .ok (.aload_n 0, 1) := by decide +kernel
theorem dX10_odds_1 : decode cX10_odds 1 = .ok (.getfield 28, 3) := by decide +kernel
theorem dX10_odds_4 : decode cX10_odds 4 = .ok (.iload_n 1, 1) := by decide +kernel
theorem dX10_odds_5 : decode cX10_odds 5 = .ok (.invokevirtual 109, 3) := by decide +kernel
theorem dX10_odds_8 : decode cX10_odds 8 = .ok (.ifCond .eq 19, 3) := by decide +kernel
theorem dX10_odds_11 : decode cX10_odds 11 = .ok (.iload_n 2, 1) := by decide +kernel
theorem dX10_odds_12 : decode cX10_odds 12 = .ok (.ifCond .lt 15, 3) := by decide +kernel
theorem dX10_odds_15 : decode cX10_odds 15 = .ok (.iload_n 2, 1) := by decide +kernel
theorem dX10_odds_16 : decode cX10_odds 16 = .ok (.iconst 4, 1) := by decide +kernel
theorem dX10_odds_17 : decode cX10_odds 17 = .ok (.if_icmp .gt 10, 3) := by decide +kernel
theorem dX10_odds_20 : decode cX10_odds 20 = .ok (.iload_n 3, 1) := by decide +kernel
theorem dX10_odds_21 : decode cX10_odds 21 = .ok (.invokestatic 189, 3) := by decide +kernel
theorem dX10_odds_24 : decode cX10_odds 24 = .ok (.ifCond .ne 5, 3) := by decide +kernel
theorem dX10_odds_27 : decode cX10_odds 27 = .ok (.iconst (-1), 1) := by decide +kernel
theorem dX10_odds_28 : decode cX10_odds 28 = .ok (.ireturn, 1) := by decide +kernel
theorem dX10_odds_29 : decode cX10_odds 29 = .ok (.aload_n 0, 1) := by decide +kernel
theorem dX10_odds_30 : decode cX10_odds 30 = .ok (.getfield 35, 3) := by decide +kernel
theorem dX10_odds_33 : decode cX10_odds 33 = .ok (.iload_n 1, 1) := by decide +kernel
theorem dX10_odds_34 : decode cX10_odds 34 = .ok (.invokevirtual 128, 3) := by decide +kernel
theorem dX10_odds_37 : decode cX10_odds 37 = .ok (.ifCond .eq 6, 3) := by decide +kernel
theorem dX10_odds_40 : decode cX10_odds 40 = .ok (.bipush (-2), 2) := by decide +kernel
theorem dX10_odds_42 : decode cX10_odds 42 = .ok (.ireturn, 1) := by decide +kernel
theorem dX10_odds_43 : decode cX10_odds 43 = .ok (.aload_n 0, 1) := by decide +kernel
theorem dX10_odds_44 : decode cX10_odds 44 = .ok (.getfield 58, 3) := by decide +kernel
theorem dX10_odds_47 : decode cX10_odds 47 = .ok (.iload_n 1, 1) := by decide +kernel
theorem dX10_odds_48 : decode cX10_odds 48 = .ok (.iload_n 2, 1) := by decide +kernel
theorem dX10_odds_49 : decode cX10_odds 49 = .ok (.invokevirtual 216, 3) := by decide +kernel
theorem dX10_odds_52 : decode cX10_odds 52 = .ok (.istore 4, 2) := by decide +kernel
theorem dX10_odds_54 : decode cX10_odds 54 = .ok (.aload_n 0, 1) := by decide +kernel
theorem dX10_odds_55 : decode cX10_odds 55 = .ok (.getfield 58, 3) := by decide +kernel
theorem dX10_odds_58 : decode cX10_odds 58 = .ok (.iload_n 2, 1) := by decide +kernel
theorem dX10_odds_59 : decode cX10_odds 59 = .ok (.invokevirtual 219, 3) := by decide +kernel
theorem dX10_odds_62 : decode cX10_odds 62 = .ok (.istore 5, 2) := by decide +kernel
theorem dX10_odds_64 : decode cX10_odds 64 = .ok (.iload 4, 2) := by decide +kernel
theorem dX10_odds_66 : decode cX10_odds 66 = .ok (.iload 5, 2) := by decide +kernel
theorem dX10_odds_68 : decode cX10_odds 68 = .ok (.iload_n 3, 1) := by decide +kernel
theorem dX10_odds_69 : decode cX10_odds 69 = .ok (.invokestatic 222, 3) := by decide +kernel
theorem dX10_odds_72 : decode cX10_odds 72 = .ok (.ireturn, 1) := by decide +kernel
theorem dX10_saw_0 : decode cX10_saw 0 = .ok (.aload_n 0, 1) := by decide +kernel
theorem dX10_saw_1 : decode cX10_saw 1 = .ok (.getfield 28, 3) := by decide +kernel
theorem dX10_saw_4 : decode cX10_saw 4 = .ok (.iload_n 1, 1) := by decide +kernel
theorem dX10_saw_5 : decode cX10_saw 5 = .ok (.invokevirtual 134, 3) := by decide +kernel
theorem dX10_saw_8 : decode cX10_saw 8 = .ok (.ifCond .eq 10, 3) := by decide +kernel
theorem dX10_saw_11 : decode cX10_saw 11 = .ok (.iload_n 2, 1) := by decide +kernel
theorem dX10_saw_12 : decode cX10_saw 12 = .ok (.invokestatic 189, 3) := by decide +kernel
theorem dX10_saw_15 : decode cX10_saw 15 = .ok (.ifCond .ne 5, 3) := by decide +kernel
theorem dX10_saw_18 : decode cX10_saw 18 = .ok (.iconst (-1), 1) := by decide +kernel
theorem dX10_saw_19 : decode cX10_saw 19 = .ok (.ireturn, 1) := by decide +kernel
theorem dX10_saw_20 : decode cX10_saw 20 = .ok (.aload_n 0, 1) := by decide +kernel
theorem dX10_saw_21 : decode cX10_saw 21 = .ok (.getfield 65, 3) := by decide +kernel
theorem dX10_saw_24 : decode cX10_saw 24 = .ok (.iload_n 1, 1) := by decide +kernel
theorem dX10_saw_25 : decode cX10_saw 25 = .ok (.iload_n 2, 1) := by decide +kernel
theorem dX10_saw_26 : decode cX10_saw 26 = .ok (.invokevirtual 226, 3) := by decide +kernel
theorem dX10_saw_29 : decode cX10_saw 29 = .ok (.ireturn, 1) := by decide +kernel
theorem dX10_canBe_0 : decode cX10_canBe 0 = .ok (.iload_n 1, 1) := by decide +kernel
theorem dX10_canBe_1 : decode cX10_canBe 1 = .ok (.tableswitch 51 0 2 #[27, 35, 43], 27) := by decide +kernel
theorem dX10_canBe_28 : decode cX10_canBe 28 = .ok (.aload_n 0, 1) := by decide +kernel
theorem dX10_canBe_29 : decode cX10_canBe 29 = .ok (.getfield 65, 3) := by decide +kernel
theorem dX10_canBe_32 : decode cX10_canBe 32 = .ok (.invokevirtual 228, 3) := by decide +kernel
theorem dX10_canBe_35 : decode cX10_canBe 35 = .ok (.ireturn, 1) := by decide +kernel
theorem dX10_canBe_36 : decode cX10_canBe 36 = .ok (.aload_n 0, 1) := by decide +kernel
theorem dX10_canBe_37 : decode cX10_canBe 37 = .ok (.getfield 65, 3) := by decide +kernel
theorem dX10_canBe_40 : decode cX10_canBe 40 = .ok (.invokevirtual 231, 3) := by decide +kernel
theorem dX10_canBe_43 : decode cX10_canBe 43 = .ok (.ireturn, 1) := by decide +kernel
theorem dX10_canBe_44 : decode cX10_canBe 44 = .ok (.aload_n 0, 1) := by decide +kernel
theorem dX10_canBe_45 : decode cX10_canBe 45 = .ok (.getfield 65, 3) := by decide +kernel
theorem dX10_canBe_48 : decode cX10_canBe 48 = .ok (.invokevirtual 234, 3) := by decide +kernel
theorem dX10_canBe_51 : decode cX10_canBe 51 = .ok (.ireturn, 1) := by decide +kernel
theorem dX10_canBe_52 : decode cX10_canBe 52 = .ok (.iconst (-1), 1) := by decide +kernel
theorem dX10_canBe_53 : decode cX10_canBe 53 = .ok (.ireturn, 1) := by decide +kernel
theorem dX10_show_0 : decode cX10_show 0 = .ok (.aload_n 0, 1) := by decide +kernel
theorem dX10_show_1 : decode cX10_show 1 = .ok (.getfield 65, 3) := by decide +kernel
theorem dX10_show_4 : decode cX10_show 4 = .ok (.invokevirtual 237, 3) := by decide +kernel
theorem dX10_show_7 : decode cX10_show 7 = .ok (.ireturn, 1) := by decide +kernel
theorem dX10_hears_0 : decode cX10_hears 0 = .ok (.iload_n 1, 1) := by decide +kernel
theorem dX10_hears_1 : decode cX10_hears 1 = .ok (.ifCond .lt 16, 3) := by decide +kernel
theorem dX10_hears_4 : decode cX10_hears 4 = .ok (.iload_n 1, 1) := by decide +kernel
theorem dX10_hears_5 : decode cX10_hears 5 = .ok (.bipush 20, 2) := by decide +kernel
theorem dX10_hears_7 : decode cX10_hears 7 = .ok (.if_icmp .gt 10, 3) := by decide +kernel
theorem dX10_hears_10 : decode cX10_hears 10 = .ok (.iload_n 2, 1) := by decide +kernel
theorem dX10_hears_11 : decode cX10_hears 11 = .ok (.invokestatic 189, 3) := by decide +kernel
theorem dX10_hears_14 : decode cX10_hears 14 = .ok (.ifCond .ne 5, 3) := by decide +kernel
theorem dX10_hears_17 : decode cX10_hears 17 = .ok (.iconst (-1), 1) := by decide +kernel
theorem dX10_hears_18 : decode cX10_hears 18 = .ok (.ireturn, 1) := by decide +kernel
theorem dX10_hears_19 : decode cX10_hears 19 = .ok (.aload_n 0, 1) := by decide +kernel
theorem dX10_hears_20 : decode cX10_hears 20 = .ok (.getfield 72, 3) := by decide +kernel
theorem dX10_hears_23 : decode cX10_hears 23 = .ok (.iload_n 1, 1) := by decide +kernel
theorem dX10_hears_24 : decode cX10_hears 24 = .ok (.iload_n 2, 1) := by decide +kernel
theorem dX10_hears_25 : decode cX10_hears 25 = .ok (.invokevirtual 240, 3) := by decide +kernel
theorem dX10_hears_28 : decode cX10_hears 28 = .ok (.ireturn, 1) := by decide +kernel
theorem dX10_forget_0 : decode cX10_forget 0 = .ok (.aload_n 0, 1) := by decide +kernel
theorem dX10_forget_1 : decode cX10_forget 1 = .ok (.getfield 65, 3) := by decide +kernel
theorem dX10_forget_4 : decode cX10_forget 4 = .ok (.getfield 241, 3) := by decide +kernel
theorem dX10_forget_7 : decode cX10_forget 7 = .ok (.aload_n 0, 1) := by decide +kernel
theorem dX10_forget_8 : decode cX10_forget 8 = .ok (.getfield 72, 3) := by decide +kernel
theorem dX10_forget_11 : decode cX10_forget 11 = .ok (.getfield 244, 3) := by decide +kernel
theorem dX10_forget_14 : decode cX10_forget 14 = .ok (.iadd, 1) := by decide +kernel
theorem dX10_forget_15 : decode cX10_forget 15 = .ok (.istore_n 1, 1) := by decide +kernel
theorem dX10_forget_16 : decode cX10_forget 16 = .ok (.aload_n 0, 1) := by decide +kernel
theorem dX10_forget_17 : decode cX10_forget 17 = .ok (.getfield 65, 3) := by decide +kernel
theorem dX10_forget_20 : decode cX10_forget 20 = .ok (.invokevirtual 107, 3) := by decide +kernel
theorem dX10_forget_23 : decode cX10_forget 23 = .ok (.aload_n 0, 1) := by decide +kernel
theorem dX10_forget_24 : decode cX10_forget 24 = .ok (.getfield 72, 3) := by decide +kernel
theorem dX10_forget_27 : decode cX10_forget 27 = .ok (.invokevirtual 108, 3) := by decide +kernel
theorem dX10_forget_30 : decode cX10_forget 30 = .ok (.iload_n 1, 1) := by decide +kernel
theorem dX10_forget_31 : decode cX10_forget 31 = .ok (.ireturn, 1) := by decide +kernel
theorem dX10_years_0 : decode cX10_years 0 = .ok (.aload_n 0, 1) := by decide +kernel
theorem dX10_years_1 : decode cX10_years 1 = .ok (.getfield 72, 3) := by decide +kernel
theorem dX10_years_4 : decode cX10_years 4 = .ok (.invokevirtual 247, 3) := by decide +kernel
theorem dX10_years_7 : decode cX10_years 7 = .ok (.ireturn, 1) := by decide +kernel
theorem dX10_letIn_0 : decode cX10_letIn 0 = .ok (.iload_n 1, 1) := by decide +kernel
theorem dX10_letIn_1 : decode cX10_letIn 1 = .ok (.invokestatic 189, 3) := by decide +kernel
theorem dX10_letIn_4 : decode cX10_letIn 4 = .ok (.ifCond .ne 5, 3) := by decide +kernel
theorem dX10_letIn_7 : decode cX10_letIn 7 = .ok (.iconst (-1), 1) := by decide +kernel
theorem dX10_letIn_8 : decode cX10_letIn 8 = .ok (.ireturn, 1) := by decide +kernel
theorem dX10_letIn_9 : decode cX10_letIn 9 = .ok (.aload_n 0, 1) := by decide +kernel
theorem dX10_letIn_10 : decode cX10_letIn 10 = .ok (.getfield 72, 3) := by decide +kernel
theorem dX10_letIn_13 : decode cX10_letIn 13 = .ok (.invokevirtual 250, 3) := by decide +kernel
theorem dX10_letIn_16 : decode cX10_letIn 16 = .ok (.istore_n 2, 1) := by decide +kernel
theorem dX10_letIn_17 : decode cX10_letIn 17 = .ok (.iload_n 2, 1) := by decide +kernel
theorem dX10_letIn_18 : decode cX10_letIn 18 = .ok (.bipush (-9), 2) := by decide +kernel
theorem dX10_letIn_20 : decode cX10_letIn 20 = .ok (.if_icmp .eq 7, 3) := by decide +kernel
theorem dX10_letIn_23 : decode cX10_letIn 23 = .ok (.iload_n 1, 1) := by decide +kernel
theorem dX10_letIn_24 : decode cX10_letIn 24 = .ok (.ifCond .ne 5, 3) := by decide +kernel
theorem dX10_letIn_27 : decode cX10_letIn 27 = .ok (.iload_n 2, 1) := by decide +kernel
theorem dX10_letIn_28 : decode cX10_letIn 28 = .ok (.ireturn, 1) := by decide +kernel
theorem dX10_letIn_29 : decode cX10_letIn 29 = .ok (.aload_n 0, 1) := by decide +kernel
theorem dX10_letIn_30 : decode cX10_letIn 30 = .ok (.getfield 72, 3) := by decide +kernel
theorem dX10_letIn_33 : decode cX10_letIn 33 = .ok (.iload_n 2, 1) := by decide +kernel
theorem dX10_letIn_34 : decode cX10_letIn 34 = .ok (.invokevirtual 253, 3) := by decide +kernel
theorem dX10_letIn_37 : decode cX10_letIn 37 = .ok (.ireturn, 1) := by decide +kernel
theorem dX10_rate_0 : decode cX10_rate 0 = .ok (.aload_n 0, 1) := by decide +kernel
theorem dX10_rate_1 : decode cX10_rate 1 = .ok (.getfield 28, 3) := by decide +kernel
theorem dX10_rate_4 : decode cX10_rate 4 = .ok (.iload_n 2, 1) := by decide +kernel
theorem dX10_rate_5 : decode cX10_rate 5 = .ok (.invokevirtual 109, 3) := by decide +kernel
theorem dX10_rate_8 : decode cX10_rate 8 = .ok (.ifCond .eq 15, 3) := by decide +kernel
theorem dX10_rate_11 : decode cX10_rate 11 = .ok (.aload_n 0, 1) := by decide +kernel
theorem dX10_rate_12 : decode cX10_rate 12 = .ok (.getfield 79, 3) := by decide +kernel
theorem dX10_rate_15 : decode cX10_rate 15 = .ok (.iload_n 1, 1) := by decide +kernel
theorem dX10_rate_16 : decode cX10_rate 16 = .ok (.iload_n 2, 1) := by decide +kernel
theorem dX10_rate_17 : decode cX10_rate 17 = .ok (.invokevirtual 256, 3) := by decide +kernel
theorem dX10_rate_20 : decode cX10_rate 20 = .ok (.goto 6, 3) := by decide +kernel
theorem dX10_rate_23 : decode cX10_rate 23 = .ok (.ldc_w 259, 3) := by decide +kernel
theorem dX10_rate_26 : decode cX10_rate 26 = .ok (.ireturn, 1) := by decide +kernel
theorem dX10_keep_0 : decode cX10_keep 0 = .ok (.iload_n 1, 1) := by decide +kernel
theorem dX10_keep_1 : decode cX10_keep 1 = .ok (.invokestatic 260, 3) := by decide +kernel
theorem dX10_keep_4 : decode cX10_keep 4 = .ok (.ifCond .ne 5, 3) := by decide +kernel
theorem dX10_keep_7 : decode cX10_keep 7 = .ok (.iconst (-1), 1) := by decide +kernel
theorem dX10_keep_8 : decode cX10_keep 8 = .ok (.ireturn, 1) := by decide +kernel
theorem dX10_keep_9 : decode cX10_keep 9 = .ok (.aload_n 0, 1) := by decide +kernel
theorem dX10_keep_10 : decode cX10_keep 10 = .ok (.getfield 49, 3) := by decide +kernel
theorem dX10_keep_13 : decode cX10_keep 13 = .ok (.iload_n 1, 1) := by decide +kernel
theorem dX10_keep_14 : decode cX10_keep 14 = .ok (.aload_n 0, 1) := by decide +kernel
theorem dX10_keep_15 : decode cX10_keep 15 = .ok (.getfield 35, 3) := by decide +kernel
theorem dX10_keep_18 : decode cX10_keep 18 = .ok (.invokevirtual 263, 3) := by decide +kernel
theorem dX10_keep_21 : decode cX10_keep 21 = .ok (.aload_n 0, 1) := by decide +kernel
theorem dX10_keep_22 : decode cX10_keep 22 = .ok (.getfield 35, 3) := by decide +kernel
theorem dX10_keep_25 : decode cX10_keep 25 = .ok (.invokevirtual 149, 3) := by decide +kernel
theorem dX10_keep_28 : decode cX10_keep 28 = .ok (.ireturn, 1) := by decide +kernel
theorem dX10_back_0 : decode cX10_back 0 = .ok (.iload_n 1, 1) := by decide +kernel
theorem dX10_back_1 : decode cX10_back 1 = .ok (.invokestatic 260, 3) := by decide +kernel
theorem dX10_back_4 : decode cX10_back 4 = .ok (.ifCond .ne 5, 3) := by decide +kernel
theorem dX10_back_7 : decode cX10_back 7 = .ok (.iconst (-1), 1) := by decide +kernel
theorem dX10_back_8 : decode cX10_back 8 = .ok (.ireturn, 1) := by decide +kernel
theorem dX10_back_9 : decode cX10_back 9 = .ok (.aload_n 0, 1) := by decide +kernel
theorem dX10_back_10 : decode cX10_back 10 = .ok (.getfield 49, 3) := by decide +kernel
theorem dX10_back_13 : decode cX10_back 13 = .ok (.iload_n 1, 1) := by decide +kernel
theorem dX10_back_14 : decode cX10_back 14 = .ok (.invokevirtual 267, 3) := by decide +kernel
theorem dX10_back_17 : decode cX10_back 17 = .ok (.ifCond .ne 6, 3) := by decide +kernel
theorem dX10_back_20 : decode cX10_back 20 = .ok (.bipush (-2), 2) := by decide +kernel
theorem dX10_back_22 : decode cX10_back 22 = .ok (.ireturn, 1) := by decide +kernel
theorem dX10_back_23 : decode cX10_back 23 = .ok (.aload_n 0, 1) := by decide +kernel
theorem dX10_back_24 : decode cX10_back 24 = .ok (.getfield 49, 3) := by decide +kernel
theorem dX10_back_27 : decode cX10_back 27 = .ok (.iload_n 1, 1) := by decide +kernel
theorem dX10_back_28 : decode cX10_back 28 = .ok (.aload_n 0, 1) := by decide +kernel
theorem dX10_back_29 : decode cX10_back 29 = .ok (.getfield 35, 3) := by decide +kernel
theorem dX10_back_32 : decode cX10_back 32 = .ok (.invokevirtual 270, 3) := by decide +kernel
theorem dX10_back_35 : decode cX10_back 35 = .ok (.aload_n 0, 1) := by decide +kernel
theorem dX10_back_36 : decode cX10_back 36 = .ok (.getfield 42, 3) := by decide +kernel
theorem dX10_back_39 : decode cX10_back 39 = .ok (.invokevirtual 104, 3) := by decide +kernel
theorem dX10_back_42 : decode cX10_back 42 = .ok (.aload_n 0, 1) := by decide +kernel
theorem dX10_back_43 : decode cX10_back 43 = .ok (.getfield 35, 3) := by decide +kernel
theorem dX10_back_46 : decode cX10_back 46 = .ok (.invokevirtual 149, 3) := by decide +kernel
theorem dX10_back_49 : decode cX10_back 49 = .ok (.ireturn, 1) := by decide +kernel
theorem dX10_count_0 : decode cX10_count 0 = .ok (.iload_n 1, 1) := by decide +kernel
theorem dX10_count_1 : decode cX10_count 1 = .ok (.tableswitch 99 0 6 #[43, 51, 59, 67, 75, 83, 91], 43) := by decide +kernel
theorem dX10_count_44 : decode cX10_count 44 = .ok (.aload_n 0, 1) := by decide +kernel
theorem dX10_count_45 : decode cX10_count 45 = .ok (.getfield 28, 3) := by decide +kernel
theorem dX10_count_48 : decode cX10_count 48 = .ok (.getfield 273, 3) := by decide +kernel
theorem dX10_count_51 : decode cX10_count 51 = .ok (.ireturn, 1) := by decide +kernel
theorem dX10_count_52 : decode cX10_count 52 = .ok (.aload_n 0, 1) := by decide +kernel
theorem dX10_count_53 : decode cX10_count 53 = .ok (.getfield 28, 3) := by decide +kernel
theorem dX10_count_56 : decode cX10_count 56 = .ok (.getfield 276, 3) := by decide +kernel
theorem dX10_count_59 : decode cX10_count 59 = .ok (.ireturn, 1) := by decide +kernel
theorem dX10_count_60 : decode cX10_count 60 = .ok (.aload_n 0, 1) := by decide +kernel
theorem dX10_count_61 : decode cX10_count 61 = .ok (.getfield 28, 3) := by decide +kernel
theorem dX10_count_64 : decode cX10_count 64 = .ok (.getfield 181, 3) := by decide +kernel
theorem dX10_count_67 : decode cX10_count 67 = .ok (.ireturn, 1) := by decide +kernel
theorem dX10_count_68 : decode cX10_count 68 = .ok (.aload_n 0, 1) := by decide +kernel
theorem dX10_count_69 : decode cX10_count 69 = .ok (.getfield 28, 3) := by decide +kernel
theorem dX10_count_72 : decode cX10_count 72 = .ok (.getfield 279, 3) := by decide +kernel
theorem dX10_count_75 : decode cX10_count 75 = .ok (.ireturn, 1) := by decide +kernel
theorem dX10_count_76 : decode cX10_count 76 = .ok (.aload_n 0, 1) := by decide +kernel
theorem dX10_count_77 : decode cX10_count 77 = .ok (.getfield 65, 3) := by decide +kernel
theorem dX10_count_80 : decode cX10_count 80 = .ok (.getfield 241, 3) := by decide +kernel
theorem dX10_count_83 : decode cX10_count 83 = .ok (.ireturn, 1) := by decide +kernel
theorem dX10_count_84 : decode cX10_count 84 = .ok (.aload_n 0, 1) := by decide +kernel
theorem dX10_count_85 : decode cX10_count 85 = .ok (.getfield 72, 3) := by decide +kernel
theorem dX10_count_88 : decode cX10_count 88 = .ok (.getfield 244, 3) := by decide +kernel
theorem dX10_count_91 : decode cX10_count 91 = .ok (.ireturn, 1) := by decide +kernel
theorem dX10_count_92 : decode cX10_count 92 = .ok (.aload_n 0, 1) := by decide +kernel
theorem dX10_count_93 : decode cX10_count 93 = .ok (.getfield 10, 3) := by decide +kernel
theorem dX10_count_96 : decode cX10_count 96 = .ok (.getfield 282, 3) := by decide +kernel
theorem dX10_count_99 : decode cX10_count 99 = .ok (.ireturn, 1) := by decide +kernel
theorem dX10_count_100 : decode cX10_count 100 = .ok (.iconst (-1), 1) := by decide +kernel
theorem dX10_count_101 : decode cX10_count 101 = .ok (.ireturn, 1) := by decide +kernel
theorem dX10_trace_0 : decode cX10_trace 0 = .ok (.aload_n 0, 1) := by decide +kernel
theorem dX10_trace_1 : decode cX10_trace 1 = .ok (.getfield 79, 3) := by decide +kernel
theorem dX10_trace_4 : decode cX10_trace 4 = .ok (.getfield 285, 3) := by decide +kernel
theorem dX10_trace_7 : decode cX10_trace 7 = .ok (.lreturn, 1) := by decide +kernel
theorem dX10_purse_0 : decode cX10_purse 0 = .ok (.iconst 0, 1) := by decide +kernel
theorem dX10_purse_1 : decode cX10_purse 1 = .ok (.istore_n 2, 1) := by decide +kernel
theorem dX10_purse_2 : decode cX10_purse 2 = .ok (.iconst 0, 1) := by decide +kernel
theorem dX10_purse_3 : decode cX10_purse 3 = .ok (.istore_n 3, 1) := by decide +kernel
theorem dX10_purse_4 : decode cX10_purse 4 = .ok (.iload_n 3, 1) := by decide +kernel
theorem dX10_purse_5 : decode cX10_purse 5 = .ok (.aload_n 0, 1) := by decide +kernel
theorem dX10_purse_6 : decode cX10_purse 6 = .ok (.getfield 28, 3) := by decide +kernel
theorem dX10_purse_9 : decode cX10_purse 9 = .ok (.getfield 276, 3) := by decide +kernel
theorem dX10_purse_12 : decode cX10_purse 12 = .ok (.if_icmp .ge 44, 3) := by decide +kernel
theorem dX10_purse_15 : decode cX10_purse 15 = .ok (.aload_n 0, 1) := by decide +kernel
theorem dX10_purse_16 : decode cX10_purse 16 = .ok (.getfield 35, 3) := by decide +kernel
theorem dX10_purse_19 : decode cX10_purse 19 = .ok (.iload_n 3, 1) := by decide +kernel
theorem dX10_purse_20 : decode cX10_purse 20 = .ok (.invokevirtual 119, 3) := by decide +kernel
theorem dX10_purse_23 : decode cX10_purse 23 = .ok (.iload_n 1, 1) := by decide +kernel
theorem dX10_purse_24 : decode cX10_purse 24 = .ok (.if_icmp .ne 26, 3) := by decide +kernel
theorem dX10_purse_27 : decode cX10_purse 27 = .ok (.aload_n 0, 1) := by decide +kernel
theorem dX10_purse_28 : decode cX10_purse 28 = .ok (.getfield 35, 3) := by decide +kernel
theorem dX10_purse_31 : decode cX10_purse 31 = .ok (.iload_n 3, 1) := by decide +kernel
theorem dX10_purse_32 : decode cX10_purse 32 = .ok (.invokevirtual 128, 3) := by decide +kernel
theorem dX10_purse_35 : decode cX10_purse 35 = .ok (.ifCond .ne 15, 3) := by decide +kernel
theorem dX10_purse_38 : decode cX10_purse 38 = .ok (.iload_n 2, 1) := by decide +kernel
theorem dX10_purse_39 : decode cX10_purse 39 = .ok (.aload_n 0, 1) := by decide +kernel
theorem dX10_purse_40 : decode cX10_purse 40 = .ok (.getfield 28, 3) := by decide +kernel
theorem dX10_purse_43 : decode cX10_purse 43 = .ok (.getfield 113, 3) := by decide +kernel
theorem dX10_purse_46 : decode cX10_purse 46 = .ok (.iload_n 3, 1) := by decide +kernel
theorem dX10_purse_47 : decode cX10_purse 47 = .ok (.iaload, 1) := by decide +kernel
theorem dX10_purse_48 : decode cX10_purse 48 = .ok (.iadd, 1) := by decide +kernel
theorem dX10_purse_49 : decode cX10_purse 49 = .ok (.istore_n 2, 1) := by decide +kernel
theorem dX10_purse_50 : decode cX10_purse 50 = .ok (.iinc 3 1, 3) := by decide +kernel
theorem dX10_purse_53 : decode cX10_purse 53 = .ok (.goto (-49), 3) := by decide +kernel
theorem dX10_purse_56 : decode cX10_purse 56 = .ok (.iload_n 2, 1) := by decide +kernel
theorem dX10_purse_57 : decode cX10_purse 57 = .ok (.ireturn, 1) := by decide +kernel
theorem dX10_isYesOrNo_0 : decode cX10_isYesOrNo 0 = .ok (.iload_n 0, 1) := by decide +kernel
theorem dX10_isYesOrNo_1 : decode cX10_isYesOrNo 1 = .ok (.ifCond .eq 8, 3) := by decide +kernel
theorem dX10_isYesOrNo_4 : decode cX10_isYesOrNo 4 = .ok (.iload_n 0, 1) := by decide +kernel
theorem dX10_isYesOrNo_5 : decode cX10_isYesOrNo 5 = .ok (.iconst 1, 1) := by decide +kernel
theorem dX10_isYesOrNo_6 : decode cX10_isYesOrNo 6 = .ok (.if_icmp .ne 7, 3) := by decide +kernel
theorem dX10_isYesOrNo_9 : decode cX10_isYesOrNo 9 = .ok (.iconst 1, 1) := by decide +kernel
theorem dX10_isYesOrNo_10 : decode cX10_isYesOrNo 10 = .ok (.goto 4, 3) := by decide +kernel
theorem dX10_isYesOrNo_13 : decode cX10_isYesOrNo 13 = .ok (.iconst 0, 1) := by decide +kernel
theorem dX10_isYesOrNo_14 : decode cX10_isYesOrNo 14 = .ok (.ireturn, 1) := by decide +kernel
theorem dX10_isImage_0 : decode cX10_isImage 0 = .ok (.iload_n 0, 1) := by decide +kernel
theorem dX10_isImage_1 : decode cX10_isImage 1 = .ok (.ifCond .lt 12, 3) := by decide +kernel
theorem dX10_isImage_4 : decode cX10_isImage 4 = .ok (.iload_n 0, 1) := by decide +kernel
theorem dX10_isImage_5 : decode cX10_isImage 5 = .ok (.iconst 2, 1) := by decide +kernel
theorem dX10_isImage_6 : decode cX10_isImage 6 = .ok (.if_icmp .ge 7, 3) := by decide +kernel
theorem dX10_isImage_9 : decode cX10_isImage 9 = .ok (.iconst 1, 1) := by decide +kernel
theorem dX10_isImage_10 : decode cX10_isImage 10 = .ok (.goto 4, 3) := by decide +kernel
theorem dX10_isImage_13 : decode cX10_isImage 13 = .ok (.iconst 0, 1) := by decide +kernel
theorem dX10_isImage_14 : decode cX10_isImage 14 = .ok (.ireturn, 1) := by decide +kernel
theorem dX10_hasBit_0 : decode cX10_hasBit 0 = .ok (.iload_n 0, 1) := by decide +kernel
theorem dX10_hasBit_1 : decode cX10_hasBit 1 = .ok (.iload_n 1, 1) := by decide +kernel
theorem dX10_hasBit_2 : decode cX10_hasBit 2 = .ok (.ishr, 1) := by decide +kernel
theorem dX10_hasBit_3 : decode cX10_hasBit 3 = .ok (.iconst 1, 1) := by decide +kernel
theorem dX10_hasBit_4 : decode cX10_hasBit 4 = .ok (.iand, 1) := by decide +kernel
theorem dX10_hasBit_5 : decode cX10_hasBit 5 = .ok (.iconst 1, 1) := by decide +kernel
theorem dX10_hasBit_6 : decode cX10_hasBit 6 = .ok (.if_icmp .ne 7, 3) := by decide +kernel
theorem dX10_hasBit_9 : decode cX10_hasBit 9 = .ok (.iconst 1, 1) := by decide +kernel
theorem dX10_hasBit_10 : decode cX10_hasBit 10 = .ok (.goto 4, 3) := by decide +kernel
theorem dX10_hasBit_13 : decode cX10_hasBit 13 = .ok (.iconst 0, 1) := by decide +kernel
theorem dX10_hasBit_14 : decode cX10_hasBit 14 = .ok (.ireturn, 1) := by decide +kernel
theorem dX10_inLeastTerms_0 : decode cX10_inLeastTerms 0 = .ok (.iload_n 1, 1) := by decide +kernel
theorem dX10_inLeastTerms_1 : decode cX10_inLeastTerms 1 = .ok (.istore_n 3, 1) := by decide +kernel
theorem dX10_inLeastTerms_2 : decode cX10_inLeastTerms 2 = .ok (.iload_n 3, 1) := by decide +kernel
theorem dX10_inLeastTerms_3 : decode cX10_inLeastTerms 3 = .ok (.ifCond .le 33, 3) := by decide +kernel
theorem dX10_inLeastTerms_6 : decode cX10_inLeastTerms 6 = .ok (.iload_n 0, 1) := by decide +kernel
theorem dX10_inLeastTerms_7 : decode cX10_inLeastTerms 7 = .ok (.iload_n 3, 1) := by decide +kernel
theorem dX10_inLeastTerms_8 : decode cX10_inLeastTerms 8 = .ok (.irem, 1) := by decide +kernel
theorem dX10_inLeastTerms_9 : decode cX10_inLeastTerms 9 = .ok (.ifCond .ne 21, 3) := by decide +kernel
theorem dX10_inLeastTerms_12 : decode cX10_inLeastTerms 12 = .ok (.iload_n 1, 1) := by decide +kernel
theorem dX10_inLeastTerms_13 : decode cX10_inLeastTerms 13 = .ok (.iload_n 3, 1) := by decide +kernel
theorem dX10_inLeastTerms_14 : decode cX10_inLeastTerms 14 = .ok (.irem, 1) := by decide +kernel
theorem dX10_inLeastTerms_15 : decode cX10_inLeastTerms 15 = .ok (.ifCond .ne 15, 3) := by decide +kernel
theorem dX10_inLeastTerms_18 : decode cX10_inLeastTerms 18 = .ok (.iload_n 2, 1) := by decide +kernel
theorem dX10_inLeastTerms_19 : decode cX10_inLeastTerms 19 = .ok (.ifCond .ne 7, 3) := by decide +kernel
theorem dX10_inLeastTerms_22 : decode cX10_inLeastTerms 22 = .ok (.iload_n 0, 1) := by decide +kernel
theorem dX10_inLeastTerms_23 : decode cX10_inLeastTerms 23 = .ok (.goto 4, 3) := by decide +kernel
theorem dX10_inLeastTerms_26 : decode cX10_inLeastTerms 26 = .ok (.iload_n 1, 1) := by decide +kernel
theorem dX10_inLeastTerms_27 : decode cX10_inLeastTerms 27 = .ok (.iload_n 3, 1) := by decide +kernel
theorem dX10_inLeastTerms_28 : decode cX10_inLeastTerms 28 = .ok (.idiv, 1) := by decide +kernel
theorem dX10_inLeastTerms_29 : decode cX10_inLeastTerms 29 = .ok (.ireturn, 1) := by decide +kernel
theorem dX10_inLeastTerms_30 : decode cX10_inLeastTerms 30 = .ok (.iinc 3 (-1), 3) := by decide +kernel
theorem dX10_inLeastTerms_33 : decode cX10_inLeastTerms 33 = .ok (.goto (-31), 3) := by decide +kernel
theorem dX10_inLeastTerms_36 : decode cX10_inLeastTerms 36 = .ok (.iload_n 2, 1) := by decide +kernel
theorem dX10_inLeastTerms_37 : decode cX10_inLeastTerms 37 = .ok (.ifCond .ne 7, 3) := by decide +kernel
theorem dX10_inLeastTerms_40 : decode cX10_inLeastTerms 40 = .ok (.iconst 0, 1) := by decide +kernel
theorem dX10_inLeastTerms_41 : decode cX10_inLeastTerms 41 = .ok (.goto 4, 3) := by decide +kernel
theorem dX10_inLeastTerms_44 : decode cX10_inLeastTerms 44 = .ok (.iconst 1, 1) := by decide +kernel
theorem dX10_inLeastTerms_45 : decode cX10_inLeastTerms 45 = .ok (.ireturn, 1) := by decide +kernel
theorem dX11_init_0 : decode cX11_init 0 = .ok (.aload_n 0, 1) := by decide +kernel
theorem dX11_init_1 : decode cX11_init 1 = .ok (.invokespecial 1, 3) := by decide +kernel
theorem dX11_init_4 : decode cX11_init 4 = .ok (.aload_n 0, 1) := by decide +kernel
theorem dX11_init_5 : decode cX11_init 5 = .ok (.sipush 150, 3) := by decide +kernel
theorem dX11_init_8 : decode cX11_init 8 = .ok (.newarray .int, 2) := by decide +kernel
theorem dX11_init_10 : decode cX11_init 10 = .ok (.putfield 7, 3) := by decide +kernel
theorem dX11_init_13 : decode cX11_init 13 = .ok (.aload_n 0, 1) := by decide +kernel
theorem dX11_init_14 : decode cX11_init 14 = .ok (.bipush 8, 2) := by decide +kernel
theorem dX11_init_16 : decode cX11_init 16 = .ok (.newarray .int, 2) := by decide +kernel
theorem dX11_init_18 : decode cX11_init 18 = .ok (.putfield 13, 3) := by decide +kernel
theorem dX11_init_21 : decode cX11_init 21 = .ok (.aload_n 0, 1) := by decide +kernel
theorem dX11_init_22 : decode cX11_init 22 = .ok (.iconst 5, 1) := by decide +kernel
theorem dX11_init_23 : decode cX11_init 23 = .ok (.newarray .int, 2) := by decide +kernel
theorem dX11_init_25 : decode cX11_init 25 = .ok (.putfield 16, 3) := by decide +kernel
theorem dX11_init_28 : decode cX11_init 28 = .ok (.aload_n 0, 1) := by decide +kernel
theorem dX11_init_29 : decode cX11_init 29 = .ok (.bipush 12, 2) := by decide +kernel
theorem dX11_init_31 : decode cX11_init 31 = .ok (.newarray .int, 2) := by decide +kernel
theorem dX11_init_33 : decode cX11_init 33 = .ok (.putfield 19, 3) := by decide +kernel
theorem dX11_init_36 : decode cX11_init 36 = .ok (.aload_n 0, 1) := by decide +kernel
theorem dX11_init_37 : decode cX11_init 37 = .ok (.bipush 12, 2) := by decide +kernel
theorem dX11_init_39 : decode cX11_init 39 = .ok (.newarray .int, 2) := by decide +kernel
theorem dX11_init_41 : decode cX11_init 41 = .ok (.putfield 22, 3) := by decide +kernel
theorem dX11_init_44 : decode cX11_init 44 = .ok (.aload_n 0, 1) := by decide +kernel
theorem dX11_init_45 : decode cX11_init 45 = .ok (.bipush 6, 2) := by decide +kernel
theorem dX11_init_47 : decode cX11_init 47 = .ok (.newarray .int, 2) := by decide +kernel
theorem dX11_init_49 : decode cX11_init 49 = .ok (.putfield 25, 3) := by decide +kernel
theorem dX11_init_52 : decode cX11_init 52 = .ok (.aload_n 0, 1) := by decide +kernel
theorem dX11_init_53 : decode cX11_init 53 = .ok (.bipush 20, 2) := by decide +kernel
theorem dX11_init_55 : decode cX11_init 55 = .ok (.newarray .int, 2) := by decide +kernel
theorem dX11_init_57 : decode cX11_init 57 = .ok (.putfield 28, 3) := by decide +kernel
theorem dX11_init_60 : decode cX11_init 60 = .ok (.aload_n 0, 1) := by decide +kernel
theorem dX11_init_61 : decode cX11_init 61 = .ok (.bipush 40, 2) := by decide +kernel
theorem dX11_init_63 : decode cX11_init 63 = .ok (.newarray .int, 2) := by decide +kernel
theorem dX11_init_65 : decode cX11_init 65 = .ok (.putfield 31, 3) := by decide +kernel
theorem dX11_init_68 : decode cX11_init 68 = .ok (.aload_n 0, 1) := by decide +kernel
theorem dX11_init_69 : decode cX11_init 69 = .ok (.iconst 2, 1) := by decide +kernel
theorem dX11_init_70 : decode cX11_init 70 = .ok (.newarray .boolean, 2) := by decide +kernel
theorem dX11_init_72 : decode cX11_init 72 = .ok (.putfield 34, 3) := by decide +kernel
theorem dX11_init_75 : decode cX11_init 75 = .ok (.aload_n 0, 1) := by decide +kernel
theorem dX11_init_76 : decode cX11_init 76 = .ok (.sipush 200, 3) := by decide +kernel
theorem dX11_init_79 : decode cX11_init 79 = .ok (.newarray .int, 2) := by decide +kernel
theorem dX11_init_81 : decode cX11_init 81 = .ok (.putfield 38, 3) := by decide +kernel
theorem dX11_init_84 : decode cX11_init 84 = .ok (.aload_n 0, 1) := by decide +kernel
theorem dX11_init_85 : decode cX11_init 85 = .ok (.bipush 6, 2) := by decide +kernel
theorem dX11_init_87 : decode cX11_init 87 = .ok (.newarray .int, 2) := by decide +kernel
theorem dX11_init_89 : decode cX11_init 89 = .ok (.putfield 41, 3) := by decide +kernel
theorem dX11_init_92 : decode cX11_init 92 = .ok (.aload_n 0, 1) := by decide +kernel
theorem dX11_init_93 : decode cX11_init 93 = .ok (.bipush 6, 2) := by decide +kernel
theorem dX11_init_95 : decode cX11_init 95 = .ok (.newarray .int, 2) := by decide +kernel
theorem dX11_init_97 : decode cX11_init 97 = .ok (.putfield 44, 3) := by decide +kernel
theorem dX11_init_100 : decode cX11_init 100 = .ok (.aload_n 0, 1) := by decide +kernel
theorem dX11_init_101 : decode cX11_init 101 = .ok (.bipush 6, 2) := by decide +kernel
theorem dX11_init_103 : decode cX11_init 103 = .ok (.newarray .int, 2) := by decide +kernel
theorem dX11_init_105 : decode cX11_init 105 = .ok (.putfield 47, 3) := by decide +kernel
theorem dX11_init_108 : decode cX11_init 108 = .ok (.aload_n 0, 1) := by decide +kernel
theorem dX11_init_109 : decode cX11_init 109 = .ok (.bipush 6, 2) := by decide +kernel
theorem dX11_init_111 : decode cX11_init 111 = .ok (.newarray .int, 2) := by decide +kernel
theorem dX11_init_113 : decode cX11_init 113 = .ok (.putfield 50, 3) := by decide +kernel
theorem dX11_init_116 : decode cX11_init 116 = .ok (.aload_n 0, 1) := by decide +kernel
theorem dX11_init_117 : decode cX11_init 117 = .ok (.iconst 5, 1) := by decide +kernel
theorem dX11_init_118 : decode cX11_init 118 = .ok (.newarray .int, 2) := by decide +kernel
theorem dX11_init_120 : decode cX11_init 120 = .ok (.putfield 53, 3) := by decide +kernel
theorem dX11_init_123 : decode cX11_init 123 = .ok (.aload_n 0, 1) := by decide +kernel
theorem dX11_init_124 : decode cX11_init 124 = .ok (.iconst 5, 1) := by decide +kernel
theorem dX11_init_125 : decode cX11_init 125 = .ok (.newarray .int, 2) := by decide +kernel
theorem dX11_init_127 : decode cX11_init 127 = .ok (.putfield 56, 3) := by decide +kernel
theorem dX11_init_130 : decode cX11_init 130 = .ok (.aload_n 0, 1) := by decide +kernel
theorem dX11_init_131 : decode cX11_init 131 = .ok (.invokevirtual 59, 3) := by decide +kernel
theorem dX11_init_134 : decode cX11_init 134 = .ok (.aload_n 0, 1) := by decide +kernel
theorem dX11_init_135 : decode cX11_init 135 = .ok (.invokevirtual 62, 3) := by decide +kernel
theorem dX11_init_138 : decode cX11_init 138 = .ok (.return_, 1) := by decide +kernel
theorem dX11_in_0 : decode cX11_in 0 = .ok (.iload_n 0, 1) := by decide +kernel
theorem dX11_in_1 : decode cX11_in 1 = .ok (.iload_n 1, 1) := by decide +kernel
theorem dX11_in_2 : decode cX11_in 2 = .ok (.if_icmp .lt 12, 3) := by decide +kernel
theorem dX11_in_5 : decode cX11_in 5 = .ok (.iload_n 0, 1) := by decide +kernel
theorem dX11_in_6 : decode cX11_in 6 = .ok (.iload_n 2, 1) := by decide +kernel
theorem dX11_in_7 : decode cX11_in 7 = .ok (.if_icmp .gt 7, 3) := by decide +kernel
theorem dX11_in_10 : decode cX11_in 10 = .ok (.iconst 1, 1) := by decide +kernel
theorem dX11_in_11 : decode cX11_in 11 = .ok (.goto 4, 3) := by decide +kernel
theorem dX11_in_14 : decode cX11_in 14 = .ok (.iconst 0, 1) := by decide +kernel
theorem dX11_in_15 : decode cX11_in 15 = .ok (.ireturn, 1) := by decide +kernel
theorem dX11_ones_0 : decode cX11_ones 0 = .ok (.iconst 0, 1) := by decide +kernel
theorem dX11_ones_1 : decode cX11_ones 1 = .ok (.istore_n 1, 1) := by decide +kernel
theorem dX11_ones_2 : decode cX11_ones 2 = .ok (.iconst 0, 1) := by decide +kernel
theorem dX11_ones_3 : decode cX11_ones 3 = .ok (.istore_n 2, 1) := by decide +kernel
theorem dX11_ones_4 : decode cX11_ones 4 = .ok (.iload_n 2, 1) := by decide +kernel
theorem dX11_ones_5 : decode cX11_ones 5 = .ok (.bipush 6, 2) := by decide +kernel
theorem dX11_ones_7 : decode cX11_ones 7 = .ok (.if_icmp .ge 17, 3) := by decide +kernel
theorem dX11_ones_10 : decode cX11_ones 10 = .ok (.iload_n 1, 1) := by decide +kernel
theorem dX11_ones_11 : decode cX11_ones 11 = .ok (.iload_n 0, 1) := by decide +kernel
theorem dX11_ones_12 : decode cX11_ones 12 = .ok (.iload_n 2, 1) := by decide +kernel
theorem dX11_ones_13 : decode cX11_ones 13 = .ok (.ishr, 1) := by decide +kernel
theorem dX11_ones_14 : decode cX11_ones 14 = .ok (.iconst 1, 1) := by decide +kernel
theorem dX11_ones_15 : decode cX11_ones 15 = .ok (.iand, 1) := by decide +kernel
theorem dX11_ones_16 : decode cX11_ones 16 = .ok (.iadd, 1) := by decide +kernel
theorem dX11_ones_17 : decode cX11_ones 17 = .ok (.istore_n 1, 1) := by decide +kernel
theorem dX11_ones_18 : decode cX11_ones 18 = .ok (.iinc 2 1, 3) := by decide +kernel
theorem dX11_ones_21 : decode cX11_ones 21 = .ok (.goto (-17), 3) := by decide +kernel
theorem dX11_ones_24 : decode cX11_ones 24 = .ok (.iload_n 1, 1) := by decide +kernel
theorem dX11_ones_25 : decode cX11_ones 25 = .ok (.ireturn, 1) := by decide +kernel
theorem dX11_type_0 : decode cX11_type 0 = .ok (.aload_n 0, 1) := by decide +kernel
theorem dX11_type_1 : decode cX11_type 1 = .ok (.iconst 0, 1) := by decide +kernel
theorem dX11_type_2 : decode cX11_type 2 = .ok (.putfield 65, 3) := by decide +kernel
theorem dX11_type_5 : decode cX11_type 5 = .ok (.iload_n 1, 1) := by decide +kernel
theorem dX11_type_6 : decode cX11_type 6 = .ok (.iconst 0, 1) := by decide +kernel
theorem dX11_type_7 : decode cX11_type 7 = .ok (.sipush 255, 3) := by decide +kernel
theorem dX11_type_10 : decode cX11_type 10 = .ok (.invokestatic 69, 3) := by decide +kernel
theorem dX11_type_13 : decode cX11_type 13 = .ok (.ifCond .ne 5, 3) := by decide +kernel
theorem dX11_type_16 : decode cX11_type 16 = .ok (.iconst (-1), 1) := by decide +kernel
theorem dX11_type_17 : decode cX11_type 17 = .ok (.ireturn, 1) := by decide +kernel
theorem dX11_type_18 : decode cX11_type 18 = .ok (.aload_n 0, 1) := by decide +kernel
theorem dX11_type_19 : decode cX11_type 19 = .ok (.getfield 73, 3) := by decide +kernel
theorem dX11_type_22 : decode cX11_type 22 = .ok (.sipush 150, 3) := by decide +kernel
theorem dX11_type_25 : decode cX11_type 25 = .ok (.if_icmp .ne 6, 3) := by decide +kernel
theorem dX11_type_28 : decode cX11_type 28 = .ok (.bipush (-3), 2) := by decide +kernel
theorem dX11_type_30 : decode cX11_type 30 = .ok (.ireturn, 1) := by decide +kernel
theorem dX11_type_31 : decode cX11_type 31 = .ok (.aload_n 0, 1) := by decide +kernel
theorem dX11_type_32 : decode cX11_type 32 = .ok (.getfield 7, 3) := by decide +kernel
theorem dX11_type_35 : decode cX11_type 35 = .ok (.aload_n 0, 1) := by decide +kernel
theorem dX11_type_36 : decode cX11_type 36 = .ok (.getfield 73, 3) := by decide +kernel
theorem dX11_type_39 : decode cX11_type 39 = .ok (.iload_n 1, 1) := by decide +kernel
theorem dX11_type_40 : decode cX11_type 40 = .ok (.iastore, 1) := by decide +kernel
theorem dX11_type_41 : decode cX11_type 41 = .ok (.aload_n 0, 1) := by decide +kernel
theorem dX11_type_42 : decode cX11_type 42 = .ok (.dup, 1) := by decide +kernel
theorem dX11_type_43 : decode cX11_type 43 = .ok (.getfield 73, 3) := by decide +kernel
theorem dX11_type_46 : decode cX11_type 46 = .ok (.iconst 1, 1) := by decide +kernel
theorem dX11_type_47 : decode cX11_type 47 = .ok (.iadd, 1) := by decide +kernel
theorem dX11_type_48 : decode cX11_type 48 = .ok (.putfield 73, 3) := by decide +kernel
theorem dX11_type_51 : decode cX11_type 51 = .ok (.aload_n 0, 1) := by decide +kernel
theorem dX11_type_52 : decode cX11_type 52 = .ok (.getfield 73, 3) := by decide +kernel
theorem dX11_type_55 : decode cX11_type 55 = .ok (.ireturn, 1) := by decide +kernel
theorem dX11_clear_0 : decode cX11_clear 0 = .ok (.aload_n 0, 1) := by decide +kernel
theorem dX11_clear_1 : decode cX11_clear 1 = .ok (.iconst 0, 1) := by decide +kernel
theorem dX11_clear_2 : decode cX11_clear 2 = .ok (.putfield 65, 3) := by decide +kernel
theorem dX11_clear_5 : decode cX11_clear 5 = .ok (.aload_n 0, 1) := by decide +kernel
theorem dX11_clear_6 : decode cX11_clear 6 = .ok (.getfield 73, 3) := by decide +kernel
theorem dX11_clear_9 : decode cX11_clear 9 = .ok (.istore_n 1, 1) := by decide +kernel
theorem dX11_clear_10 : decode cX11_clear 10 = .ok (.aload_n 0, 1) := by decide +kernel
theorem dX11_clear_11 : decode cX11_clear 11 = .ok (.iconst 0, 1) := by decide +kernel
theorem dX11_clear_12 : decode cX11_clear 12 = .ok (.putfield 73, 3) := by decide +kernel
theorem dX11_clear_15 : decode cX11_clear 15 = .ok (.iload_n 1, 1) := by decide +kernel
theorem dX11_clear_16 : decode cX11_clear 16 = .ok (.ireturn, 1) := by decide +kernel
theorem dX11_letterAt_0 : decode cX11_letterAt 0 = .ok (.iload_n 1, 1) := by decide +kernel
theorem dX11_letterAt_1 : decode cX11_letterAt 1 = .ok (.aload_n 0, 1) := by decide +kernel
theorem dX11_letterAt_2 : decode cX11_letterAt 2 = .ok (.getfield 73, 3) := by decide +kernel
theorem dX11_letterAt_5 : decode cX11_letterAt 5 = .ok (.if_icmp .ge 12, 3) := by decide +kernel
theorem dX11_letterAt_8 : decode cX11_letterAt 8 = .ok (.aload_n 0, 1) := by decide +kernel
theorem dX11_letterAt_9 : decode cX11_letterAt 9 = .ok (.getfield 7, 3) := by decide +kernel
theorem dX11_letterAt_12 : decode cX11_letterAt 12 = .ok (.iload_n 1, 1) := by decide +kernel
theorem dX11_letterAt_13 : decode cX11_letterAt 13 = .ok (.iaload, 1) := by decide +kernel
theorem dX11_letterAt_14 : decode cX11_letterAt 14 = .ok (.goto 4, 3) := by decide +kernel
theorem dX11_letterAt_17 : decode cX11_letterAt 17 = .ok (.iconst (-1), 1) := by decide +kernel
theorem dX11_letterAt_18 : decode cX11_letterAt 18 = .ok (.ireturn, 1) := by decide +kernel
theorem dX11_advances_0 : decode cX11_advances 0 = .ok (.aload_n 0, 1) := by decide +kernel
theorem dX11_advances_1 : decode cX11_advances 1 = .ok (.aload_n 0, 1) := by decide +kernel
theorem dX11_advances_2 : decode cX11_advances 2 = .ok (.getfield 76, 3) := by decide +kernel
theorem dX11_advances_5 : decode cX11_advances 5 = .ok (.invokevirtual 79, 3) := by decide +kernel
theorem dX11_advances_8 : decode cX11_advances 8 = .ok (.bipush 32, 2) := by decide +kernel
theorem dX11_advances_10 : decode cX11_advances 10 = .ok (.if_icmp .ne 16, 3) := by decide +kernel
theorem dX11_advances_13 : decode cX11_advances 13 = .ok (.aload_n 0, 1) := by decide +kernel
theorem dX11_advances_14 : decode cX11_advances 14 = .ok (.dup, 1) := by decide +kernel
theorem dX11_advances_15 : decode cX11_advances 15 = .ok (.getfield 76, 3) := by decide +kernel
theorem dX11_advances_18 : decode cX11_advances 18 = .ok (.iconst 1, 1) := by decide +kernel
theorem dX11_advances_19 : decode cX11_advances 19 = .ok (.iadd, 1) := by decide +kernel
theorem dX11_advances_20 : decode cX11_advances 20 = .ok (.putfield 76, 3) := by decide +kernel
theorem dX11_advances_23 : decode cX11_advances 23 = .ok (.goto (-23), 3) := by decide +kernel
theorem dX11_advances_26 : decode cX11_advances 26 = .ok (.aload_n 0, 1) := by decide +kernel
theorem dX11_advances_27 : decode cX11_advances 27 = .ok (.aload_n 0, 1) := by decide +kernel
theorem dX11_advances_28 : decode cX11_advances 28 = .ok (.getfield 76, 3) := by decide +kernel
theorem dX11_advances_31 : decode cX11_advances 31 = .ok (.putfield 83, 3) := by decide +kernel
theorem dX11_advances_34 : decode cX11_advances 34 = .ok (.aload_n 0, 1) := by decide +kernel
theorem dX11_advances_35 : decode cX11_advances 35 = .ok (.aload_n 0, 1) := by decide +kernel
theorem dX11_advances_36 : decode cX11_advances 36 = .ok (.getfield 76, 3) := by decide +kernel
theorem dX11_advances_39 : decode cX11_advances 39 = .ok (.invokevirtual 79, 3) := by decide +kernel
theorem dX11_advances_42 : decode cX11_advances 42 = .ok (.istore_n 1, 1) := by decide +kernel
theorem dX11_advances_43 : decode cX11_advances 43 = .ok (.iload_n 1, 1) := by decide +kernel
theorem dX11_advances_44 : decode cX11_advances 44 = .ok (.ifCond .ge 11, 3) := by decide +kernel
theorem dX11_advances_47 : decode cX11_advances 47 = .ok (.aload_n 0, 1) := by decide +kernel
theorem dX11_advances_48 : decode cX11_advances 48 = .ok (.iconst 0, 1) := by decide +kernel
theorem dX11_advances_49 : decode cX11_advances 49 = .ok (.putfield 86, 3) := by decide +kernel
theorem dX11_advances_52 : decode cX11_advances 52 = .ok (.goto 187, 3) := by decide +kernel
theorem dX11_advances_55 : decode cX11_advances 55 = .ok (.iload_n 1, 1) := by decide +kernel
theorem dX11_advances_56 : decode cX11_advances 56 = .ok (.bipush 48, 2) := by decide +kernel
theorem dX11_advances_58 : decode cX11_advances 58 = .ok (.bipush 57, 2) := by decide +kernel
theorem dX11_advances_60 : decode cX11_advances 60 = .ok (.invokestatic 69, 3) := by decide +kernel
theorem dX11_advances_63 : decode cX11_advances 63 = .ok (.ifCond .eq 118, 3) := by decide +kernel
theorem dX11_advances_66 : decode cX11_advances 66 = .ok (.aload_n 0, 1) := by decide +kernel
theorem dX11_advances_67 : decode cX11_advances 67 = .ok (.iconst 0, 1) := by decide +kernel
theorem dX11_advances_68 : decode cX11_advances 68 = .ok (.putfield 89, 3) := by decide +kernel
theorem dX11_advances_71 : decode cX11_advances 71 = .ok (.aload_n 0, 1) := by decide +kernel
theorem dX11_advances_72 : decode cX11_advances 72 = .ok (.aload_n 0, 1) := by decide +kernel
theorem dX11_advances_73 : decode cX11_advances 73 = .ok (.getfield 76, 3) := by decide +kernel
theorem dX11_advances_76 : decode cX11_advances 76 = .ok (.invokevirtual 79, 3) := by decide +kernel
theorem dX11_advances_79 : decode cX11_advances 79 = .ok (.bipush 48, 2) := by decide +kernel
theorem dX11_advances_81 : decode cX11_advances 81 = .ok (.bipush 57, 2) := by decide +kernel
theorem dX11_advances_83 : decode cX11_advances 83 = .ok (.invokestatic 69, 3) := by decide +kernel
theorem dX11_advances_86 : decode cX11_advances 86 = .ok (.ifCond .eq 55, 3) := by decide +kernel
theorem dX11_advances_89 : decode cX11_advances 89 = .ok (.aload_n 0, 1) := by decide +kernel
theorem dX11_advances_90 : decode cX11_advances 90 = .ok (.aload_n 0, 1) := by decide +kernel
theorem dX11_advances_91 : decode cX11_advances 91 = .ok (.getfield 89, 3) := by decide +kernel
theorem dX11_advances_94 : decode cX11_advances 94 = .ok (.bipush 99, 2) := by decide +kernel
theorem dX11_advances_96 : decode cX11_advances 96 = .ok (.if_icmp .le 10, 3) := by decide +kernel
theorem dX11_advances_99 : decode cX11_advances 99 = .ok (.aload_n 0, 1) := by decide +kernel
theorem dX11_advances_100 : decode cX11_advances 100 = .ok (.getfield 89, 3) := by decide +kernel
theorem dX11_advances_103 : decode cX11_advances 103 = .ok (.goto 22, 3) := by decide +kernel
theorem dX11_advances_106 : decode cX11_advances 106 = .ok (.bipush 10, 2) := by decide +kernel
theorem dX11_advances_108 : decode cX11_advances 108 = .ok (.aload_n 0, 1) := by decide +kernel
theorem dX11_advances_109 : decode cX11_advances 109 = .ok (.getfield 89, 3) := by decide +kernel
theorem dX11_advances_112 : decode cX11_advances 112 = .ok (.imul, 1) := by decide +kernel
theorem dX11_advances_113 : decode cX11_advances 113 = .ok (.aload_n 0, 1) := by decide +kernel
theorem dX11_advances_114 : decode cX11_advances 114 = .ok (.aload_n 0, 1) := by decide +kernel
theorem dX11_advances_115 : decode cX11_advances 115 = .ok (.getfield 76, 3) := by decide +kernel
theorem dX11_advances_118 : decode cX11_advances 118 = .ok (.invokevirtual 79, 3) := by decide +kernel
theorem dX11_advances_121 : decode cX11_advances 121 = .ok (.iadd, 1) := by decide +kernel
theorem dX11_advances_122 : decode cX11_advances 122 = .ok (.bipush 48, 2) := by decide +kernel
theorem dX11_advances_124 : decode cX11_advances 124 = .ok (.isub, 1) := by decide +kernel
theorem dX11_advances_125 : decode cX11_advances 125 = .ok (.putfield 89, 3) := by decide +kernel
theorem dX11_advances_128 : decode cX11_advances 128 = .ok (.aload_n 0, 1) := by decide +kernel
theorem dX11_advances_129 : decode cX11_advances 129 = .ok (.dup, 1) := by decide +kernel
theorem dX11_advances_130 : decode cX11_advances 130 = .ok (.getfield 76, 3) := by decide +kernel
theorem dX11_advances_133 : decode cX11_advances 133 = .ok (.iconst 1, 1) := by decide +kernel
theorem dX11_advances_134 : decode cX11_advances 134 = .ok (.iadd, 1) := by decide +kernel
theorem dX11_advances_135 : decode cX11_advances 135 = .ok (.putfield 76, 3) := by decide +kernel
theorem dX11_advances_138 : decode cX11_advances 138 = .ok (.goto (-67), 3) := by decide +kernel
theorem dX11_advances_141 : decode cX11_advances 141 = .ok (.aload_n 0, 1) := by decide +kernel
theorem dX11_advances_142 : decode cX11_advances 142 = .ok (.aload_n 0, 1) := by decide +kernel
theorem dX11_advances_143 : decode cX11_advances 143 = .ok (.getfield 89, 3) := by decide +kernel
theorem dX11_advances_146 : decode cX11_advances 146 = .ok (.bipush 99, 2) := by decide +kernel
theorem dX11_advances_148 : decode cX11_advances 148 = .ok (.if_icmp .gt 22, 3) := by decide +kernel
theorem dX11_advances_151 : decode cX11_advances 151 = .ok (.iload_n 1, 1) := by decide +kernel
theorem dX11_advances_152 : decode cX11_advances 152 = .ok (.bipush 48, 2) := by decide +kernel
theorem dX11_advances_154 : decode cX11_advances 154 = .ok (.if_icmp .ne 20, 3) := by decide +kernel
theorem dX11_advances_157 : decode cX11_advances 157 = .ok (.aload_n 0, 1) := by decide +kernel
theorem dX11_advances_158 : decode cX11_advances 158 = .ok (.getfield 76, 3) := by decide +kernel
theorem dX11_advances_161 : decode cX11_advances 161 = .ok (.aload_n 0, 1) := by decide +kernel
theorem dX11_advances_162 : decode cX11_advances 162 = .ok (.getfield 83, 3) := by decide +kernel
theorem dX11_advances_165 : decode cX11_advances 165 = .ok (.isub, 1) := by decide +kernel
theorem dX11_advances_166 : decode cX11_advances 166 = .ok (.iconst 1, 1) := by decide +kernel
theorem dX11_advances_167 : decode cX11_advances 167 = .ok (.if_icmp .le 7, 3) := by decide +kernel
theorem dX11_advances_170 : decode cX11_advances 170 = .ok (.iconst 4, 1) := by decide +kernel
theorem dX11_advances_171 : decode cX11_advances 171 = .ok (.goto 4, 3) := by decide +kernel
theorem dX11_advances_174 : decode cX11_advances 174 = .ok (.iconst 2, 1) := by decide +kernel
theorem dX11_advances_175 : decode cX11_advances 175 = .ok (.putfield 86, 3) := by decide +kernel
theorem dX11_advances_178 : decode cX11_advances 178 = .ok (.goto 61, 3) := by decide +kernel
theorem dX11_advances_181 : decode cX11_advances 181 = .ok (.aload_n 0, 1) := by decide +kernel
theorem dX11_advances_182 : decode cX11_advances 182 = .ok (.dup, 1) := by decide +kernel
theorem dX11_advances_183 : decode cX11_advances 183 = .ok (.getfield 76, 3) := by decide +kernel
theorem dX11_advances_186 : decode cX11_advances 186 = .ok (.iconst 1, 1) := by decide +kernel
theorem dX11_advances_187 : decode cX11_advances 187 = .ok (.iadd, 1) := by decide +kernel
theorem dX11_advances_188 : decode cX11_advances 188 = .ok (.putfield 76, 3) := by decide +kernel
theorem dX11_advances_191 : decode cX11_advances 191 = .ok (.aload_n 0, 1) := by decide +kernel
theorem dX11_advances_192 : decode cX11_advances 192 = .ok (.iload_n 1, 1) := by decide +kernel
theorem dX11_advances_193 : decode cX11_advances 193 = .ok (.putfield 89, 3) := by decide +kernel
theorem dX11_advances_196 : decode cX11_advances 196 = .ok (.aload_n 0, 1) := by decide +kernel
theorem dX11_advances_197 : decode cX11_advances 197 = .ok (.iload_n 1, 1) := by decide +kernel
theorem dX11_advances_198 : decode cX11_advances 198 = .ok (.bipush 59, 2) := by decide +kernel
theorem dX11_advances_200 : decode cX11_advances 200 = .ok (.if_icmp .ne 7, 3) := by decide +kernel
theorem dX11_advances_203 : decode cX11_advances 203 = .ok (.iconst 3, 1) := by decide +kernel
theorem dX11_advances_204 : decode cX11_advances 204 = .ok (.goto 32, 3) := by decide +kernel
theorem dX11_advances_207 : decode cX11_advances 207 = .ok (.iload_n 1, 1) := by decide +kernel
theorem dX11_advances_208 : decode cX11_advances 208 = .ok (.bipush 112, 2) := by decide +kernel
theorem dX11_advances_210 : decode cX11_advances 210 = .ok (.if_icmp .eq 21, 3) := by decide +kernel
theorem dX11_advances_213 : decode cX11_advances 213 = .ok (.iload_n 1, 1) := by decide +kernel
theorem dX11_advances_214 : decode cX11_advances 214 = .ok (.bipush 110, 2) := by decide +kernel
theorem dX11_advances_216 : decode cX11_advances 216 = .ok (.if_icmp .eq 15, 3) := by decide +kernel
theorem dX11_advances_219 : decode cX11_advances 219 = .ok (.iload_n 1, 1) := by decide +kernel
theorem dX11_advances_220 : decode cX11_advances 220 = .ok (.bipush 98, 2) := by decide +kernel
theorem dX11_advances_222 : decode cX11_advances 222 = .ok (.if_icmp .eq 9, 3) := by decide +kernel
theorem dX11_advances_225 : decode cX11_advances 225 = .ok (.iload_n 1, 1) := by decide +kernel
theorem dX11_advances_226 : decode cX11_advances 226 = .ok (.bipush 115, 2) := by decide +kernel
theorem dX11_advances_228 : decode cX11_advances 228 = .ok (.if_icmp .ne 7, 3) := by decide +kernel
theorem dX11_advances_231 : decode cX11_advances 231 = .ok (.iconst 1, 1) := by decide +kernel
theorem dX11_advances_232 : decode cX11_advances 232 = .ok (.goto 4, 3) := by decide +kernel
theorem dX11_advances_235 : decode cX11_advances 235 = .ok (.iconst 4, 1) := by decide +kernel
theorem dX11_advances_236 : decode cX11_advances 236 = .ok (.putfield 86, 3) := by decide +kernel
theorem dX11_advances_239 : decode cX11_advances 239 = .ok (.return_, 1) := by decide +kernel
theorem dX11_isWell_0 : decode cX11_isWell 0 = .ok (.aload_n 0, 1) := by decide +kernel
theorem dX11_isWell_1 : decode cX11_isWell 1 = .ok (.getfield 92, 3) := by decide +kernel
theorem dX11_isWell_4 : decode cX11_isWell 4 = .ok (.ifCond .ge 7, 3) := by decide +kernel
theorem dX11_isWell_7 : decode cX11_isWell 7 = .ok (.iconst 1, 1) := by decide +kernel
theorem dX11_isWell_8 : decode cX11_isWell 8 = .ok (.goto 4, 3) := by decide +kernel
theorem dX11_isWell_11 : decode cX11_isWell 11 = .ok (.iconst 0, 1) := by decide +kernel
theorem dX11_isWell_12 : decode cX11_isWell 12 = .ok (.ireturn, 1) := by decide +kernel
theorem dX11_takes_0 : decode cX11_takes 0 = .ok (.aload_n 0, 1) := by decide +kernel
theorem dX11_takes_1 : decode cX11_takes 1 = .ok (.invokevirtual 95, 3) := by decide +kernel
theorem dX11_takes_4 : decode cX11_takes 4 = .ok (.ifCond .ne 5, 3) := by decide +kernel
theorem dX11_takes_7 : decode cX11_takes 7 = .ok (.iconst 0, 1) := by decide +kernel
theorem dX11_takes_8 : decode cX11_takes 8 = .ok (.ireturn, 1) := by decide +kernel
theorem dX11_takes_9 : decode cX11_takes 9 = .ok (.iload_n 1, 1) := by decide +kernel
theorem dX11_takes_10 : decode cX11_takes 10 = .ok (.ifCond .ne 13, 3) := by decide +kernel
theorem dX11_takes_13 : decode cX11_takes 13 = .ok (.aload_n 0, 1) := by decide +kernel
theorem dX11_takes_14 : decode cX11_takes 14 = .ok (.aload_n 0, 1) := by decide +kernel
theorem dX11_takes_15 : decode cX11_takes 15 = .ok (.getfield 83, 3) := by decide +kernel
theorem dX11_takes_18 : decode cX11_takes 18 = .ok (.putfield 92, 3) := by decide +kernel
theorem dX11_takes_21 : decode cX11_takes 21 = .ok (.iconst 0, 1) := by decide +kernel
theorem dX11_takes_22 : decode cX11_takes 22 = .ok (.ireturn, 1) := by decide +kernel
theorem dX11_takes_23 : decode cX11_takes 23 = .ok (.aload_n 0, 1) := by decide +kernel
theorem dX11_takes_24 : decode cX11_takes 24 = .ok (.getfield 89, 3) := by decide +kernel
theorem dX11_takes_27 : decode cX11_takes 27 = .ok (.istore_n 2, 1) := by decide +kernel
theorem dX11_takes_28 : decode cX11_takes 28 = .ok (.aload_n 0, 1) := by decide +kernel
theorem dX11_takes_29 : decode cX11_takes 29 = .ok (.invokevirtual 99, 3) := by decide +kernel
theorem dX11_takes_32 : decode cX11_takes 32 = .ok (.iload_n 2, 1) := by decide +kernel
theorem dX11_takes_33 : decode cX11_takes 33 = .ok (.ireturn, 1) := by decide +kernel
theorem dX11_number_0 : decode cX11_number 0 = .ok (.aload_n 0, 1) := by decide +kernel
theorem dX11_number_1 : decode cX11_number 1 = .ok (.aload_n 0, 1) := by decide +kernel
theorem dX11_number_2 : decode cX11_number 2 = .ok (.getfield 86, 3) := by decide +kernel
theorem dX11_number_5 : decode cX11_number 5 = .ok (.iconst 2, 1) := by decide +kernel
theorem dX11_number_6 : decode cX11_number 6 = .ok (.if_icmp .ne 19, 3) := by decide +kernel
theorem dX11_number_9 : decode cX11_number 9 = .ok (.aload_n 0, 1) := by decide +kernel
theorem dX11_number_10 : decode cX11_number 10 = .ok (.getfield 89, 3) := by decide +kernel
theorem dX11_number_13 : decode cX11_number 13 = .ok (.iload_n 1, 1) := by decide +kernel
theorem dX11_number_14 : decode cX11_number 14 = .ok (.iload_n 2, 1) := by decide +kernel
theorem dX11_number_15 : decode cX11_number 15 = .ok (.invokestatic 69, 3) := by decide +kernel
theorem dX11_number_18 : decode cX11_number 18 = .ok (.ifCond .eq 7, 3) := by decide +kernel
theorem dX11_number_21 : decode cX11_number 21 = .ok (.iconst 1, 1) := by decide +kernel
theorem dX11_number_22 : decode cX11_number 22 = .ok (.goto 4, 3) := by decide +kernel
theorem dX11_number_25 : decode cX11_number 25 = .ok (.iconst 0, 1) := by decide +kernel
theorem dX11_number_26 : decode cX11_number 26 = .ok (.invokevirtual 102, 3) := by decide +kernel
theorem dX11_number_29 : decode cX11_number 29 = .ok (.ireturn, 1) := by decide +kernel
theorem dX11_begins_0 : decode cX11_begins 0 = .ok (.aload_n 0, 1) := by decide +kernel
theorem dX11_begins_1 : decode cX11_begins 1 = .ok (.iconst 0, 1) := by decide +kernel
theorem dX11_begins_2 : decode cX11_begins 2 = .ok (.putfield 106, 3) := by decide +kernel
theorem dX11_begins_5 : decode cX11_begins 5 = .ok (.aload_n 0, 1) := by decide +kernel
theorem dX11_begins_6 : decode cX11_begins 6 = .ok (.getfield 13, 3) := by decide +kernel
theorem dX11_begins_9 : decode cX11_begins 9 = .ok (.iconst 4, 1) := by decide +kernel
theorem dX11_begins_10 : decode cX11_begins 10 = .ok (.iconst 0, 1) := by decide +kernel
theorem dX11_begins_11 : decode cX11_begins 11 = .ok (.iastore, 1) := by decide +kernel
theorem dX11_begins_12 : decode cX11_begins 12 = .ok (.aload_n 0, 1) := by decide +kernel
theorem dX11_begins_13 : decode cX11_begins 13 = .ok (.getfield 13, 3) := by decide +kernel
theorem dX11_begins_16 : decode cX11_begins 16 = .ok (.iconst 5, 1) := by decide +kernel
theorem dX11_begins_17 : decode cX11_begins 17 = .ok (.iconst 0, 1) := by decide +kernel
theorem dX11_begins_18 : decode cX11_begins 18 = .ok (.iastore, 1) := by decide +kernel
theorem dX11_begins_19 : decode cX11_begins 19 = .ok (.aload_n 0, 1) := by decide +kernel
theorem dX11_begins_20 : decode cX11_begins 20 = .ok (.getfield 13, 3) := by decide +kernel
theorem dX11_begins_23 : decode cX11_begins 23 = .ok (.bipush 6, 2) := by decide +kernel
theorem dX11_begins_25 : decode cX11_begins 25 = .ok (.iconst 3, 1) := by decide +kernel
theorem dX11_begins_26 : decode cX11_begins 26 = .ok (.iastore, 1) := by decide +kernel
theorem dX11_begins_27 : decode cX11_begins 27 = .ok (.aload_n 0, 1) := by decide +kernel
theorem dX11_begins_28 : decode cX11_begins 28 = .ok (.getfield 13, 3) := by decide +kernel
theorem dX11_begins_31 : decode cX11_begins 31 = .ok (.bipush 7, 2) := by decide +kernel
theorem dX11_begins_33 : decode cX11_begins 33 = .ok (.iconst 3, 1) := by decide +kernel
theorem dX11_begins_34 : decode cX11_begins 34 = .ok (.iastore, 1) := by decide +kernel
theorem dX11_begins_35 : decode cX11_begins 35 = .ok (.return_, 1) := by decide +kernel
theorem dX11_mayBegin_0 : decode cX11_mayBegin 0 = .ok (.aload_n 0, 1) := by decide +kernel
theorem dX11_mayBegin_1 : decode cX11_mayBegin 1 = .ok (.getfield 89, 3) := by decide +kernel
theorem dX11_mayBegin_4 : decode cX11_mayBegin 4 = .ok (.bipush 112, 2) := by decide +kernel
theorem dX11_mayBegin_6 : decode cX11_mayBegin 6 = .ok (.if_icmp .eq 12, 3) := by decide +kernel
theorem dX11_mayBegin_9 : decode cX11_mayBegin 9 = .ok (.aload_n 0, 1) := by decide +kernel
theorem dX11_mayBegin_10 : decode cX11_mayBegin 10 = .ok (.getfield 89, 3) := by decide +kernel
theorem dX11_mayBegin_13 : decode cX11_mayBegin 13 = .ok (.bipush 110, 2) := by decide +kernel
theorem dX11_mayBegin_15 : decode cX11_mayBegin 15 = .ok (.if_icmp .ne 47, 3) := by decide +kernel
theorem dX11_mayBegin_18 : decode cX11_mayBegin 18 = .ok (.aload_n 0, 1) := by decide +kernel
theorem dX11_mayBegin_19 : decode cX11_mayBegin 19 = .ok (.getfield 89, 3) := by decide +kernel
theorem dX11_mayBegin_22 : decode cX11_mayBegin 22 = .ok (.bipush 112, 2) := by decide +kernel
theorem dX11_mayBegin_24 : decode cX11_mayBegin 24 = .ok (.if_icmp .ne 21, 3) := by decide +kernel
theorem dX11_mayBegin_27 : decode cX11_mayBegin 27 = .ok (.aload_n 0, 1) := by decide +kernel
