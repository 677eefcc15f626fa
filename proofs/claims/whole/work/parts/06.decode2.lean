theorem dX11_mayBegin_28 : decode cX11_mayBegin 28 = .ok (.getfield 13, 3) := by decide +kernel
theorem dX11_mayBegin_31 : decode cX11_mayBegin 31 = .ok (.iconst 4, 1) := by decide +kernel
theorem dX11_mayBegin_32 : decode cX11_mayBegin 32 = .ok (.iaload, 1) := by decide +kernel
theorem dX11_mayBegin_33 : decode cX11_mayBegin 33 = .ok (.iconst 5, 1) := by decide +kernel
theorem dX11_mayBegin_34 : decode cX11_mayBegin 34 = .ok (.if_icmp .ge 7, 3) := by decide +kernel
theorem dX11_mayBegin_37 : decode cX11_mayBegin 37 = .ok (.iconst 1, 1) := by decide +kernel
theorem dX11_mayBegin_38 : decode cX11_mayBegin 38 = .ok (.goto 23, 3) := by decide +kernel
theorem dX11_mayBegin_41 : decode cX11_mayBegin 41 = .ok (.iconst 0, 1) := by decide +kernel
theorem dX11_mayBegin_42 : decode cX11_mayBegin 42 = .ok (.goto 19, 3) := by decide +kernel
theorem dX11_mayBegin_45 : decode cX11_mayBegin 45 = .ok (.aload_n 0, 1) := by decide +kernel
theorem dX11_mayBegin_46 : decode cX11_mayBegin 46 = .ok (.getfield 13, 3) := by decide +kernel
theorem dX11_mayBegin_49 : decode cX11_mayBegin 49 = .ok (.iconst 5, 1) := by decide +kernel
theorem dX11_mayBegin_50 : decode cX11_mayBegin 50 = .ok (.iaload, 1) := by decide +kernel
theorem dX11_mayBegin_51 : decode cX11_mayBegin 51 = .ok (.bipush 6, 2) := by decide +kernel
theorem dX11_mayBegin_53 : decode cX11_mayBegin 53 = .ok (.if_icmp .ge 7, 3) := by decide +kernel
theorem dX11_mayBegin_56 : decode cX11_mayBegin 56 = .ok (.iconst 1, 1) := by decide +kernel
theorem dX11_mayBegin_57 : decode cX11_mayBegin 57 = .ok (.goto 4, 3) := by decide +kernel
theorem dX11_mayBegin_60 : decode cX11_mayBegin 60 = .ok (.iconst 0, 1) := by decide +kernel
theorem dX11_mayBegin_61 : decode cX11_mayBegin 61 = .ok (.ireturn, 1) := by decide +kernel
theorem dX11_mayBegin_62 : decode cX11_mayBegin 62 = .ok (.aload_n 0, 1) := by decide +kernel
theorem dX11_mayBegin_63 : decode cX11_mayBegin 63 = .ok (.getfield 106, 3) := by decide +kernel
theorem dX11_mayBegin_66 : decode cX11_mayBegin 66 = .ok (.aload_n 0, 1) := by decide +kernel
theorem dX11_mayBegin_67 : decode cX11_mayBegin 67 = .ok (.getfield 89, 3) := by decide +kernel
theorem dX11_mayBegin_70 : decode cX11_mayBegin 70 = .ok (.bipush 98, 2) := by decide +kernel
theorem dX11_mayBegin_72 : decode cX11_mayBegin 72 = .ok (.if_icmp .ne 7, 3) := by decide +kernel
theorem dX11_mayBegin_75 : decode cX11_mayBegin 75 = .ok (.iconst 1, 1) := by decide +kernel
theorem dX11_mayBegin_76 : decode cX11_mayBegin 76 = .ok (.goto 4, 3) := by decide +kernel
theorem dX11_mayBegin_79 : decode cX11_mayBegin 79 = .ok (.iconst 2, 1) := by decide +kernel
theorem dX11_mayBegin_80 : decode cX11_mayBegin 80 = .ok (.iand, 1) := by decide +kernel
theorem dX11_mayBegin_81 : decode cX11_mayBegin 81 = .ok (.ifCond .ne 7, 3) := by decide +kernel
theorem dX11_mayBegin_84 : decode cX11_mayBegin 84 = .ok (.iconst 1, 1) := by decide +kernel
theorem dX11_mayBegin_85 : decode cX11_mayBegin 85 = .ok (.goto 4, 3) := by decide +kernel
theorem dX11_mayBegin_88 : decode cX11_mayBegin 88 = .ok (.iconst 0, 1) := by decide +kernel
theorem dX11_mayBegin_89 : decode cX11_mayBegin 89 = .ok (.ireturn, 1) := by decide +kernel
theorem dX11_readsItem_0 : decode cX11_readsItem 0 = .ok (.iload_n 1, 1) := by decide +kernel
theorem dX11_readsItem_1 : decode cX11_readsItem 1 = .ok (.bipush 112, 2) := by decide +kernel
theorem dX11_readsItem_3 : decode cX11_readsItem 3 = .ok (.if_icmp .ne 34, 3) := by decide +kernel
theorem dX11_readsItem_6 : decode cX11_readsItem 6 = .ok (.aload_n 0, 1) := by decide +kernel
theorem dX11_readsItem_7 : decode cX11_readsItem 7 = .ok (.getfield 16, 3) := by decide +kernel
theorem dX11_readsItem_10 : decode cX11_readsItem 10 = .ok (.aload_n 0, 1) := by decide +kernel
theorem dX11_readsItem_11 : decode cX11_readsItem 11 = .ok (.getfield 13, 3) := by decide +kernel
theorem dX11_readsItem_14 : decode cX11_readsItem 14 = .ok (.iconst 4, 1) := by decide +kernel
theorem dX11_readsItem_15 : decode cX11_readsItem 15 = .ok (.iaload, 1) := by decide +kernel
theorem dX11_readsItem_16 : decode cX11_readsItem 16 = .ok (.aload_n 0, 1) := by decide +kernel
theorem dX11_readsItem_17 : decode cX11_readsItem 17 = .ok (.iconst 0, 1) := by decide +kernel
theorem dX11_readsItem_18 : decode cX11_readsItem 18 = .ok (.bipush 31, 2) := by decide +kernel
theorem dX11_readsItem_20 : decode cX11_readsItem 20 = .ok (.invokevirtual 109, 3) := by decide +kernel
theorem dX11_readsItem_23 : decode cX11_readsItem 23 = .ok (.iastore, 1) := by decide +kernel
theorem dX11_readsItem_24 : decode cX11_readsItem 24 = .ok (.aload_n 0, 1) := by decide +kernel
theorem dX11_readsItem_25 : decode cX11_readsItem 25 = .ok (.getfield 13, 3) := by decide +kernel
theorem dX11_readsItem_28 : decode cX11_readsItem 28 = .ok (.iconst 4, 1) := by decide +kernel
theorem dX11_readsItem_29 : decode cX11_readsItem 29 = .ok (.dup2, 1) := by decide +kernel
theorem dX11_readsItem_30 : decode cX11_readsItem 30 = .ok (.iaload, 1) := by decide +kernel
theorem dX11_readsItem_31 : decode cX11_readsItem 31 = .ok (.iconst 1, 1) := by decide +kernel
theorem dX11_readsItem_32 : decode cX11_readsItem 32 = .ok (.iadd, 1) := by decide +kernel
theorem dX11_readsItem_33 : decode cX11_readsItem 33 = .ok (.iastore, 1) := by decide +kernel
theorem dX11_readsItem_34 : decode cX11_readsItem 34 = .ok (.goto 137, 3) := by decide +kernel
theorem dX11_readsItem_37 : decode cX11_readsItem 37 = .ok (.iload_n 1, 1) := by decide +kernel
theorem dX11_readsItem_38 : decode cX11_readsItem 38 = .ok (.bipush 110, 2) := by decide +kernel
theorem dX11_readsItem_40 : decode cX11_readsItem 40 = .ok (.if_icmp .ne 74, 3) := by decide +kernel
theorem dX11_readsItem_43 : decode cX11_readsItem 43 = .ok (.aload_n 0, 1) := by decide +kernel
theorem dX11_readsItem_44 : decode cX11_readsItem 44 = .ok (.getfield 13, 3) := by decide +kernel
theorem dX11_readsItem_47 : decode cX11_readsItem 47 = .ok (.iconst 5, 1) := by decide +kernel
theorem dX11_readsItem_48 : decode cX11_readsItem 48 = .ok (.iaload, 1) := by decide +kernel
theorem dX11_readsItem_49 : decode cX11_readsItem 49 = .ok (.istore_n 2, 1) := by decide +kernel
theorem dX11_readsItem_50 : decode cX11_readsItem 50 = .ok (.aload_n 0, 1) := by decide +kernel
theorem dX11_readsItem_51 : decode cX11_readsItem 51 = .ok (.getfield 19, 3) := by decide +kernel
theorem dX11_readsItem_54 : decode cX11_readsItem 54 = .ok (.bipush 6, 2) := by decide +kernel
theorem dX11_readsItem_56 : decode cX11_readsItem 56 = .ok (.iload_n 2, 1) := by decide +kernel
theorem dX11_readsItem_57 : decode cX11_readsItem 57 = .ok (.iadd, 1) := by decide +kernel
theorem dX11_readsItem_58 : decode cX11_readsItem 58 = .ok (.aload_n 0, 1) := by decide +kernel
theorem dX11_readsItem_59 : decode cX11_readsItem 59 = .ok (.iconst 1, 1) := by decide +kernel
theorem dX11_readsItem_60 : decode cX11_readsItem 60 = .ok (.bipush 99, 2) := by decide +kernel
theorem dX11_readsItem_62 : decode cX11_readsItem 62 = .ok (.invokevirtual 109, 3) := by decide +kernel
theorem dX11_readsItem_65 : decode cX11_readsItem 65 = .ok (.iastore, 1) := by decide +kernel
theorem dX11_readsItem_66 : decode cX11_readsItem 66 = .ok (.aload_n 0, 1) := by decide +kernel
theorem dX11_readsItem_67 : decode cX11_readsItem 67 = .ok (.getfield 22, 3) := by decide +kernel
theorem dX11_readsItem_70 : decode cX11_readsItem 70 = .ok (.bipush 6, 2) := by decide +kernel
theorem dX11_readsItem_72 : decode cX11_readsItem 72 = .ok (.iload_n 2, 1) := by decide +kernel
theorem dX11_readsItem_73 : decode cX11_readsItem 73 = .ok (.iadd, 1) := by decide +kernel
theorem dX11_readsItem_74 : decode cX11_readsItem 74 = .ok (.aload_n 0, 1) := by decide +kernel
theorem dX11_readsItem_75 : decode cX11_readsItem 75 = .ok (.iconst 0, 1) := by decide +kernel
theorem dX11_readsItem_76 : decode cX11_readsItem 76 = .ok (.bipush 31, 2) := by decide +kernel
theorem dX11_readsItem_78 : decode cX11_readsItem 78 = .ok (.invokevirtual 109, 3) := by decide +kernel
theorem dX11_readsItem_81 : decode cX11_readsItem 81 = .ok (.iastore, 1) := by decide +kernel
theorem dX11_readsItem_82 : decode cX11_readsItem 82 = .ok (.aload_n 0, 1) := by decide +kernel
theorem dX11_readsItem_83 : decode cX11_readsItem 83 = .ok (.getfield 25, 3) := by decide +kernel
theorem dX11_readsItem_86 : decode cX11_readsItem 86 = .ok (.iload_n 2, 1) := by decide +kernel
theorem dX11_readsItem_87 : decode cX11_readsItem 87 = .ok (.aload_n 0, 1) := by decide +kernel
theorem dX11_readsItem_88 : decode cX11_readsItem 88 = .ok (.iconst 0, 1) := by decide +kernel
theorem dX11_readsItem_89 : decode cX11_readsItem 89 = .ok (.aload_n 0, 1) := by decide +kernel
theorem dX11_readsItem_90 : decode cX11_readsItem 90 = .ok (.getfield 13, 3) := by decide +kernel
theorem dX11_readsItem_93 : decode cX11_readsItem 93 = .ok (.iconst 4, 1) := by decide +kernel
theorem dX11_readsItem_94 : decode cX11_readsItem 94 = .ok (.iaload, 1) := by decide +kernel
theorem dX11_readsItem_95 : decode cX11_readsItem 95 = .ok (.iconst 1, 1) := by decide +kernel
theorem dX11_readsItem_96 : decode cX11_readsItem 96 = .ok (.isub, 1) := by decide +kernel
theorem dX11_readsItem_97 : decode cX11_readsItem 97 = .ok (.invokevirtual 109, 3) := by decide +kernel
theorem dX11_readsItem_100 : decode cX11_readsItem 100 = .ok (.iastore, 1) := by decide +kernel
theorem dX11_readsItem_101 : decode cX11_readsItem 101 = .ok (.aload_n 0, 1) := by decide +kernel
theorem dX11_readsItem_102 : decode cX11_readsItem 102 = .ok (.getfield 13, 3) := by decide +kernel
theorem dX11_readsItem_105 : decode cX11_readsItem 105 = .ok (.iconst 5, 1) := by decide +kernel
theorem dX11_readsItem_106 : decode cX11_readsItem 106 = .ok (.dup2, 1) := by decide +kernel
theorem dX11_readsItem_107 : decode cX11_readsItem 107 = .ok (.iaload, 1) := by decide +kernel
theorem dX11_readsItem_108 : decode cX11_readsItem 108 = .ok (.iconst 1, 1) := by decide +kernel
theorem dX11_readsItem_109 : decode cX11_readsItem 109 = .ok (.iadd, 1) := by decide +kernel
theorem dX11_readsItem_110 : decode cX11_readsItem 110 = .ok (.iastore, 1) := by decide +kernel
theorem dX11_readsItem_111 : decode cX11_readsItem 111 = .ok (.goto 60, 3) := by decide +kernel
theorem dX11_readsItem_114 : decode cX11_readsItem 114 = .ok (.iload_n 1, 1) := by decide +kernel
theorem dX11_readsItem_115 : decode cX11_readsItem 115 = .ok (.bipush 98, 2) := by decide +kernel
theorem dX11_readsItem_117 : decode cX11_readsItem 117 = .ok (.if_icmp .ne 30, 3) := by decide +kernel
theorem dX11_readsItem_120 : decode cX11_readsItem 120 = .ok (.aload_n 0, 1) := by decide +kernel
theorem dX11_readsItem_121 : decode cX11_readsItem 121 = .ok (.getfield 13, 3) := by decide +kernel
theorem dX11_readsItem_124 : decode cX11_readsItem 124 = .ok (.bipush 6, 2) := by decide +kernel
theorem dX11_readsItem_126 : decode cX11_readsItem 126 = .ok (.aload_n 0, 1) := by decide +kernel
theorem dX11_readsItem_127 : decode cX11_readsItem 127 = .ok (.iconst 1, 1) := by decide +kernel
theorem dX11_readsItem_128 : decode cX11_readsItem 128 = .ok (.bipush 9, 2) := by decide +kernel
theorem dX11_readsItem_130 : decode cX11_readsItem 130 = .ok (.invokevirtual 109, 3) := by decide +kernel
theorem dX11_readsItem_133 : decode cX11_readsItem 133 = .ok (.iastore, 1) := by decide +kernel
theorem dX11_readsItem_134 : decode cX11_readsItem 134 = .ok (.aload_n 0, 1) := by decide +kernel
theorem dX11_readsItem_135 : decode cX11_readsItem 135 = .ok (.dup, 1) := by decide +kernel
theorem dX11_readsItem_136 : decode cX11_readsItem 136 = .ok (.getfield 106, 3) := by decide +kernel
theorem dX11_readsItem_139 : decode cX11_readsItem 139 = .ok (.iconst 1, 1) := by decide +kernel
theorem dX11_readsItem_140 : decode cX11_readsItem 140 = .ok (.ior, 1) := by decide +kernel
theorem dX11_readsItem_141 : decode cX11_readsItem 141 = .ok (.putfield 106, 3) := by decide +kernel
theorem dX11_readsItem_144 : decode cX11_readsItem 144 = .ok (.goto 27, 3) := by decide +kernel
theorem dX11_readsItem_147 : decode cX11_readsItem 147 = .ok (.aload_n 0, 1) := by decide +kernel
theorem dX11_readsItem_148 : decode cX11_readsItem 148 = .ok (.getfield 13, 3) := by decide +kernel
theorem dX11_readsItem_151 : decode cX11_readsItem 151 = .ok (.bipush 7, 2) := by decide +kernel
theorem dX11_readsItem_153 : decode cX11_readsItem 153 = .ok (.aload_n 0, 1) := by decide +kernel
theorem dX11_readsItem_154 : decode cX11_readsItem 154 = .ok (.iconst 0, 1) := by decide +kernel
theorem dX11_readsItem_155 : decode cX11_readsItem 155 = .ok (.bipush 10, 2) := by decide +kernel
theorem dX11_readsItem_157 : decode cX11_readsItem 157 = .ok (.invokevirtual 109, 3) := by decide +kernel
theorem dX11_readsItem_160 : decode cX11_readsItem 160 = .ok (.iastore, 1) := by decide +kernel
theorem dX11_readsItem_161 : decode cX11_readsItem 161 = .ok (.aload_n 0, 1) := by decide +kernel
theorem dX11_readsItem_162 : decode cX11_readsItem 162 = .ok (.dup, 1) := by decide +kernel
theorem dX11_readsItem_163 : decode cX11_readsItem 163 = .ok (.getfield 106, 3) := by decide +kernel
theorem dX11_readsItem_166 : decode cX11_readsItem 166 = .ok (.iconst 2, 1) := by decide +kernel
theorem dX11_readsItem_167 : decode cX11_readsItem 167 = .ok (.ior, 1) := by decide +kernel
theorem dX11_readsItem_168 : decode cX11_readsItem 168 = .ok (.putfield 106, 3) := by decide +kernel
theorem dX11_readsItem_171 : decode cX11_readsItem 171 = .ok (.return_, 1) := by decide +kernel
theorem dX11_country_0 : decode cX11_country 0 = .ok (.aload_n 0, 1) := by decide +kernel
theorem dX11_country_1 : decode cX11_country 1 = .ok (.iconst 0, 1) := by decide +kernel
theorem dX11_country_2 : decode cX11_country 2 = .ok (.putfield 65, 3) := by decide +kernel
theorem dX11_country_5 : decode cX11_country 5 = .ok (.aload_n 0, 1) := by decide +kernel
theorem dX11_country_6 : decode cX11_country 6 = .ok (.iconst (-1), 1) := by decide +kernel
theorem dX11_country_7 : decode cX11_country 7 = .ok (.putfield 92, 3) := by decide +kernel
theorem dX11_country_10 : decode cX11_country 10 = .ok (.aload_n 0, 1) := by decide +kernel
theorem dX11_country_11 : decode cX11_country 11 = .ok (.iconst 0, 1) := by decide +kernel
theorem dX11_country_12 : decode cX11_country 12 = .ok (.putfield 76, 3) := by decide +kernel
theorem dX11_country_15 : decode cX11_country 15 = .ok (.aload_n 0, 1) := by decide +kernel
theorem dX11_country_16 : decode cX11_country 16 = .ok (.invokevirtual 59, 3) := by decide +kernel
theorem dX11_country_19 : decode cX11_country 19 = .ok (.iconst 0, 1) := by decide +kernel
theorem dX11_country_20 : decode cX11_country 20 = .ok (.istore_n 1, 1) := by decide +kernel
theorem dX11_country_21 : decode cX11_country 21 = .ok (.aload_n 0, 1) := by decide +kernel
theorem dX11_country_22 : decode cX11_country 22 = .ok (.invokevirtual 99, 3) := by decide +kernel
theorem dX11_country_25 : decode cX11_country 25 = .ok (.aload_n 0, 1) := by decide +kernel
theorem dX11_country_26 : decode cX11_country 26 = .ok (.invokevirtual 95, 3) := by decide +kernel
theorem dX11_country_29 : decode cX11_country 29 = .ok (.ifCond .eq 71, 3) := by decide +kernel
theorem dX11_country_32 : decode cX11_country 32 = .ok (.aload_n 0, 1) := by decide +kernel
theorem dX11_country_33 : decode cX11_country 33 = .ok (.getfield 86, 3) := by decide +kernel
theorem dX11_country_36 : decode cX11_country 36 = .ok (.ifCond .eq 64, 3) := by decide +kernel
theorem dX11_country_39 : decode cX11_country 39 = .ok (.aload_n 0, 1) := by decide +kernel
theorem dX11_country_40 : decode cX11_country 40 = .ok (.aload_n 0, 1) := by decide +kernel
theorem dX11_country_41 : decode cX11_country 41 = .ok (.getfield 86, 3) := by decide +kernel
theorem dX11_country_44 : decode cX11_country 44 = .ok (.iconst 1, 1) := by decide +kernel
theorem dX11_country_45 : decode cX11_country 45 = .ok (.if_icmp .ne 14, 3) := by decide +kernel
theorem dX11_country_48 : decode cX11_country 48 = .ok (.aload_n 0, 1) := by decide +kernel
theorem dX11_country_49 : decode cX11_country 49 = .ok (.invokevirtual 113, 3) := by decide +kernel
theorem dX11_country_52 : decode cX11_country 52 = .ok (.ifCond .eq 7, 3) := by decide +kernel
theorem dX11_country_55 : decode cX11_country 55 = .ok (.iconst 1, 1) := by decide +kernel
theorem dX11_country_56 : decode cX11_country 56 = .ok (.goto 4, 3) := by decide +kernel
theorem dX11_country_59 : decode cX11_country 59 = .ok (.iconst 0, 1) := by decide +kernel
theorem dX11_country_60 : decode cX11_country 60 = .ok (.invokevirtual 102, 3) := by decide +kernel
theorem dX11_country_63 : decode cX11_country 63 = .ok (.istore_n 2, 1) := by decide +kernel
theorem dX11_country_64 : decode cX11_country 64 = .ok (.aload_n 0, 1) := by decide +kernel
theorem dX11_country_65 : decode cX11_country 65 = .ok (.invokevirtual 95, 3) := by decide +kernel
theorem dX11_country_68 : decode cX11_country 68 = .ok (.ifCond .eq 8, 3) := by decide +kernel
theorem dX11_country_71 : decode cX11_country 71 = .ok (.aload_n 0, 1) := by decide +kernel
theorem dX11_country_72 : decode cX11_country 72 = .ok (.iload_n 2, 1) := by decide +kernel
theorem dX11_country_73 : decode cX11_country 73 = .ok (.invokevirtual 116, 3) := by decide +kernel
theorem dX11_country_76 : decode cX11_country 76 = .ok (.aload_n 0, 1) := by decide +kernel
theorem dX11_country_77 : decode cX11_country 77 = .ok (.aload_n 0, 1) := by decide +kernel
theorem dX11_country_78 : decode cX11_country 78 = .ok (.getfield 86, 3) := by decide +kernel
theorem dX11_country_81 : decode cX11_country 81 = .ok (.iconst 3, 1) := by decide +kernel
theorem dX11_country_82 : decode cX11_country 82 = .ok (.if_icmp .ne 7, 3) := by decide +kernel
theorem dX11_country_85 : decode cX11_country 85 = .ok (.iconst 1, 1) := by decide +kernel
theorem dX11_country_86 : decode cX11_country 86 = .ok (.goto 4, 3) := by decide +kernel
theorem dX11_country_89 : decode cX11_country 89 = .ok (.iconst 0, 1) := by decide +kernel
theorem dX11_country_90 : decode cX11_country 90 = .ok (.invokevirtual 102, 3) := by decide +kernel
theorem dX11_country_93 : decode cX11_country 93 = .ok (.pop, 1) := by decide +kernel
theorem dX11_country_94 : decode cX11_country 94 = .ok (.iinc 1 1, 3) := by decide +kernel
theorem dX11_country_97 : decode cX11_country 97 = .ok (.goto (-72), 3) := by decide +kernel
theorem dX11_country_100 : decode cX11_country 100 = .ok (.aload_n 0, 1) := by decide +kernel
theorem dX11_country_101 : decode cX11_country 101 = .ok (.invokevirtual 95, 3) := by decide +kernel
theorem dX11_country_104 : decode cX11_country 104 = .ok (.ifCond .ne 11, 3) := by decide +kernel
theorem dX11_country_107 : decode cX11_country 107 = .ok (.bipush (-10), 2) := by decide +kernel
theorem dX11_country_109 : decode cX11_country 109 = .ok (.aload_n 0, 1) := by decide +kernel
theorem dX11_country_110 : decode cX11_country 110 = .ok (.getfield 92, 3) := by decide +kernel
theorem dX11_country_113 : decode cX11_country 113 = .ok (.isub, 1) := by decide +kernel
theorem dX11_country_114 : decode cX11_country 114 = .ok (.ireturn, 1) := by decide +kernel
theorem dX11_country_115 : decode cX11_country 115 = .ok (.aload_n 0, 1) := by decide +kernel
theorem dX11_country_116 : decode cX11_country 116 = .ok (.invokevirtual 62, 3) := by decide +kernel
theorem dX11_country_119 : decode cX11_country 119 = .ok (.iload_n 1, 1) := by decide +kernel
theorem dX11_country_120 : decode cX11_country 120 = .ok (.ireturn, 1) := by decide +kernel
theorem dX11_settles_0 : decode cX11_settles 0 = .ok (.iconst 0, 1) := by decide +kernel
theorem dX11_settles_1 : decode cX11_settles 1 = .ok (.istore_n 1, 1) := by decide +kernel
theorem dX11_settles_2 : decode cX11_settles 2 = .ok (.iload_n 1, 1) := by decide +kernel
theorem dX11_settles_3 : decode cX11_settles 3 = .ok (.iconst 4, 1) := by decide +kernel
theorem dX11_settles_4 : decode cX11_settles 4 = .ok (.if_icmp .ge 23, 3) := by decide +kernel
theorem dX11_settles_7 : decode cX11_settles 7 = .ok (.aload_n 0, 1) := by decide +kernel
theorem dX11_settles_8 : decode cX11_settles 8 = .ok (.getfield 13, 3) := by decide +kernel
theorem dX11_settles_11 : decode cX11_settles 11 = .ok (.iload_n 1, 1) := by decide +kernel
theorem dX11_settles_12 : decode cX11_settles 12 = .ok (.aload_n 0, 1) := by decide +kernel
theorem dX11_settles_13 : decode cX11_settles 13 = .ok (.getfield 13, 3) := by decide +kernel
theorem dX11_settles_16 : decode cX11_settles 16 = .ok (.iconst 4, 1) := by decide +kernel
theorem dX11_settles_17 : decode cX11_settles 17 = .ok (.iload_n 1, 1) := by decide +kernel
theorem dX11_settles_18 : decode cX11_settles 18 = .ok (.iadd, 1) := by decide +kernel
theorem dX11_settles_19 : decode cX11_settles 19 = .ok (.iaload, 1) := by decide +kernel
theorem dX11_settles_20 : decode cX11_settles 20 = .ok (.iastore, 1) := by decide +kernel
theorem dX11_settles_21 : decode cX11_settles 21 = .ok (.iinc 1 1, 3) := by decide +kernel
theorem dX11_settles_24 : decode cX11_settles 24 = .ok (.goto (-22), 3) := by decide +kernel
theorem dX11_settles_27 : decode cX11_settles 27 = .ok (.iconst 0, 1) := by decide +kernel
theorem dX11_settles_28 : decode cX11_settles 28 = .ok (.istore_n 1, 1) := by decide +kernel
theorem dX11_settles_29 : decode cX11_settles 29 = .ok (.iload_n 1, 1) := by decide +kernel
theorem dX11_settles_30 : decode cX11_settles 30 = .ok (.bipush 20, 2) := by decide +kernel
theorem dX11_settles_32 : decode cX11_settles 32 = .ok (.if_icmp .ge 16, 3) := by decide +kernel
theorem dX11_settles_35 : decode cX11_settles 35 = .ok (.aload_n 0, 1) := by decide +kernel
theorem dX11_settles_36 : decode cX11_settles 36 = .ok (.getfield 28, 3) := by decide +kernel
theorem dX11_settles_39 : decode cX11_settles 39 = .ok (.iload_n 1, 1) := by decide +kernel
theorem dX11_settles_40 : decode cX11_settles 40 = .ok (.iconst 0, 1) := by decide +kernel
theorem dX11_settles_41 : decode cX11_settles 41 = .ok (.iastore, 1) := by decide +kernel
theorem dX11_settles_42 : decode cX11_settles 42 = .ok (.iinc 1 1, 3) := by decide +kernel
theorem dX11_settles_45 : decode cX11_settles 45 = .ok (.goto (-16), 3) := by decide +kernel
theorem dX11_settles_48 : decode cX11_settles 48 = .ok (.iconst 0, 1) := by decide +kernel
theorem dX11_settles_49 : decode cX11_settles 49 = .ok (.istore_n 1, 1) := by decide +kernel
theorem dX11_settles_50 : decode cX11_settles 50 = .ok (.iload_n 1, 1) := by decide +kernel
theorem dX11_settles_51 : decode cX11_settles 51 = .ok (.bipush 6, 2) := by decide +kernel
theorem dX11_settles_53 : decode cX11_settles 53 = .ok (.if_icmp .ge 67, 3) := by decide +kernel
theorem dX11_settles_56 : decode cX11_settles 56 = .ok (.aload_n 0, 1) := by decide +kernel
theorem dX11_settles_57 : decode cX11_settles 57 = .ok (.getfield 19, 3) := by decide +kernel
theorem dX11_settles_60 : decode cX11_settles 60 = .ok (.iload_n 1, 1) := by decide +kernel
theorem dX11_settles_61 : decode cX11_settles 61 = .ok (.aload_n 0, 1) := by decide +kernel
theorem dX11_settles_62 : decode cX11_settles 62 = .ok (.getfield 19, 3) := by decide +kernel
theorem dX11_settles_65 : decode cX11_settles 65 = .ok (.bipush 6, 2) := by decide +kernel
theorem dX11_settles_67 : decode cX11_settles 67 = .ok (.iload_n 1, 1) := by decide +kernel
theorem dX11_settles_68 : decode cX11_settles 68 = .ok (.iadd, 1) := by decide +kernel
theorem dX11_settles_69 : decode cX11_settles 69 = .ok (.iaload, 1) := by decide +kernel
theorem dX11_settles_70 : decode cX11_settles 70 = .ok (.iastore, 1) := by decide +kernel
theorem dX11_settles_71 : decode cX11_settles 71 = .ok (.aload_n 0, 1) := by decide +kernel
theorem dX11_settles_72 : decode cX11_settles 72 = .ok (.getfield 22, 3) := by decide +kernel
theorem dX11_settles_75 : decode cX11_settles 75 = .ok (.iload_n 1, 1) := by decide +kernel
theorem dX11_settles_76 : decode cX11_settles 76 = .ok (.aload_n 0, 1) := by decide +kernel
theorem dX11_settles_77 : decode cX11_settles 77 = .ok (.getfield 22, 3) := by decide +kernel
theorem dX11_settles_80 : decode cX11_settles 80 = .ok (.bipush 6, 2) := by decide +kernel
theorem dX11_settles_82 : decode cX11_settles 82 = .ok (.iload_n 1, 1) := by decide +kernel
theorem dX11_settles_83 : decode cX11_settles 83 = .ok (.iadd, 1) := by decide +kernel
theorem dX11_settles_84 : decode cX11_settles 84 = .ok (.iaload, 1) := by decide +kernel
theorem dX11_settles_85 : decode cX11_settles 85 = .ok (.iastore, 1) := by decide +kernel
theorem dX11_settles_86 : decode cX11_settles 86 = .ok (.aload_n 0, 1) := by decide +kernel
theorem dX11_settles_87 : decode cX11_settles 87 = .ok (.getfield 28, 3) := by decide +kernel
theorem dX11_settles_90 : decode cX11_settles 90 = .ok (.iconst 0, 1) := by decide +kernel
theorem dX11_settles_91 : decode cX11_settles 91 = .ok (.iload_n 1, 1) := by decide +kernel
theorem dX11_settles_92 : decode cX11_settles 92 = .ok (.iadd, 1) := by decide +kernel
theorem dX11_settles_93 : decode cX11_settles 93 = .ok (.iload_n 1, 1) := by decide +kernel
theorem dX11_settles_94 : decode cX11_settles 94 = .ok (.aload_n 0, 1) := by decide +kernel
theorem dX11_settles_95 : decode cX11_settles 95 = .ok (.getfield 13, 3) := by decide +kernel
theorem dX11_settles_98 : decode cX11_settles 98 = .ok (.iconst 1, 1) := by decide +kernel
theorem dX11_settles_99 : decode cX11_settles 99 = .ok (.iaload, 1) := by decide +kernel
theorem dX11_settles_100 : decode cX11_settles 100 = .ok (.if_icmp .ge 12, 3) := by decide +kernel
theorem dX11_settles_103 : decode cX11_settles 103 = .ok (.aload_n 0, 1) := by decide +kernel
theorem dX11_settles_104 : decode cX11_settles 104 = .ok (.getfield 25, 3) := by decide +kernel
theorem dX11_settles_107 : decode cX11_settles 107 = .ok (.iload_n 1, 1) := by decide +kernel
theorem dX11_settles_108 : decode cX11_settles 108 = .ok (.iaload, 1) := by decide +kernel
theorem dX11_settles_109 : decode cX11_settles 109 = .ok (.goto 4, 3) := by decide +kernel
theorem dX11_settles_112 : decode cX11_settles 112 = .ok (.iconst 0, 1) := by decide +kernel
theorem dX11_settles_113 : decode cX11_settles 113 = .ok (.iastore, 1) := by decide +kernel
theorem dX11_settles_114 : decode cX11_settles 114 = .ok (.iinc 1 1, 3) := by decide +kernel
theorem dX11_settles_117 : decode cX11_settles 117 = .ok (.goto (-67), 3) := by decide +kernel
theorem dX11_settles_120 : decode cX11_settles 120 = .ok (.iconst 0, 1) := by decide +kernel
theorem dX11_settles_121 : decode cX11_settles 121 = .ok (.istore_n 1, 1) := by decide +kernel
theorem dX11_settles_122 : decode cX11_settles 122 = .ok (.iload_n 1, 1) := by decide +kernel
theorem dX11_settles_123 : decode cX11_settles 123 = .ok (.iconst 5, 1) := by decide +kernel
theorem dX11_settles_124 : decode cX11_settles 124 = .ok (.if_icmp .ge 38, 3) := by decide +kernel
theorem dX11_settles_127 : decode cX11_settles 127 = .ok (.aload_n 0, 1) := by decide +kernel
theorem dX11_settles_128 : decode cX11_settles 128 = .ok (.getfield 28, 3) := by decide +kernel
theorem dX11_settles_131 : decode cX11_settles 131 = .ok (.bipush 14, 2) := by decide +kernel
theorem dX11_settles_133 : decode cX11_settles 133 = .ok (.iload_n 1, 1) := by decide +kernel
theorem dX11_settles_134 : decode cX11_settles 134 = .ok (.iadd, 1) := by decide +kernel
theorem dX11_settles_135 : decode cX11_settles 135 = .ok (.iload_n 1, 1) := by decide +kernel
theorem dX11_settles_136 : decode cX11_settles 136 = .ok (.aload_n 0, 1) := by decide +kernel
theorem dX11_settles_137 : decode cX11_settles 137 = .ok (.getfield 13, 3) := by decide +kernel
theorem dX11_settles_140 : decode cX11_settles 140 = .ok (.iconst 0, 1) := by decide +kernel
theorem dX11_settles_141 : decode cX11_settles 141 = .ok (.iaload, 1) := by decide +kernel
theorem dX11_settles_142 : decode cX11_settles 142 = .ok (.if_icmp .ge 12, 3) := by decide +kernel
theorem dX11_settles_145 : decode cX11_settles 145 = .ok (.aload_n 0, 1) := by decide +kernel
theorem dX11_settles_146 : decode cX11_settles 146 = .ok (.getfield 16, 3) := by decide +kernel
theorem dX11_settles_149 : decode cX11_settles 149 = .ok (.iload_n 1, 1) := by decide +kernel
theorem dX11_settles_150 : decode cX11_settles 150 = .ok (.iaload, 1) := by decide +kernel
theorem dX11_settles_151 : decode cX11_settles 151 = .ok (.goto 4, 3) := by decide +kernel
theorem dX11_settles_154 : decode cX11_settles 154 = .ok (.iconst 0, 1) := by decide +kernel
theorem dX11_settles_155 : decode cX11_settles 155 = .ok (.iastore, 1) := by decide +kernel
theorem dX11_settles_156 : decode cX11_settles 156 = .ok (.iinc 1 1, 3) := by decide +kernel
theorem dX11_settles_159 : decode cX11_settles 159 = .ok (.goto (-37), 3) := by decide +kernel
theorem dX11_settles_162 : decode cX11_settles 162 = .ok (.aload_n 0, 1) := by decide +kernel
theorem dX11_settles_163 : decode cX11_settles 163 = .ok (.iconst 0, 1) := by decide +kernel
theorem dX11_settles_164 : decode cX11_settles 164 = .ok (.putfield 73, 3) := by decide +kernel
theorem dX11_settles_167 : decode cX11_settles 167 = .ok (.aload_n 0, 1) := by decide +kernel
theorem dX11_settles_168 : decode cX11_settles 168 = .ok (.iconst 0, 1) := by decide +kernel
theorem dX11_settles_169 : decode cX11_settles 169 = .ok (.putfield 120, 3) := by decide +kernel
theorem dX11_settles_172 : decode cX11_settles 172 = .ok (.aload_n 0, 1) := by decide +kernel
theorem dX11_settles_173 : decode cX11_settles 173 = .ok (.iconst 0, 1) := by decide +kernel
theorem dX11_settles_174 : decode cX11_settles 174 = .ok (.putfield 123, 3) := by decide +kernel
theorem dX11_settles_177 : decode cX11_settles 177 = .ok (.aload_n 0, 1) := by decide +kernel
theorem dX11_settles_178 : decode cX11_settles 178 = .ok (.iconst 0, 1) := by decide +kernel
theorem dX11_settles_179 : decode cX11_settles 179 = .ok (.putfield 126, 3) := by decide +kernel
theorem dX11_settles_182 : decode cX11_settles 182 = .ok (.aload_n 0, 1) := by decide +kernel
theorem dX11_settles_183 : decode cX11_settles 183 = .ok (.getfield 34, 3) := by decide +kernel
theorem dX11_settles_186 : decode cX11_settles 186 = .ok (.iconst 0, 1) := by decide +kernel
theorem dX11_settles_187 : decode cX11_settles 187 = .ok (.iconst 0, 1) := by decide +kernel
theorem dX11_settles_188 : decode cX11_settles 188 = .ok (.bastore, 1) := by decide +kernel
theorem dX11_settles_189 : decode cX11_settles 189 = .ok (.aload_n 0, 1) := by decide +kernel
theorem dX11_settles_190 : decode cX11_settles 190 = .ok (.getfield 34, 3) := by decide +kernel
theorem dX11_settles_193 : decode cX11_settles 193 = .ok (.iconst 1, 1) := by decide +kernel
theorem dX11_settles_194 : decode cX11_settles 194 = .ok (.iconst 0, 1) := by decide +kernel
theorem dX11_settles_195 : decode cX11_settles 195 = .ok (.bastore, 1) := by decide +kernel
theorem dX11_settles_196 : decode cX11_settles 196 = .ok (.return_, 1) := by decide +kernel
theorem dX11_isPerson_0 : decode cX11_isPerson 0 = .ok (.iload_n 1, 1) := by decide +kernel
theorem dX11_isPerson_1 : decode cX11_isPerson 1 = .ok (.iconst 0, 1) := by decide +kernel
theorem dX11_isPerson_2 : decode cX11_isPerson 2 = .ok (.aload_n 0, 1) := by decide +kernel
theorem dX11_isPerson_3 : decode cX11_isPerson 3 = .ok (.getfield 13, 3) := by decide +kernel
theorem dX11_isPerson_6 : decode cX11_isPerson 6 = .ok (.iconst 0, 1) := by decide +kernel
theorem dX11_isPerson_7 : decode cX11_isPerson 7 = .ok (.iaload, 1) := by decide +kernel
theorem dX11_isPerson_8 : decode cX11_isPerson 8 = .ok (.iconst 1, 1) := by decide +kernel
theorem dX11_isPerson_9 : decode cX11_isPerson 9 = .ok (.isub, 1) := by decide +kernel
theorem dX11_isPerson_10 : decode cX11_isPerson 10 = .ok (.invokestatic 69, 3) := by decide +kernel
theorem dX11_isPerson_13 : decode cX11_isPerson 13 = .ok (.ireturn, 1) := by decide +kernel
theorem dX11_isNote_0 : decode cX11_isNote 0 = .ok (.iload_n 1, 1) := by decide +kernel
theorem dX11_isNote_1 : decode cX11_isNote 1 = .ok (.iconst 0, 1) := by decide +kernel
theorem dX11_isNote_2 : decode cX11_isNote 2 = .ok (.aload_n 0, 1) := by decide +kernel
theorem dX11_isNote_3 : decode cX11_isNote 3 = .ok (.getfield 13, 3) := by decide +kernel
theorem dX11_isNote_6 : decode cX11_isNote 6 = .ok (.iconst 1, 1) := by decide +kernel
theorem dX11_isNote_7 : decode cX11_isNote 7 = .ok (.iaload, 1) := by decide +kernel
theorem dX11_isNote_8 : decode cX11_isNote 8 = .ok (.iconst 1, 1) := by decide +kernel
theorem dX11_isNote_9 : decode cX11_isNote 9 = .ok (.isub, 1) := by decide +kernel
theorem dX11_isNote_10 : decode cX11_isNote 10 = .ok (.invokestatic 69, 3) := by decide +kernel
theorem dX11_isNote_13 : decode cX11_isNote 13 = .ok (.ireturn, 1) := by decide +kernel
theorem dX11_isAway_0 : decode cX11_isAway 0 = .ok (.aload_n 0, 1) := by decide +kernel
theorem dX11_isAway_1 : decode cX11_isAway 1 = .ok (.getfield 28, 3) := by decide +kernel
theorem dX11_isAway_4 : decode cX11_isAway 4 = .ok (.bipush 13, 2) := by decide +kernel
theorem dX11_isAway_6 : decode cX11_isAway 6 = .ok (.iaload, 1) := by decide +kernel
theorem dX11_isAway_7 : decode cX11_isAway 7 = .ok (.iload_n 1, 1) := by decide +kernel
theorem dX11_isAway_8 : decode cX11_isAway 8 = .ok (.ishr, 1) := by decide +kernel
theorem dX11_isAway_9 : decode cX11_isAway 9 = .ok (.iconst 1, 1) := by decide +kernel
theorem dX11_isAway_10 : decode cX11_isAway 10 = .ok (.iand, 1) := by decide +kernel
theorem dX11_isAway_11 : decode cX11_isAway 11 = .ok (.iconst 1, 1) := by decide +kernel
theorem dX11_isAway_12 : decode cX11_isAway 12 = .ok (.if_icmp .ne 7, 3) := by decide +kernel
theorem dX11_isAway_15 : decode cX11_isAway 15 = .ok (.iconst 1, 1) := by decide +kernel
theorem dX11_isAway_16 : decode cX11_isAway 16 = .ok (.goto 4, 3) := by decide +kernel
theorem dX11_isAway_19 : decode cX11_isAway 19 = .ok (.iconst 0, 1) := by decide +kernel
theorem dX11_isAway_20 : decode cX11_isAway 20 = .ok (.ireturn, 1) := by decide +kernel
theorem dX11_hasParity_0 : decode cX11_hasParity 0 = .ok (.aload_n 0, 1) := by decide +kernel
theorem dX11_hasParity_1 : decode cX11_hasParity 1 = .ok (.getfield 28, 3) := by decide +kernel
theorem dX11_hasParity_4 : decode cX11_hasParity 4 = .ok (.bipush 12, 2) := by decide +kernel
theorem dX11_hasParity_6 : decode cX11_hasParity 6 = .ok (.iaload, 1) := by decide +kernel
theorem dX11_hasParity_7 : decode cX11_hasParity 7 = .ok (.iload_n 1, 1) := by decide +kernel
theorem dX11_hasParity_8 : decode cX11_hasParity 8 = .ok (.ishr, 1) := by decide +kernel
theorem dX11_hasParity_9 : decode cX11_hasParity 9 = .ok (.iconst 1, 1) := by decide +kernel
theorem dX11_hasParity_10 : decode cX11_hasParity 10 = .ok (.iand, 1) := by decide +kernel
theorem dX11_hasParity_11 : decode cX11_hasParity 11 = .ok (.iconst 1, 1) := by decide +kernel
theorem dX11_hasParity_12 : decode cX11_hasParity 12 = .ok (.if_icmp .ne 7, 3) := by decide +kernel
theorem dX11_hasParity_15 : decode cX11_hasParity 15 = .ok (.iconst 1, 1) := by decide +kernel
theorem dX11_hasParity_16 : decode cX11_hasParity 16 = .ok (.goto 4, 3) := by decide +kernel
theorem dX11_hasParity_19 : decode cX11_hasParity 19 = .ok (.iconst 0, 1) := by decide +kernel
theorem dX11_hasParity_20 : decode cX11_hasParity 20 = .ok (.ireturn, 1) := by decide +kernel
theorem dX11_takers_0 : decode cX11_takers 0 = .ok (.iconst 0, 1) := by decide +kernel
theorem dX11_takers_1 : decode cX11_takers 1 = .ok (.istore_n 3, 1) := by decide +kernel
theorem dX11_takers_2 : decode cX11_takers 2 = .ok (.iconst 0, 1) := by decide +kernel
theorem dX11_takers_3 : decode cX11_takers 3 = .ok (.istore 4, 2) := by decide +kernel
theorem dX11_takers_5 : decode cX11_takers 5 = .ok (.iload 4, 2) := by decide +kernel
theorem dX11_takers_7 : decode cX11_takers 7 = .ok (.aload_n 0, 1) := by decide +kernel
theorem dX11_takers_8 : decode cX11_takers 8 = .ok (.getfield 13, 3) := by decide +kernel
theorem dX11_takers_11 : decode cX11_takers 11 = .ok (.iconst 0, 1) := by decide +kernel
theorem dX11_takers_12 : decode cX11_takers 12 = .ok (.iaload, 1) := by decide +kernel
theorem dX11_takers_13 : decode cX11_takers 13 = .ok (.if_icmp .ge 44, 3) := by decide +kernel
theorem dX11_takers_16 : decode cX11_takers 16 = .ok (.iload_n 3, 1) := by decide +kernel
theorem dX11_takers_17 : decode cX11_takers 17 = .ok (.iload_n 2, 1) := by decide +kernel
theorem dX11_takers_18 : decode cX11_takers 18 = .ok (.ifCond .ne 23, 3) := by decide +kernel
theorem dX11_takers_21 : decode cX11_takers 21 = .ok (.aload_n 0, 1) := by decide +kernel
theorem dX11_takers_22 : decode cX11_takers 22 = .ok (.getfield 22, 3) := by decide +kernel
theorem dX11_takers_25 : decode cX11_takers 25 = .ok (.iload_n 1, 1) := by decide +kernel
theorem dX11_takers_26 : decode cX11_takers 26 = .ok (.iaload, 1) := by decide +kernel
theorem dX11_takers_27 : decode cX11_takers 27 = .ok (.aload_n 0, 1) := by decide +kernel
theorem dX11_takers_28 : decode cX11_takers 28 = .ok (.getfield 28, 3) := by decide +kernel
theorem dX11_takers_31 : decode cX11_takers 31 = .ok (.bipush 14, 2) := by decide +kernel
theorem dX11_takers_33 : decode cX11_takers 33 = .ok (.iload 4, 2) := by decide +kernel
theorem dX11_takers_35 : decode cX11_takers 35 = .ok (.iadd, 1) := by decide +kernel
theorem dX11_takers_36 : decode cX11_takers 36 = .ok (.iaload, 1) := by decide +kernel
theorem dX11_takers_37 : decode cX11_takers 37 = .ok (.iand, 1) := by decide +kernel
theorem dX11_takers_38 : decode cX11_takers 38 = .ok (.ifCond .ne 10, 3) := by decide +kernel
theorem dX11_takers_41 : decode cX11_takers 41 = .ok (.iconst 1, 1) := by decide +kernel
theorem dX11_takers_42 : decode cX11_takers 42 = .ok (.iload 4, 2) := by decide +kernel
theorem dX11_takers_44 : decode cX11_takers 44 = .ok (.ishl, 1) := by decide +kernel
theorem dX11_takers_45 : decode cX11_takers 45 = .ok (.goto 4, 3) := by decide +kernel
theorem dX11_takers_48 : decode cX11_takers 48 = .ok (.iconst 0, 1) := by decide +kernel
theorem dX11_takers_49 : decode cX11_takers 49 = .ok (.ior, 1) := by decide +kernel
theorem dX11_takers_50 : decode cX11_takers 50 = .ok (.istore_n 3, 1) := by decide +kernel
theorem dX11_takers_51 : decode cX11_takers 51 = .ok (.iinc 4 1, 3) := by decide +kernel
theorem dX11_takers_54 : decode cX11_takers 54 = .ok (.goto (-49), 3) := by decide +kernel
theorem dX11_takers_57 : decode cX11_takers 57 = .ok (.iload_n 3, 1) := by decide +kernel
theorem dX11_takers_58 : decode cX11_takers 58 = .ok (.ireturn, 1) := by decide +kernel
theorem dX11_note_0 : decode cX11_note 0 = .ok (.aload_n 0, 1) := by decide +kernel
theorem dX11_note_1 : decode cX11_note 1 = .ok (.iconst 0, 1) := by decide +kernel
theorem dX11_note_2 : decode cX11_note 2 = .ok (.putfield 65, 3) := by decide +kernel
theorem dX11_note_5 : decode cX11_note 5 = .ok (.aload_n 0, 1) := by decide +kernel
theorem dX11_note_6 : decode cX11_note 6 = .ok (.iload_n 1, 1) := by decide +kernel
theorem dX11_note_7 : decode cX11_note 7 = .ok (.invokevirtual 129, 3) := by decide +kernel
theorem dX11_note_10 : decode cX11_note 10 = .ok (.ifCond .eq 13, 3) := by decide +kernel
theorem dX11_note_13 : decode cX11_note 13 = .ok (.iload_n 2, 1) := by decide +kernel
theorem dX11_note_14 : decode cX11_note 14 = .ok (.iconst 0, 1) := by decide +kernel
theorem dX11_note_15 : decode cX11_note 15 = .ok (.bipush 6, 2) := by decide +kernel
theorem dX11_note_17 : decode cX11_note 17 = .ok (.invokestatic 69, 3) := by decide +kernel
theorem dX11_note_20 : decode cX11_note 20 = .ok (.ifCond .ne 5, 3) := by decide +kernel
theorem dX11_note_23 : decode cX11_note 23 = .ok (.iconst (-1), 1) := by decide +kernel
theorem dX11_note_24 : decode cX11_note 24 = .ok (.ireturn, 1) := by decide +kernel
theorem dX11_note_25 : decode cX11_note 25 = .ok (.iload_n 2, 1) := by decide +kernel
theorem dX11_note_26 : decode cX11_note 26 = .ok (.iconst 4, 1) := by decide +kernel
theorem dX11_note_27 : decode cX11_note 27 = .ok (.if_icmp .ge 56, 3) := by decide +kernel
theorem dX11_note_30 : decode cX11_note 30 = .ok (.iload_n 2, 1) := by decide +kernel
theorem dX11_note_31 : decode cX11_note 31 = .ok (.ifCond .ne 12, 3) := by decide +kernel
theorem dX11_note_34 : decode cX11_note 34 = .ok (.aload_n 0, 1) := by decide +kernel
theorem dX11_note_35 : decode cX11_note 35 = .ok (.getfield 19, 3) := by decide +kernel
theorem dX11_note_38 : decode cX11_note 38 = .ok (.iload_n 1, 1) := by decide +kernel
theorem dX11_note_39 : decode cX11_note 39 = .ok (.iaload, 1) := by decide +kernel
theorem dX11_note_40 : decode cX11_note 40 = .ok (.goto 42, 3) := by decide +kernel
theorem dX11_note_43 : decode cX11_note 43 = .ok (.iload_n 2, 1) := by decide +kernel
theorem dX11_note_44 : decode cX11_note 44 = .ok (.iconst 1, 1) := by decide +kernel
theorem dX11_note_45 : decode cX11_note 45 = .ok (.if_icmp .ne 12, 3) := by decide +kernel
theorem dX11_note_48 : decode cX11_note 48 = .ok (.aload_n 0, 1) := by decide +kernel
theorem dX11_note_49 : decode cX11_note 49 = .ok (.getfield 22, 3) := by decide +kernel
theorem dX11_note_52 : decode cX11_note 52 = .ok (.iload_n 1, 1) := by decide +kernel
theorem dX11_note_53 : decode cX11_note 53 = .ok (.iaload, 1) := by decide +kernel
theorem dX11_note_54 : decode cX11_note 54 = .ok (.goto 28, 3) := by decide +kernel
theorem dX11_note_57 : decode cX11_note 57 = .ok (.iload_n 2, 1) := by decide +kernel
theorem dX11_note_58 : decode cX11_note 58 = .ok (.iconst 2, 1) := by decide +kernel
theorem dX11_note_59 : decode cX11_note 59 = .ok (.if_icmp .ne 14, 3) := by decide +kernel
theorem dX11_note_62 : decode cX11_note 62 = .ok (.aload_n 0, 1) := by decide +kernel
theorem dX11_note_63 : decode cX11_note 63 = .ok (.getfield 28, 3) := by decide +kernel
theorem dX11_note_66 : decode cX11_note 66 = .ok (.iconst 0, 1) := by decide +kernel
theorem dX11_note_67 : decode cX11_note 67 = .ok (.iload_n 1, 1) := by decide +kernel
theorem dX11_note_68 : decode cX11_note 68 = .ok (.iadd, 1) := by decide +kernel
theorem dX11_note_69 : decode cX11_note 69 = .ok (.iaload, 1) := by decide +kernel
theorem dX11_note_70 : decode cX11_note 70 = .ok (.goto 12, 3) := by decide +kernel
theorem dX11_note_73 : decode cX11_note 73 = .ok (.aload_n 0, 1) := by decide +kernel
theorem dX11_note_74 : decode cX11_note 74 = .ok (.getfield 28, 3) := by decide +kernel
theorem dX11_note_77 : decode cX11_note 77 = .ok (.bipush 6, 2) := by decide +kernel
theorem dX11_note_79 : decode cX11_note 79 = .ok (.iload_n 1, 1) := by decide +kernel
theorem dX11_note_80 : decode cX11_note 80 = .ok (.iadd, 1) := by decide +kernel
theorem dX11_note_81 : decode cX11_note 81 = .ok (.iaload, 1) := by decide +kernel
theorem dX11_note_82 : decode cX11_note 82 = .ok (.ireturn, 1) := by decide +kernel
theorem dX11_note_83 : decode cX11_note 83 = .ok (.iload_n 2, 1) := by decide +kernel
theorem dX11_note_84 : decode cX11_note 84 = .ok (.iconst 4, 1) := by decide +kernel
theorem dX11_note_85 : decode cX11_note 85 = .ok (.if_icmp .ne 17, 3) := by decide +kernel
theorem dX11_note_88 : decode cX11_note 88 = .ok (.aload_n 0, 1) := by decide +kernel
theorem dX11_note_89 : decode cX11_note 89 = .ok (.getfield 28, 3) := by decide +kernel
theorem dX11_note_92 : decode cX11_note 92 = .ok (.bipush 12, 2) := by decide +kernel
theorem dX11_note_94 : decode cX11_note 94 = .ok (.iaload, 1) := by decide +kernel
theorem dX11_note_95 : decode cX11_note 95 = .ok (.iload_n 1, 1) := by decide +kernel
theorem dX11_note_96 : decode cX11_note 96 = .ok (.ishr, 1) := by decide +kernel
theorem dX11_note_97 : decode cX11_note 97 = .ok (.iconst 1, 1) := by decide +kernel
theorem dX11_note_98 : decode cX11_note 98 = .ok (.iand, 1) := by decide +kernel
theorem dX11_note_99 : decode cX11_note 99 = .ok (.goto 32, 3) := by decide +kernel
theorem dX11_note_102 : decode cX11_note 102 = .ok (.iload_n 2, 1) := by decide +kernel
theorem dX11_note_103 : decode cX11_note 103 = .ok (.iconst 5, 1) := by decide +kernel
theorem dX11_note_104 : decode cX11_note 104 = .ok (.if_icmp .ne 17, 3) := by decide +kernel
theorem dX11_note_107 : decode cX11_note 107 = .ok (.aload_n 0, 1) := by decide +kernel
theorem dX11_note_108 : decode cX11_note 108 = .ok (.getfield 28, 3) := by decide +kernel
theorem dX11_note_111 : decode cX11_note 111 = .ok (.bipush 13, 2) := by decide +kernel
theorem dX11_note_113 : decode cX11_note 113 = .ok (.iaload, 1) := by decide +kernel
theorem dX11_note_114 : decode cX11_note 114 = .ok (.iload_n 1, 1) := by decide +kernel
theorem dX11_note_115 : decode cX11_note 115 = .ok (.ishr, 1) := by decide +kernel
theorem dX11_note_116 : decode cX11_note 116 = .ok (.iconst 1, 1) := by decide +kernel
theorem dX11_note_117 : decode cX11_note 117 = .ok (.iand, 1) := by decide +kernel
theorem dX11_note_118 : decode cX11_note 118 = .ok (.goto 13, 3) := by decide +kernel
theorem dX11_note_121 : decode cX11_note 121 = .ok (.aload_n 0, 1) := by decide +kernel
theorem dX11_note_122 : decode cX11_note 122 = .ok (.iload_n 1, 1) := by decide +kernel
theorem dX11_note_123 : decode cX11_note 123 = .ok (.aload_n 0, 1) := by decide +kernel
theorem dX11_note_124 : decode cX11_note 124 = .ok (.iload_n 1, 1) := by decide +kernel
theorem dX11_note_125 : decode cX11_note 125 = .ok (.invokevirtual 133, 3) := by decide +kernel
theorem dX11_note_128 : decode cX11_note 128 = .ok (.invokevirtual 136, 3) := by decide +kernel
theorem dX11_note_131 : decode cX11_note 131 = .ok (.ireturn, 1) := by decide +kernel
theorem dX11_person_0 : decode cX11_person 0 = .ok (.aload_n 0, 1) := by decide +kernel
theorem dX11_person_1 : decode cX11_person 1 = .ok (.iconst 0, 1) := by decide +kernel
theorem dX11_person_2 : decode cX11_person 2 = .ok (.putfield 65, 3) := by decide +kernel
theorem dX11_person_5 : decode cX11_person 5 = .ok (.aload_n 0, 1) := by decide +kernel
theorem dX11_person_6 : decode cX11_person 6 = .ok (.iload_n 1, 1) := by decide +kernel
theorem dX11_person_7 : decode cX11_person 7 = .ok (.invokevirtual 140, 3) := by decide +kernel
theorem dX11_person_10 : decode cX11_person 10 = .ok (.ifCond .eq 12, 3) := by decide +kernel
theorem dX11_person_13 : decode cX11_person 13 = .ok (.iload_n 2, 1) := by decide +kernel
theorem dX11_person_14 : decode cX11_person 14 = .ok (.iconst 0, 1) := by decide +kernel
theorem dX11_person_15 : decode cX11_person 15 = .ok (.iconst 1, 1) := by decide +kernel
theorem dX11_person_16 : decode cX11_person 16 = .ok (.invokestatic 69, 3) := by decide +kernel
theorem dX11_person_19 : decode cX11_person 19 = .ok (.ifCond .ne 5, 3) := by decide +kernel
theorem dX11_person_22 : decode cX11_person 22 = .ok (.iconst (-1), 1) := by decide +kernel
theorem dX11_person_23 : decode cX11_person 23 = .ok (.ireturn, 1) := by decide +kernel
theorem dX11_person_24 : decode cX11_person 24 = .ok (.iconst 0, 1) := by decide +kernel
theorem dX11_person_25 : decode cX11_person 25 = .ok (.istore_n 3, 1) := by decide +kernel
theorem dX11_person_26 : decode cX11_person 26 = .ok (.iconst 0, 1) := by decide +kernel
theorem dX11_person_27 : decode cX11_person 27 = .ok (.istore 4, 2) := by decide +kernel
theorem dX11_person_29 : decode cX11_person 29 = .ok (.iload 4, 2) := by decide +kernel
theorem dX11_person_31 : decode cX11_person 31 = .ok (.aload_n 0, 1) := by decide +kernel
theorem dX11_person_32 : decode cX11_person 32 = .ok (.getfield 13, 3) := by decide +kernel
theorem dX11_person_35 : decode cX11_person 35 = .ok (.iconst 1, 1) := by decide +kernel
theorem dX11_person_36 : decode cX11_person 36 = .ok (.iaload, 1) := by decide +kernel
theorem dX11_person_37 : decode cX11_person 37 = .ok (.if_icmp .ge 45, 3) := by decide +kernel
theorem dX11_person_40 : decode cX11_person 40 = .ok (.iload_n 3, 1) := by decide +kernel
theorem dX11_person_41 : decode cX11_person 41 = .ok (.aload_n 0, 1) := by decide +kernel
theorem dX11_person_42 : decode cX11_person 42 = .ok (.getfield 28, 3) := by decide +kernel
theorem dX11_person_45 : decode cX11_person 45 = .ok (.iconst 0, 1) := by decide +kernel
theorem dX11_person_46 : decode cX11_person 46 = .ok (.iload 4, 2) := by decide +kernel
theorem dX11_person_48 : decode cX11_person 48 = .ok (.iadd, 1) := by decide +kernel
theorem dX11_person_49 : decode cX11_person 49 = .ok (.iaload, 1) := by decide +kernel
theorem dX11_person_50 : decode cX11_person 50 = .ok (.iload_n 1, 1) := by decide +kernel
theorem dX11_person_51 : decode cX11_person 51 = .ok (.if_icmp .ne 22, 3) := by decide +kernel
theorem dX11_person_54 : decode cX11_person 54 = .ok (.aload_n 0, 1) := by decide +kernel
theorem dX11_person_55 : decode cX11_person 55 = .ok (.iload 4, 2) := by decide +kernel
theorem dX11_person_57 : decode cX11_person 57 = .ok (.invokevirtual 143, 3) := by decide +kernel
theorem dX11_person_60 : decode cX11_person 60 = .ok (.ifCond .ne 13, 3) := by decide +kernel
theorem dX11_person_63 : decode cX11_person 63 = .ok (.aload_n 0, 1) := by decide +kernel
theorem dX11_person_64 : decode cX11_person 64 = .ok (.getfield 19, 3) := by decide +kernel
theorem dX11_person_67 : decode cX11_person 67 = .ok (.iload 4, 2) := by decide +kernel
theorem dX11_person_69 : decode cX11_person 69 = .ok (.iaload, 1) := by decide +kernel
theorem dX11_person_70 : decode cX11_person 70 = .ok (.goto 4, 3) := by decide +kernel
theorem dX11_person_73 : decode cX11_person 73 = .ok (.iconst 0, 1) := by decide +kernel
theorem dX11_person_74 : decode cX11_person 74 = .ok (.iadd, 1) := by decide +kernel
theorem dX11_person_75 : decode cX11_person 75 = .ok (.istore_n 3, 1) := by decide +kernel
theorem dX11_person_76 : decode cX11_person 76 = .ok (.iinc 4 1, 3) := by decide +kernel
theorem dX11_person_79 : decode cX11_person 79 = .ok (.goto (-50), 3) := by decide +kernel
theorem dX11_person_82 : decode cX11_person 82 = .ok (.iload_n 2, 1) := by decide +kernel
theorem dX11_person_83 : decode cX11_person 83 = .ok (.ifCond .ne 15, 3) := by decide +kernel
theorem dX11_person_86 : decode cX11_person 86 = .ok (.aload_n 0, 1) := by decide +kernel
theorem dX11_person_87 : decode cX11_person 87 = .ok (.getfield 28, 3) := by decide +kernel
theorem dX11_person_90 : decode cX11_person 90 = .ok (.bipush 14, 2) := by decide +kernel
theorem dX11_person_92 : decode cX11_person 92 = .ok (.iload_n 1, 1) := by decide +kernel
theorem dX11_person_93 : decode cX11_person 93 = .ok (.iadd, 1) := by decide +kernel
theorem dX11_person_94 : decode cX11_person 94 = .ok (.iaload, 1) := by decide +kernel
theorem dX11_person_95 : decode cX11_person 95 = .ok (.goto 4, 3) := by decide +kernel
theorem dX11_person_98 : decode cX11_person 98 = .ok (.iload_n 3, 1) := by decide +kernel
theorem dX11_person_99 : decode cX11_person 99 = .ok (.ireturn, 1) := by decide +kernel
theorem dX11_worthOfAll_0 : decode cX11_worthOfAll 0 = .ok (.iconst 0, 1) := by decide +kernel
theorem dX11_worthOfAll_1 : decode cX11_worthOfAll 1 = .ok (.istore_n 2, 1) := by decide +kernel
theorem dX11_worthOfAll_2 : decode cX11_worthOfAll 2 = .ok (.iconst 0, 1) := by decide +kernel
theorem dX11_worthOfAll_3 : decode cX11_worthOfAll 3 = .ok (.istore_n 3, 1) := by decide +kernel
theorem dX11_worthOfAll_4 : decode cX11_worthOfAll 4 = .ok (.iload_n 3, 1) := by decide +kernel
theorem dX11_worthOfAll_5 : decode cX11_worthOfAll 5 = .ok (.aload_n 0, 1) := by decide +kernel
theorem dX11_worthOfAll_6 : decode cX11_worthOfAll 6 = .ok (.getfield 13, 3) := by decide +kernel
theorem dX11_worthOfAll_9 : decode cX11_worthOfAll 9 = .ok (.iconst 1, 1) := by decide +kernel
theorem dX11_worthOfAll_10 : decode cX11_worthOfAll 10 = .ok (.iaload, 1) := by decide +kernel
theorem dX11_worthOfAll_11 : decode cX11_worthOfAll 11 = .ok (.if_icmp .ge 43, 3) := by decide +kernel
theorem dX11_worthOfAll_14 : decode cX11_worthOfAll 14 = .ok (.iload_n 2, 1) := by decide +kernel
theorem dX11_worthOfAll_15 : decode cX11_worthOfAll 15 = .ok (.aload_n 0, 1) := by decide +kernel
theorem dX11_worthOfAll_16 : decode cX11_worthOfAll 16 = .ok (.iload_n 3, 1) := by decide +kernel
theorem dX11_worthOfAll_17 : decode cX11_worthOfAll 17 = .ok (.invokevirtual 143, 3) := by decide +kernel
theorem dX11_worthOfAll_20 : decode cX11_worthOfAll 20 = .ok (.ifCond .ne 16, 3) := by decide +kernel
theorem dX11_worthOfAll_23 : decode cX11_worthOfAll 23 = .ok (.iload_n 1, 1) := by decide +kernel
theorem dX11_worthOfAll_24 : decode cX11_worthOfAll 24 = .ok (.ifCond .eq 16, 3) := by decide +kernel
theorem dX11_worthOfAll_27 : decode cX11_worthOfAll 27 = .ok (.aload_n 0, 1) := by decide +kernel
theorem dX11_worthOfAll_28 : decode cX11_worthOfAll 28 = .ok (.getfield 22, 3) := by decide +kernel
theorem dX11_worthOfAll_31 : decode cX11_worthOfAll 31 = .ok (.iload_n 3, 1) := by decide +kernel
theorem dX11_worthOfAll_32 : decode cX11_worthOfAll 32 = .ok (.iaload, 1) := by decide +kernel
theorem dX11_worthOfAll_33 : decode cX11_worthOfAll 33 = .ok (.ifCond .ne 7, 3) := by decide +kernel
theorem dX11_worthOfAll_36 : decode cX11_worthOfAll 36 = .ok (.iconst 0, 1) := by decide +kernel
theorem dX11_worthOfAll_37 : decode cX11_worthOfAll 37 = .ok (.goto 9, 3) := by decide +kernel
theorem dX11_worthOfAll_40 : decode cX11_worthOfAll 40 = .ok (.aload_n 0, 1) := by decide +kernel
theorem dX11_worthOfAll_41 : decode cX11_worthOfAll 41 = .ok (.getfield 19, 3) := by decide +kernel
theorem dX11_worthOfAll_44 : decode cX11_worthOfAll 44 = .ok (.iload_n 3, 1) := by decide +kernel
theorem dX11_worthOfAll_45 : decode cX11_worthOfAll 45 = .ok (.iaload, 1) := by decide +kernel
theorem dX11_worthOfAll_46 : decode cX11_worthOfAll 46 = .ok (.iadd, 1) := by decide +kernel
theorem dX11_worthOfAll_47 : decode cX11_worthOfAll 47 = .ok (.istore_n 2, 1) := by decide +kernel
theorem dX11_worthOfAll_48 : decode cX11_worthOfAll 48 = .ok (.iinc 3 1, 3) := by decide +kernel
theorem dX11_worthOfAll_51 : decode cX11_worthOfAll 51 = .ok (.goto (-47), 3) := by decide +kernel
theorem dX11_worthOfAll_54 : decode cX11_worthOfAll 54 = .ok (.iload_n 2, 1) := by decide +kernel
theorem dX11_worthOfAll_55 : decode cX11_worthOfAll 55 = .ok (.ireturn, 1) := by decide +kernel
theorem dX11_now_0 : decode cX11_now 0 = .ok (.aload_n 0, 1) := by decide +kernel
theorem dX11_now_1 : decode cX11_now 1 = .ok (.iconst 0, 1) := by decide +kernel
theorem dX11_now_2 : decode cX11_now 2 = .ok (.putfield 65, 3) := by decide +kernel
theorem dX11_now_5 : decode cX11_now 5 = .ok (.iload_n 1, 1) := by decide +kernel
theorem dX11_now_6 : decode cX11_now 6 = .ok (.iconst 0, 1) := by decide +kernel
theorem dX11_now_7 : decode cX11_now 7 = .ok (.iconst 5, 1) := by decide +kernel
theorem dX11_now_8 : decode cX11_now 8 = .ok (.invokestatic 69, 3) := by decide +kernel
theorem dX11_now_11 : decode cX11_now 11 = .ok (.ifCond .ne 5, 3) := by decide +kernel
theorem dX11_now_14 : decode cX11_now 14 = .ok (.iconst (-1), 1) := by decide +kernel
theorem dX11_now_15 : decode cX11_now 15 = .ok (.ireturn, 1) := by decide +kernel
theorem dX11_now_16 : decode cX11_now 16 = .ok (.iload_n 1, 1) := by decide +kernel
theorem dX11_now_17 : decode cX11_now 17 = .ok (.ifCond .ne 13, 3) := by decide +kernel
theorem dX11_now_20 : decode cX11_now 20 = .ok (.aload_n 0, 1) := by decide +kernel
theorem dX11_now_21 : decode cX11_now 21 = .ok (.getfield 28, 3) := by decide +kernel
theorem dX11_now_24 : decode cX11_now 24 = .ok (.bipush 12, 2) := by decide +kernel
theorem dX11_now_26 : decode cX11_now 26 = .ok (.iaload, 1) := by decide +kernel
theorem dX11_now_27 : decode cX11_now 27 = .ok (.goto 59, 3) := by decide +kernel
theorem dX11_now_30 : decode cX11_now 30 = .ok (.iload_n 1, 1) := by decide +kernel
theorem dX11_now_31 : decode cX11_now 31 = .ok (.iconst 1, 1) := by decide +kernel
theorem dX11_now_32 : decode cX11_now 32 = .ok (.if_icmp .ne 13, 3) := by decide +kernel
theorem dX11_now_35 : decode cX11_now 35 = .ok (.aload_n 0, 1) := by decide +kernel
theorem dX11_now_36 : decode cX11_now 36 = .ok (.getfield 28, 3) := by decide +kernel
theorem dX11_now_39 : decode cX11_now 39 = .ok (.bipush 13, 2) := by decide +kernel
theorem dX11_now_41 : decode cX11_now 41 = .ok (.iaload, 1) := by decide +kernel
theorem dX11_now_42 : decode cX11_now 42 = .ok (.goto 44, 3) := by decide +kernel
theorem dX11_now_45 : decode cX11_now 45 = .ok (.iload_n 1, 1) := by decide +kernel
theorem dX11_now_46 : decode cX11_now 46 = .ok (.iconst 2, 1) := by decide +kernel
theorem dX11_now_47 : decode cX11_now 47 = .ok (.if_icmp .ne 13, 3) := by decide +kernel
theorem dX11_now_50 : decode cX11_now 50 = .ok (.aload_n 0, 1) := by decide +kernel
theorem dX11_now_51 : decode cX11_now 51 = .ok (.getfield 28, 3) := by decide +kernel
theorem dX11_now_54 : decode cX11_now 54 = .ok (.bipush 19, 2) := by decide +kernel
theorem dX11_now_56 : decode cX11_now 56 = .ok (.iaload, 1) := by decide +kernel
theorem dX11_now_57 : decode cX11_now 57 = .ok (.goto 29, 3) := by decide +kernel
theorem dX11_now_60 : decode cX11_now 60 = .ok (.iload_n 1, 1) := by decide +kernel
theorem dX11_now_61 : decode cX11_now 61 = .ok (.iconst 5, 1) := by decide +kernel
theorem dX11_now_62 : decode cX11_now 62 = .ok (.if_icmp .ne 10, 3) := by decide +kernel
theorem dX11_now_65 : decode cX11_now 65 = .ok (.aload_n 0, 1) := by decide +kernel
theorem dX11_now_66 : decode cX11_now 66 = .ok (.getfield 126, 3) := by decide +kernel
theorem dX11_now_69 : decode cX11_now 69 = .ok (.goto 17, 3) := by decide +kernel
theorem dX11_now_72 : decode cX11_now 72 = .ok (.aload_n 0, 1) := by decide +kernel
theorem dX11_now_73 : decode cX11_now 73 = .ok (.iload_n 1, 1) := by decide +kernel
theorem dX11_now_74 : decode cX11_now 74 = .ok (.iconst 4, 1) := by decide +kernel
theorem dX11_now_75 : decode cX11_now 75 = .ok (.if_icmp .ne 7, 3) := by decide +kernel
theorem dX11_now_78 : decode cX11_now 78 = .ok (.iconst 1, 1) := by decide +kernel
theorem dX11_now_79 : decode cX11_now 79 = .ok (.goto 4, 3) := by decide +kernel
theorem dX11_now_82 : decode cX11_now 82 = .ok (.iconst 0, 1) := by decide +kernel
theorem dX11_now_83 : decode cX11_now 83 = .ok (.invokevirtual 146, 3) := by decide +kernel
theorem dX11_now_86 : decode cX11_now 86 = .ok (.ireturn, 1) := by decide +kernel
theorem dX11_notes_0 : decode cX11_notes 0 = .ok (.aload_n 0, 1) := by decide +kernel
theorem dX11_notes_1 : decode cX11_notes 1 = .ok (.getfield 126, 3) := by decide +kernel
theorem dX11_notes_4 : decode cX11_notes 4 = .ok (.bipush 10, 2) := by decide +kernel
theorem dX11_notes_6 : decode cX11_notes 6 = .ok (.if_icmp .ne 39, 3) := by decide +kernel
theorem dX11_notes_9 : decode cX11_notes 9 = .ok (.iconst 0, 1) := by decide +kernel
theorem dX11_notes_10 : decode cX11_notes 10 = .ok (.istore_n 1, 1) := by decide +kernel
theorem dX11_notes_11 : decode cX11_notes 11 = .ok (.iload_n 1, 1) := by decide +kernel
theorem dX11_notes_12 : decode cX11_notes 12 = .ok (.sipush 180, 3) := by decide +kernel
theorem dX11_notes_15 : decode cX11_notes 15 = .ok (.if_icmp .ge 24, 3) := by decide +kernel
theorem dX11_notes_18 : decode cX11_notes 18 = .ok (.aload_n 0, 1) := by decide +kernel
theorem dX11_notes_19 : decode cX11_notes 19 = .ok (.getfield 38, 3) := by decide +kernel
theorem dX11_notes_22 : decode cX11_notes 22 = .ok (.iload_n 1, 1) := by decide +kernel
theorem dX11_notes_23 : decode cX11_notes 23 = .ok (.aload_n 0, 1) := by decide +kernel
theorem dX11_notes_24 : decode cX11_notes 24 = .ok (.getfield 38, 3) := by decide +kernel
theorem dX11_notes_27 : decode cX11_notes 27 = .ok (.iload_n 1, 1) := by decide +kernel
theorem dX11_notes_28 : decode cX11_notes 28 = .ok (.bipush 20, 2) := by decide +kernel
theorem dX11_notes_30 : decode cX11_notes 30 = .ok (.iadd, 1) := by decide +kernel
theorem dX11_notes_31 : decode cX11_notes 31 = .ok (.iaload, 1) := by decide +kernel
theorem dX11_notes_32 : decode cX11_notes 32 = .ok (.iastore, 1) := by decide +kernel
theorem dX11_notes_33 : decode cX11_notes 33 = .ok (.iinc 1 1, 3) := by decide +kernel
theorem dX11_notes_36 : decode cX11_notes 36 = .ok (.goto (-25), 3) := by decide +kernel
theorem dX11_notes_39 : decode cX11_notes 39 = .ok (.aload_n 0, 1) := by decide +kernel
theorem dX11_notes_40 : decode cX11_notes 40 = .ok (.bipush 9, 2) := by decide +kernel
theorem dX11_notes_42 : decode cX11_notes 42 = .ok (.putfield 126, 3) := by decide +kernel
theorem dX11_notes_45 : decode cX11_notes 45 = .ok (.iconst 0, 1) := by decide +kernel
theorem dX11_notes_46 : decode cX11_notes 46 = .ok (.istore_n 1, 1) := by decide +kernel
theorem dX11_notes_47 : decode cX11_notes 47 = .ok (.iload_n 1, 1) := by decide +kernel
theorem dX11_notes_48 : decode cX11_notes 48 = .ok (.bipush 20, 2) := by decide +kernel
theorem dX11_notes_50 : decode cX11_notes 50 = .ok (.if_icmp .ge 29, 3) := by decide +kernel
theorem dX11_notes_53 : decode cX11_notes 53 = .ok (.aload_n 0, 1) := by decide +kernel
theorem dX11_notes_54 : decode cX11_notes 54 = .ok (.getfield 38, 3) := by decide +kernel
theorem dX11_notes_57 : decode cX11_notes 57 = .ok (.bipush 20, 2) := by decide +kernel
theorem dX11_notes_59 : decode cX11_notes 59 = .ok (.aload_n 0, 1) := by decide +kernel
theorem dX11_notes_60 : decode cX11_notes 60 = .ok (.getfield 126, 3) := by decide +kernel
theorem dX11_notes_63 : decode cX11_notes 63 = .ok (.imul, 1) := by decide +kernel
theorem dX11_notes_64 : decode cX11_notes 64 = .ok (.iload_n 1, 1) := by decide +kernel
theorem dX11_notes_65 : decode cX11_notes 65 = .ok (.iadd, 1) := by decide +kernel
theorem dX11_notes_66 : decode cX11_notes 66 = .ok (.aload_n 0, 1) := by decide +kernel
theorem dX11_notes_67 : decode cX11_notes 67 = .ok (.getfield 28, 3) := by decide +kernel
theorem dX11_notes_70 : decode cX11_notes 70 = .ok (.iload_n 1, 1) := by decide +kernel
theorem dX11_notes_71 : decode cX11_notes 71 = .ok (.iaload, 1) := by decide +kernel
theorem dX11_notes_72 : decode cX11_notes 72 = .ok (.iastore, 1) := by decide +kernel
theorem dX11_notes_73 : decode cX11_notes 73 = .ok (.iinc 1 1, 3) := by decide +kernel
theorem dX11_notes_76 : decode cX11_notes 76 = .ok (.goto (-29), 3) := by decide +kernel
theorem dX11_notes_79 : decode cX11_notes 79 = .ok (.aload_n 0, 1) := by decide +kernel
theorem dX11_notes_80 : decode cX11_notes 80 = .ok (.dup, 1) := by decide +kernel
theorem dX11_notes_81 : decode cX11_notes 81 = .ok (.getfield 126, 3) := by decide +kernel
theorem dX11_notes_84 : decode cX11_notes 84 = .ok (.iconst 1, 1) := by decide +kernel
theorem dX11_notes_85 : decode cX11_notes 85 = .ok (.iadd, 1) := by decide +kernel
theorem dX11_notes_86 : decode cX11_notes 86 = .ok (.putfield 126, 3) := by decide +kernel
theorem dX11_notes_89 : decode cX11_notes 89 = .ok (.return_, 1) := by decide +kernel
theorem dX11_passes_0 : decode cX11_passes 0 = .ok (.aload_n 0, 1) := by decide +kernel
theorem dX11_passes_1 : decode cX11_passes 1 = .ok (.iconst 0, 1) := by decide +kernel
theorem dX11_passes_2 : decode cX11_passes 2 = .ok (.putfield 65, 3) := by decide +kernel
theorem dX11_passes_5 : decode cX11_passes 5 = .ok (.aload_n 0, 1) := by decide +kernel
theorem dX11_passes_6 : decode cX11_passes 6 = .ok (.iload_n 1, 1) := by decide +kernel
theorem dX11_passes_7 : decode cX11_passes 7 = .ok (.invokevirtual 129, 3) := by decide +kernel
theorem dX11_passes_10 : decode cX11_passes 10 = .ok (.ifCond .eq 11, 3) := by decide +kernel
theorem dX11_passes_13 : decode cX11_passes 13 = .ok (.aload_n 0, 1) := by decide +kernel
theorem dX11_passes_14 : decode cX11_passes 14 = .ok (.iload_n 2, 1) := by decide +kernel
theorem dX11_passes_15 : decode cX11_passes 15 = .ok (.invokevirtual 140, 3) := by decide +kernel
theorem dX11_passes_18 : decode cX11_passes 18 = .ok (.ifCond .ne 5, 3) := by decide +kernel
theorem dX11_passes_21 : decode cX11_passes 21 = .ok (.iconst (-1), 1) := by decide +kernel
theorem dX11_passes_22 : decode cX11_passes 22 = .ok (.ireturn, 1) := by decide +kernel
theorem dX11_passes_23 : decode cX11_passes 23 = .ok (.aload_n 0, 1) := by decide +kernel
theorem dX11_passes_24 : decode cX11_passes 24 = .ok (.iload_n 1, 1) := by decide +kernel
theorem dX11_passes_25 : decode cX11_passes 25 = .ok (.invokevirtual 143, 3) := by decide +kernel
theorem dX11_passes_28 : decode cX11_passes 28 = .ok (.ifCond .ne 43, 3) := by decide +kernel
theorem dX11_passes_31 : decode cX11_passes 31 = .ok (.aload_n 0, 1) := by decide +kernel
theorem dX11_passes_32 : decode cX11_passes 32 = .ok (.getfield 28, 3) := by decide +kernel
theorem dX11_passes_35 : decode cX11_passes 35 = .ok (.iconst 0, 1) := by decide +kernel
theorem dX11_passes_36 : decode cX11_passes 36 = .ok (.iload_n 1, 1) := by decide +kernel
theorem dX11_passes_37 : decode cX11_passes 37 = .ok (.iadd, 1) := by decide +kernel
theorem dX11_passes_38 : decode cX11_passes 38 = .ok (.iaload, 1) := by decide +kernel
theorem dX11_passes_39 : decode cX11_passes 39 = .ok (.iload_n 2, 1) := by decide +kernel
theorem dX11_passes_40 : decode cX11_passes 40 = .ok (.if_icmp .eq 31, 3) := by decide +kernel
theorem dX11_passes_43 : decode cX11_passes 43 = .ok (.aload_n 0, 1) := by decide +kernel
theorem dX11_passes_44 : decode cX11_passes 44 = .ok (.getfield 28, 3) := by decide +kernel
theorem dX11_passes_47 : decode cX11_passes 47 = .ok (.bipush 6, 2) := by decide +kernel
theorem dX11_passes_49 : decode cX11_passes 49 = .ok (.iload_n 1, 1) := by decide +kernel
theorem dX11_passes_50 : decode cX11_passes 50 = .ok (.iadd, 1) := by decide +kernel
theorem dX11_passes_51 : decode cX11_passes 51 = .ok (.iaload, 1) := by decide +kernel
theorem dX11_passes_52 : decode cX11_passes 52 = .ok (.sipush 999, 3) := by decide +kernel
theorem dX11_passes_55 : decode cX11_passes 55 = .ok (.if_icmp .eq 16, 3) := by decide +kernel
theorem dX11_passes_58 : decode cX11_passes 58 = .ok (.aload_n 0, 1) := by decide +kernel
theorem dX11_passes_59 : decode cX11_passes 59 = .ok (.getfield 28, 3) := by decide +kernel
theorem dX11_passes_62 : decode cX11_passes 62 = .ok (.bipush 19, 2) := by decide +kernel
theorem dX11_passes_64 : decode cX11_passes 64 = .ok (.iaload, 1) := by decide +kernel
theorem dX11_passes_65 : decode cX11_passes 65 = .ok (.sipush 999, 3) := by decide +kernel
theorem dX11_passes_68 : decode cX11_passes 68 = .ok (.if_icmp .ne 6, 3) := by decide +kernel
theorem dX11_passes_71 : decode cX11_passes 71 = .ok (.bipush (-2), 2) := by decide +kernel
theorem dX11_passes_73 : decode cX11_passes 73 = .ok (.ireturn, 1) := by decide +kernel
theorem dX11_passes_74 : decode cX11_passes 74 = .ok (.aload_n 0, 1) := by decide +kernel
theorem dX11_passes_75 : decode cX11_passes 75 = .ok (.invokevirtual 149, 3) := by decide +kernel
theorem dX11_passes_78 : decode cX11_passes 78 = .ok (.aload_n 0, 1) := by decide +kernel
theorem dX11_passes_79 : decode cX11_passes 79 = .ok (.iload_n 1, 1) := by decide +kernel
theorem dX11_passes_80 : decode cX11_passes 80 = .ok (.aload_n 0, 1) := by decide +kernel
theorem dX11_passes_81 : decode cX11_passes 81 = .ok (.iload_n 1, 1) := by decide +kernel
theorem dX11_passes_82 : decode cX11_passes 82 = .ok (.invokevirtual 133, 3) := by decide +kernel
theorem dX11_passes_85 : decode cX11_passes 85 = .ok (.invokevirtual 136, 3) := by decide +kernel
theorem dX11_passes_88 : decode cX11_passes 88 = .ok (.iload_n 2, 1) := by decide +kernel
theorem dX11_passes_89 : decode cX11_passes 89 = .ok (.ishr, 1) := by decide +kernel
theorem dX11_passes_90 : decode cX11_passes 90 = .ok (.iconst 1, 1) := by decide +kernel
theorem dX11_passes_91 : decode cX11_passes 91 = .ok (.iand, 1) := by decide +kernel
theorem dX11_passes_92 : decode cX11_passes 92 = .ok (.ifCond .ne 26, 3) := by decide +kernel
theorem dX11_passes_95 : decode cX11_passes 95 = .ok (.aload_n 0, 1) := by decide +kernel
theorem dX11_passes_96 : decode cX11_passes 96 = .ok (.getfield 28, 3) := by decide +kernel
theorem dX11_passes_99 : decode cX11_passes 99 = .ok (.bipush 19, 2) := by decide +kernel
theorem dX11_passes_101 : decode cX11_passes 101 = .ok (.dup2, 1) := by decide +kernel
theorem dX11_passes_102 : decode cX11_passes 102 = .ok (.iaload, 1) := by decide +kernel
theorem dX11_passes_103 : decode cX11_passes 103 = .ok (.iconst 1, 1) := by decide +kernel
theorem dX11_passes_104 : decode cX11_passes 104 = .ok (.iadd, 1) := by decide +kernel
theorem dX11_passes_105 : decode cX11_passes 105 = .ok (.iastore, 1) := by decide +kernel
theorem dX11_passes_106 : decode cX11_passes 106 = .ok (.aload_n 0, 1) := by decide +kernel
theorem dX11_passes_107 : decode cX11_passes 107 = .ok (.getfield 28, 3) := by decide +kernel
theorem dX11_passes_110 : decode cX11_passes 110 = .ok (.bipush 6, 2) := by decide +kernel
theorem dX11_passes_112 : decode cX11_passes 112 = .ok (.iload_n 1, 1) := by decide +kernel
theorem dX11_passes_113 : decode cX11_passes 113 = .ok (.iadd, 1) := by decide +kernel
theorem dX11_passes_114 : decode cX11_passes 114 = .ok (.iconst 0, 1) := by decide +kernel
theorem dX11_passes_115 : decode cX11_passes 115 = .ok (.iastore, 1) := by decide +kernel
theorem dX11_passes_116 : decode cX11_passes 116 = .ok (.iconst 0, 1) := by decide +kernel
theorem dX11_passes_117 : decode cX11_passes 117 = .ok (.ireturn, 1) := by decide +kernel
theorem dX11_passes_118 : decode cX11_passes 118 = .ok (.aload_n 0, 1) := by decide +kernel
theorem dX11_passes_119 : decode cX11_passes 119 = .ok (.getfield 28, 3) := by decide +kernel
theorem dX11_passes_122 : decode cX11_passes 122 = .ok (.iconst 0, 1) := by decide +kernel
theorem dX11_passes_123 : decode cX11_passes 123 = .ok (.iload_n 1, 1) := by decide +kernel
theorem dX11_passes_124 : decode cX11_passes 124 = .ok (.iadd, 1) := by decide +kernel
theorem dX11_passes_125 : decode cX11_passes 125 = .ok (.iload_n 2, 1) := by decide +kernel
theorem dX11_passes_126 : decode cX11_passes 126 = .ok (.iastore, 1) := by decide +kernel
theorem dX11_passes_127 : decode cX11_passes 127 = .ok (.aload_n 0, 1) := by decide +kernel
theorem dX11_passes_128 : decode cX11_passes 128 = .ok (.getfield 28, 3) := by decide +kernel
theorem dX11_passes_131 : decode cX11_passes 131 = .ok (.bipush 6, 2) := by decide +kernel
theorem dX11_passes_133 : decode cX11_passes 133 = .ok (.iload_n 1, 1) := by decide +kernel
theorem dX11_passes_134 : decode cX11_passes 134 = .ok (.iadd, 1) := by decide +kernel
theorem dX11_passes_135 : decode cX11_passes 135 = .ok (.dup2, 1) := by decide +kernel
theorem dX11_passes_136 : decode cX11_passes 136 = .ok (.iaload, 1) := by decide +kernel
theorem dX11_passes_137 : decode cX11_passes 137 = .ok (.iconst 1, 1) := by decide +kernel
theorem dX11_passes_138 : decode cX11_passes 138 = .ok (.iadd, 1) := by decide +kernel
theorem dX11_passes_139 : decode cX11_passes 139 = .ok (.iastore, 1) := by decide +kernel
theorem dX11_passes_140 : decode cX11_passes 140 = .ok (.aload_n 0, 1) := by decide +kernel
theorem dX11_passes_141 : decode cX11_passes 141 = .ok (.getfield 28, 3) := by decide +kernel
theorem dX11_passes_144 : decode cX11_passes 144 = .ok (.bipush 12, 2) := by decide +kernel
theorem dX11_passes_146 : decode cX11_passes 146 = .ok (.dup2, 1) := by decide +kernel
theorem dX11_passes_147 : decode cX11_passes 147 = .ok (.iaload, 1) := by decide +kernel
theorem dX11_passes_148 : decode cX11_passes 148 = .ok (.aload_n 0, 1) := by decide +kernel
theorem dX11_passes_149 : decode cX11_passes 149 = .ok (.getfield 22, 3) := by decide +kernel
theorem dX11_passes_152 : decode cX11_passes 152 = .ok (.iload_n 1, 1) := by decide +kernel
theorem dX11_passes_153 : decode cX11_passes 153 = .ok (.iaload, 1) := by decide +kernel
theorem dX11_passes_154 : decode cX11_passes 154 = .ok (.ifCond .eq 27, 3) := by decide +kernel
theorem dX11_passes_157 : decode cX11_passes 157 = .ok (.aload_n 0, 1) := by decide +kernel
theorem dX11_passes_158 : decode cX11_passes 158 = .ok (.getfield 28, 3) := by decide +kernel
theorem dX11_passes_161 : decode cX11_passes 161 = .ok (.bipush 6, 2) := by decide +kernel
theorem dX11_passes_163 : decode cX11_passes 163 = .ok (.iload_n 1, 1) := by decide +kernel
theorem dX11_passes_164 : decode cX11_passes 164 = .ok (.iadd, 1) := by decide +kernel
theorem dX11_passes_165 : decode cX11_passes 165 = .ok (.iaload, 1) := by decide +kernel
theorem dX11_passes_166 : decode cX11_passes 166 = .ok (.aload_n 0, 1) := by decide +kernel
theorem dX11_passes_167 : decode cX11_passes 167 = .ok (.getfield 13, 3) := by decide +kernel
theorem dX11_passes_170 : decode cX11_passes 170 = .ok (.iconst 2, 1) := by decide +kernel
theorem dX11_passes_171 : decode cX11_passes 171 = .ok (.iaload, 1) := by decide +kernel
theorem dX11_passes_172 : decode cX11_passes 172 = .ok (.if_icmp .lt 9, 3) := by decide +kernel
theorem dX11_passes_175 : decode cX11_passes 175 = .ok (.iconst 1, 1) := by decide +kernel
theorem dX11_passes_176 : decode cX11_passes 176 = .ok (.iload_n 1, 1) := by decide +kernel
theorem dX11_passes_177 : decode cX11_passes 177 = .ok (.ishl, 1) := by decide +kernel
theorem dX11_passes_178 : decode cX11_passes 178 = .ok (.goto 4, 3) := by decide +kernel
theorem dX11_passes_181 : decode cX11_passes 181 = .ok (.iconst 0, 1) := by decide +kernel
theorem dX11_passes_182 : decode cX11_passes 182 = .ok (.ior, 1) := by decide +kernel
theorem dX11_passes_183 : decode cX11_passes 183 = .ok (.iastore, 1) := by decide +kernel
theorem dX11_passes_184 : decode cX11_passes 184 = .ok (.iconst 1, 1) := by decide +kernel
theorem dX11_passes_185 : decode cX11_passes 185 = .ok (.ireturn, 1) := by decide +kernel
theorem dX11_teaches_0 : decode cX11_teaches 0 = .ok (.aload_n 0, 1) := by decide +kernel
theorem dX11_teaches_1 : decode cX11_teaches 1 = .ok (.iconst 0, 1) := by decide +kernel
theorem dX11_teaches_2 : decode cX11_teaches 2 = .ok (.putfield 65, 3) := by decide +kernel
theorem dX11_teaches_5 : decode cX11_teaches 5 = .ok (.aload_n 0, 1) := by decide +kernel
theorem dX11_teaches_6 : decode cX11_teaches 6 = .ok (.iload_n 1, 1) := by decide +kernel
theorem dX11_teaches_7 : decode cX11_teaches 7 = .ok (.invokevirtual 140, 3) := by decide +kernel
theorem dX11_teaches_10 : decode cX11_teaches 10 = .ok (.ifCond .eq 13, 3) := by decide +kernel
theorem dX11_teaches_13 : decode cX11_teaches 13 = .ok (.iload_n 2, 1) := by decide +kernel
theorem dX11_teaches_14 : decode cX11_teaches 14 = .ok (.iconst 0, 1) := by decide +kernel
theorem dX11_teaches_15 : decode cX11_teaches 15 = .ok (.bipush 31, 2) := by decide +kernel
theorem dX11_teaches_17 : decode cX11_teaches 17 = .ok (.invokestatic 69, 3) := by decide +kernel
theorem dX11_teaches_20 : decode cX11_teaches 20 = .ok (.ifCond .ne 5, 3) := by decide +kernel
theorem dX11_teaches_23 : decode cX11_teaches 23 = .ok (.iconst (-1), 1) := by decide +kernel
theorem dX11_teaches_24 : decode cX11_teaches 24 = .ok (.ireturn, 1) := by decide +kernel
theorem dX11_teaches_25 : decode cX11_teaches 25 = .ok (.aload_n 0, 1) := by decide +kernel
theorem dX11_teaches_26 : decode cX11_teaches 26 = .ok (.invokevirtual 149, 3) := by decide +kernel
theorem dX11_teaches_29 : decode cX11_teaches 29 = .ok (.aload_n 0, 1) := by decide +kernel
theorem dX11_teaches_30 : decode cX11_teaches 30 = .ok (.getfield 28, 3) := by decide +kernel
theorem dX11_teaches_33 : decode cX11_teaches 33 = .ok (.bipush 14, 2) := by decide +kernel
theorem dX11_teaches_35 : decode cX11_teaches 35 = .ok (.iload_n 1, 1) := by decide +kernel
theorem dX11_teaches_36 : decode cX11_teaches 36 = .ok (.iadd, 1) := by decide +kernel
theorem dX11_teaches_37 : decode cX11_teaches 37 = .ok (.iaload, 1) := by decide +kernel
theorem dX11_teaches_38 : decode cX11_teaches 38 = .ok (.istore_n 3, 1) := by decide +kernel
theorem dX11_teaches_39 : decode cX11_teaches 39 = .ok (.aload_n 0, 1) := by decide +kernel
theorem dX11_teaches_40 : decode cX11_teaches 40 = .ok (.getfield 28, 3) := by decide +kernel
theorem dX11_teaches_43 : decode cX11_teaches 43 = .ok (.bipush 14, 2) := by decide +kernel
theorem dX11_teaches_45 : decode cX11_teaches 45 = .ok (.iload_n 1, 1) := by decide +kernel
theorem dX11_teaches_46 : decode cX11_teaches 46 = .ok (.iadd, 1) := by decide +kernel
theorem dX11_teaches_47 : decode cX11_teaches 47 = .ok (.iload_n 2, 1) := by decide +kernel
theorem dX11_teaches_48 : decode cX11_teaches 48 = .ok (.iastore, 1) := by decide +kernel
theorem dX11_teaches_49 : decode cX11_teaches 49 = .ok (.iload_n 3, 1) := by decide +kernel
theorem dX11_teaches_50 : decode cX11_teaches 50 = .ok (.ireturn, 1) := by decide +kernel
theorem dX11_sends_0 : decode cX11_sends 0 = .ok (.aload_n 0, 1) := by decide +kernel
theorem dX11_sends_1 : decode cX11_sends 1 = .ok (.iconst 0, 1) := by decide +kernel
theorem dX11_sends_2 : decode cX11_sends 2 = .ok (.putfield 65, 3) := by decide +kernel
theorem dX11_sends_5 : decode cX11_sends 5 = .ok (.aload_n 0, 1) := by decide +kernel
theorem dX11_sends_6 : decode cX11_sends 6 = .ok (.iload_n 1, 1) := by decide +kernel
theorem dX11_sends_7 : decode cX11_sends 7 = .ok (.invokevirtual 129, 3) := by decide +kernel
theorem dX11_sends_10 : decode cX11_sends 10 = .ok (.ifCond .eq 12, 3) := by decide +kernel
theorem dX11_sends_13 : decode cX11_sends 13 = .ok (.iload_n 2, 1) := by decide +kernel
theorem dX11_sends_14 : decode cX11_sends 14 = .ok (.iconst 0, 1) := by decide +kernel
theorem dX11_sends_15 : decode cX11_sends 15 = .ok (.iconst 1, 1) := by decide +kernel
theorem dX11_sends_16 : decode cX11_sends 16 = .ok (.invokestatic 69, 3) := by decide +kernel
theorem dX11_sends_19 : decode cX11_sends 19 = .ok (.ifCond .ne 5, 3) := by decide +kernel
theorem dX11_sends_22 : decode cX11_sends 22 = .ok (.iconst (-1), 1) := by decide +kernel
theorem dX11_sends_23 : decode cX11_sends 23 = .ok (.ireturn, 1) := by decide +kernel
theorem dX11_sends_24 : decode cX11_sends 24 = .ok (.aload_n 0, 1) := by decide +kernel
theorem dX11_sends_25 : decode cX11_sends 25 = .ok (.getfield 28, 3) := by decide +kernel
theorem dX11_sends_28 : decode cX11_sends 28 = .ok (.bipush 13, 2) := by decide +kernel
theorem dX11_sends_30 : decode cX11_sends 30 = .ok (.iaload, 1) := by decide +kernel
theorem dX11_sends_31 : decode cX11_sends 31 = .ok (.iload_n 1, 1) := by decide +kernel
theorem dX11_sends_32 : decode cX11_sends 32 = .ok (.ishr, 1) := by decide +kernel
theorem dX11_sends_33 : decode cX11_sends 33 = .ok (.iconst 1, 1) := by decide +kernel
theorem dX11_sends_34 : decode cX11_sends 34 = .ok (.iand, 1) := by decide +kernel
theorem dX11_sends_35 : decode cX11_sends 35 = .ok (.iload_n 2, 1) := by decide +kernel
theorem dX11_sends_36 : decode cX11_sends 36 = .ok (.if_icmp .ne 6, 3) := by decide +kernel
theorem dX11_sends_39 : decode cX11_sends 39 = .ok (.bipush (-2), 2) := by decide +kernel
theorem dX11_sends_41 : decode cX11_sends 41 = .ok (.ireturn, 1) := by decide +kernel
theorem dX11_sends_42 : decode cX11_sends 42 = .ok (.aload_n 0, 1) := by decide +kernel
theorem dX11_sends_43 : decode cX11_sends 43 = .ok (.invokevirtual 149, 3) := by decide +kernel
theorem dX11_sends_46 : decode cX11_sends 46 = .ok (.aload_n 0, 1) := by decide +kernel
theorem dX11_sends_47 : decode cX11_sends 47 = .ok (.getfield 28, 3) := by decide +kernel
theorem dX11_sends_50 : decode cX11_sends 50 = .ok (.bipush 13, 2) := by decide +kernel
theorem dX11_sends_52 : decode cX11_sends 52 = .ok (.aload_n 0, 1) := by decide +kernel
theorem dX11_sends_53 : decode cX11_sends 53 = .ok (.getfield 28, 3) := by decide +kernel
theorem dX11_sends_56 : decode cX11_sends 56 = .ok (.bipush 13, 2) := by decide +kernel
theorem dX11_sends_58 : decode cX11_sends 58 = .ok (.iaload, 1) := by decide +kernel
theorem dX11_sends_59 : decode cX11_sends 59 = .ok (.iconst 1, 1) := by decide +kernel
theorem dX11_sends_60 : decode cX11_sends 60 = .ok (.iload_n 1, 1) := by decide +kernel
theorem dX11_sends_61 : decode cX11_sends 61 = .ok (.ishl, 1) := by decide +kernel
theorem dX11_sends_62 : decode cX11_sends 62 = .ok (.iconst (-1), 1) := by decide +kernel
theorem dX11_sends_63 : decode cX11_sends 63 = .ok (.ixor, 1) := by decide +kernel
theorem dX11_sends_64 : decode cX11_sends 64 = .ok (.iand, 1) := by decide +kernel
theorem dX11_sends_65 : decode cX11_sends 65 = .ok (.iload_n 2, 1) := by decide +kernel
theorem dX11_sends_66 : decode cX11_sends 66 = .ok (.iload_n 1, 1) := by decide +kernel
theorem dX11_sends_67 : decode cX11_sends 67 = .ok (.ishl, 1) := by decide +kernel
theorem dX11_sends_68 : decode cX11_sends 68 = .ok (.ior, 1) := by decide +kernel
theorem dX11_sends_69 : decode cX11_sends 69 = .ok (.iastore, 1) := by decide +kernel
theorem dX11_sends_70 : decode cX11_sends 70 = .ok (.aload_n 0, 1) := by decide +kernel
theorem dX11_sends_71 : decode cX11_sends 71 = .ok (.getfield 28, 3) := by decide +kernel
theorem dX11_sends_74 : decode cX11_sends 74 = .ok (.bipush 13, 2) := by decide +kernel
theorem dX11_sends_76 : decode cX11_sends 76 = .ok (.iaload, 1) := by decide +kernel
theorem dX11_sends_77 : decode cX11_sends 77 = .ok (.invokestatic 152, 3) := by decide +kernel
theorem dX11_sends_80 : decode cX11_sends 80 = .ok (.ireturn, 1) := by decide +kernel
theorem dX11_undo_0 : decode cX11_undo 0 = .ok (.aload_n 0, 1) := by decide +kernel
theorem dX11_undo_1 : decode cX11_undo 1 = .ok (.iconst 0, 1) := by decide +kernel
theorem dX11_undo_2 : decode cX11_undo 2 = .ok (.putfield 65, 3) := by decide +kernel
theorem dX11_undo_5 : decode cX11_undo 5 = .ok (.aload_n 0, 1) := by decide +kernel
theorem dX11_undo_6 : decode cX11_undo 6 = .ok (.getfield 126, 3) := by decide +kernel
theorem dX11_undo_9 : decode cX11_undo 9 = .ok (.ifCond .ne 6, 3) := by decide +kernel
theorem dX11_undo_12 : decode cX11_undo 12 = .ok (.bipush (-2), 2) := by decide +kernel
theorem dX11_undo_14 : decode cX11_undo 14 = .ok (.ireturn, 1) := by decide +kernel
theorem dX11_undo_15 : decode cX11_undo 15 = .ok (.aload_n 0, 1) := by decide +kernel
theorem dX11_undo_16 : decode cX11_undo 16 = .ok (.dup, 1) := by decide +kernel
theorem dX11_undo_17 : decode cX11_undo 17 = .ok (.getfield 126, 3) := by decide +kernel
theorem dX11_undo_20 : decode cX11_undo 20 = .ok (.iconst 1, 1) := by decide +kernel
theorem dX11_undo_21 : decode cX11_undo 21 = .ok (.isub, 1) := by decide +kernel
theorem dX11_undo_22 : decode cX11_undo 22 = .ok (.putfield 126, 3) := by decide +kernel
theorem dX11_undo_25 : decode cX11_undo 25 = .ok (.iconst 0, 1) := by decide +kernel
theorem dX11_undo_26 : decode cX11_undo 26 = .ok (.istore_n 1, 1) := by decide +kernel
theorem dX11_undo_27 : decode cX11_undo 27 = .ok (.iload_n 1, 1) := by decide +kernel
theorem dX11_undo_28 : decode cX11_undo 28 = .ok (.bipush 20, 2) := by decide +kernel
theorem dX11_undo_30 : decode cX11_undo 30 = .ok (.if_icmp .ge 29, 3) := by decide +kernel
theorem dX11_undo_33 : decode cX11_undo 33 = .ok (.aload_n 0, 1) := by decide +kernel
theorem dX11_undo_34 : decode cX11_undo 34 = .ok (.getfield 28, 3) := by decide +kernel
theorem dX11_undo_37 : decode cX11_undo 37 = .ok (.iload_n 1, 1) := by decide +kernel
theorem dX11_undo_38 : decode cX11_undo 38 = .ok (.aload_n 0, 1) := by decide +kernel
theorem dX11_undo_39 : decode cX11_undo 39 = .ok (.getfield 38, 3) := by decide +kernel
theorem dX11_undo_42 : decode cX11_undo 42 = .ok (.bipush 20, 2) := by decide +kernel
theorem dX11_undo_44 : decode cX11_undo 44 = .ok (.aload_n 0, 1) := by decide +kernel
theorem dX11_undo_45 : decode cX11_undo 45 = .ok (.getfield 126, 3) := by decide +kernel
theorem dX11_undo_48 : decode cX11_undo 48 = .ok (.imul, 1) := by decide +kernel
theorem dX11_undo_49 : decode cX11_undo 49 = .ok (.iload_n 1, 1) := by decide +kernel
theorem dX11_undo_50 : decode cX11_undo 50 = .ok (.iadd, 1) := by decide +kernel
theorem dX11_undo_51 : decode cX11_undo 51 = .ok (.iaload, 1) := by decide +kernel
theorem dX11_undo_52 : decode cX11_undo 52 = .ok (.iastore, 1) := by decide +kernel
theorem dX11_undo_53 : decode cX11_undo 53 = .ok (.iinc 1 1, 3) := by decide +kernel
theorem dX11_undo_56 : decode cX11_undo 56 = .ok (.goto (-29), 3) := by decide +kernel
theorem dX11_undo_59 : decode cX11_undo 59 = .ok (.aload_n 0, 1) := by decide +kernel
theorem dX11_undo_60 : decode cX11_undo 60 = .ok (.getfield 126, 3) := by decide +kernel
theorem dX11_undo_63 : decode cX11_undo 63 = .ok (.ireturn, 1) := by decide +kernel
theorem dX11_passings_0 : decode cX11_passings 0 = .ok (.iload_n 0, 1) := by decide +kernel
theorem dX11_passings_1 : decode cX11_passings 1 = .ok (.iconst 1, 1) := by decide +kernel
theorem dX11_passings_2 : decode cX11_passings 2 = .ok (.iload_n 1, 1) := by decide +kernel
theorem dX11_passings_3 : decode cX11_passings 3 = .ok (.ishl, 1) := by decide +kernel
theorem dX11_passings_4 : decode cX11_passings 4 = .ok (.iconst (-1), 1) := by decide +kernel
theorem dX11_passings_5 : decode cX11_passings 5 = .ok (.ixor, 1) := by decide +kernel
theorem dX11_passings_6 : decode cX11_passings 6 = .ok (.iand, 1) := by decide +kernel
theorem dX11_passings_7 : decode cX11_passings 7 = .ok (.istore_n 2, 1) := by decide +kernel
theorem dX11_passings_8 : decode cX11_passings 8 = .ok (.iload_n 2, 1) := by decide +kernel
theorem dX11_passings_9 : decode cX11_passings 9 = .ok (.ifCond .ne 7, 3) := by decide +kernel
theorem dX11_passings_12 : decode cX11_passings 12 = .ok (.iconst 0, 1) := by decide +kernel
theorem dX11_passings_13 : decode cX11_passings 13 = .ok (.goto 17, 3) := by decide +kernel
theorem dX11_passings_16 : decode cX11_passings 16 = .ok (.iload_n 0, 1) := by decide +kernel
theorem dX11_passings_17 : decode cX11_passings 17 = .ok (.invokestatic 152, 3) := by decide +kernel
theorem dX11_passings_20 : decode cX11_passings 20 = .ok (.iconst 1, 1) := by decide +kernel
theorem dX11_passings_21 : decode cX11_passings 21 = .ok (.if_icmp .le 8, 3) := by decide +kernel
theorem dX11_passings_24 : decode cX11_passings 24 = .ok (.ldc 155, 2) := by decide +kernel
theorem dX11_passings_26 : decode cX11_passings 26 = .ok (.goto 4, 3) := by decide +kernel
theorem dX11_passings_29 : decode cX11_passings 29 = .ok (.iconst 1, 1) := by decide +kernel
theorem dX11_passings_30 : decode cX11_passings 30 = .ok (.ireturn, 1) := by decide +kernel
theorem dX11_soonest_0 : decode cX11_soonest 0 = .ok (.aload_n 0, 1) := by decide +kernel
theorem dX11_soonest_1 : decode cX11_soonest 1 = .ok (.iconst 0, 1) := by decide +kernel
theorem dX11_soonest_2 : decode cX11_soonest 2 = .ok (.putfield 65, 3) := by decide +kernel
theorem dX11_soonest_5 : decode cX11_soonest 5 = .ok (.aload_n 0, 1) := by decide +kernel
theorem dX11_soonest_6 : decode cX11_soonest 6 = .ok (.iload_n 1, 1) := by decide +kernel
theorem dX11_soonest_7 : decode cX11_soonest 7 = .ok (.invokevirtual 129, 3) := by decide +kernel
theorem dX11_soonest_10 : decode cX11_soonest 10 = .ok (.ifCond .eq 8, 3) := by decide +kernel
theorem dX11_soonest_13 : decode cX11_soonest 13 = .ok (.iload_n 2, 1) := by decide +kernel
theorem dX11_soonest_14 : decode cX11_soonest 14 = .ok (.iconst (-1), 1) := by decide +kernel
theorem dX11_soonest_15 : decode cX11_soonest 15 = .ok (.if_icmp .ge 5, 3) := by decide +kernel
theorem dX11_soonest_18 : decode cX11_soonest 18 = .ok (.iconst (-1), 1) := by decide +kernel
theorem dX11_soonest_19 : decode cX11_soonest 19 = .ok (.ireturn, 1) := by decide +kernel
theorem dX11_soonest_20 : decode cX11_soonest 20 = .ok (.aload_n 0, 1) := by decide +kernel
theorem dX11_soonest_21 : decode cX11_soonest 21 = .ok (.iload_n 1, 1) := by decide +kernel
theorem dX11_soonest_22 : decode cX11_soonest 22 = .ok (.invokevirtual 143, 3) := by decide +kernel
theorem dX11_soonest_25 : decode cX11_soonest 25 = .ok (.ifCond .ne 20, 3) := by decide +kernel
theorem dX11_soonest_28 : decode cX11_soonest 28 = .ok (.aload_n 0, 1) := by decide +kernel
theorem dX11_soonest_29 : decode cX11_soonest 29 = .ok (.getfield 22, 3) := by decide +kernel
theorem dX11_soonest_32 : decode cX11_soonest 32 = .ok (.iload_n 1, 1) := by decide +kernel
theorem dX11_soonest_33 : decode cX11_soonest 33 = .ok (.iaload, 1) := by decide +kernel
theorem dX11_soonest_34 : decode cX11_soonest 34 = .ok (.ifCond .eq 11, 3) := by decide +kernel
theorem dX11_soonest_37 : decode cX11_soonest 37 = .ok (.aload_n 0, 1) := by decide +kernel
theorem dX11_soonest_38 : decode cX11_soonest 38 = .ok (.iload_n 1, 1) := by decide +kernel
theorem dX11_soonest_39 : decode cX11_soonest 39 = .ok (.invokevirtual 133, 3) := by decide +kernel
theorem dX11_soonest_42 : decode cX11_soonest 42 = .ok (.ifCond .eq 6, 3) := by decide +kernel
theorem dX11_soonest_45 : decode cX11_soonest 45 = .ok (.bipush (-2), 2) := by decide +kernel
theorem dX11_soonest_47 : decode cX11_soonest 47 = .ok (.ireturn, 1) := by decide +kernel
theorem dX11_soonest_48 : decode cX11_soonest 48 = .ok (.aload_n 0, 1) := by decide +kernel
theorem dX11_soonest_49 : decode cX11_soonest 49 = .ok (.iload_n 1, 1) := by decide +kernel
theorem dX11_soonest_50 : decode cX11_soonest 50 = .ok (.iconst 0, 1) := by decide +kernel
theorem dX11_soonest_51 : decode cX11_soonest 51 = .ok (.invokevirtual 136, 3) := by decide +kernel
theorem dX11_soonest_54 : decode cX11_soonest 54 = .ok (.istore_n 3, 1) := by decide +kernel
theorem dX11_soonest_55 : decode cX11_soonest 55 = .ok (.aload_n 0, 1) := by decide +kernel
theorem dX11_soonest_56 : decode cX11_soonest 56 = .ok (.getfield 13, 3) := by decide +kernel
theorem dX11_soonest_59 : decode cX11_soonest 59 = .ok (.iconst 2, 1) := by decide +kernel
theorem dX11_soonest_60 : decode cX11_soonest 60 = .ok (.iaload, 1) := by decide +kernel
theorem dX11_soonest_61 : decode cX11_soonest 61 = .ok (.aload_n 0, 1) := by decide +kernel
theorem dX11_soonest_62 : decode cX11_soonest 62 = .ok (.getfield 28, 3) := by decide +kernel
theorem dX11_soonest_65 : decode cX11_soonest 65 = .ok (.bipush 6, 2) := by decide +kernel
theorem dX11_soonest_67 : decode cX11_soonest 67 = .ok (.iload_n 1, 1) := by decide +kernel
theorem dX11_soonest_68 : decode cX11_soonest 68 = .ok (.iadd, 1) := by decide +kernel
theorem dX11_soonest_69 : decode cX11_soonest 69 = .ok (.iaload, 1) := by decide +kernel
theorem dX11_soonest_70 : decode cX11_soonest 70 = .ok (.isub, 1) := by decide +kernel
theorem dX11_soonest_71 : decode cX11_soonest 71 = .ok (.istore 4, 2) := by decide +kernel
theorem dX11_soonest_73 : decode cX11_soonest 73 = .ok (.aload_n 0, 1) := by decide +kernel
theorem dX11_soonest_74 : decode cX11_soonest 74 = .ok (.getfield 28, 3) := by decide +kernel
theorem dX11_soonest_77 : decode cX11_soonest 77 = .ok (.iconst 0, 1) := by decide +kernel
theorem dX11_soonest_78 : decode cX11_soonest 78 = .ok (.iload_n 1, 1) := by decide +kernel
theorem dX11_soonest_79 : decode cX11_soonest 79 = .ok (.iadd, 1) := by decide +kernel
theorem dX11_soonest_80 : decode cX11_soonest 80 = .ok (.iaload, 1) := by decide +kernel
theorem dX11_soonest_81 : decode cX11_soonest 81 = .ok (.istore 5, 2) := by decide +kernel
theorem dX11_soonest_83 : decode cX11_soonest 83 = .ok (.iload_n 3, 1) := by decide +kernel
theorem dX11_soonest_84 : decode cX11_soonest 84 = .ok (.iload 5, 2) := by decide +kernel
theorem dX11_soonest_86 : decode cX11_soonest 86 = .ok (.invokestatic 156, 3) := by decide +kernel
theorem dX11_soonest_89 : decode cX11_soonest 89 = .ok (.iload 4, 2) := by decide +kernel
theorem dX11_soonest_91 : decode cX11_soonest 91 = .ok (.if_icmp .lt 8, 3) := by decide +kernel
theorem dX11_soonest_94 : decode cX11_soonest 94 = .ok (.iload_n 2, 1) := by decide +kernel
theorem dX11_soonest_95 : decode cX11_soonest 95 = .ok (.iconst (-1), 1) := by decide +kernel
theorem dX11_soonest_96 : decode cX11_soonest 96 = .ok (.if_icmp .ne 22, 3) := by decide +kernel
theorem dX11_soonest_99 : decode cX11_soonest 99 = .ok (.iload_n 3, 1) := by decide +kernel
theorem dX11_soonest_100 : decode cX11_soonest 100 = .ok (.iload 5, 2) := by decide +kernel
theorem dX11_soonest_102 : decode cX11_soonest 102 = .ok (.invokestatic 156, 3) := by decide +kernel
theorem dX11_soonest_105 : decode cX11_soonest 105 = .ok (.iload 4, 2) := by decide +kernel
theorem dX11_soonest_107 : decode cX11_soonest 107 = .ok (.if_icmp .ge 8, 3) := by decide +kernel
theorem dX11_soonest_110 : decode cX11_soonest 110 = .ok (.bipush (-9), 2) := by decide +kernel
theorem dX11_soonest_112 : decode cX11_soonest 112 = .ok (.goto 5, 3) := by decide +kernel
theorem dX11_soonest_115 : decode cX11_soonest 115 = .ok (.iload 4, 2) := by decide +kernel
theorem dX11_soonest_117 : decode cX11_soonest 117 = .ok (.ireturn, 1) := by decide +kernel
theorem dX11_soonest_118 : decode cX11_soonest 118 = .ok (.iconst 0, 1) := by decide +kernel
theorem dX11_soonest_119 : decode cX11_soonest 119 = .ok (.istore 6, 2) := by decide +kernel
theorem dX11_soonest_121 : decode cX11_soonest 121 = .ok (.iload 4, 2) := by decide +kernel
theorem dX11_soonest_123 : decode cX11_soonest 123 = .ok (.ifCond .le 101, 3) := by decide +kernel
theorem dX11_soonest_126 : decode cX11_soonest 126 = .ok (.bipush (-9), 2) := by decide +kernel
theorem dX11_soonest_128 : decode cX11_soonest 128 = .ok (.istore 7, 2) := by decide +kernel
theorem dX11_soonest_130 : decode cX11_soonest 130 = .ok (.aload_n 0, 1) := by decide +kernel
theorem dX11_soonest_131 : decode cX11_soonest 131 = .ok (.getfield 13, 3) := by decide +kernel
theorem dX11_soonest_134 : decode cX11_soonest 134 = .ok (.iconst 0, 1) := by decide +kernel
theorem dX11_soonest_135 : decode cX11_soonest 135 = .ok (.iaload, 1) := by decide +kernel
theorem dX11_soonest_136 : decode cX11_soonest 136 = .ok (.iconst 1, 1) := by decide +kernel
theorem dX11_soonest_137 : decode cX11_soonest 137 = .ok (.isub, 1) := by decide +kernel
theorem dX11_soonest_138 : decode cX11_soonest 138 = .ok (.istore 8, 2) := by decide +kernel
theorem dX11_soonest_140 : decode cX11_soonest 140 = .ok (.iload 8, 2) := by decide +kernel
theorem dX11_soonest_142 : decode cX11_soonest 142 = .ok (.ifCond .lt 60, 3) := by decide +kernel
theorem dX11_soonest_145 : decode cX11_soonest 145 = .ok (.iload 8, 2) := by decide +kernel
theorem dX11_soonest_147 : decode cX11_soonest 147 = .ok (.iload 5, 2) := by decide +kernel
theorem dX11_soonest_149 : decode cX11_soonest 149 = .ok (.if_icmp .eq 30, 3) := by decide +kernel
theorem dX11_soonest_152 : decode cX11_soonest 152 = .ok (.iload_n 3, 1) := by decide +kernel
theorem dX11_soonest_153 : decode cX11_soonest 153 = .ok (.iload 8, 2) := by decide +kernel
theorem dX11_soonest_155 : decode cX11_soonest 155 = .ok (.ishr, 1) := by decide +kernel
theorem dX11_soonest_156 : decode cX11_soonest 156 = .ok (.iconst 1, 1) := by decide +kernel
theorem dX11_soonest_157 : decode cX11_soonest 157 = .ok (.iand, 1) := by decide +kernel
theorem dX11_soonest_158 : decode cX11_soonest 158 = .ok (.iconst 1, 1) := by decide +kernel
theorem dX11_soonest_159 : decode cX11_soonest 159 = .ok (.if_icmp .ne 20, 3) := by decide +kernel
theorem dX11_soonest_162 : decode cX11_soonest 162 = .ok (.iload_n 3, 1) := by decide +kernel
theorem dX11_soonest_163 : decode cX11_soonest 163 = .ok (.iload 8, 2) := by decide +kernel
theorem dX11_soonest_165 : decode cX11_soonest 165 = .ok (.invokestatic 156, 3) := by decide +kernel
theorem dX11_soonest_168 : decode cX11_soonest 168 = .ok (.iload 4, 2) := by decide +kernel
theorem dX11_soonest_170 : decode cX11_soonest 170 = .ok (.iconst 1, 1) := by decide +kernel
theorem dX11_soonest_171 : decode cX11_soonest 171 = .ok (.isub, 1) := by decide +kernel
theorem dX11_soonest_172 : decode cX11_soonest 172 = .ok (.if_icmp .lt 7, 3) := by decide +kernel
theorem dX11_soonest_175 : decode cX11_soonest 175 = .ok (.iconst 1, 1) := by decide +kernel
theorem dX11_soonest_176 : decode cX11_soonest 176 = .ok (.goto 4, 3) := by decide +kernel
theorem dX11_soonest_179 : decode cX11_soonest 179 = .ok (.iconst 0, 1) := by decide +kernel
theorem dX11_soonest_180 : decode cX11_soonest 180 = .ok (.istore 9, 2) := by decide +kernel
theorem dX11_soonest_182 : decode cX11_soonest 182 = .ok (.iload 9, 2) := by decide +kernel
theorem dX11_soonest_184 : decode cX11_soonest 184 = .ok (.ifCond .eq 8, 3) := by decide +kernel
theorem dX11_soonest_187 : decode cX11_soonest 187 = .ok (.iload 8, 2) := by decide +kernel
theorem dX11_soonest_189 : decode cX11_soonest 189 = .ok (.goto 5, 3) := by decide +kernel
theorem dX11_soonest_192 : decode cX11_soonest 192 = .ok (.iload 7, 2) := by decide +kernel
theorem dX11_soonest_194 : decode cX11_soonest 194 = .ok (.istore 7, 2) := by decide +kernel
theorem dX11_soonest_196 : decode cX11_soonest 196 = .ok (.iinc 8 (-1), 3) := by decide +kernel
theorem dX11_soonest_199 : decode cX11_soonest 199 = .ok (.goto (-59), 3) := by decide +kernel
theorem dX11_soonest_202 : decode cX11_soonest 202 = .ok (.iload 6, 2) := by decide +kernel
theorem dX11_soonest_204 : decode cX11_soonest 204 = .ok (.iload_n 2, 1) := by decide +kernel
theorem dX11_soonest_205 : decode cX11_soonest 205 = .ok (.if_icmp .ne 6, 3) := by decide +kernel
theorem dX11_soonest_208 : decode cX11_soonest 208 = .ok (.iload 7, 2) := by decide +kernel
theorem dX11_soonest_210 : decode cX11_soonest 210 = .ok (.ireturn, 1) := by decide +kernel
theorem dX11_soonest_211 : decode cX11_soonest 211 = .ok (.iload 7, 2) := by decide +kernel
theorem dX11_soonest_213 : decode cX11_soonest 213 = .ok (.istore 5, 2) := by decide +kernel
theorem dX11_soonest_215 : decode cX11_soonest 215 = .ok (.iinc 4 (-1), 3) := by decide +kernel
theorem dX11_soonest_218 : decode cX11_soonest 218 = .ok (.iinc 6 1, 3) := by decide +kernel
theorem dX11_soonest_221 : decode cX11_soonest 221 = .ok (.goto (-100), 3) := by decide +kernel
theorem dX11_soonest_224 : decode cX11_soonest 224 = .ok (.bipush (-5), 2) := by decide +kernel
theorem dX11_soonest_226 : decode cX11_soonest 226 = .ok (.ireturn, 1) := by decide +kernel
theorem dX11_till_0 : decode cX11_till 0 = .ok (.aload_n 0, 1) := by decide +kernel
theorem dX11_till_1 : decode cX11_till 1 = .ok (.iconst 0, 1) := by decide +kernel
theorem dX11_till_2 : decode cX11_till 2 = .ok (.putfield 65, 3) := by decide +kernel
theorem dX11_till_5 : decode cX11_till 5 = .ok (.aload_n 0, 1) := by decide +kernel
theorem dX11_till_6 : decode cX11_till 6 = .ok (.iload_n 1, 1) := by decide +kernel
theorem dX11_till_7 : decode cX11_till 7 = .ok (.invokevirtual 129, 3) := by decide +kernel
theorem dX11_till_10 : decode cX11_till 10 = .ok (.ifCond .ne 5, 3) := by decide +kernel
theorem dX11_till_13 : decode cX11_till 13 = .ok (.iconst (-1), 1) := by decide +kernel
theorem dX11_till_14 : decode cX11_till 14 = .ok (.ireturn, 1) := by decide +kernel
theorem dX11_till_15 : decode cX11_till 15 = .ok (.aload_n 0, 1) := by decide +kernel
theorem dX11_till_16 : decode cX11_till 16 = .ok (.iload_n 1, 1) := by decide +kernel
theorem dX11_till_17 : decode cX11_till 17 = .ok (.invokevirtual 143, 3) := by decide +kernel
theorem dX11_till_20 : decode cX11_till 20 = .ok (.ifCond .eq 6, 3) := by decide +kernel
theorem dX11_till_23 : decode cX11_till 23 = .ok (.bipush (-2), 2) := by decide +kernel
theorem dX11_till_25 : decode cX11_till 25 = .ok (.ireturn, 1) := by decide +kernel
theorem dX11_till_26 : decode cX11_till 26 = .ok (.aload_n 0, 1) := by decide +kernel
theorem dX11_till_27 : decode cX11_till 27 = .ok (.iload_n 1, 1) := by decide +kernel
theorem dX11_till_28 : decode cX11_till 28 = .ok (.aload_n 0, 1) := by decide +kernel
theorem dX11_till_29 : decode cX11_till 29 = .ok (.iload_n 1, 1) := by decide +kernel
theorem dX11_till_30 : decode cX11_till 30 = .ok (.invokevirtual 133, 3) := by decide +kernel
theorem dX11_till_33 : decode cX11_till 33 = .ok (.invokevirtual 136, 3) := by decide +kernel
theorem dX11_till_36 : decode cX11_till 36 = .ok (.aload_n 0, 1) := by decide +kernel
theorem dX11_till_37 : decode cX11_till 37 = .ok (.getfield 28, 3) := by decide +kernel
theorem dX11_till_40 : decode cX11_till 40 = .ok (.iconst 0, 1) := by decide +kernel
theorem dX11_till_41 : decode cX11_till 41 = .ok (.iload_n 1, 1) := by decide +kernel
theorem dX11_till_42 : decode cX11_till 42 = .ok (.iadd, 1) := by decide +kernel
theorem dX11_till_43 : decode cX11_till 43 = .ok (.iaload, 1) := by decide +kernel
theorem dX11_till_44 : decode cX11_till 44 = .ok (.invokestatic 156, 3) := by decide +kernel
theorem dX11_till_47 : decode cX11_till 47 = .ok (.istore_n 2, 1) := by decide +kernel
theorem dX11_till_48 : decode cX11_till 48 = .ok (.iload_n 2, 1) := by decide +kernel
theorem dX11_till_49 : decode cX11_till 49 = .ok (.ldc 155, 2) := by decide +kernel
theorem dX11_till_51 : decode cX11_till 51 = .ok (.if_icmp .ne 6, 3) := by decide +kernel
theorem dX11_till_54 : decode cX11_till 54 = .ok (.bipush (-5), 2) := by decide +kernel
theorem dX11_till_56 : decode cX11_till 56 = .ok (.ireturn, 1) := by decide +kernel
theorem dX11_till_57 : decode cX11_till 57 = .ok (.aload_n 0, 1) := by decide +kernel
theorem dX11_till_58 : decode cX11_till 58 = .ok (.getfield 22, 3) := by decide +kernel
theorem dX11_till_61 : decode cX11_till 61 = .ok (.iload_n 1, 1) := by decide +kernel
theorem dX11_till_62 : decode cX11_till 62 = .ok (.iaload, 1) := by decide +kernel
theorem dX11_till_63 : decode cX11_till 63 = .ok (.ifCond .eq 31, 3) := by decide +kernel
theorem dX11_till_66 : decode cX11_till 66 = .ok (.iload_n 2, 1) := by decide +kernel
theorem dX11_till_67 : decode cX11_till 67 = .ok (.ifCond .le 27, 3) := by decide +kernel
theorem dX11_till_70 : decode cX11_till 70 = .ok (.aload_n 0, 1) := by decide +kernel
theorem dX11_till_71 : decode cX11_till 71 = .ok (.getfield 28, 3) := by decide +kernel
theorem dX11_till_74 : decode cX11_till 74 = .ok (.bipush 6, 2) := by decide +kernel
theorem dX11_till_76 : decode cX11_till 76 = .ok (.iload_n 1, 1) := by decide +kernel
theorem dX11_till_77 : decode cX11_till 77 = .ok (.iadd, 1) := by decide +kernel
theorem dX11_till_78 : decode cX11_till 78 = .ok (.iaload, 1) := by decide +kernel
theorem dX11_till_79 : decode cX11_till 79 = .ok (.iload_n 2, 1) := by decide +kernel
theorem dX11_till_80 : decode cX11_till 80 = .ok (.iadd, 1) := by decide +kernel
theorem dX11_till_81 : decode cX11_till 81 = .ok (.aload_n 0, 1) := by decide +kernel
theorem dX11_till_82 : decode cX11_till 82 = .ok (.getfield 13, 3) := by decide +kernel
theorem dX11_till_85 : decode cX11_till 85 = .ok (.iconst 2, 1) := by decide +kernel
theorem dX11_till_86 : decode cX11_till 86 = .ok (.iaload, 1) := by decide +kernel
theorem dX11_till_87 : decode cX11_till 87 = .ok (.if_icmp .lt 7, 3) := by decide +kernel
theorem dX11_till_90 : decode cX11_till 90 = .ok (.iconst 1, 1) := by decide +kernel
theorem dX11_till_91 : decode cX11_till 91 = .ok (.goto 4, 3) := by decide +kernel
theorem dX11_till_94 : decode cX11_till 94 = .ok (.iconst 0, 1) := by decide +kernel
theorem dX11_till_95 : decode cX11_till 95 = .ok (.istore_n 3, 1) := by decide +kernel
theorem dX11_till_96 : decode cX11_till 96 = .ok (.iload_n 3, 1) := by decide +kernel
theorem dX11_till_97 : decode cX11_till 97 = .ok (.ifCond .eq 18, 3) := by decide +kernel
theorem dX11_till_100 : decode cX11_till 100 = .ok (.aload_n 0, 1) := by decide +kernel
theorem dX11_till_101 : decode cX11_till 101 = .ok (.getfield 13, 3) := by decide +kernel
theorem dX11_till_104 : decode cX11_till 104 = .ok (.iconst 0, 1) := by decide +kernel
theorem dX11_till_105 : decode cX11_till 105 = .ok (.iaload, 1) := by decide +kernel
theorem dX11_till_106 : decode cX11_till 106 = .ok (.iconst 1, 1) := by decide +kernel
theorem dX11_till_107 : decode cX11_till 107 = .ok (.if_icmp .le 8, 3) := by decide +kernel
theorem dX11_till_110 : decode cX11_till 110 = .ok (.bipush (-5), 2) := by decide +kernel
theorem dX11_till_112 : decode cX11_till 112 = .ok (.goto 4, 3) := by decide +kernel
theorem dX11_till_115 : decode cX11_till 115 = .ok (.iload_n 2, 1) := by decide +kernel
theorem dX11_till_116 : decode cX11_till 116 = .ok (.ireturn, 1) := by decide +kernel
theorem dX11_gcd_0 : decode cX11_gcd 0 = .ok (.iload_n 0, 1) := by decide +kernel
theorem dX11_gcd_1 : decode cX11_gcd 1 = .ok (.istore_n 2, 1) := by decide +kernel
theorem dX11_gcd_2 : decode cX11_gcd 2 = .ok (.iload_n 1, 1) := by decide +kernel
theorem dX11_gcd_3 : decode cX11_gcd 3 = .ok (.istore_n 3, 1) := by decide +kernel
theorem dX11_gcd_4 : decode cX11_gcd 4 = .ok (.iload_n 3, 1) := by decide +kernel
theorem dX11_gcd_5 : decode cX11_gcd 5 = .ok (.ifCond .eq 16, 3) := by decide +kernel
theorem dX11_gcd_8 : decode cX11_gcd 8 = .ok (.iload_n 2, 1) := by decide +kernel
theorem dX11_gcd_9 : decode cX11_gcd 9 = .ok (.iload_n 3, 1) := by decide +kernel
theorem dX11_gcd_10 : decode cX11_gcd 10 = .ok (.irem, 1) := by decide +kernel
theorem dX11_gcd_11 : decode cX11_gcd 11 = .ok (.istore 4, 2) := by decide +kernel
theorem dX11_gcd_13 : decode cX11_gcd 13 = .ok (.iload_n 3, 1) := by decide +kernel
theorem dX11_gcd_14 : decode cX11_gcd 14 = .ok (.istore_n 2, 1) := by decide +kernel
theorem dX11_gcd_15 : decode cX11_gcd 15 = .ok (.iload 4, 2) := by decide +kernel
theorem dX11_gcd_17 : decode cX11_gcd 17 = .ok (.istore_n 3, 1) := by decide +kernel
theorem dX11_gcd_18 : decode cX11_gcd 18 = .ok (.goto (-14), 3) := by decide +kernel
theorem dX11_gcd_21 : decode cX11_gcd 21 = .ok (.iload_n 2, 1) := by decide +kernel
theorem dX11_gcd_22 : decode cX11_gcd 22 = .ok (.ireturn, 1) := by decide +kernel
theorem dX11_odds_0 : decode cX11_odds 0 = .ok (.aload_n 0, 1) := by decide +kernel
theorem dX11_odds_1 : decode cX11_odds 1 = .ok (.iconst 0, 1) := by decide +kernel
theorem dX11_odds_2 : decode cX11_odds 2 = .ok (.putfield 65, 3) := by decide +kernel
theorem dX11_odds_5 : decode cX11_odds 5 = .ok (.aload_n 0, 1) := by decide +kernel
theorem dX11_odds_6 : decode cX11_odds 6 = .ok (.iload_n 1, 1) := by decide +kernel
theorem dX11_odds_7 : decode cX11_odds 7 = .ok (.invokevirtual 129, 3) := by decide +kernel
theorem dX11_odds_10 : decode cX11_odds 10 = .ok (.ifCond .eq 21, 3) := by decide +kernel
theorem dX11_odds_13 : decode cX11_odds 13 = .ok (.iload_n 2, 1) := by decide +kernel
theorem dX11_odds_14 : decode cX11_odds 14 = .ok (.iconst 0, 1) := by decide +kernel
theorem dX11_odds_15 : decode cX11_odds 15 = .ok (.iconst 4, 1) := by decide +kernel
theorem dX11_odds_16 : decode cX11_odds 16 = .ok (.invokestatic 69, 3) := by decide +kernel
theorem dX11_odds_19 : decode cX11_odds 19 = .ok (.ifCond .eq 12, 3) := by decide +kernel
theorem dX11_odds_22 : decode cX11_odds 22 = .ok (.iload_n 3, 1) := by decide +kernel
theorem dX11_odds_23 : decode cX11_odds 23 = .ok (.iconst 0, 1) := by decide +kernel
theorem dX11_odds_24 : decode cX11_odds 24 = .ok (.iconst 1, 1) := by decide +kernel
theorem dX11_odds_25 : decode cX11_odds 25 = .ok (.invokestatic 69, 3) := by decide +kernel
theorem dX11_odds_28 : decode cX11_odds 28 = .ok (.ifCond .ne 5, 3) := by decide +kernel
theorem dX11_odds_31 : decode cX11_odds 31 = .ok (.iconst (-1), 1) := by decide +kernel
theorem dX11_odds_32 : decode cX11_odds 32 = .ok (.ireturn, 1) := by decide +kernel
theorem dX11_odds_33 : decode cX11_odds 33 = .ok (.aload_n 0, 1) := by decide +kernel
theorem dX11_odds_34 : decode cX11_odds 34 = .ok (.iload_n 1, 1) := by decide +kernel
theorem dX11_odds_35 : decode cX11_odds 35 = .ok (.invokevirtual 143, 3) := by decide +kernel
theorem dX11_odds_38 : decode cX11_odds 38 = .ok (.ifCond .eq 6, 3) := by decide +kernel
theorem dX11_odds_41 : decode cX11_odds 41 = .ok (.bipush (-2), 2) := by decide +kernel
theorem dX11_odds_43 : decode cX11_odds 43 = .ok (.ireturn, 1) := by decide +kernel
theorem dX11_odds_44 : decode cX11_odds 44 = .ok (.iconst 1, 1) := by decide +kernel
theorem dX11_odds_45 : decode cX11_odds 45 = .ok (.istore 4, 2) := by decide +kernel
theorem dX11_odds_47 : decode cX11_odds 47 = .ok (.iconst 0, 1) := by decide +kernel
theorem dX11_odds_48 : decode cX11_odds 48 = .ok (.istore 5, 2) := by decide +kernel
theorem dX11_odds_50 : decode cX11_odds 50 = .ok (.iload 5, 2) := by decide +kernel
theorem dX11_odds_52 : decode cX11_odds 52 = .ok (.iconst 5, 1) := by decide +kernel
theorem dX11_odds_53 : decode cX11_odds 53 = .ok (.if_icmp .ge 34, 3) := by decide +kernel
theorem dX11_odds_56 : decode cX11_odds 56 = .ok (.aload_n 0, 1) := by decide +kernel
theorem dX11_odds_57 : decode cX11_odds 57 = .ok (.getfield 53, 3) := by decide +kernel
theorem dX11_odds_60 : decode cX11_odds 60 = .ok (.iload 5, 2) := by decide +kernel
theorem dX11_odds_62 : decode cX11_odds 62 = .ok (.iload 5, 2) := by decide +kernel
theorem dX11_odds_64 : decode cX11_odds 64 = .ok (.aload_n 0, 1) := by decide +kernel
theorem dX11_odds_65 : decode cX11_odds 65 = .ok (.getfield 28, 3) := by decide +kernel
theorem dX11_odds_68 : decode cX11_odds 68 = .ok (.iconst 0, 1) := by decide +kernel
theorem dX11_odds_69 : decode cX11_odds 69 = .ok (.iload_n 1, 1) := by decide +kernel
theorem dX11_odds_70 : decode cX11_odds 70 = .ok (.iadd, 1) := by decide +kernel
theorem dX11_odds_71 : decode cX11_odds 71 = .ok (.iaload, 1) := by decide +kernel
theorem dX11_odds_72 : decode cX11_odds 72 = .ok (.if_icmp .ne 7, 3) := by decide +kernel
theorem dX11_odds_75 : decode cX11_odds 75 = .ok (.iconst 1, 1) := by decide +kernel
theorem dX11_odds_76 : decode cX11_odds 76 = .ok (.goto 4, 3) := by decide +kernel
theorem dX11_odds_79 : decode cX11_odds 79 = .ok (.iconst 0, 1) := by decide +kernel
theorem dX11_odds_80 : decode cX11_odds 80 = .ok (.iastore, 1) := by decide +kernel
theorem dX11_odds_81 : decode cX11_odds 81 = .ok (.iinc 5 1, 3) := by decide +kernel
theorem dX11_odds_84 : decode cX11_odds 84 = .ok (.goto (-34), 3) := by decide +kernel
theorem dX11_odds_87 : decode cX11_odds 87 = .ok (.iconst 0, 1) := by decide +kernel
theorem dX11_odds_88 : decode cX11_odds 88 = .ok (.istore 5, 2) := by decide +kernel
theorem dX11_odds_90 : decode cX11_odds 90 = .ok (.iload 5, 2) := by decide +kernel
theorem dX11_odds_92 : decode cX11_odds 92 = .ok (.iload_n 2, 1) := by decide +kernel
theorem dX11_odds_93 : decode cX11_odds 93 = .ok (.if_icmp .ge 201, 3) := by decide +kernel
theorem dX11_odds_96 : decode cX11_odds 96 = .ok (.aload_n 0, 1) := by decide +kernel
theorem dX11_odds_97 : decode cX11_odds 97 = .ok (.iload_n 1, 1) := by decide +kernel
theorem dX11_odds_98 : decode cX11_odds 98 = .ok (.invokevirtual 133, 3) := by decide +kernel
theorem dX11_odds_101 : decode cX11_odds 101 = .ok (.ifCond .ne 38, 3) := by decide +kernel
theorem dX11_odds_104 : decode cX11_odds 104 = .ok (.aload_n 0, 1) := by decide +kernel
theorem dX11_odds_105 : decode cX11_odds 105 = .ok (.getfield 22, 3) := by decide +kernel
theorem dX11_odds_108 : decode cX11_odds 108 = .ok (.iload_n 1, 1) := by decide +kernel
theorem dX11_odds_109 : decode cX11_odds 109 = .ok (.iaload, 1) := by decide +kernel
theorem dX11_odds_110 : decode cX11_odds 110 = .ok (.ifCond .eq 33, 3) := by decide +kernel
theorem dX11_odds_113 : decode cX11_odds 113 = .ok (.iload 5, 2) := by decide +kernel
theorem dX11_odds_115 : decode cX11_odds 115 = .ok (.ifCond .le 28, 3) := by decide +kernel
theorem dX11_odds_118 : decode cX11_odds 118 = .ok (.aload_n 0, 1) := by decide +kernel
theorem dX11_odds_119 : decode cX11_odds 119 = .ok (.getfield 28, 3) := by decide +kernel
theorem dX11_odds_122 : decode cX11_odds 122 = .ok (.bipush 6, 2) := by decide +kernel
theorem dX11_odds_124 : decode cX11_odds 124 = .ok (.iload_n 1, 1) := by decide +kernel
theorem dX11_odds_125 : decode cX11_odds 125 = .ok (.iadd, 1) := by decide +kernel
theorem dX11_odds_126 : decode cX11_odds 126 = .ok (.iaload, 1) := by decide +kernel
theorem dX11_odds_127 : decode cX11_odds 127 = .ok (.iload 5, 2) := by decide +kernel
theorem dX11_odds_129 : decode cX11_odds 129 = .ok (.iadd, 1) := by decide +kernel
theorem dX11_odds_130 : decode cX11_odds 130 = .ok (.aload_n 0, 1) := by decide +kernel
theorem dX11_odds_131 : decode cX11_odds 131 = .ok (.getfield 13, 3) := by decide +kernel
theorem dX11_odds_134 : decode cX11_odds 134 = .ok (.iconst 2, 1) := by decide +kernel
theorem dX11_odds_135 : decode cX11_odds 135 = .ok (.iaload, 1) := by decide +kernel
theorem dX11_odds_136 : decode cX11_odds 136 = .ok (.if_icmp .lt 7, 3) := by decide +kernel
theorem dX11_odds_139 : decode cX11_odds 139 = .ok (.iconst 1, 1) := by decide +kernel
theorem dX11_odds_140 : decode cX11_odds 140 = .ok (.goto 4, 3) := by decide +kernel
theorem dX11_odds_143 : decode cX11_odds 143 = .ok (.iconst 0, 1) := by decide +kernel
theorem dX11_odds_144 : decode cX11_odds 144 = .ok (.istore 6, 2) := by decide +kernel
theorem dX11_odds_146 : decode cX11_odds 146 = .ok (.aload_n 0, 1) := by decide +kernel
theorem dX11_odds_147 : decode cX11_odds 147 = .ok (.iload_n 1, 1) := by decide +kernel
theorem dX11_odds_148 : decode cX11_odds 148 = .ok (.iload 6, 2) := by decide +kernel
theorem dX11_odds_150 : decode cX11_odds 150 = .ok (.invokevirtual 136, 3) := by decide +kernel
theorem dX11_odds_153 : decode cX11_odds 153 = .ok (.istore 7, 2) := by decide +kernel
theorem dX11_odds_155 : decode cX11_odds 155 = .ok (.iconst 0, 1) := by decide +kernel
theorem dX11_odds_156 : decode cX11_odds 156 = .ok (.istore 8, 2) := by decide +kernel
theorem dX11_odds_158 : decode cX11_odds 158 = .ok (.iconst 0, 1) := by decide +kernel
theorem dX11_odds_159 : decode cX11_odds 159 = .ok (.istore 9, 2) := by decide +kernel
theorem dX11_odds_161 : decode cX11_odds 161 = .ok (.iload 9, 2) := by decide +kernel
theorem dX11_odds_163 : decode cX11_odds 163 = .ok (.iconst 5, 1) := by decide +kernel
theorem dX11_odds_164 : decode cX11_odds 164 = .ok (.if_icmp .ge 21, 3) := by decide +kernel
theorem dX11_odds_167 : decode cX11_odds 167 = .ok (.iload 8, 2) := by decide +kernel
theorem dX11_odds_169 : decode cX11_odds 169 = .ok (.aload_n 0, 1) := by decide +kernel
theorem dX11_odds_170 : decode cX11_odds 170 = .ok (.getfield 53, 3) := by decide +kernel
theorem dX11_odds_173 : decode cX11_odds 173 = .ok (.iload 9, 2) := by decide +kernel
theorem dX11_odds_175 : decode cX11_odds 175 = .ok (.iaload, 1) := by decide +kernel
theorem dX11_odds_176 : decode cX11_odds 176 = .ok (.iadd, 1) := by decide +kernel
theorem dX11_odds_177 : decode cX11_odds 177 = .ok (.istore 8, 2) := by decide +kernel
theorem dX11_odds_179 : decode cX11_odds 179 = .ok (.iinc 9 1, 3) := by decide +kernel
theorem dX11_odds_182 : decode cX11_odds 182 = .ok (.goto (-21), 3) := by decide +kernel
theorem dX11_odds_185 : decode cX11_odds 185 = .ok (.iconst 0, 1) := by decide +kernel
theorem dX11_odds_186 : decode cX11_odds 186 = .ok (.istore 9, 2) := by decide +kernel
theorem dX11_odds_188 : decode cX11_odds 188 = .ok (.iload 9, 2) := by decide +kernel
theorem dX11_odds_190 : decode cX11_odds 190 = .ok (.iconst 5, 1) := by decide +kernel
theorem dX11_odds_191 : decode cX11_odds 191 = .ok (.if_icmp .ge 41, 3) := by decide +kernel
theorem dX11_odds_194 : decode cX11_odds 194 = .ok (.aload_n 0, 1) := by decide +kernel
theorem dX11_odds_195 : decode cX11_odds 195 = .ok (.getfield 56, 3) := by decide +kernel
theorem dX11_odds_198 : decode cX11_odds 198 = .ok (.iload 9, 2) := by decide +kernel
theorem dX11_odds_200 : decode cX11_odds 200 = .ok (.iload 7, 2) := by decide +kernel
theorem dX11_odds_202 : decode cX11_odds 202 = .ok (.iload 9, 2) := by decide +kernel
theorem dX11_odds_204 : decode cX11_odds 204 = .ok (.ishr, 1) := by decide +kernel
theorem dX11_odds_205 : decode cX11_odds 205 = .ok (.iconst 1, 1) := by decide +kernel
theorem dX11_odds_206 : decode cX11_odds 206 = .ok (.iand, 1) := by decide +kernel
theorem dX11_odds_207 : decode cX11_odds 207 = .ok (.iconst 1, 1) := by decide +kernel
theorem dX11_odds_208 : decode cX11_odds 208 = .ok (.if_icmp .ne 16, 3) := by decide +kernel
theorem dX11_odds_211 : decode cX11_odds 211 = .ok (.iload 8, 2) := by decide +kernel
theorem dX11_odds_213 : decode cX11_odds 213 = .ok (.aload_n 0, 1) := by decide +kernel
theorem dX11_odds_214 : decode cX11_odds 214 = .ok (.getfield 53, 3) := by decide +kernel
theorem dX11_odds_217 : decode cX11_odds 217 = .ok (.iload 9, 2) := by decide +kernel
theorem dX11_odds_219 : decode cX11_odds 219 = .ok (.iaload, 1) := by decide +kernel
theorem dX11_odds_220 : decode cX11_odds 220 = .ok (.isub, 1) := by decide +kernel
theorem dX11_odds_221 : decode cX11_odds 221 = .ok (.goto 4, 3) := by decide +kernel
theorem dX11_odds_224 : decode cX11_odds 224 = .ok (.iconst 0, 1) := by decide +kernel
theorem dX11_odds_225 : decode cX11_odds 225 = .ok (.iastore, 1) := by decide +kernel
theorem dX11_odds_226 : decode cX11_odds 226 = .ok (.iinc 9 1, 3) := by decide +kernel
theorem dX11_odds_229 : decode cX11_odds 229 = .ok (.goto (-41), 3) := by decide +kernel
theorem dX11_odds_232 : decode cX11_odds 232 = .ok (.iconst 0, 1) := by decide +kernel
theorem dX11_odds_233 : decode cX11_odds 233 = .ok (.istore 9, 2) := by decide +kernel
theorem dX11_odds_235 : decode cX11_odds 235 = .ok (.iload 9, 2) := by decide +kernel
theorem dX11_odds_237 : decode cX11_odds 237 = .ok (.iconst 5, 1) := by decide +kernel
theorem dX11_odds_238 : decode cX11_odds 238 = .ok (.if_icmp .ge 23, 3) := by decide +kernel
theorem dX11_odds_241 : decode cX11_odds 241 = .ok (.aload_n 0, 1) := by decide +kernel
theorem dX11_odds_242 : decode cX11_odds 242 = .ok (.getfield 53, 3) := by decide +kernel
theorem dX11_odds_245 : decode cX11_odds 245 = .ok (.iload 9, 2) := by decide +kernel
theorem dX11_odds_247 : decode cX11_odds 247 = .ok (.aload_n 0, 1) := by decide +kernel
theorem dX11_odds_248 : decode cX11_odds 248 = .ok (.getfield 56, 3) := by decide +kernel
theorem dX11_odds_251 : decode cX11_odds 251 = .ok (.iload 9, 2) := by decide +kernel
theorem dX11_odds_253 : decode cX11_odds 253 = .ok (.iaload, 1) := by decide +kernel
theorem dX11_odds_254 : decode cX11_odds 254 = .ok (.iastore, 1) := by decide +kernel
theorem dX11_odds_255 : decode cX11_odds 255 = .ok (.iinc 9 1, 3) := by decide +kernel
theorem dX11_odds_258 : decode cX11_odds 258 = .ok (.goto (-23), 3) := by decide +kernel
theorem dX11_odds_261 : decode cX11_odds 261 = .ok (.iload 4, 2) := by decide +kernel
theorem dX11_odds_263 : decode cX11_odds 263 = .ok (.aload_n 0, 1) := by decide +kernel
theorem dX11_odds_264 : decode cX11_odds 264 = .ok (.getfield 13, 3) := by decide +kernel
theorem dX11_odds_267 : decode cX11_odds 267 = .ok (.iconst 0, 1) := by decide +kernel
theorem dX11_odds_268 : decode cX11_odds 268 = .ok (.iaload, 1) := by decide +kernel
theorem dX11_odds_269 : decode cX11_odds 269 = .ok (.iconst 1, 1) := by decide +kernel
theorem dX11_odds_270 : decode cX11_odds 270 = .ok (.if_icmp .le 14, 3) := by decide +kernel
theorem dX11_odds_273 : decode cX11_odds 273 = .ok (.aload_n 0, 1) := by decide +kernel
theorem dX11_odds_274 : decode cX11_odds 274 = .ok (.getfield 13, 3) := by decide +kernel
theorem dX11_odds_277 : decode cX11_odds 277 = .ok (.iconst 0, 1) := by decide +kernel
theorem dX11_odds_278 : decode cX11_odds 278 = .ok (.iaload, 1) := by decide +kernel
theorem dX11_odds_279 : decode cX11_odds 279 = .ok (.iconst 1, 1) := by decide +kernel
theorem dX11_odds_280 : decode cX11_odds 280 = .ok (.isub, 1) := by decide +kernel
theorem dX11_odds_281 : decode cX11_odds 281 = .ok (.goto 4, 3) := by decide +kernel
theorem dX11_odds_284 : decode cX11_odds 284 = .ok (.iconst 1, 1) := by decide +kernel
theorem dX11_odds_285 : decode cX11_odds 285 = .ok (.imul, 1) := by decide +kernel
theorem dX11_odds_286 : decode cX11_odds 286 = .ok (.istore 4, 2) := by decide +kernel
theorem dX11_odds_288 : decode cX11_odds 288 = .ok (.iinc 5 1, 3) := by decide +kernel
theorem dX11_odds_291 : decode cX11_odds 291 = .ok (.goto (-201), 3) := by decide +kernel
theorem dX11_odds_294 : decode cX11_odds 294 = .ok (.iconst 0, 1) := by decide +kernel
theorem dX11_odds_295 : decode cX11_odds 295 = .ok (.istore 5, 2) := by decide +kernel
theorem dX11_odds_297 : decode cX11_odds 297 = .ok (.iconst 0, 1) := by decide +kernel
theorem dX11_odds_298 : decode cX11_odds 298 = .ok (.istore 6, 2) := by decide +kernel
theorem dX11_odds_300 : decode cX11_odds 300 = .ok (.iload 6, 2) := by decide +kernel
theorem dX11_odds_302 : decode cX11_odds 302 = .ok (.iconst 5, 1) := by decide +kernel
theorem dX11_odds_303 : decode cX11_odds 303 = .ok (.if_icmp .ge 21, 3) := by decide +kernel
theorem dX11_odds_306 : decode cX11_odds 306 = .ok (.iload 5, 2) := by decide +kernel
theorem dX11_odds_308 : decode cX11_odds 308 = .ok (.aload_n 0, 1) := by decide +kernel
theorem dX11_odds_309 : decode cX11_odds 309 = .ok (.getfield 53, 3) := by decide +kernel
theorem dX11_odds_312 : decode cX11_odds 312 = .ok (.iload 6, 2) := by decide +kernel
theorem dX11_odds_314 : decode cX11_odds 314 = .ok (.iaload, 1) := by decide +kernel
theorem dX11_odds_315 : decode cX11_odds 315 = .ok (.iadd, 1) := by decide +kernel
theorem dX11_odds_316 : decode cX11_odds 316 = .ok (.istore 5, 2) := by decide +kernel
theorem dX11_odds_318 : decode cX11_odds 318 = .ok (.iinc 6 1, 3) := by decide +kernel
theorem dX11_odds_321 : decode cX11_odds 321 = .ok (.goto (-21), 3) := by decide +kernel
theorem dX11_odds_324 : decode cX11_odds 324 = .ok (.iload 5, 2) := by decide +kernel
theorem dX11_odds_326 : decode cX11_odds 326 = .ok (.iload 4, 2) := by decide +kernel
theorem dX11_odds_328 : decode cX11_odds 328 = .ok (.invokestatic 159, 3) := by decide +kernel
theorem dX11_odds_331 : decode cX11_odds 331 = .ok (.istore 6, 2) := by decide +kernel
theorem dX11_odds_333 : decode cX11_odds 333 = .ok (.iload_n 3, 1) := by decide +kernel
theorem dX11_odds_334 : decode cX11_odds 334 = .ok (.ifCond .ne 11, 3) := by decide +kernel
theorem dX11_odds_337 : decode cX11_odds 337 = .ok (.iload 5, 2) := by decide +kernel
theorem dX11_odds_339 : decode cX11_odds 339 = .ok (.iload 6, 2) := by decide +kernel
theorem dX11_odds_341 : decode cX11_odds 341 = .ok (.idiv, 1) := by decide +kernel
theorem dX11_odds_342 : decode cX11_odds 342 = .ok (.goto 8, 3) := by decide +kernel
theorem dX11_odds_345 : decode cX11_odds 345 = .ok (.iload 4, 2) := by decide +kernel
theorem dX11_odds_347 : decode cX11_odds 347 = .ok (.iload 6, 2) := by decide +kernel
theorem dX11_odds_349 : decode cX11_odds 349 = .ok (.idiv, 1) := by decide +kernel
theorem dX11_odds_350 : decode cX11_odds 350 = .ok (.ireturn, 1) := by decide +kernel
theorem dX11_saw_0 : decode cX11_saw 0 = .ok (.aload_n 0, 1) := by decide +kernel
theorem dX11_saw_1 : decode cX11_saw 1 = .ok (.iconst 0, 1) := by decide +kernel
theorem dX11_saw_2 : decode cX11_saw 2 = .ok (.putfield 65, 3) := by decide +kernel
theorem dX11_saw_5 : decode cX11_saw 5 = .ok (.aload_n 0, 1) := by decide +kernel
theorem dX11_saw_6 : decode cX11_saw 6 = .ok (.iload_n 1, 1) := by decide +kernel
theorem dX11_saw_7 : decode cX11_saw 7 = .ok (.invokevirtual 140, 3) := by decide +kernel
theorem dX11_saw_10 : decode cX11_saw 10 = .ok (.ifCond .eq 12, 3) := by decide +kernel
theorem dX11_saw_13 : decode cX11_saw 13 = .ok (.iload_n 2, 1) := by decide +kernel
theorem dX11_saw_14 : decode cX11_saw 14 = .ok (.iconst 0, 1) := by decide +kernel
theorem dX11_saw_15 : decode cX11_saw 15 = .ok (.iconst 1, 1) := by decide +kernel
theorem dX11_saw_16 : decode cX11_saw 16 = .ok (.invokestatic 69, 3) := by decide +kernel
theorem dX11_saw_19 : decode cX11_saw 19 = .ok (.ifCond .ne 5, 3) := by decide +kernel
theorem dX11_saw_22 : decode cX11_saw 22 = .ok (.iconst (-1), 1) := by decide +kernel
theorem dX11_saw_23 : decode cX11_saw 23 = .ok (.ireturn, 1) := by decide +kernel
theorem dX11_saw_24 : decode cX11_saw 24 = .ok (.aload_n 0, 1) := by decide +kernel
theorem dX11_saw_25 : decode cX11_saw 25 = .ok (.getfield 120, 3) := by decide +kernel
theorem dX11_saw_28 : decode cX11_saw 28 = .ok (.bipush 6, 2) := by decide +kernel
theorem dX11_saw_30 : decode cX11_saw 30 = .ok (.if_icmp .ne 6, 3) := by decide +kernel
theorem dX11_saw_33 : decode cX11_saw 33 = .ok (.bipush (-3), 2) := by decide +kernel
theorem dX11_saw_35 : decode cX11_saw 35 = .ok (.ireturn, 1) := by decide +kernel
theorem dX11_saw_36 : decode cX11_saw 36 = .ok (.aload_n 0, 1) := by decide +kernel
theorem dX11_saw_37 : decode cX11_saw 37 = .ok (.getfield 41, 3) := by decide +kernel
theorem dX11_saw_40 : decode cX11_saw 40 = .ok (.aload_n 0, 1) := by decide +kernel
theorem dX11_saw_41 : decode cX11_saw 41 = .ok (.getfield 120, 3) := by decide +kernel
theorem dX11_saw_44 : decode cX11_saw 44 = .ok (.iload_n 1, 1) := by decide +kernel
theorem dX11_saw_45 : decode cX11_saw 45 = .ok (.iastore, 1) := by decide +kernel
theorem dX11_saw_46 : decode cX11_saw 46 = .ok (.aload_n 0, 1) := by decide +kernel
theorem dX11_saw_47 : decode cX11_saw 47 = .ok (.getfield 44, 3) := by decide +kernel
theorem dX11_saw_50 : decode cX11_saw 50 = .ok (.aload_n 0, 1) := by decide +kernel
theorem dX11_saw_51 : decode cX11_saw 51 = .ok (.getfield 120, 3) := by decide +kernel
theorem dX11_saw_54 : decode cX11_saw 54 = .ok (.iload_n 2, 1) := by decide +kernel
theorem dX11_saw_55 : decode cX11_saw 55 = .ok (.iastore, 1) := by decide +kernel
theorem dX11_saw_56 : decode cX11_saw 56 = .ok (.aload_n 0, 1) := by decide +kernel
theorem dX11_saw_57 : decode cX11_saw 57 = .ok (.dup, 1) := by decide +kernel
theorem dX11_saw_58 : decode cX11_saw 58 = .ok (.getfield 120, 3) := by decide +kernel
theorem dX11_saw_61 : decode cX11_saw 61 = .ok (.iconst 1, 1) := by decide +kernel
theorem dX11_saw_62 : decode cX11_saw 62 = .ok (.iadd, 1) := by decide +kernel
theorem dX11_saw_63 : decode cX11_saw 63 = .ok (.putfield 120, 3) := by decide +kernel
theorem dX11_saw_66 : decode cX11_saw 66 = .ok (.aload_n 0, 1) := by decide +kernel
theorem dX11_saw_67 : decode cX11_saw 67 = .ok (.getfield 120, 3) := by decide +kernel
theorem dX11_saw_70 : decode cX11_saw 70 = .ok (.ireturn, 1) := by decide +kernel
theorem dX11_mayBe_0 : decode cX11_mayBe 0 = .ok (.iload_n 2, 1) := by decide +kernel
theorem dX11_mayBe_1 : decode cX11_mayBe 1 = .ok (.ifCond .ne 7, 3) := by decide +kernel
theorem dX11_mayBe_4 : decode cX11_mayBe 4 = .ok (.iconst 1, 1) := by decide +kernel
theorem dX11_mayBe_5 : decode cX11_mayBe 5 = .ok (.goto 4, 3) := by decide +kernel
theorem dX11_mayBe_8 : decode cX11_mayBe 8 = .ok (.iconst 0, 1) := by decide +kernel
theorem dX11_mayBe_9 : decode cX11_mayBe 9 = .ok (.istore_n 3, 1) := by decide +kernel
theorem dX11_mayBe_10 : decode cX11_mayBe 10 = .ok (.iconst 0, 1) := by decide +kernel
theorem dX11_mayBe_11 : decode cX11_mayBe 11 = .ok (.istore 4, 2) := by decide +kernel
theorem dX11_mayBe_13 : decode cX11_mayBe 13 = .ok (.iload 4, 2) := by decide +kernel
theorem dX11_mayBe_15 : decode cX11_mayBe 15 = .ok (.aload_n 0, 1) := by decide +kernel
theorem dX11_mayBe_16 : decode cX11_mayBe 16 = .ok (.getfield 120, 3) := by decide +kernel
theorem dX11_mayBe_19 : decode cX11_mayBe 19 = .ok (.if_icmp .ge 63, 3) := by decide +kernel
theorem dX11_mayBe_22 : decode cX11_mayBe 22 = .ok (.iload_n 3, 1) := by decide +kernel
theorem dX11_mayBe_23 : decode cX11_mayBe 23 = .ok (.ifCond .eq 51, 3) := by decide +kernel
theorem dX11_mayBe_26 : decode cX11_mayBe 26 = .ok (.iload_n 1, 1) := by decide +kernel
