theorem dX11_mayBe_27 : decode cX11_mayBe 27 = .ok (.aload_n 0, 1) := by decide +kernel
theorem dX11_mayBe_28 : decode cX11_mayBe 28 = .ok (.getfield 28, 3) := by decide +kernel
theorem dX11_mayBe_31 : decode cX11_mayBe 31 = .ok (.bipush 14, 2) := by decide +kernel
theorem dX11_mayBe_33 : decode cX11_mayBe 33 = .ok (.aload_n 0, 1) := by decide +kernel
theorem dX11_mayBe_34 : decode cX11_mayBe 34 = .ok (.getfield 41, 3) := by decide +kernel
theorem dX11_mayBe_37 : decode cX11_mayBe 37 = .ok (.iload 4, 2) := by decide +kernel
theorem dX11_mayBe_39 : decode cX11_mayBe 39 = .ok (.iaload, 1) := by decide +kernel
theorem dX11_mayBe_40 : decode cX11_mayBe 40 = .ok (.iadd, 1) := by decide +kernel
theorem dX11_mayBe_41 : decode cX11_mayBe 41 = .ok (.iaload, 1) := by decide +kernel
theorem dX11_mayBe_42 : decode cX11_mayBe 42 = .ok (.iand, 1) := by decide +kernel
theorem dX11_mayBe_43 : decode cX11_mayBe 43 = .ok (.ifCond .ne 7, 3) := by decide +kernel
theorem dX11_mayBe_46 : decode cX11_mayBe 46 = .ok (.iconst 1, 1) := by decide +kernel
theorem dX11_mayBe_47 : decode cX11_mayBe 47 = .ok (.goto 4, 3) := by decide +kernel
theorem dX11_mayBe_50 : decode cX11_mayBe 50 = .ok (.iconst 0, 1) := by decide +kernel
theorem dX11_mayBe_51 : decode cX11_mayBe 51 = .ok (.aload_n 0, 1) := by decide +kernel
theorem dX11_mayBe_52 : decode cX11_mayBe 52 = .ok (.getfield 44, 3) := by decide +kernel
theorem dX11_mayBe_55 : decode cX11_mayBe 55 = .ok (.iload 4, 2) := by decide +kernel
theorem dX11_mayBe_57 : decode cX11_mayBe 57 = .ok (.iaload, 1) := by decide +kernel
theorem dX11_mayBe_58 : decode cX11_mayBe 58 = .ok (.iconst 1, 1) := by decide +kernel
theorem dX11_mayBe_59 : decode cX11_mayBe 59 = .ok (.if_icmp .ne 7, 3) := by decide +kernel
theorem dX11_mayBe_62 : decode cX11_mayBe 62 = .ok (.iconst 1, 1) := by decide +kernel
theorem dX11_mayBe_63 : decode cX11_mayBe 63 = .ok (.goto 4, 3) := by decide +kernel
theorem dX11_mayBe_66 : decode cX11_mayBe 66 = .ok (.iconst 0, 1) := by decide +kernel
theorem dX11_mayBe_67 : decode cX11_mayBe 67 = .ok (.if_icmp .ne 7, 3) := by decide +kernel
theorem dX11_mayBe_70 : decode cX11_mayBe 70 = .ok (.iconst 1, 1) := by decide +kernel
theorem dX11_mayBe_71 : decode cX11_mayBe 71 = .ok (.goto 4, 3) := by decide +kernel
theorem dX11_mayBe_74 : decode cX11_mayBe 74 = .ok (.iconst 0, 1) := by decide +kernel
theorem dX11_mayBe_75 : decode cX11_mayBe 75 = .ok (.istore_n 3, 1) := by decide +kernel
theorem dX11_mayBe_76 : decode cX11_mayBe 76 = .ok (.iinc 4 1, 3) := by decide +kernel
theorem dX11_mayBe_79 : decode cX11_mayBe 79 = .ok (.goto (-66), 3) := by decide +kernel
theorem dX11_mayBe_82 : decode cX11_mayBe 82 = .ok (.iload_n 3, 1) := by decide +kernel
theorem dX11_mayBe_83 : decode cX11_mayBe 83 = .ok (.ireturn, 1) := by decide +kernel
theorem dX11_canBe_0 : decode cX11_canBe 0 = .ok (.aload_n 0, 1) := by decide +kernel
theorem dX11_canBe_1 : decode cX11_canBe 1 = .ok (.iconst 0, 1) := by decide +kernel
theorem dX11_canBe_2 : decode cX11_canBe 2 = .ok (.putfield 65, 3) := by decide +kernel
theorem dX11_canBe_5 : decode cX11_canBe 5 = .ok (.iload_n 1, 1) := by decide +kernel
theorem dX11_canBe_6 : decode cX11_canBe 6 = .ok (.iconst 0, 1) := by decide +kernel
theorem dX11_canBe_7 : decode cX11_canBe 7 = .ok (.iconst 2, 1) := by decide +kernel
theorem dX11_canBe_8 : decode cX11_canBe 8 = .ok (.invokestatic 69, 3) := by decide +kernel
theorem dX11_canBe_11 : decode cX11_canBe 11 = .ok (.ifCond .ne 5, 3) := by decide +kernel
theorem dX11_canBe_14 : decode cX11_canBe 14 = .ok (.iconst (-1), 1) := by decide +kernel
theorem dX11_canBe_15 : decode cX11_canBe 15 = .ok (.ireturn, 1) := by decide +kernel
theorem dX11_canBe_16 : decode cX11_canBe 16 = .ok (.iconst 0, 1) := by decide +kernel
theorem dX11_canBe_17 : decode cX11_canBe 17 = .ok (.istore_n 2, 1) := by decide +kernel
theorem dX11_canBe_18 : decode cX11_canBe 18 = .ok (.bipush (-9), 2) := by decide +kernel
theorem dX11_canBe_20 : decode cX11_canBe 20 = .ok (.istore_n 3, 1) := by decide +kernel
theorem dX11_canBe_21 : decode cX11_canBe 21 = .ok (.bipush 31, 2) := by decide +kernel
theorem dX11_canBe_23 : decode cX11_canBe 23 = .ok (.istore 4, 2) := by decide +kernel
theorem dX11_canBe_25 : decode cX11_canBe 25 = .ok (.iconst 0, 1) := by decide +kernel
theorem dX11_canBe_26 : decode cX11_canBe 26 = .ok (.istore 5, 2) := by decide +kernel
theorem dX11_canBe_28 : decode cX11_canBe 28 = .ok (.iload 5, 2) := by decide +kernel
theorem dX11_canBe_30 : decode cX11_canBe 30 = .ok (.bipush 32, 2) := by decide +kernel
theorem dX11_canBe_32 : decode cX11_canBe 32 = .ok (.if_icmp .ge 40, 3) := by decide +kernel
theorem dX11_canBe_35 : decode cX11_canBe 35 = .ok (.aload_n 0, 1) := by decide +kernel
theorem dX11_canBe_36 : decode cX11_canBe 36 = .ok (.iload 5, 2) := by decide +kernel
theorem dX11_canBe_38 : decode cX11_canBe 38 = .ok (.iconst 0, 1) := by decide +kernel
theorem dX11_canBe_39 : decode cX11_canBe 39 = .ok (.invokevirtual 162, 3) := by decide +kernel
theorem dX11_canBe_42 : decode cX11_canBe 42 = .ok (.ifCond .eq 24, 3) := by decide +kernel
theorem dX11_canBe_45 : decode cX11_canBe 45 = .ok (.iload_n 2, 1) := by decide +kernel
theorem dX11_canBe_46 : decode cX11_canBe 46 = .ok (.ifCond .ne 8, 3) := by decide +kernel
theorem dX11_canBe_49 : decode cX11_canBe 49 = .ok (.iload 5, 2) := by decide +kernel
theorem dX11_canBe_51 : decode cX11_canBe 51 = .ok (.goto 4, 3) := by decide +kernel
theorem dX11_canBe_54 : decode cX11_canBe 54 = .ok (.iload_n 3, 1) := by decide +kernel
theorem dX11_canBe_55 : decode cX11_canBe 55 = .ok (.istore_n 3, 1) := by decide +kernel
theorem dX11_canBe_56 : decode cX11_canBe 56 = .ok (.iload 4, 2) := by decide +kernel
theorem dX11_canBe_58 : decode cX11_canBe 58 = .ok (.iload 5, 2) := by decide +kernel
theorem dX11_canBe_60 : decode cX11_canBe 60 = .ok (.iand, 1) := by decide +kernel
theorem dX11_canBe_61 : decode cX11_canBe 61 = .ok (.istore 4, 2) := by decide +kernel
theorem dX11_canBe_63 : decode cX11_canBe 63 = .ok (.iinc 2 1, 3) := by decide +kernel
theorem dX11_canBe_66 : decode cX11_canBe 66 = .ok (.iinc 5 1, 3) := by decide +kernel
theorem dX11_canBe_69 : decode cX11_canBe 69 = .ok (.goto (-41), 3) := by decide +kernel
theorem dX11_canBe_72 : decode cX11_canBe 72 = .ok (.iload_n 1, 1) := by decide +kernel
theorem dX11_canBe_73 : decode cX11_canBe 73 = .ok (.ifCond .ne 7, 3) := by decide +kernel
theorem dX11_canBe_76 : decode cX11_canBe 76 = .ok (.iload_n 2, 1) := by decide +kernel
theorem dX11_canBe_77 : decode cX11_canBe 77 = .ok (.goto 18, 3) := by decide +kernel
theorem dX11_canBe_80 : decode cX11_canBe 80 = .ok (.iload_n 1, 1) := by decide +kernel
theorem dX11_canBe_81 : decode cX11_canBe 81 = .ok (.iconst 1, 1) := by decide +kernel
theorem dX11_canBe_82 : decode cX11_canBe 82 = .ok (.if_icmp .eq 7, 3) := by decide +kernel
theorem dX11_canBe_85 : decode cX11_canBe 85 = .ok (.iload_n 2, 1) := by decide +kernel
theorem dX11_canBe_86 : decode cX11_canBe 86 = .ok (.ifCond .ne 7, 3) := by decide +kernel
theorem dX11_canBe_89 : decode cX11_canBe 89 = .ok (.iload_n 3, 1) := by decide +kernel
theorem dX11_canBe_90 : decode cX11_canBe 90 = .ok (.goto 5, 3) := by decide +kernel
theorem dX11_canBe_93 : decode cX11_canBe 93 = .ok (.iload 4, 2) := by decide +kernel
theorem dX11_canBe_95 : decode cX11_canBe 95 = .ok (.ireturn, 1) := by decide +kernel
theorem dX11_show_0 : decode cX11_show 0 = .ok (.aload_n 0, 1) := by decide +kernel
theorem dX11_show_1 : decode cX11_show 1 = .ok (.iconst 0, 1) := by decide +kernel
theorem dX11_show_2 : decode cX11_show 2 = .ok (.putfield 65, 3) := by decide +kernel
theorem dX11_show_5 : decode cX11_show 5 = .ok (.iconst 0, 1) := by decide +kernel
theorem dX11_show_6 : decode cX11_show 6 = .ok (.istore_n 1, 1) := by decide +kernel
theorem dX11_show_7 : decode cX11_show 7 = .ok (.iconst 0, 1) := by decide +kernel
theorem dX11_show_8 : decode cX11_show 8 = .ok (.istore_n 2, 1) := by decide +kernel
theorem dX11_show_9 : decode cX11_show 9 = .ok (.iload_n 2, 1) := by decide +kernel
theorem dX11_show_10 : decode cX11_show 10 = .ok (.bipush 32, 2) := by decide +kernel
theorem dX11_show_12 : decode cX11_show 12 = .ok (.if_icmp .ge 26, 3) := by decide +kernel
theorem dX11_show_15 : decode cX11_show 15 = .ok (.iload_n 1, 1) := by decide +kernel
theorem dX11_show_16 : decode cX11_show 16 = .ok (.aload_n 0, 1) := by decide +kernel
theorem dX11_show_17 : decode cX11_show 17 = .ok (.iload_n 2, 1) := by decide +kernel
theorem dX11_show_18 : decode cX11_show 18 = .ok (.iconst 0, 1) := by decide +kernel
theorem dX11_show_19 : decode cX11_show 19 = .ok (.invokevirtual 162, 3) := by decide +kernel
theorem dX11_show_22 : decode cX11_show 22 = .ok (.ifCond .eq 7, 3) := by decide +kernel
theorem dX11_show_25 : decode cX11_show 25 = .ok (.iconst 1, 1) := by decide +kernel
theorem dX11_show_26 : decode cX11_show 26 = .ok (.goto 4, 3) := by decide +kernel
theorem dX11_show_29 : decode cX11_show 29 = .ok (.iconst 0, 1) := by decide +kernel
theorem dX11_show_30 : decode cX11_show 30 = .ok (.iadd, 1) := by decide +kernel
theorem dX11_show_31 : decode cX11_show 31 = .ok (.istore_n 1, 1) := by decide +kernel
theorem dX11_show_32 : decode cX11_show 32 = .ok (.iinc 2 1, 3) := by decide +kernel
theorem dX11_show_35 : decode cX11_show 35 = .ok (.goto (-26), 3) := by decide +kernel
theorem dX11_show_38 : decode cX11_show 38 = .ok (.bipush (-9), 2) := by decide +kernel
theorem dX11_show_40 : decode cX11_show 40 = .ok (.istore_n 2, 1) := by decide +kernel
theorem dX11_show_41 : decode cX11_show 41 = .ok (.ldc 155, 2) := by decide +kernel
theorem dX11_show_43 : decode cX11_show 43 = .ok (.istore_n 3, 1) := by decide +kernel
theorem dX11_show_44 : decode cX11_show 44 = .ok (.iconst 0, 1) := by decide +kernel
theorem dX11_show_45 : decode cX11_show 45 = .ok (.istore 4, 2) := by decide +kernel
theorem dX11_show_47 : decode cX11_show 47 = .ok (.iload 4, 2) := by decide +kernel
theorem dX11_show_49 : decode cX11_show 49 = .ok (.aload_n 0, 1) := by decide +kernel
theorem dX11_show_50 : decode cX11_show 50 = .ok (.getfield 13, 3) := by decide +kernel
theorem dX11_show_53 : decode cX11_show 53 = .ok (.iconst 0, 1) := by decide +kernel
theorem dX11_show_54 : decode cX11_show 54 = .ok (.iaload, 1) := by decide +kernel
theorem dX11_show_55 : decode cX11_show 55 = .ok (.if_icmp .ge 111, 3) := by decide +kernel
theorem dX11_show_58 : decode cX11_show 58 = .ok (.iload_n 1, 1) := by decide +kernel
theorem dX11_show_59 : decode cX11_show 59 = .ok (.iconst 1, 1) := by decide +kernel
theorem dX11_show_60 : decode cX11_show 60 = .ok (.if_icmp .le 106, 3) := by decide +kernel
theorem dX11_show_63 : decode cX11_show 63 = .ok (.iconst 0, 1) := by decide +kernel
theorem dX11_show_64 : decode cX11_show 64 = .ok (.istore 5, 2) := by decide +kernel
theorem dX11_show_66 : decode cX11_show 66 = .ok (.iconst 0, 1) := by decide +kernel
theorem dX11_show_67 : decode cX11_show 67 = .ok (.istore 6, 2) := by decide +kernel
theorem dX11_show_69 : decode cX11_show 69 = .ok (.iload 6, 2) := by decide +kernel
theorem dX11_show_71 : decode cX11_show 71 = .ok (.bipush 32, 2) := by decide +kernel
theorem dX11_show_73 : decode cX11_show 73 = .ok (.if_icmp .ge 41, 3) := by decide +kernel
theorem dX11_show_76 : decode cX11_show 76 = .ok (.iload 5, 2) := by decide +kernel
theorem dX11_show_78 : decode cX11_show 78 = .ok (.aload_n 0, 1) := by decide +kernel
theorem dX11_show_79 : decode cX11_show 79 = .ok (.iload 6, 2) := by decide +kernel
theorem dX11_show_81 : decode cX11_show 81 = .ok (.iload 6, 2) := by decide +kernel
theorem dX11_show_83 : decode cX11_show 83 = .ok (.aload_n 0, 1) := by decide +kernel
theorem dX11_show_84 : decode cX11_show 84 = .ok (.getfield 28, 3) := by decide +kernel
theorem dX11_show_87 : decode cX11_show 87 = .ok (.bipush 14, 2) := by decide +kernel
theorem dX11_show_89 : decode cX11_show 89 = .ok (.iload 4, 2) := by decide +kernel
theorem dX11_show_91 : decode cX11_show 91 = .ok (.iadd, 1) := by decide +kernel
theorem dX11_show_92 : decode cX11_show 92 = .ok (.iaload, 1) := by decide +kernel
theorem dX11_show_93 : decode cX11_show 93 = .ok (.iand, 1) := by decide +kernel
theorem dX11_show_94 : decode cX11_show 94 = .ok (.invokevirtual 162, 3) := by decide +kernel
theorem dX11_show_97 : decode cX11_show 97 = .ok (.ifCond .eq 7, 3) := by decide +kernel
theorem dX11_show_100 : decode cX11_show 100 = .ok (.iconst 1, 1) := by decide +kernel
theorem dX11_show_101 : decode cX11_show 101 = .ok (.goto 4, 3) := by decide +kernel
theorem dX11_show_104 : decode cX11_show 104 = .ok (.iconst 0, 1) := by decide +kernel
theorem dX11_show_105 : decode cX11_show 105 = .ok (.iadd, 1) := by decide +kernel
theorem dX11_show_106 : decode cX11_show 106 = .ok (.istore 5, 2) := by decide +kernel
theorem dX11_show_108 : decode cX11_show 108 = .ok (.iinc 6 1, 3) := by decide +kernel
theorem dX11_show_111 : decode cX11_show 111 = .ok (.goto (-42), 3) := by decide +kernel
theorem dX11_show_114 : decode cX11_show 114 = .ok (.iload 5, 2) := by decide +kernel
theorem dX11_show_116 : decode cX11_show 116 = .ok (.iload_n 1, 1) := by decide +kernel
theorem dX11_show_117 : decode cX11_show 117 = .ok (.iload 5, 2) := by decide +kernel
theorem dX11_show_119 : decode cX11_show 119 = .ok (.isub, 1) := by decide +kernel
theorem dX11_show_120 : decode cX11_show 120 = .ok (.if_icmp .le 8, 3) := by decide +kernel
theorem dX11_show_123 : decode cX11_show 123 = .ok (.iload 5, 2) := by decide +kernel
theorem dX11_show_125 : decode cX11_show 125 = .ok (.goto 7, 3) := by decide +kernel
theorem dX11_show_128 : decode cX11_show 128 = .ok (.iload_n 1, 1) := by decide +kernel
theorem dX11_show_129 : decode cX11_show 129 = .ok (.iload 5, 2) := by decide +kernel
theorem dX11_show_131 : decode cX11_show 131 = .ok (.isub, 1) := by decide +kernel
theorem dX11_show_132 : decode cX11_show 132 = .ok (.istore 6, 2) := by decide +kernel
theorem dX11_show_134 : decode cX11_show 134 = .ok (.iload 6, 2) := by decide +kernel
theorem dX11_show_136 : decode cX11_show 136 = .ok (.iload_n 3, 1) := by decide +kernel
theorem dX11_show_137 : decode cX11_show 137 = .ok (.if_icmp .ge 8, 3) := by decide +kernel
theorem dX11_show_140 : decode cX11_show 140 = .ok (.iload 4, 2) := by decide +kernel
theorem dX11_show_142 : decode cX11_show 142 = .ok (.goto 4, 3) := by decide +kernel
theorem dX11_show_145 : decode cX11_show 145 = .ok (.iload_n 2, 1) := by decide +kernel
theorem dX11_show_146 : decode cX11_show 146 = .ok (.istore_n 2, 1) := by decide +kernel
theorem dX11_show_147 : decode cX11_show 147 = .ok (.iload 6, 2) := by decide +kernel
theorem dX11_show_149 : decode cX11_show 149 = .ok (.iload_n 3, 1) := by decide +kernel
theorem dX11_show_150 : decode cX11_show 150 = .ok (.if_icmp .ge 8, 3) := by decide +kernel
theorem dX11_show_153 : decode cX11_show 153 = .ok (.iload 6, 2) := by decide +kernel
theorem dX11_show_155 : decode cX11_show 155 = .ok (.goto 4, 3) := by decide +kernel
theorem dX11_show_158 : decode cX11_show 158 = .ok (.iload_n 3, 1) := by decide +kernel
theorem dX11_show_159 : decode cX11_show 159 = .ok (.istore_n 3, 1) := by decide +kernel
theorem dX11_show_160 : decode cX11_show 160 = .ok (.iinc 4 1, 3) := by decide +kernel
theorem dX11_show_163 : decode cX11_show 163 = .ok (.goto (-116), 3) := by decide +kernel
theorem dX11_show_166 : decode cX11_show 166 = .ok (.iload_n 2, 1) := by decide +kernel
theorem dX11_show_167 : decode cX11_show 167 = .ok (.ireturn, 1) := by decide +kernel
theorem dX11_hears_0 : decode cX11_hears 0 = .ok (.aload_n 0, 1) := by decide +kernel
theorem dX11_hears_1 : decode cX11_hears 1 = .ok (.iconst 0, 1) := by decide +kernel
theorem dX11_hears_2 : decode cX11_hears 2 = .ok (.putfield 65, 3) := by decide +kernel
theorem dX11_hears_5 : decode cX11_hears 5 = .ok (.iload_n 1, 1) := by decide +kernel
theorem dX11_hears_6 : decode cX11_hears 6 = .ok (.iconst 0, 1) := by decide +kernel
theorem dX11_hears_7 : decode cX11_hears 7 = .ok (.bipush 20, 2) := by decide +kernel
theorem dX11_hears_9 : decode cX11_hears 9 = .ok (.invokestatic 69, 3) := by decide +kernel
theorem dX11_hears_12 : decode cX11_hears 12 = .ok (.ifCond .eq 12, 3) := by decide +kernel
theorem dX11_hears_15 : decode cX11_hears 15 = .ok (.iload_n 2, 1) := by decide +kernel
theorem dX11_hears_16 : decode cX11_hears 16 = .ok (.iconst 0, 1) := by decide +kernel
theorem dX11_hears_17 : decode cX11_hears 17 = .ok (.iconst 1, 1) := by decide +kernel
theorem dX11_hears_18 : decode cX11_hears 18 = .ok (.invokestatic 69, 3) := by decide +kernel
theorem dX11_hears_21 : decode cX11_hears 21 = .ok (.ifCond .ne 5, 3) := by decide +kernel
theorem dX11_hears_24 : decode cX11_hears 24 = .ok (.iconst (-1), 1) := by decide +kernel
theorem dX11_hears_25 : decode cX11_hears 25 = .ok (.ireturn, 1) := by decide +kernel
theorem dX11_hears_26 : decode cX11_hears 26 = .ok (.aload_n 0, 1) := by decide +kernel
theorem dX11_hears_27 : decode cX11_hears 27 = .ok (.getfield 123, 3) := by decide +kernel
theorem dX11_hears_30 : decode cX11_hears 30 = .ok (.bipush 6, 2) := by decide +kernel
theorem dX11_hears_32 : decode cX11_hears 32 = .ok (.if_icmp .ne 6, 3) := by decide +kernel
theorem dX11_hears_35 : decode cX11_hears 35 = .ok (.bipush (-3), 2) := by decide +kernel
theorem dX11_hears_37 : decode cX11_hears 37 = .ok (.ireturn, 1) := by decide +kernel
theorem dX11_hears_38 : decode cX11_hears 38 = .ok (.aload_n 0, 1) := by decide +kernel
theorem dX11_hears_39 : decode cX11_hears 39 = .ok (.getfield 47, 3) := by decide +kernel
theorem dX11_hears_42 : decode cX11_hears 42 = .ok (.aload_n 0, 1) := by decide +kernel
theorem dX11_hears_43 : decode cX11_hears 43 = .ok (.getfield 123, 3) := by decide +kernel
theorem dX11_hears_46 : decode cX11_hears 46 = .ok (.iload_n 1, 1) := by decide +kernel
theorem dX11_hears_47 : decode cX11_hears 47 = .ok (.iastore, 1) := by decide +kernel
theorem dX11_hears_48 : decode cX11_hears 48 = .ok (.aload_n 0, 1) := by decide +kernel
theorem dX11_hears_49 : decode cX11_hears 49 = .ok (.getfield 50, 3) := by decide +kernel
theorem dX11_hears_52 : decode cX11_hears 52 = .ok (.aload_n 0, 1) := by decide +kernel
theorem dX11_hears_53 : decode cX11_hears 53 = .ok (.getfield 123, 3) := by decide +kernel
theorem dX11_hears_56 : decode cX11_hears 56 = .ok (.iload_n 2, 1) := by decide +kernel
theorem dX11_hears_57 : decode cX11_hears 57 = .ok (.iastore, 1) := by decide +kernel
theorem dX11_hears_58 : decode cX11_hears 58 = .ok (.aload_n 0, 1) := by decide +kernel
theorem dX11_hears_59 : decode cX11_hears 59 = .ok (.dup, 1) := by decide +kernel
theorem dX11_hears_60 : decode cX11_hears 60 = .ok (.getfield 123, 3) := by decide +kernel
theorem dX11_hears_63 : decode cX11_hears 63 = .ok (.iconst 1, 1) := by decide +kernel
theorem dX11_hears_64 : decode cX11_hears 64 = .ok (.iadd, 1) := by decide +kernel
theorem dX11_hears_65 : decode cX11_hears 65 = .ok (.putfield 123, 3) := by decide +kernel
theorem dX11_hears_68 : decode cX11_hears 68 = .ok (.aload_n 0, 1) := by decide +kernel
theorem dX11_hears_69 : decode cX11_hears 69 = .ok (.getfield 123, 3) := by decide +kernel
theorem dX11_hears_72 : decode cX11_hears 72 = .ok (.ireturn, 1) := by decide +kernel
theorem dX11_forget_0 : decode cX11_forget 0 = .ok (.aload_n 0, 1) := by decide +kernel
theorem dX11_forget_1 : decode cX11_forget 1 = .ok (.iconst 0, 1) := by decide +kernel
theorem dX11_forget_2 : decode cX11_forget 2 = .ok (.putfield 65, 3) := by decide +kernel
theorem dX11_forget_5 : decode cX11_forget 5 = .ok (.aload_n 0, 1) := by decide +kernel
theorem dX11_forget_6 : decode cX11_forget 6 = .ok (.getfield 120, 3) := by decide +kernel
theorem dX11_forget_9 : decode cX11_forget 9 = .ok (.aload_n 0, 1) := by decide +kernel
theorem dX11_forget_10 : decode cX11_forget 10 = .ok (.getfield 123, 3) := by decide +kernel
theorem dX11_forget_13 : decode cX11_forget 13 = .ok (.iadd, 1) := by decide +kernel
theorem dX11_forget_14 : decode cX11_forget 14 = .ok (.istore_n 1, 1) := by decide +kernel
theorem dX11_forget_15 : decode cX11_forget 15 = .ok (.aload_n 0, 1) := by decide +kernel
theorem dX11_forget_16 : decode cX11_forget 16 = .ok (.iconst 0, 1) := by decide +kernel
theorem dX11_forget_17 : decode cX11_forget 17 = .ok (.putfield 120, 3) := by decide +kernel
theorem dX11_forget_20 : decode cX11_forget 20 = .ok (.aload_n 0, 1) := by decide +kernel
theorem dX11_forget_21 : decode cX11_forget 21 = .ok (.iconst 0, 1) := by decide +kernel
theorem dX11_forget_22 : decode cX11_forget 22 = .ok (.putfield 123, 3) := by decide +kernel
theorem dX11_forget_25 : decode cX11_forget 25 = .ok (.iload_n 1, 1) := by decide +kernel
theorem dX11_forget_26 : decode cX11_forget 26 = .ok (.ireturn, 1) := by decide +kernel
theorem dX11_years_0 : decode cX11_years 0 = .ok (.aload_n 0, 1) := by decide +kernel
theorem dX11_years_1 : decode cX11_years 1 = .ok (.iconst 0, 1) := by decide +kernel
theorem dX11_years_2 : decode cX11_years 2 = .ok (.putfield 65, 3) := by decide +kernel
theorem dX11_years_5 : decode cX11_years 5 = .ok (.iconst 0, 1) := by decide +kernel
theorem dX11_years_6 : decode cX11_years 6 = .ok (.istore_n 1, 1) := by decide +kernel
theorem dX11_years_7 : decode cX11_years 7 = .ok (.iconst 1, 1) := by decide +kernel
theorem dX11_years_8 : decode cX11_years 8 = .ok (.istore_n 2, 1) := by decide +kernel
theorem dX11_years_9 : decode cX11_years 9 = .ok (.iload_n 2, 1) := by decide +kernel
theorem dX11_years_10 : decode cX11_years 10 = .ok (.bipush 10, 2) := by decide +kernel
theorem dX11_years_12 : decode cX11_years 12 = .ok (.if_icmp .ge 88, 3) := by decide +kernel
theorem dX11_years_15 : decode cX11_years 15 = .ok (.iconst 1, 1) := by decide +kernel
theorem dX11_years_16 : decode cX11_years 16 = .ok (.istore_n 3, 1) := by decide +kernel
theorem dX11_years_17 : decode cX11_years 17 = .ok (.iconst 0, 1) := by decide +kernel
theorem dX11_years_18 : decode cX11_years 18 = .ok (.istore 4, 2) := by decide +kernel
theorem dX11_years_20 : decode cX11_years 20 = .ok (.iload 4, 2) := by decide +kernel
theorem dX11_years_22 : decode cX11_years 22 = .ok (.aload_n 0, 1) := by decide +kernel
theorem dX11_years_23 : decode cX11_years 23 = .ok (.getfield 123, 3) := by decide +kernel
theorem dX11_years_26 : decode cX11_years 26 = .ok (.if_icmp .ge 54, 3) := by decide +kernel
theorem dX11_years_29 : decode cX11_years 29 = .ok (.iload_n 3, 1) := by decide +kernel
theorem dX11_years_30 : decode cX11_years 30 = .ok (.ifCond .eq 42, 3) := by decide +kernel
theorem dX11_years_33 : decode cX11_years 33 = .ok (.aload_n 0, 1) := by decide +kernel
theorem dX11_years_34 : decode cX11_years 34 = .ok (.getfield 47, 3) := by decide +kernel
theorem dX11_years_37 : decode cX11_years 37 = .ok (.iload 4, 2) := by decide +kernel
theorem dX11_years_39 : decode cX11_years 39 = .ok (.iaload, 1) := by decide +kernel
theorem dX11_years_40 : decode cX11_years 40 = .ok (.iload_n 2, 1) := by decide +kernel
theorem dX11_years_41 : decode cX11_years 41 = .ok (.if_icmp .lt 7, 3) := by decide +kernel
theorem dX11_years_44 : decode cX11_years 44 = .ok (.iconst 1, 1) := by decide +kernel
theorem dX11_years_45 : decode cX11_years 45 = .ok (.goto 4, 3) := by decide +kernel
theorem dX11_years_48 : decode cX11_years 48 = .ok (.iconst 0, 1) := by decide +kernel
theorem dX11_years_49 : decode cX11_years 49 = .ok (.aload_n 0, 1) := by decide +kernel
theorem dX11_years_50 : decode cX11_years 50 = .ok (.getfield 50, 3) := by decide +kernel
theorem dX11_years_53 : decode cX11_years 53 = .ok (.iload 4, 2) := by decide +kernel
theorem dX11_years_55 : decode cX11_years 55 = .ok (.iaload, 1) := by decide +kernel
theorem dX11_years_56 : decode cX11_years 56 = .ok (.iconst 1, 1) := by decide +kernel
theorem dX11_years_57 : decode cX11_years 57 = .ok (.if_icmp .ne 7, 3) := by decide +kernel
theorem dX11_years_60 : decode cX11_years 60 = .ok (.iconst 1, 1) := by decide +kernel
theorem dX11_years_61 : decode cX11_years 61 = .ok (.goto 4, 3) := by decide +kernel
theorem dX11_years_64 : decode cX11_years 64 = .ok (.iconst 0, 1) := by decide +kernel
theorem dX11_years_65 : decode cX11_years 65 = .ok (.if_icmp .ne 7, 3) := by decide +kernel
theorem dX11_years_68 : decode cX11_years 68 = .ok (.iconst 1, 1) := by decide +kernel
theorem dX11_years_69 : decode cX11_years 69 = .ok (.goto 4, 3) := by decide +kernel
theorem dX11_years_72 : decode cX11_years 72 = .ok (.iconst 0, 1) := by decide +kernel
theorem dX11_years_73 : decode cX11_years 73 = .ok (.istore_n 3, 1) := by decide +kernel
theorem dX11_years_74 : decode cX11_years 74 = .ok (.iinc 4 1, 3) := by decide +kernel
theorem dX11_years_77 : decode cX11_years 77 = .ok (.goto (-57), 3) := by decide +kernel
theorem dX11_years_80 : decode cX11_years 80 = .ok (.iload_n 1, 1) := by decide +kernel
theorem dX11_years_81 : decode cX11_years 81 = .ok (.iload_n 3, 1) := by decide +kernel
theorem dX11_years_82 : decode cX11_years 82 = .ok (.ifCond .eq 9, 3) := by decide +kernel
theorem dX11_years_85 : decode cX11_years 85 = .ok (.iconst 1, 1) := by decide +kernel
theorem dX11_years_86 : decode cX11_years 86 = .ok (.iload_n 2, 1) := by decide +kernel
theorem dX11_years_87 : decode cX11_years 87 = .ok (.ishl, 1) := by decide +kernel
theorem dX11_years_88 : decode cX11_years 88 = .ok (.goto 4, 3) := by decide +kernel
theorem dX11_years_91 : decode cX11_years 91 = .ok (.iconst 0, 1) := by decide +kernel
theorem dX11_years_92 : decode cX11_years 92 = .ok (.ior, 1) := by decide +kernel
theorem dX11_years_93 : decode cX11_years 93 = .ok (.istore_n 1, 1) := by decide +kernel
theorem dX11_years_94 : decode cX11_years 94 = .ok (.iinc 2 1, 3) := by decide +kernel
theorem dX11_years_97 : decode cX11_years 97 = .ok (.goto (-88), 3) := by decide +kernel
theorem dX11_years_100 : decode cX11_years 100 = .ok (.iload_n 1, 1) := by decide +kernel
theorem dX11_years_101 : decode cX11_years 101 = .ok (.ireturn, 1) := by decide +kernel
theorem dX11_worthOf_0 : decode cX11_worthOf 0 = .ok (.iconst 0, 1) := by decide +kernel
theorem dX11_worthOf_1 : decode cX11_worthOf 1 = .ok (.istore_n 3, 1) := by decide +kernel
theorem dX11_worthOf_2 : decode cX11_worthOf 2 = .ok (.iconst 0, 1) := by decide +kernel
theorem dX11_worthOf_3 : decode cX11_worthOf 3 = .ok (.istore 4, 2) := by decide +kernel
theorem dX11_worthOf_5 : decode cX11_worthOf 5 = .ok (.iload 4, 2) := by decide +kernel
theorem dX11_worthOf_7 : decode cX11_worthOf 7 = .ok (.aload_n 0, 1) := by decide +kernel
theorem dX11_worthOf_8 : decode cX11_worthOf 8 = .ok (.getfield 13, 3) := by decide +kernel
theorem dX11_worthOf_11 : decode cX11_worthOf 11 = .ok (.iconst 1, 1) := by decide +kernel
theorem dX11_worthOf_12 : decode cX11_worthOf 12 = .ok (.iaload, 1) := by decide +kernel
theorem dX11_worthOf_13 : decode cX11_worthOf 13 = .ok (.if_icmp .ge 103, 3) := by decide +kernel
theorem dX11_worthOf_16 : decode cX11_worthOf 16 = .ok (.iload_n 1, 1) := by decide +kernel
theorem dX11_worthOf_17 : decode cX11_worthOf 17 = .ok (.iload 4, 2) := by decide +kernel
theorem dX11_worthOf_19 : decode cX11_worthOf 19 = .ok (.ishr, 1) := by decide +kernel
theorem dX11_worthOf_20 : decode cX11_worthOf 20 = .ok (.iconst 1, 1) := by decide +kernel
theorem dX11_worthOf_21 : decode cX11_worthOf 21 = .ok (.iand, 1) := by decide +kernel
theorem dX11_worthOf_22 : decode cX11_worthOf 22 = .ok (.iconst 1, 1) := by decide +kernel
theorem dX11_worthOf_23 : decode cX11_worthOf 23 = .ok (.if_icmp .ne 7, 3) := by decide +kernel
theorem dX11_worthOf_26 : decode cX11_worthOf 26 = .ok (.iconst 1, 1) := by decide +kernel
theorem dX11_worthOf_27 : decode cX11_worthOf 27 = .ok (.goto 4, 3) := by decide +kernel
theorem dX11_worthOf_30 : decode cX11_worthOf 30 = .ok (.iconst 0, 1) := by decide +kernel
theorem dX11_worthOf_31 : decode cX11_worthOf 31 = .ok (.istore 5, 2) := by decide +kernel
theorem dX11_worthOf_33 : decode cX11_worthOf 33 = .ok (.iload 5, 2) := by decide +kernel
theorem dX11_worthOf_35 : decode cX11_worthOf 35 = .ok (.ifCond .eq 34, 3) := by decide +kernel
theorem dX11_worthOf_38 : decode cX11_worthOf 38 = .ok (.aload_n 0, 1) := by decide +kernel
theorem dX11_worthOf_39 : decode cX11_worthOf 39 = .ok (.getfield 22, 3) := by decide +kernel
theorem dX11_worthOf_42 : decode cX11_worthOf 42 = .ok (.iload 4, 2) := by decide +kernel
theorem dX11_worthOf_44 : decode cX11_worthOf 44 = .ok (.iaload, 1) := by decide +kernel
theorem dX11_worthOf_45 : decode cX11_worthOf 45 = .ok (.ifCond .eq 21, 3) := by decide +kernel
theorem dX11_worthOf_48 : decode cX11_worthOf 48 = .ok (.aload_n 0, 1) := by decide +kernel
theorem dX11_worthOf_49 : decode cX11_worthOf 49 = .ok (.iload 4, 2) := by decide +kernel
theorem dX11_worthOf_51 : decode cX11_worthOf 51 = .ok (.invokevirtual 133, 3) := by decide +kernel
theorem dX11_worthOf_54 : decode cX11_worthOf 54 = .ok (.ifCond .ne 12, 3) := by decide +kernel
theorem dX11_worthOf_57 : decode cX11_worthOf 57 = .ok (.aload_n 0, 1) := by decide +kernel
theorem dX11_worthOf_58 : decode cX11_worthOf 58 = .ok (.iload 4, 2) := by decide +kernel
theorem dX11_worthOf_60 : decode cX11_worthOf 60 = .ok (.invokevirtual 143, 3) := by decide +kernel
theorem dX11_worthOf_63 : decode cX11_worthOf 63 = .ok (.ifCond .eq 6, 3) := by decide +kernel
theorem dX11_worthOf_66 : decode cX11_worthOf 66 = .ok (.ldc 155, 2) := by decide +kernel
theorem dX11_worthOf_68 : decode cX11_worthOf 68 = .ok (.ireturn, 1) := by decide +kernel
theorem dX11_worthOf_69 : decode cX11_worthOf 69 = .ok (.iload_n 3, 1) := by decide +kernel
theorem dX11_worthOf_70 : decode cX11_worthOf 70 = .ok (.iload 5, 2) := by decide +kernel
theorem dX11_worthOf_72 : decode cX11_worthOf 72 = .ok (.ifCond .ne 25, 3) := by decide +kernel
theorem dX11_worthOf_75 : decode cX11_worthOf 75 = .ok (.iload_n 2, 1) := by decide +kernel
theorem dX11_worthOf_76 : decode cX11_worthOf 76 = .ok (.ifCond .eq 31, 3) := by decide +kernel
theorem dX11_worthOf_79 : decode cX11_worthOf 79 = .ok (.aload_n 0, 1) := by decide +kernel
theorem dX11_worthOf_80 : decode cX11_worthOf 80 = .ok (.iload 4, 2) := by decide +kernel
theorem dX11_worthOf_82 : decode cX11_worthOf 82 = .ok (.invokevirtual 133, 3) := by decide +kernel
theorem dX11_worthOf_85 : decode cX11_worthOf 85 = .ok (.ifCond .eq 22, 3) := by decide +kernel
theorem dX11_worthOf_88 : decode cX11_worthOf 88 = .ok (.aload_n 0, 1) := by decide +kernel
theorem dX11_worthOf_89 : decode cX11_worthOf 89 = .ok (.iload 4, 2) := by decide +kernel
theorem dX11_worthOf_91 : decode cX11_worthOf 91 = .ok (.invokevirtual 143, 3) := by decide +kernel
theorem dX11_worthOf_94 : decode cX11_worthOf 94 = .ok (.ifCond .ne 13, 3) := by decide +kernel
theorem dX11_worthOf_97 : decode cX11_worthOf 97 = .ok (.aload_n 0, 1) := by decide +kernel
theorem dX11_worthOf_98 : decode cX11_worthOf 98 = .ok (.getfield 19, 3) := by decide +kernel
theorem dX11_worthOf_101 : decode cX11_worthOf 101 = .ok (.iload 4, 2) := by decide +kernel
theorem dX11_worthOf_103 : decode cX11_worthOf 103 = .ok (.iaload, 1) := by decide +kernel
theorem dX11_worthOf_104 : decode cX11_worthOf 104 = .ok (.goto 4, 3) := by decide +kernel
theorem dX11_worthOf_107 : decode cX11_worthOf 107 = .ok (.iconst 0, 1) := by decide +kernel
theorem dX11_worthOf_108 : decode cX11_worthOf 108 = .ok (.iadd, 1) := by decide +kernel
theorem dX11_worthOf_109 : decode cX11_worthOf 109 = .ok (.istore_n 3, 1) := by decide +kernel
theorem dX11_worthOf_110 : decode cX11_worthOf 110 = .ok (.iinc 4 1, 3) := by decide +kernel
theorem dX11_worthOf_113 : decode cX11_worthOf 113 = .ok (.goto (-108), 3) := by decide +kernel
theorem dX11_worthOf_116 : decode cX11_worthOf 116 = .ok (.iload_n 3, 1) := by decide +kernel
theorem dX11_worthOf_117 : decode cX11_worthOf 117 = .ok (.ireturn, 1) := by decide +kernel
theorem dX11_letIn_0 : decode cX11_letIn 0 = .ok (.aload_n 0, 1) := by decide +kernel
theorem dX11_letIn_1 : decode cX11_letIn 1 = .ok (.iconst 0, 1) := by decide +kernel
theorem dX11_letIn_2 : decode cX11_letIn 2 = .ok (.putfield 65, 3) := by decide +kernel
theorem dX11_letIn_5 : decode cX11_letIn 5 = .ok (.iload_n 1, 1) := by decide +kernel
theorem dX11_letIn_6 : decode cX11_letIn 6 = .ok (.iconst 0, 1) := by decide +kernel
theorem dX11_letIn_7 : decode cX11_letIn 7 = .ok (.iconst 1, 1) := by decide +kernel
theorem dX11_letIn_8 : decode cX11_letIn 8 = .ok (.invokestatic 69, 3) := by decide +kernel
theorem dX11_letIn_11 : decode cX11_letIn 11 = .ok (.ifCond .ne 5, 3) := by decide +kernel
theorem dX11_letIn_14 : decode cX11_letIn 14 = .ok (.iconst (-1), 1) := by decide +kernel
theorem dX11_letIn_15 : decode cX11_letIn 15 = .ok (.ireturn, 1) := by decide +kernel
theorem dX11_letIn_16 : decode cX11_letIn 16 = .ok (.bipush (-9), 2) := by decide +kernel
theorem dX11_letIn_18 : decode cX11_letIn 18 = .ok (.istore_n 2, 1) := by decide +kernel
theorem dX11_letIn_19 : decode cX11_letIn 19 = .ok (.iconst 0, 1) := by decide +kernel
theorem dX11_letIn_20 : decode cX11_letIn 20 = .ok (.istore_n 3, 1) := by decide +kernel
theorem dX11_letIn_21 : decode cX11_letIn 21 = .ok (.iload_n 3, 1) := by decide +kernel
theorem dX11_letIn_22 : decode cX11_letIn 22 = .ok (.iconst 1, 1) := by decide +kernel
theorem dX11_letIn_23 : decode cX11_letIn 23 = .ok (.aload_n 0, 1) := by decide +kernel
theorem dX11_letIn_24 : decode cX11_letIn 24 = .ok (.getfield 13, 3) := by decide +kernel
theorem dX11_letIn_27 : decode cX11_letIn 27 = .ok (.iconst 1, 1) := by decide +kernel
theorem dX11_letIn_28 : decode cX11_letIn 28 = .ok (.iaload, 1) := by decide +kernel
theorem dX11_letIn_29 : decode cX11_letIn 29 = .ok (.ishl, 1) := by decide +kernel
theorem dX11_letIn_30 : decode cX11_letIn 30 = .ok (.if_icmp .ge 117, 3) := by decide +kernel
theorem dX11_letIn_33 : decode cX11_letIn 33 = .ok (.aload_n 0, 1) := by decide +kernel
theorem dX11_letIn_34 : decode cX11_letIn 34 = .ok (.iload_n 3, 1) := by decide +kernel
theorem dX11_letIn_35 : decode cX11_letIn 35 = .ok (.iconst 1, 1) := by decide +kernel
theorem dX11_letIn_36 : decode cX11_letIn 36 = .ok (.invokevirtual 166, 3) := by decide +kernel
theorem dX11_letIn_39 : decode cX11_letIn 39 = .ok (.istore 4, 2) := by decide +kernel
theorem dX11_letIn_41 : decode cX11_letIn 41 = .ok (.iload 4, 2) := by decide +kernel
theorem dX11_letIn_43 : decode cX11_letIn 43 = .ok (.ldc 155, 2) := by decide +kernel
theorem dX11_letIn_45 : decode cX11_letIn 45 = .ok (.if_icmp .eq 27, 3) := by decide +kernel
theorem dX11_letIn_48 : decode cX11_letIn 48 = .ok (.bipush 10, 2) := by decide +kernel
theorem dX11_letIn_50 : decode cX11_letIn 50 = .ok (.iload 4, 2) := by decide +kernel
theorem dX11_letIn_52 : decode cX11_letIn 52 = .ok (.imul, 1) := by decide +kernel
theorem dX11_letIn_53 : decode cX11_letIn 53 = .ok (.aload_n 0, 1) := by decide +kernel
theorem dX11_letIn_54 : decode cX11_letIn 54 = .ok (.getfield 13, 3) := by decide +kernel
theorem dX11_letIn_57 : decode cX11_letIn 57 = .ok (.iconst 3, 1) := by decide +kernel
theorem dX11_letIn_58 : decode cX11_letIn 58 = .ok (.iaload, 1) := by decide +kernel
theorem dX11_letIn_59 : decode cX11_letIn 59 = .ok (.aload_n 0, 1) := by decide +kernel
theorem dX11_letIn_60 : decode cX11_letIn 60 = .ok (.iconst 0, 1) := by decide +kernel
theorem dX11_letIn_61 : decode cX11_letIn 61 = .ok (.invokevirtual 146, 3) := by decide +kernel
theorem dX11_letIn_64 : decode cX11_letIn 64 = .ok (.imul, 1) := by decide +kernel
theorem dX11_letIn_65 : decode cX11_letIn 65 = .ok (.if_icmp .gt 7, 3) := by decide +kernel
theorem dX11_letIn_68 : decode cX11_letIn 68 = .ok (.iconst 1, 1) := by decide +kernel
theorem dX11_letIn_69 : decode cX11_letIn 69 = .ok (.goto 4, 3) := by decide +kernel
theorem dX11_letIn_72 : decode cX11_letIn 72 = .ok (.iconst 0, 1) := by decide +kernel
theorem dX11_letIn_73 : decode cX11_letIn 73 = .ok (.istore 5, 2) := by decide +kernel
theorem dX11_letIn_75 : decode cX11_letIn 75 = .ok (.iload_n 2, 1) := by decide +kernel
theorem dX11_letIn_76 : decode cX11_letIn 76 = .ok (.bipush (-9), 2) := by decide +kernel
theorem dX11_letIn_78 : decode cX11_letIn 78 = .ok (.if_icmp .eq 40, 3) := by decide +kernel
theorem dX11_letIn_81 : decode cX11_letIn 81 = .ok (.iload_n 3, 1) := by decide +kernel
theorem dX11_letIn_82 : decode cX11_letIn 82 = .ok (.invokestatic 152, 3) := by decide +kernel
theorem dX11_letIn_85 : decode cX11_letIn 85 = .ok (.iload_n 2, 1) := by decide +kernel
theorem dX11_letIn_86 : decode cX11_letIn 86 = .ok (.invokestatic 152, 3) := by decide +kernel
theorem dX11_letIn_89 : decode cX11_letIn 89 = .ok (.if_icmp .gt 29, 3) := by decide +kernel
theorem dX11_letIn_92 : decode cX11_letIn 92 = .ok (.iload_n 3, 1) := by decide +kernel
theorem dX11_letIn_93 : decode cX11_letIn 93 = .ok (.invokestatic 152, 3) := by decide +kernel
theorem dX11_letIn_96 : decode cX11_letIn 96 = .ok (.iload_n 2, 1) := by decide +kernel
theorem dX11_letIn_97 : decode cX11_letIn 97 = .ok (.invokestatic 152, 3) := by decide +kernel
theorem dX11_letIn_100 : decode cX11_letIn 100 = .ok (.if_icmp .ne 22, 3) := by decide +kernel
theorem dX11_letIn_103 : decode cX11_letIn 103 = .ok (.aload_n 0, 1) := by decide +kernel
theorem dX11_letIn_104 : decode cX11_letIn 104 = .ok (.iload_n 3, 1) := by decide +kernel
theorem dX11_letIn_105 : decode cX11_letIn 105 = .ok (.iconst 0, 1) := by decide +kernel
theorem dX11_letIn_106 : decode cX11_letIn 106 = .ok (.invokevirtual 166, 3) := by decide +kernel
theorem dX11_letIn_109 : decode cX11_letIn 109 = .ok (.aload_n 0, 1) := by decide +kernel
theorem dX11_letIn_110 : decode cX11_letIn 110 = .ok (.iload_n 2, 1) := by decide +kernel
theorem dX11_letIn_111 : decode cX11_letIn 111 = .ok (.iconst 0, 1) := by decide +kernel
theorem dX11_letIn_112 : decode cX11_letIn 112 = .ok (.invokevirtual 166, 3) := by decide +kernel
theorem dX11_letIn_115 : decode cX11_letIn 115 = .ok (.if_icmp .le 7, 3) := by decide +kernel
theorem dX11_letIn_118 : decode cX11_letIn 118 = .ok (.iconst 1, 1) := by decide +kernel
theorem dX11_letIn_119 : decode cX11_letIn 119 = .ok (.goto 4, 3) := by decide +kernel
theorem dX11_letIn_122 : decode cX11_letIn 122 = .ok (.iconst 0, 1) := by decide +kernel
theorem dX11_letIn_123 : decode cX11_letIn 123 = .ok (.istore 6, 2) := by decide +kernel
theorem dX11_letIn_125 : decode cX11_letIn 125 = .ok (.iload 5, 2) := by decide +kernel
theorem dX11_letIn_127 : decode cX11_letIn 127 = .ok (.ifCond .eq 12, 3) := by decide +kernel
theorem dX11_letIn_130 : decode cX11_letIn 130 = .ok (.iload 6, 2) := by decide +kernel
theorem dX11_letIn_132 : decode cX11_letIn 132 = .ok (.ifCond .eq 7, 3) := by decide +kernel
theorem dX11_letIn_135 : decode cX11_letIn 135 = .ok (.iload_n 3, 1) := by decide +kernel
theorem dX11_letIn_136 : decode cX11_letIn 136 = .ok (.goto 4, 3) := by decide +kernel
theorem dX11_letIn_139 : decode cX11_letIn 139 = .ok (.iload_n 2, 1) := by decide +kernel
theorem dX11_letIn_140 : decode cX11_letIn 140 = .ok (.istore_n 2, 1) := by decide +kernel
theorem dX11_letIn_141 : decode cX11_letIn 141 = .ok (.iinc 3 1, 3) := by decide +kernel
theorem dX11_letIn_144 : decode cX11_letIn 144 = .ok (.goto (-123), 3) := by decide +kernel
theorem dX11_letIn_147 : decode cX11_letIn 147 = .ok (.iload_n 2, 1) := by decide +kernel
theorem dX11_letIn_148 : decode cX11_letIn 148 = .ok (.bipush (-9), 2) := by decide +kernel
theorem dX11_letIn_150 : decode cX11_letIn 150 = .ok (.if_icmp .eq 7, 3) := by decide +kernel
theorem dX11_letIn_153 : decode cX11_letIn 153 = .ok (.iload_n 1, 1) := by decide +kernel
theorem dX11_letIn_154 : decode cX11_letIn 154 = .ok (.ifCond .ne 7, 3) := by decide +kernel
theorem dX11_letIn_157 : decode cX11_letIn 157 = .ok (.iload_n 2, 1) := by decide +kernel
theorem dX11_letIn_158 : decode cX11_letIn 158 = .ok (.goto 9, 3) := by decide +kernel
theorem dX11_letIn_161 : decode cX11_letIn 161 = .ok (.aload_n 0, 1) := by decide +kernel
theorem dX11_letIn_162 : decode cX11_letIn 162 = .ok (.iload_n 2, 1) := by decide +kernel
theorem dX11_letIn_163 : decode cX11_letIn 163 = .ok (.iconst 0, 1) := by decide +kernel
theorem dX11_letIn_164 : decode cX11_letIn 164 = .ok (.invokevirtual 166, 3) := by decide +kernel
theorem dX11_letIn_167 : decode cX11_letIn 167 = .ok (.ireturn, 1) := by decide +kernel
theorem dX11_rate_0 : decode cX11_rate 0 = .ok (.aload_n 0, 1) := by decide +kernel
theorem dX11_rate_1 : decode cX11_rate 1 = .ok (.iconst 0, 1) := by decide +kernel
theorem dX11_rate_2 : decode cX11_rate 2 = .ok (.putfield 65, 3) := by decide +kernel
theorem dX11_rate_5 : decode cX11_rate 5 = .ok (.iload_n 1, 1) := by decide +kernel
theorem dX11_rate_6 : decode cX11_rate 6 = .ok (.iconst 0, 1) := by decide +kernel
theorem dX11_rate_7 : decode cX11_rate 7 = .ok (.iconst 5, 1) := by decide +kernel
theorem dX11_rate_8 : decode cX11_rate 8 = .ok (.invokestatic 69, 3) := by decide +kernel
theorem dX11_rate_11 : decode cX11_rate 11 = .ok (.ifCond .eq 11, 3) := by decide +kernel
theorem dX11_rate_14 : decode cX11_rate 14 = .ok (.aload_n 0, 1) := by decide +kernel
theorem dX11_rate_15 : decode cX11_rate 15 = .ok (.iload_n 2, 1) := by decide +kernel
theorem dX11_rate_16 : decode cX11_rate 16 = .ok (.invokevirtual 129, 3) := by decide +kernel
theorem dX11_rate_19 : decode cX11_rate 19 = .ok (.ifCond .ne 6, 3) := by decide +kernel
theorem dX11_rate_22 : decode cX11_rate 22 = .ok (.ldc 169, 2) := by decide +kernel
theorem dX11_rate_24 : decode cX11_rate 24 = .ok (.ireturn, 1) := by decide +kernel
theorem dX11_rate_25 : decode cX11_rate 25 = .ok (.aload_n 0, 1) := by decide +kernel
theorem dX11_rate_26 : decode cX11_rate 26 = .ok (.getfield 19, 3) := by decide +kernel
theorem dX11_rate_29 : decode cX11_rate 29 = .ok (.iload_n 2, 1) := by decide +kernel
theorem dX11_rate_30 : decode cX11_rate 30 = .ok (.iaload, 1) := by decide +kernel
theorem dX11_rate_31 : decode cX11_rate 31 = .ok (.aload_n 0, 1) := by decide +kernel
theorem dX11_rate_32 : decode cX11_rate 32 = .ok (.getfield 28, 3) := by decide +kernel
theorem dX11_rate_35 : decode cX11_rate 35 = .ok (.bipush 6, 2) := by decide +kernel
theorem dX11_rate_37 : decode cX11_rate 37 = .ok (.iload_n 2, 1) := by decide +kernel
theorem dX11_rate_38 : decode cX11_rate 38 = .ok (.iadd, 1) := by decide +kernel
theorem dX11_rate_39 : decode cX11_rate 39 = .ok (.iaload, 1) := by decide +kernel
theorem dX11_rate_40 : decode cX11_rate 40 = .ok (.iadd, 1) := by decide +kernel
theorem dX11_rate_41 : decode cX11_rate 41 = .ok (.istore_n 3, 1) := by decide +kernel
theorem dX11_rate_42 : decode cX11_rate 42 = .ok (.aload_n 0, 1) := by decide +kernel
theorem dX11_rate_43 : decode cX11_rate 43 = .ok (.getfield 19, 3) := by decide +kernel
theorem dX11_rate_46 : decode cX11_rate 46 = .ok (.iload_n 2, 1) := by decide +kernel
theorem dX11_rate_47 : decode cX11_rate 47 = .ok (.iaload, 1) := by decide +kernel
theorem dX11_rate_48 : decode cX11_rate 48 = .ok (.aload_n 0, 1) := by decide +kernel
theorem dX11_rate_49 : decode cX11_rate 49 = .ok (.getfield 22, 3) := by decide +kernel
theorem dX11_rate_52 : decode cX11_rate 52 = .ok (.iload_n 2, 1) := by decide +kernel
theorem dX11_rate_53 : decode cX11_rate 53 = .ok (.iaload, 1) := by decide +kernel
theorem dX11_rate_54 : decode cX11_rate 54 = .ok (.invokestatic 152, 3) := by decide +kernel
theorem dX11_rate_57 : decode cX11_rate 57 = .ok (.isub, 1) := by decide +kernel
theorem dX11_rate_58 : decode cX11_rate 58 = .ok (.istore 4, 2) := by decide +kernel
theorem dX11_rate_60 : decode cX11_rate 60 = .ok (.aload_n 0, 1) := by decide +kernel
theorem dX11_rate_61 : decode cX11_rate 61 = .ok (.dup, 1) := by decide +kernel
theorem dX11_rate_62 : decode cX11_rate 62 = .ok (.getfield 170, 3) := by decide +kernel
theorem dX11_rate_65 : decode cX11_rate 65 = .ok (.iload_n 1, 1) := by decide +kernel
theorem dX11_rate_66 : decode cX11_rate 66 = .ok (.ifCond .ne 7, 3) := by decide +kernel
theorem dX11_rate_69 : decode cX11_rate 69 = .ok (.lconst 1, 1) := by decide +kernel
theorem dX11_rate_70 : decode cX11_rate 70 = .ok (.goto 50, 3) := by decide +kernel
theorem dX11_rate_73 : decode cX11_rate 73 = .ok (.iload_n 1, 1) := by decide +kernel
theorem dX11_rate_74 : decode cX11_rate 74 = .ok (.iconst 1, 1) := by decide +kernel
theorem dX11_rate_75 : decode cX11_rate 75 = .ok (.if_icmp .ne 9, 3) := by decide +kernel
theorem dX11_rate_78 : decode cX11_rate 78 = .ok (.ldc2_w 174, 3) := by decide +kernel
theorem dX11_rate_81 : decode cX11_rate 81 = .ok (.goto 39, 3) := by decide +kernel
theorem dX11_rate_84 : decode cX11_rate 84 = .ok (.iload_n 1, 1) := by decide +kernel
theorem dX11_rate_85 : decode cX11_rate 85 = .ok (.iconst 2, 1) := by decide +kernel
theorem dX11_rate_86 : decode cX11_rate 86 = .ok (.if_icmp .ne 9, 3) := by decide +kernel
theorem dX11_rate_89 : decode cX11_rate 89 = .ok (.ldc2_w 176, 3) := by decide +kernel
theorem dX11_rate_92 : decode cX11_rate 92 = .ok (.goto 28, 3) := by decide +kernel
theorem dX11_rate_95 : decode cX11_rate 95 = .ok (.iload_n 1, 1) := by decide +kernel
theorem dX11_rate_96 : decode cX11_rate 96 = .ok (.iconst 3, 1) := by decide +kernel
theorem dX11_rate_97 : decode cX11_rate 97 = .ok (.if_icmp .ne 9, 3) := by decide +kernel
theorem dX11_rate_100 : decode cX11_rate 100 = .ok (.ldc2_w 178, 3) := by decide +kernel
theorem dX11_rate_103 : decode cX11_rate 103 = .ok (.goto 17, 3) := by decide +kernel
theorem dX11_rate_106 : decode cX11_rate 106 = .ok (.iload_n 1, 1) := by decide +kernel
theorem dX11_rate_107 : decode cX11_rate 107 = .ok (.iconst 4, 1) := by decide +kernel
theorem dX11_rate_108 : decode cX11_rate 108 = .ok (.if_icmp .ne 9, 3) := by decide +kernel
theorem dX11_rate_111 : decode cX11_rate 111 = .ok (.ldc2_w 180, 3) := by decide +kernel
theorem dX11_rate_114 : decode cX11_rate 114 = .ok (.goto 6, 3) := by decide +kernel
theorem dX11_rate_117 : decode cX11_rate 117 = .ok (.ldc2_w 182, 3) := by decide +kernel
theorem dX11_rate_120 : decode cX11_rate 120 = .ok (.ladd, 1) := by decide +kernel
theorem dX11_rate_121 : decode cX11_rate 121 = .ok (.putfield 170, 3) := by decide +kernel
theorem dX11_rate_124 : decode cX11_rate 124 = .ok (.iload_n 1, 1) := by decide +kernel
theorem dX11_rate_125 : decode cX11_rate 125 = .ok (.ifCond .ne 12, 3) := by decide +kernel
theorem dX11_rate_128 : decode cX11_rate 128 = .ok (.aload_n 0, 1) := by decide +kernel
theorem dX11_rate_129 : decode cX11_rate 129 = .ok (.getfield 19, 3) := by decide +kernel
theorem dX11_rate_132 : decode cX11_rate 132 = .ok (.iload_n 2, 1) := by decide +kernel
theorem dX11_rate_133 : decode cX11_rate 133 = .ok (.iaload, 1) := by decide +kernel
theorem dX11_rate_134 : decode cX11_rate 134 = .ok (.goto 59, 3) := by decide +kernel
theorem dX11_rate_137 : decode cX11_rate 137 = .ok (.iload_n 1, 1) := by decide +kernel
theorem dX11_rate_138 : decode cX11_rate 138 = .ok (.iconst 1, 1) := by decide +kernel
theorem dX11_rate_139 : decode cX11_rate 139 = .ok (.if_icmp .ne 7, 3) := by decide +kernel
theorem dX11_rate_142 : decode cX11_rate 142 = .ok (.iload_n 3, 1) := by decide +kernel
theorem dX11_rate_143 : decode cX11_rate 143 = .ok (.goto 50, 3) := by decide +kernel
theorem dX11_rate_146 : decode cX11_rate 146 = .ok (.iload_n 1, 1) := by decide +kernel
theorem dX11_rate_147 : decode cX11_rate 147 = .ok (.iconst 2, 1) := by decide +kernel
theorem dX11_rate_148 : decode cX11_rate 148 = .ok (.if_icmp .ne 8, 3) := by decide +kernel
theorem dX11_rate_151 : decode cX11_rate 151 = .ok (.iload 4, 2) := by decide +kernel
theorem dX11_rate_153 : decode cX11_rate 153 = .ok (.goto 40, 3) := by decide +kernel
theorem dX11_rate_156 : decode cX11_rate 156 = .ok (.iload_n 1, 1) := by decide +kernel
theorem dX11_rate_157 : decode cX11_rate 157 = .ok (.iconst 3, 1) := by decide +kernel
theorem dX11_rate_158 : decode cX11_rate 158 = .ok (.if_icmp .ne 9, 3) := by decide +kernel
theorem dX11_rate_161 : decode cX11_rate 161 = .ok (.iconst 2, 1) := by decide +kernel
theorem dX11_rate_162 : decode cX11_rate 162 = .ok (.iload_n 3, 1) := by decide +kernel
theorem dX11_rate_163 : decode cX11_rate 163 = .ok (.imul, 1) := by decide +kernel
theorem dX11_rate_164 : decode cX11_rate 164 = .ok (.goto 29, 3) := by decide +kernel
theorem dX11_rate_167 : decode cX11_rate 167 = .ok (.iload_n 1, 1) := by decide +kernel
theorem dX11_rate_168 : decode cX11_rate 168 = .ok (.iconst 4, 1) := by decide +kernel
theorem dX11_rate_169 : decode cX11_rate 169 = .ok (.if_icmp .ne 10, 3) := by decide +kernel
theorem dX11_rate_172 : decode cX11_rate 172 = .ok (.iload 4, 2) := by decide +kernel
theorem dX11_rate_174 : decode cX11_rate 174 = .ok (.iload_n 2, 1) := by decide +kernel
theorem dX11_rate_175 : decode cX11_rate 175 = .ok (.iadd, 1) := by decide +kernel
theorem dX11_rate_176 : decode cX11_rate 176 = .ok (.goto 17, 3) := by decide +kernel
theorem dX11_rate_179 : decode cX11_rate 179 = .ok (.aload_n 0, 1) := by decide +kernel
theorem dX11_rate_180 : decode cX11_rate 180 = .ok (.getfield 19, 3) := by decide +kernel
theorem dX11_rate_183 : decode cX11_rate 183 = .ok (.iload_n 2, 1) := by decide +kernel
theorem dX11_rate_184 : decode cX11_rate 184 = .ok (.iaload, 1) := by decide +kernel
theorem dX11_rate_185 : decode cX11_rate 185 = .ok (.aload_n 0, 1) := by decide +kernel
theorem dX11_rate_186 : decode cX11_rate 186 = .ok (.getfield 28, 3) := by decide +kernel
theorem dX11_rate_189 : decode cX11_rate 189 = .ok (.bipush 19, 2) := by decide +kernel
theorem dX11_rate_191 : decode cX11_rate 191 = .ok (.iaload, 1) := by decide +kernel
theorem dX11_rate_192 : decode cX11_rate 192 = .ok (.iadd, 1) := by decide +kernel
theorem dX11_rate_193 : decode cX11_rate 193 = .ok (.ireturn, 1) := by decide +kernel
theorem dX11_keep_0 : decode cX11_keep 0 = .ok (.aload_n 0, 1) := by decide +kernel
theorem dX11_keep_1 : decode cX11_keep 1 = .ok (.iconst 0, 1) := by decide +kernel
theorem dX11_keep_2 : decode cX11_keep 2 = .ok (.putfield 65, 3) := by decide +kernel
theorem dX11_keep_5 : decode cX11_keep 5 = .ok (.iload_n 1, 1) := by decide +kernel
theorem dX11_keep_6 : decode cX11_keep 6 = .ok (.iconst 0, 1) := by decide +kernel
theorem dX11_keep_7 : decode cX11_keep 7 = .ok (.iconst 1, 1) := by decide +kernel
theorem dX11_keep_8 : decode cX11_keep 8 = .ok (.invokestatic 69, 3) := by decide +kernel
theorem dX11_keep_11 : decode cX11_keep 11 = .ok (.ifCond .ne 5, 3) := by decide +kernel
theorem dX11_keep_14 : decode cX11_keep 14 = .ok (.iconst (-1), 1) := by decide +kernel
theorem dX11_keep_15 : decode cX11_keep 15 = .ok (.ireturn, 1) := by decide +kernel
theorem dX11_keep_16 : decode cX11_keep 16 = .ok (.iconst 0, 1) := by decide +kernel
theorem dX11_keep_17 : decode cX11_keep 17 = .ok (.istore_n 2, 1) := by decide +kernel
theorem dX11_keep_18 : decode cX11_keep 18 = .ok (.iload_n 2, 1) := by decide +kernel
theorem dX11_keep_19 : decode cX11_keep 19 = .ok (.bipush 20, 2) := by decide +kernel
theorem dX11_keep_21 : decode cX11_keep 21 = .ok (.if_icmp .ge 26, 3) := by decide +kernel
theorem dX11_keep_24 : decode cX11_keep 24 = .ok (.aload_n 0, 1) := by decide +kernel
theorem dX11_keep_25 : decode cX11_keep 25 = .ok (.getfield 31, 3) := by decide +kernel
theorem dX11_keep_28 : decode cX11_keep 28 = .ok (.bipush 20, 2) := by decide +kernel
theorem dX11_keep_30 : decode cX11_keep 30 = .ok (.iload_n 1, 1) := by decide +kernel
theorem dX11_keep_31 : decode cX11_keep 31 = .ok (.imul, 1) := by decide +kernel
theorem dX11_keep_32 : decode cX11_keep 32 = .ok (.iload_n 2, 1) := by decide +kernel
theorem dX11_keep_33 : decode cX11_keep 33 = .ok (.iadd, 1) := by decide +kernel
theorem dX11_keep_34 : decode cX11_keep 34 = .ok (.aload_n 0, 1) := by decide +kernel
theorem dX11_keep_35 : decode cX11_keep 35 = .ok (.getfield 28, 3) := by decide +kernel
theorem dX11_keep_38 : decode cX11_keep 38 = .ok (.iload_n 2, 1) := by decide +kernel
theorem dX11_keep_39 : decode cX11_keep 39 = .ok (.iaload, 1) := by decide +kernel
theorem dX11_keep_40 : decode cX11_keep 40 = .ok (.iastore, 1) := by decide +kernel
theorem dX11_keep_41 : decode cX11_keep 41 = .ok (.iinc 2 1, 3) := by decide +kernel
theorem dX11_keep_44 : decode cX11_keep 44 = .ok (.goto (-26), 3) := by decide +kernel
theorem dX11_keep_47 : decode cX11_keep 47 = .ok (.aload_n 0, 1) := by decide +kernel
theorem dX11_keep_48 : decode cX11_keep 48 = .ok (.getfield 34, 3) := by decide +kernel
theorem dX11_keep_51 : decode cX11_keep 51 = .ok (.iload_n 1, 1) := by decide +kernel
theorem dX11_keep_52 : decode cX11_keep 52 = .ok (.iconst 1, 1) := by decide +kernel
theorem dX11_keep_53 : decode cX11_keep 53 = .ok (.bastore, 1) := by decide +kernel
theorem dX11_keep_54 : decode cX11_keep 54 = .ok (.aload_n 0, 1) := by decide +kernel
theorem dX11_keep_55 : decode cX11_keep 55 = .ok (.getfield 28, 3) := by decide +kernel
theorem dX11_keep_58 : decode cX11_keep 58 = .ok (.bipush 19, 2) := by decide +kernel
theorem dX11_keep_60 : decode cX11_keep 60 = .ok (.iaload, 1) := by decide +kernel
theorem dX11_keep_61 : decode cX11_keep 61 = .ok (.ireturn, 1) := by decide +kernel
theorem dX11_back_0 : decode cX11_back 0 = .ok (.aload_n 0, 1) := by decide +kernel
theorem dX11_back_1 : decode cX11_back 1 = .ok (.iconst 0, 1) := by decide +kernel
theorem dX11_back_2 : decode cX11_back 2 = .ok (.putfield 65, 3) := by decide +kernel
theorem dX11_back_5 : decode cX11_back 5 = .ok (.iload_n 1, 1) := by decide +kernel
theorem dX11_back_6 : decode cX11_back 6 = .ok (.iconst 0, 1) := by decide +kernel
theorem dX11_back_7 : decode cX11_back 7 = .ok (.iconst 1, 1) := by decide +kernel
theorem dX11_back_8 : decode cX11_back 8 = .ok (.invokestatic 69, 3) := by decide +kernel
theorem dX11_back_11 : decode cX11_back 11 = .ok (.ifCond .ne 5, 3) := by decide +kernel
theorem dX11_back_14 : decode cX11_back 14 = .ok (.iconst (-1), 1) := by decide +kernel
theorem dX11_back_15 : decode cX11_back 15 = .ok (.ireturn, 1) := by decide +kernel
theorem dX11_back_16 : decode cX11_back 16 = .ok (.aload_n 0, 1) := by decide +kernel
theorem dX11_back_17 : decode cX11_back 17 = .ok (.getfield 34, 3) := by decide +kernel
theorem dX11_back_20 : decode cX11_back 20 = .ok (.iload_n 1, 1) := by decide +kernel
theorem dX11_back_21 : decode cX11_back 21 = .ok (.baload, 1) := by decide +kernel
theorem dX11_back_22 : decode cX11_back 22 = .ok (.ifCond .ne 6, 3) := by decide +kernel
theorem dX11_back_25 : decode cX11_back 25 = .ok (.bipush (-2), 2) := by decide +kernel
theorem dX11_back_27 : decode cX11_back 27 = .ok (.ireturn, 1) := by decide +kernel
theorem dX11_back_28 : decode cX11_back 28 = .ok (.iconst 0, 1) := by decide +kernel
theorem dX11_back_29 : decode cX11_back 29 = .ok (.istore_n 2, 1) := by decide +kernel
theorem dX11_back_30 : decode cX11_back 30 = .ok (.iload_n 2, 1) := by decide +kernel
theorem dX11_back_31 : decode cX11_back 31 = .ok (.bipush 20, 2) := by decide +kernel
theorem dX11_back_33 : decode cX11_back 33 = .ok (.if_icmp .ge 26, 3) := by decide +kernel
theorem dX11_back_36 : decode cX11_back 36 = .ok (.aload_n 0, 1) := by decide +kernel
theorem dX11_back_37 : decode cX11_back 37 = .ok (.getfield 28, 3) := by decide +kernel
theorem dX11_back_40 : decode cX11_back 40 = .ok (.iload_n 2, 1) := by decide +kernel
theorem dX11_back_41 : decode cX11_back 41 = .ok (.aload_n 0, 1) := by decide +kernel
theorem dX11_back_42 : decode cX11_back 42 = .ok (.getfield 31, 3) := by decide +kernel
theorem dX11_back_45 : decode cX11_back 45 = .ok (.bipush 20, 2) := by decide +kernel
theorem dX11_back_47 : decode cX11_back 47 = .ok (.iload_n 1, 1) := by decide +kernel
theorem dX11_back_48 : decode cX11_back 48 = .ok (.imul, 1) := by decide +kernel
theorem dX11_back_49 : decode cX11_back 49 = .ok (.iload_n 2, 1) := by decide +kernel
theorem dX11_back_50 : decode cX11_back 50 = .ok (.iadd, 1) := by decide +kernel
theorem dX11_back_51 : decode cX11_back 51 = .ok (.iaload, 1) := by decide +kernel
theorem dX11_back_52 : decode cX11_back 52 = .ok (.iastore, 1) := by decide +kernel
theorem dX11_back_53 : decode cX11_back 53 = .ok (.iinc 2 1, 3) := by decide +kernel
theorem dX11_back_56 : decode cX11_back 56 = .ok (.goto (-26), 3) := by decide +kernel
theorem dX11_back_59 : decode cX11_back 59 = .ok (.aload_n 0, 1) := by decide +kernel
theorem dX11_back_60 : decode cX11_back 60 = .ok (.iconst 0, 1) := by decide +kernel
theorem dX11_back_61 : decode cX11_back 61 = .ok (.putfield 126, 3) := by decide +kernel
theorem dX11_back_64 : decode cX11_back 64 = .ok (.aload_n 0, 1) := by decide +kernel
theorem dX11_back_65 : decode cX11_back 65 = .ok (.getfield 28, 3) := by decide +kernel
theorem dX11_back_68 : decode cX11_back 68 = .ok (.bipush 19, 2) := by decide +kernel
theorem dX11_back_70 : decode cX11_back 70 = .ok (.iaload, 1) := by decide +kernel
theorem dX11_back_71 : decode cX11_back 71 = .ok (.ireturn, 1) := by decide +kernel
theorem dX11_count_0 : decode cX11_count 0 = .ok (.aload_n 0, 1) := by decide +kernel
theorem dX11_count_1 : decode cX11_count 1 = .ok (.iconst 0, 1) := by decide +kernel
theorem dX11_count_2 : decode cX11_count 2 = .ok (.putfield 65, 3) := by decide +kernel
theorem dX11_count_5 : decode cX11_count 5 = .ok (.iload_n 1, 1) := by decide +kernel
theorem dX11_count_6 : decode cX11_count 6 = .ok (.iconst 0, 1) := by decide +kernel
theorem dX11_count_7 : decode cX11_count 7 = .ok (.iconst 3, 1) := by decide +kernel
theorem dX11_count_8 : decode cX11_count 8 = .ok (.invokestatic 69, 3) := by decide +kernel
theorem dX11_count_11 : decode cX11_count 11 = .ok (.ifCond .eq 12, 3) := by decide +kernel
theorem dX11_count_14 : decode cX11_count 14 = .ok (.aload_n 0, 1) := by decide +kernel
theorem dX11_count_15 : decode cX11_count 15 = .ok (.getfield 13, 3) := by decide +kernel
theorem dX11_count_18 : decode cX11_count 18 = .ok (.iload_n 1, 1) := by decide +kernel
theorem dX11_count_19 : decode cX11_count 19 = .ok (.iaload, 1) := by decide +kernel
theorem dX11_count_20 : decode cX11_count 20 = .ok (.goto 41, 3) := by decide +kernel
theorem dX11_count_23 : decode cX11_count 23 = .ok (.iload_n 1, 1) := by decide +kernel
theorem dX11_count_24 : decode cX11_count 24 = .ok (.iconst 4, 1) := by decide +kernel
theorem dX11_count_25 : decode cX11_count 25 = .ok (.if_icmp .ne 10, 3) := by decide +kernel
theorem dX11_count_28 : decode cX11_count 28 = .ok (.aload_n 0, 1) := by decide +kernel
theorem dX11_count_29 : decode cX11_count 29 = .ok (.getfield 120, 3) := by decide +kernel
theorem dX11_count_32 : decode cX11_count 32 = .ok (.goto 29, 3) := by decide +kernel
theorem dX11_count_35 : decode cX11_count 35 = .ok (.iload_n 1, 1) := by decide +kernel
theorem dX11_count_36 : decode cX11_count 36 = .ok (.iconst 5, 1) := by decide +kernel
theorem dX11_count_37 : decode cX11_count 37 = .ok (.if_icmp .ne 10, 3) := by decide +kernel
theorem dX11_count_40 : decode cX11_count 40 = .ok (.aload_n 0, 1) := by decide +kernel
theorem dX11_count_41 : decode cX11_count 41 = .ok (.getfield 123, 3) := by decide +kernel
theorem dX11_count_44 : decode cX11_count 44 = .ok (.goto 17, 3) := by decide +kernel
theorem dX11_count_47 : decode cX11_count 47 = .ok (.iload_n 1, 1) := by decide +kernel
theorem dX11_count_48 : decode cX11_count 48 = .ok (.bipush 6, 2) := by decide +kernel
theorem dX11_count_50 : decode cX11_count 50 = .ok (.if_icmp .ne 10, 3) := by decide +kernel
theorem dX11_count_53 : decode cX11_count 53 = .ok (.aload_n 0, 1) := by decide +kernel
theorem dX11_count_54 : decode cX11_count 54 = .ok (.getfield 73, 3) := by decide +kernel
theorem dX11_count_57 : decode cX11_count 57 = .ok (.goto 4, 3) := by decide +kernel
theorem dX11_count_60 : decode cX11_count 60 = .ok (.iconst (-1), 1) := by decide +kernel
theorem dX11_count_61 : decode cX11_count 61 = .ok (.ireturn, 1) := by decide +kernel
theorem dX11_trace_0 : decode cX11_trace 0 = .ok (.aload_n 0, 1) := by decide +kernel
theorem dX11_trace_1 : decode cX11_trace 1 = .ok (.iconst 0, 1) := by decide +kernel
theorem dX11_trace_2 : decode cX11_trace 2 = .ok (.putfield 65, 3) := by decide +kernel
theorem dX11_trace_5 : decode cX11_trace 5 = .ok (.aload_n 0, 1) := by decide +kernel
theorem dX11_trace_6 : decode cX11_trace 6 = .ok (.getfield 170, 3) := by decide +kernel
theorem dX11_trace_9 : decode cX11_trace 9 = .ok (.lreturn, 1) := by decide +kernel
theorem dJ6_bitCount_0f7a4_0 : decode cJ6_bitCount_0f7a4 0 = .ok (.iload_n 0, 1) := by decide +kernel
theorem dJ6_bitCount_0f7a4_1 : decode cJ6_bitCount_0f7a4 1 = .ok (.iload_n 0, 1) := by decide +kernel
theorem dJ6_bitCount_0f7a4_2 : decode cJ6_bitCount_0f7a4 2 = .ok (.iconst 1, 1) := by decide +kernel
theorem dJ6_bitCount_0f7a4_3 : decode cJ6_bitCount_0f7a4 3 = .ok (.iushr, 1) := by decide +kernel
theorem dJ6_bitCount_0f7a4_4 : decode cJ6_bitCount_0f7a4 4 = .ok (.ldc_w 265, 3) := by decide +kernel
theorem dJ6_bitCount_0f7a4_7 : decode cJ6_bitCount_0f7a4 7 = .ok (.iand, 1) := by decide +kernel
theorem dJ6_bitCount_0f7a4_8 : decode cJ6_bitCount_0f7a4 8 = .ok (.isub, 1) := by decide +kernel
theorem dJ6_bitCount_0f7a4_9 : decode cJ6_bitCount_0f7a4 9 = .ok (.istore_n 0, 1) := by decide +kernel
theorem dJ6_bitCount_0f7a4_10 : decode cJ6_bitCount_0f7a4 10 = .ok (.iload_n 0, 1) := by decide +kernel
theorem dJ6_bitCount_0f7a4_11 : decode cJ6_bitCount_0f7a4 11 = .ok (.ldc_w 266, 3) := by decide +kernel
theorem dJ6_bitCount_0f7a4_14 : decode cJ6_bitCount_0f7a4 14 = .ok (.iand, 1) := by decide +kernel
theorem dJ6_bitCount_0f7a4_15 : decode cJ6_bitCount_0f7a4 15 = .ok (.iload_n 0, 1) := by decide +kernel
theorem dJ6_bitCount_0f7a4_16 : decode cJ6_bitCount_0f7a4 16 = .ok (.iconst 2, 1) := by decide +kernel
theorem dJ6_bitCount_0f7a4_17 : decode cJ6_bitCount_0f7a4 17 = .ok (.iushr, 1) := by decide +kernel
theorem dJ6_bitCount_0f7a4_18 : decode cJ6_bitCount_0f7a4 18 = .ok (.ldc_w 266, 3) := by decide +kernel
theorem dJ6_bitCount_0f7a4_21 : decode cJ6_bitCount_0f7a4 21 = .ok (.iand, 1) := by decide +kernel
theorem dJ6_bitCount_0f7a4_22 : decode cJ6_bitCount_0f7a4 22 = .ok (.iadd, 1) := by decide +kernel
theorem dJ6_bitCount_0f7a4_23 : decode cJ6_bitCount_0f7a4 23 = .ok (.istore_n 0, 1) := by decide +kernel
theorem dJ6_bitCount_0f7a4_24 : decode cJ6_bitCount_0f7a4 24 = .ok (.iload_n 0, 1) := by decide +kernel
theorem dJ6_bitCount_0f7a4_25 : decode cJ6_bitCount_0f7a4 25 = .ok (.iload_n 0, 1) := by decide +kernel
theorem dJ6_bitCount_0f7a4_26 : decode cJ6_bitCount_0f7a4 26 = .ok (.iconst 4, 1) := by decide +kernel
theorem dJ6_bitCount_0f7a4_27 : decode cJ6_bitCount_0f7a4 27 = .ok (.iushr, 1) := by decide +kernel
theorem dJ6_bitCount_0f7a4_28 : decode cJ6_bitCount_0f7a4 28 = .ok (.iadd, 1) := by decide +kernel
theorem dJ6_bitCount_0f7a4_29 : decode cJ6_bitCount_0f7a4 29 = .ok (.ldc_w 267, 3) := by decide +kernel
theorem dJ6_bitCount_0f7a4_32 : decode cJ6_bitCount_0f7a4 32 = .ok (.iand, 1) := by decide +kernel
theorem dJ6_bitCount_0f7a4_33 : decode cJ6_bitCount_0f7a4 33 = .ok (.istore_n 0, 1) := by decide +kernel
theorem dJ6_bitCount_0f7a4_34 : decode cJ6_bitCount_0f7a4 34 = .ok (.iload_n 0, 1) := by decide +kernel
theorem dJ6_bitCount_0f7a4_35 : decode cJ6_bitCount_0f7a4 35 = .ok (.iload_n 0, 1) := by decide +kernel
theorem dJ6_bitCount_0f7a4_36 : decode cJ6_bitCount_0f7a4 36 = .ok (.bipush 8, 2) := by decide +kernel
theorem dJ6_bitCount_0f7a4_38 : decode cJ6_bitCount_0f7a4 38 = .ok (.iushr, 1) := by decide +kernel
theorem dJ6_bitCount_0f7a4_39 : decode cJ6_bitCount_0f7a4 39 = .ok (.iadd, 1) := by decide +kernel
theorem dJ6_bitCount_0f7a4_40 : decode cJ6_bitCount_0f7a4 40 = .ok (.istore_n 0, 1) := by decide +kernel
theorem dJ6_bitCount_0f7a4_41 : decode cJ6_bitCount_0f7a4 41 = .ok (.iload_n 0, 1) := by decide +kernel
theorem dJ6_bitCount_0f7a4_42 : decode cJ6_bitCount_0f7a4 42 = .ok (.iload_n 0, 1) := by decide +kernel
theorem dJ6_bitCount_0f7a4_43 : decode cJ6_bitCount_0f7a4 43 = .ok (.bipush 16, 2) := by decide +kernel
theorem dJ6_bitCount_0f7a4_45 : decode cJ6_bitCount_0f7a4 45 = .ok (.iushr, 1) := by decide +kernel
theorem dJ6_bitCount_0f7a4_46 : decode cJ6_bitCount_0f7a4 46 = .ok (.iadd, 1) := by decide +kernel
theorem dJ6_bitCount_0f7a4_47 : decode cJ6_bitCount_0f7a4 47 = .ok (.istore_n 0, 1) := by decide +kernel
theorem dJ6_bitCount_0f7a4_48 : decode cJ6_bitCount_0f7a4 48 = .ok (.iload_n 0, 1) := by decide +kernel
theorem dJ6_bitCount_0f7a4_49 : decode cJ6_bitCount_0f7a4 49 = .ok (.bipush 63, 2) := by decide +kernel
theorem dJ6_bitCount_0f7a4_51 : decode cJ6_bitCount_0f7a4 51 = .ok (.iand, 1) := by decide +kernel
theorem dJ6_bitCount_0f7a4_52 : decode cJ6_bitCount_0f7a4 52 = .ok (.ireturn, 1) := by decide +kernel
theorem dJ9_max_7cf53_0 : decode cJ9_max_7cf53 0 = .ok (.iload_n 0, 1) := by decide +kernel
theorem dJ9_max_7cf53_1 : decode cJ9_max_7cf53 1 = .ok (.iload_n 1, 1) := by decide +kernel
theorem dJ9_max_7cf53_2 : decode cJ9_max_7cf53 2 = .ok (.if_icmp .lt 7, 3) := by decide +kernel
theorem dJ9_max_7cf53_5 : decode cJ9_max_7cf53 5 = .ok (.iload_n 0, 1) := by decide +kernel
theorem dJ9_max_7cf53_6 : decode cJ9_max_7cf53 6 = .ok (.goto 4, 3) := by decide +kernel
theorem dJ9_max_7cf53_9 : decode cJ9_max_7cf53 9 = .ok (.iload_n 1, 1) := by decide +kernel
theorem dJ9_max_7cf53_10 : decode cJ9_max_7cf53 10 = .ok (.ireturn, 1) := by decide +kernel
theorem dJ9_min_7cf53_0 : decode cJ9_min_7cf53 0 = .ok (.iload_n 0, 1) := by decide +kernel
theorem dJ9_min_7cf53_1 : decode cJ9_min_7cf53 1 = .ok (.iload_n 1, 1) := by decide +kernel
theorem dJ9_min_7cf53_2 : decode cJ9_min_7cf53 2 = .ok (.if_icmp .gt 7, 3) := by decide +kernel
theorem dJ9_min_7cf53_5 : decode cJ9_min_7cf53 5 = .ok (.iload_n 0, 1) := by decide +kernel
theorem dJ9_min_7cf53_6 : decode cJ9_min_7cf53 6 = .ok (.goto 4, 3) := by decide +kernel
theorem dJ9_min_7cf53_9 : decode cJ9_min_7cf53 9 = .ok (.iload_n 1, 1) := by decide +kernel
theorem dJ9_min_7cf53_10 : decode cJ9_min_7cf53 10 = .ok (.ireturn, 1) := by decide +kernel
theorem dL_law_0 : decode cL_law 0 = .ok (.new 7, 3) := by decide +kernel
theorem dL_law_3 : decode cL_law 3 = .ok (.dup, 1) := by decide +kernel
theorem dL_law_4 : decode cL_law 4 = .ok (.invokespecial 9, 3) := by decide +kernel
theorem dL_law_7 : decode cL_law 7 = .ok (.astore_n 1, 1) := by decide +kernel
theorem dL_law_8 : decode cL_law 8 = .ok (.new 10, 3) := by decide +kernel
theorem dL_law_11 : decode cL_law 11 = .ok (.dup, 1) := by decide +kernel
theorem dL_law_12 : decode cL_law 12 = .ok (.invokespecial 12, 3) := by decide +kernel
theorem dL_law_15 : decode cL_law 15 = .ok (.astore_n 2, 1) := by decide +kernel
theorem dL_law_16 : decode cL_law 16 = .ok (.iconst 0, 1) := by decide +kernel
theorem dL_law_17 : decode cL_law 17 = .ok (.istore_n 3, 1) := by decide +kernel
theorem dL_law_18 : decode cL_law 18 = .ok (.iload_n 3, 1) := by decide +kernel
theorem dL_law_19 : decode cL_law 19 = .ok (.aload_n 0, 1) := by decide +kernel
theorem dL_law_20 : decode cL_law 20 = .ok (.arraylength, 1) := by decide +kernel
theorem dL_law_21 : decode cL_law 21 = .ok (.iconst 4, 1) := by decide +kernel
theorem dL_law_22 : decode cL_law 22 = .ok (.isub, 1) := by decide +kernel
theorem dL_law_23 : decode cL_law 23 = .ok (.if_icmp .gt 747, 3) := by decide +kernel
theorem dL_law_26 : decode cL_law 26 = .ok (.aload_n 0, 1) := by decide +kernel
theorem dL_law_27 : decode cL_law 27 = .ok (.iload_n 3, 1) := by decide +kernel
theorem dL_law_28 : decode cL_law 28 = .ok (.iaload, 1) := by decide +kernel
theorem dL_law_29 : decode cL_law 29 = .ok (.bipush 31, 2) := by decide +kernel
theorem dL_law_31 : decode cL_law 31 = .ok (.iand, 1) := by decide +kernel
theorem dL_law_32 : decode cL_law 32 = .ok (.tableswitch 732 0 24 #[116, 139, 152, 165, 198, 231, 254, 287, 320, 353, 366, 399, 422, 465, 498, 521, 534, 567, 580, 593, 616, 649, 672, 695, 718], 116) := by decide +kernel
theorem dL_law_148 : decode cL_law 148 = .ok (.aload_n 1, 1) := by decide +kernel
theorem dL_law_149 : decode cL_law 149 = .ok (.aload_n 0, 1) := by decide +kernel
theorem dL_law_150 : decode cL_law 150 = .ok (.iload_n 3, 1) := by decide +kernel
theorem dL_law_151 : decode cL_law 151 = .ok (.iconst 1, 1) := by decide +kernel
theorem dL_law_152 : decode cL_law 152 = .ok (.iadd, 1) := by decide +kernel
theorem dL_law_153 : decode cL_law 153 = .ok (.iaload, 1) := by decide +kernel
theorem dL_law_154 : decode cL_law 154 = .ok (.invokevirtual 13, 3) := by decide +kernel
theorem dL_law_157 : decode cL_law 157 = .ok (.aload_n 2, 1) := by decide +kernel
theorem dL_law_158 : decode cL_law 158 = .ok (.aload_n 0, 1) := by decide +kernel
theorem dL_law_159 : decode cL_law 159 = .ok (.iload_n 3, 1) := by decide +kernel
theorem dL_law_160 : decode cL_law 160 = .ok (.iconst 1, 1) := by decide +kernel
theorem dL_law_161 : decode cL_law 161 = .ok (.iadd, 1) := by decide +kernel
theorem dL_law_162 : decode cL_law 162 = .ok (.iaload, 1) := by decide +kernel
theorem dL_law_163 : decode cL_law 163 = .ok (.invokevirtual 17, 3) := by decide +kernel
theorem dL_law_166 : decode cL_law 166 = .ok (.if_icmp .eq 598, 3) := by decide +kernel
theorem dL_law_169 : decode cL_law 169 = .ok (.iconst 0, 1) := by decide +kernel
theorem dL_law_170 : decode cL_law 170 = .ok (.ireturn, 1) := by decide +kernel
theorem dL_law_171 : decode cL_law 171 = .ok (.aload_n 1, 1) := by decide +kernel
theorem dL_law_172 : decode cL_law 172 = .ok (.invokevirtual 18, 3) := by decide +kernel
theorem dL_law_175 : decode cL_law 175 = .ok (.aload_n 2, 1) := by decide +kernel
theorem dL_law_176 : decode cL_law 176 = .ok (.invokevirtual 22, 3) := by decide +kernel
theorem dL_law_179 : decode cL_law 179 = .ok (.if_icmp .eq 585, 3) := by decide +kernel
theorem dL_law_182 : decode cL_law 182 = .ok (.iconst 0, 1) := by decide +kernel
theorem dL_law_183 : decode cL_law 183 = .ok (.ireturn, 1) := by decide +kernel
theorem dL_law_184 : decode cL_law 184 = .ok (.aload_n 1, 1) := by decide +kernel
theorem dL_law_185 : decode cL_law 185 = .ok (.invokevirtual 23, 3) := by decide +kernel
theorem dL_law_188 : decode cL_law 188 = .ok (.aload_n 2, 1) := by decide +kernel
theorem dL_law_189 : decode cL_law 189 = .ok (.invokevirtual 26, 3) := by decide +kernel
theorem dL_law_192 : decode cL_law 192 = .ok (.if_icmp .eq 572, 3) := by decide +kernel
theorem dL_law_195 : decode cL_law 195 = .ok (.iconst 0, 1) := by decide +kernel
theorem dL_law_196 : decode cL_law 196 = .ok (.ireturn, 1) := by decide +kernel
theorem dL_law_197 : decode cL_law 197 = .ok (.aload_n 1, 1) := by decide +kernel
theorem dL_law_198 : decode cL_law 198 = .ok (.aload_n 0, 1) := by decide +kernel
theorem dL_law_199 : decode cL_law 199 = .ok (.iload_n 3, 1) := by decide +kernel
theorem dL_law_200 : decode cL_law 200 = .ok (.iconst 1, 1) := by decide +kernel
theorem dL_law_201 : decode cL_law 201 = .ok (.iadd, 1) := by decide +kernel
theorem dL_law_202 : decode cL_law 202 = .ok (.iaload, 1) := by decide +kernel
theorem dL_law_203 : decode cL_law 203 = .ok (.aload_n 0, 1) := by decide +kernel
theorem dL_law_204 : decode cL_law 204 = .ok (.iload_n 3, 1) := by decide +kernel
theorem dL_law_205 : decode cL_law 205 = .ok (.iconst 2, 1) := by decide +kernel
theorem dL_law_206 : decode cL_law 206 = .ok (.iadd, 1) := by decide +kernel
theorem dL_law_207 : decode cL_law 207 = .ok (.iaload, 1) := by decide +kernel
theorem dL_law_208 : decode cL_law 208 = .ok (.invokevirtual 27, 3) := by decide +kernel
theorem dL_law_211 : decode cL_law 211 = .ok (.aload_n 2, 1) := by decide +kernel
theorem dL_law_212 : decode cL_law 212 = .ok (.aload_n 0, 1) := by decide +kernel
theorem dL_law_213 : decode cL_law 213 = .ok (.iload_n 3, 1) := by decide +kernel
theorem dL_law_214 : decode cL_law 214 = .ok (.iconst 1, 1) := by decide +kernel
theorem dL_law_215 : decode cL_law 215 = .ok (.iadd, 1) := by decide +kernel
theorem dL_law_216 : decode cL_law 216 = .ok (.iaload, 1) := by decide +kernel
theorem dL_law_217 : decode cL_law 217 = .ok (.aload_n 0, 1) := by decide +kernel
theorem dL_law_218 : decode cL_law 218 = .ok (.iload_n 3, 1) := by decide +kernel
theorem dL_law_219 : decode cL_law 219 = .ok (.iconst 2, 1) := by decide +kernel
theorem dL_law_220 : decode cL_law 220 = .ok (.iadd, 1) := by decide +kernel
theorem dL_law_221 : decode cL_law 221 = .ok (.iaload, 1) := by decide +kernel
theorem dL_law_222 : decode cL_law 222 = .ok (.invokevirtual 31, 3) := by decide +kernel
theorem dL_law_225 : decode cL_law 225 = .ok (.if_icmp .eq 539, 3) := by decide +kernel
theorem dL_law_228 : decode cL_law 228 = .ok (.iconst 0, 1) := by decide +kernel
theorem dL_law_229 : decode cL_law 229 = .ok (.ireturn, 1) := by decide +kernel
theorem dL_law_230 : decode cL_law 230 = .ok (.aload_n 1, 1) := by decide +kernel
theorem dL_law_231 : decode cL_law 231 = .ok (.aload_n 0, 1) := by decide +kernel
theorem dL_law_232 : decode cL_law 232 = .ok (.iload_n 3, 1) := by decide +kernel
theorem dL_law_233 : decode cL_law 233 = .ok (.iconst 1, 1) := by decide +kernel
theorem dL_law_234 : decode cL_law 234 = .ok (.iadd, 1) := by decide +kernel
theorem dL_law_235 : decode cL_law 235 = .ok (.iaload, 1) := by decide +kernel
theorem dL_law_236 : decode cL_law 236 = .ok (.aload_n 0, 1) := by decide +kernel
theorem dL_law_237 : decode cL_law 237 = .ok (.iload_n 3, 1) := by decide +kernel
theorem dL_law_238 : decode cL_law 238 = .ok (.iconst 2, 1) := by decide +kernel
theorem dL_law_239 : decode cL_law 239 = .ok (.iadd, 1) := by decide +kernel
theorem dL_law_240 : decode cL_law 240 = .ok (.iaload, 1) := by decide +kernel
theorem dL_law_241 : decode cL_law 241 = .ok (.invokevirtual 32, 3) := by decide +kernel
theorem dL_law_244 : decode cL_law 244 = .ok (.aload_n 2, 1) := by decide +kernel
theorem dL_law_245 : decode cL_law 245 = .ok (.aload_n 0, 1) := by decide +kernel
theorem dL_law_246 : decode cL_law 246 = .ok (.iload_n 3, 1) := by decide +kernel
theorem dL_law_247 : decode cL_law 247 = .ok (.iconst 1, 1) := by decide +kernel
theorem dL_law_248 : decode cL_law 248 = .ok (.iadd, 1) := by decide +kernel
theorem dL_law_249 : decode cL_law 249 = .ok (.iaload, 1) := by decide +kernel
theorem dL_law_250 : decode cL_law 250 = .ok (.aload_n 0, 1) := by decide +kernel
theorem dL_law_251 : decode cL_law 251 = .ok (.iload_n 3, 1) := by decide +kernel
theorem dL_law_252 : decode cL_law 252 = .ok (.iconst 2, 1) := by decide +kernel
theorem dL_law_253 : decode cL_law 253 = .ok (.iadd, 1) := by decide +kernel
theorem dL_law_254 : decode cL_law 254 = .ok (.iaload, 1) := by decide +kernel
theorem dL_law_255 : decode cL_law 255 = .ok (.invokevirtual 35, 3) := by decide +kernel
theorem dL_law_258 : decode cL_law 258 = .ok (.if_icmp .eq 506, 3) := by decide +kernel
theorem dL_law_261 : decode cL_law 261 = .ok (.iconst 0, 1) := by decide +kernel
theorem dL_law_262 : decode cL_law 262 = .ok (.ireturn, 1) := by decide +kernel
theorem dL_law_263 : decode cL_law 263 = .ok (.aload_n 1, 1) := by decide +kernel
theorem dL_law_264 : decode cL_law 264 = .ok (.aload_n 0, 1) := by decide +kernel
theorem dL_law_265 : decode cL_law 265 = .ok (.iload_n 3, 1) := by decide +kernel
theorem dL_law_266 : decode cL_law 266 = .ok (.iconst 1, 1) := by decide +kernel
theorem dL_law_267 : decode cL_law 267 = .ok (.iadd, 1) := by decide +kernel
theorem dL_law_268 : decode cL_law 268 = .ok (.iaload, 1) := by decide +kernel
theorem dL_law_269 : decode cL_law 269 = .ok (.invokevirtual 36, 3) := by decide +kernel
theorem dL_law_272 : decode cL_law 272 = .ok (.aload_n 2, 1) := by decide +kernel
theorem dL_law_273 : decode cL_law 273 = .ok (.aload_n 0, 1) := by decide +kernel
theorem dL_law_274 : decode cL_law 274 = .ok (.iload_n 3, 1) := by decide +kernel
theorem dL_law_275 : decode cL_law 275 = .ok (.iconst 1, 1) := by decide +kernel
theorem dL_law_276 : decode cL_law 276 = .ok (.iadd, 1) := by decide +kernel
theorem dL_law_277 : decode cL_law 277 = .ok (.iaload, 1) := by decide +kernel
theorem dL_law_278 : decode cL_law 278 = .ok (.invokevirtual 39, 3) := by decide +kernel
theorem dL_law_281 : decode cL_law 281 = .ok (.if_icmp .eq 483, 3) := by decide +kernel
theorem dL_law_284 : decode cL_law 284 = .ok (.iconst 0, 1) := by decide +kernel
theorem dL_law_285 : decode cL_law 285 = .ok (.ireturn, 1) := by decide +kernel
theorem dL_law_286 : decode cL_law 286 = .ok (.aload_n 1, 1) := by decide +kernel
theorem dL_law_287 : decode cL_law 287 = .ok (.aload_n 0, 1) := by decide +kernel
theorem dL_law_288 : decode cL_law 288 = .ok (.iload_n 3, 1) := by decide +kernel
theorem dL_law_289 : decode cL_law 289 = .ok (.iconst 1, 1) := by decide +kernel
theorem dL_law_290 : decode cL_law 290 = .ok (.iadd, 1) := by decide +kernel
theorem dL_law_291 : decode cL_law 291 = .ok (.iaload, 1) := by decide +kernel
theorem dL_law_292 : decode cL_law 292 = .ok (.aload_n 0, 1) := by decide +kernel
theorem dL_law_293 : decode cL_law 293 = .ok (.iload_n 3, 1) := by decide +kernel
theorem dL_law_294 : decode cL_law 294 = .ok (.iconst 2, 1) := by decide +kernel
theorem dL_law_295 : decode cL_law 295 = .ok (.iadd, 1) := by decide +kernel
theorem dL_law_296 : decode cL_law 296 = .ok (.iaload, 1) := by decide +kernel
theorem dL_law_297 : decode cL_law 297 = .ok (.invokevirtual 40, 3) := by decide +kernel
theorem dL_law_300 : decode cL_law 300 = .ok (.aload_n 2, 1) := by decide +kernel
theorem dL_law_301 : decode cL_law 301 = .ok (.aload_n 0, 1) := by decide +kernel
theorem dL_law_302 : decode cL_law 302 = .ok (.iload_n 3, 1) := by decide +kernel
theorem dL_law_303 : decode cL_law 303 = .ok (.iconst 1, 1) := by decide +kernel
theorem dL_law_304 : decode cL_law 304 = .ok (.iadd, 1) := by decide +kernel
theorem dL_law_305 : decode cL_law 305 = .ok (.iaload, 1) := by decide +kernel
theorem dL_law_306 : decode cL_law 306 = .ok (.aload_n 0, 1) := by decide +kernel
theorem dL_law_307 : decode cL_law 307 = .ok (.iload_n 3, 1) := by decide +kernel
theorem dL_law_308 : decode cL_law 308 = .ok (.iconst 2, 1) := by decide +kernel
theorem dL_law_309 : decode cL_law 309 = .ok (.iadd, 1) := by decide +kernel
theorem dL_law_310 : decode cL_law 310 = .ok (.iaload, 1) := by decide +kernel
theorem dL_law_311 : decode cL_law 311 = .ok (.invokevirtual 43, 3) := by decide +kernel
theorem dL_law_314 : decode cL_law 314 = .ok (.if_icmp .eq 450, 3) := by decide +kernel
theorem dL_law_317 : decode cL_law 317 = .ok (.iconst 0, 1) := by decide +kernel
theorem dL_law_318 : decode cL_law 318 = .ok (.ireturn, 1) := by decide +kernel
theorem dL_law_319 : decode cL_law 319 = .ok (.aload_n 1, 1) := by decide +kernel
theorem dL_law_320 : decode cL_law 320 = .ok (.aload_n 0, 1) := by decide +kernel
theorem dL_law_321 : decode cL_law 321 = .ok (.iload_n 3, 1) := by decide +kernel
theorem dL_law_322 : decode cL_law 322 = .ok (.iconst 1, 1) := by decide +kernel
theorem dL_law_323 : decode cL_law 323 = .ok (.iadd, 1) := by decide +kernel
theorem dL_law_324 : decode cL_law 324 = .ok (.iaload, 1) := by decide +kernel
theorem dL_law_325 : decode cL_law 325 = .ok (.aload_n 0, 1) := by decide +kernel
theorem dL_law_326 : decode cL_law 326 = .ok (.iload_n 3, 1) := by decide +kernel
theorem dL_law_327 : decode cL_law 327 = .ok (.iconst 2, 1) := by decide +kernel
theorem dL_law_328 : decode cL_law 328 = .ok (.iadd, 1) := by decide +kernel
theorem dL_law_329 : decode cL_law 329 = .ok (.iaload, 1) := by decide +kernel
theorem dL_law_330 : decode cL_law 330 = .ok (.invokevirtual 44, 3) := by decide +kernel
theorem dL_law_333 : decode cL_law 333 = .ok (.aload_n 2, 1) := by decide +kernel
theorem dL_law_334 : decode cL_law 334 = .ok (.aload_n 0, 1) := by decide +kernel
theorem dL_law_335 : decode cL_law 335 = .ok (.iload_n 3, 1) := by decide +kernel
theorem dL_law_336 : decode cL_law 336 = .ok (.iconst 1, 1) := by decide +kernel
theorem dL_law_337 : decode cL_law 337 = .ok (.iadd, 1) := by decide +kernel
theorem dL_law_338 : decode cL_law 338 = .ok (.iaload, 1) := by decide +kernel
theorem dL_law_339 : decode cL_law 339 = .ok (.aload_n 0, 1) := by decide +kernel
theorem dL_law_340 : decode cL_law 340 = .ok (.iload_n 3, 1) := by decide +kernel
theorem dL_law_341 : decode cL_law 341 = .ok (.iconst 2, 1) := by decide +kernel
theorem dL_law_342 : decode cL_law 342 = .ok (.iadd, 1) := by decide +kernel
theorem dL_law_343 : decode cL_law 343 = .ok (.iaload, 1) := by decide +kernel
theorem dL_law_344 : decode cL_law 344 = .ok (.invokevirtual 47, 3) := by decide +kernel
theorem dL_law_347 : decode cL_law 347 = .ok (.if_icmp .eq 417, 3) := by decide +kernel
theorem dL_law_350 : decode cL_law 350 = .ok (.iconst 0, 1) := by decide +kernel
theorem dL_law_351 : decode cL_law 351 = .ok (.ireturn, 1) := by decide +kernel
theorem dL_law_352 : decode cL_law 352 = .ok (.aload_n 1, 1) := by decide +kernel
theorem dL_law_353 : decode cL_law 353 = .ok (.aload_n 0, 1) := by decide +kernel
theorem dL_law_354 : decode cL_law 354 = .ok (.iload_n 3, 1) := by decide +kernel
theorem dL_law_355 : decode cL_law 355 = .ok (.iconst 1, 1) := by decide +kernel
theorem dL_law_356 : decode cL_law 356 = .ok (.iadd, 1) := by decide +kernel
theorem dL_law_357 : decode cL_law 357 = .ok (.iaload, 1) := by decide +kernel
theorem dL_law_358 : decode cL_law 358 = .ok (.aload_n 0, 1) := by decide +kernel
theorem dL_law_359 : decode cL_law 359 = .ok (.iload_n 3, 1) := by decide +kernel
theorem dL_law_360 : decode cL_law 360 = .ok (.iconst 2, 1) := by decide +kernel
theorem dL_law_361 : decode cL_law 361 = .ok (.iadd, 1) := by decide +kernel
theorem dL_law_362 : decode cL_law 362 = .ok (.iaload, 1) := by decide +kernel
theorem dL_law_363 : decode cL_law 363 = .ok (.invokevirtual 48, 3) := by decide +kernel
theorem dL_law_366 : decode cL_law 366 = .ok (.aload_n 2, 1) := by decide +kernel
theorem dL_law_367 : decode cL_law 367 = .ok (.aload_n 0, 1) := by decide +kernel
theorem dL_law_368 : decode cL_law 368 = .ok (.iload_n 3, 1) := by decide +kernel
theorem dL_law_369 : decode cL_law 369 = .ok (.iconst 1, 1) := by decide +kernel
theorem dL_law_370 : decode cL_law 370 = .ok (.iadd, 1) := by decide +kernel
theorem dL_law_371 : decode cL_law 371 = .ok (.iaload, 1) := by decide +kernel
theorem dL_law_372 : decode cL_law 372 = .ok (.aload_n 0, 1) := by decide +kernel
theorem dL_law_373 : decode cL_law 373 = .ok (.iload_n 3, 1) := by decide +kernel
theorem dL_law_374 : decode cL_law 374 = .ok (.iconst 2, 1) := by decide +kernel
theorem dL_law_375 : decode cL_law 375 = .ok (.iadd, 1) := by decide +kernel
theorem dL_law_376 : decode cL_law 376 = .ok (.iaload, 1) := by decide +kernel
theorem dL_law_377 : decode cL_law 377 = .ok (.invokevirtual 51, 3) := by decide +kernel
theorem dL_law_380 : decode cL_law 380 = .ok (.if_icmp .eq 384, 3) := by decide +kernel
theorem dL_law_383 : decode cL_law 383 = .ok (.iconst 0, 1) := by decide +kernel
theorem dL_law_384 : decode cL_law 384 = .ok (.ireturn, 1) := by decide +kernel
theorem dL_law_385 : decode cL_law 385 = .ok (.aload_n 1, 1) := by decide +kernel
theorem dL_law_386 : decode cL_law 386 = .ok (.invokevirtual 52, 3) := by decide +kernel
theorem dL_law_389 : decode cL_law 389 = .ok (.aload_n 2, 1) := by decide +kernel
theorem dL_law_390 : decode cL_law 390 = .ok (.invokevirtual 55, 3) := by decide +kernel
theorem dL_law_393 : decode cL_law 393 = .ok (.if_icmp .eq 371, 3) := by decide +kernel
theorem dL_law_396 : decode cL_law 396 = .ok (.iconst 0, 1) := by decide +kernel
theorem dL_law_397 : decode cL_law 397 = .ok (.ireturn, 1) := by decide +kernel
theorem dL_law_398 : decode cL_law 398 = .ok (.aload_n 1, 1) := by decide +kernel
theorem dL_law_399 : decode cL_law 399 = .ok (.aload_n 0, 1) := by decide +kernel
theorem dL_law_400 : decode cL_law 400 = .ok (.iload_n 3, 1) := by decide +kernel
theorem dL_law_401 : decode cL_law 401 = .ok (.iconst 1, 1) := by decide +kernel
theorem dL_law_402 : decode cL_law 402 = .ok (.iadd, 1) := by decide +kernel
theorem dL_law_403 : decode cL_law 403 = .ok (.iaload, 1) := by decide +kernel
theorem dL_law_404 : decode cL_law 404 = .ok (.aload_n 0, 1) := by decide +kernel
theorem dL_law_405 : decode cL_law 405 = .ok (.iload_n 3, 1) := by decide +kernel
theorem dL_law_406 : decode cL_law 406 = .ok (.iconst 2, 1) := by decide +kernel
theorem dL_law_407 : decode cL_law 407 = .ok (.iadd, 1) := by decide +kernel
theorem dL_law_408 : decode cL_law 408 = .ok (.iaload, 1) := by decide +kernel
theorem dL_law_409 : decode cL_law 409 = .ok (.invokevirtual 56, 3) := by decide +kernel
theorem dL_law_412 : decode cL_law 412 = .ok (.aload_n 2, 1) := by decide +kernel
theorem dL_law_413 : decode cL_law 413 = .ok (.aload_n 0, 1) := by decide +kernel
theorem dL_law_414 : decode cL_law 414 = .ok (.iload_n 3, 1) := by decide +kernel
theorem dL_law_415 : decode cL_law 415 = .ok (.iconst 1, 1) := by decide +kernel
theorem dL_law_416 : decode cL_law 416 = .ok (.iadd, 1) := by decide +kernel
theorem dL_law_417 : decode cL_law 417 = .ok (.iaload, 1) := by decide +kernel
theorem dL_law_418 : decode cL_law 418 = .ok (.aload_n 0, 1) := by decide +kernel
theorem dL_law_419 : decode cL_law 419 = .ok (.iload_n 3, 1) := by decide +kernel
theorem dL_law_420 : decode cL_law 420 = .ok (.iconst 2, 1) := by decide +kernel
theorem dL_law_421 : decode cL_law 421 = .ok (.iadd, 1) := by decide +kernel
theorem dL_law_422 : decode cL_law 422 = .ok (.iaload, 1) := by decide +kernel
theorem dL_law_423 : decode cL_law 423 = .ok (.invokevirtual 59, 3) := by decide +kernel
theorem dL_law_426 : decode cL_law 426 = .ok (.if_icmp .eq 338, 3) := by decide +kernel
theorem dL_law_429 : decode cL_law 429 = .ok (.iconst 0, 1) := by decide +kernel
theorem dL_law_430 : decode cL_law 430 = .ok (.ireturn, 1) := by decide +kernel
theorem dL_law_431 : decode cL_law 431 = .ok (.aload_n 1, 1) := by decide +kernel
theorem dL_law_432 : decode cL_law 432 = .ok (.aload_n 0, 1) := by decide +kernel
theorem dL_law_433 : decode cL_law 433 = .ok (.iload_n 3, 1) := by decide +kernel
theorem dL_law_434 : decode cL_law 434 = .ok (.iconst 1, 1) := by decide +kernel
theorem dL_law_435 : decode cL_law 435 = .ok (.iadd, 1) := by decide +kernel
theorem dL_law_436 : decode cL_law 436 = .ok (.iaload, 1) := by decide +kernel
theorem dL_law_437 : decode cL_law 437 = .ok (.invokevirtual 60, 3) := by decide +kernel
theorem dL_law_440 : decode cL_law 440 = .ok (.aload_n 2, 1) := by decide +kernel
theorem dL_law_441 : decode cL_law 441 = .ok (.aload_n 0, 1) := by decide +kernel
theorem dL_law_442 : decode cL_law 442 = .ok (.iload_n 3, 1) := by decide +kernel
theorem dL_law_443 : decode cL_law 443 = .ok (.iconst 1, 1) := by decide +kernel
theorem dL_law_444 : decode cL_law 444 = .ok (.iadd, 1) := by decide +kernel
theorem dL_law_445 : decode cL_law 445 = .ok (.iaload, 1) := by decide +kernel
theorem dL_law_446 : decode cL_law 446 = .ok (.invokevirtual 63, 3) := by decide +kernel
theorem dL_law_449 : decode cL_law 449 = .ok (.if_icmp .eq 315, 3) := by decide +kernel
theorem dL_law_452 : decode cL_law 452 = .ok (.iconst 0, 1) := by decide +kernel
theorem dL_law_453 : decode cL_law 453 = .ok (.ireturn, 1) := by decide +kernel
theorem dL_law_454 : decode cL_law 454 = .ok (.aload_n 1, 1) := by decide +kernel
theorem dL_law_455 : decode cL_law 455 = .ok (.aload_n 0, 1) := by decide +kernel
theorem dL_law_456 : decode cL_law 456 = .ok (.iload_n 3, 1) := by decide +kernel
theorem dL_law_457 : decode cL_law 457 = .ok (.iconst 1, 1) := by decide +kernel
theorem dL_law_458 : decode cL_law 458 = .ok (.iadd, 1) := by decide +kernel
theorem dL_law_459 : decode cL_law 459 = .ok (.iaload, 1) := by decide +kernel
theorem dL_law_460 : decode cL_law 460 = .ok (.aload_n 0, 1) := by decide +kernel
theorem dL_law_461 : decode cL_law 461 = .ok (.iload_n 3, 1) := by decide +kernel
theorem dL_law_462 : decode cL_law 462 = .ok (.iconst 2, 1) := by decide +kernel
theorem dL_law_463 : decode cL_law 463 = .ok (.iadd, 1) := by decide +kernel
theorem dL_law_464 : decode cL_law 464 = .ok (.iaload, 1) := by decide +kernel
theorem dL_law_465 : decode cL_law 465 = .ok (.aload_n 0, 1) := by decide +kernel
theorem dL_law_466 : decode cL_law 466 = .ok (.iload_n 3, 1) := by decide +kernel
theorem dL_law_467 : decode cL_law 467 = .ok (.iconst 3, 1) := by decide +kernel
theorem dL_law_468 : decode cL_law 468 = .ok (.iadd, 1) := by decide +kernel
theorem dL_law_469 : decode cL_law 469 = .ok (.iaload, 1) := by decide +kernel
theorem dL_law_470 : decode cL_law 470 = .ok (.invokevirtual 64, 3) := by decide +kernel
theorem dL_law_473 : decode cL_law 473 = .ok (.aload_n 2, 1) := by decide +kernel
theorem dL_law_474 : decode cL_law 474 = .ok (.aload_n 0, 1) := by decide +kernel
theorem dL_law_475 : decode cL_law 475 = .ok (.iload_n 3, 1) := by decide +kernel
theorem dL_law_476 : decode cL_law 476 = .ok (.iconst 1, 1) := by decide +kernel
theorem dL_law_477 : decode cL_law 477 = .ok (.iadd, 1) := by decide +kernel
theorem dL_law_478 : decode cL_law 478 = .ok (.iaload, 1) := by decide +kernel
theorem dL_law_479 : decode cL_law 479 = .ok (.aload_n 0, 1) := by decide +kernel
theorem dL_law_480 : decode cL_law 480 = .ok (.iload_n 3, 1) := by decide +kernel
theorem dL_law_481 : decode cL_law 481 = .ok (.iconst 2, 1) := by decide +kernel
theorem dL_law_482 : decode cL_law 482 = .ok (.iadd, 1) := by decide +kernel
theorem dL_law_483 : decode cL_law 483 = .ok (.iaload, 1) := by decide +kernel
theorem dL_law_484 : decode cL_law 484 = .ok (.aload_n 0, 1) := by decide +kernel
theorem dL_law_485 : decode cL_law 485 = .ok (.iload_n 3, 1) := by decide +kernel
theorem dL_law_486 : decode cL_law 486 = .ok (.iconst 3, 1) := by decide +kernel
theorem dL_law_487 : decode cL_law 487 = .ok (.iadd, 1) := by decide +kernel
theorem dL_law_488 : decode cL_law 488 = .ok (.iaload, 1) := by decide +kernel
theorem dL_law_489 : decode cL_law 489 = .ok (.invokevirtual 68, 3) := by decide +kernel
theorem dL_law_492 : decode cL_law 492 = .ok (.if_icmp .eq 272, 3) := by decide +kernel
theorem dL_law_495 : decode cL_law 495 = .ok (.iconst 0, 1) := by decide +kernel
theorem dL_law_496 : decode cL_law 496 = .ok (.ireturn, 1) := by decide +kernel
theorem dL_law_497 : decode cL_law 497 = .ok (.aload_n 1, 1) := by decide +kernel
theorem dL_law_498 : decode cL_law 498 = .ok (.aload_n 0, 1) := by decide +kernel
theorem dL_law_499 : decode cL_law 499 = .ok (.iload_n 3, 1) := by decide +kernel
theorem dL_law_500 : decode cL_law 500 = .ok (.iconst 1, 1) := by decide +kernel
theorem dL_law_501 : decode cL_law 501 = .ok (.iadd, 1) := by decide +kernel
theorem dL_law_502 : decode cL_law 502 = .ok (.iaload, 1) := by decide +kernel
theorem dL_law_503 : decode cL_law 503 = .ok (.aload_n 0, 1) := by decide +kernel
theorem dL_law_504 : decode cL_law 504 = .ok (.iload_n 3, 1) := by decide +kernel
theorem dL_law_505 : decode cL_law 505 = .ok (.iconst 2, 1) := by decide +kernel
theorem dL_law_506 : decode cL_law 506 = .ok (.iadd, 1) := by decide +kernel
theorem dL_law_507 : decode cL_law 507 = .ok (.iaload, 1) := by decide +kernel
theorem dL_law_508 : decode cL_law 508 = .ok (.invokevirtual 69, 3) := by decide +kernel
theorem dL_law_511 : decode cL_law 511 = .ok (.aload_n 2, 1) := by decide +kernel
theorem dL_law_512 : decode cL_law 512 = .ok (.aload_n 0, 1) := by decide +kernel
theorem dL_law_513 : decode cL_law 513 = .ok (.iload_n 3, 1) := by decide +kernel
theorem dL_law_514 : decode cL_law 514 = .ok (.iconst 1, 1) := by decide +kernel
theorem dL_law_515 : decode cL_law 515 = .ok (.iadd, 1) := by decide +kernel
theorem dL_law_516 : decode cL_law 516 = .ok (.iaload, 1) := by decide +kernel
theorem dL_law_517 : decode cL_law 517 = .ok (.aload_n 0, 1) := by decide +kernel
theorem dL_law_518 : decode cL_law 518 = .ok (.iload_n 3, 1) := by decide +kernel
theorem dL_law_519 : decode cL_law 519 = .ok (.iconst 2, 1) := by decide +kernel
theorem dL_law_520 : decode cL_law 520 = .ok (.iadd, 1) := by decide +kernel
theorem dL_law_521 : decode cL_law 521 = .ok (.iaload, 1) := by decide +kernel
theorem dL_law_522 : decode cL_law 522 = .ok (.invokevirtual 72, 3) := by decide +kernel
theorem dL_law_525 : decode cL_law 525 = .ok (.if_icmp .eq 239, 3) := by decide +kernel
theorem dL_law_528 : decode cL_law 528 = .ok (.iconst 0, 1) := by decide +kernel
theorem dL_law_529 : decode cL_law 529 = .ok (.ireturn, 1) := by decide +kernel
theorem dL_law_530 : decode cL_law 530 = .ok (.aload_n 1, 1) := by decide +kernel
theorem dL_law_531 : decode cL_law 531 = .ok (.aload_n 0, 1) := by decide +kernel
theorem dL_law_532 : decode cL_law 532 = .ok (.iload_n 3, 1) := by decide +kernel
theorem dL_law_533 : decode cL_law 533 = .ok (.iconst 1, 1) := by decide +kernel
theorem dL_law_534 : decode cL_law 534 = .ok (.iadd, 1) := by decide +kernel
theorem dL_law_535 : decode cL_law 535 = .ok (.iaload, 1) := by decide +kernel
theorem dL_law_536 : decode cL_law 536 = .ok (.invokevirtual 73, 3) := by decide +kernel
theorem dL_law_539 : decode cL_law 539 = .ok (.aload_n 2, 1) := by decide +kernel
theorem dL_law_540 : decode cL_law 540 = .ok (.aload_n 0, 1) := by decide +kernel
theorem dL_law_541 : decode cL_law 541 = .ok (.iload_n 3, 1) := by decide +kernel
theorem dL_law_542 : decode cL_law 542 = .ok (.iconst 1, 1) := by decide +kernel
theorem dL_law_543 : decode cL_law 543 = .ok (.iadd, 1) := by decide +kernel
theorem dL_law_544 : decode cL_law 544 = .ok (.iaload, 1) := by decide +kernel
theorem dL_law_545 : decode cL_law 545 = .ok (.invokevirtual 76, 3) := by decide +kernel
theorem dL_law_548 : decode cL_law 548 = .ok (.if_icmp .eq 216, 3) := by decide +kernel
theorem dL_law_551 : decode cL_law 551 = .ok (.iconst 0, 1) := by decide +kernel
theorem dL_law_552 : decode cL_law 552 = .ok (.ireturn, 1) := by decide +kernel
theorem dL_law_553 : decode cL_law 553 = .ok (.aload_n 1, 1) := by decide +kernel
theorem dL_law_554 : decode cL_law 554 = .ok (.invokevirtual 77, 3) := by decide +kernel
theorem dL_law_557 : decode cL_law 557 = .ok (.aload_n 2, 1) := by decide +kernel
theorem dL_law_558 : decode cL_law 558 = .ok (.invokevirtual 80, 3) := by decide +kernel
theorem dL_law_561 : decode cL_law 561 = .ok (.if_icmp .eq 203, 3) := by decide +kernel
theorem dL_law_564 : decode cL_law 564 = .ok (.iconst 0, 1) := by decide +kernel
theorem dL_law_565 : decode cL_law 565 = .ok (.ireturn, 1) := by decide +kernel
theorem dL_law_566 : decode cL_law 566 = .ok (.aload_n 1, 1) := by decide +kernel
theorem dL_law_567 : decode cL_law 567 = .ok (.aload_n 0, 1) := by decide +kernel
theorem dL_law_568 : decode cL_law 568 = .ok (.iload_n 3, 1) := by decide +kernel
theorem dL_law_569 : decode cL_law 569 = .ok (.iconst 1, 1) := by decide +kernel
theorem dL_law_570 : decode cL_law 570 = .ok (.iadd, 1) := by decide +kernel
theorem dL_law_571 : decode cL_law 571 = .ok (.iaload, 1) := by decide +kernel
theorem dL_law_572 : decode cL_law 572 = .ok (.aload_n 0, 1) := by decide +kernel
theorem dL_law_573 : decode cL_law 573 = .ok (.iload_n 3, 1) := by decide +kernel
theorem dL_law_574 : decode cL_law 574 = .ok (.iconst 2, 1) := by decide +kernel
theorem dL_law_575 : decode cL_law 575 = .ok (.iadd, 1) := by decide +kernel
theorem dL_law_576 : decode cL_law 576 = .ok (.iaload, 1) := by decide +kernel
theorem dL_law_577 : decode cL_law 577 = .ok (.invokevirtual 81, 3) := by decide +kernel
theorem dL_law_580 : decode cL_law 580 = .ok (.aload_n 2, 1) := by decide +kernel
theorem dL_law_581 : decode cL_law 581 = .ok (.aload_n 0, 1) := by decide +kernel
theorem dL_law_582 : decode cL_law 582 = .ok (.iload_n 3, 1) := by decide +kernel
theorem dL_law_583 : decode cL_law 583 = .ok (.iconst 1, 1) := by decide +kernel
theorem dL_law_584 : decode cL_law 584 = .ok (.iadd, 1) := by decide +kernel
theorem dL_law_585 : decode cL_law 585 = .ok (.iaload, 1) := by decide +kernel
theorem dL_law_586 : decode cL_law 586 = .ok (.aload_n 0, 1) := by decide +kernel
theorem dL_law_587 : decode cL_law 587 = .ok (.iload_n 3, 1) := by decide +kernel
theorem dL_law_588 : decode cL_law 588 = .ok (.iconst 2, 1) := by decide +kernel
theorem dL_law_589 : decode cL_law 589 = .ok (.iadd, 1) := by decide +kernel
theorem dL_law_590 : decode cL_law 590 = .ok (.iaload, 1) := by decide +kernel
theorem dL_law_591 : decode cL_law 591 = .ok (.invokevirtual 84, 3) := by decide +kernel
theorem dL_law_594 : decode cL_law 594 = .ok (.if_icmp .eq 170, 3) := by decide +kernel
theorem dL_law_597 : decode cL_law 597 = .ok (.iconst 0, 1) := by decide +kernel
theorem dL_law_598 : decode cL_law 598 = .ok (.ireturn, 1) := by decide +kernel
theorem dL_law_599 : decode cL_law 599 = .ok (.aload_n 1, 1) := by decide +kernel
theorem dL_law_600 : decode cL_law 600 = .ok (.invokevirtual 85, 3) := by decide +kernel
theorem dL_law_603 : decode cL_law 603 = .ok (.aload_n 2, 1) := by decide +kernel
theorem dL_law_604 : decode cL_law 604 = .ok (.invokevirtual 88, 3) := by decide +kernel
theorem dL_law_607 : decode cL_law 607 = .ok (.if_icmp .eq 157, 3) := by decide +kernel
theorem dL_law_610 : decode cL_law 610 = .ok (.iconst 0, 1) := by decide +kernel
theorem dL_law_611 : decode cL_law 611 = .ok (.ireturn, 1) := by decide +kernel
theorem dL_law_612 : decode cL_law 612 = .ok (.aload_n 1, 1) := by decide +kernel
theorem dL_law_613 : decode cL_law 613 = .ok (.invokevirtual 89, 3) := by decide +kernel
theorem dL_law_616 : decode cL_law 616 = .ok (.aload_n 2, 1) := by decide +kernel
theorem dL_law_617 : decode cL_law 617 = .ok (.invokevirtual 92, 3) := by decide +kernel
theorem dL_law_620 : decode cL_law 620 = .ok (.if_icmp .eq 144, 3) := by decide +kernel
theorem dL_law_623 : decode cL_law 623 = .ok (.iconst 0, 1) := by decide +kernel
theorem dL_law_624 : decode cL_law 624 = .ok (.ireturn, 1) := by decide +kernel
theorem dL_law_625 : decode cL_law 625 = .ok (.aload_n 1, 1) := by decide +kernel
theorem dL_law_626 : decode cL_law 626 = .ok (.aload_n 0, 1) := by decide +kernel
theorem dL_law_627 : decode cL_law 627 = .ok (.iload_n 3, 1) := by decide +kernel
theorem dL_law_628 : decode cL_law 628 = .ok (.iconst 1, 1) := by decide +kernel
theorem dL_law_629 : decode cL_law 629 = .ok (.iadd, 1) := by decide +kernel
theorem dL_law_630 : decode cL_law 630 = .ok (.iaload, 1) := by decide +kernel
theorem dL_law_631 : decode cL_law 631 = .ok (.invokevirtual 93, 3) := by decide +kernel
theorem dL_law_634 : decode cL_law 634 = .ok (.aload_n 2, 1) := by decide +kernel
theorem dL_law_635 : decode cL_law 635 = .ok (.aload_n 0, 1) := by decide +kernel
theorem dL_law_636 : decode cL_law 636 = .ok (.iload_n 3, 1) := by decide +kernel
theorem dL_law_637 : decode cL_law 637 = .ok (.iconst 1, 1) := by decide +kernel
theorem dL_law_638 : decode cL_law 638 = .ok (.iadd, 1) := by decide +kernel
theorem dL_law_639 : decode cL_law 639 = .ok (.iaload, 1) := by decide +kernel
theorem dL_law_640 : decode cL_law 640 = .ok (.invokevirtual 96, 3) := by decide +kernel
theorem dL_law_643 : decode cL_law 643 = .ok (.if_icmp .eq 121, 3) := by decide +kernel
theorem dL_law_646 : decode cL_law 646 = .ok (.iconst 0, 1) := by decide +kernel
theorem dL_law_647 : decode cL_law 647 = .ok (.ireturn, 1) := by decide +kernel
theorem dL_law_648 : decode cL_law 648 = .ok (.aload_n 1, 1) := by decide +kernel
theorem dL_law_649 : decode cL_law 649 = .ok (.aload_n 0, 1) := by decide +kernel
theorem dL_law_650 : decode cL_law 650 = .ok (.iload_n 3, 1) := by decide +kernel
theorem dL_law_651 : decode cL_law 651 = .ok (.iconst 1, 1) := by decide +kernel
theorem dL_law_652 : decode cL_law 652 = .ok (.iadd, 1) := by decide +kernel
theorem dL_law_653 : decode cL_law 653 = .ok (.iaload, 1) := by decide +kernel
theorem dL_law_654 : decode cL_law 654 = .ok (.aload_n 0, 1) := by decide +kernel
theorem dL_law_655 : decode cL_law 655 = .ok (.iload_n 3, 1) := by decide +kernel
theorem dL_law_656 : decode cL_law 656 = .ok (.iconst 2, 1) := by decide +kernel
theorem dL_law_657 : decode cL_law 657 = .ok (.iadd, 1) := by decide +kernel
theorem dL_law_658 : decode cL_law 658 = .ok (.iaload, 1) := by decide +kernel
theorem dL_law_659 : decode cL_law 659 = .ok (.invokevirtual 97, 3) := by decide +kernel
theorem dL_law_662 : decode cL_law 662 = .ok (.aload_n 2, 1) := by decide +kernel
theorem dL_law_663 : decode cL_law 663 = .ok (.aload_n 0, 1) := by decide +kernel
theorem dL_law_664 : decode cL_law 664 = .ok (.iload_n 3, 1) := by decide +kernel
theorem dL_law_665 : decode cL_law 665 = .ok (.iconst 1, 1) := by decide +kernel
theorem dL_law_666 : decode cL_law 666 = .ok (.iadd, 1) := by decide +kernel
theorem dL_law_667 : decode cL_law 667 = .ok (.iaload, 1) := by decide +kernel
theorem dL_law_668 : decode cL_law 668 = .ok (.aload_n 0, 1) := by decide +kernel
theorem dL_law_669 : decode cL_law 669 = .ok (.iload_n 3, 1) := by decide +kernel
theorem dL_law_670 : decode cL_law 670 = .ok (.iconst 2, 1) := by decide +kernel
theorem dL_law_671 : decode cL_law 671 = .ok (.iadd, 1) := by decide +kernel
theorem dL_law_672 : decode cL_law 672 = .ok (.iaload, 1) := by decide +kernel
theorem dL_law_673 : decode cL_law 673 = .ok (.invokevirtual 100, 3) := by decide +kernel
theorem dL_law_676 : decode cL_law 676 = .ok (.if_icmp .eq 88, 3) := by decide +kernel
theorem dL_law_679 : decode cL_law 679 = .ok (.iconst 0, 1) := by decide +kernel
theorem dL_law_680 : decode cL_law 680 = .ok (.ireturn, 1) := by decide +kernel
theorem dL_law_681 : decode cL_law 681 = .ok (.aload_n 1, 1) := by decide +kernel
theorem dL_law_682 : decode cL_law 682 = .ok (.aload_n 0, 1) := by decide +kernel
theorem dL_law_683 : decode cL_law 683 = .ok (.iload_n 3, 1) := by decide +kernel
theorem dL_law_684 : decode cL_law 684 = .ok (.iconst 1, 1) := by decide +kernel
theorem dL_law_685 : decode cL_law 685 = .ok (.iadd, 1) := by decide +kernel
theorem dL_law_686 : decode cL_law 686 = .ok (.iaload, 1) := by decide +kernel
theorem dL_law_687 : decode cL_law 687 = .ok (.invokevirtual 101, 3) := by decide +kernel
theorem dL_law_690 : decode cL_law 690 = .ok (.aload_n 2, 1) := by decide +kernel
theorem dL_law_691 : decode cL_law 691 = .ok (.aload_n 0, 1) := by decide +kernel
theorem dL_law_692 : decode cL_law 692 = .ok (.iload_n 3, 1) := by decide +kernel
theorem dL_law_693 : decode cL_law 693 = .ok (.iconst 1, 1) := by decide +kernel
theorem dL_law_694 : decode cL_law 694 = .ok (.iadd, 1) := by decide +kernel
theorem dL_law_695 : decode cL_law 695 = .ok (.iaload, 1) := by decide +kernel
theorem dL_law_696 : decode cL_law 696 = .ok (.invokevirtual 104, 3) := by decide +kernel
theorem dL_law_699 : decode cL_law 699 = .ok (.if_icmp .eq 65, 3) := by decide +kernel
theorem dL_law_702 : decode cL_law 702 = .ok (.iconst 0, 1) := by decide +kernel
theorem dL_law_703 : decode cL_law 703 = .ok (.ireturn, 1) := by decide +kernel
theorem dL_law_704 : decode cL_law 704 = .ok (.aload_n 1, 1) := by decide +kernel
theorem dL_law_705 : decode cL_law 705 = .ok (.aload_n 0, 1) := by decide +kernel
theorem dL_law_706 : decode cL_law 706 = .ok (.iload_n 3, 1) := by decide +kernel
theorem dL_law_707 : decode cL_law 707 = .ok (.iconst 1, 1) := by decide +kernel
theorem dL_law_708 : decode cL_law 708 = .ok (.iadd, 1) := by decide +kernel
theorem dL_law_709 : decode cL_law 709 = .ok (.iaload, 1) := by decide +kernel
theorem dL_law_710 : decode cL_law 710 = .ok (.invokevirtual 105, 3) := by decide +kernel
theorem dL_law_713 : decode cL_law 713 = .ok (.aload_n 2, 1) := by decide +kernel
theorem dL_law_714 : decode cL_law 714 = .ok (.aload_n 0, 1) := by decide +kernel
theorem dL_law_715 : decode cL_law 715 = .ok (.iload_n 3, 1) := by decide +kernel
theorem dL_law_716 : decode cL_law 716 = .ok (.iconst 1, 1) := by decide +kernel
theorem dL_law_717 : decode cL_law 717 = .ok (.iadd, 1) := by decide +kernel
theorem dL_law_718 : decode cL_law 718 = .ok (.iaload, 1) := by decide +kernel
theorem dL_law_719 : decode cL_law 719 = .ok (.invokevirtual 108, 3) := by decide +kernel
theorem dL_law_722 : decode cL_law 722 = .ok (.if_icmp .eq 42, 3) := by decide +kernel
theorem dL_law_725 : decode cL_law 725 = .ok (.iconst 0, 1) := by decide +kernel
theorem dL_law_726 : decode cL_law 726 = .ok (.ireturn, 1) := by decide +kernel
theorem dL_law_727 : decode cL_law 727 = .ok (.aload_n 1, 1) := by decide +kernel
theorem dL_law_728 : decode cL_law 728 = .ok (.aload_n 0, 1) := by decide +kernel
theorem dL_law_729 : decode cL_law 729 = .ok (.iload_n 3, 1) := by decide +kernel
theorem dL_law_730 : decode cL_law 730 = .ok (.iconst 1, 1) := by decide +kernel
theorem dL_law_731 : decode cL_law 731 = .ok (.iadd, 1) := by decide +kernel
theorem dL_law_732 : decode cL_law 732 = .ok (.iaload, 1) := by decide +kernel
theorem dL_law_733 : decode cL_law 733 = .ok (.invokevirtual 109, 3) := by decide +kernel
theorem dL_law_736 : decode cL_law 736 = .ok (.aload_n 2, 1) := by decide +kernel
theorem dL_law_737 : decode cL_law 737 = .ok (.aload_n 0, 1) := by decide +kernel
theorem dL_law_738 : decode cL_law 738 = .ok (.iload_n 3, 1) := by decide +kernel
theorem dL_law_739 : decode cL_law 739 = .ok (.iconst 1, 1) := by decide +kernel
theorem dL_law_740 : decode cL_law 740 = .ok (.iadd, 1) := by decide +kernel
theorem dL_law_741 : decode cL_law 741 = .ok (.iaload, 1) := by decide +kernel
theorem dL_law_742 : decode cL_law 742 = .ok (.invokevirtual 112, 3) := by decide +kernel
theorem dL_law_745 : decode cL_law 745 = .ok (.if_icmp .eq 19, 3) := by decide +kernel
theorem dL_law_748 : decode cL_law 748 = .ok (.iconst 0, 1) := by decide +kernel
theorem dL_law_749 : decode cL_law 749 = .ok (.ireturn, 1) := by decide +kernel
theorem dL_law_750 : decode cL_law 750 = .ok (.aload_n 1, 1) := by decide +kernel
theorem dL_law_751 : decode cL_law 751 = .ok (.invokevirtual 113, 3) := by decide +kernel
theorem dL_law_754 : decode cL_law 754 = .ok (.aload_n 2, 1) := by decide +kernel
theorem dL_law_755 : decode cL_law 755 = .ok (.invokevirtual 117, 3) := by decide +kernel
theorem dL_law_758 : decode cL_law 758 = .ok (.lcmp, 1) := by decide +kernel
theorem dL_law_759 : decode cL_law 759 = .ok (.ifCond .eq 5, 3) := by decide +kernel
theorem dL_law_762 : decode cL_law 762 = .ok (.iconst 0, 1) := by decide +kernel
theorem dL_law_763 : decode cL_law 763 = .ok (.ireturn, 1) := by decide +kernel
theorem dL_law_764 : decode cL_law 764 = .ok (.iinc 3 4, 3) := by decide +kernel
theorem dL_law_767 : decode cL_law 767 = .ok (.goto (-749), 3) := by decide +kernel
theorem dL_law_770 : decode cL_law 770 = .ok (.iconst 1, 1) := by decide +kernel
theorem dL_law_771 : decode cL_law 771 = .ok (.ireturn, 1) := by decide +kernel
