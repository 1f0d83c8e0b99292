theorem dX8_on_51 : decode cX8_on 51 = .ok (.iadd, 1) := by decide +kernel
theorem dX8_on_52 : decode cX8_on 52 = .ok (.iaload, 1) := by decide +kernel
theorem dX8_on_53 : decode cX8_on 53 = .ok (.iastore, 1) := by decide +kernel
theorem dX8_on_54 : decode cX8_on 54 = .ok (.aload_n 0, 1) := by decide +kernel
theorem dX8_on_55 : decode cX8_on 55 = .ok (.getfield 52, 3) := by decide +kernel
theorem dX8_on_58 : decode cX8_on 58 = .ok (.iload_n 2, 1) := by decide +kernel
theorem dX8_on_59 : decode cX8_on 59 = .ok (.aload_n 0, 1) := by decide +kernel
theorem dX8_on_60 : decode cX8_on 60 = .ok (.getfield 87, 3) := by decide +kernel
theorem dX8_on_63 : decode cX8_on 63 = .ok (.bipush 18, 2) := by decide +kernel
theorem dX8_on_65 : decode cX8_on 65 = .ok (.iload_n 1, 1) := by decide +kernel
theorem dX8_on_66 : decode cX8_on 66 = .ok (.imul, 1) := by decide +kernel
theorem dX8_on_67 : decode cX8_on 67 = .ok (.bipush 8, 2) := by decide +kernel
theorem dX8_on_69 : decode cX8_on 69 = .ok (.iadd, 1) := by decide +kernel
theorem dX8_on_70 : decode cX8_on 70 = .ok (.iload_n 2, 1) := by decide +kernel
theorem dX8_on_71 : decode cX8_on 71 = .ok (.iadd, 1) := by decide +kernel
theorem dX8_on_72 : decode cX8_on 72 = .ok (.iaload, 1) := by decide +kernel
theorem dX8_on_73 : decode cX8_on 73 = .ok (.iastore, 1) := by decide +kernel
theorem dX8_on_74 : decode cX8_on 74 = .ok (.iinc 2 1, 3) := by decide +kernel
theorem dX8_on_77 : decode cX8_on 77 = .ok (.goto (-46), 3) := by decide +kernel
theorem dX8_on_80 : decode cX8_on 80 = .ok (.aload_n 0, 1) := by decide +kernel
theorem dX8_on_81 : decode cX8_on 81 = .ok (.aload_n 0, 1) := by decide +kernel
theorem dX8_on_82 : decode cX8_on 82 = .ok (.getfield 87, 3) := by decide +kernel
theorem dX8_on_85 : decode cX8_on 85 = .ok (.bipush 18, 2) := by decide +kernel
theorem dX8_on_87 : decode cX8_on 87 = .ok (.iload_n 1, 1) := by decide +kernel
theorem dX8_on_88 : decode cX8_on 88 = .ok (.imul, 1) := by decide +kernel
theorem dX8_on_89 : decode cX8_on 89 = .ok (.bipush 16, 2) := by decide +kernel
theorem dX8_on_91 : decode cX8_on 91 = .ok (.iadd, 1) := by decide +kernel
theorem dX8_on_92 : decode cX8_on 92 = .ok (.iaload, 1) := by decide +kernel
theorem dX8_on_93 : decode cX8_on 93 = .ok (.putfield 216, 3) := by decide +kernel
theorem dX8_on_96 : decode cX8_on 96 = .ok (.aload_n 0, 1) := by decide +kernel
theorem dX8_on_97 : decode cX8_on 97 = .ok (.aload_n 0, 1) := by decide +kernel
theorem dX8_on_98 : decode cX8_on 98 = .ok (.getfield 87, 3) := by decide +kernel
theorem dX8_on_101 : decode cX8_on 101 = .ok (.bipush 18, 2) := by decide +kernel
theorem dX8_on_103 : decode cX8_on 103 = .ok (.iload_n 1, 1) := by decide +kernel
theorem dX8_on_104 : decode cX8_on 104 = .ok (.imul, 1) := by decide +kernel
theorem dX8_on_105 : decode cX8_on 105 = .ok (.bipush 17, 2) := by decide +kernel
theorem dX8_on_107 : decode cX8_on 107 = .ok (.iadd, 1) := by decide +kernel
theorem dX8_on_108 : decode cX8_on 108 = .ok (.iaload, 1) := by decide +kernel
theorem dX8_on_109 : decode cX8_on 109 = .ok (.putfield 219, 3) := by decide +kernel
theorem dX8_on_112 : decode cX8_on 112 = .ok (.aload_n 0, 1) := by decide +kernel
theorem dX8_on_113 : decode cX8_on 113 = .ok (.getfield 216, 3) := by decide +kernel
theorem dX8_on_116 : decode cX8_on 116 = .ok (.ireturn, 1) := by decide +kernel
theorem dX8_common_0 : decode cX8_common 0 = .ok (.lload_n 0, 1) := by decide +kernel
theorem dX8_common_1 : decode cX8_common 1 = .ok (.lconst 0, 1) := by decide +kernel
theorem dX8_common_2 : decode cX8_common 2 = .ok (.lcmp, 1) := by decide +kernel
theorem dX8_common_3 : decode cX8_common 3 = .ok (.ifCond .ge 8, 3) := by decide +kernel
theorem dX8_common_6 : decode cX8_common 6 = .ok (.lload_n 0, 1) := by decide +kernel
theorem dX8_common_7 : decode cX8_common 7 = .ok (.lneg, 1) := by decide +kernel
theorem dX8_common_8 : decode cX8_common 8 = .ok (.goto 4, 3) := by decide +kernel
theorem dX8_common_11 : decode cX8_common 11 = .ok (.lload_n 0, 1) := by decide +kernel
theorem dX8_common_12 : decode cX8_common 12 = .ok (.lstore 4, 2) := by decide +kernel
theorem dX8_common_14 : decode cX8_common 14 = .ok (.lload_n 2, 1) := by decide +kernel
theorem dX8_common_15 : decode cX8_common 15 = .ok (.lstore 6, 2) := by decide +kernel
theorem dX8_common_17 : decode cX8_common 17 = .ok (.lload 6, 2) := by decide +kernel
theorem dX8_common_19 : decode cX8_common 19 = .ok (.lconst 0, 1) := by decide +kernel
theorem dX8_common_20 : decode cX8_common 20 = .ok (.lcmp, 1) := by decide +kernel
theorem dX8_common_21 : decode cX8_common 21 = .ok (.ifCond .eq 21, 3) := by decide +kernel
theorem dX8_common_24 : decode cX8_common 24 = .ok (.lload 4, 2) := by decide +kernel
theorem dX8_common_26 : decode cX8_common 26 = .ok (.lload 6, 2) := by decide +kernel
theorem dX8_common_28 : decode cX8_common 28 = .ok (.lrem, 1) := by decide +kernel
theorem dX8_common_29 : decode cX8_common 29 = .ok (.lstore 8, 2) := by decide +kernel
theorem dX8_common_31 : decode cX8_common 31 = .ok (.lload 6, 2) := by decide +kernel
theorem dX8_common_33 : decode cX8_common 33 = .ok (.lstore 4, 2) := by decide +kernel
theorem dX8_common_35 : decode cX8_common 35 = .ok (.lload 8, 2) := by decide +kernel
theorem dX8_common_37 : decode cX8_common 37 = .ok (.lstore 6, 2) := by decide +kernel
theorem dX8_common_39 : decode cX8_common 39 = .ok (.goto (-22), 3) := by decide +kernel
theorem dX8_common_42 : decode cX8_common 42 = .ok (.lload 4, 2) := by decide +kernel
theorem dX8_common_44 : decode cX8_common 44 = .ok (.lreturn, 1) := by decide +kernel
theorem dX8_tellPart_0 : decode cX8_tellPart 0 = .ok (.lload_n 1, 1) := by decide +kernel
theorem dX8_tellPart_1 : decode cX8_tellPart 1 = .ok (.ldc2_w 296, 3) := by decide +kernel
theorem dX8_tellPart_4 : decode cX8_tellPart 4 = .ok (.invokestatic 298, 3) := by decide +kernel
theorem dX8_tellPart_7 : decode cX8_tellPart 7 = .ok (.lstore_n 3, 1) := by decide +kernel
theorem dX8_tellPart_8 : decode cX8_tellPart 8 = .ok (.aload_n 0, 1) := by decide +kernel
theorem dX8_tellPart_9 : decode cX8_tellPart 9 = .ok (.lload_n 1, 1) := by decide +kernel
theorem dX8_tellPart_10 : decode cX8_tellPart 10 = .ok (.lload_n 3, 1) := by decide +kernel
theorem dX8_tellPart_11 : decode cX8_tellPart 11 = .ok (.ldiv, 1) := by decide +kernel
theorem dX8_tellPart_12 : decode cX8_tellPart 12 = .ok (.putfield 302, 3) := by decide +kernel
theorem dX8_tellPart_15 : decode cX8_tellPart 15 = .ok (.aload_n 0, 1) := by decide +kernel
theorem dX8_tellPart_16 : decode cX8_tellPart 16 = .ok (.ldc2_w 296, 3) := by decide +kernel
theorem dX8_tellPart_19 : decode cX8_tellPart 19 = .ok (.lload_n 3, 1) := by decide +kernel
theorem dX8_tellPart_20 : decode cX8_tellPart 20 = .ok (.ldiv, 1) := by decide +kernel
theorem dX8_tellPart_21 : decode cX8_tellPart 21 = .ok (.putfield 55, 3) := by decide +kernel
theorem dX8_tellPart_24 : decode cX8_tellPart 24 = .ok (.return_, 1) := by decide +kernel
theorem dX8_odds_0 : decode cX8_odds 0 = .ok (.iload_n 1, 1) := by decide +kernel
theorem dX8_odds_1 : decode cX8_odds 1 = .ok (.i2l, 1) := by decide +kernel
theorem dX8_odds_2 : decode cX8_odds 2 = .ok (.lconst 0, 1) := by decide +kernel
theorem dX8_odds_3 : decode cX8_odds 3 = .ok (.ldc2_w 131, 3) := by decide +kernel
theorem dX8_odds_6 : decode cX8_odds 6 = .ok (.invokestatic 133, 3) := by decide +kernel
theorem dX8_odds_9 : decode cX8_odds 9 = .ok (.ifCond .ne 5, 3) := by decide +kernel
theorem dX8_odds_12 : decode cX8_odds 12 = .ok (.iconst (-1), 1) := by decide +kernel
theorem dX8_odds_13 : decode cX8_odds 13 = .ok (.ireturn, 1) := by decide +kernel
theorem dX8_odds_14 : decode cX8_odds 14 = .ok (.aload_n 0, 1) := by decide +kernel
theorem dX8_odds_15 : decode cX8_odds 15 = .ok (.getfield 207, 3) := by decide +kernel
theorem dX8_odds_18 : decode cX8_odds 18 = .ok (.ifCond .ne 6, 3) := by decide +kernel
theorem dX8_odds_21 : decode cX8_odds 21 = .ok (.bipush (-4), 2) := by decide +kernel
theorem dX8_odds_23 : decode cX8_odds 23 = .ok (.ireturn, 1) := by decide +kernel
theorem dX8_odds_24 : decode cX8_odds 24 = .ok (.aload_n 0, 1) := by decide +kernel
theorem dX8_odds_25 : decode cX8_odds 25 = .ok (.getfield 207, 3) := by decide +kernel
theorem dX8_odds_28 : decode cX8_odds 28 = .ok (.iconst 1, 1) := by decide +kernel
theorem dX8_odds_29 : decode cX8_odds 29 = .ok (.isub, 1) := by decide +kernel
theorem dX8_odds_30 : decode cX8_odds 30 = .ok (.istore_n 2, 1) := by decide +kernel
theorem dX8_odds_31 : decode cX8_odds 31 = .ok (.iload_n 2, 1) := by decide +kernel
theorem dX8_odds_32 : decode cX8_odds 32 = .ok (.ifCond .lt 110, 3) := by decide +kernel
theorem dX8_odds_35 : decode cX8_odds 35 = .ok (.aload_n 0, 1) := by decide +kernel
theorem dX8_odds_36 : decode cX8_odds 36 = .ok (.getfield 90, 3) := by decide +kernel
theorem dX8_odds_39 : decode cX8_odds 39 = .ok (.iload_n 2, 1) := by decide +kernel
theorem dX8_odds_40 : decode cX8_odds 40 = .ok (.aload_n 0, 1) := by decide +kernel
theorem dX8_odds_41 : decode cX8_odds 41 = .ok (.getfield 22, 3) := by decide +kernel
theorem dX8_odds_44 : decode cX8_odds 44 = .ok (.iload_n 2, 1) := by decide +kernel
theorem dX8_odds_45 : decode cX8_odds 45 = .ok (.iaload, 1) := by decide +kernel
theorem dX8_odds_46 : decode cX8_odds 46 = .ok (.invokestatic 169, 3) := by decide +kernel
theorem dX8_odds_49 : decode cX8_odds 49 = .ok (.ifCond .eq 19, 3) := by decide +kernel
theorem dX8_odds_52 : decode cX8_odds 52 = .ok (.aload_n 0, 1) := by decide +kernel
theorem dX8_odds_53 : decode cX8_odds 53 = .ok (.getfield 25, 3) := by decide +kernel
theorem dX8_odds_56 : decode cX8_odds 56 = .ok (.iload_n 2, 1) := by decide +kernel
theorem dX8_odds_57 : decode cX8_odds 57 = .ok (.iaload, 1) := by decide +kernel
theorem dX8_odds_58 : decode cX8_odds 58 = .ok (.iload_n 1, 1) := by decide +kernel
theorem dX8_odds_59 : decode cX8_odds 59 = .ok (.if_icmp .ne 9, 3) := by decide +kernel
theorem dX8_odds_62 : decode cX8_odds 62 = .ok (.ldc2_w 296, 3) := by decide +kernel
theorem dX8_odds_65 : decode cX8_odds 65 = .ok (.goto 4, 3) := by decide +kernel
theorem dX8_odds_68 : decode cX8_odds 68 = .ok (.lconst 0, 1) := by decide +kernel
theorem dX8_odds_69 : decode cX8_odds 69 = .ok (.lastore, 1) := by decide +kernel
theorem dX8_odds_70 : decode cX8_odds 70 = .ok (.aload_n 0, 1) := by decide +kernel
theorem dX8_odds_71 : decode cX8_odds 71 = .ok (.iload_n 2, 1) := by decide +kernel
theorem dX8_odds_72 : decode cX8_odds 72 = .ok (.invokevirtual 222, 3) := by decide +kernel
theorem dX8_odds_75 : decode cX8_odds 75 = .ok (.invokestatic 256, 3) := by decide +kernel
theorem dX8_odds_78 : decode cX8_odds 78 = .ok (.istore_n 3, 1) := by decide +kernel
theorem dX8_odds_79 : decode cX8_odds 79 = .ok (.iconst 0, 1) := by decide +kernel
theorem dX8_odds_80 : decode cX8_odds 80 = .ok (.istore 4, 2) := by decide +kernel
theorem dX8_odds_82 : decode cX8_odds 82 = .ok (.iload 4, 2) := by decide +kernel
theorem dX8_odds_84 : decode cX8_odds 84 = .ok (.aload_n 0, 1) := by decide +kernel
theorem dX8_odds_85 : decode cX8_odds 85 = .ok (.getfield 210, 3) := by decide +kernel
theorem dX8_odds_88 : decode cX8_odds 88 = .ok (.if_icmp .ge 48, 3) := by decide +kernel
theorem dX8_odds_91 : decode cX8_odds 91 = .ok (.aload_n 0, 1) := by decide +kernel
theorem dX8_odds_92 : decode cX8_odds 92 = .ok (.getfield 90, 3) := by decide +kernel
theorem dX8_odds_95 : decode cX8_odds 95 = .ok (.iload_n 2, 1) := by decide +kernel
theorem dX8_odds_96 : decode cX8_odds 96 = .ok (.dup2, 1) := by decide +kernel
theorem dX8_odds_97 : decode cX8_odds 97 = .ok (.laload, 1) := by decide +kernel
theorem dX8_odds_98 : decode cX8_odds 98 = .ok (.aload_n 0, 1) := by decide +kernel
theorem dX8_odds_99 : decode cX8_odds 99 = .ok (.getfield 28, 3) := by decide +kernel
theorem dX8_odds_102 : decode cX8_odds 102 = .ok (.iload 4, 2) := by decide +kernel
theorem dX8_odds_104 : decode cX8_odds 104 = .ok (.iaload, 1) := by decide +kernel
theorem dX8_odds_105 : decode cX8_odds 105 = .ok (.iload_n 2, 1) := by decide +kernel
theorem dX8_odds_106 : decode cX8_odds 106 = .ok (.if_icmp .ne 21, 3) := by decide +kernel
theorem dX8_odds_109 : decode cX8_odds 109 = .ok (.aload_n 0, 1) := by decide +kernel
theorem dX8_odds_110 : decode cX8_odds 110 = .ok (.getfield 90, 3) := by decide +kernel
theorem dX8_odds_113 : decode cX8_odds 113 = .ok (.aload_n 0, 1) := by decide +kernel
theorem dX8_odds_114 : decode cX8_odds 114 = .ok (.getfield 31, 3) := by decide +kernel
theorem dX8_odds_117 : decode cX8_odds 117 = .ok (.iload 4, 2) := by decide +kernel
theorem dX8_odds_119 : decode cX8_odds 119 = .ok (.iaload, 1) := by decide +kernel
theorem dX8_odds_120 : decode cX8_odds 120 = .ok (.laload, 1) := by decide +kernel
theorem dX8_odds_121 : decode cX8_odds 121 = .ok (.iload_n 3, 1) := by decide +kernel
theorem dX8_odds_122 : decode cX8_odds 122 = .ok (.i2l, 1) := by decide +kernel
theorem dX8_odds_123 : decode cX8_odds 123 = .ok (.ldiv, 1) := by decide +kernel
theorem dX8_odds_124 : decode cX8_odds 124 = .ok (.goto 4, 3) := by decide +kernel
theorem dX8_odds_127 : decode cX8_odds 127 = .ok (.lconst 0, 1) := by decide +kernel
theorem dX8_odds_128 : decode cX8_odds 128 = .ok (.ladd, 1) := by decide +kernel
theorem dX8_odds_129 : decode cX8_odds 129 = .ok (.lastore, 1) := by decide +kernel
theorem dX8_odds_130 : decode cX8_odds 130 = .ok (.iinc 4 1, 3) := by decide +kernel
theorem dX8_odds_133 : decode cX8_odds 133 = .ok (.goto (-51), 3) := by decide +kernel
theorem dX8_odds_136 : decode cX8_odds 136 = .ok (.iinc 2 (-1), 3) := by decide +kernel
theorem dX8_odds_139 : decode cX8_odds 139 = .ok (.goto (-108), 3) := by decide +kernel
theorem dX8_odds_142 : decode cX8_odds 142 = .ok (.aload_n 0, 1) := by decide +kernel
theorem dX8_odds_143 : decode cX8_odds 143 = .ok (.aload_n 0, 1) := by decide +kernel
theorem dX8_odds_144 : decode cX8_odds 144 = .ok (.getfield 90, 3) := by decide +kernel
theorem dX8_odds_147 : decode cX8_odds 147 = .ok (.aload_n 0, 1) := by decide +kernel
theorem dX8_odds_148 : decode cX8_odds 148 = .ok (.invokevirtual 274, 3) := by decide +kernel
theorem dX8_odds_151 : decode cX8_odds 151 = .ok (.laload, 1) := by decide +kernel
theorem dX8_odds_152 : decode cX8_odds 152 = .ok (.invokevirtual 305, 3) := by decide +kernel
theorem dX8_odds_155 : decode cX8_odds 155 = .ok (.iconst 1, 1) := by decide +kernel
theorem dX8_odds_156 : decode cX8_odds 156 = .ok (.ireturn, 1) := by decide +kernel
theorem dX8_years_0 : decode cX8_years 0 = .ok (.aload_n 0, 1) := by decide +kernel
theorem dX8_years_1 : decode cX8_years 1 = .ok (.getfield 207, 3) := by decide +kernel
theorem dX8_years_4 : decode cX8_years 4 = .ok (.ifCond .ne 6, 3) := by decide +kernel
theorem dX8_years_7 : decode cX8_years 7 = .ok (.bipush (-4), 2) := by decide +kernel
theorem dX8_years_9 : decode cX8_years 9 = .ok (.ireturn, 1) := by decide +kernel
theorem dX8_years_10 : decode cX8_years 10 = .ok (.aload_n 0, 1) := by decide +kernel
theorem dX8_years_11 : decode cX8_years 11 = .ok (.getfield 207, 3) := by decide +kernel
theorem dX8_years_14 : decode cX8_years 14 = .ok (.iconst 1, 1) := by decide +kernel
theorem dX8_years_15 : decode cX8_years 15 = .ok (.isub, 1) := by decide +kernel
theorem dX8_years_16 : decode cX8_years 16 = .ok (.istore_n 1, 1) := by decide +kernel
theorem dX8_years_17 : decode cX8_years 17 = .ok (.iload_n 1, 1) := by decide +kernel
theorem dX8_years_18 : decode cX8_years 18 = .ok (.ifCond .lt 185, 3) := by decide +kernel
theorem dX8_years_21 : decode cX8_years 21 = .ok (.aload_n 0, 1) := by decide +kernel
theorem dX8_years_22 : decode cX8_years 22 = .ok (.getfield 94, 3) := by decide +kernel
theorem dX8_years_25 : decode cX8_years 25 = .ok (.iload_n 1, 1) := by decide +kernel
theorem dX8_years_26 : decode cX8_years 26 = .ok (.aload_n 0, 1) := by decide +kernel
theorem dX8_years_27 : decode cX8_years 27 = .ok (.getfield 22, 3) := by decide +kernel
theorem dX8_years_30 : decode cX8_years 30 = .ok (.iload_n 1, 1) := by decide +kernel
theorem dX8_years_31 : decode cX8_years 31 = .ok (.iaload, 1) := by decide +kernel
theorem dX8_years_32 : decode cX8_years 32 = .ok (.invokestatic 169, 3) := by decide +kernel
theorem dX8_years_35 : decode cX8_years 35 = .ok (.ifCond .eq 7, 3) := by decide +kernel
theorem dX8_years_38 : decode cX8_years 38 = .ok (.iconst 0, 1) := by decide +kernel
theorem dX8_years_39 : decode cX8_years 39 = .ok (.goto 5, 3) := by decide +kernel
theorem dX8_years_42 : decode cX8_years 42 = .ok (.bipush (-9), 2) := by decide +kernel
theorem dX8_years_44 : decode cX8_years 44 = .ok (.iastore, 1) := by decide +kernel
theorem dX8_years_45 : decode cX8_years 45 = .ok (.aload_n 0, 1) := by decide +kernel
theorem dX8_years_46 : decode cX8_years 46 = .ok (.getfield 97, 3) := by decide +kernel
theorem dX8_years_49 : decode cX8_years 49 = .ok (.iload_n 1, 1) := by decide +kernel
theorem dX8_years_50 : decode cX8_years 50 = .ok (.aload_n 0, 1) := by decide +kernel
theorem dX8_years_51 : decode cX8_years 51 = .ok (.getfield 94, 3) := by decide +kernel
theorem dX8_years_54 : decode cX8_years 54 = .ok (.iload_n 1, 1) := by decide +kernel
theorem dX8_years_55 : decode cX8_years 55 = .ok (.iaload, 1) := by decide +kernel
theorem dX8_years_56 : decode cX8_years 56 = .ok (.iastore, 1) := by decide +kernel
theorem dX8_years_57 : decode cX8_years 57 = .ok (.iconst 0, 1) := by decide +kernel
theorem dX8_years_58 : decode cX8_years 58 = .ok (.istore_n 2, 1) := by decide +kernel
theorem dX8_years_59 : decode cX8_years 59 = .ok (.iload_n 2, 1) := by decide +kernel
theorem dX8_years_60 : decode cX8_years 60 = .ok (.aload_n 0, 1) := by decide +kernel
theorem dX8_years_61 : decode cX8_years 61 = .ok (.getfield 210, 3) := by decide +kernel
theorem dX8_years_64 : decode cX8_years 64 = .ok (.if_icmp .ge 133, 3) := by decide +kernel
theorem dX8_years_67 : decode cX8_years 67 = .ok (.aload_n 0, 1) := by decide +kernel
theorem dX8_years_68 : decode cX8_years 68 = .ok (.getfield 28, 3) := by decide +kernel
theorem dX8_years_71 : decode cX8_years 71 = .ok (.iload_n 2, 1) := by decide +kernel
theorem dX8_years_72 : decode cX8_years 72 = .ok (.iaload, 1) := by decide +kernel
theorem dX8_years_73 : decode cX8_years 73 = .ok (.iload_n 1, 1) := by decide +kernel
theorem dX8_years_74 : decode cX8_years 74 = .ok (.if_icmp .ne 117, 3) := by decide +kernel
theorem dX8_years_77 : decode cX8_years 77 = .ok (.aload_n 0, 1) := by decide +kernel
theorem dX8_years_78 : decode cX8_years 78 = .ok (.getfield 94, 3) := by decide +kernel
theorem dX8_years_81 : decode cX8_years 81 = .ok (.aload_n 0, 1) := by decide +kernel
theorem dX8_years_82 : decode cX8_years 82 = .ok (.getfield 31, 3) := by decide +kernel
theorem dX8_years_85 : decode cX8_years 85 = .ok (.iload_n 2, 1) := by decide +kernel
theorem dX8_years_86 : decode cX8_years 86 = .ok (.iaload, 1) := by decide +kernel
theorem dX8_years_87 : decode cX8_years 87 = .ok (.iaload, 1) := by decide +kernel
theorem dX8_years_88 : decode cX8_years 88 = .ok (.ifCond .lt 103, 3) := by decide +kernel
theorem dX8_years_91 : decode cX8_years 91 = .ok (.aload_n 0, 1) := by decide +kernel
theorem dX8_years_92 : decode cX8_years 92 = .ok (.getfield 94, 3) := by decide +kernel
theorem dX8_years_95 : decode cX8_years 95 = .ok (.aload_n 0, 1) := by decide +kernel
theorem dX8_years_96 : decode cX8_years 96 = .ok (.getfield 31, 3) := by decide +kernel
theorem dX8_years_99 : decode cX8_years 99 = .ok (.iload_n 2, 1) := by decide +kernel
theorem dX8_years_100 : decode cX8_years 100 = .ok (.iaload, 1) := by decide +kernel
theorem dX8_years_101 : decode cX8_years 101 = .ok (.iaload, 1) := by decide +kernel
theorem dX8_years_102 : decode cX8_years 102 = .ok (.aload_n 0, 1) := by decide +kernel
theorem dX8_years_103 : decode cX8_years 103 = .ok (.iload_n 1, 1) := by decide +kernel
theorem dX8_years_104 : decode cX8_years 104 = .ok (.invokevirtual 287, 3) := by decide +kernel
theorem dX8_years_107 : decode cX8_years 107 = .ok (.iadd, 1) := by decide +kernel
theorem dX8_years_108 : decode cX8_years 108 = .ok (.istore_n 3, 1) := by decide +kernel
theorem dX8_years_109 : decode cX8_years 109 = .ok (.aload_n 0, 1) := by decide +kernel
theorem dX8_years_110 : decode cX8_years 110 = .ok (.getfield 97, 3) := by decide +kernel
theorem dX8_years_113 : decode cX8_years 113 = .ok (.aload_n 0, 1) := by decide +kernel
theorem dX8_years_114 : decode cX8_years 114 = .ok (.getfield 31, 3) := by decide +kernel
theorem dX8_years_117 : decode cX8_years 117 = .ok (.iload_n 2, 1) := by decide +kernel
theorem dX8_years_118 : decode cX8_years 118 = .ok (.iaload, 1) := by decide +kernel
theorem dX8_years_119 : decode cX8_years 119 = .ok (.iaload, 1) := by decide +kernel
theorem dX8_years_120 : decode cX8_years 120 = .ok (.aload_n 0, 1) := by decide +kernel
theorem dX8_years_121 : decode cX8_years 121 = .ok (.iload_n 1, 1) := by decide +kernel
theorem dX8_years_122 : decode cX8_years 122 = .ok (.invokevirtual 287, 3) := by decide +kernel
theorem dX8_years_125 : decode cX8_years 125 = .ok (.iadd, 1) := by decide +kernel
theorem dX8_years_126 : decode cX8_years 126 = .ok (.istore 4, 2) := by decide +kernel
theorem dX8_years_128 : decode cX8_years 128 = .ok (.aload_n 0, 1) := by decide +kernel
theorem dX8_years_129 : decode cX8_years 129 = .ok (.getfield 94, 3) := by decide +kernel
theorem dX8_years_132 : decode cX8_years 132 = .ok (.iload_n 1, 1) := by decide +kernel
theorem dX8_years_133 : decode cX8_years 133 = .ok (.aload_n 0, 1) := by decide +kernel
theorem dX8_years_134 : decode cX8_years 134 = .ok (.getfield 94, 3) := by decide +kernel
theorem dX8_years_137 : decode cX8_years 137 = .ok (.iload_n 1, 1) := by decide +kernel
theorem dX8_years_138 : decode cX8_years 138 = .ok (.iaload, 1) := by decide +kernel
theorem dX8_years_139 : decode cX8_years 139 = .ok (.ifCond .lt 13, 3) := by decide +kernel
theorem dX8_years_142 : decode cX8_years 142 = .ok (.iload_n 3, 1) := by decide +kernel
theorem dX8_years_143 : decode cX8_years 143 = .ok (.aload_n 0, 1) := by decide +kernel
theorem dX8_years_144 : decode cX8_years 144 = .ok (.getfield 94, 3) := by decide +kernel
theorem dX8_years_147 : decode cX8_years 147 = .ok (.iload_n 1, 1) := by decide +kernel
theorem dX8_years_148 : decode cX8_years 148 = .ok (.iaload, 1) := by decide +kernel
theorem dX8_years_149 : decode cX8_years 149 = .ok (.if_icmp .ge 7, 3) := by decide +kernel
theorem dX8_years_152 : decode cX8_years 152 = .ok (.iload_n 3, 1) := by decide +kernel
theorem dX8_years_153 : decode cX8_years 153 = .ok (.goto 9, 3) := by decide +kernel
theorem dX8_years_156 : decode cX8_years 156 = .ok (.aload_n 0, 1) := by decide +kernel
theorem dX8_years_157 : decode cX8_years 157 = .ok (.getfield 94, 3) := by decide +kernel
theorem dX8_years_160 : decode cX8_years 160 = .ok (.iload_n 1, 1) := by decide +kernel
theorem dX8_years_161 : decode cX8_years 161 = .ok (.iaload, 1) := by decide +kernel
theorem dX8_years_162 : decode cX8_years 162 = .ok (.iastore, 1) := by decide +kernel
theorem dX8_years_163 : decode cX8_years 163 = .ok (.aload_n 0, 1) := by decide +kernel
theorem dX8_years_164 : decode cX8_years 164 = .ok (.getfield 97, 3) := by decide +kernel
theorem dX8_years_167 : decode cX8_years 167 = .ok (.iload_n 1, 1) := by decide +kernel
theorem dX8_years_168 : decode cX8_years 168 = .ok (.iload 4, 2) := by decide +kernel
theorem dX8_years_170 : decode cX8_years 170 = .ok (.aload_n 0, 1) := by decide +kernel
theorem dX8_years_171 : decode cX8_years 171 = .ok (.getfield 97, 3) := by decide +kernel
theorem dX8_years_174 : decode cX8_years 174 = .ok (.iload_n 1, 1) := by decide +kernel
theorem dX8_years_175 : decode cX8_years 175 = .ok (.iaload, 1) := by decide +kernel
theorem dX8_years_176 : decode cX8_years 176 = .ok (.if_icmp .le 8, 3) := by decide +kernel
theorem dX8_years_179 : decode cX8_years 179 = .ok (.iload 4, 2) := by decide +kernel
theorem dX8_years_181 : decode cX8_years 181 = .ok (.goto 9, 3) := by decide +kernel
theorem dX8_years_184 : decode cX8_years 184 = .ok (.aload_n 0, 1) := by decide +kernel
theorem dX8_years_185 : decode cX8_years 185 = .ok (.getfield 97, 3) := by decide +kernel
theorem dX8_years_188 : decode cX8_years 188 = .ok (.iload_n 1, 1) := by decide +kernel
theorem dX8_years_189 : decode cX8_years 189 = .ok (.iaload, 1) := by decide +kernel
theorem dX8_years_190 : decode cX8_years 190 = .ok (.iastore, 1) := by decide +kernel
theorem dX8_years_191 : decode cX8_years 191 = .ok (.iinc 2 1, 3) := by decide +kernel
theorem dX8_years_194 : decode cX8_years 194 = .ok (.goto (-135), 3) := by decide +kernel
theorem dX8_years_197 : decode cX8_years 197 = .ok (.iinc 1 (-1), 3) := by decide +kernel
theorem dX8_years_200 : decode cX8_years 200 = .ok (.goto (-183), 3) := by decide +kernel
theorem dX8_years_203 : decode cX8_years 203 = .ok (.aload_n 0, 1) := by decide +kernel
theorem dX8_years_204 : decode cX8_years 204 = .ok (.invokevirtual 274, 3) := by decide +kernel
theorem dX8_years_207 : decode cX8_years 207 = .ok (.istore_n 1, 1) := by decide +kernel
theorem dX8_years_208 : decode cX8_years 208 = .ok (.aload_n 0, 1) := by decide +kernel
theorem dX8_years_209 : decode cX8_years 209 = .ok (.getfield 94, 3) := by decide +kernel
theorem dX8_years_212 : decode cX8_years 212 = .ok (.iload_n 1, 1) := by decide +kernel
theorem dX8_years_213 : decode cX8_years 213 = .ok (.iaload, 1) := by decide +kernel
theorem dX8_years_214 : decode cX8_years 214 = .ok (.ifCond .ge 8, 3) := by decide +kernel
theorem dX8_years_217 : decode cX8_years 217 = .ok (.bipush (-9), 2) := by decide +kernel
theorem dX8_years_219 : decode cX8_years 219 = .ok (.goto 19, 3) := by decide +kernel
theorem dX8_years_222 : decode cX8_years 222 = .ok (.aload_n 0, 1) := by decide +kernel
theorem dX8_years_223 : decode cX8_years 223 = .ok (.aload_n 0, 1) := by decide +kernel
theorem dX8_years_224 : decode cX8_years 224 = .ok (.getfield 94, 3) := by decide +kernel
theorem dX8_years_227 : decode cX8_years 227 = .ok (.iload_n 1, 1) := by decide +kernel
theorem dX8_years_228 : decode cX8_years 228 = .ok (.iaload, 1) := by decide +kernel
theorem dX8_years_229 : decode cX8_years 229 = .ok (.aload_n 0, 1) := by decide +kernel
theorem dX8_years_230 : decode cX8_years 230 = .ok (.getfield 97, 3) := by decide +kernel
theorem dX8_years_233 : decode cX8_years 233 = .ok (.iload_n 1, 1) := by decide +kernel
theorem dX8_years_234 : decode cX8_years 234 = .ok (.iaload, 1) := by decide +kernel
theorem dX8_years_235 : decode cX8_years 235 = .ok (.invokevirtual 151, 3) := by decide +kernel
theorem dX8_years_238 : decode cX8_years 238 = .ok (.ireturn, 1) := by decide +kernel
theorem dX8_just_0 : decode cX8_just 0 = .ok (.iload_n 1, 1) := by decide +kernel
theorem dX8_just_1 : decode cX8_just 1 = .ok (.i2l, 1) := by decide +kernel
theorem dX8_just_2 : decode cX8_just 2 = .ok (.lconst 0, 1) := by decide +kernel
theorem dX8_just_3 : decode cX8_just 3 = .ok (.ldc2_w 309, 3) := by decide +kernel
theorem dX8_just_6 : decode cX8_just 6 = .ok (.invokestatic 133, 3) := by decide +kernel
theorem dX8_just_9 : decode cX8_just 9 = .ok (.ifCond .ne 5, 3) := by decide +kernel
theorem dX8_just_12 : decode cX8_just 12 = .ok (.iconst (-1), 1) := by decide +kernel
theorem dX8_just_13 : decode cX8_just 13 = .ok (.ireturn, 1) := by decide +kernel
theorem dX8_just_14 : decode cX8_just 14 = .ok (.aload_n 0, 1) := by decide +kernel
theorem dX8_just_15 : decode cX8_just 15 = .ok (.getfield 207, 3) := by decide +kernel
theorem dX8_just_18 : decode cX8_just 18 = .ok (.ifCond .ne 6, 3) := by decide +kernel
theorem dX8_just_21 : decode cX8_just 21 = .ok (.bipush (-4), 2) := by decide +kernel
theorem dX8_just_23 : decode cX8_just 23 = .ok (.ireturn, 1) := by decide +kernel
theorem dX8_just_24 : decode cX8_just 24 = .ok (.aload_n 0, 1) := by decide +kernel
theorem dX8_just_25 : decode cX8_just 25 = .ok (.getfield 207, 3) := by decide +kernel
theorem dX8_just_28 : decode cX8_just 28 = .ok (.iconst 1, 1) := by decide +kernel
theorem dX8_just_29 : decode cX8_just 29 = .ok (.isub, 1) := by decide +kernel
theorem dX8_just_30 : decode cX8_just 30 = .ok (.istore_n 2, 1) := by decide +kernel
theorem dX8_just_31 : decode cX8_just 31 = .ok (.iload_n 2, 1) := by decide +kernel
theorem dX8_just_32 : decode cX8_just 32 = .ok (.ifCond .lt 134, 3) := by decide +kernel
theorem dX8_just_35 : decode cX8_just 35 = .ok (.iconst 0, 1) := by decide +kernel
theorem dX8_just_36 : decode cX8_just 36 = .ok (.istore_n 3, 1) := by decide +kernel
theorem dX8_just_37 : decode cX8_just 37 = .ok (.iload_n 3, 1) := by decide +kernel
theorem dX8_just_38 : decode cX8_just 38 = .ok (.bipush 9, 2) := by decide +kernel
theorem dX8_just_40 : decode cX8_just 40 = .ok (.if_icmp .ge 120, 3) := by decide +kernel
theorem dX8_just_43 : decode cX8_just 43 = .ok (.aload_n 0, 1) := by decide +kernel
theorem dX8_just_44 : decode cX8_just 44 = .ok (.getfield 100, 3) := by decide +kernel
theorem dX8_just_47 : decode cX8_just 47 = .ok (.bipush 9, 2) := by decide +kernel
theorem dX8_just_49 : decode cX8_just 49 = .ok (.iload_n 2, 1) := by decide +kernel
theorem dX8_just_50 : decode cX8_just 50 = .ok (.imul, 1) := by decide +kernel
theorem dX8_just_51 : decode cX8_just 51 = .ok (.iload_n 3, 1) := by decide +kernel
theorem dX8_just_52 : decode cX8_just 52 = .ok (.iadd, 1) := by decide +kernel
theorem dX8_just_53 : decode cX8_just 53 = .ok (.iload_n 3, 1) := by decide +kernel
theorem dX8_just_54 : decode cX8_just 54 = .ok (.ifCond .ne 19, 3) := by decide +kernel
theorem dX8_just_57 : decode cX8_just 57 = .ok (.aload_n 0, 1) := by decide +kernel
theorem dX8_just_58 : decode cX8_just 58 = .ok (.getfield 22, 3) := by decide +kernel
theorem dX8_just_61 : decode cX8_just 61 = .ok (.iload_n 2, 1) := by decide +kernel
theorem dX8_just_62 : decode cX8_just 62 = .ok (.iaload, 1) := by decide +kernel
theorem dX8_just_63 : decode cX8_just 63 = .ok (.invokestatic 169, 3) := by decide +kernel
theorem dX8_just_66 : decode cX8_just 66 = .ok (.ifCond .eq 7, 3) := by decide +kernel
theorem dX8_just_69 : decode cX8_just 69 = .ok (.iconst 1, 1) := by decide +kernel
theorem dX8_just_70 : decode cX8_just 70 = .ok (.goto 4, 3) := by decide +kernel
theorem dX8_just_73 : decode cX8_just 73 = .ok (.iconst 0, 1) := by decide +kernel
theorem dX8_just_74 : decode cX8_just 74 = .ok (.iastore, 1) := by decide +kernel
theorem dX8_just_75 : decode cX8_just 75 = .ok (.iload_n 3, 1) := by decide +kernel
theorem dX8_just_76 : decode cX8_just 76 = .ok (.aload_n 0, 1) := by decide +kernel
theorem dX8_just_77 : decode cX8_just 77 = .ok (.iload_n 2, 1) := by decide +kernel
theorem dX8_just_78 : decode cX8_just 78 = .ok (.invokevirtual 287, 3) := by decide +kernel
theorem dX8_just_81 : decode cX8_just 81 = .ok (.isub, 1) := by decide +kernel
theorem dX8_just_82 : decode cX8_just 82 = .ok (.istore 4, 2) := by decide +kernel
theorem dX8_just_84 : decode cX8_just 84 = .ok (.iconst 0, 1) := by decide +kernel
theorem dX8_just_85 : decode cX8_just 85 = .ok (.istore 5, 2) := by decide +kernel
theorem dX8_just_87 : decode cX8_just 87 = .ok (.iload 5, 2) := by decide +kernel
theorem dX8_just_89 : decode cX8_just 89 = .ok (.aload_n 0, 1) := by decide +kernel
theorem dX8_just_90 : decode cX8_just 90 = .ok (.getfield 210, 3) := by decide +kernel
theorem dX8_just_93 : decode cX8_just 93 = .ok (.if_icmp .ge 61, 3) := by decide +kernel
theorem dX8_just_96 : decode cX8_just 96 = .ok (.iload 4, 2) := by decide +kernel
theorem dX8_just_98 : decode cX8_just 98 = .ok (.ifCond .lt 56, 3) := by decide +kernel
theorem dX8_just_101 : decode cX8_just 101 = .ok (.aload_n 0, 1) := by decide +kernel
theorem dX8_just_102 : decode cX8_just 102 = .ok (.getfield 100, 3) := by decide +kernel
theorem dX8_just_105 : decode cX8_just 105 = .ok (.bipush 9, 2) := by decide +kernel
theorem dX8_just_107 : decode cX8_just 107 = .ok (.iload_n 2, 1) := by decide +kernel
theorem dX8_just_108 : decode cX8_just 108 = .ok (.imul, 1) := by decide +kernel
theorem dX8_just_109 : decode cX8_just 109 = .ok (.iload_n 3, 1) := by decide +kernel
theorem dX8_just_110 : decode cX8_just 110 = .ok (.iadd, 1) := by decide +kernel
theorem dX8_just_111 : decode cX8_just 111 = .ok (.dup2, 1) := by decide +kernel
theorem dX8_just_112 : decode cX8_just 112 = .ok (.iaload, 1) := by decide +kernel
theorem dX8_just_113 : decode cX8_just 113 = .ok (.aload_n 0, 1) := by decide +kernel
theorem dX8_just_114 : decode cX8_just 114 = .ok (.getfield 28, 3) := by decide +kernel
theorem dX8_just_117 : decode cX8_just 117 = .ok (.iload 5, 2) := by decide +kernel
theorem dX8_just_119 : decode cX8_just 119 = .ok (.iaload, 1) := by decide +kernel
theorem dX8_just_120 : decode cX8_just 120 = .ok (.iload_n 2, 1) := by decide +kernel
theorem dX8_just_121 : decode cX8_just 121 = .ok (.if_icmp .ne 24, 3) := by decide +kernel
theorem dX8_just_124 : decode cX8_just 124 = .ok (.aload_n 0, 1) := by decide +kernel
theorem dX8_just_125 : decode cX8_just 125 = .ok (.getfield 100, 3) := by decide +kernel
theorem dX8_just_128 : decode cX8_just 128 = .ok (.bipush 9, 2) := by decide +kernel
theorem dX8_just_130 : decode cX8_just 130 = .ok (.aload_n 0, 1) := by decide +kernel
theorem dX8_just_131 : decode cX8_just 131 = .ok (.getfield 31, 3) := by decide +kernel
theorem dX8_just_134 : decode cX8_just 134 = .ok (.iload 5, 2) := by decide +kernel
theorem dX8_just_136 : decode cX8_just 136 = .ok (.iaload, 1) := by decide +kernel
theorem dX8_just_137 : decode cX8_just 137 = .ok (.imul, 1) := by decide +kernel
theorem dX8_just_138 : decode cX8_just 138 = .ok (.iload 4, 2) := by decide +kernel
theorem dX8_just_140 : decode cX8_just 140 = .ok (.iadd, 1) := by decide +kernel
theorem dX8_just_141 : decode cX8_just 141 = .ok (.iaload, 1) := by decide +kernel
theorem dX8_just_142 : decode cX8_just 142 = .ok (.goto 4, 3) := by decide +kernel
theorem dX8_just_145 : decode cX8_just 145 = .ok (.iconst 0, 1) := by decide +kernel
theorem dX8_just_146 : decode cX8_just 146 = .ok (.iadd, 1) := by decide +kernel
theorem dX8_just_147 : decode cX8_just 147 = .ok (.iastore, 1) := by decide +kernel
theorem dX8_just_148 : decode cX8_just 148 = .ok (.iinc 5 1, 3) := by decide +kernel
theorem dX8_just_151 : decode cX8_just 151 = .ok (.goto (-64), 3) := by decide +kernel
theorem dX8_just_154 : decode cX8_just 154 = .ok (.iinc 3 1, 3) := by decide +kernel
theorem dX8_just_157 : decode cX8_just 157 = .ok (.goto (-120), 3) := by decide +kernel
theorem dX8_just_160 : decode cX8_just 160 = .ok (.iinc 2 (-1), 3) := by decide +kernel
theorem dX8_just_163 : decode cX8_just 163 = .ok (.goto (-132), 3) := by decide +kernel
theorem dX8_just_166 : decode cX8_just 166 = .ok (.aload_n 0, 1) := by decide +kernel
theorem dX8_just_167 : decode cX8_just 167 = .ok (.invokevirtual 274, 3) := by decide +kernel
theorem dX8_just_170 : decode cX8_just 170 = .ok (.istore_n 2, 1) := by decide +kernel
theorem dX8_just_171 : decode cX8_just 171 = .ok (.iload_n 1, 1) := by decide +kernel
theorem dX8_just_172 : decode cX8_just 172 = .ok (.aload_n 0, 1) := by decide +kernel
theorem dX8_just_173 : decode cX8_just 173 = .ok (.iload_n 2, 1) := by decide +kernel
theorem dX8_just_174 : decode cX8_just 174 = .ok (.invokevirtual 287, 3) := by decide +kernel
theorem dX8_just_177 : decode cX8_just 177 = .ok (.isub, 1) := by decide +kernel
theorem dX8_just_178 : decode cX8_just 178 = .ok (.istore_n 3, 1) := by decide +kernel
theorem dX8_just_179 : decode cX8_just 179 = .ok (.bipush (-9), 2) := by decide +kernel
theorem dX8_just_181 : decode cX8_just 181 = .ok (.istore 4, 2) := by decide +kernel
theorem dX8_just_183 : decode cX8_just 183 = .ok (.aload_n 0, 1) := by decide +kernel
theorem dX8_just_184 : decode cX8_just 184 = .ok (.getfield 210, 3) := by decide +kernel
theorem dX8_just_187 : decode cX8_just 187 = .ok (.iconst 1, 1) := by decide +kernel
theorem dX8_just_188 : decode cX8_just 188 = .ok (.isub, 1) := by decide +kernel
theorem dX8_just_189 : decode cX8_just 189 = .ok (.istore 5, 2) := by decide +kernel
theorem dX8_just_191 : decode cX8_just 191 = .ok (.iload 5, 2) := by decide +kernel
theorem dX8_just_193 : decode cX8_just 193 = .ok (.ifCond .lt 53, 3) := by decide +kernel
theorem dX8_just_196 : decode cX8_just 196 = .ok (.iload_n 3, 1) := by decide +kernel
theorem dX8_just_197 : decode cX8_just 197 = .ok (.ifCond .lt 49, 3) := by decide +kernel
theorem dX8_just_200 : decode cX8_just 200 = .ok (.aload_n 0, 1) := by decide +kernel
theorem dX8_just_201 : decode cX8_just 201 = .ok (.getfield 28, 3) := by decide +kernel
theorem dX8_just_204 : decode cX8_just 204 = .ok (.iload 5, 2) := by decide +kernel
theorem dX8_just_206 : decode cX8_just 206 = .ok (.iaload, 1) := by decide +kernel
theorem dX8_just_207 : decode cX8_just 207 = .ok (.iload_n 2, 1) := by decide +kernel
theorem dX8_just_208 : decode cX8_just 208 = .ok (.if_icmp .ne 28, 3) := by decide +kernel
theorem dX8_just_211 : decode cX8_just 211 = .ok (.aload_n 0, 1) := by decide +kernel
theorem dX8_just_212 : decode cX8_just 212 = .ok (.getfield 100, 3) := by decide +kernel
theorem dX8_just_215 : decode cX8_just 215 = .ok (.bipush 9, 2) := by decide +kernel
theorem dX8_just_217 : decode cX8_just 217 = .ok (.aload_n 0, 1) := by decide +kernel
theorem dX8_just_218 : decode cX8_just 218 = .ok (.getfield 31, 3) := by decide +kernel
theorem dX8_just_221 : decode cX8_just 221 = .ok (.iload 5, 2) := by decide +kernel
theorem dX8_just_223 : decode cX8_just 223 = .ok (.iaload, 1) := by decide +kernel
theorem dX8_just_224 : decode cX8_just 224 = .ok (.imul, 1) := by decide +kernel
theorem dX8_just_225 : decode cX8_just 225 = .ok (.iload_n 3, 1) := by decide +kernel
theorem dX8_just_226 : decode cX8_just 226 = .ok (.iadd, 1) := by decide +kernel
theorem dX8_just_227 : decode cX8_just 227 = .ok (.iaload, 1) := by decide +kernel
theorem dX8_just_228 : decode cX8_just 228 = .ok (.ifCond .le 8, 3) := by decide +kernel
theorem dX8_just_231 : decode cX8_just 231 = .ok (.iload 5, 2) := by decide +kernel
theorem dX8_just_233 : decode cX8_just 233 = .ok (.goto 5, 3) := by decide +kernel
theorem dX8_just_236 : decode cX8_just 236 = .ok (.iload 4, 2) := by decide +kernel
theorem dX8_just_238 : decode cX8_just 238 = .ok (.istore 4, 2) := by decide +kernel
theorem dX8_just_240 : decode cX8_just 240 = .ok (.iinc 5 (-1), 3) := by decide +kernel
theorem dX8_just_243 : decode cX8_just 243 = .ok (.goto (-52), 3) := by decide +kernel
theorem dX8_just_246 : decode cX8_just 246 = .ok (.aload_n 0, 1) := by decide +kernel
theorem dX8_just_247 : decode cX8_just 247 = .ok (.aload_n 0, 1) := by decide +kernel
theorem dX8_just_248 : decode cX8_just 248 = .ok (.getfield 100, 3) := by decide +kernel
theorem dX8_just_251 : decode cX8_just 251 = .ok (.bipush 9, 2) := by decide +kernel
theorem dX8_just_253 : decode cX8_just 253 = .ok (.iload_n 2, 1) := by decide +kernel
theorem dX8_just_254 : decode cX8_just 254 = .ok (.imul, 1) := by decide +kernel
theorem dX8_just_255 : decode cX8_just 255 = .ok (.iload_n 1, 1) := by decide +kernel
theorem dX8_just_256 : decode cX8_just 256 = .ok (.iadd, 1) := by decide +kernel
theorem dX8_just_257 : decode cX8_just 257 = .ok (.iaload, 1) := by decide +kernel
theorem dX8_just_258 : decode cX8_just 258 = .ok (.iload 4, 2) := by decide +kernel
theorem dX8_just_260 : decode cX8_just 260 = .ok (.invokevirtual 151, 3) := by decide +kernel
theorem dX8_just_263 : decode cX8_just 263 = .ok (.ireturn, 1) := by decide +kernel
theorem dX8_known_0 : decode cX8_known 0 = .ok (.aload_n 0, 1) := by decide +kernel
theorem dX8_known_1 : decode cX8_known 1 = .ok (.getfield 207, 3) := by decide +kernel
theorem dX8_known_4 : decode cX8_known 4 = .ok (.ifCond .ne 6, 3) := by decide +kernel
theorem dX8_known_7 : decode cX8_known 7 = .ok (.bipush (-4), 2) := by decide +kernel
theorem dX8_known_9 : decode cX8_known 9 = .ok (.ireturn, 1) := by decide +kernel
theorem dX8_known_10 : decode cX8_known 10 = .ok (.aload_n 0, 1) := by decide +kernel
theorem dX8_known_11 : decode cX8_known 11 = .ok (.invokevirtual 228, 3) := by decide +kernel
theorem dX8_known_14 : decode cX8_known 14 = .ok (.aload_n 0, 1) := by decide +kernel
theorem dX8_known_15 : decode cX8_known 15 = .ok (.getfield 207, 3) := by decide +kernel
theorem dX8_known_18 : decode cX8_known 18 = .ok (.iconst 1, 1) := by decide +kernel
theorem dX8_known_19 : decode cX8_known 19 = .ok (.isub, 1) := by decide +kernel
theorem dX8_known_20 : decode cX8_known 20 = .ok (.istore_n 1, 1) := by decide +kernel
theorem dX8_known_21 : decode cX8_known 21 = .ok (.iload_n 1, 1) := by decide +kernel
theorem dX8_known_22 : decode cX8_known 22 = .ok (.ifCond .lt 103, 3) := by decide +kernel
theorem dX8_known_25 : decode cX8_known 25 = .ok (.aload_n 0, 1) := by decide +kernel
theorem dX8_known_26 : decode cX8_known 26 = .ok (.getfield 97, 3) := by decide +kernel
theorem dX8_known_29 : decode cX8_known 29 = .ok (.iload_n 1, 1) := by decide +kernel
theorem dX8_known_30 : decode cX8_known 30 = .ok (.iconst 0, 1) := by decide +kernel
theorem dX8_known_31 : decode cX8_known 31 = .ok (.iastore, 1) := by decide +kernel
theorem dX8_known_32 : decode cX8_known 32 = .ok (.iconst 0, 1) := by decide +kernel
theorem dX8_known_33 : decode cX8_known 33 = .ok (.istore_n 2, 1) := by decide +kernel
theorem dX8_known_34 : decode cX8_known 34 = .ok (.iload_n 2, 1) := by decide +kernel
theorem dX8_known_35 : decode cX8_known 35 = .ok (.aload_n 0, 1) := by decide +kernel
theorem dX8_known_36 : decode cX8_known 36 = .ok (.getfield 210, 3) := by decide +kernel
theorem dX8_known_39 : decode cX8_known 39 = .ok (.if_icmp .ge 80, 3) := by decide +kernel
theorem dX8_known_42 : decode cX8_known 42 = .ok (.aload_n 0, 1) := by decide +kernel
theorem dX8_known_43 : decode cX8_known 43 = .ok (.getfield 80, 3) := by decide +kernel
theorem dX8_known_46 : decode cX8_known 46 = .ok (.iload_n 1, 1) := by decide +kernel
theorem dX8_known_47 : decode cX8_known 47 = .ok (.iaload, 1) := by decide +kernel
theorem dX8_known_48 : decode cX8_known 48 = .ok (.invokestatic 256, 3) := by decide +kernel
theorem dX8_known_51 : decode cX8_known 51 = .ok (.iconst 1, 1) := by decide +kernel
theorem dX8_known_52 : decode cX8_known 52 = .ok (.if_icmp .le 67, 3) := by decide +kernel
theorem dX8_known_55 : decode cX8_known 55 = .ok (.aload_n 0, 1) := by decide +kernel
theorem dX8_known_56 : decode cX8_known 56 = .ok (.getfield 28, 3) := by decide +kernel
theorem dX8_known_59 : decode cX8_known 59 = .ok (.iload_n 2, 1) := by decide +kernel
theorem dX8_known_60 : decode cX8_known 60 = .ok (.iaload, 1) := by decide +kernel
theorem dX8_known_61 : decode cX8_known 61 = .ok (.iload_n 1, 1) := by decide +kernel
theorem dX8_known_62 : decode cX8_known 62 = .ok (.if_icmp .ne 23, 3) := by decide +kernel
theorem dX8_known_65 : decode cX8_known 65 = .ok (.aload_n 0, 1) := by decide +kernel
theorem dX8_known_66 : decode cX8_known 66 = .ok (.iload_n 1, 1) := by decide +kernel
theorem dX8_known_67 : decode cX8_known 67 = .ok (.invokevirtual 287, 3) := by decide +kernel
theorem dX8_known_70 : decode cX8_known 70 = .ok (.aload_n 0, 1) := by decide +kernel
theorem dX8_known_71 : decode cX8_known 71 = .ok (.getfield 97, 3) := by decide +kernel
theorem dX8_known_74 : decode cX8_known 74 = .ok (.aload_n 0, 1) := by decide +kernel
theorem dX8_known_75 : decode cX8_known 75 = .ok (.getfield 31, 3) := by decide +kernel
theorem dX8_known_78 : decode cX8_known 78 = .ok (.iload_n 2, 1) := by decide +kernel
theorem dX8_known_79 : decode cX8_known 79 = .ok (.iaload, 1) := by decide +kernel
theorem dX8_known_80 : decode cX8_known 80 = .ok (.iaload, 1) := by decide +kernel
theorem dX8_known_81 : decode cX8_known 81 = .ok (.iadd, 1) := by decide +kernel
theorem dX8_known_82 : decode cX8_known 82 = .ok (.goto 4, 3) := by decide +kernel
theorem dX8_known_85 : decode cX8_known 85 = .ok (.iconst 0, 1) := by decide +kernel
theorem dX8_known_86 : decode cX8_known 86 = .ok (.istore_n 3, 1) := by decide +kernel
theorem dX8_known_87 : decode cX8_known 87 = .ok (.aload_n 0, 1) := by decide +kernel
theorem dX8_known_88 : decode cX8_known 88 = .ok (.getfield 97, 3) := by decide +kernel
theorem dX8_known_91 : decode cX8_known 91 = .ok (.iload_n 1, 1) := by decide +kernel
theorem dX8_known_92 : decode cX8_known 92 = .ok (.iload_n 3, 1) := by decide +kernel
theorem dX8_known_93 : decode cX8_known 93 = .ok (.aload_n 0, 1) := by decide +kernel
theorem dX8_known_94 : decode cX8_known 94 = .ok (.getfield 97, 3) := by decide +kernel
theorem dX8_known_97 : decode cX8_known 97 = .ok (.iload_n 1, 1) := by decide +kernel
theorem dX8_known_98 : decode cX8_known 98 = .ok (.iaload, 1) := by decide +kernel
theorem dX8_known_99 : decode cX8_known 99 = .ok (.if_icmp .le 7, 3) := by decide +kernel
theorem dX8_known_102 : decode cX8_known 102 = .ok (.iload_n 3, 1) := by decide +kernel
theorem dX8_known_103 : decode cX8_known 103 = .ok (.goto 9, 3) := by decide +kernel
theorem dX8_known_106 : decode cX8_known 106 = .ok (.aload_n 0, 1) := by decide +kernel
theorem dX8_known_107 : decode cX8_known 107 = .ok (.getfield 97, 3) := by decide +kernel
theorem dX8_known_110 : decode cX8_known 110 = .ok (.iload_n 1, 1) := by decide +kernel
theorem dX8_known_111 : decode cX8_known 111 = .ok (.iaload, 1) := by decide +kernel
theorem dX8_known_112 : decode cX8_known 112 = .ok (.iastore, 1) := by decide +kernel
theorem dX8_known_113 : decode cX8_known 113 = .ok (.iinc 2 1, 3) := by decide +kernel
theorem dX8_known_116 : decode cX8_known 116 = .ok (.goto (-82), 3) := by decide +kernel
theorem dX8_known_119 : decode cX8_known 119 = .ok (.iinc 1 (-1), 3) := by decide +kernel
theorem dX8_known_122 : decode cX8_known 122 = .ok (.goto (-101), 3) := by decide +kernel
theorem dX8_known_125 : decode cX8_known 125 = .ok (.aload_n 0, 1) := by decide +kernel
theorem dX8_known_126 : decode cX8_known 126 = .ok (.getfield 97, 3) := by decide +kernel
theorem dX8_known_129 : decode cX8_known 129 = .ok (.aload_n 0, 1) := by decide +kernel
theorem dX8_known_130 : decode cX8_known 130 = .ok (.invokevirtual 274, 3) := by decide +kernel
theorem dX8_known_133 : decode cX8_known 133 = .ok (.iaload, 1) := by decide +kernel
theorem dX8_known_134 : decode cX8_known 134 = .ok (.ireturn, 1) := by decide +kernel
theorem dX8_tell_0 : decode cX8_tell 0 = .ok (.aload_n 0, 1) := by decide +kernel
theorem dX8_tell_1 : decode cX8_tell 1 = .ok (.getfield 207, 3) := by decide +kernel
theorem dX8_tell_4 : decode cX8_tell 4 = .ok (.ifCond .ne 6, 3) := by decide +kernel
theorem dX8_tell_7 : decode cX8_tell 7 = .ok (.bipush (-4), 2) := by decide +kernel
theorem dX8_tell_9 : decode cX8_tell 9 = .ok (.ireturn, 1) := by decide +kernel
theorem dX8_tell_10 : decode cX8_tell 10 = .ok (.aload_n 0, 1) := by decide +kernel
theorem dX8_tell_11 : decode cX8_tell 11 = .ok (.invokevirtual 228, 3) := by decide +kernel
theorem dX8_tell_14 : decode cX8_tell 14 = .ok (.aload_n 0, 1) := by decide +kernel
theorem dX8_tell_15 : decode cX8_tell 15 = .ok (.invokevirtual 274, 3) := by decide +kernel
theorem dX8_tell_18 : decode cX8_tell 18 = .ok (.istore_n 1, 1) := by decide +kernel
theorem dX8_tell_19 : decode cX8_tell 19 = .ok (.bipush (-9), 2) := by decide +kernel
theorem dX8_tell_21 : decode cX8_tell 21 = .ok (.istore_n 2, 1) := by decide +kernel
theorem dX8_tell_22 : decode cX8_tell 22 = .ok (.iconst 0, 1) := by decide +kernel
theorem dX8_tell_23 : decode cX8_tell 23 = .ok (.istore_n 3, 1) := by decide +kernel
theorem dX8_tell_24 : decode cX8_tell 24 = .ok (.iconst 0, 1) := by decide +kernel
theorem dX8_tell_25 : decode cX8_tell 25 = .ok (.istore 4, 2) := by decide +kernel
theorem dX8_tell_27 : decode cX8_tell 27 = .ok (.iload 4, 2) := by decide +kernel
theorem dX8_tell_29 : decode cX8_tell 29 = .ok (.aload_n 0, 1) := by decide +kernel
theorem dX8_tell_30 : decode cX8_tell 30 = .ok (.getfield 210, 3) := by decide +kernel
theorem dX8_tell_33 : decode cX8_tell 33 = .ok (.if_icmp .ge 155, 3) := by decide +kernel
theorem dX8_tell_36 : decode cX8_tell 36 = .ok (.aload_n 0, 1) := by decide +kernel
theorem dX8_tell_37 : decode cX8_tell 37 = .ok (.getfield 28, 3) := by decide +kernel
theorem dX8_tell_40 : decode cX8_tell 40 = .ok (.iload 4, 2) := by decide +kernel
theorem dX8_tell_42 : decode cX8_tell 42 = .ok (.iaload, 1) := by decide +kernel
theorem dX8_tell_43 : decode cX8_tell 43 = .ok (.iload_n 1, 1) := by decide +kernel
theorem dX8_tell_44 : decode cX8_tell 44 = .ok (.if_icmp .ne 138, 3) := by decide +kernel
theorem dX8_tell_47 : decode cX8_tell 47 = .ok (.iconst 0, 1) := by decide +kernel
theorem dX8_tell_48 : decode cX8_tell 48 = .ok (.istore 5, 2) := by decide +kernel
theorem dX8_tell_50 : decode cX8_tell 50 = .ok (.iconst 0, 1) := by decide +kernel
theorem dX8_tell_51 : decode cX8_tell 51 = .ok (.istore 6, 2) := by decide +kernel
theorem dX8_tell_53 : decode cX8_tell 53 = .ok (.iload 6, 2) := by decide +kernel
theorem dX8_tell_55 : decode cX8_tell 55 = .ok (.aload_n 0, 1) := by decide +kernel
theorem dX8_tell_56 : decode cX8_tell 56 = .ok (.getfield 210, 3) := by decide +kernel
theorem dX8_tell_59 : decode cX8_tell 59 = .ok (.if_icmp .ge 51, 3) := by decide +kernel
theorem dX8_tell_62 : decode cX8_tell 62 = .ok (.iload 5, 2) := by decide +kernel
theorem dX8_tell_64 : decode cX8_tell 64 = .ok (.aload_n 0, 1) := by decide +kernel
theorem dX8_tell_65 : decode cX8_tell 65 = .ok (.getfield 28, 3) := by decide +kernel
theorem dX8_tell_68 : decode cX8_tell 68 = .ok (.iload 6, 2) := by decide +kernel
theorem dX8_tell_70 : decode cX8_tell 70 = .ok (.iaload, 1) := by decide +kernel
theorem dX8_tell_71 : decode cX8_tell 71 = .ok (.iload_n 1, 1) := by decide +kernel
theorem dX8_tell_72 : decode cX8_tell 72 = .ok (.if_icmp .ne 28, 3) := by decide +kernel
theorem dX8_tell_75 : decode cX8_tell 75 = .ok (.iload 6, 2) := by decide +kernel
theorem dX8_tell_77 : decode cX8_tell 77 = .ok (.iload 4, 2) := by decide +kernel
theorem dX8_tell_79 : decode cX8_tell 79 = .ok (.if_icmp .eq 21, 3) := by decide +kernel
theorem dX8_tell_82 : decode cX8_tell 82 = .ok (.aload_n 0, 1) := by decide +kernel
theorem dX8_tell_83 : decode cX8_tell 83 = .ok (.getfield 80, 3) := by decide +kernel
theorem dX8_tell_86 : decode cX8_tell 86 = .ok (.aload_n 0, 1) := by decide +kernel
theorem dX8_tell_87 : decode cX8_tell 87 = .ok (.getfield 31, 3) := by decide +kernel
theorem dX8_tell_90 : decode cX8_tell 90 = .ok (.iload 6, 2) := by decide +kernel
theorem dX8_tell_92 : decode cX8_tell 92 = .ok (.iaload, 1) := by decide +kernel
theorem dX8_tell_93 : decode cX8_tell 93 = .ok (.iaload, 1) := by decide +kernel
theorem dX8_tell_94 : decode cX8_tell 94 = .ok (.bipush 63, 2) := by decide +kernel
theorem dX8_tell_96 : decode cX8_tell 96 = .ok (.iand, 1) := by decide +kernel
theorem dX8_tell_97 : decode cX8_tell 97 = .ok (.goto 4, 3) := by decide +kernel
theorem dX8_tell_100 : decode cX8_tell 100 = .ok (.iconst 0, 1) := by decide +kernel
theorem dX8_tell_101 : decode cX8_tell 101 = .ok (.ior, 1) := by decide +kernel
theorem dX8_tell_102 : decode cX8_tell 102 = .ok (.istore 5, 2) := by decide +kernel
theorem dX8_tell_104 : decode cX8_tell 104 = .ok (.iinc 6 1, 3) := by decide +kernel
theorem dX8_tell_107 : decode cX8_tell 107 = .ok (.goto (-54), 3) := by decide +kernel
theorem dX8_tell_110 : decode cX8_tell 110 = .ok (.aload_n 0, 1) := by decide +kernel
theorem dX8_tell_111 : decode cX8_tell 111 = .ok (.getfield 80, 3) := by decide +kernel
theorem dX8_tell_114 : decode cX8_tell 114 = .ok (.aload_n 0, 1) := by decide +kernel
theorem dX8_tell_115 : decode cX8_tell 115 = .ok (.getfield 31, 3) := by decide +kernel
theorem dX8_tell_118 : decode cX8_tell 118 = .ok (.iload 4, 2) := by decide +kernel
theorem dX8_tell_120 : decode cX8_tell 120 = .ok (.iaload, 1) := by decide +kernel
theorem dX8_tell_121 : decode cX8_tell 121 = .ok (.iaload, 1) := by decide +kernel
theorem dX8_tell_122 : decode cX8_tell 122 = .ok (.bipush 63, 2) := by decide +kernel
theorem dX8_tell_124 : decode cX8_tell 124 = .ok (.iand, 1) := by decide +kernel
theorem dX8_tell_125 : decode cX8_tell 125 = .ok (.invokestatic 256, 3) := by decide +kernel
theorem dX8_tell_128 : decode cX8_tell 128 = .ok (.istore 6, 2) := by decide +kernel
theorem dX8_tell_130 : decode cX8_tell 130 = .ok (.iload 6, 2) := by decide +kernel
theorem dX8_tell_132 : decode cX8_tell 132 = .ok (.iload 5, 2) := by decide +kernel
theorem dX8_tell_134 : decode cX8_tell 134 = .ok (.invokestatic 256, 3) := by decide +kernel
theorem dX8_tell_137 : decode cX8_tell 137 = .ok (.if_icmp .le 8, 3) := by decide +kernel
theorem dX8_tell_140 : decode cX8_tell 140 = .ok (.iload 6, 2) := by decide +kernel
theorem dX8_tell_142 : decode cX8_tell 142 = .ok (.goto 8, 3) := by decide +kernel
theorem dX8_tell_145 : decode cX8_tell 145 = .ok (.iload 5, 2) := by decide +kernel
theorem dX8_tell_147 : decode cX8_tell 147 = .ok (.invokestatic 256, 3) := by decide +kernel
theorem dX8_tell_150 : decode cX8_tell 150 = .ok (.istore 7, 2) := by decide +kernel
theorem dX8_tell_152 : decode cX8_tell 152 = .ok (.iload_n 2, 1) := by decide +kernel
theorem dX8_tell_153 : decode cX8_tell 153 = .ok (.ifCond .lt 9, 3) := by decide +kernel
theorem dX8_tell_156 : decode cX8_tell 156 = .ok (.iload 7, 2) := by decide +kernel
theorem dX8_tell_158 : decode cX8_tell 158 = .ok (.iload_n 3, 1) := by decide +kernel
theorem dX8_tell_159 : decode cX8_tell 159 = .ok (.if_icmp .ge 8, 3) := by decide +kernel
theorem dX8_tell_162 : decode cX8_tell 162 = .ok (.iload 4, 2) := by decide +kernel
theorem dX8_tell_164 : decode cX8_tell 164 = .ok (.goto 4, 3) := by decide +kernel
theorem dX8_tell_167 : decode cX8_tell 167 = .ok (.iload_n 2, 1) := by decide +kernel
theorem dX8_tell_168 : decode cX8_tell 168 = .ok (.istore_n 2, 1) := by decide +kernel
theorem dX8_tell_169 : decode cX8_tell 169 = .ok (.iload_n 2, 1) := by decide +kernel
theorem dX8_tell_170 : decode cX8_tell 170 = .ok (.iload 4, 2) := by decide +kernel
theorem dX8_tell_172 : decode cX8_tell 172 = .ok (.if_icmp .ne 8, 3) := by decide +kernel
theorem dX8_tell_175 : decode cX8_tell 175 = .ok (.iload 7, 2) := by decide +kernel
theorem dX8_tell_177 : decode cX8_tell 177 = .ok (.goto 4, 3) := by decide +kernel
theorem dX8_tell_180 : decode cX8_tell 180 = .ok (.iload_n 3, 1) := by decide +kernel
theorem dX8_tell_181 : decode cX8_tell 181 = .ok (.istore_n 3, 1) := by decide +kernel
theorem dX8_tell_182 : decode cX8_tell 182 = .ok (.iinc 4 1, 3) := by decide +kernel
theorem dX8_tell_185 : decode cX8_tell 185 = .ok (.goto (-158), 3) := by decide +kernel
theorem dX8_tell_188 : decode cX8_tell 188 = .ok (.iload_n 2, 1) := by decide +kernel
theorem dX8_tell_189 : decode cX8_tell 189 = .ok (.ifCond .ge 8, 3) := by decide +kernel
theorem dX8_tell_192 : decode cX8_tell 192 = .ok (.bipush (-9), 2) := by decide +kernel
theorem dX8_tell_194 : decode cX8_tell 194 = .ok (.goto 9, 3) := by decide +kernel
theorem dX8_tell_197 : decode cX8_tell 197 = .ok (.aload_n 0, 1) := by decide +kernel
theorem dX8_tell_198 : decode cX8_tell 198 = .ok (.iload_n 2, 1) := by decide +kernel
theorem dX8_tell_199 : decode cX8_tell 199 = .ok (.iload_n 3, 1) := by decide +kernel
theorem dX8_tell_200 : decode cX8_tell 200 = .ok (.invokevirtual 151, 3) := by decide +kernel
theorem dX8_tell_203 : decode cX8_tell 203 = .ok (.ireturn, 1) := by decide +kernel
theorem dX8_isState_0 : decode cX8_isState 0 = .ok (.iconst 0, 1) := by decide +kernel
theorem dX8_isState_1 : decode cX8_isState 1 = .ok (.istore_n 2, 1) := by decide +kernel
theorem dX8_isState_2 : decode cX8_isState 2 = .ok (.iconst 0, 1) := by decide +kernel
theorem dX8_isState_3 : decode cX8_isState 3 = .ok (.istore_n 3, 1) := by decide +kernel
theorem dX8_isState_4 : decode cX8_isState 4 = .ok (.iload_n 3, 1) := by decide +kernel
theorem dX8_isState_5 : decode cX8_isState 5 = .ok (.iconst 4, 1) := by decide +kernel
theorem dX8_isState_6 : decode cX8_isState 6 = .ok (.if_icmp .ge 26, 3) := by decide +kernel
theorem dX8_isState_9 : decode cX8_isState 9 = .ok (.iload_n 2, 1) := by decide +kernel
theorem dX8_isState_10 : decode cX8_isState 10 = .ok (.iload_n 1, 1) := by decide +kernel
theorem dX8_isState_11 : decode cX8_isState 11 = .ok (.iload_n 3, 1) := by decide +kernel
theorem dX8_isState_12 : decode cX8_isState 12 = .ok (.invokestatic 245, 3) := by decide +kernel
theorem dX8_isState_15 : decode cX8_isState 15 = .ok (.iconst 1, 1) := by decide +kernel
theorem dX8_isState_16 : decode cX8_isState 16 = .ok (.if_icmp .ne 7, 3) := by decide +kernel
theorem dX8_isState_19 : decode cX8_isState 19 = .ok (.iconst 1, 1) := by decide +kernel
theorem dX8_isState_20 : decode cX8_isState 20 = .ok (.goto 4, 3) := by decide +kernel
theorem dX8_isState_23 : decode cX8_isState 23 = .ok (.iconst 0, 1) := by decide +kernel
theorem dX8_isState_24 : decode cX8_isState 24 = .ok (.iadd, 1) := by decide +kernel
theorem dX8_isState_25 : decode cX8_isState 25 = .ok (.istore_n 2, 1) := by decide +kernel
theorem dX8_isState_26 : decode cX8_isState 26 = .ok (.iinc 3 1, 3) := by decide +kernel
theorem dX8_isState_29 : decode cX8_isState 29 = .ok (.goto (-25), 3) := by decide +kernel
theorem dX8_isState_32 : decode cX8_isState 32 = .ok (.iload_n 1, 1) := by decide +kernel
theorem dX8_isState_33 : decode cX8_isState 33 = .ok (.bipush 8, 2) := by decide +kernel
theorem dX8_isState_35 : decode cX8_isState 35 = .ok (.ishr, 1) := by decide +kernel
theorem dX8_isState_36 : decode cX8_isState 36 = .ok (.istore_n 3, 1) := by decide +kernel
theorem dX8_isState_37 : decode cX8_isState 37 = .ok (.iload_n 2, 1) := by decide +kernel
theorem dX8_isState_38 : decode cX8_isState 38 = .ok (.ifCond .ne 15, 3) := by decide +kernel
theorem dX8_isState_41 : decode cX8_isState 41 = .ok (.iload_n 3, 1) := by decide +kernel
theorem dX8_isState_42 : decode cX8_isState 42 = .ok (.ifCond .ne 7, 3) := by decide +kernel
theorem dX8_isState_45 : decode cX8_isState 45 = .ok (.iconst 1, 1) := by decide +kernel
theorem dX8_isState_46 : decode cX8_isState 46 = .ok (.goto 21, 3) := by decide +kernel
theorem dX8_isState_49 : decode cX8_isState 49 = .ok (.iconst 0, 1) := by decide +kernel
theorem dX8_isState_50 : decode cX8_isState 50 = .ok (.goto 17, 3) := by decide +kernel
theorem dX8_isState_53 : decode cX8_isState 53 = .ok (.iload_n 2, 1) := by decide +kernel
theorem dX8_isState_54 : decode cX8_isState 54 = .ok (.iconst 1, 1) := by decide +kernel
theorem dX8_isState_55 : decode cX8_isState 55 = .ok (.if_icmp .ne 11, 3) := by decide +kernel
theorem dX8_isState_58 : decode cX8_isState 58 = .ok (.iload_n 3, 1) := by decide +kernel
theorem dX8_isState_59 : decode cX8_isState 59 = .ok (.ifCond .le 7, 3) := by decide +kernel
theorem dX8_isState_62 : decode cX8_isState 62 = .ok (.iconst 1, 1) := by decide +kernel
theorem dX8_isState_63 : decode cX8_isState 63 = .ok (.goto 4, 3) := by decide +kernel
theorem dX8_isState_66 : decode cX8_isState 66 = .ok (.iconst 0, 1) := by decide +kernel
theorem dX8_isState_67 : decode cX8_isState 67 = .ok (.ireturn, 1) := by decide +kernel
theorem dX8_leastBehind_0 : decode cX8_leastBehind 0 = .ok (.iconst 0, 1) := by decide +kernel
theorem dX8_leastBehind_1 : decode cX8_leastBehind 1 = .ok (.istore_n 3, 1) := by decide +kernel
theorem dX8_leastBehind_2 : decode cX8_leastBehind 2 = .ok (.iconst 0, 1) := by decide +kernel
theorem dX8_leastBehind_3 : decode cX8_leastBehind 3 = .ok (.istore 4, 2) := by decide +kernel
theorem dX8_leastBehind_5 : decode cX8_leastBehind 5 = .ok (.aload_n 0, 1) := by decide +kernel
theorem dX8_leastBehind_6 : decode cX8_leastBehind 6 = .ok (.iload_n 1, 1) := by decide +kernel
theorem dX8_leastBehind_7 : decode cX8_leastBehind 7 = .ok (.iload_n 2, 1) := by decide +kernel
theorem dX8_leastBehind_8 : decode cX8_leastBehind 8 = .ok (.invokevirtual 271, 3) := by decide +kernel
theorem dX8_leastBehind_11 : decode cX8_leastBehind 11 = .ok (.istore 5, 2) := by decide +kernel
theorem dX8_leastBehind_13 : decode cX8_leastBehind 13 = .ok (.iconst 0, 1) := by decide +kernel
theorem dX8_leastBehind_14 : decode cX8_leastBehind 14 = .ok (.istore 6, 2) := by decide +kernel
theorem dX8_leastBehind_16 : decode cX8_leastBehind 16 = .ok (.iload 6, 2) := by decide +kernel
theorem dX8_leastBehind_18 : decode cX8_leastBehind 18 = .ok (.aload_n 0, 1) := by decide +kernel
theorem dX8_leastBehind_19 : decode cX8_leastBehind 19 = .ok (.getfield 210, 3) := by decide +kernel
theorem dX8_leastBehind_22 : decode cX8_leastBehind 22 = .ok (.if_icmp .ge 97, 3) := by decide +kernel
theorem dX8_leastBehind_25 : decode cX8_leastBehind 25 = .ok (.aload_n 0, 1) := by decide +kernel
theorem dX8_leastBehind_26 : decode cX8_leastBehind 26 = .ok (.getfield 28, 3) := by decide +kernel
theorem dX8_leastBehind_29 : decode cX8_leastBehind 29 = .ok (.iload 6, 2) := by decide +kernel
theorem dX8_leastBehind_31 : decode cX8_leastBehind 31 = .ok (.iaload, 1) := by decide +kernel
theorem dX8_leastBehind_32 : decode cX8_leastBehind 32 = .ok (.iload_n 1, 1) := by decide +kernel
theorem dX8_leastBehind_33 : decode cX8_leastBehind 33 = .ok (.if_icmp .ne 25, 3) := by decide +kernel
theorem dX8_leastBehind_36 : decode cX8_leastBehind 36 = .ok (.aload_n 0, 1) := by decide +kernel
theorem dX8_leastBehind_37 : decode cX8_leastBehind 37 = .ok (.getfield 103, 3) := by decide +kernel
theorem dX8_leastBehind_40 : decode cX8_leastBehind 40 = .ok (.sipush 1536, 3) := by decide +kernel
theorem dX8_leastBehind_43 : decode cX8_leastBehind 43 = .ok (.aload_n 0, 1) := by decide +kernel
theorem dX8_leastBehind_44 : decode cX8_leastBehind 44 = .ok (.getfield 31, 3) := by decide +kernel
theorem dX8_leastBehind_47 : decode cX8_leastBehind 47 = .ok (.iload 6, 2) := by decide +kernel
theorem dX8_leastBehind_49 : decode cX8_leastBehind 49 = .ok (.iaload, 1) := by decide +kernel
theorem dX8_leastBehind_50 : decode cX8_leastBehind 50 = .ok (.imul, 1) := by decide +kernel
theorem dX8_leastBehind_51 : decode cX8_leastBehind 51 = .ok (.iload 5, 2) := by decide +kernel
theorem dX8_leastBehind_53 : decode cX8_leastBehind 53 = .ok (.iadd, 1) := by decide +kernel
theorem dX8_leastBehind_54 : decode cX8_leastBehind 54 = .ok (.iaload, 1) := by decide +kernel
theorem dX8_leastBehind_55 : decode cX8_leastBehind 55 = .ok (.goto 4, 3) := by decide +kernel
theorem dX8_leastBehind_58 : decode cX8_leastBehind 58 = .ok (.iconst 0, 1) := by decide +kernel
theorem dX8_leastBehind_59 : decode cX8_leastBehind 59 = .ok (.istore 7, 2) := by decide +kernel
theorem dX8_leastBehind_61 : decode cX8_leastBehind 61 = .ok (.aload_n 0, 1) := by decide +kernel
theorem dX8_leastBehind_62 : decode cX8_leastBehind 62 = .ok (.getfield 28, 3) := by decide +kernel
theorem dX8_leastBehind_65 : decode cX8_leastBehind 65 = .ok (.iload 6, 2) := by decide +kernel
theorem dX8_leastBehind_67 : decode cX8_leastBehind 67 = .ok (.iaload, 1) := by decide +kernel
theorem dX8_leastBehind_68 : decode cX8_leastBehind 68 = .ok (.iload_n 1, 1) := by decide +kernel
theorem dX8_leastBehind_69 : decode cX8_leastBehind 69 = .ok (.if_icmp .ne 19, 3) := by decide +kernel
theorem dX8_leastBehind_72 : decode cX8_leastBehind 72 = .ok (.iload_n 3, 1) := by decide +kernel
theorem dX8_leastBehind_73 : decode cX8_leastBehind 73 = .ok (.ifCond .eq 10, 3) := by decide +kernel
theorem dX8_leastBehind_76 : decode cX8_leastBehind 76 = .ok (.iload 7, 2) := by decide +kernel
theorem dX8_leastBehind_78 : decode cX8_leastBehind 78 = .ok (.iload 4, 2) := by decide +kernel
theorem dX8_leastBehind_80 : decode cX8_leastBehind 80 = .ok (.if_icmp .ge 8, 3) := by decide +kernel
theorem dX8_leastBehind_83 : decode cX8_leastBehind 83 = .ok (.iload 7, 2) := by decide +kernel
theorem dX8_leastBehind_85 : decode cX8_leastBehind 85 = .ok (.goto 5, 3) := by decide +kernel
theorem dX8_leastBehind_88 : decode cX8_leastBehind 88 = .ok (.iload 4, 2) := by decide +kernel
theorem dX8_leastBehind_90 : decode cX8_leastBehind 90 = .ok (.istore 4, 2) := by decide +kernel
theorem dX8_leastBehind_92 : decode cX8_leastBehind 92 = .ok (.iload_n 3, 1) := by decide +kernel
theorem dX8_leastBehind_93 : decode cX8_leastBehind 93 = .ok (.ifCond .ne 14, 3) := by decide +kernel
theorem dX8_leastBehind_96 : decode cX8_leastBehind 96 = .ok (.aload_n 0, 1) := by decide +kernel
theorem dX8_leastBehind_97 : decode cX8_leastBehind 97 = .ok (.getfield 28, 3) := by decide +kernel
theorem dX8_leastBehind_100 : decode cX8_leastBehind 100 = .ok (.iload 6, 2) := by decide +kernel
theorem dX8_leastBehind_102 : decode cX8_leastBehind 102 = .ok (.iaload, 1) := by decide +kernel
theorem dX8_leastBehind_103 : decode cX8_leastBehind 103 = .ok (.iload_n 1, 1) := by decide +kernel
theorem dX8_leastBehind_104 : decode cX8_leastBehind 104 = .ok (.if_icmp .ne 7, 3) := by decide +kernel
theorem dX8_leastBehind_107 : decode cX8_leastBehind 107 = .ok (.iconst 1, 1) := by decide +kernel
theorem dX8_leastBehind_108 : decode cX8_leastBehind 108 = .ok (.goto 4, 3) := by decide +kernel
theorem dX8_leastBehind_111 : decode cX8_leastBehind 111 = .ok (.iconst 0, 1) := by decide +kernel
theorem dX8_leastBehind_112 : decode cX8_leastBehind 112 = .ok (.istore_n 3, 1) := by decide +kernel
theorem dX8_leastBehind_113 : decode cX8_leastBehind 113 = .ok (.iinc 6 1, 3) := by decide +kernel
theorem dX8_leastBehind_116 : decode cX8_leastBehind 116 = .ok (.goto (-100), 3) := by decide +kernel
theorem dX8_leastBehind_119 : decode cX8_leastBehind 119 = .ok (.iload 4, 2) := by decide +kernel
theorem dX8_leastBehind_121 : decode cX8_leastBehind 121 = .ok (.ireturn, 1) := by decide +kernel
theorem dX8_meanBehind_0 : decode cX8_meanBehind 0 = .ok (.lconst 0, 1) := by decide +kernel
theorem dX8_meanBehind_1 : decode cX8_meanBehind 1 = .ok (.lstore_n 3, 1) := by decide +kernel
theorem dX8_meanBehind_2 : decode cX8_meanBehind 2 = .ok (.aload_n 0, 1) := by decide +kernel
theorem dX8_meanBehind_3 : decode cX8_meanBehind 3 = .ok (.iload_n 1, 1) := by decide +kernel
theorem dX8_meanBehind_4 : decode cX8_meanBehind 4 = .ok (.invokevirtual 222, 3) := by decide +kernel
theorem dX8_meanBehind_7 : decode cX8_meanBehind 7 = .ok (.invokestatic 256, 3) := by decide +kernel
theorem dX8_meanBehind_10 : decode cX8_meanBehind 10 = .ok (.istore 5, 2) := by decide +kernel
theorem dX8_meanBehind_12 : decode cX8_meanBehind 12 = .ok (.aload_n 0, 1) := by decide +kernel
theorem dX8_meanBehind_13 : decode cX8_meanBehind 13 = .ok (.iload_n 1, 1) := by decide +kernel
theorem dX8_meanBehind_14 : decode cX8_meanBehind 14 = .ok (.iload_n 2, 1) := by decide +kernel
theorem dX8_meanBehind_15 : decode cX8_meanBehind 15 = .ok (.invokevirtual 271, 3) := by decide +kernel
theorem dX8_meanBehind_18 : decode cX8_meanBehind 18 = .ok (.istore 6, 2) := by decide +kernel
theorem dX8_meanBehind_20 : decode cX8_meanBehind 20 = .ok (.iconst 0, 1) := by decide +kernel
theorem dX8_meanBehind_21 : decode cX8_meanBehind 21 = .ok (.istore 7, 2) := by decide +kernel
theorem dX8_meanBehind_23 : decode cX8_meanBehind 23 = .ok (.iload 7, 2) := by decide +kernel
theorem dX8_meanBehind_25 : decode cX8_meanBehind 25 = .ok (.aload_n 0, 1) := by decide +kernel
theorem dX8_meanBehind_26 : decode cX8_meanBehind 26 = .ok (.getfield 210, 3) := by decide +kernel
theorem dX8_meanBehind_29 : decode cX8_meanBehind 29 = .ok (.if_icmp .ge 50, 3) := by decide +kernel
theorem dX8_meanBehind_32 : decode cX8_meanBehind 32 = .ok (.lload_n 3, 1) := by decide +kernel
theorem dX8_meanBehind_33 : decode cX8_meanBehind 33 = .ok (.aload_n 0, 1) := by decide +kernel
theorem dX8_meanBehind_34 : decode cX8_meanBehind 34 = .ok (.getfield 28, 3) := by decide +kernel
theorem dX8_meanBehind_37 : decode cX8_meanBehind 37 = .ok (.iload 7, 2) := by decide +kernel
theorem dX8_meanBehind_39 : decode cX8_meanBehind 39 = .ok (.iaload, 1) := by decide +kernel
theorem dX8_meanBehind_40 : decode cX8_meanBehind 40 = .ok (.iload_n 1, 1) := by decide +kernel
theorem dX8_meanBehind_41 : decode cX8_meanBehind 41 = .ok (.if_icmp .ne 29, 3) := by decide +kernel
theorem dX8_meanBehind_44 : decode cX8_meanBehind 44 = .ok (.aload_n 0, 1) := by decide +kernel
theorem dX8_meanBehind_45 : decode cX8_meanBehind 45 = .ok (.getfield 106, 3) := by decide +kernel
theorem dX8_meanBehind_48 : decode cX8_meanBehind 48 = .ok (.sipush 1536, 3) := by decide +kernel
theorem dX8_meanBehind_51 : decode cX8_meanBehind 51 = .ok (.aload_n 0, 1) := by decide +kernel
theorem dX8_meanBehind_52 : decode cX8_meanBehind 52 = .ok (.getfield 31, 3) := by decide +kernel
theorem dX8_meanBehind_55 : decode cX8_meanBehind 55 = .ok (.iload 7, 2) := by decide +kernel
theorem dX8_meanBehind_57 : decode cX8_meanBehind 57 = .ok (.iaload, 1) := by decide +kernel
theorem dX8_meanBehind_58 : decode cX8_meanBehind 58 = .ok (.imul, 1) := by decide +kernel
theorem dX8_meanBehind_59 : decode cX8_meanBehind 59 = .ok (.iload 6, 2) := by decide +kernel
theorem dX8_meanBehind_61 : decode cX8_meanBehind 61 = .ok (.iadd, 1) := by decide +kernel
theorem dX8_meanBehind_62 : decode cX8_meanBehind 62 = .ok (.laload, 1) := by decide +kernel
theorem dX8_meanBehind_63 : decode cX8_meanBehind 63 = .ok (.iload 5, 2) := by decide +kernel
theorem dX8_meanBehind_65 : decode cX8_meanBehind 65 = .ok (.i2l, 1) := by decide +kernel
theorem dX8_meanBehind_66 : decode cX8_meanBehind 66 = .ok (.ldiv, 1) := by decide +kernel
theorem dX8_meanBehind_67 : decode cX8_meanBehind 67 = .ok (.goto 4, 3) := by decide +kernel
theorem dX8_meanBehind_70 : decode cX8_meanBehind 70 = .ok (.lconst 0, 1) := by decide +kernel
theorem dX8_meanBehind_71 : decode cX8_meanBehind 71 = .ok (.ladd, 1) := by decide +kernel
theorem dX8_meanBehind_72 : decode cX8_meanBehind 72 = .ok (.lstore_n 3, 1) := by decide +kernel
theorem dX8_meanBehind_73 : decode cX8_meanBehind 73 = .ok (.iinc 7 1, 3) := by decide +kernel
theorem dX8_meanBehind_76 : decode cX8_meanBehind 76 = .ok (.goto (-53), 3) := by decide +kernel
theorem dX8_meanBehind_79 : decode cX8_meanBehind 79 = .ok (.lload_n 3, 1) := by decide +kernel
theorem dX8_meanBehind_80 : decode cX8_meanBehind 80 = .ok (.lreturn, 1) := by decide +kernel
theorem dX8_findPlan_0 : decode cX8_findPlan 0 = .ok (.sipush 1536, 3) := by decide +kernel
theorem dX8_findPlan_3 : decode cX8_findPlan 3 = .ok (.iload_n 1, 1) := by decide +kernel
theorem dX8_findPlan_4 : decode cX8_findPlan 4 = .ok (.imul, 1) := by decide +kernel
theorem dX8_findPlan_5 : decode cX8_findPlan 5 = .ok (.iload_n 2, 1) := by decide +kernel
theorem dX8_findPlan_6 : decode cX8_findPlan 6 = .ok (.iadd, 1) := by decide +kernel
theorem dX8_findPlan_7 : decode cX8_findPlan 7 = .ok (.istore 4, 2) := by decide +kernel
theorem dX8_findPlan_9 : decode cX8_findPlan 9 = .ok (.iload_n 3, 1) := by decide +kernel
theorem dX8_findPlan_10 : decode cX8_findPlan 10 = .ok (.ifCond .eq 12, 3) := by decide +kernel
theorem dX8_findPlan_13 : decode cX8_findPlan 13 = .ok (.aload_n 0, 1) := by decide +kernel
theorem dX8_findPlan_14 : decode cX8_findPlan 14 = .ok (.iload_n 1, 1) := by decide +kernel
theorem dX8_findPlan_15 : decode cX8_findPlan 15 = .ok (.iload_n 2, 1) := by decide +kernel
theorem dX8_findPlan_16 : decode cX8_findPlan 16 = .ok (.invokevirtual 311, 3) := by decide +kernel
theorem dX8_findPlan_19 : decode cX8_findPlan 19 = .ok (.goto 10, 3) := by decide +kernel
theorem dX8_findPlan_22 : decode cX8_findPlan 22 = .ok (.aload_n 0, 1) := by decide +kernel
theorem dX8_findPlan_23 : decode cX8_findPlan 23 = .ok (.iload_n 1, 1) := by decide +kernel
theorem dX8_findPlan_24 : decode cX8_findPlan 24 = .ok (.iload_n 2, 1) := by decide +kernel
theorem dX8_findPlan_25 : decode cX8_findPlan 25 = .ok (.invokevirtual 315, 3) := by decide +kernel
theorem dX8_findPlan_28 : decode cX8_findPlan 28 = .ok (.i2l, 1) := by decide +kernel
theorem dX8_findPlan_29 : decode cX8_findPlan 29 = .ok (.lstore 5, 2) := by decide +kernel
theorem dX8_findPlan_31 : decode cX8_findPlan 31 = .ok (.bipush (-9), 2) := by decide +kernel
theorem dX8_findPlan_33 : decode cX8_findPlan 33 = .ok (.istore 7, 2) := by decide +kernel
theorem dX8_findPlan_35 : decode cX8_findPlan 35 = .ok (.aload_n 0, 1) := by decide +kernel
theorem dX8_findPlan_36 : decode cX8_findPlan 36 = .ok (.getfield 213, 3) := by decide +kernel
theorem dX8_findPlan_39 : decode cX8_findPlan 39 = .ok (.iconst 1, 1) := by decide +kernel
theorem dX8_findPlan_40 : decode cX8_findPlan 40 = .ok (.isub, 1) := by decide +kernel
theorem dX8_findPlan_41 : decode cX8_findPlan 41 = .ok (.istore 8, 2) := by decide +kernel
theorem dX8_findPlan_43 : decode cX8_findPlan 43 = .ok (.iload 8, 2) := by decide +kernel
theorem dX8_findPlan_45 : decode cX8_findPlan 45 = .ok (.ifCond .lt 86, 3) := by decide +kernel
theorem dX8_findPlan_48 : decode cX8_findPlan 48 = .ok (.aload_n 0, 1) := by decide +kernel
theorem dX8_findPlan_49 : decode cX8_findPlan 49 = .ok (.iload_n 2, 1) := by decide +kernel
theorem dX8_findPlan_50 : decode cX8_findPlan 50 = .ok (.iload 8, 2) := by decide +kernel
theorem dX8_findPlan_52 : decode cX8_findPlan 52 = .ok (.invokevirtual 281, 3) := by decide +kernel
theorem dX8_findPlan_55 : decode cX8_findPlan 55 = .ok (.ifCond .eq 70, 3) := by decide +kernel
theorem dX8_findPlan_58 : decode cX8_findPlan 58 = .ok (.aload_n 0, 1) := by decide +kernel
theorem dX8_findPlan_59 : decode cX8_findPlan 59 = .ok (.iload_n 2, 1) := by decide +kernel
theorem dX8_findPlan_60 : decode cX8_findPlan 60 = .ok (.iload 8, 2) := by decide +kernel
theorem dX8_findPlan_62 : decode cX8_findPlan 62 = .ok (.invokevirtual 284, 3) := by decide +kernel
theorem dX8_findPlan_65 : decode cX8_findPlan 65 = .ok (.istore 9, 2) := by decide +kernel
theorem dX8_findPlan_67 : decode cX8_findPlan 67 = .ok (.iload_n 3, 1) := by decide +kernel
theorem dX8_findPlan_68 : decode cX8_findPlan 68 = .ok (.ifCond .eq 13, 3) := by decide +kernel
theorem dX8_findPlan_71 : decode cX8_findPlan 71 = .ok (.aload_n 0, 1) := by decide +kernel
theorem dX8_findPlan_72 : decode cX8_findPlan 72 = .ok (.iload_n 1, 1) := by decide +kernel
theorem dX8_findPlan_73 : decode cX8_findPlan 73 = .ok (.iload 9, 2) := by decide +kernel
theorem dX8_findPlan_75 : decode cX8_findPlan 75 = .ok (.invokevirtual 311, 3) := by decide +kernel
theorem dX8_findPlan_78 : decode cX8_findPlan 78 = .ok (.goto 11, 3) := by decide +kernel
theorem dX8_findPlan_81 : decode cX8_findPlan 81 = .ok (.aload_n 0, 1) := by decide +kernel
theorem dX8_findPlan_82 : decode cX8_findPlan 82 = .ok (.iload_n 1, 1) := by decide +kernel
theorem dX8_findPlan_83 : decode cX8_findPlan 83 = .ok (.iload 9, 2) := by decide +kernel
theorem dX8_findPlan_85 : decode cX8_findPlan 85 = .ok (.invokevirtual 315, 3) := by decide +kernel
theorem dX8_findPlan_88 : decode cX8_findPlan 88 = .ok (.i2l, 1) := by decide +kernel
theorem dX8_findPlan_89 : decode cX8_findPlan 89 = .ok (.lstore 10, 2) := by decide +kernel
theorem dX8_findPlan_91 : decode cX8_findPlan 91 = .ok (.lload 10, 2) := by decide +kernel
theorem dX8_findPlan_93 : decode cX8_findPlan 93 = .ok (.lload 5, 2) := by decide +kernel
theorem dX8_findPlan_95 : decode cX8_findPlan 95 = .ok (.lcmp, 1) := by decide +kernel
theorem dX8_findPlan_96 : decode cX8_findPlan 96 = .ok (.ifCond .lt 8, 3) := by decide +kernel
theorem dX8_findPlan_99 : decode cX8_findPlan 99 = .ok (.iload 8, 2) := by decide +kernel
theorem dX8_findPlan_101 : decode cX8_findPlan 101 = .ok (.goto 5, 3) := by decide +kernel
theorem dX8_findPlan_104 : decode cX8_findPlan 104 = .ok (.iload 7, 2) := by decide +kernel
theorem dX8_findPlan_106 : decode cX8_findPlan 106 = .ok (.istore 7, 2) := by decide +kernel
theorem dX8_findPlan_108 : decode cX8_findPlan 108 = .ok (.lload 10, 2) := by decide +kernel
theorem dX8_findPlan_110 : decode cX8_findPlan 110 = .ok (.lload 5, 2) := by decide +kernel
theorem dX8_findPlan_112 : decode cX8_findPlan 112 = .ok (.lcmp, 1) := by decide +kernel
theorem dX8_findPlan_113 : decode cX8_findPlan 113 = .ok (.ifCond .le 8, 3) := by decide +kernel
theorem dX8_findPlan_116 : decode cX8_findPlan 116 = .ok (.lload 10, 2) := by decide +kernel
theorem dX8_findPlan_118 : decode cX8_findPlan 118 = .ok (.goto 5, 3) := by decide +kernel
theorem dX8_findPlan_121 : decode cX8_findPlan 121 = .ok (.lload 5, 2) := by decide +kernel
theorem dX8_findPlan_123 : decode cX8_findPlan 123 = .ok (.lstore 5, 2) := by decide +kernel
theorem dX8_findPlan_125 : decode cX8_findPlan 125 = .ok (.iinc 8 (-1), 3) := by decide +kernel
theorem dX8_findPlan_128 : decode cX8_findPlan 128 = .ok (.goto (-85), 3) := by decide +kernel
theorem dX8_findPlan_131 : decode cX8_findPlan 131 = .ok (.aload_n 0, 1) := by decide +kernel
theorem dX8_findPlan_132 : decode cX8_findPlan 132 = .ok (.getfield 103, 3) := by decide +kernel
theorem dX8_findPlan_135 : decode cX8_findPlan 135 = .ok (.iload 4, 2) := by decide +kernel
theorem dX8_findPlan_137 : decode cX8_findPlan 137 = .ok (.iload_n 3, 1) := by decide +kernel
theorem dX8_findPlan_138 : decode cX8_findPlan 138 = .ok (.ifCond .eq 13, 3) := by decide +kernel
theorem dX8_findPlan_141 : decode cX8_findPlan 141 = .ok (.aload_n 0, 1) := by decide +kernel
theorem dX8_findPlan_142 : decode cX8_findPlan 142 = .ok (.getfield 103, 3) := by decide +kernel
theorem dX8_findPlan_145 : decode cX8_findPlan 145 = .ok (.iload 4, 2) := by decide +kernel
theorem dX8_findPlan_147 : decode cX8_findPlan 147 = .ok (.iaload, 1) := by decide +kernel
theorem dX8_findPlan_148 : decode cX8_findPlan 148 = .ok (.goto 6, 3) := by decide +kernel
theorem dX8_findPlan_151 : decode cX8_findPlan 151 = .ok (.lload 5, 2) := by decide +kernel
theorem dX8_findPlan_153 : decode cX8_findPlan 153 = .ok (.l2i, 1) := by decide +kernel
theorem dX8_findPlan_154 : decode cX8_findPlan 154 = .ok (.iastore, 1) := by decide +kernel
theorem dX8_findPlan_155 : decode cX8_findPlan 155 = .ok (.aload_n 0, 1) := by decide +kernel
theorem dX8_findPlan_156 : decode cX8_findPlan 156 = .ok (.getfield 106, 3) := by decide +kernel
theorem dX8_findPlan_159 : decode cX8_findPlan 159 = .ok (.iload 4, 2) := by decide +kernel
theorem dX8_findPlan_161 : decode cX8_findPlan 161 = .ok (.iload_n 3, 1) := by decide +kernel
theorem dX8_findPlan_162 : decode cX8_findPlan 162 = .ok (.ifCond .eq 8, 3) := by decide +kernel
theorem dX8_findPlan_165 : decode cX8_findPlan 165 = .ok (.lload 5, 2) := by decide +kernel
theorem dX8_findPlan_167 : decode cX8_findPlan 167 = .ok (.goto 10, 3) := by decide +kernel
theorem dX8_findPlan_170 : decode cX8_findPlan 170 = .ok (.aload_n 0, 1) := by decide +kernel
theorem dX8_findPlan_171 : decode cX8_findPlan 171 = .ok (.getfield 106, 3) := by decide +kernel
theorem dX8_findPlan_174 : decode cX8_findPlan 174 = .ok (.iload 4, 2) := by decide +kernel
theorem dX8_findPlan_176 : decode cX8_findPlan 176 = .ok (.laload, 1) := by decide +kernel
theorem dX8_findPlan_177 : decode cX8_findPlan 177 = .ok (.lastore, 1) := by decide +kernel
theorem dX8_findPlan_178 : decode cX8_findPlan 178 = .ok (.aload_n 0, 1) := by decide +kernel
theorem dX8_findPlan_179 : decode cX8_findPlan 179 = .ok (.getfield 109, 3) := by decide +kernel
theorem dX8_findPlan_182 : decode cX8_findPlan 182 = .ok (.iload 4, 2) := by decide +kernel
theorem dX8_findPlan_184 : decode cX8_findPlan 184 = .ok (.iload 7, 2) := by decide +kernel
theorem dX8_findPlan_186 : decode cX8_findPlan 186 = .ok (.iastore, 1) := by decide +kernel
theorem dX8_findPlan_187 : decode cX8_findPlan 187 = .ok (.return_, 1) := by decide +kernel
theorem dX8_findPlans_0 : decode cX8_findPlans 0 = .ok (.aload_n 0, 1) := by decide +kernel
theorem dX8_findPlans_1 : decode cX8_findPlans 1 = .ok (.getfield 207, 3) := by decide +kernel
theorem dX8_findPlans_4 : decode cX8_findPlans 4 = .ok (.iconst 1, 1) := by decide +kernel
theorem dX8_findPlans_5 : decode cX8_findPlans 5 = .ok (.isub, 1) := by decide +kernel
theorem dX8_findPlans_6 : decode cX8_findPlans 6 = .ok (.istore_n 2, 1) := by decide +kernel
theorem dX8_findPlans_7 : decode cX8_findPlans 7 = .ok (.iload_n 2, 1) := by decide +kernel
theorem dX8_findPlans_8 : decode cX8_findPlans 8 = .ok (.ifCond .lt 99, 3) := by decide +kernel
theorem dX8_findPlans_11 : decode cX8_findPlans 11 = .ok (.iconst 0, 1) := by decide +kernel
theorem dX8_findPlans_12 : decode cX8_findPlans 12 = .ok (.istore_n 3, 1) := by decide +kernel
theorem dX8_findPlans_13 : decode cX8_findPlans 13 = .ok (.iload_n 3, 1) := by decide +kernel
theorem dX8_findPlans_14 : decode cX8_findPlans 14 = .ok (.sipush 1536, 3) := by decide +kernel
theorem dX8_findPlans_17 : decode cX8_findPlans 17 = .ok (.if_icmp .ge 84, 3) := by decide +kernel
theorem dX8_findPlans_20 : decode cX8_findPlans 20 = .ok (.aload_n 0, 1) := by decide +kernel
theorem dX8_findPlans_21 : decode cX8_findPlans 21 = .ok (.iload_n 3, 1) := by decide +kernel
theorem dX8_findPlans_22 : decode cX8_findPlans 22 = .ok (.invokevirtual 318, 3) := by decide +kernel
theorem dX8_findPlans_25 : decode cX8_findPlans 25 = .ok (.ifCond .eq 70, 3) := by decide +kernel
theorem dX8_findPlans_28 : decode cX8_findPlans 28 = .ok (.sipush 1536, 3) := by decide +kernel
theorem dX8_findPlans_31 : decode cX8_findPlans 31 = .ok (.iload_n 2, 1) := by decide +kernel
theorem dX8_findPlans_32 : decode cX8_findPlans 32 = .ok (.imul, 1) := by decide +kernel
theorem dX8_findPlans_33 : decode cX8_findPlans 33 = .ok (.iload_n 3, 1) := by decide +kernel
theorem dX8_findPlans_34 : decode cX8_findPlans 34 = .ok (.iadd, 1) := by decide +kernel
theorem dX8_findPlans_35 : decode cX8_findPlans 35 = .ok (.istore 4, 2) := by decide +kernel
theorem dX8_findPlans_37 : decode cX8_findPlans 37 = .ok (.aload_n 0, 1) := by decide +kernel
theorem dX8_findPlans_38 : decode cX8_findPlans 38 = .ok (.iload_n 2, 1) := by decide +kernel
theorem dX8_findPlans_39 : decode cX8_findPlans 39 = .ok (.invokevirtual 225, 3) := by decide +kernel
theorem dX8_findPlans_42 : decode cX8_findPlans 42 = .ok (.ifCond .eq 46, 3) := by decide +kernel
theorem dX8_findPlans_45 : decode cX8_findPlans 45 = .ok (.aload_n 0, 1) := by decide +kernel
theorem dX8_findPlans_46 : decode cX8_findPlans 46 = .ok (.getfield 103, 3) := by decide +kernel
theorem dX8_findPlans_49 : decode cX8_findPlans 49 = .ok (.iload 4, 2) := by decide +kernel
theorem dX8_findPlans_51 : decode cX8_findPlans 51 = .ok (.aload_n 0, 1) := by decide +kernel
theorem dX8_findPlans_52 : decode cX8_findPlans 52 = .ok (.iload_n 2, 1) := by decide +kernel
theorem dX8_findPlans_53 : decode cX8_findPlans 53 = .ok (.iload_n 3, 1) := by decide +kernel
theorem dX8_findPlans_54 : decode cX8_findPlans 54 = .ok (.invokevirtual 290, 3) := by decide +kernel
theorem dX8_findPlans_57 : decode cX8_findPlans 57 = .ok (.iastore, 1) := by decide +kernel
theorem dX8_findPlans_58 : decode cX8_findPlans 58 = .ok (.aload_n 0, 1) := by decide +kernel
theorem dX8_findPlans_59 : decode cX8_findPlans 59 = .ok (.getfield 106, 3) := by decide +kernel
theorem dX8_findPlans_62 : decode cX8_findPlans 62 = .ok (.iload 4, 2) := by decide +kernel
theorem dX8_findPlans_64 : decode cX8_findPlans 64 = .ok (.ldc2_w 296, 3) := by decide +kernel
theorem dX8_findPlans_67 : decode cX8_findPlans 67 = .ok (.aload_n 0, 1) := by decide +kernel
theorem dX8_findPlans_68 : decode cX8_findPlans 68 = .ok (.iload_n 2, 1) := by decide +kernel
theorem dX8_findPlans_69 : decode cX8_findPlans 69 = .ok (.iload_n 3, 1) := by decide +kernel
theorem dX8_findPlans_70 : decode cX8_findPlans 70 = .ok (.invokevirtual 290, 3) := by decide +kernel
theorem dX8_findPlans_73 : decode cX8_findPlans 73 = .ok (.i2l, 1) := by decide +kernel
theorem dX8_findPlans_74 : decode cX8_findPlans 74 = .ok (.lmul, 1) := by decide +kernel
theorem dX8_findPlans_75 : decode cX8_findPlans 75 = .ok (.lastore, 1) := by decide +kernel
theorem dX8_findPlans_76 : decode cX8_findPlans 76 = .ok (.aload_n 0, 1) := by decide +kernel
theorem dX8_findPlans_77 : decode cX8_findPlans 77 = .ok (.getfield 109, 3) := by decide +kernel
theorem dX8_findPlans_80 : decode cX8_findPlans 80 = .ok (.iload 4, 2) := by decide +kernel
theorem dX8_findPlans_82 : decode cX8_findPlans 82 = .ok (.bipush (-9), 2) := by decide +kernel
theorem dX8_findPlans_84 : decode cX8_findPlans 84 = .ok (.iastore, 1) := by decide +kernel
theorem dX8_findPlans_85 : decode cX8_findPlans 85 = .ok (.goto 10, 3) := by decide +kernel
theorem dX8_findPlans_88 : decode cX8_findPlans 88 = .ok (.aload_n 0, 1) := by decide +kernel
theorem dX8_findPlans_89 : decode cX8_findPlans 89 = .ok (.iload_n 2, 1) := by decide +kernel
theorem dX8_findPlans_90 : decode cX8_findPlans 90 = .ok (.iload_n 3, 1) := by decide +kernel
theorem dX8_findPlans_91 : decode cX8_findPlans 91 = .ok (.iload_n 1, 1) := by decide +kernel
theorem dX8_findPlans_92 : decode cX8_findPlans 92 = .ok (.invokevirtual 321, 3) := by decide +kernel
theorem dX8_findPlans_95 : decode cX8_findPlans 95 = .ok (.iinc 3 1, 3) := by decide +kernel
theorem dX8_findPlans_98 : decode cX8_findPlans 98 = .ok (.goto (-85), 3) := by decide +kernel
theorem dX8_findPlans_101 : decode cX8_findPlans 101 = .ok (.iinc 2 (-1), 3) := by decide +kernel
theorem dX8_findPlans_104 : decode cX8_findPlans 104 = .ok (.goto (-97), 3) := by decide +kernel
theorem dX8_findPlans_107 : decode cX8_findPlans 107 = .ok (.return_, 1) := by decide +kernel
theorem dX8_worst_0 : decode cX8_worst 0 = .ok (.aload_n 0, 1) := by decide +kernel
theorem dX8_worst_1 : decode cX8_worst 1 = .ok (.getfield 207, 3) := by decide +kernel
theorem dX8_worst_4 : decode cX8_worst 4 = .ok (.ifCond .ne 6, 3) := by decide +kernel
theorem dX8_worst_7 : decode cX8_worst 7 = .ok (.bipush (-4), 2) := by decide +kernel
theorem dX8_worst_9 : decode cX8_worst 9 = .ok (.ireturn, 1) := by decide +kernel
theorem dX8_worst_10 : decode cX8_worst 10 = .ok (.aload_n 0, 1) := by decide +kernel
theorem dX8_worst_11 : decode cX8_worst 11 = .ok (.iconst 0, 1) := by decide +kernel
theorem dX8_worst_12 : decode cX8_worst 12 = .ok (.invokevirtual 325, 3) := by decide +kernel
theorem dX8_worst_15 : decode cX8_worst 15 = .ok (.sipush 1536, 3) := by decide +kernel
theorem dX8_worst_18 : decode cX8_worst 18 = .ok (.aload_n 0, 1) := by decide +kernel
theorem dX8_worst_19 : decode cX8_worst 19 = .ok (.invokevirtual 274, 3) := by decide +kernel
theorem dX8_worst_22 : decode cX8_worst 22 = .ok (.imul, 1) := by decide +kernel
theorem dX8_worst_23 : decode cX8_worst 23 = .ok (.aload_n 0, 1) := by decide +kernel
theorem dX8_worst_24 : decode cX8_worst 24 = .ok (.getfield 219, 3) := by decide +kernel
theorem dX8_worst_27 : decode cX8_worst 27 = .ok (.iadd, 1) := by decide +kernel
theorem dX8_worst_28 : decode cX8_worst 28 = .ok (.istore_n 1, 1) := by decide +kernel
theorem dX8_worst_29 : decode cX8_worst 29 = .ok (.aload_n 0, 1) := by decide +kernel
theorem dX8_worst_30 : decode cX8_worst 30 = .ok (.aload_n 0, 1) := by decide +kernel
theorem dX8_worst_31 : decode cX8_worst 31 = .ok (.getfield 103, 3) := by decide +kernel
theorem dX8_worst_34 : decode cX8_worst 34 = .ok (.iload_n 1, 1) := by decide +kernel
theorem dX8_worst_35 : decode cX8_worst 35 = .ok (.iaload, 1) := by decide +kernel
theorem dX8_worst_36 : decode cX8_worst 36 = .ok (.aload_n 0, 1) := by decide +kernel
theorem dX8_worst_37 : decode cX8_worst 37 = .ok (.getfield 109, 3) := by decide +kernel
theorem dX8_worst_40 : decode cX8_worst 40 = .ok (.iload_n 1, 1) := by decide +kernel
theorem dX8_worst_41 : decode cX8_worst 41 = .ok (.iaload, 1) := by decide +kernel
theorem dX8_worst_42 : decode cX8_worst 42 = .ok (.invokevirtual 151, 3) := by decide +kernel
theorem dX8_worst_45 : decode cX8_worst 45 = .ok (.ireturn, 1) := by decide +kernel
theorem dX8_hopes_0 : decode cX8_hopes 0 = .ok (.aload_n 0, 1) := by decide +kernel
theorem dX8_hopes_1 : decode cX8_hopes 1 = .ok (.getfield 207, 3) := by decide +kernel
theorem dX8_hopes_4 : decode cX8_hopes 4 = .ok (.ifCond .ne 6, 3) := by decide +kernel
theorem dX8_hopes_7 : decode cX8_hopes 7 = .ok (.bipush (-4), 2) := by decide +kernel
theorem dX8_hopes_9 : decode cX8_hopes 9 = .ok (.ireturn, 1) := by decide +kernel
theorem dX8_hopes_10 : decode cX8_hopes 10 = .ok (.aload_n 0, 1) := by decide +kernel
theorem dX8_hopes_11 : decode cX8_hopes 11 = .ok (.iconst 1, 1) := by decide +kernel
theorem dX8_hopes_12 : decode cX8_hopes 12 = .ok (.invokevirtual 325, 3) := by decide +kernel
theorem dX8_hopes_15 : decode cX8_hopes 15 = .ok (.sipush 1536, 3) := by decide +kernel
theorem dX8_hopes_18 : decode cX8_hopes 18 = .ok (.aload_n 0, 1) := by decide +kernel
theorem dX8_hopes_19 : decode cX8_hopes 19 = .ok (.invokevirtual 274, 3) := by decide +kernel
theorem dX8_hopes_22 : decode cX8_hopes 22 = .ok (.imul, 1) := by decide +kernel
theorem dX8_hopes_23 : decode cX8_hopes 23 = .ok (.aload_n 0, 1) := by decide +kernel
theorem dX8_hopes_24 : decode cX8_hopes 24 = .ok (.getfield 219, 3) := by decide +kernel
theorem dX8_hopes_27 : decode cX8_hopes 27 = .ok (.iadd, 1) := by decide +kernel
theorem dX8_hopes_28 : decode cX8_hopes 28 = .ok (.istore_n 1, 1) := by decide +kernel
theorem dX8_hopes_29 : decode cX8_hopes 29 = .ok (.aload_n 0, 1) := by decide +kernel
theorem dX8_hopes_30 : decode cX8_hopes 30 = .ok (.aload_n 0, 1) := by decide +kernel
theorem dX8_hopes_31 : decode cX8_hopes 31 = .ok (.getfield 106, 3) := by decide +kernel
theorem dX8_hopes_34 : decode cX8_hopes 34 = .ok (.iload_n 1, 1) := by decide +kernel
theorem dX8_hopes_35 : decode cX8_hopes 35 = .ok (.laload, 1) := by decide +kernel
theorem dX8_hopes_36 : decode cX8_hopes 36 = .ok (.invokevirtual 305, 3) := by decide +kernel
theorem dX8_hopes_39 : decode cX8_hopes 39 = .ok (.aload_n 0, 1) := by decide +kernel
theorem dX8_hopes_40 : decode cX8_hopes 40 = .ok (.iconst 1, 1) := by decide +kernel
theorem dX8_hopes_41 : decode cX8_hopes 41 = .ok (.aload_n 0, 1) := by decide +kernel
theorem dX8_hopes_42 : decode cX8_hopes 42 = .ok (.getfield 109, 3) := by decide +kernel
theorem dX8_hopes_45 : decode cX8_hopes 45 = .ok (.iload_n 1, 1) := by decide +kernel
theorem dX8_hopes_46 : decode cX8_hopes 46 = .ok (.iaload, 1) := by decide +kernel
theorem dX8_hopes_47 : decode cX8_hopes 47 = .ok (.invokevirtual 151, 3) := by decide +kernel
theorem dX8_hopes_50 : decode cX8_hopes 50 = .ok (.ireturn, 1) := by decide +kernel
theorem dX8_lacksRow_0 : decode cX8_lacksRow 0 = .ok (.aload_n 0, 1) := by decide +kernel
theorem dX8_lacksRow_1 : decode cX8_lacksRow 1 = .ok (.getfield 207, 3) := by decide +kernel
theorem dX8_lacksRow_4 : decode cX8_lacksRow 4 = .ok (.ifCond .ne 6, 3) := by decide +kernel
theorem dX8_lacksRow_7 : decode cX8_lacksRow 7 = .ok (.bipush (-4), 2) := by decide +kernel
theorem dX8_lacksRow_9 : decode cX8_lacksRow 9 = .ok (.ireturn, 1) := by decide +kernel
theorem dX8_lacksRow_10 : decode cX8_lacksRow 10 = .ok (.aload_n 0, 1) := by decide +kernel
theorem dX8_lacksRow_11 : decode cX8_lacksRow 11 = .ok (.getfield 7, 3) := by decide +kernel
theorem dX8_lacksRow_14 : decode cX8_lacksRow 14 = .ok (.iload_n 1, 1) := by decide +kernel
theorem dX8_lacksRow_15 : decode cX8_lacksRow 15 = .ok (.iaload, 1) := by decide +kernel
theorem dX8_lacksRow_16 : decode cX8_lacksRow 16 = .ok (.ifCond .ge 9, 3) := by decide +kernel
theorem dX8_lacksRow_19 : decode cX8_lacksRow 19 = .ok (.aload_n 0, 1) := by decide +kernel
theorem dX8_lacksRow_20 : decode cX8_lacksRow 20 = .ok (.iconst 1, 1) := by decide +kernel
theorem dX8_lacksRow_21 : decode cX8_lacksRow 21 = .ok (.invokevirtual 143, 3) := by decide +kernel
theorem dX8_lacksRow_24 : decode cX8_lacksRow 24 = .ok (.ireturn, 1) := by decide +kernel
theorem dX8_lacksRow_25 : decode cX8_lacksRow 25 = .ok (.aload_n 0, 1) := by decide +kernel
theorem dX8_lacksRow_26 : decode cX8_lacksRow 26 = .ok (.getfield 7, 3) := by decide +kernel
theorem dX8_lacksRow_29 : decode cX8_lacksRow 29 = .ok (.iload_n 1, 1) := by decide +kernel
theorem dX8_lacksRow_30 : decode cX8_lacksRow 30 = .ok (.iaload, 1) := by decide +kernel
theorem dX8_lacksRow_31 : decode cX8_lacksRow 31 = .ok (.bipush 8, 2) := by decide +kernel
theorem dX8_lacksRow_33 : decode cX8_lacksRow 33 = .ok (.if_icmp .le 11, 3) := by decide +kernel
theorem dX8_lacksRow_36 : decode cX8_lacksRow 36 = .ok (.aload_n 0, 1) := by decide +kernel
theorem dX8_lacksRow_37 : decode cX8_lacksRow 37 = .ok (.iconst 5, 1) := by decide +kernel
theorem dX8_lacksRow_38 : decode cX8_lacksRow 38 = .ok (.invokevirtual 143, 3) := by decide +kernel
theorem dX8_lacksRow_41 : decode cX8_lacksRow 41 = .ok (.goto 4, 3) := by decide +kernel
theorem dX8_lacksRow_44 : decode cX8_lacksRow 44 = .ok (.iconst 0, 1) := by decide +kernel
theorem dX8_lacksRow_45 : decode cX8_lacksRow 45 = .ok (.ireturn, 1) := by decide +kernel
theorem dX8_endOf_0 : decode cX8_endOf 0 = .ok (.aload_n 0, 1) := by decide +kernel
theorem dX8_endOf_1 : decode cX8_endOf 1 = .ok (.invokevirtual 274, 3) := by decide +kernel
theorem dX8_endOf_4 : decode cX8_endOf 4 = .ok (.istore_n 2, 1) := by decide +kernel
theorem dX8_endOf_5 : decode cX8_endOf 5 = .ok (.iconst 0, 1) := by decide +kernel
theorem dX8_endOf_6 : decode cX8_endOf 6 = .ok (.istore_n 3, 1) := by decide +kernel
theorem dX8_endOf_7 : decode cX8_endOf 7 = .ok (.iload_n 3, 1) := by decide +kernel
theorem dX8_endOf_8 : decode cX8_endOf 8 = .ok (.aload_n 0, 1) := by decide +kernel
theorem dX8_endOf_9 : decode cX8_endOf 9 = .ok (.getfield 7, 3) := by decide +kernel
theorem dX8_endOf_12 : decode cX8_endOf 12 = .ok (.iload_n 1, 1) := by decide +kernel
theorem dX8_endOf_13 : decode cX8_endOf 13 = .ok (.iaload, 1) := by decide +kernel
theorem dX8_endOf_14 : decode cX8_endOf 14 = .ok (.if_icmp .ge 59, 3) := by decide +kernel
theorem dX8_endOf_17 : decode cX8_endOf 17 = .ok (.iload_n 2, 1) := by decide +kernel
theorem dX8_endOf_18 : decode cX8_endOf 18 = .ok (.ifCond .lt 55, 3) := by decide +kernel
theorem dX8_endOf_21 : decode cX8_endOf 21 = .ok (.aload_n 0, 1) := by decide +kernel
theorem dX8_endOf_22 : decode cX8_endOf 22 = .ok (.getfield 13, 3) := by decide +kernel
theorem dX8_endOf_25 : decode cX8_endOf 25 = .ok (.bipush 40, 2) := by decide +kernel
theorem dX8_endOf_27 : decode cX8_endOf 27 = .ok (.iload_n 1, 1) := by decide +kernel
theorem dX8_endOf_28 : decode cX8_endOf 28 = .ok (.imul, 1) := by decide +kernel
theorem dX8_endOf_29 : decode cX8_endOf 29 = .ok (.iload_n 3, 1) := by decide +kernel
theorem dX8_endOf_30 : decode cX8_endOf 30 = .ok (.iadd, 1) := by decide +kernel
theorem dX8_endOf_31 : decode cX8_endOf 31 = .ok (.iaload, 1) := by decide +kernel
theorem dX8_endOf_32 : decode cX8_endOf 32 = .ok (.istore 4, 2) := by decide +kernel
theorem dX8_endOf_34 : decode cX8_endOf 34 = .ok (.aload_n 0, 1) := by decide +kernel
theorem dX8_endOf_35 : decode cX8_endOf 35 = .ok (.iload 4, 2) := by decide +kernel
theorem dX8_endOf_37 : decode cX8_endOf 37 = .ok (.invokevirtual 237, 3) := by decide +kernel
theorem dX8_endOf_40 : decode cX8_endOf 40 = .ok (.ifCond .eq 24, 3) := by decide +kernel
theorem dX8_endOf_43 : decode cX8_endOf 43 = .ok (.aload_n 0, 1) := by decide +kernel
theorem dX8_endOf_44 : decode cX8_endOf 44 = .ok (.getfield 28, 3) := by decide +kernel
theorem dX8_endOf_47 : decode cX8_endOf 47 = .ok (.iload 4, 2) := by decide +kernel
theorem dX8_endOf_49 : decode cX8_endOf 49 = .ok (.iaload, 1) := by decide +kernel
theorem dX8_endOf_50 : decode cX8_endOf 50 = .ok (.iload_n 2, 1) := by decide +kernel
theorem dX8_endOf_51 : decode cX8_endOf 51 = .ok (.if_icmp .ne 13, 3) := by decide +kernel
theorem dX8_endOf_54 : decode cX8_endOf 54 = .ok (.aload_n 0, 1) := by decide +kernel
theorem dX8_endOf_55 : decode cX8_endOf 55 = .ok (.getfield 31, 3) := by decide +kernel
theorem dX8_endOf_58 : decode cX8_endOf 58 = .ok (.iload 4, 2) := by decide +kernel
theorem dX8_endOf_60 : decode cX8_endOf 60 = .ok (.iaload, 1) := by decide +kernel
theorem dX8_endOf_61 : decode cX8_endOf 61 = .ok (.goto 5, 3) := by decide +kernel
theorem dX8_endOf_64 : decode cX8_endOf 64 = .ok (.bipush (-9), 2) := by decide +kernel
theorem dX8_endOf_66 : decode cX8_endOf 66 = .ok (.istore_n 2, 1) := by decide +kernel
theorem dX8_endOf_67 : decode cX8_endOf 67 = .ok (.iinc 3 1, 3) := by decide +kernel
theorem dX8_endOf_70 : decode cX8_endOf 70 = .ok (.goto (-63), 3) := by decide +kernel
theorem dX8_endOf_73 : decode cX8_endOf 73 = .ok (.iload_n 2, 1) := by decide +kernel
theorem dX8_endOf_74 : decode cX8_endOf 74 = .ok (.ireturn, 1) := by decide +kernel
theorem dX8_brings_0 : decode cX8_brings 0 = .ok (.iload_n 1, 1) := by decide +kernel
theorem dX8_brings_1 : decode cX8_brings 1 = .ok (.invokestatic 139, 3) := by decide +kernel
theorem dX8_brings_4 : decode cX8_brings 4 = .ok (.ifCond .ne 5, 3) := by decide +kernel
theorem dX8_brings_7 : decode cX8_brings 7 = .ok (.iconst (-1), 1) := by decide +kernel
theorem dX8_brings_8 : decode cX8_brings 8 = .ok (.ireturn, 1) := by decide +kernel
theorem dX8_brings_9 : decode cX8_brings 9 = .ok (.aload_n 0, 1) := by decide +kernel
theorem dX8_brings_10 : decode cX8_brings 10 = .ok (.iload_n 1, 1) := by decide +kernel
theorem dX8_brings_11 : decode cX8_brings 11 = .ok (.invokevirtual 329, 3) := by decide +kernel
theorem dX8_brings_14 : decode cX8_brings 14 = .ok (.istore_n 2, 1) := by decide +kernel
theorem dX8_brings_15 : decode cX8_brings 15 = .ok (.iload_n 2, 1) := by decide +kernel
theorem dX8_brings_16 : decode cX8_brings 16 = .ok (.ifCond .ge 5, 3) := by decide +kernel
theorem dX8_brings_19 : decode cX8_brings 19 = .ok (.iload_n 2, 1) := by decide +kernel
theorem dX8_brings_20 : decode cX8_brings 20 = .ok (.ireturn, 1) := by decide +kernel
theorem dX8_brings_21 : decode cX8_brings 21 = .ok (.aload_n 0, 1) := by decide +kernel
theorem dX8_brings_22 : decode cX8_brings 22 = .ok (.iload_n 1, 1) := by decide +kernel
theorem dX8_brings_23 : decode cX8_brings 23 = .ok (.invokevirtual 332, 3) := by decide +kernel
theorem dX8_brings_26 : decode cX8_brings 26 = .ok (.istore_n 3, 1) := by decide +kernel
theorem dX8_brings_27 : decode cX8_brings 27 = .ok (.iload_n 3, 1) := by decide +kernel
theorem dX8_brings_28 : decode cX8_brings 28 = .ok (.ifCond .lt 11, 3) := by decide +kernel
theorem dX8_brings_31 : decode cX8_brings 31 = .ok (.aload_n 0, 1) := by decide +kernel
theorem dX8_brings_32 : decode cX8_brings 32 = .ok (.iload_n 3, 1) := by decide +kernel
theorem dX8_brings_33 : decode cX8_brings 33 = .ok (.invokevirtual 225, 3) := by decide +kernel
theorem dX8_brings_36 : decode cX8_brings 36 = .ok (.ifCond .ne 9, 3) := by decide +kernel
theorem dX8_brings_39 : decode cX8_brings 39 = .ok (.aload_n 0, 1) := by decide +kernel
theorem dX8_brings_40 : decode cX8_brings 40 = .ok (.iconst 3, 1) := by decide +kernel
theorem dX8_brings_41 : decode cX8_brings 41 = .ok (.invokevirtual 143, 3) := by decide +kernel
theorem dX8_brings_44 : decode cX8_brings 44 = .ok (.ireturn, 1) := by decide +kernel
theorem dX8_brings_45 : decode cX8_brings 45 = .ok (.aload_n 0, 1) := by decide +kernel
theorem dX8_brings_46 : decode cX8_brings 46 = .ok (.iconst 0, 1) := by decide +kernel
theorem dX8_brings_47 : decode cX8_brings 47 = .ok (.invokevirtual 325, 3) := by decide +kernel
theorem dX8_brings_50 : decode cX8_brings 50 = .ok (.aload_n 0, 1) := by decide +kernel
theorem dX8_brings_51 : decode cX8_brings 51 = .ok (.invokevirtual 274, 3) := by decide +kernel
theorem dX8_brings_54 : decode cX8_brings 54 = .ok (.istore 4, 2) := by decide +kernel
theorem dX8_brings_56 : decode cX8_brings 56 = .ok (.aload_n 0, 1) := by decide +kernel
theorem dX8_brings_57 : decode cX8_brings 57 = .ok (.getfield 219, 3) := by decide +kernel
theorem dX8_brings_60 : decode cX8_brings 60 = .ok (.istore 5, 2) := by decide +kernel
theorem dX8_brings_62 : decode cX8_brings 62 = .ok (.iconst 0, 1) := by decide +kernel
theorem dX8_brings_63 : decode cX8_brings 63 = .ok (.istore 6, 2) := by decide +kernel
theorem dX8_brings_65 : decode cX8_brings 65 = .ok (.iload 6, 2) := by decide +kernel
theorem dX8_brings_67 : decode cX8_brings 67 = .ok (.aload_n 0, 1) := by decide +kernel
theorem dX8_brings_68 : decode cX8_brings 68 = .ok (.getfield 7, 3) := by decide +kernel
theorem dX8_brings_71 : decode cX8_brings 71 = .ok (.iload_n 1, 1) := by decide +kernel
theorem dX8_brings_72 : decode cX8_brings 72 = .ok (.iaload, 1) := by decide +kernel
theorem dX8_brings_73 : decode cX8_brings 73 = .ok (.if_icmp .ge 70, 3) := by decide +kernel
theorem dX8_brings_76 : decode cX8_brings 76 = .ok (.aload_n 0, 1) := by decide +kernel
theorem dX8_brings_77 : decode cX8_brings 77 = .ok (.getfield 109, 3) := by decide +kernel
theorem dX8_brings_80 : decode cX8_brings 80 = .ok (.sipush 1536, 3) := by decide +kernel
theorem dX8_brings_83 : decode cX8_brings 83 = .ok (.iload 4, 2) := by decide +kernel
theorem dX8_brings_85 : decode cX8_brings 85 = .ok (.imul, 1) := by decide +kernel
theorem dX8_brings_86 : decode cX8_brings 86 = .ok (.iload 5, 2) := by decide +kernel
theorem dX8_brings_88 : decode cX8_brings 88 = .ok (.iadd, 1) := by decide +kernel
theorem dX8_brings_89 : decode cX8_brings 89 = .ok (.iaload, 1) := by decide +kernel
theorem dX8_brings_90 : decode cX8_brings 90 = .ok (.istore 7, 2) := by decide +kernel
theorem dX8_brings_92 : decode cX8_brings 92 = .ok (.aload_n 0, 1) := by decide +kernel
theorem dX8_brings_93 : decode cX8_brings 93 = .ok (.iload 4, 2) := by decide +kernel
theorem dX8_brings_95 : decode cX8_brings 95 = .ok (.iload 7, 2) := by decide +kernel
theorem dX8_brings_97 : decode cX8_brings 97 = .ok (.ifCond .ge 8, 3) := by decide +kernel
theorem dX8_brings_100 : decode cX8_brings 100 = .ok (.iload 5, 2) := by decide +kernel
theorem dX8_brings_102 : decode cX8_brings 102 = .ok (.goto 11, 3) := by decide +kernel
theorem dX8_brings_105 : decode cX8_brings 105 = .ok (.aload_n 0, 1) := by decide +kernel
theorem dX8_brings_106 : decode cX8_brings 106 = .ok (.iload 5, 2) := by decide +kernel
theorem dX8_brings_108 : decode cX8_brings 108 = .ok (.iload 7, 2) := by decide +kernel
theorem dX8_brings_110 : decode cX8_brings 110 = .ok (.invokevirtual 284, 3) := by decide +kernel
theorem dX8_brings_113 : decode cX8_brings 113 = .ok (.invokevirtual 271, 3) := by decide +kernel
theorem dX8_brings_116 : decode cX8_brings 116 = .ok (.istore 5, 2) := by decide +kernel
theorem dX8_brings_118 : decode cX8_brings 118 = .ok (.aload_n 0, 1) := by decide +kernel
theorem dX8_brings_119 : decode cX8_brings 119 = .ok (.getfield 31, 3) := by decide +kernel
theorem dX8_brings_122 : decode cX8_brings 122 = .ok (.aload_n 0, 1) := by decide +kernel
theorem dX8_brings_123 : decode cX8_brings 123 = .ok (.getfield 13, 3) := by decide +kernel
theorem dX8_brings_126 : decode cX8_brings 126 = .ok (.bipush 40, 2) := by decide +kernel
theorem dX8_brings_128 : decode cX8_brings 128 = .ok (.iload_n 1, 1) := by decide +kernel
theorem dX8_brings_129 : decode cX8_brings 129 = .ok (.imul, 1) := by decide +kernel
theorem dX8_brings_130 : decode cX8_brings 130 = .ok (.iload 6, 2) := by decide +kernel
theorem dX8_brings_132 : decode cX8_brings 132 = .ok (.iadd, 1) := by decide +kernel
theorem dX8_brings_133 : decode cX8_brings 133 = .ok (.iaload, 1) := by decide +kernel
theorem dX8_brings_134 : decode cX8_brings 134 = .ok (.iaload, 1) := by decide +kernel
theorem dX8_brings_135 : decode cX8_brings 135 = .ok (.istore 4, 2) := by decide +kernel
theorem dX8_brings_137 : decode cX8_brings 137 = .ok (.iinc 6 1, 3) := by decide +kernel
theorem dX8_brings_140 : decode cX8_brings 140 = .ok (.goto (-75), 3) := by decide +kernel
theorem dX8_brings_143 : decode cX8_brings 143 = .ok (.aload_n 0, 1) := by decide +kernel
theorem dX8_brings_144 : decode cX8_brings 144 = .ok (.iconst 1, 1) := by decide +kernel
theorem dX8_brings_145 : decode cX8_brings 145 = .ok (.aload_n 0, 1) := by decide +kernel
theorem dX8_brings_146 : decode cX8_brings 146 = .ok (.iload 4, 2) := by decide +kernel
theorem dX8_brings_148 : decode cX8_brings 148 = .ok (.iload 5, 2) := by decide +kernel
theorem dX8_brings_150 : decode cX8_brings 150 = .ok (.invokevirtual 290, 3) := by decide +kernel
theorem dX8_brings_153 : decode cX8_brings 153 = .ok (.invokevirtual 151, 3) := by decide +kernel
theorem dX8_brings_156 : decode cX8_brings 156 = .ok (.ireturn, 1) := by decide +kernel
theorem dX8_knows_0 : decode cX8_knows 0 = .ok (.iload_n 1, 1) := by decide +kernel
theorem dX8_knows_1 : decode cX8_knows 1 = .ok (.invokestatic 139, 3) := by decide +kernel
theorem dX8_knows_4 : decode cX8_knows 4 = .ok (.ifCond .ne 5, 3) := by decide +kernel
theorem dX8_knows_7 : decode cX8_knows 7 = .ok (.iconst (-1), 1) := by decide +kernel
theorem dX8_knows_8 : decode cX8_knows 8 = .ok (.ireturn, 1) := by decide +kernel
theorem dX8_knows_9 : decode cX8_knows 9 = .ok (.aload_n 0, 1) := by decide +kernel
theorem dX8_knows_10 : decode cX8_knows 10 = .ok (.iload_n 1, 1) := by decide +kernel
theorem dX8_knows_11 : decode cX8_knows 11 = .ok (.invokevirtual 329, 3) := by decide +kernel
theorem dX8_knows_14 : decode cX8_knows 14 = .ok (.istore_n 2, 1) := by decide +kernel
theorem dX8_knows_15 : decode cX8_knows 15 = .ok (.iload_n 2, 1) := by decide +kernel
theorem dX8_knows_16 : decode cX8_knows 16 = .ok (.ifCond .ge 5, 3) := by decide +kernel
theorem dX8_knows_19 : decode cX8_knows 19 = .ok (.iload_n 2, 1) := by decide +kernel
theorem dX8_knows_20 : decode cX8_knows 20 = .ok (.ireturn, 1) := by decide +kernel
theorem dX8_knows_21 : decode cX8_knows 21 = .ok (.aload_n 0, 1) := by decide +kernel
theorem dX8_knows_22 : decode cX8_knows 22 = .ok (.iload_n 1, 1) := by decide +kernel
theorem dX8_knows_23 : decode cX8_knows 23 = .ok (.invokevirtual 332, 3) := by decide +kernel
theorem dX8_knows_26 : decode cX8_knows 26 = .ok (.istore_n 3, 1) := by decide +kernel
theorem dX8_knows_27 : decode cX8_knows 27 = .ok (.iload_n 3, 1) := by decide +kernel
theorem dX8_knows_28 : decode cX8_knows 28 = .ok (.ifCond .lt 11, 3) := by decide +kernel
theorem dX8_knows_31 : decode cX8_knows 31 = .ok (.aload_n 0, 1) := by decide +kernel
theorem dX8_knows_32 : decode cX8_knows 32 = .ok (.iload_n 3, 1) := by decide +kernel
theorem dX8_knows_33 : decode cX8_knows 33 = .ok (.invokevirtual 225, 3) := by decide +kernel
theorem dX8_knows_36 : decode cX8_knows 36 = .ok (.ifCond .ne 9, 3) := by decide +kernel
theorem dX8_knows_39 : decode cX8_knows 39 = .ok (.aload_n 0, 1) := by decide +kernel
theorem dX8_knows_40 : decode cX8_knows 40 = .ok (.iconst 3, 1) := by decide +kernel
theorem dX8_knows_41 : decode cX8_knows 41 = .ok (.invokevirtual 143, 3) := by decide +kernel
theorem dX8_knows_44 : decode cX8_knows 44 = .ok (.ireturn, 1) := by decide +kernel
theorem dX8_knows_45 : decode cX8_knows 45 = .ok (.iconst 0, 1) := by decide +kernel
theorem dX8_knows_46 : decode cX8_knows 46 = .ok (.istore 4, 2) := by decide +kernel
theorem dX8_knows_48 : decode cX8_knows 48 = .ok (.iload 4, 2) := by decide +kernel
theorem dX8_knows_50 : decode cX8_knows 50 = .ok (.sipush 1536, 3) := by decide +kernel
theorem dX8_knows_53 : decode cX8_knows 53 = .ok (.if_icmp .ge 30, 3) := by decide +kernel
theorem dX8_knows_56 : decode cX8_knows 56 = .ok (.aload_n 0, 1) := by decide +kernel
theorem dX8_knows_57 : decode cX8_knows 57 = .ok (.getfield 112, 3) := by decide +kernel
theorem dX8_knows_60 : decode cX8_knows 60 = .ok (.iload 4, 2) := by decide +kernel
theorem dX8_knows_62 : decode cX8_knows 62 = .ok (.iload 4, 2) := by decide +kernel
theorem dX8_knows_64 : decode cX8_knows 64 = .ok (.aload_n 0, 1) := by decide +kernel
theorem dX8_knows_65 : decode cX8_knows 65 = .ok (.getfield 219, 3) := by decide +kernel
theorem dX8_knows_68 : decode cX8_knows 68 = .ok (.if_icmp .ne 7, 3) := by decide +kernel
theorem dX8_knows_71 : decode cX8_knows 71 = .ok (.iconst 1, 1) := by decide +kernel
theorem dX8_knows_72 : decode cX8_knows 72 = .ok (.goto 4, 3) := by decide +kernel
theorem dX8_knows_75 : decode cX8_knows 75 = .ok (.iconst 0, 1) := by decide +kernel
theorem dX8_knows_76 : decode cX8_knows 76 = .ok (.bastore, 1) := by decide +kernel
theorem dX8_knows_77 : decode cX8_knows 77 = .ok (.iinc 4 1, 3) := by decide +kernel
theorem dX8_knows_80 : decode cX8_knows 80 = .ok (.goto (-32), 3) := by decide +kernel
theorem dX8_knows_83 : decode cX8_knows 83 = .ok (.aload_n 0, 1) := by decide +kernel
theorem dX8_knows_84 : decode cX8_knows 84 = .ok (.invokevirtual 274, 3) := by decide +kernel
theorem dX8_knows_87 : decode cX8_knows 87 = .ok (.istore 4, 2) := by decide +kernel
theorem dX8_knows_89 : decode cX8_knows 89 = .ok (.iconst 0, 1) := by decide +kernel
theorem dX8_knows_90 : decode cX8_knows 90 = .ok (.istore 5, 2) := by decide +kernel
theorem dX8_knows_92 : decode cX8_knows 92 = .ok (.iload 5, 2) := by decide +kernel
theorem dX8_knows_94 : decode cX8_knows 94 = .ok (.aload_n 0, 1) := by decide +kernel
theorem dX8_knows_95 : decode cX8_knows 95 = .ok (.getfield 7, 3) := by decide +kernel
theorem dX8_knows_98 : decode cX8_knows 98 = .ok (.iload_n 1, 1) := by decide +kernel
theorem dX8_knows_99 : decode cX8_knows 99 = .ok (.iaload, 1) := by decide +kernel
theorem dX8_knows_100 : decode cX8_knows 100 = .ok (.if_icmp .ge 174, 3) := by decide +kernel
theorem dX8_knows_103 : decode cX8_knows 103 = .ok (.iconst 0, 1) := by decide +kernel
theorem dX8_knows_104 : decode cX8_knows 104 = .ok (.istore 6, 2) := by decide +kernel
theorem dX8_knows_106 : decode cX8_knows 106 = .ok (.iload 6, 2) := by decide +kernel
theorem dX8_knows_108 : decode cX8_knows 108 = .ok (.sipush 1536, 3) := by decide +kernel
theorem dX8_knows_111 : decode cX8_knows 111 = .ok (.if_icmp .ge 17, 3) := by decide +kernel
theorem dX8_knows_114 : decode cX8_knows 114 = .ok (.aload_n 0, 1) := by decide +kernel
theorem dX8_knows_115 : decode cX8_knows 115 = .ok (.getfield 115, 3) := by decide +kernel
theorem dX8_knows_118 : decode cX8_knows 118 = .ok (.iload 6, 2) := by decide +kernel
theorem dX8_knows_120 : decode cX8_knows 120 = .ok (.iconst 0, 1) := by decide +kernel
theorem dX8_knows_121 : decode cX8_knows 121 = .ok (.bastore, 1) := by decide +kernel
theorem dX8_knows_122 : decode cX8_knows 122 = .ok (.iinc 6 1, 3) := by decide +kernel
theorem dX8_knows_125 : decode cX8_knows 125 = .ok (.goto (-19), 3) := by decide +kernel
theorem dX8_knows_128 : decode cX8_knows 128 = .ok (.iconst 0, 1) := by decide +kernel
theorem dX8_knows_129 : decode cX8_knows 129 = .ok (.istore 6, 2) := by decide +kernel
theorem dX8_knows_131 : decode cX8_knows 131 = .ok (.iload 6, 2) := by decide +kernel
theorem dX8_knows_133 : decode cX8_knows 133 = .ok (.sipush 1536, 3) := by decide +kernel
theorem dX8_knows_136 : decode cX8_knows 136 = .ok (.if_icmp .ge 82, 3) := by decide +kernel
theorem dX8_knows_139 : decode cX8_knows 139 = .ok (.aload_n 0, 1) := by decide +kernel
theorem dX8_knows_140 : decode cX8_knows 140 = .ok (.getfield 112, 3) := by decide +kernel
theorem dX8_knows_143 : decode cX8_knows 143 = .ok (.iload 6, 2) := by decide +kernel
theorem dX8_knows_145 : decode cX8_knows 145 = .ok (.baload, 1) := by decide +kernel
theorem dX8_knows_146 : decode cX8_knows 146 = .ok (.ifCond .eq 66, 3) := by decide +kernel
theorem dX8_knows_149 : decode cX8_knows 149 = .ok (.aload_n 0, 1) := by decide +kernel
theorem dX8_knows_150 : decode cX8_knows 150 = .ok (.getfield 115, 3) := by decide +kernel
theorem dX8_knows_153 : decode cX8_knows 153 = .ok (.aload_n 0, 1) := by decide +kernel
theorem dX8_knows_154 : decode cX8_knows 154 = .ok (.iload 4, 2) := by decide +kernel
theorem dX8_knows_156 : decode cX8_knows 156 = .ok (.iload 6, 2) := by decide +kernel
theorem dX8_knows_158 : decode cX8_knows 158 = .ok (.invokevirtual 271, 3) := by decide +kernel
theorem dX8_knows_161 : decode cX8_knows 161 = .ok (.iconst 1, 1) := by decide +kernel
theorem dX8_knows_162 : decode cX8_knows 162 = .ok (.bastore, 1) := by decide +kernel
theorem dX8_knows_163 : decode cX8_knows 163 = .ok (.iconst 0, 1) := by decide +kernel
theorem dX8_knows_164 : decode cX8_knows 164 = .ok (.istore 7, 2) := by decide +kernel
theorem dX8_knows_166 : decode cX8_knows 166 = .ok (.iload 7, 2) := by decide +kernel
theorem dX8_knows_168 : decode cX8_knows 168 = .ok (.aload_n 0, 1) := by decide +kernel
theorem dX8_knows_169 : decode cX8_knows 169 = .ok (.getfield 213, 3) := by decide +kernel
theorem dX8_knows_172 : decode cX8_knows 172 = .ok (.if_icmp .ge 40, 3) := by decide +kernel
theorem dX8_knows_175 : decode cX8_knows 175 = .ok (.aload_n 0, 1) := by decide +kernel
theorem dX8_knows_176 : decode cX8_knows 176 = .ok (.iload 6, 2) := by decide +kernel
theorem dX8_knows_178 : decode cX8_knows 178 = .ok (.iload 7, 2) := by decide +kernel
theorem dX8_knows_180 : decode cX8_knows 180 = .ok (.invokevirtual 281, 3) := by decide +kernel
theorem dX8_knows_183 : decode cX8_knows 183 = .ok (.ifCond .eq 23, 3) := by decide +kernel
theorem dX8_knows_186 : decode cX8_knows 186 = .ok (.aload_n 0, 1) := by decide +kernel
theorem dX8_knows_187 : decode cX8_knows 187 = .ok (.getfield 115, 3) := by decide +kernel
theorem dX8_knows_190 : decode cX8_knows 190 = .ok (.aload_n 0, 1) := by decide +kernel
theorem dX8_knows_191 : decode cX8_knows 191 = .ok (.iload 4, 2) := by decide +kernel
theorem dX8_knows_193 : decode cX8_knows 193 = .ok (.aload_n 0, 1) := by decide +kernel
theorem dX8_knows_194 : decode cX8_knows 194 = .ok (.iload 6, 2) := by decide +kernel
theorem dX8_knows_196 : decode cX8_knows 196 = .ok (.iload 7, 2) := by decide +kernel
theorem dX8_knows_198 : decode cX8_knows 198 = .ok (.invokevirtual 284, 3) := by decide +kernel
theorem dX8_knows_201 : decode cX8_knows 201 = .ok (.invokevirtual 271, 3) := by decide +kernel
theorem dX8_knows_204 : decode cX8_knows 204 = .ok (.iconst 1, 1) := by decide +kernel
theorem dX8_knows_205 : decode cX8_knows 205 = .ok (.bastore, 1) := by decide +kernel
theorem dX8_knows_206 : decode cX8_knows 206 = .ok (.iinc 7 1, 3) := by decide +kernel
theorem dX8_knows_209 : decode cX8_knows 209 = .ok (.goto (-43), 3) := by decide +kernel
theorem dX8_knows_212 : decode cX8_knows 212 = .ok (.iinc 6 1, 3) := by decide +kernel
theorem dX8_knows_215 : decode cX8_knows 215 = .ok (.goto (-84), 3) := by decide +kernel
theorem dX8_knows_218 : decode cX8_knows 218 = .ok (.iconst 0, 1) := by decide +kernel
theorem dX8_knows_219 : decode cX8_knows 219 = .ok (.istore 6, 2) := by decide +kernel
theorem dX8_knows_221 : decode cX8_knows 221 = .ok (.iload 6, 2) := by decide +kernel
theorem dX8_knows_223 : decode cX8_knows 223 = .ok (.sipush 1536, 3) := by decide +kernel
theorem dX8_knows_226 : decode cX8_knows 226 = .ok (.if_icmp .ge 23, 3) := by decide +kernel
theorem dX8_knows_229 : decode cX8_knows 229 = .ok (.aload_n 0, 1) := by decide +kernel
theorem dX8_knows_230 : decode cX8_knows 230 = .ok (.getfield 112, 3) := by decide +kernel
theorem dX8_knows_233 : decode cX8_knows 233 = .ok (.iload 6, 2) := by decide +kernel
theorem dX8_knows_235 : decode cX8_knows 235 = .ok (.aload_n 0, 1) := by decide +kernel
theorem dX8_knows_236 : decode cX8_knows 236 = .ok (.getfield 115, 3) := by decide +kernel
theorem dX8_knows_239 : decode cX8_knows 239 = .ok (.iload 6, 2) := by decide +kernel
theorem dX8_knows_241 : decode cX8_knows 241 = .ok (.baload, 1) := by decide +kernel
theorem dX8_knows_242 : decode cX8_knows 242 = .ok (.bastore, 1) := by decide +kernel
theorem dX8_knows_243 : decode cX8_knows 243 = .ok (.iinc 6 1, 3) := by decide +kernel
theorem dX8_knows_246 : decode cX8_knows 246 = .ok (.goto (-25), 3) := by decide +kernel
theorem dX8_knows_249 : decode cX8_knows 249 = .ok (.aload_n 0, 1) := by decide +kernel
theorem dX8_knows_250 : decode cX8_knows 250 = .ok (.getfield 31, 3) := by decide +kernel
theorem dX8_knows_253 : decode cX8_knows 253 = .ok (.aload_n 0, 1) := by decide +kernel
theorem dX8_knows_254 : decode cX8_knows 254 = .ok (.getfield 13, 3) := by decide +kernel
theorem dX8_knows_257 : decode cX8_knows 257 = .ok (.bipush 40, 2) := by decide +kernel
theorem dX8_knows_259 : decode cX8_knows 259 = .ok (.iload_n 1, 1) := by decide +kernel
theorem dX8_knows_260 : decode cX8_knows 260 = .ok (.imul, 1) := by decide +kernel
theorem dX8_knows_261 : decode cX8_knows 261 = .ok (.iload 5, 2) := by decide +kernel
theorem dX8_knows_263 : decode cX8_knows 263 = .ok (.iadd, 1) := by decide +kernel
theorem dX8_knows_264 : decode cX8_knows 264 = .ok (.iaload, 1) := by decide +kernel
theorem dX8_knows_265 : decode cX8_knows 265 = .ok (.iaload, 1) := by decide +kernel
theorem dX8_knows_266 : decode cX8_knows 266 = .ok (.istore 4, 2) := by decide +kernel
theorem dX8_knows_268 : decode cX8_knows 268 = .ok (.iinc 5 1, 3) := by decide +kernel
theorem dX8_knows_271 : decode cX8_knows 271 = .ok (.goto (-179), 3) := by decide +kernel
theorem dX8_knows_274 : decode cX8_knows 274 = .ok (.iconst 0, 1) := by decide +kernel
theorem dX8_knows_275 : decode cX8_knows 275 = .ok (.istore 5, 2) := by decide +kernel
theorem dX8_knows_277 : decode cX8_knows 277 = .ok (.iconst 0, 1) := by decide +kernel
theorem dX8_knows_278 : decode cX8_knows 278 = .ok (.istore 6, 2) := by decide +kernel
theorem dX8_knows_280 : decode cX8_knows 280 = .ok (.iconst 0, 1) := by decide +kernel
theorem dX8_knows_281 : decode cX8_knows 281 = .ok (.istore 7, 2) := by decide +kernel
theorem dX8_knows_283 : decode cX8_knows 283 = .ok (.iload 7, 2) := by decide +kernel
theorem dX8_knows_285 : decode cX8_knows 285 = .ok (.sipush 1536, 3) := by decide +kernel
theorem dX8_knows_288 : decode cX8_knows 288 = .ok (.if_icmp .ge 86, 3) := by decide +kernel
theorem dX8_knows_291 : decode cX8_knows 291 = .ok (.aload_n 0, 1) := by decide +kernel
theorem dX8_knows_292 : decode cX8_knows 292 = .ok (.getfield 112, 3) := by decide +kernel
theorem dX8_knows_295 : decode cX8_knows 295 = .ok (.iload 7, 2) := by decide +kernel
theorem dX8_knows_297 : decode cX8_knows 297 = .ok (.baload, 1) := by decide +kernel
theorem dX8_knows_298 : decode cX8_knows 298 = .ok (.ifCond .eq 14, 3) := by decide +kernel
theorem dX8_knows_301 : decode cX8_knows 301 = .ok (.aload_n 0, 1) := by decide +kernel
theorem dX8_knows_302 : decode cX8_knows 302 = .ok (.iload 4, 2) := by decide +kernel
theorem dX8_knows_304 : decode cX8_knows 304 = .ok (.iload 7, 2) := by decide +kernel
theorem dX8_knows_306 : decode cX8_knows 306 = .ok (.invokevirtual 290, 3) := by decide +kernel
theorem dX8_knows_309 : decode cX8_knows 309 = .ok (.goto 4, 3) := by decide +kernel
theorem dX8_knows_312 : decode cX8_knows 312 = .ok (.iconst 0, 1) := by decide +kernel
theorem dX8_knows_313 : decode cX8_knows 313 = .ok (.istore 8, 2) := by decide +kernel
theorem dX8_knows_315 : decode cX8_knows 315 = .ok (.aload_n 0, 1) := by decide +kernel
theorem dX8_knows_316 : decode cX8_knows 316 = .ok (.getfield 112, 3) := by decide +kernel
theorem dX8_knows_319 : decode cX8_knows 319 = .ok (.iload 7, 2) := by decide +kernel
theorem dX8_knows_321 : decode cX8_knows 321 = .ok (.baload, 1) := by decide +kernel
theorem dX8_knows_322 : decode cX8_knows 322 = .ok (.ifCond .eq 20, 3) := by decide +kernel
theorem dX8_knows_325 : decode cX8_knows 325 = .ok (.iload 5, 2) := by decide +kernel
theorem dX8_knows_327 : decode cX8_knows 327 = .ok (.ifCond .eq 10, 3) := by decide +kernel
theorem dX8_knows_330 : decode cX8_knows 330 = .ok (.iload 8, 2) := by decide +kernel
theorem dX8_knows_332 : decode cX8_knows 332 = .ok (.iload 6, 2) := by decide +kernel
theorem dX8_knows_334 : decode cX8_knows 334 = .ok (.if_icmp .le 8, 3) := by decide +kernel
theorem dX8_knows_337 : decode cX8_knows 337 = .ok (.iload 8, 2) := by decide +kernel
theorem dX8_knows_339 : decode cX8_knows 339 = .ok (.goto 5, 3) := by decide +kernel
theorem dX8_knows_342 : decode cX8_knows 342 = .ok (.iload 6, 2) := by decide +kernel
theorem dX8_knows_344 : decode cX8_knows 344 = .ok (.istore 6, 2) := by decide +kernel
theorem dX8_knows_346 : decode cX8_knows 346 = .ok (.iload 5, 2) := by decide +kernel
theorem dX8_knows_348 : decode cX8_knows 348 = .ok (.ifCond .ne 13, 3) := by decide +kernel
theorem dX8_knows_351 : decode cX8_knows 351 = .ok (.aload_n 0, 1) := by decide +kernel
theorem dX8_knows_352 : decode cX8_knows 352 = .ok (.getfield 112, 3) := by decide +kernel
theorem dX8_knows_355 : decode cX8_knows 355 = .ok (.iload 7, 2) := by decide +kernel
theorem dX8_knows_357 : decode cX8_knows 357 = .ok (.baload, 1) := by decide +kernel
theorem dX8_knows_358 : decode cX8_knows 358 = .ok (.ifCond .eq 7, 3) := by decide +kernel
theorem dX8_knows_361 : decode cX8_knows 361 = .ok (.iconst 1, 1) := by decide +kernel
theorem dX8_knows_362 : decode cX8_knows 362 = .ok (.goto 4, 3) := by decide +kernel
theorem dX8_knows_365 : decode cX8_knows 365 = .ok (.iconst 0, 1) := by decide +kernel
theorem dX8_knows_366 : decode cX8_knows 366 = .ok (.istore 5, 2) := by decide +kernel
theorem dX8_knows_368 : decode cX8_knows 368 = .ok (.iinc 7 1, 3) := by decide +kernel
theorem dX8_knows_371 : decode cX8_knows 371 = .ok (.goto (-88), 3) := by decide +kernel
theorem dX8_knows_374 : decode cX8_knows 374 = .ok (.aload_n 0, 1) := by decide +kernel
theorem dX8_knows_375 : decode cX8_knows 375 = .ok (.iconst 1, 1) := by decide +kernel
theorem dX8_knows_376 : decode cX8_knows 376 = .ok (.iload 6, 2) := by decide +kernel
theorem dX8_knows_378 : decode cX8_knows 378 = .ok (.invokevirtual 151, 3) := by decide +kernel
theorem dX8_knows_381 : decode cX8_knows 381 = .ok (.ireturn, 1) := by decide +kernel
theorem dX8_nextLine_0 : decode cX8_nextLine 0 = .ok (.iload_n 2, 1) := by decide +kernel
theorem dX8_nextLine_1 : decode cX8_nextLine 1 = .ok (.ifCond .eq 10, 3) := by decide +kernel
theorem dX8_nextLine_4 : decode cX8_nextLine 4 = .ok (.aload_n 0, 1) := by decide +kernel
theorem dX8_nextLine_5 : decode cX8_nextLine 5 = .ok (.iconst 0, 1) := by decide +kernel
theorem dX8_nextLine_6 : decode cX8_nextLine 6 = .ok (.putfield 335, 3) := by decide +kernel
theorem dX8_nextLine_9 : decode cX8_nextLine 9 = .ok (.iconst 1, 1) := by decide +kernel
theorem dX8_nextLine_10 : decode cX8_nextLine 10 = .ok (.ireturn, 1) := by decide +kernel
theorem dX8_nextLine_11 : decode cX8_nextLine 11 = .ok (.aload_n 0, 1) := by decide +kernel
theorem dX8_nextLine_12 : decode cX8_nextLine 12 = .ok (.getfield 335, 3) := by decide +kernel
theorem dX8_nextLine_15 : decode cX8_nextLine 15 = .ok (.ifCond .ne 10, 3) := by decide +kernel
theorem dX8_nextLine_18 : decode cX8_nextLine 18 = .ok (.aload_n 0, 1) := by decide +kernel
theorem dX8_nextLine_19 : decode cX8_nextLine 19 = .ok (.invokevirtual 274, 3) := by decide +kernel
theorem dX8_nextLine_22 : decode cX8_nextLine 22 = .ok (.goto 19, 3) := by decide +kernel
theorem dX8_nextLine_25 : decode cX8_nextLine 25 = .ok (.aload_n 0, 1) := by decide +kernel
theorem dX8_nextLine_26 : decode cX8_nextLine 26 = .ok (.getfield 31, 3) := by decide +kernel
theorem dX8_nextLine_29 : decode cX8_nextLine 29 = .ok (.aload_n 0, 1) := by decide +kernel
theorem dX8_nextLine_30 : decode cX8_nextLine 30 = .ok (.getfield 118, 3) := by decide +kernel
theorem dX8_nextLine_33 : decode cX8_nextLine 33 = .ok (.aload_n 0, 1) := by decide +kernel
theorem dX8_nextLine_34 : decode cX8_nextLine 34 = .ok (.getfield 335, 3) := by decide +kernel
theorem dX8_nextLine_37 : decode cX8_nextLine 37 = .ok (.iconst 1, 1) := by decide +kernel
theorem dX8_nextLine_38 : decode cX8_nextLine 38 = .ok (.isub, 1) := by decide +kernel
theorem dX8_nextLine_39 : decode cX8_nextLine 39 = .ok (.iaload, 1) := by decide +kernel
theorem dX8_nextLine_40 : decode cX8_nextLine 40 = .ok (.iaload, 1) := by decide +kernel
theorem dX8_nextLine_41 : decode cX8_nextLine 41 = .ok (.istore_n 3, 1) := by decide +kernel
theorem dX8_nextLine_42 : decode cX8_nextLine 42 = .ok (.aload_n 0, 1) := by decide +kernel
theorem dX8_nextLine_43 : decode cX8_nextLine 43 = .ok (.getfield 335, 3) := by decide +kernel
theorem dX8_nextLine_46 : decode cX8_nextLine 46 = .ok (.iload_n 1, 1) := by decide +kernel
theorem dX8_nextLine_47 : decode cX8_nextLine 47 = .ok (.if_icmp .ge 12, 3) := by decide +kernel
theorem dX8_nextLine_50 : decode cX8_nextLine 50 = .ok (.aload_n 0, 1) := by decide +kernel
theorem dX8_nextLine_51 : decode cX8_nextLine 51 = .ok (.iload_n 3, 1) := by decide +kernel
theorem dX8_nextLine_52 : decode cX8_nextLine 52 = .ok (.iconst 0, 1) := by decide +kernel
theorem dX8_nextLine_53 : decode cX8_nextLine 53 = .ok (.invokevirtual 338, 3) := by decide +kernel
theorem dX8_nextLine_56 : decode cX8_nextLine 56 = .ok (.goto 5, 3) := by decide +kernel
theorem dX8_nextLine_59 : decode cX8_nextLine 59 = .ok (.bipush 14, 2) := by decide +kernel
theorem dX8_nextLine_61 : decode cX8_nextLine 61 = .ok (.istore 4, 2) := by decide +kernel
theorem dX8_nextLine_63 : decode cX8_nextLine 63 = .ok (.iload 4, 2) := by decide +kernel
theorem dX8_nextLine_65 : decode cX8_nextLine 65 = .ok (.bipush 14, 2) := by decide +kernel
theorem dX8_nextLine_67 : decode cX8_nextLine 67 = .ok (.if_icmp .lt 54, 3) := by decide +kernel
theorem dX8_nextLine_70 : decode cX8_nextLine 70 = .ok (.aload_n 0, 1) := by decide +kernel
theorem dX8_nextLine_71 : decode cX8_nextLine 71 = .ok (.getfield 335, 3) := by decide +kernel
theorem dX8_nextLine_74 : decode cX8_nextLine 74 = .ok (.ifCond .le 47, 3) := by decide +kernel
theorem dX8_nextLine_77 : decode cX8_nextLine 77 = .ok (.aload_n 0, 1) := by decide +kernel
theorem dX8_nextLine_78 : decode cX8_nextLine 78 = .ok (.dup, 1) := by decide +kernel
theorem dX8_nextLine_79 : decode cX8_nextLine 79 = .ok (.getfield 335, 3) := by decide +kernel
theorem dX8_nextLine_82 : decode cX8_nextLine 82 = .ok (.iconst 1, 1) := by decide +kernel
theorem dX8_nextLine_83 : decode cX8_nextLine 83 = .ok (.isub, 1) := by decide +kernel
theorem dX8_nextLine_84 : decode cX8_nextLine 84 = .ok (.putfield 335, 3) := by decide +kernel
theorem dX8_nextLine_87 : decode cX8_nextLine 87 = .ok (.aload_n 0, 1) := by decide +kernel
theorem dX8_nextLine_88 : decode cX8_nextLine 88 = .ok (.aload_n 0, 1) := by decide +kernel
theorem dX8_nextLine_89 : decode cX8_nextLine 89 = .ok (.getfield 28, 3) := by decide +kernel
theorem dX8_nextLine_92 : decode cX8_nextLine 92 = .ok (.aload_n 0, 1) := by decide +kernel
theorem dX8_nextLine_93 : decode cX8_nextLine 93 = .ok (.getfield 118, 3) := by decide +kernel
theorem dX8_nextLine_96 : decode cX8_nextLine 96 = .ok (.aload_n 0, 1) := by decide +kernel
theorem dX8_nextLine_97 : decode cX8_nextLine 97 = .ok (.getfield 335, 3) := by decide +kernel
theorem dX8_nextLine_100 : decode cX8_nextLine 100 = .ok (.iaload, 1) := by decide +kernel
theorem dX8_nextLine_101 : decode cX8_nextLine 101 = .ok (.iaload, 1) := by decide +kernel
theorem dX8_nextLine_102 : decode cX8_nextLine 102 = .ok (.aload_n 0, 1) := by decide +kernel
theorem dX8_nextLine_103 : decode cX8_nextLine 103 = .ok (.getfield 118, 3) := by decide +kernel
theorem dX8_nextLine_106 : decode cX8_nextLine 106 = .ok (.aload_n 0, 1) := by decide +kernel
theorem dX8_nextLine_107 : decode cX8_nextLine 107 = .ok (.getfield 335, 3) := by decide +kernel
theorem dX8_nextLine_110 : decode cX8_nextLine 110 = .ok (.iaload, 1) := by decide +kernel
theorem dX8_nextLine_111 : decode cX8_nextLine 111 = .ok (.iconst 1, 1) := by decide +kernel
theorem dX8_nextLine_112 : decode cX8_nextLine 112 = .ok (.iadd, 1) := by decide +kernel
theorem dX8_nextLine_113 : decode cX8_nextLine 113 = .ok (.invokevirtual 338, 3) := by decide +kernel
theorem dX8_nextLine_116 : decode cX8_nextLine 116 = .ok (.istore 4, 2) := by decide +kernel
theorem dX8_nextLine_118 : decode cX8_nextLine 118 = .ok (.goto (-55), 3) := by decide +kernel
theorem dX8_nextLine_121 : decode cX8_nextLine 121 = .ok (.iload 4, 2) := by decide +kernel
theorem dX8_nextLine_123 : decode cX8_nextLine 123 = .ok (.bipush 14, 2) := by decide +kernel
theorem dX8_nextLine_125 : decode cX8_nextLine 125 = .ok (.if_icmp .lt 5, 3) := by decide +kernel
theorem dX8_nextLine_128 : decode cX8_nextLine 128 = .ok (.iconst 0, 1) := by decide +kernel
theorem dX8_nextLine_129 : decode cX8_nextLine 129 = .ok (.ireturn, 1) := by decide +kernel
theorem dX8_nextLine_130 : decode cX8_nextLine 130 = .ok (.aload_n 0, 1) := by decide +kernel
theorem dX8_nextLine_131 : decode cX8_nextLine 131 = .ok (.getfield 118, 3) := by decide +kernel
theorem dX8_nextLine_134 : decode cX8_nextLine 134 = .ok (.aload_n 0, 1) := by decide +kernel
theorem dX8_nextLine_135 : decode cX8_nextLine 135 = .ok (.getfield 335, 3) := by decide +kernel
theorem dX8_nextLine_138 : decode cX8_nextLine 138 = .ok (.iload 4, 2) := by decide +kernel
theorem dX8_nextLine_140 : decode cX8_nextLine 140 = .ok (.iastore, 1) := by decide +kernel
theorem dX8_nextLine_141 : decode cX8_nextLine 141 = .ok (.aload_n 0, 1) := by decide +kernel
theorem dX8_nextLine_142 : decode cX8_nextLine 142 = .ok (.dup, 1) := by decide +kernel
theorem dX8_nextLine_143 : decode cX8_nextLine 143 = .ok (.getfield 335, 3) := by decide +kernel
theorem dX8_nextLine_146 : decode cX8_nextLine 146 = .ok (.iconst 1, 1) := by decide +kernel
theorem dX8_nextLine_147 : decode cX8_nextLine 147 = .ok (.iadd, 1) := by decide +kernel
theorem dX8_nextLine_148 : decode cX8_nextLine 148 = .ok (.putfield 335, 3) := by decide +kernel
theorem dX8_nextLine_151 : decode cX8_nextLine 151 = .ok (.iconst 1, 1) := by decide +kernel
theorem dX8_nextLine_152 : decode cX8_nextLine 152 = .ok (.ireturn, 1) := by decide +kernel
theorem dX8_nextFrom_0 : decode cX8_nextFrom 0 = .ok (.iload_n 2, 1) := by decide +kernel
theorem dX8_nextFrom_1 : decode cX8_nextFrom 1 = .ok (.istore_n 3, 1) := by decide +kernel
theorem dX8_nextFrom_2 : decode cX8_nextFrom 2 = .ok (.iload_n 3, 1) := by decide +kernel
theorem dX8_nextFrom_3 : decode cX8_nextFrom 3 = .ok (.aload_n 0, 1) := by decide +kernel
theorem dX8_nextFrom_4 : decode cX8_nextFrom 4 = .ok (.getfield 210, 3) := by decide +kernel
theorem dX8_nextFrom_7 : decode cX8_nextFrom 7 = .ok (.if_icmp .ge 19, 3) := by decide +kernel
theorem dX8_nextFrom_10 : decode cX8_nextFrom 10 = .ok (.aload_n 0, 1) := by decide +kernel
theorem dX8_nextFrom_11 : decode cX8_nextFrom 11 = .ok (.getfield 28, 3) := by decide +kernel
theorem dX8_nextFrom_14 : decode cX8_nextFrom 14 = .ok (.iload_n 3, 1) := by decide +kernel
theorem dX8_nextFrom_15 : decode cX8_nextFrom 15 = .ok (.iaload, 1) := by decide +kernel
theorem dX8_nextFrom_16 : decode cX8_nextFrom 16 = .ok (.iload_n 1, 1) := by decide +kernel
theorem dX8_nextFrom_17 : decode cX8_nextFrom 17 = .ok (.if_icmp .eq 9, 3) := by decide +kernel
theorem dX8_nextFrom_20 : decode cX8_nextFrom 20 = .ok (.iinc 3 1, 3) := by decide +kernel
theorem dX8_nextFrom_23 : decode cX8_nextFrom 23 = .ok (.goto (-21), 3) := by decide +kernel
theorem dX8_nextFrom_26 : decode cX8_nextFrom 26 = .ok (.iload_n 3, 1) := by decide +kernel
theorem dX8_nextFrom_27 : decode cX8_nextFrom 27 = .ok (.aload_n 0, 1) := by decide +kernel
theorem dX8_nextFrom_28 : decode cX8_nextFrom 28 = .ok (.getfield 210, 3) := by decide +kernel
theorem dX8_nextFrom_31 : decode cX8_nextFrom 31 = .ok (.if_icmp .ge 7, 3) := by decide +kernel
theorem dX8_nextFrom_34 : decode cX8_nextFrom 34 = .ok (.iload_n 3, 1) := by decide +kernel
theorem dX8_nextFrom_35 : decode cX8_nextFrom 35 = .ok (.goto 5, 3) := by decide +kernel
theorem dX8_nextFrom_38 : decode cX8_nextFrom 38 = .ok (.bipush 14, 2) := by decide +kernel
theorem dX8_nextFrom_40 : decode cX8_nextFrom 40 = .ok (.ireturn, 1) := by decide +kernel
theorem dX8_lineEnd_0 : decode cX8_lineEnd 0 = .ok (.aload_n 0, 1) := by decide +kernel
theorem dX8_lineEnd_1 : decode cX8_lineEnd 1 = .ok (.getfield 335, 3) := by decide +kernel
theorem dX8_lineEnd_4 : decode cX8_lineEnd 4 = .ok (.ifCond .ne 10, 3) := by decide +kernel
theorem dX8_lineEnd_7 : decode cX8_lineEnd 7 = .ok (.aload_n 0, 1) := by decide +kernel
theorem dX8_lineEnd_8 : decode cX8_lineEnd 8 = .ok (.invokevirtual 274, 3) := by decide +kernel
theorem dX8_lineEnd_11 : decode cX8_lineEnd 11 = .ok (.goto 19, 3) := by decide +kernel
theorem dX8_lineEnd_14 : decode cX8_lineEnd 14 = .ok (.aload_n 0, 1) := by decide +kernel
theorem dX8_lineEnd_15 : decode cX8_lineEnd 15 = .ok (.getfield 31, 3) := by decide +kernel
theorem dX8_lineEnd_18 : decode cX8_lineEnd 18 = .ok (.aload_n 0, 1) := by decide +kernel
theorem dX8_lineEnd_19 : decode cX8_lineEnd 19 = .ok (.getfield 118, 3) := by decide +kernel
theorem dX8_lineEnd_22 : decode cX8_lineEnd 22 = .ok (.aload_n 0, 1) := by decide +kernel
theorem dX8_lineEnd_23 : decode cX8_lineEnd 23 = .ok (.getfield 335, 3) := by decide +kernel
theorem dX8_lineEnd_26 : decode cX8_lineEnd 26 = .ok (.iconst 1, 1) := by decide +kernel
theorem dX8_lineEnd_27 : decode cX8_lineEnd 27 = .ok (.isub, 1) := by decide +kernel
theorem dX8_lineEnd_28 : decode cX8_lineEnd 28 = .ok (.iaload, 1) := by decide +kernel
theorem dX8_lineEnd_29 : decode cX8_lineEnd 29 = .ok (.iaload, 1) := by decide +kernel
theorem dX8_lineEnd_30 : decode cX8_lineEnd 30 = .ok (.ireturn, 1) := by decide +kernel
theorem dX8_isSentence_0 : decode cX8_isSentence 0 = .ok (.aload_n 0, 1) := by decide +kernel
theorem dX8_isSentence_1 : decode cX8_isSentence 1 = .ok (.getfield 335, 3) := by decide +kernel
theorem dX8_isSentence_4 : decode cX8_isSentence 4 = .ok (.iload_n 1, 1) := by decide +kernel
theorem dX8_isSentence_5 : decode cX8_isSentence 5 = .ok (.if_icmp .ne 22, 3) := by decide +kernel
theorem dX8_isSentence_8 : decode cX8_isSentence 8 = .ok (.aload_n 0, 1) := by decide +kernel
theorem dX8_isSentence_9 : decode cX8_isSentence 9 = .ok (.getfield 22, 3) := by decide +kernel
theorem dX8_isSentence_12 : decode cX8_isSentence 12 = .ok (.aload_n 0, 1) := by decide +kernel
theorem dX8_isSentence_13 : decode cX8_isSentence 13 = .ok (.invokevirtual 341, 3) := by decide +kernel
theorem dX8_isSentence_16 : decode cX8_isSentence 16 = .ok (.iaload, 1) := by decide +kernel
theorem dX8_isSentence_17 : decode cX8_isSentence 17 = .ok (.invokestatic 169, 3) := by decide +kernel
theorem dX8_isSentence_20 : decode cX8_isSentence 20 = .ok (.ifCond .eq 7, 3) := by decide +kernel
theorem dX8_isSentence_23 : decode cX8_isSentence 23 = .ok (.iconst 1, 1) := by decide +kernel
theorem dX8_isSentence_24 : decode cX8_isSentence 24 = .ok (.goto 4, 3) := by decide +kernel
theorem dX8_isSentence_27 : decode cX8_isSentence 27 = .ok (.iconst 0, 1) := by decide +kernel
theorem dX8_isSentence_28 : decode cX8_isSentence 28 = .ok (.ireturn, 1) := by decide +kernel
theorem dX8_misheard_0 : decode cX8_misheard 0 = .ok (.iconst 0, 1) := by decide +kernel
theorem dX8_misheard_1 : decode cX8_misheard 1 = .ok (.istore_n 3, 1) := by decide +kernel
theorem dX8_misheard_2 : decode cX8_misheard 2 = .ok (.iconst 0, 1) := by decide +kernel
theorem dX8_misheard_3 : decode cX8_misheard 3 = .ok (.istore 4, 2) := by decide +kernel
theorem dX8_misheard_5 : decode cX8_misheard 5 = .ok (.iload 4, 2) := by decide +kernel
theorem dX8_misheard_7 : decode cX8_misheard 7 = .ok (.iload_n 2, 1) := by decide +kernel
theorem dX8_misheard_8 : decode cX8_misheard 8 = .ok (.if_icmp .ge 55, 3) := by decide +kernel
theorem dX8_misheard_11 : decode cX8_misheard 11 = .ok (.aload_n 0, 1) := by decide +kernel
theorem dX8_misheard_12 : decode cX8_misheard 12 = .ok (.getfield 13, 3) := by decide +kernel
theorem dX8_misheard_15 : decode cX8_misheard 15 = .ok (.bipush 40, 2) := by decide +kernel
theorem dX8_misheard_17 : decode cX8_misheard 17 = .ok (.iload_n 1, 1) := by decide +kernel
theorem dX8_misheard_18 : decode cX8_misheard 18 = .ok (.imul, 1) := by decide +kernel
theorem dX8_misheard_19 : decode cX8_misheard 19 = .ok (.iload 4, 2) := by decide +kernel
theorem dX8_misheard_21 : decode cX8_misheard 21 = .ok (.iadd, 1) := by decide +kernel
theorem dX8_misheard_22 : decode cX8_misheard 22 = .ok (.iaload, 1) := by decide +kernel
theorem dX8_misheard_23 : decode cX8_misheard 23 = .ok (.istore 5, 2) := by decide +kernel
theorem dX8_misheard_25 : decode cX8_misheard 25 = .ok (.iload_n 3, 1) := by decide +kernel
theorem dX8_misheard_26 : decode cX8_misheard 26 = .ok (.iload 5, 2) := by decide +kernel
theorem dX8_misheard_28 : decode cX8_misheard 28 = .ok (.bipush (-9), 2) := by decide +kernel
theorem dX8_misheard_30 : decode cX8_misheard 30 = .ok (.if_icmp .eq 24, 3) := by decide +kernel
theorem dX8_misheard_33 : decode cX8_misheard 33 = .ok (.iload 5, 2) := by decide +kernel
theorem dX8_misheard_35 : decode cX8_misheard 35 = .ok (.aload_n 0, 1) := by decide +kernel
theorem dX8_misheard_36 : decode cX8_misheard 36 = .ok (.getfield 34, 3) := by decide +kernel
theorem dX8_misheard_39 : decode cX8_misheard 39 = .ok (.aload_n 0, 1) := by decide +kernel
theorem dX8_misheard_40 : decode cX8_misheard 40 = .ok (.getfield 118, 3) := by decide +kernel
theorem dX8_misheard_43 : decode cX8_misheard 43 = .ok (.iload 4, 2) := by decide +kernel
theorem dX8_misheard_45 : decode cX8_misheard 45 = .ok (.iaload, 1) := by decide +kernel
theorem dX8_misheard_46 : decode cX8_misheard 46 = .ok (.iaload, 1) := by decide +kernel
theorem dX8_misheard_47 : decode cX8_misheard 47 = .ok (.if_icmp .eq 7, 3) := by decide +kernel
theorem dX8_misheard_50 : decode cX8_misheard 50 = .ok (.iconst 1, 1) := by decide +kernel
theorem dX8_misheard_51 : decode cX8_misheard 51 = .ok (.goto 4, 3) := by decide +kernel
theorem dX8_misheard_54 : decode cX8_misheard 54 = .ok (.iconst 0, 1) := by decide +kernel
theorem dX8_misheard_55 : decode cX8_misheard 55 = .ok (.iadd, 1) := by decide +kernel
theorem dX8_misheard_56 : decode cX8_misheard 56 = .ok (.istore_n 3, 1) := by decide +kernel
theorem dX8_misheard_57 : decode cX8_misheard 57 = .ok (.iinc 4 1, 3) := by decide +kernel
theorem dX8_misheard_60 : decode cX8_misheard 60 = .ok (.goto (-55), 3) := by decide +kernel
theorem dX8_misheard_63 : decode cX8_misheard 63 = .ok (.iload_n 3, 1) := by decide +kernel
theorem dX8_misheard_64 : decode cX8_misheard 64 = .ok (.ireturn, 1) := by decide +kernel
theorem dX8_lacksSounds_0 : decode cX8_lacksSounds 0 = .ok (.aload_n 0, 1) := by decide +kernel
theorem dX8_lacksSounds_1 : decode cX8_lacksSounds 1 = .ok (.iload_n 1, 1) := by decide +kernel
theorem dX8_lacksSounds_2 : decode cX8_lacksSounds 2 = .ok (.invokevirtual 329, 3) := by decide +kernel
theorem dX8_lacksSounds_5 : decode cX8_lacksSounds 5 = .ok (.istore_n 2, 1) := by decide +kernel
theorem dX8_lacksSounds_6 : decode cX8_lacksSounds 6 = .ok (.iload_n 2, 1) := by decide +kernel
theorem dX8_lacksSounds_7 : decode cX8_lacksSounds 7 = .ok (.ifCond .ge 5, 3) := by decide +kernel
theorem dX8_lacksSounds_10 : decode cX8_lacksSounds 10 = .ok (.iload_n 2, 1) := by decide +kernel
theorem dX8_lacksSounds_11 : decode cX8_lacksSounds 11 = .ok (.ireturn, 1) := by decide +kernel
theorem dX8_lacksSounds_12 : decode cX8_lacksSounds 12 = .ok (.iconst 0, 1) := by decide +kernel
theorem dX8_lacksSounds_13 : decode cX8_lacksSounds 13 = .ok (.istore_n 3, 1) := by decide +kernel
theorem dX8_lacksSounds_14 : decode cX8_lacksSounds 14 = .ok (.iload_n 3, 1) := by decide +kernel
theorem dX8_lacksSounds_15 : decode cX8_lacksSounds 15 = .ok (.aload_n 0, 1) := by decide +kernel
theorem dX8_lacksSounds_16 : decode cX8_lacksSounds 16 = .ok (.getfield 7, 3) := by decide +kernel
theorem dX8_lacksSounds_19 : decode cX8_lacksSounds 19 = .ok (.iload_n 1, 1) := by decide +kernel
theorem dX8_lacksSounds_20 : decode cX8_lacksSounds 20 = .ok (.iaload, 1) := by decide +kernel
theorem dX8_lacksSounds_21 : decode cX8_lacksSounds 21 = .ok (.if_icmp .ge 48, 3) := by decide +kernel
theorem dX8_lacksSounds_24 : decode cX8_lacksSounds 24 = .ok (.aload_n 0, 1) := by decide +kernel
theorem dX8_lacksSounds_25 : decode cX8_lacksSounds 25 = .ok (.getfield 13, 3) := by decide +kernel
theorem dX8_lacksSounds_28 : decode cX8_lacksSounds 28 = .ok (.bipush 40, 2) := by decide +kernel
theorem dX8_lacksSounds_30 : decode cX8_lacksSounds 30 = .ok (.iload_n 1, 1) := by decide +kernel
theorem dX8_lacksSounds_31 : decode cX8_lacksSounds 31 = .ok (.imul, 1) := by decide +kernel
theorem dX8_lacksSounds_32 : decode cX8_lacksSounds 32 = .ok (.iload_n 3, 1) := by decide +kernel
theorem dX8_lacksSounds_33 : decode cX8_lacksSounds 33 = .ok (.iadd, 1) := by decide +kernel
theorem dX8_lacksSounds_34 : decode cX8_lacksSounds 34 = .ok (.iaload, 1) := by decide +kernel
theorem dX8_lacksSounds_35 : decode cX8_lacksSounds 35 = .ok (.istore 4, 2) := by decide +kernel
theorem dX8_lacksSounds_37 : decode cX8_lacksSounds 37 = .ok (.iload 4, 2) := by decide +kernel
theorem dX8_lacksSounds_39 : decode cX8_lacksSounds 39 = .ok (.bipush (-9), 2) := by decide +kernel
theorem dX8_lacksSounds_41 : decode cX8_lacksSounds 41 = .ok (.if_icmp .eq 22, 3) := by decide +kernel
theorem dX8_lacksSounds_44 : decode cX8_lacksSounds 44 = .ok (.iload 4, 2) := by decide +kernel
theorem dX8_lacksSounds_46 : decode cX8_lacksSounds 46 = .ok (.i2l, 1) := by decide +kernel
theorem dX8_lacksSounds_47 : decode cX8_lacksSounds 47 = .ok (.lconst 0, 1) := by decide +kernel
theorem dX8_lacksSounds_48 : decode cX8_lacksSounds 48 = .ok (.ldc2_w 182, 3) := by decide +kernel
theorem dX8_lacksSounds_51 : decode cX8_lacksSounds 51 = .ok (.invokestatic 133, 3) := by decide +kernel
theorem dX8_lacksSounds_54 : decode cX8_lacksSounds 54 = .ok (.ifCond .ne 9, 3) := by decide +kernel
theorem dX8_lacksSounds_57 : decode cX8_lacksSounds 57 = .ok (.aload_n 0, 1) := by decide +kernel
theorem dX8_lacksSounds_58 : decode cX8_lacksSounds 58 = .ok (.iconst 3, 1) := by decide +kernel
theorem dX8_lacksSounds_59 : decode cX8_lacksSounds 59 = .ok (.invokevirtual 143, 3) := by decide +kernel
theorem dX8_lacksSounds_62 : decode cX8_lacksSounds 62 = .ok (.ireturn, 1) := by decide +kernel
theorem dX8_lacksSounds_63 : decode cX8_lacksSounds 63 = .ok (.iinc 3 1, 3) := by decide +kernel
theorem dX8_lacksSounds_66 : decode cX8_lacksSounds 66 = .ok (.goto (-52), 3) := by decide +kernel
theorem dX8_lacksSounds_69 : decode cX8_lacksSounds 69 = .ok (.iconst 0, 1) := by decide +kernel
theorem dX8_lacksSounds_70 : decode cX8_lacksSounds 70 = .ok (.ireturn, 1) := by decide +kernel
theorem dX8_heard_0 : decode cX8_heard 0 = .ok (.iload_n 1, 1) := by decide +kernel
theorem dX8_heard_1 : decode cX8_heard 1 = .ok (.invokestatic 139, 3) := by decide +kernel
theorem dX8_heard_4 : decode cX8_heard 4 = .ok (.ifCond .ne 5, 3) := by decide +kernel
theorem dX8_heard_7 : decode cX8_heard 7 = .ok (.iconst (-1), 1) := by decide +kernel
theorem dX8_heard_8 : decode cX8_heard 8 = .ok (.ireturn, 1) := by decide +kernel
theorem dX8_heard_9 : decode cX8_heard 9 = .ok (.aload_n 0, 1) := by decide +kernel
theorem dX8_heard_10 : decode cX8_heard 10 = .ok (.iload_n 1, 1) := by decide +kernel
theorem dX8_heard_11 : decode cX8_heard 11 = .ok (.invokevirtual 344, 3) := by decide +kernel
theorem dX8_heard_14 : decode cX8_heard 14 = .ok (.istore_n 2, 1) := by decide +kernel
theorem dX8_heard_15 : decode cX8_heard 15 = .ok (.iload_n 2, 1) := by decide +kernel
theorem dX8_heard_16 : decode cX8_heard 16 = .ok (.ifCond .ge 5, 3) := by decide +kernel
theorem dX8_heard_19 : decode cX8_heard 19 = .ok (.iload_n 2, 1) := by decide +kernel
theorem dX8_heard_20 : decode cX8_heard 20 = .ok (.ireturn, 1) := by decide +kernel
theorem dX8_heard_21 : decode cX8_heard 21 = .ok (.aload_n 0, 1) := by decide +kernel
theorem dX8_heard_22 : decode cX8_heard 22 = .ok (.getfield 7, 3) := by decide +kernel
theorem dX8_heard_25 : decode cX8_heard 25 = .ok (.iload_n 1, 1) := by decide +kernel
theorem dX8_heard_26 : decode cX8_heard 26 = .ok (.iaload, 1) := by decide +kernel
theorem dX8_heard_27 : decode cX8_heard 27 = .ok (.istore_n 3, 1) := by decide +kernel
theorem dX8_heard_28 : decode cX8_heard 28 = .ok (.iconst 0, 1) := by decide +kernel
theorem dX8_heard_29 : decode cX8_heard 29 = .ok (.istore 4, 2) := by decide +kernel
theorem dX8_heard_31 : decode cX8_heard 31 = .ok (.iconst 0, 1) := by decide +kernel
theorem dX8_heard_32 : decode cX8_heard 32 = .ok (.istore 5, 2) := by decide +kernel
theorem dX8_heard_34 : decode cX8_heard 34 = .ok (.aload_n 0, 1) := by decide +kernel
theorem dX8_heard_35 : decode cX8_heard 35 = .ok (.iload_n 3, 1) := by decide +kernel
theorem dX8_heard_36 : decode cX8_heard 36 = .ok (.iconst 1, 1) := by decide +kernel
theorem dX8_heard_37 : decode cX8_heard 37 = .ok (.invokevirtual 347, 3) := by decide +kernel
theorem dX8_heard_40 : decode cX8_heard 40 = .ok (.istore 6, 2) := by decide +kernel
theorem dX8_heard_42 : decode cX8_heard 42 = .ok (.iload 6, 2) := by decide +kernel
theorem dX8_heard_44 : decode cX8_heard 44 = .ok (.ifCond .eq 50, 3) := by decide +kernel
theorem dX8_heard_47 : decode cX8_heard 47 = .ok (.aload_n 0, 1) := by decide +kernel
theorem dX8_heard_48 : decode cX8_heard 48 = .ok (.iload_n 3, 1) := by decide +kernel
theorem dX8_heard_49 : decode cX8_heard 49 = .ok (.invokevirtual 351, 3) := by decide +kernel
theorem dX8_heard_52 : decode cX8_heard 52 = .ok (.ifCond .eq 31, 3) := by decide +kernel
theorem dX8_heard_55 : decode cX8_heard 55 = .ok (.aload_n 0, 1) := by decide +kernel
theorem dX8_heard_56 : decode cX8_heard 56 = .ok (.iload_n 1, 1) := by decide +kernel
theorem dX8_heard_57 : decode cX8_heard 57 = .ok (.iload_n 3, 1) := by decide +kernel
theorem dX8_heard_58 : decode cX8_heard 58 = .ok (.invokevirtual 354, 3) := by decide +kernel
theorem dX8_heard_61 : decode cX8_heard 61 = .ok (.ifCond .ne 22, 3) := by decide +kernel
theorem dX8_heard_64 : decode cX8_heard 64 = .ok (.iinc 4 1, 3) := by decide +kernel
theorem dX8_heard_67 : decode cX8_heard 67 = .ok (.iload 5, 2) := by decide +kernel
theorem dX8_heard_69 : decode cX8_heard 69 = .ok (.iconst 1, 1) := by decide +kernel
theorem dX8_heard_70 : decode cX8_heard 70 = .ok (.aload_n 0, 1) := by decide +kernel
theorem dX8_heard_71 : decode cX8_heard 71 = .ok (.getfield 25, 3) := by decide +kernel
theorem dX8_heard_74 : decode cX8_heard 74 = .ok (.aload_n 0, 1) := by decide +kernel
theorem dX8_heard_75 : decode cX8_heard 75 = .ok (.invokevirtual 341, 3) := by decide +kernel
theorem dX8_heard_78 : decode cX8_heard 78 = .ok (.iaload, 1) := by decide +kernel
theorem dX8_heard_79 : decode cX8_heard 79 = .ok (.ishl, 1) := by decide +kernel
theorem dX8_heard_80 : decode cX8_heard 80 = .ok (.ior, 1) := by decide +kernel
theorem dX8_heard_81 : decode cX8_heard 81 = .ok (.istore 5, 2) := by decide +kernel
theorem dX8_heard_83 : decode cX8_heard 83 = .ok (.aload_n 0, 1) := by decide +kernel
theorem dX8_heard_84 : decode cX8_heard 84 = .ok (.iload_n 3, 1) := by decide +kernel
theorem dX8_heard_85 : decode cX8_heard 85 = .ok (.iconst 0, 1) := by decide +kernel
theorem dX8_heard_86 : decode cX8_heard 86 = .ok (.invokevirtual 347, 3) := by decide +kernel
theorem dX8_heard_89 : decode cX8_heard 89 = .ok (.istore 6, 2) := by decide +kernel
theorem dX8_heard_91 : decode cX8_heard 91 = .ok (.goto (-49), 3) := by decide +kernel
theorem dX8_heard_94 : decode cX8_heard 94 = .ok (.aload_n 0, 1) := by decide +kernel
theorem dX8_heard_95 : decode cX8_heard 95 = .ok (.iload 4, 2) := by decide +kernel
theorem dX8_heard_97 : decode cX8_heard 97 = .ok (.iload 5, 2) := by decide +kernel
theorem dX8_heard_99 : decode cX8_heard 99 = .ok (.invokevirtual 151, 3) := by decide +kernel
theorem dX8_heard_102 : decode cX8_heard 102 = .ok (.ireturn, 1) := by decide +kernel
theorem dX8_slips_0 : decode cX8_slips 0 = .ok (.iload_n 1, 1) := by decide +kernel
theorem dX8_slips_1 : decode cX8_slips 1 = .ok (.invokestatic 139, 3) := by decide +kernel
theorem dX8_slips_4 : decode cX8_slips 4 = .ok (.ifCond .ne 5, 3) := by decide +kernel
theorem dX8_slips_7 : decode cX8_slips 7 = .ok (.iconst (-1), 1) := by decide +kernel
theorem dX8_slips_8 : decode cX8_slips 8 = .ok (.ireturn, 1) := by decide +kernel
theorem dX8_slips_9 : decode cX8_slips 9 = .ok (.aload_n 0, 1) := by decide +kernel
theorem dX8_slips_10 : decode cX8_slips 10 = .ok (.iload_n 1, 1) := by decide +kernel
theorem dX8_slips_11 : decode cX8_slips 11 = .ok (.invokevirtual 344, 3) := by decide +kernel
theorem dX8_slips_14 : decode cX8_slips 14 = .ok (.istore_n 2, 1) := by decide +kernel
theorem dX8_slips_15 : decode cX8_slips 15 = .ok (.iload_n 2, 1) := by decide +kernel
theorem dX8_slips_16 : decode cX8_slips 16 = .ok (.ifCond .ge 5, 3) := by decide +kernel
theorem dX8_slips_19 : decode cX8_slips 19 = .ok (.iload_n 2, 1) := by decide +kernel
theorem dX8_slips_20 : decode cX8_slips 20 = .ok (.ireturn, 1) := by decide +kernel
theorem dX8_slips_21 : decode cX8_slips 21 = .ok (.aload_n 0, 1) := by decide +kernel
theorem dX8_slips_22 : decode cX8_slips 22 = .ok (.getfield 7, 3) := by decide +kernel
theorem dX8_slips_25 : decode cX8_slips 25 = .ok (.iload_n 1, 1) := by decide +kernel
theorem dX8_slips_26 : decode cX8_slips 26 = .ok (.iaload, 1) := by decide +kernel
theorem dX8_slips_27 : decode cX8_slips 27 = .ok (.istore_n 3, 1) := by decide +kernel
theorem dX8_slips_28 : decode cX8_slips 28 = .ok (.iconst 0, 1) := by decide +kernel
theorem dX8_slips_29 : decode cX8_slips 29 = .ok (.istore 4, 2) := by decide +kernel
theorem dX8_slips_31 : decode cX8_slips 31 = .ok (.aload_n 0, 1) := by decide +kernel
theorem dX8_slips_32 : decode cX8_slips 32 = .ok (.iload_n 3, 1) := by decide +kernel
theorem dX8_slips_33 : decode cX8_slips 33 = .ok (.iconst 1, 1) := by decide +kernel
theorem dX8_slips_34 : decode cX8_slips 34 = .ok (.invokevirtual 347, 3) := by decide +kernel
theorem dX8_slips_37 : decode cX8_slips 37 = .ok (.istore 5, 2) := by decide +kernel
theorem dX8_slips_39 : decode cX8_slips 39 = .ok (.iload 5, 2) := by decide +kernel
theorem dX8_slips_41 : decode cX8_slips 41 = .ok (.ifCond .eq 42, 3) := by decide +kernel
theorem dX8_slips_44 : decode cX8_slips 44 = .ok (.iload 4, 2) := by decide +kernel
theorem dX8_slips_46 : decode cX8_slips 46 = .ok (.aload_n 0, 1) := by decide +kernel
theorem dX8_slips_47 : decode cX8_slips 47 = .ok (.iload_n 3, 1) := by decide +kernel
theorem dX8_slips_48 : decode cX8_slips 48 = .ok (.invokevirtual 351, 3) := by decide +kernel
theorem dX8_slips_51 : decode cX8_slips 51 = .ok (.ifCond .eq 17, 3) := by decide +kernel
theorem dX8_slips_54 : decode cX8_slips 54 = .ok (.aload_n 0, 1) := by decide +kernel
theorem dX8_slips_55 : decode cX8_slips 55 = .ok (.iload_n 1, 1) := by decide +kernel
theorem dX8_slips_56 : decode cX8_slips 56 = .ok (.iload_n 3, 1) := by decide +kernel
theorem dX8_slips_57 : decode cX8_slips 57 = .ok (.invokevirtual 354, 3) := by decide +kernel
theorem dX8_slips_60 : decode cX8_slips 60 = .ok (.iconst 2, 1) := by decide +kernel
theorem dX8_slips_61 : decode cX8_slips 61 = .ok (.if_icmp .ge 7, 3) := by decide +kernel
theorem dX8_slips_64 : decode cX8_slips 64 = .ok (.iconst 1, 1) := by decide +kernel
theorem dX8_slips_65 : decode cX8_slips 65 = .ok (.goto 4, 3) := by decide +kernel
theorem dX8_slips_68 : decode cX8_slips 68 = .ok (.iconst 0, 1) := by decide +kernel
theorem dX8_slips_69 : decode cX8_slips 69 = .ok (.iadd, 1) := by decide +kernel
theorem dX8_slips_70 : decode cX8_slips 70 = .ok (.istore 4, 2) := by decide +kernel
theorem dX8_slips_72 : decode cX8_slips 72 = .ok (.aload_n 0, 1) := by decide +kernel
theorem dX8_slips_73 : decode cX8_slips 73 = .ok (.iload_n 3, 1) := by decide +kernel
theorem dX8_slips_74 : decode cX8_slips 74 = .ok (.iconst 0, 1) := by decide +kernel
theorem dX8_slips_75 : decode cX8_slips 75 = .ok (.invokevirtual 347, 3) := by decide +kernel
theorem dX8_slips_78 : decode cX8_slips 78 = .ok (.istore 5, 2) := by decide +kernel
theorem dX8_slips_80 : decode cX8_slips 80 = .ok (.goto (-41), 3) := by decide +kernel
theorem dX8_slips_83 : decode cX8_slips 83 = .ok (.iload 4, 2) := by decide +kernel
theorem dX8_slips_85 : decode cX8_slips 85 = .ok (.ireturn, 1) := by decide +kernel
theorem dX8_first_0 : decode cX8_first 0 = .ok (.iload_n 1, 1) := by decide +kernel
theorem dX8_first_1 : decode cX8_first 1 = .ok (.invokestatic 139, 3) := by decide +kernel
theorem dX8_first_4 : decode cX8_first 4 = .ok (.ifCond .eq 10, 3) := by decide +kernel
theorem dX8_first_7 : decode cX8_first 7 = .ok (.iload_n 2, 1) := by decide +kernel
theorem dX8_first_8 : decode cX8_first 8 = .ok (.invokestatic 139, 3) := by decide +kernel
theorem dX8_first_11 : decode cX8_first 11 = .ok (.ifCond .ne 5, 3) := by decide +kernel
theorem dX8_first_14 : decode cX8_first 14 = .ok (.iconst (-1), 1) := by decide +kernel
theorem dX8_first_15 : decode cX8_first 15 = .ok (.ireturn, 1) := by decide +kernel
theorem dX8_first_16 : decode cX8_first 16 = .ok (.aload_n 0, 1) := by decide +kernel
theorem dX8_first_17 : decode cX8_first 17 = .ok (.iload_n 1, 1) := by decide +kernel
theorem dX8_first_18 : decode cX8_first 18 = .ok (.invokevirtual 344, 3) := by decide +kernel
theorem dX8_first_21 : decode cX8_first 21 = .ok (.istore_n 3, 1) := by decide +kernel
theorem dX8_first_22 : decode cX8_first 22 = .ok (.iload_n 3, 1) := by decide +kernel
theorem dX8_first_23 : decode cX8_first 23 = .ok (.ifCond .ge 5, 3) := by decide +kernel
theorem dX8_first_26 : decode cX8_first 26 = .ok (.iload_n 3, 1) := by decide +kernel
theorem dX8_first_27 : decode cX8_first 27 = .ok (.ireturn, 1) := by decide +kernel
theorem dX8_first_28 : decode cX8_first 28 = .ok (.aload_n 0, 1) := by decide +kernel
theorem dX8_first_29 : decode cX8_first 29 = .ok (.getfield 7, 3) := by decide +kernel
theorem dX8_first_32 : decode cX8_first 32 = .ok (.iload_n 1, 1) := by decide +kernel
theorem dX8_first_33 : decode cX8_first 33 = .ok (.iaload, 1) := by decide +kernel
theorem dX8_first_34 : decode cX8_first 34 = .ok (.istore 4, 2) := by decide +kernel
theorem dX8_first_36 : decode cX8_first 36 = .ok (.aload_n 0, 1) := by decide +kernel
theorem dX8_first_37 : decode cX8_first 37 = .ok (.iload 4, 2) := by decide +kernel
theorem dX8_first_39 : decode cX8_first 39 = .ok (.iconst 1, 1) := by decide +kernel
theorem dX8_first_40 : decode cX8_first 40 = .ok (.invokevirtual 347, 3) := by decide +kernel
theorem dX8_first_43 : decode cX8_first 43 = .ok (.istore 5, 2) := by decide +kernel
theorem dX8_first_45 : decode cX8_first 45 = .ok (.iload 5, 2) := by decide +kernel
theorem dX8_first_47 : decode cX8_first 47 = .ok (.ifCond .eq 80, 3) := by decide +kernel
theorem dX8_first_50 : decode cX8_first 50 = .ok (.aload_n 0, 1) := by decide +kernel
theorem dX8_first_51 : decode cX8_first 51 = .ok (.iload 4, 2) := by decide +kernel
theorem dX8_first_53 : decode cX8_first 53 = .ok (.invokevirtual 351, 3) := by decide +kernel
theorem dX8_first_56 : decode cX8_first 56 = .ok (.ifCond .eq 59, 3) := by decide +kernel
theorem dX8_first_59 : decode cX8_first 59 = .ok (.aload_n 0, 1) := by decide +kernel
theorem dX8_first_60 : decode cX8_first 60 = .ok (.iload_n 1, 1) := by decide +kernel
theorem dX8_first_61 : decode cX8_first 61 = .ok (.iload 4, 2) := by decide +kernel
theorem dX8_first_63 : decode cX8_first 63 = .ok (.invokevirtual 354, 3) := by decide +kernel
theorem dX8_first_66 : decode cX8_first 66 = .ok (.ifCond .ne 49, 3) := by decide +kernel
theorem dX8_first_69 : decode cX8_first 69 = .ok (.aload_n 0, 1) := by decide +kernel
theorem dX8_first_70 : decode cX8_first 70 = .ok (.iload_n 2, 1) := by decide +kernel
theorem dX8_first_71 : decode cX8_first 71 = .ok (.iload 4, 2) := by decide +kernel
theorem dX8_first_73 : decode cX8_first 73 = .ok (.invokevirtual 293, 3) := by decide +kernel
theorem dX8_first_76 : decode cX8_first 76 = .ok (.pop, 1) := by decide +kernel
theorem dX8_first_77 : decode cX8_first 77 = .ok (.iconst 0, 1) := by decide +kernel
theorem dX8_first_78 : decode cX8_first 78 = .ok (.istore 6, 2) := by decide +kernel
theorem dX8_first_80 : decode cX8_first 80 = .ok (.iload 6, 2) := by decide +kernel
theorem dX8_first_82 : decode cX8_first 82 = .ok (.iload 4, 2) := by decide +kernel
theorem dX8_first_84 : decode cX8_first 84 = .ok (.if_icmp .ge 28, 3) := by decide +kernel
theorem dX8_first_87 : decode cX8_first 87 = .ok (.aload_n 0, 1) := by decide +kernel
theorem dX8_first_88 : decode cX8_first 88 = .ok (.getfield 13, 3) := by decide +kernel
theorem dX8_first_91 : decode cX8_first 91 = .ok (.bipush 40, 2) := by decide +kernel
theorem dX8_first_93 : decode cX8_first 93 = .ok (.iload_n 2, 1) := by decide +kernel
theorem dX8_first_94 : decode cX8_first 94 = .ok (.imul, 1) := by decide +kernel
theorem dX8_first_95 : decode cX8_first 95 = .ok (.iload 6, 2) := by decide +kernel
theorem dX8_first_97 : decode cX8_first 97 = .ok (.iadd, 1) := by decide +kernel
theorem dX8_first_98 : decode cX8_first 98 = .ok (.aload_n 0, 1) := by decide +kernel
theorem dX8_first_99 : decode cX8_first 99 = .ok (.getfield 118, 3) := by decide +kernel
theorem dX8_first_102 : decode cX8_first 102 = .ok (.iload 6, 2) := by decide +kernel
theorem dX8_first_104 : decode cX8_first 104 = .ok (.iaload, 1) := by decide +kernel
theorem dX8_first_105 : decode cX8_first 105 = .ok (.iastore, 1) := by decide +kernel
theorem dX8_first_106 : decode cX8_first 106 = .ok (.iinc 6 1, 3) := by decide +kernel
theorem dX8_first_109 : decode cX8_first 109 = .ok (.goto (-29), 3) := by decide +kernel
theorem dX8_first_112 : decode cX8_first 112 = .ok (.iload 4, 2) := by decide +kernel
theorem dX8_first_114 : decode cX8_first 114 = .ok (.ireturn, 1) := by decide +kernel
theorem dX8_first_115 : decode cX8_first 115 = .ok (.aload_n 0, 1) := by decide +kernel
theorem dX8_first_116 : decode cX8_first 116 = .ok (.iload 4, 2) := by decide +kernel
theorem dX8_first_118 : decode cX8_first 118 = .ok (.iconst 0, 1) := by decide +kernel
theorem dX8_first_119 : decode cX8_first 119 = .ok (.invokevirtual 347, 3) := by decide +kernel
theorem dX8_first_122 : decode cX8_first 122 = .ok (.istore 5, 2) := by decide +kernel
theorem dX8_first_124 : decode cX8_first 124 = .ok (.goto (-79), 3) := by decide +kernel
theorem dX8_first_127 : decode cX8_first 127 = .ok (.bipush (-9), 2) := by decide +kernel
theorem dX8_first_129 : decode cX8_first 129 = .ok (.ireturn, 1) := by decide +kernel
theorem dX8_least_0 : decode cX8_least 0 = .ok (.iload_n 1, 1) := by decide +kernel
theorem dX8_least_1 : decode cX8_least 1 = .ok (.invokestatic 139, 3) := by decide +kernel
theorem dX8_least_4 : decode cX8_least 4 = .ok (.ifCond .ne 5, 3) := by decide +kernel
theorem dX8_least_7 : decode cX8_least 7 = .ok (.iconst (-1), 1) := by decide +kernel
theorem dX8_least_8 : decode cX8_least 8 = .ok (.ireturn, 1) := by decide +kernel
theorem dX8_least_9 : decode cX8_least 9 = .ok (.aload_n 0, 1) := by decide +kernel
theorem dX8_least_10 : decode cX8_least 10 = .ok (.iload_n 1, 1) := by decide +kernel
theorem dX8_least_11 : decode cX8_least 11 = .ok (.invokevirtual 329, 3) := by decide +kernel
theorem dX8_least_14 : decode cX8_least 14 = .ok (.istore_n 2, 1) := by decide +kernel
theorem dX8_least_15 : decode cX8_least 15 = .ok (.iload_n 2, 1) := by decide +kernel
theorem dX8_least_16 : decode cX8_least 16 = .ok (.ifCond .ge 5, 3) := by decide +kernel
theorem dX8_least_19 : decode cX8_least 19 = .ok (.iload_n 2, 1) := by decide +kernel
theorem dX8_least_20 : decode cX8_least 20 = .ok (.ireturn, 1) := by decide +kernel
theorem dX8_least_21 : decode cX8_least 21 = .ok (.aload_n 0, 1) := by decide +kernel
theorem dX8_least_22 : decode cX8_least 22 = .ok (.iload_n 1, 1) := by decide +kernel
theorem dX8_least_23 : decode cX8_least 23 = .ok (.invokevirtual 332, 3) := by decide +kernel
theorem dX8_least_26 : decode cX8_least 26 = .ok (.istore_n 3, 1) := by decide +kernel
theorem dX8_least_27 : decode cX8_least 27 = .ok (.iload_n 3, 1) := by decide +kernel
theorem dX8_least_28 : decode cX8_least 28 = .ok (.ifCond .lt 15, 3) := by decide +kernel
theorem dX8_least_31 : decode cX8_least 31 = .ok (.aload_n 0, 1) := by decide +kernel
theorem dX8_least_32 : decode cX8_least 32 = .ok (.getfield 22, 3) := by decide +kernel
theorem dX8_least_35 : decode cX8_least 35 = .ok (.iload_n 3, 1) := by decide +kernel
theorem dX8_least_36 : decode cX8_least 36 = .ok (.iaload, 1) := by decide +kernel
theorem dX8_least_37 : decode cX8_least 37 = .ok (.invokestatic 169, 3) := by decide +kernel
theorem dX8_least_40 : decode cX8_least 40 = .ok (.ifCond .ne 9, 3) := by decide +kernel
theorem dX8_least_43 : decode cX8_least 43 = .ok (.aload_n 0, 1) := by decide +kernel
theorem dX8_least_44 : decode cX8_least 44 = .ok (.iconst 3, 1) := by decide +kernel
theorem dX8_least_45 : decode cX8_least 45 = .ok (.invokevirtual 143, 3) := by decide +kernel
theorem dX8_least_48 : decode cX8_least 48 = .ok (.ireturn, 1) := by decide +kernel
theorem dX8_least_49 : decode cX8_least 49 = .ok (.aload_n 0, 1) := by decide +kernel
theorem dX8_least_50 : decode cX8_least 50 = .ok (.getfield 7, 3) := by decide +kernel
theorem dX8_least_53 : decode cX8_least 53 = .ok (.iload_n 1, 1) := by decide +kernel
theorem dX8_least_54 : decode cX8_least 54 = .ok (.iaload, 1) := by decide +kernel
theorem dX8_least_55 : decode cX8_least 55 = .ok (.istore 4, 2) := by decide +kernel
theorem dX8_least_57 : decode cX8_least 57 = .ok (.iconst 0, 1) := by decide +kernel
theorem dX8_least_58 : decode cX8_least 58 = .ok (.istore 5, 2) := by decide +kernel
theorem dX8_least_60 : decode cX8_least 60 = .ok (.iload 5, 2) := by decide +kernel
theorem dX8_least_62 : decode cX8_least 62 = .ok (.iconst 1, 1) := by decide +kernel
theorem dX8_least_63 : decode cX8_least 63 = .ok (.iload 4, 2) := by decide +kernel
theorem dX8_least_65 : decode cX8_least 65 = .ok (.ishl, 1) := by decide +kernel
theorem dX8_least_66 : decode cX8_least 66 = .ok (.if_icmp .ge 17, 3) := by decide +kernel
theorem dX8_least_69 : decode cX8_least 69 = .ok (.aload_n 0, 1) := by decide +kernel
theorem dX8_least_70 : decode cX8_least 70 = .ok (.getfield 121, 3) := by decide +kernel
theorem dX8_least_73 : decode cX8_least 73 = .ok (.iload 5, 2) := by decide +kernel
theorem dX8_least_75 : decode cX8_least 75 = .ok (.iconst 0, 1) := by decide +kernel
theorem dX8_least_76 : decode cX8_least 76 = .ok (.bastore, 1) := by decide +kernel
theorem dX8_least_77 : decode cX8_least 77 = .ok (.iinc 5 1, 3) := by decide +kernel
theorem dX8_least_80 : decode cX8_least 80 = .ok (.goto (-20), 3) := by decide +kernel
theorem dX8_least_83 : decode cX8_least 83 = .ok (.aload_n 0, 1) := by decide +kernel
theorem dX8_least_84 : decode cX8_least 84 = .ok (.iload 4, 2) := by decide +kernel
theorem dX8_least_86 : decode cX8_least 86 = .ok (.iconst 1, 1) := by decide +kernel
theorem dX8_least_87 : decode cX8_least 87 = .ok (.invokevirtual 347, 3) := by decide +kernel
theorem dX8_least_90 : decode cX8_least 90 = .ok (.istore 5, 2) := by decide +kernel
theorem dX8_least_92 : decode cX8_least 92 = .ok (.iload 5, 2) := by decide +kernel
theorem dX8_least_94 : decode cX8_least 94 = .ok (.ifCond .eq 156, 3) := by decide +kernel
theorem dX8_least_97 : decode cX8_least 97 = .ok (.aload_n 0, 1) := by decide +kernel
theorem dX8_least_98 : decode cX8_least 98 = .ok (.iload 4, 2) := by decide +kernel
theorem dX8_least_100 : decode cX8_least 100 = .ok (.invokevirtual 351, 3) := by decide +kernel
theorem dX8_least_103 : decode cX8_least 103 = .ok (.ifCond .eq 135, 3) := by decide +kernel
theorem dX8_least_106 : decode cX8_least 106 = .ok (.aload_n 0, 1) := by decide +kernel
theorem dX8_least_107 : decode cX8_least 107 = .ok (.getfield 25, 3) := by decide +kernel
theorem dX8_least_110 : decode cX8_least 110 = .ok (.aload_n 0, 1) := by decide +kernel
theorem dX8_least_111 : decode cX8_least 111 = .ok (.invokevirtual 341, 3) := by decide +kernel
theorem dX8_least_114 : decode cX8_least 114 = .ok (.iaload, 1) := by decide +kernel
theorem dX8_least_115 : decode cX8_least 115 = .ok (.aload_n 0, 1) := by decide +kernel
theorem dX8_least_116 : decode cX8_least 116 = .ok (.getfield 25, 3) := by decide +kernel
theorem dX8_least_119 : decode cX8_least 119 = .ok (.iload_n 3, 1) := by decide +kernel
theorem dX8_least_120 : decode cX8_least 120 = .ok (.iaload, 1) := by decide +kernel
theorem dX8_least_121 : decode cX8_least 121 = .ok (.if_icmp .eq 117, 3) := by decide +kernel
theorem dX8_least_124 : decode cX8_least 124 = .ok (.iconst 0, 1) := by decide +kernel
theorem dX8_least_125 : decode cX8_least 125 = .ok (.istore 6, 2) := by decide +kernel
theorem dX8_least_127 : decode cX8_least 127 = .ok (.iconst 0, 1) := by decide +kernel
theorem dX8_least_128 : decode cX8_least 128 = .ok (.istore 7, 2) := by decide +kernel
theorem dX8_least_130 : decode cX8_least 130 = .ok (.iload 7, 2) := by decide +kernel
theorem dX8_least_132 : decode cX8_least 132 = .ok (.iload 4, 2) := by decide +kernel
theorem dX8_least_134 : decode cX8_least 134 = .ok (.if_icmp .ge 54, 3) := by decide +kernel
theorem dX8_least_137 : decode cX8_least 137 = .ok (.iload 6, 2) := by decide +kernel
theorem dX8_least_139 : decode cX8_least 139 = .ok (.aload_n 0, 1) := by decide +kernel
theorem dX8_least_140 : decode cX8_least 140 = .ok (.getfield 34, 3) := by decide +kernel
theorem dX8_least_143 : decode cX8_least 143 = .ok (.aload_n 0, 1) := by decide +kernel
theorem dX8_least_144 : decode cX8_least 144 = .ok (.getfield 118, 3) := by decide +kernel
theorem dX8_least_147 : decode cX8_least 147 = .ok (.iload 7, 2) := by decide +kernel
theorem dX8_least_149 : decode cX8_least 149 = .ok (.iaload, 1) := by decide +kernel
theorem dX8_least_150 : decode cX8_least 150 = .ok (.iaload, 1) := by decide +kernel
theorem dX8_least_151 : decode cX8_least 151 = .ok (.aload_n 0, 1) := by decide +kernel
theorem dX8_least_152 : decode cX8_least 152 = .ok (.getfield 34, 3) := by decide +kernel
theorem dX8_least_155 : decode cX8_least 155 = .ok (.aload_n 0, 1) := by decide +kernel
theorem dX8_least_156 : decode cX8_least 156 = .ok (.getfield 13, 3) := by decide +kernel
theorem dX8_least_159 : decode cX8_least 159 = .ok (.bipush 40, 2) := by decide +kernel
theorem dX8_least_161 : decode cX8_least 161 = .ok (.iload_n 1, 1) := by decide +kernel
theorem dX8_least_162 : decode cX8_least 162 = .ok (.imul, 1) := by decide +kernel
theorem dX8_least_163 : decode cX8_least 163 = .ok (.iload 7, 2) := by decide +kernel
theorem dX8_least_165 : decode cX8_least 165 = .ok (.iadd, 1) := by decide +kernel
theorem dX8_least_166 : decode cX8_least 166 = .ok (.iaload, 1) := by decide +kernel
theorem dX8_least_167 : decode cX8_least 167 = .ok (.iaload, 1) := by decide +kernel
theorem dX8_least_168 : decode cX8_least 168 = .ok (.if_icmp .ne 10, 3) := by decide +kernel
theorem dX8_least_171 : decode cX8_least 171 = .ok (.iconst 1, 1) := by decide +kernel
theorem dX8_least_172 : decode cX8_least 172 = .ok (.iload 7, 2) := by decide +kernel
theorem dX8_least_174 : decode cX8_least 174 = .ok (.ishl, 1) := by decide +kernel
theorem dX8_least_175 : decode cX8_least 175 = .ok (.goto 4, 3) := by decide +kernel
theorem dX8_least_178 : decode cX8_least 178 = .ok (.iconst 0, 1) := by decide +kernel
theorem dX8_least_179 : decode cX8_least 179 = .ok (.ior, 1) := by decide +kernel
theorem dX8_least_180 : decode cX8_least 180 = .ok (.istore 6, 2) := by decide +kernel
theorem dX8_least_182 : decode cX8_least 182 = .ok (.iinc 7 1, 3) := by decide +kernel
theorem dX8_least_185 : decode cX8_least 185 = .ok (.goto (-55), 3) := by decide +kernel
theorem dX8_least_188 : decode cX8_least 188 = .ok (.iconst 0, 1) := by decide +kernel
theorem dX8_least_189 : decode cX8_least 189 = .ok (.istore 7, 2) := by decide +kernel
theorem dX8_least_191 : decode cX8_least 191 = .ok (.iload 7, 2) := by decide +kernel
theorem dX8_least_193 : decode cX8_least 193 = .ok (.iconst 1, 1) := by decide +kernel
theorem dX8_least_194 : decode cX8_least 194 = .ok (.iload 4, 2) := by decide +kernel
theorem dX8_least_196 : decode cX8_least 196 = .ok (.ishl, 1) := by decide +kernel
theorem dX8_least_197 : decode cX8_least 197 = .ok (.if_icmp .ge 41, 3) := by decide +kernel
theorem dX8_least_200 : decode cX8_least 200 = .ok (.aload_n 0, 1) := by decide +kernel
theorem dX8_least_201 : decode cX8_least 201 = .ok (.getfield 121, 3) := by decide +kernel
theorem dX8_least_204 : decode cX8_least 204 = .ok (.iload 7, 2) := by decide +kernel
theorem dX8_least_206 : decode cX8_least 206 = .ok (.aload_n 0, 1) := by decide +kernel
theorem dX8_least_207 : decode cX8_least 207 = .ok (.getfield 121, 3) := by decide +kernel
theorem dX8_least_210 : decode cX8_least 210 = .ok (.iload 7, 2) := by decide +kernel
theorem dX8_least_212 : decode cX8_least 212 = .ok (.baload, 1) := by decide +kernel
theorem dX8_least_213 : decode cX8_least 213 = .ok (.ifCond .ne 13, 3) := by decide +kernel
theorem dX8_least_216 : decode cX8_least 216 = .ok (.iload 7, 2) := by decide +kernel
theorem dX8_least_218 : decode cX8_least 218 = .ok (.iload 6, 2) := by decide +kernel
theorem dX8_least_220 : decode cX8_least 220 = .ok (.iconst (-1), 1) := by decide +kernel
theorem dX8_least_221 : decode cX8_least 221 = .ok (.ixor, 1) := by decide +kernel
theorem dX8_least_222 : decode cX8_least 222 = .ok (.iand, 1) := by decide +kernel
theorem dX8_least_223 : decode cX8_least 223 = .ok (.ifCond .ne 7, 3) := by decide +kernel
theorem dX8_least_226 : decode cX8_least 226 = .ok (.iconst 1, 1) := by decide +kernel
theorem dX8_least_227 : decode cX8_least 227 = .ok (.goto 4, 3) := by decide +kernel
theorem dX8_least_230 : decode cX8_least 230 = .ok (.iconst 0, 1) := by decide +kernel
theorem dX8_least_231 : decode cX8_least 231 = .ok (.bastore, 1) := by decide +kernel
theorem dX8_least_232 : decode cX8_least 232 = .ok (.iinc 7 1, 3) := by decide +kernel
theorem dX8_least_235 : decode cX8_least 235 = .ok (.goto (-44), 3) := by decide +kernel
theorem dX8_least_238 : decode cX8_least 238 = .ok (.aload_n 0, 1) := by decide +kernel
theorem dX8_least_239 : decode cX8_least 239 = .ok (.iload 4, 2) := by decide +kernel
theorem dX8_least_241 : decode cX8_least 241 = .ok (.iconst 0, 1) := by decide +kernel
theorem dX8_least_242 : decode cX8_least 242 = .ok (.invokevirtual 347, 3) := by decide +kernel
theorem dX8_least_245 : decode cX8_least 245 = .ok (.istore 5, 2) := by decide +kernel
theorem dX8_least_247 : decode cX8_least 247 = .ok (.goto (-155), 3) := by decide +kernel
theorem dX8_least_250 : decode cX8_least 250 = .ok (.bipush (-9), 2) := by decide +kernel
theorem dX8_least_252 : decode cX8_least 252 = .ok (.istore 5, 2) := by decide +kernel
theorem dX8_least_254 : decode cX8_least 254 = .ok (.iconst 0, 1) := by decide +kernel
theorem dX8_least_255 : decode cX8_least 255 = .ok (.istore 6, 2) := by decide +kernel
theorem dX8_least_257 : decode cX8_least 257 = .ok (.iload 6, 2) := by decide +kernel
theorem dX8_least_259 : decode cX8_least 259 = .ok (.iconst 1, 1) := by decide +kernel
theorem dX8_least_260 : decode cX8_least 260 = .ok (.iload 4, 2) := by decide +kernel
theorem dX8_least_262 : decode cX8_least 262 = .ok (.ishl, 1) := by decide +kernel
theorem dX8_least_263 : decode cX8_least 263 = .ok (.if_icmp .ge 46, 3) := by decide +kernel
theorem dX8_least_266 : decode cX8_least 266 = .ok (.aload_n 0, 1) := by decide +kernel
theorem dX8_least_267 : decode cX8_least 267 = .ok (.getfield 121, 3) := by decide +kernel
theorem dX8_least_270 : decode cX8_least 270 = .ok (.iload 6, 2) := by decide +kernel
theorem dX8_least_272 : decode cX8_least 272 = .ok (.baload, 1) := by decide +kernel
theorem dX8_least_273 : decode cX8_least 273 = .ok (.ifCond .ne 26, 3) := by decide +kernel
theorem dX8_least_276 : decode cX8_least 276 = .ok (.iload 5, 2) := by decide +kernel
theorem dX8_least_278 : decode cX8_least 278 = .ok (.ifCond .lt 16, 3) := by decide +kernel
theorem dX8_least_281 : decode cX8_least 281 = .ok (.iload 6, 2) := by decide +kernel
theorem dX8_least_283 : decode cX8_least 283 = .ok (.invokestatic 256, 3) := by decide +kernel
theorem dX8_least_286 : decode cX8_least 286 = .ok (.iload 5, 2) := by decide +kernel
theorem dX8_least_288 : decode cX8_least 288 = .ok (.invokestatic 256, 3) := by decide +kernel
theorem dX8_least_291 : decode cX8_least 291 = .ok (.if_icmp .ge 8, 3) := by decide +kernel
theorem dX8_least_294 : decode cX8_least 294 = .ok (.iload 6, 2) := by decide +kernel
theorem dX8_least_296 : decode cX8_least 296 = .ok (.goto 5, 3) := by decide +kernel
theorem dX8_least_299 : decode cX8_least 299 = .ok (.iload 5, 2) := by decide +kernel
theorem dX8_least_301 : decode cX8_least 301 = .ok (.istore 5, 2) := by decide +kernel
theorem dX8_least_303 : decode cX8_least 303 = .ok (.iinc 6 1, 3) := by decide +kernel
theorem dX8_least_306 : decode cX8_least 306 = .ok (.goto (-49), 3) := by decide +kernel
theorem dX8_least_309 : decode cX8_least 309 = .ok (.iload 5, 2) := by decide +kernel
theorem dX8_least_311 : decode cX8_least 311 = .ok (.ifCond .ge 8, 3) := by decide +kernel
theorem dX8_least_314 : decode cX8_least 314 = .ok (.bipush (-9), 2) := by decide +kernel
theorem dX8_least_316 : decode cX8_least 316 = .ok (.goto 14, 3) := by decide +kernel
theorem dX8_least_319 : decode cX8_least 319 = .ok (.aload_n 0, 1) := by decide +kernel
theorem dX8_least_320 : decode cX8_least 320 = .ok (.iload 5, 2) := by decide +kernel
theorem dX8_least_322 : decode cX8_least 322 = .ok (.invokestatic 256, 3) := by decide +kernel
theorem dX8_least_325 : decode cX8_least 325 = .ok (.iload 5, 2) := by decide +kernel
theorem dX8_least_327 : decode cX8_least 327 = .ok (.invokevirtual 151, 3) := by decide +kernel
theorem dX8_least_330 : decode cX8_least 330 = .ok (.ireturn, 1) := by decide +kernel
theorem dX8_lots_0 : decode cX8_lots 0 = .ok (.iload_n 1, 1) := by decide +kernel
theorem dX8_lots_1 : decode cX8_lots 1 = .ok (.i2l, 1) := by decide +kernel
theorem dX8_lots_2 : decode cX8_lots 2 = .ok (.lconst 1, 1) := by decide +kernel
theorem dX8_lots_3 : decode cX8_lots 3 = .ok (.ldc2_w 309, 3) := by decide +kernel
theorem dX8_lots_6 : decode cX8_lots 6 = .ok (.invokestatic 133, 3) := by decide +kernel
theorem dX8_lots_9 : decode cX8_lots 9 = .ok (.ifCond .eq 15, 3) := by decide +kernel
theorem dX8_lots_12 : decode cX8_lots 12 = .ok (.iload_n 2, 1) := by decide +kernel
theorem dX8_lots_13 : decode cX8_lots 13 = .ok (.i2l, 1) := by decide +kernel
theorem dX8_lots_14 : decode cX8_lots 14 = .ok (.lconst 1, 1) := by decide +kernel
theorem dX8_lots_15 : decode cX8_lots 15 = .ok (.ldc2_w 357, 3) := by decide +kernel
theorem dX8_lots_18 : decode cX8_lots 18 = .ok (.invokestatic 133, 3) := by decide +kernel
theorem dX8_lots_21 : decode cX8_lots 21 = .ok (.ifCond .ne 5, 3) := by decide +kernel
theorem dX8_lots_24 : decode cX8_lots 24 = .ok (.iconst (-1), 1) := by decide +kernel
theorem dX8_lots_25 : decode cX8_lots 25 = .ok (.ireturn, 1) := by decide +kernel
theorem dX8_lots_26 : decode cX8_lots 26 = .ok (.aload_n 0, 1) := by decide +kernel
theorem dX8_lots_27 : decode cX8_lots 27 = .ok (.getfield 207, 3) := by decide +kernel
theorem dX8_lots_30 : decode cX8_lots 30 = .ok (.ifCond .ne 6, 3) := by decide +kernel
theorem dX8_lots_33 : decode cX8_lots 33 = .ok (.bipush (-4), 2) := by decide +kernel
theorem dX8_lots_35 : decode cX8_lots 35 = .ok (.ireturn, 1) := by decide +kernel
theorem dX8_lots_36 : decode cX8_lots 36 = .ok (.iload_n 2, 1) := by decide +kernel
theorem dX8_lots_37 : decode cX8_lots 37 = .ok (.i2l, 1) := by decide +kernel
theorem dX8_lots_38 : decode cX8_lots 38 = .ok (.lstore_n 3, 1) := by decide +kernel
theorem dX8_lots_39 : decode cX8_lots 39 = .ok (.iconst 0, 1) := by decide +kernel
theorem dX8_lots_40 : decode cX8_lots 40 = .ok (.istore 5, 2) := by decide +kernel
theorem dX8_lots_42 : decode cX8_lots 42 = .ok (.iload 5, 2) := by decide +kernel
theorem dX8_lots_44 : decode cX8_lots 44 = .ok (.iload_n 1, 1) := by decide +kernel
theorem dX8_lots_45 : decode cX8_lots 45 = .ok (.if_icmp .ge 94, 3) := by decide +kernel
theorem dX8_lots_48 : decode cX8_lots 48 = .ok (.aload_n 0, 1) := by decide +kernel
theorem dX8_lots_49 : decode cX8_lots 49 = .ok (.aload_n 0, 1) := by decide +kernel
theorem dX8_lots_50 : decode cX8_lots 50 = .ok (.invokevirtual 274, 3) := by decide +kernel
theorem dX8_lots_53 : decode cX8_lots 53 = .ok (.invokevirtual 225, 3) := by decide +kernel
theorem dX8_lots_56 : decode cX8_lots 56 = .ok (.ifCond .ne 83, 3) := by decide +kernel
theorem dX8_lots_59 : decode cX8_lots 59 = .ok (.lload_n 3, 1) := by decide +kernel
theorem dX8_lots_60 : decode cX8_lots 60 = .ok (.ldc2_w 359, 3) := by decide +kernel
theorem dX8_lots_63 : decode cX8_lots 63 = .ok (.lmul, 1) := by decide +kernel
theorem dX8_lots_64 : decode cX8_lots 64 = .ok (.ldc2_w 361, 3) := by decide +kernel
theorem dX8_lots_67 : decode cX8_lots 67 = .ok (.lrem, 1) := by decide +kernel
theorem dX8_lots_68 : decode cX8_lots 68 = .ok (.lstore_n 3, 1) := by decide +kernel
theorem dX8_lots_69 : decode cX8_lots 69 = .ok (.aload_n 0, 1) := by decide +kernel
theorem dX8_lots_70 : decode cX8_lots 70 = .ok (.invokevirtual 274, 3) := by decide +kernel
theorem dX8_lots_73 : decode cX8_lots 73 = .ok (.istore 6, 2) := by decide +kernel
theorem dX8_lots_75 : decode cX8_lots 75 = .ok (.lload_n 3, 1) := by decide +kernel
theorem dX8_lots_76 : decode cX8_lots 76 = .ok (.aload_n 0, 1) := by decide +kernel
theorem dX8_lots_77 : decode cX8_lots 77 = .ok (.iload 6, 2) := by decide +kernel
theorem dX8_lots_79 : decode cX8_lots 79 = .ok (.invokevirtual 222, 3) := by decide +kernel
theorem dX8_lots_82 : decode cX8_lots 82 = .ok (.invokestatic 256, 3) := by decide +kernel
theorem dX8_lots_85 : decode cX8_lots 85 = .ok (.i2l, 1) := by decide +kernel
theorem dX8_lots_86 : decode cX8_lots 86 = .ok (.lrem, 1) := by decide +kernel
theorem dX8_lots_87 : decode cX8_lots 87 = .ok (.l2i, 1) := by decide +kernel
theorem dX8_lots_88 : decode cX8_lots 88 = .ok (.istore 7, 2) := by decide +kernel
theorem dX8_lots_90 : decode cX8_lots 90 = .ok (.aload_n 0, 1) := by decide +kernel
theorem dX8_lots_91 : decode cX8_lots 91 = .ok (.iload 6, 2) := by decide +kernel
theorem dX8_lots_93 : decode cX8_lots 93 = .ok (.iconst 0, 1) := by decide +kernel
theorem dX8_lots_94 : decode cX8_lots 94 = .ok (.invokevirtual 338, 3) := by decide +kernel
theorem dX8_lots_97 : decode cX8_lots 97 = .ok (.istore 8, 2) := by decide +kernel
theorem dX8_lots_99 : decode cX8_lots 99 = .ok (.iconst 0, 1) := by decide +kernel
theorem dX8_lots_100 : decode cX8_lots 100 = .ok (.istore 9, 2) := by decide +kernel
theorem dX8_lots_102 : decode cX8_lots 102 = .ok (.iload 9, 2) := by decide +kernel
theorem dX8_lots_104 : decode cX8_lots 104 = .ok (.iload 7, 2) := by decide +kernel
theorem dX8_lots_106 : decode cX8_lots 106 = .ok (.if_icmp .ge 21, 3) := by decide +kernel
theorem dX8_lots_109 : decode cX8_lots 109 = .ok (.aload_n 0, 1) := by decide +kernel
theorem dX8_lots_110 : decode cX8_lots 110 = .ok (.iload 6, 2) := by decide +kernel
theorem dX8_lots_112 : decode cX8_lots 112 = .ok (.iload 8, 2) := by decide +kernel
theorem dX8_lots_114 : decode cX8_lots 114 = .ok (.iconst 1, 1) := by decide +kernel
theorem dX8_lots_115 : decode cX8_lots 115 = .ok (.iadd, 1) := by decide +kernel
theorem dX8_lots_116 : decode cX8_lots 116 = .ok (.invokevirtual 338, 3) := by decide +kernel
theorem dX8_lots_119 : decode cX8_lots 119 = .ok (.istore 8, 2) := by decide +kernel
theorem dX8_lots_121 : decode cX8_lots 121 = .ok (.iinc 9 1, 3) := by decide +kernel
theorem dX8_lots_124 : decode cX8_lots 124 = .ok (.goto (-22), 3) := by decide +kernel
theorem dX8_lots_127 : decode cX8_lots 127 = .ok (.aload_n 0, 1) := by decide +kernel
theorem dX8_lots_128 : decode cX8_lots 128 = .ok (.iload 8, 2) := by decide +kernel
theorem dX8_lots_130 : decode cX8_lots 130 = .ok (.invokevirtual 278, 3) := by decide +kernel
theorem dX8_lots_133 : decode cX8_lots 133 = .ok (.iinc 5 1, 3) := by decide +kernel
theorem dX8_lots_136 : decode cX8_lots 136 = .ok (.goto (-94), 3) := by decide +kernel
theorem dX8_lots_139 : decode cX8_lots 139 = .ok (.iload 5, 2) := by decide +kernel
theorem dX8_lots_141 : decode cX8_lots 141 = .ok (.ireturn, 1) := by decide +kernel
theorem dX8_asked_0 : decode cX8_asked 0 = .ok (.aload_n 0, 1) := by decide +kernel
theorem dX8_asked_1 : decode cX8_asked 1 = .ok (.getfield 128, 3) := by decide +kernel
theorem dX8_asked_4 : decode cX8_asked 4 = .ok (.ireturn, 1) := by decide +kernel
theorem dX8_upper_0 : decode cX8_upper 0 = .ok (.aload_n 0, 1) := by decide +kernel
theorem dX8_upper_1 : decode cX8_upper 1 = .ok (.getfield 302, 3) := by decide +kernel
theorem dX8_upper_4 : decode cX8_upper 4 = .ok (.lreturn, 1) := by decide +kernel
theorem dX8_lower_0 : decode cX8_lower 0 = .ok (.aload_n 0, 1) := by decide +kernel
theorem dX8_lower_1 : decode cX8_lower 1 = .ok (.getfield 55, 3) := by decide +kernel
theorem dX8_lower_4 : decode cX8_lower 4 = .ok (.lreturn, 1) := by decide +kernel
theorem dX8_there_0 : decode cX8_there 0 = .ok (.iconst 0, 1) := by decide +kernel
theorem dX8_there_1 : decode cX8_there 1 = .ok (.istore_n 1, 1) := by decide +kernel
theorem dX8_there_2 : decode cX8_there 2 = .ok (.iconst 0, 1) := by decide +kernel
theorem dX8_there_3 : decode cX8_there 3 = .ok (.istore_n 2, 1) := by decide +kernel
theorem dX8_there_4 : decode cX8_there 4 = .ok (.iload_n 2, 1) := by decide +kernel
theorem dX8_there_5 : decode cX8_there 5 = .ok (.aload_n 0, 1) := by decide +kernel
theorem dX8_there_6 : decode cX8_there 6 = .ok (.arraylength, 1) := by decide +kernel
theorem dX8_there_7 : decode cX8_there 7 = .ok (.if_icmp .ge 23, 3) := by decide +kernel
theorem dX8_there_10 : decode cX8_there 10 = .ok (.iload_n 1, 1) := by decide +kernel
theorem dX8_there_11 : decode cX8_there 11 = .ok (.aload_n 0, 1) := by decide +kernel
theorem dX8_there_12 : decode cX8_there 12 = .ok (.iload_n 2, 1) := by decide +kernel
theorem dX8_there_13 : decode cX8_there 13 = .ok (.iaload, 1) := by decide +kernel
theorem dX8_there_14 : decode cX8_there 14 = .ok (.ifCond .lt 7, 3) := by decide +kernel
theorem dX8_there_17 : decode cX8_there 17 = .ok (.iconst 1, 1) := by decide +kernel
theorem dX8_there_18 : decode cX8_there 18 = .ok (.goto 4, 3) := by decide +kernel
theorem dX8_there_21 : decode cX8_there 21 = .ok (.iconst 0, 1) := by decide +kernel
theorem dX8_there_22 : decode cX8_there 22 = .ok (.iadd, 1) := by decide +kernel
theorem dX8_there_23 : decode cX8_there 23 = .ok (.istore_n 1, 1) := by decide +kernel
theorem dX8_there_24 : decode cX8_there 24 = .ok (.iinc 2 1, 3) := by decide +kernel
theorem dX8_there_27 : decode cX8_there 27 = .ok (.goto (-23), 3) := by decide +kernel
theorem dX8_there_30 : decode cX8_there 30 = .ok (.iload_n 1, 1) := by decide +kernel
theorem dX8_there_31 : decode cX8_there 31 = .ok (.ireturn, 1) := by decide +kernel
theorem dX8_count_0 : decode cX8_count 0 = .ok (.iconst 0, 1) := by decide +kernel
theorem dX8_count_1 : decode cX8_count 1 = .ok (.istore_n 2, 1) := by decide +kernel
theorem dX8_count_2 : decode cX8_count 2 = .ok (.iconst 0, 1) := by decide +kernel
theorem dX8_count_3 : decode cX8_count 3 = .ok (.istore_n 3, 1) := by decide +kernel
theorem dX8_count_4 : decode cX8_count 4 = .ok (.iload_n 3, 1) := by decide +kernel
theorem dX8_count_5 : decode cX8_count 5 = .ok (.aload_n 0, 1) := by decide +kernel
theorem dX8_count_6 : decode cX8_count 6 = .ok (.getfield 213, 3) := by decide +kernel
theorem dX8_count_9 : decode cX8_count 9 = .ok (.if_icmp .ge 29, 3) := by decide +kernel
theorem dX8_count_12 : decode cX8_count 12 = .ok (.iload_n 2, 1) := by decide +kernel
theorem dX8_count_13 : decode cX8_count 13 = .ok (.aload_n 0, 1) := by decide +kernel
theorem dX8_count_14 : decode cX8_count 14 = .ok (.getfield 219, 3) := by decide +kernel
theorem dX8_count_17 : decode cX8_count 17 = .ok (.iload_n 3, 1) := by decide +kernel
theorem dX8_count_18 : decode cX8_count 18 = .ok (.invokestatic 245, 3) := by decide +kernel
theorem dX8_count_21 : decode cX8_count 21 = .ok (.iconst 2, 1) := by decide +kernel
theorem dX8_count_22 : decode cX8_count 22 = .ok (.if_icmp .ne 7, 3) := by decide +kernel
theorem dX8_count_25 : decode cX8_count 25 = .ok (.iconst 1, 1) := by decide +kernel
theorem dX8_count_26 : decode cX8_count 26 = .ok (.goto 4, 3) := by decide +kernel
theorem dX8_count_29 : decode cX8_count 29 = .ok (.iconst 0, 1) := by decide +kernel
theorem dX8_count_30 : decode cX8_count 30 = .ok (.iadd, 1) := by decide +kernel
theorem dX8_count_31 : decode cX8_count 31 = .ok (.istore_n 2, 1) := by decide +kernel
theorem dX8_count_32 : decode cX8_count 32 = .ok (.iinc 3 1, 3) := by decide +kernel
theorem dX8_count_35 : decode cX8_count 35 = .ok (.goto (-31), 3) := by decide +kernel
theorem dX8_count_38 : decode cX8_count 38 = .ok (.iconst 0, 1) := by decide +kernel
theorem dX8_count_39 : decode cX8_count 39 = .ok (.istore_n 3, 1) := by decide +kernel
theorem dX8_count_40 : decode cX8_count 40 = .ok (.iconst 0, 1) := by decide +kernel
theorem dX8_count_41 : decode cX8_count 41 = .ok (.istore 4, 2) := by decide +kernel
theorem dX8_count_43 : decode cX8_count 43 = .ok (.iload 4, 2) := by decide +kernel
theorem dX8_count_45 : decode cX8_count 45 = .ok (.aload_n 0, 1) := by decide +kernel
theorem dX8_count_46 : decode cX8_count 46 = .ok (.getfield 207, 3) := by decide +kernel
theorem dX8_count_49 : decode cX8_count 49 = .ok (.if_icmp .ge 30, 3) := by decide +kernel
theorem dX8_count_52 : decode cX8_count 52 = .ok (.iload_n 3, 1) := by decide +kernel
theorem dX8_count_53 : decode cX8_count 53 = .ok (.aload_n 0, 1) := by decide +kernel
theorem dX8_count_54 : decode cX8_count 54 = .ok (.getfield 22, 3) := by decide +kernel
theorem dX8_count_57 : decode cX8_count 57 = .ok (.iload 4, 2) := by decide +kernel
theorem dX8_count_59 : decode cX8_count 59 = .ok (.iaload, 1) := by decide +kernel
theorem dX8_count_60 : decode cX8_count 60 = .ok (.invokestatic 169, 3) := by decide +kernel
theorem dX8_count_63 : decode cX8_count 63 = .ok (.ifCond .eq 7, 3) := by decide +kernel
theorem dX8_count_66 : decode cX8_count 66 = .ok (.iconst 1, 1) := by decide +kernel
theorem dX8_count_67 : decode cX8_count 67 = .ok (.goto 4, 3) := by decide +kernel
theorem dX8_count_70 : decode cX8_count 70 = .ok (.iconst 0, 1) := by decide +kernel
theorem dX8_count_71 : decode cX8_count 71 = .ok (.iadd, 1) := by decide +kernel
theorem dX8_count_72 : decode cX8_count 72 = .ok (.istore_n 3, 1) := by decide +kernel
theorem dX8_count_73 : decode cX8_count 73 = .ok (.iinc 4 1, 3) := by decide +kernel
theorem dX8_count_76 : decode cX8_count 76 = .ok (.goto (-33), 3) := by decide +kernel
theorem dX8_count_79 : decode cX8_count 79 = .ok (.iload_n 1, 1) := by decide +kernel
theorem dX8_count_80 : decode cX8_count 80 = .ok (.tableswitch 137 0 8 #[52, 57, 62, 67, 72, 74, 76, 84, 92], 52) := by decide +kernel
theorem dX8_count_132 : decode cX8_count 132 = .ok (.aload_n 0, 1) := by decide +kernel
theorem dX8_count_133 : decode cX8_count 133 = .ok (.getfield 207, 3) := by decide +kernel
theorem dX8_count_136 : decode cX8_count 136 = .ok (.ireturn, 1) := by decide +kernel
theorem dX8_count_137 : decode cX8_count 137 = .ok (.aload_n 0, 1) := by decide +kernel
theorem dX8_count_138 : decode cX8_count 138 = .ok (.getfield 210, 3) := by decide +kernel
theorem dX8_count_141 : decode cX8_count 141 = .ok (.ireturn, 1) := by decide +kernel
theorem dX8_count_142 : decode cX8_count 142 = .ok (.aload_n 0, 1) := by decide +kernel
theorem dX8_count_143 : decode cX8_count 143 = .ok (.getfield 213, 3) := by decide +kernel
theorem dX8_count_146 : decode cX8_count 146 = .ok (.ireturn, 1) := by decide +kernel
theorem dX8_count_147 : decode cX8_count 147 = .ok (.aload_n 0, 1) := by decide +kernel
theorem dX8_count_148 : decode cX8_count 148 = .ok (.getfield 216, 3) := by decide +kernel
theorem dX8_count_151 : decode cX8_count 151 = .ok (.ireturn, 1) := by decide +kernel
theorem dX8_count_152 : decode cX8_count 152 = .ok (.iload_n 2, 1) := by decide +kernel
theorem dX8_count_153 : decode cX8_count 153 = .ok (.ireturn, 1) := by decide +kernel
theorem dX8_count_154 : decode cX8_count 154 = .ok (.iload_n 3, 1) := by decide +kernel
theorem dX8_count_155 : decode cX8_count 155 = .ok (.ireturn, 1) := by decide +kernel
theorem dX8_count_156 : decode cX8_count 156 = .ok (.aload_n 0, 1) := by decide +kernel
theorem dX8_count_157 : decode cX8_count 157 = .ok (.getfield 7, 3) := by decide +kernel
theorem dX8_count_160 : decode cX8_count 160 = .ok (.invokestatic 363, 3) := by decide +kernel
theorem dX8_count_163 : decode cX8_count 163 = .ok (.ireturn, 1) := by decide +kernel
theorem dX8_count_164 : decode cX8_count 164 = .ok (.aload_n 0, 1) := by decide +kernel
theorem dX8_count_165 : decode cX8_count 165 = .ok (.getfield 16, 3) := by decide +kernel
theorem dX8_count_168 : decode cX8_count 168 = .ok (.invokestatic 363, 3) := by decide +kernel
theorem dX8_count_171 : decode cX8_count 171 = .ok (.ireturn, 1) := by decide +kernel
theorem dX8_count_172 : decode cX8_count 172 = .ok (.aload_n 0, 1) := by decide +kernel
theorem dX8_count_173 : decode cX8_count 173 = .ok (.getfield 83, 3) := by decide +kernel
theorem dX8_count_176 : decode cX8_count 176 = .ok (.iconst 0, 1) := by decide +kernel
theorem dX8_count_177 : decode cX8_count 177 = .ok (.baload, 1) := by decide +kernel
theorem dX8_count_178 : decode cX8_count 178 = .ok (.ifCond .eq 7, 3) := by decide +kernel
theorem dX8_count_181 : decode cX8_count 181 = .ok (.iconst 1, 1) := by decide +kernel
theorem dX8_count_182 : decode cX8_count 182 = .ok (.goto 4, 3) := by decide +kernel
theorem dX8_count_185 : decode cX8_count 185 = .ok (.iconst 0, 1) := by decide +kernel
theorem dX8_count_186 : decode cX8_count 186 = .ok (.aload_n 0, 1) := by decide +kernel
theorem dX8_count_187 : decode cX8_count 187 = .ok (.getfield 83, 3) := by decide +kernel
theorem dX8_count_190 : decode cX8_count 190 = .ok (.iconst 1, 1) := by decide +kernel
theorem dX8_count_191 : decode cX8_count 191 = .ok (.baload, 1) := by decide +kernel
theorem dX8_count_192 : decode cX8_count 192 = .ok (.ifCond .eq 7, 3) := by decide +kernel
theorem dX8_count_195 : decode cX8_count 195 = .ok (.iconst 1, 1) := by decide +kernel
theorem dX8_count_196 : decode cX8_count 196 = .ok (.goto 4, 3) := by decide +kernel
theorem dX8_count_199 : decode cX8_count 199 = .ok (.iconst 0, 1) := by decide +kernel
theorem dX8_count_200 : decode cX8_count 200 = .ok (.iadd, 1) := by decide +kernel
theorem dX8_count_201 : decode cX8_count 201 = .ok (.aload_n 0, 1) := by decide +kernel
theorem dX8_count_202 : decode cX8_count 202 = .ok (.getfield 83, 3) := by decide +kernel
theorem dX8_count_205 : decode cX8_count 205 = .ok (.iconst 2, 1) := by decide +kernel
theorem dX8_count_206 : decode cX8_count 206 = .ok (.baload, 1) := by decide +kernel
theorem dX8_count_207 : decode cX8_count 207 = .ok (.ifCond .eq 7, 3) := by decide +kernel
theorem dX8_count_210 : decode cX8_count 210 = .ok (.iconst 1, 1) := by decide +kernel
theorem dX8_count_211 : decode cX8_count 211 = .ok (.goto 4, 3) := by decide +kernel
theorem dX8_count_214 : decode cX8_count 214 = .ok (.iconst 0, 1) := by decide +kernel
theorem dX8_count_215 : decode cX8_count 215 = .ok (.iadd, 1) := by decide +kernel
theorem dX8_count_216 : decode cX8_count 216 = .ok (.ireturn, 1) := by decide +kernel
theorem dX8_count_217 : decode cX8_count 217 = .ok (.iconst (-1), 1) := by decide +kernel
theorem dX8_count_218 : decode cX8_count 218 = .ok (.ireturn, 1) := by decide +kernel
theorem dX8_finding_0 : decode cX8_finding 0 = .ok (.aload_n 0, 1) := by decide +kernel
theorem dX8_finding_1 : decode cX8_finding 1 = .ok (.getfield 124, 3) := by decide +kernel
theorem dX8_finding_4 : decode cX8_finding 4 = .ok (.ireturn, 1) := by decide +kernel
theorem dX8_findings_0 : decode cX8_findings 0 = .ok (.iload_n 1, 1) := by decide +kernel
theorem dX8_findings_1 : decode cX8_findings 1 = .ok (.i2l, 1) := by decide +kernel
theorem dX8_findings_2 : decode cX8_findings 2 = .ok (.lconst 1, 1) := by decide +kernel
theorem dX8_findings_3 : decode cX8_findings 3 = .ok (.ldc2_w 131, 3) := by decide +kernel
theorem dX8_findings_6 : decode cX8_findings 6 = .ok (.invokestatic 133, 3) := by decide +kernel
theorem dX8_findings_9 : decode cX8_findings 9 = .ok (.ifCond .eq 12, 3) := by decide +kernel
theorem dX8_findings_12 : decode cX8_findings 12 = .ok (.aload_n 0, 1) := by decide +kernel
theorem dX8_findings_13 : decode cX8_findings 13 = .ok (.getfield 59, 3) := by decide +kernel
theorem dX8_findings_16 : decode cX8_findings 16 = .ok (.iload_n 1, 1) := by decide +kernel
theorem dX8_findings_17 : decode cX8_findings 17 = .ok (.iaload, 1) := by decide +kernel
theorem dX8_findings_18 : decode cX8_findings 18 = .ok (.goto 4, 3) := by decide +kernel
theorem dX8_findings_21 : decode cX8_findings 21 = .ok (.iconst (-1), 1) := by decide +kernel
theorem dX8_findings_22 : decode cX8_findings 22 = .ok (.ireturn, 1) := by decide +kernel
theorem dX8_mix_0 : decode cX8_mix 0 = .ok (.aload_n 0, 1) := by decide +kernel
theorem dX8_mix_1 : decode cX8_mix 1 = .ok (.ldc2_w 367, 3) := by decide +kernel
theorem dX8_mix_4 : decode cX8_mix 4 = .ok (.aload_n 0, 1) := by decide +kernel
theorem dX8_mix_5 : decode cX8_mix 5 = .ok (.getfield 369, 3) := by decide +kernel
theorem dX8_mix_8 : decode cX8_mix 8 = .ok (.lmul, 1) := by decide +kernel
theorem dX8_mix_9 : decode cX8_mix 9 = .ok (.lload_n 1, 1) := by decide +kernel
theorem dX8_mix_10 : decode cX8_mix 10 = .ok (.ladd, 1) := by decide +kernel
theorem dX8_mix_11 : decode cX8_mix 11 = .ok (.putfield 369, 3) := by decide +kernel
theorem dX8_mix_14 : decode cX8_mix 14 = .ok (.return_, 1) := by decide +kernel
theorem dX8_digest_0 : decode cX8_digest 0 = .ok (.aload_n 0, 1) := by decide +kernel
theorem dX8_digest_1 : decode cX8_digest 1 = .ok (.ldc2_w 372, 3) := by decide +kernel
theorem dX8_digest_4 : decode cX8_digest 4 = .ok (.putfield 369, 3) := by decide +kernel
theorem dX8_digest_7 : decode cX8_digest 7 = .ok (.iconst 0, 1) := by decide +kernel
theorem dX8_digest_8 : decode cX8_digest 8 = .ok (.istore_n 1, 1) := by decide +kernel
theorem dX8_digest_9 : decode cX8_digest 9 = .ok (.iload_n 1, 1) := by decide +kernel
theorem dX8_digest_10 : decode cX8_digest 10 = .ok (.bipush 9, 2) := by decide +kernel
theorem dX8_digest_12 : decode cX8_digest 12 = .ok (.if_icmp .ge 19, 3) := by decide +kernel
theorem dX8_digest_15 : decode cX8_digest 15 = .ok (.aload_n 0, 1) := by decide +kernel
theorem dX8_digest_16 : decode cX8_digest 16 = .ok (.aload_n 0, 1) := by decide +kernel
theorem dX8_digest_17 : decode cX8_digest 17 = .ok (.iload_n 1, 1) := by decide +kernel
theorem dX8_digest_18 : decode cX8_digest 18 = .ok (.invokevirtual 374, 3) := by decide +kernel
theorem dX8_digest_21 : decode cX8_digest 21 = .ok (.i2l, 1) := by decide +kernel
theorem dX8_digest_22 : decode cX8_digest 22 = .ok (.invokevirtual 377, 3) := by decide +kernel
theorem dX8_digest_25 : decode cX8_digest 25 = .ok (.iinc 1 1, 3) := by decide +kernel
theorem dX8_digest_28 : decode cX8_digest 28 = .ok (.goto (-19), 3) := by decide +kernel
theorem dX8_digest_31 : decode cX8_digest 31 = .ok (.iconst 0, 1) := by decide +kernel
theorem dX8_digest_32 : decode cX8_digest 32 = .ok (.istore_n 1, 1) := by decide +kernel
theorem dX8_digest_33 : decode cX8_digest 33 = .ok (.iload_n 1, 1) := by decide +kernel
theorem dX8_digest_34 : decode cX8_digest 34 = .ok (.iconst 4, 1) := by decide +kernel
theorem dX8_digest_35 : decode cX8_digest 35 = .ok (.aload_n 0, 1) := by decide +kernel
theorem dX8_digest_36 : decode cX8_digest 36 = .ok (.getfield 207, 3) := by decide +kernel
theorem dX8_digest_39 : decode cX8_digest 39 = .ok (.imul, 1) := by decide +kernel
theorem dX8_digest_40 : decode cX8_digest 40 = .ok (.if_icmp .ge 24, 3) := by decide +kernel
theorem dX8_digest_43 : decode cX8_digest 43 = .ok (.aload_n 0, 1) := by decide +kernel
theorem dX8_digest_44 : decode cX8_digest 44 = .ok (.aload_n 0, 1) := by decide +kernel
theorem dX8_digest_45 : decode cX8_digest 45 = .ok (.iload_n 1, 1) := by decide +kernel
theorem dX8_digest_46 : decode cX8_digest 46 = .ok (.iconst 4, 1) := by decide +kernel
theorem dX8_digest_47 : decode cX8_digest 47 = .ok (.idiv, 1) := by decide +kernel
theorem dX8_digest_48 : decode cX8_digest 48 = .ok (.iload_n 1, 1) := by decide +kernel
theorem dX8_digest_49 : decode cX8_digest 49 = .ok (.iconst 4, 1) := by decide +kernel
theorem dX8_digest_50 : decode cX8_digest 50 = .ok (.irem, 1) := by decide +kernel
theorem dX8_digest_51 : decode cX8_digest 51 = .ok (.invokevirtual 234, 3) := by decide +kernel
theorem dX8_digest_54 : decode cX8_digest 54 = .ok (.i2l, 1) := by decide +kernel
theorem dX8_digest_55 : decode cX8_digest 55 = .ok (.invokevirtual 377, 3) := by decide +kernel
theorem dX8_digest_58 : decode cX8_digest 58 = .ok (.iinc 1 1, 3) := by decide +kernel
theorem dX8_digest_61 : decode cX8_digest 61 = .ok (.goto (-28), 3) := by decide +kernel
theorem dX8_digest_64 : decode cX8_digest 64 = .ok (.iconst 0, 1) := by decide +kernel
theorem dX8_digest_65 : decode cX8_digest 65 = .ok (.istore_n 1, 1) := by decide +kernel
theorem dX8_digest_66 : decode cX8_digest 66 = .ok (.iload_n 1, 1) := by decide +kernel
theorem dX8_digest_67 : decode cX8_digest 67 = .ok (.iconst 3, 1) := by decide +kernel
theorem dX8_digest_68 : decode cX8_digest 68 = .ok (.aload_n 0, 1) := by decide +kernel
theorem dX8_digest_69 : decode cX8_digest 69 = .ok (.getfield 210, 3) := by decide +kernel
theorem dX8_digest_72 : decode cX8_digest 72 = .ok (.imul, 1) := by decide +kernel
theorem dX8_digest_73 : decode cX8_digest 73 = .ok (.if_icmp .ge 24, 3) := by decide +kernel
theorem dX8_digest_76 : decode cX8_digest 76 = .ok (.aload_n 0, 1) := by decide +kernel
theorem dX8_digest_77 : decode cX8_digest 77 = .ok (.aload_n 0, 1) := by decide +kernel
theorem dX8_digest_78 : decode cX8_digest 78 = .ok (.iload_n 1, 1) := by decide +kernel
theorem dX8_digest_79 : decode cX8_digest 79 = .ok (.iconst 3, 1) := by decide +kernel
theorem dX8_digest_80 : decode cX8_digest 80 = .ok (.idiv, 1) := by decide +kernel
theorem dX8_digest_81 : decode cX8_digest 81 = .ok (.iload_n 1, 1) := by decide +kernel
theorem dX8_digest_82 : decode cX8_digest 82 = .ok (.iconst 3, 1) := by decide +kernel
theorem dX8_digest_83 : decode cX8_digest 83 = .ok (.irem, 1) := by decide +kernel
theorem dX8_digest_84 : decode cX8_digest 84 = .ok (.invokevirtual 242, 3) := by decide +kernel
theorem dX8_digest_87 : decode cX8_digest 87 = .ok (.i2l, 1) := by decide +kernel
theorem dX8_digest_88 : decode cX8_digest 88 = .ok (.invokevirtual 377, 3) := by decide +kernel
theorem dX8_digest_91 : decode cX8_digest 91 = .ok (.iinc 1 1, 3) := by decide +kernel
theorem dX8_digest_94 : decode cX8_digest 94 = .ok (.goto (-28), 3) := by decide +kernel
theorem dX8_digest_97 : decode cX8_digest 97 = .ok (.iconst 0, 1) := by decide +kernel
theorem dX8_digest_98 : decode cX8_digest 98 = .ok (.istore_n 1, 1) := by decide +kernel
theorem dX8_digest_99 : decode cX8_digest 99 = .ok (.iload_n 1, 1) := by decide +kernel
theorem dX8_digest_100 : decode cX8_digest 100 = .ok (.iconst 5, 1) := by decide +kernel
theorem dX8_digest_101 : decode cX8_digest 101 = .ok (.aload_n 0, 1) := by decide +kernel
theorem dX8_digest_102 : decode cX8_digest 102 = .ok (.getfield 213, 3) := by decide +kernel
theorem dX8_digest_105 : decode cX8_digest 105 = .ok (.imul, 1) := by decide +kernel
theorem dX8_digest_106 : decode cX8_digest 106 = .ok (.if_icmp .ge 24, 3) := by decide +kernel
theorem dX8_digest_109 : decode cX8_digest 109 = .ok (.aload_n 0, 1) := by decide +kernel
theorem dX8_digest_110 : decode cX8_digest 110 = .ok (.aload_n 0, 1) := by decide +kernel
theorem dX8_digest_111 : decode cX8_digest 111 = .ok (.iload_n 1, 1) := by decide +kernel
theorem dX8_digest_112 : decode cX8_digest 112 = .ok (.iconst 5, 1) := by decide +kernel
theorem dX8_digest_113 : decode cX8_digest 113 = .ok (.idiv, 1) := by decide +kernel
theorem dX8_digest_114 : decode cX8_digest 114 = .ok (.iload_n 1, 1) := by decide +kernel
theorem dX8_digest_115 : decode cX8_digest 115 = .ok (.iconst 5, 1) := by decide +kernel
theorem dX8_digest_116 : decode cX8_digest 116 = .ok (.irem, 1) := by decide +kernel
theorem dX8_digest_117 : decode cX8_digest 117 = .ok (.invokevirtual 253, 3) := by decide +kernel
theorem dX8_digest_120 : decode cX8_digest 120 = .ok (.i2l, 1) := by decide +kernel
theorem dX8_digest_121 : decode cX8_digest 121 = .ok (.invokevirtual 377, 3) := by decide +kernel
theorem dX8_digest_124 : decode cX8_digest 124 = .ok (.iinc 1 1, 3) := by decide +kernel
theorem dX8_digest_127 : decode cX8_digest 127 = .ok (.goto (-28), 3) := by decide +kernel
theorem dX8_digest_130 : decode cX8_digest 130 = .ok (.iconst 0, 1) := by decide +kernel
theorem dX8_digest_131 : decode cX8_digest 131 = .ok (.istore_n 1, 1) := by decide +kernel
theorem dX8_digest_132 : decode cX8_digest 132 = .ok (.iload_n 1, 1) := by decide +kernel
theorem dX8_digest_133 : decode cX8_digest 133 = .ok (.aload_n 0, 1) := by decide +kernel
theorem dX8_digest_134 : decode cX8_digest 134 = .ok (.getfield 216, 3) := by decide +kernel
theorem dX8_digest_137 : decode cX8_digest 137 = .ok (.if_icmp .ge 20, 3) := by decide +kernel
theorem dX8_digest_140 : decode cX8_digest 140 = .ok (.aload_n 0, 1) := by decide +kernel
theorem dX8_digest_141 : decode cX8_digest 141 = .ok (.aload_n 0, 1) := by decide +kernel
theorem dX8_digest_142 : decode cX8_digest 142 = .ok (.getfield 49, 3) := by decide +kernel
theorem dX8_digest_145 : decode cX8_digest 145 = .ok (.iload_n 1, 1) := by decide +kernel
theorem dX8_digest_146 : decode cX8_digest 146 = .ok (.iaload, 1) := by decide +kernel
theorem dX8_digest_147 : decode cX8_digest 147 = .ok (.i2l, 1) := by decide +kernel
theorem dX8_digest_148 : decode cX8_digest 148 = .ok (.invokevirtual 377, 3) := by decide +kernel
theorem dX8_digest_151 : decode cX8_digest 151 = .ok (.iinc 1 1, 3) := by decide +kernel
theorem dX8_digest_154 : decode cX8_digest 154 = .ok (.goto (-22), 3) := by decide +kernel
theorem dX8_digest_157 : decode cX8_digest 157 = .ok (.iconst 0, 1) := by decide +kernel
theorem dX8_digest_158 : decode cX8_digest 158 = .ok (.istore_n 1, 1) := by decide +kernel
theorem dX8_digest_159 : decode cX8_digest 159 = .ok (.iload_n 1, 1) := by decide +kernel
theorem dX8_digest_160 : decode cX8_digest 160 = .ok (.iconst 3, 1) := by decide +kernel
theorem dX8_digest_161 : decode cX8_digest 161 = .ok (.if_icmp .ge 41, 3) := by decide +kernel
theorem dX8_digest_164 : decode cX8_digest 164 = .ok (.aload_n 0, 1) := by decide +kernel
theorem dX8_digest_165 : decode cX8_digest 165 = .ok (.aload_n 0, 1) := by decide +kernel
theorem dX8_digest_166 : decode cX8_digest 166 = .ok (.getfield 83, 3) := by decide +kernel
theorem dX8_digest_169 : decode cX8_digest 169 = .ok (.iload_n 1, 1) := by decide +kernel
theorem dX8_digest_170 : decode cX8_digest 170 = .ok (.baload, 1) := by decide +kernel
theorem dX8_digest_171 : decode cX8_digest 171 = .ok (.ifCond .eq 19, 3) := by decide +kernel
theorem dX8_digest_174 : decode cX8_digest 174 = .ok (.aload_n 0, 1) := by decide +kernel
theorem dX8_digest_175 : decode cX8_digest 175 = .ok (.getfield 87, 3) := by decide +kernel
theorem dX8_digest_178 : decode cX8_digest 178 = .ok (.bipush 18, 2) := by decide +kernel
theorem dX8_digest_180 : decode cX8_digest 180 = .ok (.iload_n 1, 1) := by decide +kernel
theorem dX8_digest_181 : decode cX8_digest 181 = .ok (.imul, 1) := by decide +kernel
theorem dX8_digest_182 : decode cX8_digest 182 = .ok (.bipush 16, 2) := by decide +kernel
theorem dX8_digest_184 : decode cX8_digest 184 = .ok (.iadd, 1) := by decide +kernel
theorem dX8_digest_185 : decode cX8_digest 185 = .ok (.iaload, 1) := by decide +kernel
theorem dX8_digest_186 : decode cX8_digest 186 = .ok (.i2l, 1) := by decide +kernel
theorem dX8_digest_187 : decode cX8_digest 187 = .ok (.goto 6, 3) := by decide +kernel
theorem dX8_digest_190 : decode cX8_digest 190 = .ok (.ldc2_w 380, 3) := by decide +kernel
theorem dX8_digest_193 : decode cX8_digest 193 = .ok (.invokevirtual 377, 3) := by decide +kernel
theorem dX8_digest_196 : decode cX8_digest 196 = .ok (.iinc 1 1, 3) := by decide +kernel
theorem dX8_digest_199 : decode cX8_digest 199 = .ok (.goto (-40), 3) := by decide +kernel
theorem dX8_digest_202 : decode cX8_digest 202 = .ok (.iconst 0, 1) := by decide +kernel
theorem dX8_digest_203 : decode cX8_digest 203 = .ok (.istore_n 1, 1) := by decide +kernel
theorem dX8_digest_204 : decode cX8_digest 204 = .ok (.iload_n 1, 1) := by decide +kernel
theorem dX8_digest_205 : decode cX8_digest 205 = .ok (.bipush 6, 2) := by decide +kernel
theorem dX8_digest_207 : decode cX8_digest 207 = .ok (.if_icmp .ge 54, 3) := by decide +kernel
theorem dX8_digest_210 : decode cX8_digest 210 = .ok (.aload_n 0, 1) := by decide +kernel
theorem dX8_digest_211 : decode cX8_digest 211 = .ok (.aload_n 0, 1) := by decide +kernel
theorem dX8_digest_212 : decode cX8_digest 212 = .ok (.getfield 7, 3) := by decide +kernel
theorem dX8_digest_215 : decode cX8_digest 215 = .ok (.iload_n 1, 1) := by decide +kernel
theorem dX8_digest_216 : decode cX8_digest 216 = .ok (.iaload, 1) := by decide +kernel
theorem dX8_digest_217 : decode cX8_digest 217 = .ok (.i2l, 1) := by decide +kernel
theorem dX8_digest_218 : decode cX8_digest 218 = .ok (.invokevirtual 377, 3) := by decide +kernel
theorem dX8_digest_221 : decode cX8_digest 221 = .ok (.iconst 0, 1) := by decide +kernel
theorem dX8_digest_222 : decode cX8_digest 222 = .ok (.istore_n 2, 1) := by decide +kernel
theorem dX8_digest_223 : decode cX8_digest 223 = .ok (.iload_n 2, 1) := by decide +kernel
theorem dX8_digest_224 : decode cX8_digest 224 = .ok (.aload_n 0, 1) := by decide +kernel
theorem dX8_digest_225 : decode cX8_digest 225 = .ok (.getfield 7, 3) := by decide +kernel
theorem dX8_digest_228 : decode cX8_digest 228 = .ok (.iload_n 1, 1) := by decide +kernel
theorem dX8_digest_229 : decode cX8_digest 229 = .ok (.iaload, 1) := by decide +kernel
theorem dX8_digest_230 : decode cX8_digest 230 = .ok (.if_icmp .ge 25, 3) := by decide +kernel
theorem dX8_digest_233 : decode cX8_digest 233 = .ok (.aload_n 0, 1) := by decide +kernel
theorem dX8_digest_234 : decode cX8_digest 234 = .ok (.aload_n 0, 1) := by decide +kernel
theorem dX8_digest_235 : decode cX8_digest 235 = .ok (.getfield 13, 3) := by decide +kernel
theorem dX8_digest_238 : decode cX8_digest 238 = .ok (.bipush 40, 2) := by decide +kernel
theorem dX8_digest_240 : decode cX8_digest 240 = .ok (.iload_n 1, 1) := by decide +kernel
theorem dX8_digest_241 : decode cX8_digest 241 = .ok (.imul, 1) := by decide +kernel
theorem dX8_digest_242 : decode cX8_digest 242 = .ok (.iload_n 2, 1) := by decide +kernel
theorem dX8_digest_243 : decode cX8_digest 243 = .ok (.iadd, 1) := by decide +kernel
theorem dX8_digest_244 : decode cX8_digest 244 = .ok (.iaload, 1) := by decide +kernel
theorem dX8_digest_245 : decode cX8_digest 245 = .ok (.i2l, 1) := by decide +kernel
theorem dX8_digest_246 : decode cX8_digest 246 = .ok (.invokevirtual 377, 3) := by decide +kernel
theorem dX8_digest_249 : decode cX8_digest 249 = .ok (.iinc 2 1, 3) := by decide +kernel
theorem dX8_digest_252 : decode cX8_digest 252 = .ok (.goto (-29), 3) := by decide +kernel
theorem dX8_digest_255 : decode cX8_digest 255 = .ok (.iinc 1 1, 3) := by decide +kernel
theorem dX8_digest_258 : decode cX8_digest 258 = .ok (.goto (-54), 3) := by decide +kernel
theorem dX8_digest_261 : decode cX8_digest 261 = .ok (.iconst 0, 1) := by decide +kernel
theorem dX8_digest_262 : decode cX8_digest 262 = .ok (.istore_n 1, 1) := by decide +kernel
theorem dX8_digest_263 : decode cX8_digest 263 = .ok (.iload_n 1, 1) := by decide +kernel
theorem dX8_digest_264 : decode cX8_digest 264 = .ok (.iconst 4, 1) := by decide +kernel
theorem dX8_digest_265 : decode cX8_digest 265 = .ok (.if_icmp .ge 54, 3) := by decide +kernel
theorem dX8_digest_268 : decode cX8_digest 268 = .ok (.aload_n 0, 1) := by decide +kernel
theorem dX8_digest_269 : decode cX8_digest 269 = .ok (.aload_n 0, 1) := by decide +kernel
theorem dX8_digest_270 : decode cX8_digest 270 = .ok (.getfield 16, 3) := by decide +kernel
theorem dX8_digest_273 : decode cX8_digest 273 = .ok (.iload_n 1, 1) := by decide +kernel
theorem dX8_digest_274 : decode cX8_digest 274 = .ok (.iaload, 1) := by decide +kernel
theorem dX8_digest_275 : decode cX8_digest 275 = .ok (.i2l, 1) := by decide +kernel
theorem dX8_digest_276 : decode cX8_digest 276 = .ok (.invokevirtual 377, 3) := by decide +kernel
theorem dX8_digest_279 : decode cX8_digest 279 = .ok (.iconst 0, 1) := by decide +kernel
theorem dX8_digest_280 : decode cX8_digest 280 = .ok (.istore_n 2, 1) := by decide +kernel
theorem dX8_digest_281 : decode cX8_digest 281 = .ok (.iload_n 2, 1) := by decide +kernel
theorem dX8_digest_282 : decode cX8_digest 282 = .ok (.aload_n 0, 1) := by decide +kernel
theorem dX8_digest_283 : decode cX8_digest 283 = .ok (.getfield 16, 3) := by decide +kernel
theorem dX8_digest_286 : decode cX8_digest 286 = .ok (.iload_n 1, 1) := by decide +kernel
theorem dX8_digest_287 : decode cX8_digest 287 = .ok (.iaload, 1) := by decide +kernel
theorem dX8_digest_288 : decode cX8_digest 288 = .ok (.if_icmp .ge 25, 3) := by decide +kernel
theorem dX8_digest_291 : decode cX8_digest 291 = .ok (.aload_n 0, 1) := by decide +kernel
theorem dX8_digest_292 : decode cX8_digest 292 = .ok (.aload_n 0, 1) := by decide +kernel
theorem dX8_digest_293 : decode cX8_digest 293 = .ok (.getfield 19, 3) := by decide +kernel
theorem dX8_digest_296 : decode cX8_digest 296 = .ok (.bipush 80, 2) := by decide +kernel
theorem dX8_digest_298 : decode cX8_digest 298 = .ok (.iload_n 1, 1) := by decide +kernel
theorem dX8_digest_299 : decode cX8_digest 299 = .ok (.imul, 1) := by decide +kernel
theorem dX8_digest_300 : decode cX8_digest 300 = .ok (.iload_n 2, 1) := by decide +kernel
theorem dX8_digest_301 : decode cX8_digest 301 = .ok (.iadd, 1) := by decide +kernel
theorem dX8_digest_302 : decode cX8_digest 302 = .ok (.iaload, 1) := by decide +kernel
theorem dX8_digest_303 : decode cX8_digest 303 = .ok (.i2l, 1) := by decide +kernel
theorem dX8_digest_304 : decode cX8_digest 304 = .ok (.invokevirtual 377, 3) := by decide +kernel
theorem dX8_digest_307 : decode cX8_digest 307 = .ok (.iinc 2 1, 3) := by decide +kernel
theorem dX8_digest_310 : decode cX8_digest 310 = .ok (.goto (-29), 3) := by decide +kernel
theorem dX8_digest_313 : decode cX8_digest 313 = .ok (.iinc 1 1, 3) := by decide +kernel
theorem dX8_digest_316 : decode cX8_digest 316 = .ok (.goto (-53), 3) := by decide +kernel
theorem dX8_digest_319 : decode cX8_digest 319 = .ok (.aload_n 0, 1) := by decide +kernel
theorem dX8_digest_320 : decode cX8_digest 320 = .ok (.getfield 369, 3) := by decide +kernel
theorem dX8_digest_323 : decode cX8_digest 323 = .ok (.lreturn, 1) := by decide +kernel
