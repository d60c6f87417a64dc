theorem dX8_costAt_33 : decode cX8_costAt 33 = .ok (.lcmp, 1) := by decide +kernel
theorem dX8_costAt_34 : decode cX8_costAt 34 = .ok (.ifCond .lt 7, 3) := by decide +kernel
theorem dX8_costAt_37 : decode cX8_costAt 37 = .ok (.ldc2_w 172, 3) := by decide +kernel
theorem dX8_costAt_40 : decode cX8_costAt 40 = .ok (.lreturn, 1) := by decide +kernel
theorem dX8_costAt_41 : decode cX8_costAt 41 = .ok (.iload_n 1, 1) := by decide +kernel
theorem dX8_costAt_42 : decode cX8_costAt 42 = .ok (.sipush (-10000), 3) := by decide +kernel
theorem dX8_costAt_45 : decode cX8_costAt 45 = .ok (.if_icmp .ne 6, 3) := by decide +kernel
theorem dX8_costAt_48 : decode cX8_costAt 48 = .ok (.iload_n 1, 1) := by decide +kernel
theorem dX8_costAt_49 : decode cX8_costAt 49 = .ok (.i2l, 1) := by decide +kernel
theorem dX8_costAt_50 : decode cX8_costAt 50 = .ok (.lreturn, 1) := by decide +kernel
theorem dX8_costAt_51 : decode cX8_costAt 51 = .ok (.aload_n 0, 1) := by decide +kernel
theorem dX8_costAt_52 : decode cX8_costAt 52 = .ok (.getfield 60, 3) := by decide +kernel
theorem dX8_costAt_55 : decode cX8_costAt 55 = .ok (.iconst 4, 1) := by decide +kernel
theorem dX8_costAt_56 : decode cX8_costAt 56 = .ok (.laload, 1) := by decide +kernel
theorem dX8_costAt_57 : decode cX8_costAt 57 = .ok (.lconst 0, 1) := by decide +kernel
theorem dX8_costAt_58 : decode cX8_costAt 58 = .ok (.lcmp, 1) := by decide +kernel
theorem dX8_costAt_59 : decode cX8_costAt 59 = .ok (.ifCond .ne 26, 3) := by decide +kernel
theorem dX8_costAt_62 : decode cX8_costAt 62 = .ok (.aload_n 0, 1) := by decide +kernel
theorem dX8_costAt_63 : decode cX8_costAt 63 = .ok (.getfield 60, 3) := by decide +kernel
theorem dX8_costAt_66 : decode cX8_costAt 66 = .ok (.iconst 5, 1) := by decide +kernel
theorem dX8_costAt_67 : decode cX8_costAt 67 = .ok (.laload, 1) := by decide +kernel
theorem dX8_costAt_68 : decode cX8_costAt 68 = .ok (.lconst 0, 1) := by decide +kernel
theorem dX8_costAt_69 : decode cX8_costAt 69 = .ok (.lcmp, 1) := by decide +kernel
theorem dX8_costAt_70 : decode cX8_costAt 70 = .ok (.ifCond .ne 15, 3) := by decide +kernel
theorem dX8_costAt_73 : decode cX8_costAt 73 = .ok (.aload_n 0, 1) := by decide +kernel
theorem dX8_costAt_74 : decode cX8_costAt 74 = .ok (.getfield 60, 3) := by decide +kernel
theorem dX8_costAt_77 : decode cX8_costAt 77 = .ok (.bipush 6, 2) := by decide +kernel
theorem dX8_costAt_79 : decode cX8_costAt 79 = .ok (.laload, 1) := by decide +kernel
theorem dX8_costAt_80 : decode cX8_costAt 80 = .ok (.lconst 0, 1) := by decide +kernel
theorem dX8_costAt_81 : decode cX8_costAt 81 = .ok (.lcmp, 1) := by decide +kernel
theorem dX8_costAt_82 : decode cX8_costAt 82 = .ok (.ifCond .eq 7, 3) := by decide +kernel
theorem dX8_costAt_85 : decode cX8_costAt 85 = .ok (.iconst 1, 1) := by decide +kernel
theorem dX8_costAt_86 : decode cX8_costAt 86 = .ok (.goto 4, 3) := by decide +kernel
theorem dX8_costAt_89 : decode cX8_costAt 89 = .ok (.iconst 0, 1) := by decide +kernel
theorem dX8_costAt_90 : decode cX8_costAt 90 = .ok (.istore 4, 2) := by decide +kernel
theorem dX8_costAt_92 : decode cX8_costAt 92 = .ok (.lload_n 2, 1) := by decide +kernel
theorem dX8_costAt_93 : decode cX8_costAt 93 = .ok (.lconst 0, 1) := by decide +kernel
theorem dX8_costAt_94 : decode cX8_costAt 94 = .ok (.lcmp, 1) := by decide +kernel
theorem dX8_costAt_95 : decode cX8_costAt 95 = .ok (.ifCond .lt 17, 3) := by decide +kernel
theorem dX8_costAt_98 : decode cX8_costAt 98 = .ok (.lload_n 2, 1) := by decide +kernel
theorem dX8_costAt_99 : decode cX8_costAt 99 = .ok (.aload_n 0, 1) := by decide +kernel
theorem dX8_costAt_100 : decode cX8_costAt 100 = .ok (.getfield 60, 3) := by decide +kernel
theorem dX8_costAt_103 : decode cX8_costAt 103 = .ok (.bipush 7, 2) := by decide +kernel
theorem dX8_costAt_105 : decode cX8_costAt 105 = .ok (.laload, 1) := by decide +kernel
theorem dX8_costAt_106 : decode cX8_costAt 106 = .ok (.invokestatic 174, 3) := by decide +kernel
theorem dX8_costAt_109 : decode cX8_costAt 109 = .ok (.goto 23, 3) := by decide +kernel
theorem dX8_costAt_112 : decode cX8_costAt 112 = .ok (.iload 4, 2) := by decide +kernel
theorem dX8_costAt_114 : decode cX8_costAt 114 = .ok (.ifCond .eq 7, 3) := by decide +kernel
theorem dX8_costAt_117 : decode cX8_costAt 117 = .ok (.lconst 0, 1) := by decide +kernel
theorem dX8_costAt_118 : decode cX8_costAt 118 = .ok (.goto 14, 3) := by decide +kernel
theorem dX8_costAt_121 : decode cX8_costAt 121 = .ok (.lload_n 2, 1) := by decide +kernel
theorem dX8_costAt_122 : decode cX8_costAt 122 = .ok (.lneg, 1) := by decide +kernel
theorem dX8_costAt_123 : decode cX8_costAt 123 = .ok (.aload_n 0, 1) := by decide +kernel
theorem dX8_costAt_124 : decode cX8_costAt 124 = .ok (.getfield 60, 3) := by decide +kernel
theorem dX8_costAt_127 : decode cX8_costAt 127 = .ok (.iconst 3, 1) := by decide +kernel
theorem dX8_costAt_128 : decode cX8_costAt 128 = .ok (.laload, 1) := by decide +kernel
theorem dX8_costAt_129 : decode cX8_costAt 129 = .ok (.invokestatic 174, 3) := by decide +kernel
theorem dX8_costAt_132 : decode cX8_costAt 132 = .ok (.lstore 5, 2) := by decide +kernel
theorem dX8_costAt_134 : decode cX8_costAt 134 = .ok (.lload 5, 2) := by decide +kernel
theorem dX8_costAt_136 : decode cX8_costAt 136 = .ok (.ldc2_w 120, 3) := by decide +kernel
theorem dX8_costAt_139 : decode cX8_costAt 139 = .ok (.lcmp, 1) := by decide +kernel
theorem dX8_costAt_140 : decode cX8_costAt 140 = .ok (.ifCond .ge 16, 3) := by decide +kernel
theorem dX8_costAt_143 : decode cX8_costAt 143 = .ok (.lload 5, 2) := by decide +kernel
theorem dX8_costAt_145 : decode cX8_costAt 145 = .ok (.iload_n 1, 1) := by decide +kernel
theorem dX8_costAt_146 : decode cX8_costAt 146 = .ok (.i2l, 1) := by decide +kernel
theorem dX8_costAt_147 : decode cX8_costAt 147 = .ok (.ladd, 1) := by decide +kernel
theorem dX8_costAt_148 : decode cX8_costAt 148 = .ok (.aload_n 0, 1) := by decide +kernel
theorem dX8_costAt_149 : decode cX8_costAt 149 = .ok (.getfield 153, 3) := by decide +kernel
theorem dX8_costAt_152 : decode cX8_costAt 152 = .ok (.ladd, 1) := by decide +kernel
theorem dX8_costAt_153 : decode cX8_costAt 153 = .ok (.goto 6, 3) := by decide +kernel
theorem dX8_costAt_156 : decode cX8_costAt 156 = .ok (.ldc2_w 178, 3) := by decide +kernel
theorem dX8_costAt_159 : decode cX8_costAt 159 = .ok (.lreturn, 1) := by decide +kernel
theorem dX8_isPlace_0 : decode cX8_isPlace 0 = .ok (.aload_n 0, 1) := by decide +kernel
theorem dX8_isPlace_1 : decode cX8_isPlace 1 = .ok (.getfield 41, 3) := by decide +kernel
theorem dX8_isPlace_4 : decode cX8_isPlace 4 = .ok (.iconst 0, 1) := by decide +kernel
theorem dX8_isPlace_5 : decode cX8_isPlace 5 = .ok (.iaload, 1) := by decide +kernel
theorem dX8_isPlace_6 : decode cX8_isPlace 6 = .ok (.istore_n 1, 1) := by decide +kernel
theorem dX8_isPlace_7 : decode cX8_isPlace 7 = .ok (.aload_n 0, 1) := by decide +kernel
theorem dX8_isPlace_8 : decode cX8_isPlace 8 = .ok (.getfield 7, 3) := by decide +kernel
theorem dX8_isPlace_11 : decode cX8_isPlace 11 = .ok (.iload_n 1, 1) := by decide +kernel
theorem dX8_isPlace_12 : decode cX8_isPlace 12 = .ok (.iaload, 1) := by decide +kernel
theorem dX8_isPlace_13 : decode cX8_isPlace 13 = .ok (.iconst 1, 1) := by decide +kernel
theorem dX8_isPlace_14 : decode cX8_isPlace 14 = .ok (.if_icmp .ne 40, 3) := by decide +kernel
theorem dX8_isPlace_17 : decode cX8_isPlace 17 = .ok (.aload_n 0, 1) := by decide +kernel
theorem dX8_isPlace_18 : decode cX8_isPlace 18 = .ok (.getfield 7, 3) := by decide +kernel
theorem dX8_isPlace_21 : decode cX8_isPlace 21 = .ok (.aload_n 0, 1) := by decide +kernel
theorem dX8_isPlace_22 : decode cX8_isPlace 22 = .ok (.getfield 47, 3) := by decide +kernel
theorem dX8_isPlace_25 : decode cX8_isPlace 25 = .ok (.aload_n 0, 1) := by decide +kernel
theorem dX8_isPlace_26 : decode cX8_isPlace 26 = .ok (.getfield 115, 3) := by decide +kernel
theorem dX8_isPlace_29 : decode cX8_isPlace 29 = .ok (.iconst 1, 1) := by decide +kernel
theorem dX8_isPlace_30 : decode cX8_isPlace 30 = .ok (.isub, 1) := by decide +kernel
theorem dX8_isPlace_31 : decode cX8_isPlace 31 = .ok (.iaload, 1) := by decide +kernel
theorem dX8_isPlace_32 : decode cX8_isPlace 32 = .ok (.iaload, 1) := by decide +kernel
theorem dX8_isPlace_33 : decode cX8_isPlace 33 = .ok (.istore_n 2, 1) := by decide +kernel
theorem dX8_isPlace_34 : decode cX8_isPlace 34 = .ok (.iload_n 2, 1) := by decide +kernel
theorem dX8_isPlace_35 : decode cX8_isPlace 35 = .ok (.ifCond .eq 13, 3) := by decide +kernel
theorem dX8_isPlace_38 : decode cX8_isPlace 38 = .ok (.iload_n 2, 1) := by decide +kernel
theorem dX8_isPlace_39 : decode cX8_isPlace 39 = .ok (.iconst 4, 1) := by decide +kernel
theorem dX8_isPlace_40 : decode cX8_isPlace 40 = .ok (.if_icmp .eq 8, 3) := by decide +kernel
theorem dX8_isPlace_43 : decode cX8_isPlace 43 = .ok (.iload_n 2, 1) := by decide +kernel
theorem dX8_isPlace_44 : decode cX8_isPlace 44 = .ok (.iconst 5, 1) := by decide +kernel
theorem dX8_isPlace_45 : decode cX8_isPlace 45 = .ok (.if_icmp .ne 7, 3) := by decide +kernel
theorem dX8_isPlace_48 : decode cX8_isPlace 48 = .ok (.iconst 1, 1) := by decide +kernel
theorem dX8_isPlace_49 : decode cX8_isPlace 49 = .ok (.goto 4, 3) := by decide +kernel
theorem dX8_isPlace_52 : decode cX8_isPlace 52 = .ok (.iconst 0, 1) := by decide +kernel
theorem dX8_isPlace_53 : decode cX8_isPlace 53 = .ok (.ireturn, 1) := by decide +kernel
theorem dX8_isPlace_54 : decode cX8_isPlace 54 = .ok (.aload_n 0, 1) := by decide +kernel
theorem dX8_isPlace_55 : decode cX8_isPlace 55 = .ok (.getfield 7, 3) := by decide +kernel
theorem dX8_isPlace_58 : decode cX8_isPlace 58 = .ok (.iload_n 1, 1) := by decide +kernel
theorem dX8_isPlace_59 : decode cX8_isPlace 59 = .ok (.iaload, 1) := by decide +kernel
theorem dX8_isPlace_60 : decode cX8_isPlace 60 = .ok (.iconst 2, 1) := by decide +kernel
theorem dX8_isPlace_61 : decode cX8_isPlace 61 = .ok (.if_icmp .ne 26, 3) := by decide +kernel
theorem dX8_isPlace_64 : decode cX8_isPlace 64 = .ok (.aload_n 0, 1) := by decide +kernel
theorem dX8_isPlace_65 : decode cX8_isPlace 65 = .ok (.getfield 7, 3) := by decide +kernel
theorem dX8_isPlace_68 : decode cX8_isPlace 68 = .ok (.aload_n 0, 1) := by decide +kernel
theorem dX8_isPlace_69 : decode cX8_isPlace 69 = .ok (.getfield 41, 3) := by decide +kernel
theorem dX8_isPlace_72 : decode cX8_isPlace 72 = .ok (.iconst 1, 1) := by decide +kernel
theorem dX8_isPlace_73 : decode cX8_isPlace 73 = .ok (.iaload, 1) := by decide +kernel
theorem dX8_isPlace_74 : decode cX8_isPlace 74 = .ok (.iaload, 1) := by decide +kernel
theorem dX8_isPlace_75 : decode cX8_isPlace 75 = .ok (.iconst 1, 1) := by decide +kernel
theorem dX8_isPlace_76 : decode cX8_isPlace 76 = .ok (.if_icmp .ne 7, 3) := by decide +kernel
theorem dX8_isPlace_79 : decode cX8_isPlace 79 = .ok (.iconst 1, 1) := by decide +kernel
theorem dX8_isPlace_80 : decode cX8_isPlace 80 = .ok (.goto 34, 3) := by decide +kernel
theorem dX8_isPlace_83 : decode cX8_isPlace 83 = .ok (.iconst 0, 1) := by decide +kernel
theorem dX8_isPlace_84 : decode cX8_isPlace 84 = .ok (.goto 30, 3) := by decide +kernel
theorem dX8_isPlace_87 : decode cX8_isPlace 87 = .ok (.aload_n 0, 1) := by decide +kernel
theorem dX8_isPlace_88 : decode cX8_isPlace 88 = .ok (.getfield 7, 3) := by decide +kernel
theorem dX8_isPlace_91 : decode cX8_isPlace 91 = .ok (.iload_n 1, 1) := by decide +kernel
theorem dX8_isPlace_92 : decode cX8_isPlace 92 = .ok (.iaload, 1) := by decide +kernel
theorem dX8_isPlace_93 : decode cX8_isPlace 93 = .ok (.iconst 3, 1) := by decide +kernel
theorem dX8_isPlace_94 : decode cX8_isPlace 94 = .ok (.if_icmp .ne 19, 3) := by decide +kernel
theorem dX8_isPlace_97 : decode cX8_isPlace 97 = .ok (.aload_n 0, 1) := by decide +kernel
theorem dX8_isPlace_98 : decode cX8_isPlace 98 = .ok (.getfield 13, 3) := by decide +kernel
theorem dX8_isPlace_101 : decode cX8_isPlace 101 = .ok (.iload_n 1, 1) := by decide +kernel
theorem dX8_isPlace_102 : decode cX8_isPlace 102 = .ok (.iaload, 1) := by decide +kernel
theorem dX8_isPlace_103 : decode cX8_isPlace 103 = .ok (.sipush 10000, 3) := by decide +kernel
theorem dX8_isPlace_106 : decode cX8_isPlace 106 = .ok (.if_icmp .ge 7, 3) := by decide +kernel
theorem dX8_isPlace_109 : decode cX8_isPlace 109 = .ok (.iconst 1, 1) := by decide +kernel
theorem dX8_isPlace_110 : decode cX8_isPlace 110 = .ok (.goto 4, 3) := by decide +kernel
theorem dX8_isPlace_113 : decode cX8_isPlace 113 = .ok (.iconst 0, 1) := by decide +kernel
theorem dX8_isPlace_114 : decode cX8_isPlace 114 = .ok (.ireturn, 1) := by decide +kernel
theorem dX8_ends_0 : decode cX8_ends 0 = .ok (.aload_n 0, 1) := by decide +kernel
theorem dX8_ends_1 : decode cX8_ends 1 = .ok (.getfield 41, 3) := by decide +kernel
theorem dX8_ends_4 : decode cX8_ends 4 = .ok (.iconst 0, 1) := by decide +kernel
theorem dX8_ends_5 : decode cX8_ends 5 = .ok (.iaload, 1) := by decide +kernel
theorem dX8_ends_6 : decode cX8_ends 6 = .ok (.istore_n 1, 1) := by decide +kernel
theorem dX8_ends_7 : decode cX8_ends 7 = .ok (.aload_n 0, 1) := by decide +kernel
theorem dX8_ends_8 : decode cX8_ends 8 = .ok (.getfield 7, 3) := by decide +kernel
theorem dX8_ends_11 : decode cX8_ends 11 = .ok (.iload_n 1, 1) := by decide +kernel
theorem dX8_ends_12 : decode cX8_ends 12 = .ok (.iaload, 1) := by decide +kernel
theorem dX8_ends_13 : decode cX8_ends 13 = .ok (.iconst 3, 1) := by decide +kernel
theorem dX8_ends_14 : decode cX8_ends 14 = .ok (.if_icmp .ne 12, 3) := by decide +kernel
theorem dX8_ends_17 : decode cX8_ends 17 = .ok (.aload_n 0, 1) := by decide +kernel
theorem dX8_ends_18 : decode cX8_ends 18 = .ok (.getfield 13, 3) := by decide +kernel
theorem dX8_ends_21 : decode cX8_ends 21 = .ok (.iload_n 1, 1) := by decide +kernel
theorem dX8_ends_22 : decode cX8_ends 22 = .ok (.iaload, 1) := by decide +kernel
theorem dX8_ends_23 : decode cX8_ends 23 = .ok (.goto 4, 3) := by decide +kernel
theorem dX8_ends_26 : decode cX8_ends 26 = .ok (.iconst 0, 1) := by decide +kernel
theorem dX8_ends_27 : decode cX8_ends 27 = .ok (.istore_n 2, 1) := by decide +kernel
theorem dX8_ends_28 : decode cX8_ends 28 = .ok (.aload_n 0, 1) := by decide +kernel
theorem dX8_ends_29 : decode cX8_ends 29 = .ok (.iload_n 2, 1) := by decide +kernel
theorem dX8_ends_30 : decode cX8_ends 30 = .ok (.invokevirtual 180, 3) := by decide +kernel
theorem dX8_ends_33 : decode cX8_ends 33 = .ok (.lstore_n 3, 1) := by decide +kernel
theorem dX8_ends_34 : decode cX8_ends 34 = .ok (.aload_n 0, 1) := by decide +kernel
theorem dX8_ends_35 : decode cX8_ends 35 = .ok (.getfield 157, 3) := by decide +kernel
theorem dX8_ends_38 : decode cX8_ends 38 = .ok (.ifCond .eq 12, 3) := by decide +kernel
theorem dX8_ends_41 : decode cX8_ends 41 = .ok (.lload_n 3, 1) := by decide +kernel
theorem dX8_ends_42 : decode cX8_ends 42 = .ok (.aload_n 0, 1) := by decide +kernel
theorem dX8_ends_43 : decode cX8_ends 43 = .ok (.getfield 184, 3) := by decide +kernel
theorem dX8_ends_46 : decode cX8_ends 46 = .ok (.lcmp, 1) := by decide +kernel
theorem dX8_ends_47 : decode cX8_ends 47 = .ok (.ifCond .gt 59, 3) := by decide +kernel
theorem dX8_ends_50 : decode cX8_ends 50 = .ok (.aload_n 0, 1) := by decide +kernel
theorem dX8_ends_51 : decode cX8_ends 51 = .ok (.iconst 1, 1) := by decide +kernel
theorem dX8_ends_52 : decode cX8_ends 52 = .ok (.putfield 157, 3) := by decide +kernel
theorem dX8_ends_55 : decode cX8_ends 55 = .ok (.aload_n 0, 1) := by decide +kernel
theorem dX8_ends_56 : decode cX8_ends 56 = .ok (.aload_n 0, 1) := by decide +kernel
theorem dX8_ends_57 : decode cX8_ends 57 = .ok (.getfield 115, 3) := by decide +kernel
theorem dX8_ends_60 : decode cX8_ends 60 = .ok (.putfield 187, 3) := by decide +kernel
theorem dX8_ends_63 : decode cX8_ends 63 = .ok (.aload_n 0, 1) := by decide +kernel
theorem dX8_ends_64 : decode cX8_ends 64 = .ok (.lload_n 3, 1) := by decide +kernel
theorem dX8_ends_65 : decode cX8_ends 65 = .ok (.putfield 184, 3) := by decide +kernel
theorem dX8_ends_68 : decode cX8_ends 68 = .ok (.aload_n 0, 1) := by decide +kernel
theorem dX8_ends_69 : decode cX8_ends 69 = .ok (.iload_n 2, 1) := by decide +kernel
theorem dX8_ends_70 : decode cX8_ends 70 = .ok (.putfield 190, 3) := by decide +kernel
theorem dX8_ends_73 : decode cX8_ends 73 = .ok (.iconst 0, 1) := by decide +kernel
theorem dX8_ends_74 : decode cX8_ends 74 = .ok (.istore 5, 2) := by decide +kernel
theorem dX8_ends_76 : decode cX8_ends 76 = .ok (.iload 5, 2) := by decide +kernel
theorem dX8_ends_78 : decode cX8_ends 78 = .ok (.bipush 12, 2) := by decide +kernel
theorem dX8_ends_80 : decode cX8_ends 80 = .ok (.if_icmp .ge 26, 3) := by decide +kernel
theorem dX8_ends_83 : decode cX8_ends 83 = .ok (.aload_n 0, 1) := by decide +kernel
theorem dX8_ends_84 : decode cX8_ends 84 = .ok (.getfield 60, 3) := by decide +kernel
theorem dX8_ends_87 : decode cX8_ends 87 = .ok (.bipush 12, 2) := by decide +kernel
theorem dX8_ends_89 : decode cX8_ends 89 = .ok (.iload 5, 2) := by decide +kernel
theorem dX8_ends_91 : decode cX8_ends 91 = .ok (.iadd, 1) := by decide +kernel
theorem dX8_ends_92 : decode cX8_ends 92 = .ok (.aload_n 0, 1) := by decide +kernel
theorem dX8_ends_93 : decode cX8_ends 93 = .ok (.getfield 60, 3) := by decide +kernel
theorem dX8_ends_96 : decode cX8_ends 96 = .ok (.iload 5, 2) := by decide +kernel
theorem dX8_ends_98 : decode cX8_ends 98 = .ok (.laload, 1) := by decide +kernel
theorem dX8_ends_99 : decode cX8_ends 99 = .ok (.lastore, 1) := by decide +kernel
theorem dX8_ends_100 : decode cX8_ends 100 = .ok (.iinc 5 1, 3) := by decide +kernel
theorem dX8_ends_103 : decode cX8_ends 103 = .ok (.goto (-27), 3) := by decide +kernel
theorem dX8_ends_106 : decode cX8_ends 106 = .ok (.lload_n 3, 1) := by decide +kernel
theorem dX8_ends_107 : decode cX8_ends 107 = .ok (.ldc2_w 172, 3) := by decide +kernel
theorem dX8_ends_110 : decode cX8_ends 110 = .ok (.lcmp, 1) := by decide +kernel
theorem dX8_ends_111 : decode cX8_ends 111 = .ok (.ifCond .eq 10, 3) := by decide +kernel
theorem dX8_ends_114 : decode cX8_ends 114 = .ok (.iload_n 2, 1) := by decide +kernel
theorem dX8_ends_115 : decode cX8_ends 115 = .ok (.sipush (-10000), 3) := by decide +kernel
theorem dX8_ends_118 : decode cX8_ends 118 = .ok (.if_icmp .ne 7, 3) := by decide +kernel
theorem dX8_ends_121 : decode cX8_ends 121 = .ok (.iconst 1, 1) := by decide +kernel
theorem dX8_ends_122 : decode cX8_ends 122 = .ok (.goto 4, 3) := by decide +kernel
theorem dX8_ends_125 : decode cX8_ends 125 = .ok (.iconst 0, 1) := by decide +kernel
theorem dX8_ends_126 : decode cX8_ends 126 = .ok (.ireturn, 1) := by decide +kernel
theorem dX8_takeFromLine_0 : decode cX8_takeFromLine 0 = .ok (.aload_n 0, 1) := by decide +kernel
theorem dX8_takeFromLine_1 : decode cX8_takeFromLine 1 = .ok (.dup, 1) := by decide +kernel
theorem dX8_takeFromLine_2 : decode cX8_takeFromLine 2 = .ok (.getfield 128, 3) := by decide +kernel
theorem dX8_takeFromLine_5 : decode cX8_takeFromLine 5 = .ok (.iconst 1, 1) := by decide +kernel
theorem dX8_takeFromLine_6 : decode cX8_takeFromLine 6 = .ok (.isub, 1) := by decide +kernel
theorem dX8_takeFromLine_7 : decode cX8_takeFromLine 7 = .ok (.putfield 128, 3) := by decide +kernel
theorem dX8_takeFromLine_10 : decode cX8_takeFromLine 10 = .ok (.iconst 0, 1) := by decide +kernel
theorem dX8_takeFromLine_11 : decode cX8_takeFromLine 11 = .ok (.istore_n 1, 1) := by decide +kernel
theorem dX8_takeFromLine_12 : decode cX8_takeFromLine 12 = .ok (.iload_n 1, 1) := by decide +kernel
theorem dX8_takeFromLine_13 : decode cX8_takeFromLine 13 = .ok (.aload_n 0, 1) := by decide +kernel
theorem dX8_takeFromLine_14 : decode cX8_takeFromLine 14 = .ok (.getfield 128, 3) := by decide +kernel
theorem dX8_takeFromLine_17 : decode cX8_takeFromLine 17 = .ok (.if_icmp .ge 37, 3) := by decide +kernel
theorem dX8_takeFromLine_20 : decode cX8_takeFromLine 20 = .ok (.aload_n 0, 1) := by decide +kernel
theorem dX8_takeFromLine_21 : decode cX8_takeFromLine 21 = .ok (.getfield 41, 3) := by decide +kernel
theorem dX8_takeFromLine_24 : decode cX8_takeFromLine 24 = .ok (.iload_n 1, 1) := by decide +kernel
theorem dX8_takeFromLine_25 : decode cX8_takeFromLine 25 = .ok (.aload_n 0, 1) := by decide +kernel
theorem dX8_takeFromLine_26 : decode cX8_takeFromLine 26 = .ok (.getfield 41, 3) := by decide +kernel
theorem dX8_takeFromLine_29 : decode cX8_takeFromLine 29 = .ok (.iload_n 1, 1) := by decide +kernel
theorem dX8_takeFromLine_30 : decode cX8_takeFromLine 30 = .ok (.iconst 1, 1) := by decide +kernel
theorem dX8_takeFromLine_31 : decode cX8_takeFromLine 31 = .ok (.iadd, 1) := by decide +kernel
theorem dX8_takeFromLine_32 : decode cX8_takeFromLine 32 = .ok (.iaload, 1) := by decide +kernel
theorem dX8_takeFromLine_33 : decode cX8_takeFromLine 33 = .ok (.iastore, 1) := by decide +kernel
theorem dX8_takeFromLine_34 : decode cX8_takeFromLine 34 = .ok (.aload_n 0, 1) := by decide +kernel
theorem dX8_takeFromLine_35 : decode cX8_takeFromLine 35 = .ok (.getfield 44, 3) := by decide +kernel
theorem dX8_takeFromLine_38 : decode cX8_takeFromLine 38 = .ok (.iload_n 1, 1) := by decide +kernel
theorem dX8_takeFromLine_39 : decode cX8_takeFromLine 39 = .ok (.aload_n 0, 1) := by decide +kernel
theorem dX8_takeFromLine_40 : decode cX8_takeFromLine 40 = .ok (.getfield 44, 3) := by decide +kernel
theorem dX8_takeFromLine_43 : decode cX8_takeFromLine 43 = .ok (.iload_n 1, 1) := by decide +kernel
theorem dX8_takeFromLine_44 : decode cX8_takeFromLine 44 = .ok (.iconst 1, 1) := by decide +kernel
theorem dX8_takeFromLine_45 : decode cX8_takeFromLine 45 = .ok (.iadd, 1) := by decide +kernel
theorem dX8_takeFromLine_46 : decode cX8_takeFromLine 46 = .ok (.iaload, 1) := by decide +kernel
theorem dX8_takeFromLine_47 : decode cX8_takeFromLine 47 = .ok (.iastore, 1) := by decide +kernel
theorem dX8_takeFromLine_48 : decode cX8_takeFromLine 48 = .ok (.iinc 1 1, 3) := by decide +kernel
theorem dX8_takeFromLine_51 : decode cX8_takeFromLine 51 = .ok (.goto (-39), 3) := by decide +kernel
theorem dX8_takeFromLine_54 : decode cX8_takeFromLine 54 = .ok (.return_, 1) := by decide +kernel
theorem dX8_put_0 : decode cX8_put 0 = .ok (.aload_n 0, 1) := by decide +kernel
theorem dX8_put_1 : decode cX8_put 1 = .ok (.getfield 41, 3) := by decide +kernel
theorem dX8_put_4 : decode cX8_put 4 = .ok (.iconst 0, 1) := by decide +kernel
theorem dX8_put_5 : decode cX8_put 5 = .ok (.iaload, 1) := by decide +kernel
theorem dX8_put_6 : decode cX8_put 6 = .ok (.istore_n 1, 1) := by decide +kernel
theorem dX8_put_7 : decode cX8_put 7 = .ok (.aload_n 0, 1) := by decide +kernel
theorem dX8_put_8 : decode cX8_put 8 = .ok (.getfield 47, 3) := by decide +kernel
theorem dX8_put_11 : decode cX8_put 11 = .ok (.aload_n 0, 1) := by decide +kernel
theorem dX8_put_12 : decode cX8_put 12 = .ok (.getfield 115, 3) := by decide +kernel
theorem dX8_put_15 : decode cX8_put 15 = .ok (.iload_n 1, 1) := by decide +kernel
theorem dX8_put_16 : decode cX8_put 16 = .ok (.iastore, 1) := by decide +kernel
theorem dX8_put_17 : decode cX8_put 17 = .ok (.aload_n 0, 1) := by decide +kernel
theorem dX8_put_18 : decode cX8_put 18 = .ok (.getfield 50, 3) := by decide +kernel
theorem dX8_put_21 : decode cX8_put 21 = .ok (.aload_n 0, 1) := by decide +kernel
theorem dX8_put_22 : decode cX8_put 22 = .ok (.getfield 115, 3) := by decide +kernel
theorem dX8_put_25 : decode cX8_put 25 = .ok (.aload_n 0, 1) := by decide +kernel
theorem dX8_put_26 : decode cX8_put 26 = .ok (.getfield 44, 3) := by decide +kernel
theorem dX8_put_29 : decode cX8_put 29 = .ok (.iconst 0, 1) := by decide +kernel
theorem dX8_put_30 : decode cX8_put 30 = .ok (.iaload, 1) := by decide +kernel
theorem dX8_put_31 : decode cX8_put 31 = .ok (.iastore, 1) := by decide +kernel
theorem dX8_put_32 : decode cX8_put 32 = .ok (.aload_n 0, 1) := by decide +kernel
theorem dX8_put_33 : decode cX8_put 33 = .ok (.getfield 53, 3) := by decide +kernel
theorem dX8_put_36 : decode cX8_put 36 = .ok (.aload_n 0, 1) := by decide +kernel
theorem dX8_put_37 : decode cX8_put 37 = .ok (.getfield 115, 3) := by decide +kernel
theorem dX8_put_40 : decode cX8_put 40 = .ok (.iconst 0, 1) := by decide +kernel
theorem dX8_put_41 : decode cX8_put 41 = .ok (.iastore, 1) := by decide +kernel
theorem dX8_put_42 : decode cX8_put 42 = .ok (.aload_n 0, 1) := by decide +kernel
theorem dX8_put_43 : decode cX8_put 43 = .ok (.getfield 56, 3) := by decide +kernel
theorem dX8_put_46 : decode cX8_put 46 = .ok (.aload_n 0, 1) := by decide +kernel
theorem dX8_put_47 : decode cX8_put 47 = .ok (.getfield 115, 3) := by decide +kernel
theorem dX8_put_50 : decode cX8_put 50 = .ok (.iconst 0, 1) := by decide +kernel
theorem dX8_put_51 : decode cX8_put 51 = .ok (.bastore, 1) := by decide +kernel
theorem dX8_put_52 : decode cX8_put 52 = .ok (.aload_n 0, 1) := by decide +kernel
theorem dX8_put_53 : decode cX8_put 53 = .ok (.getfield 7, 3) := by decide +kernel
theorem dX8_put_56 : decode cX8_put 56 = .ok (.iload_n 1, 1) := by decide +kernel
theorem dX8_put_57 : decode cX8_put 57 = .ok (.iaload, 1) := by decide +kernel
theorem dX8_put_58 : decode cX8_put 58 = .ok (.tableswitch 257 0 4 #[34, 123, 196, 257, 229], 34) := by decide +kernel
theorem dX8_put_92 : decode cX8_put 92 = .ok (.aload_n 0, 1) := by decide +kernel
theorem dX8_put_93 : decode cX8_put 93 = .ok (.getfield 60, 3) := by decide +kernel
theorem dX8_put_96 : decode cX8_put 96 = .ok (.iconst 0, 1) := by decide +kernel
theorem dX8_put_97 : decode cX8_put 97 = .ok (.dup2, 1) := by decide +kernel
theorem dX8_put_98 : decode cX8_put 98 = .ok (.laload, 1) := by decide +kernel
theorem dX8_put_99 : decode cX8_put 99 = .ok (.aload_n 0, 1) := by decide +kernel
theorem dX8_put_100 : decode cX8_put 100 = .ok (.getfield 143, 3) := by decide +kernel
theorem dX8_put_103 : decode cX8_put 103 = .ok (.ifCond .ne 31, 3) := by decide +kernel
theorem dX8_put_106 : decode cX8_put 106 = .ok (.aload_n 0, 1) := by decide +kernel
theorem dX8_put_107 : decode cX8_put 107 = .ok (.getfield 150, 3) := by decide +kernel
theorem dX8_put_110 : decode cX8_put 110 = .ok (.aload_n 0, 1) := by decide +kernel
theorem dX8_put_111 : decode cX8_put 111 = .ok (.getfield 13, 3) := by decide +kernel
theorem dX8_put_114 : decode cX8_put 114 = .ok (.iload_n 1, 1) := by decide +kernel
theorem dX8_put_115 : decode cX8_put 115 = .ok (.iaload, 1) := by decide +kernel
theorem dX8_put_116 : decode cX8_put 116 = .ok (.if_icmp .le 18, 3) := by decide +kernel
theorem dX8_put_119 : decode cX8_put 119 = .ok (.aload_n 0, 1) := by decide +kernel
theorem dX8_put_120 : decode cX8_put 120 = .ok (.getfield 150, 3) := by decide +kernel
theorem dX8_put_123 : decode cX8_put 123 = .ok (.aload_n 0, 1) := by decide +kernel
theorem dX8_put_124 : decode cX8_put 124 = .ok (.getfield 13, 3) := by decide +kernel
theorem dX8_put_127 : decode cX8_put 127 = .ok (.iload_n 1, 1) := by decide +kernel
theorem dX8_put_128 : decode cX8_put 128 = .ok (.iaload, 1) := by decide +kernel
theorem dX8_put_129 : decode cX8_put 129 = .ok (.isub, 1) := by decide +kernel
theorem dX8_put_130 : decode cX8_put 130 = .ok (.i2l, 1) := by decide +kernel
theorem dX8_put_131 : decode cX8_put 131 = .ok (.goto 4, 3) := by decide +kernel
theorem dX8_put_134 : decode cX8_put 134 = .ok (.lconst 0, 1) := by decide +kernel
theorem dX8_put_135 : decode cX8_put 135 = .ok (.ladd, 1) := by decide +kernel
theorem dX8_put_136 : decode cX8_put 136 = .ok (.lastore, 1) := by decide +kernel
theorem dX8_put_137 : decode cX8_put 137 = .ok (.aload_n 0, 1) := by decide +kernel
theorem dX8_put_138 : decode cX8_put 138 = .ok (.iconst 1, 1) := by decide +kernel
theorem dX8_put_139 : decode cX8_put 139 = .ok (.putfield 143, 3) := by decide +kernel
theorem dX8_put_142 : decode cX8_put 142 = .ok (.aload_n 0, 1) := by decide +kernel
theorem dX8_put_143 : decode cX8_put 143 = .ok (.getfield 60, 3) := by decide +kernel
theorem dX8_put_146 : decode cX8_put 146 = .ok (.iconst 0, 1) := by decide +kernel
theorem dX8_put_147 : decode cX8_put 147 = .ok (.dup2, 1) := by decide +kernel
theorem dX8_put_148 : decode cX8_put 148 = .ok (.laload, 1) := by decide +kernel
theorem dX8_put_149 : decode cX8_put 149 = .ok (.aload_n 0, 1) := by decide +kernel
theorem dX8_put_150 : decode cX8_put 150 = .ok (.getfield 60, 3) := by decide +kernel
theorem dX8_put_153 : decode cX8_put 153 = .ok (.iconst 2, 1) := by decide +kernel
theorem dX8_put_154 : decode cX8_put 154 = .ok (.laload, 1) := by decide +kernel
theorem dX8_put_155 : decode cX8_put 155 = .ok (.aload_n 0, 1) := by decide +kernel
theorem dX8_put_156 : decode cX8_put 156 = .ok (.getfield 13, 3) := by decide +kernel
theorem dX8_put_159 : decode cX8_put 159 = .ok (.iload_n 1, 1) := by decide +kernel
theorem dX8_put_160 : decode cX8_put 160 = .ok (.iaload, 1) := by decide +kernel
theorem dX8_put_161 : decode cX8_put 161 = .ok (.i2l, 1) := by decide +kernel
theorem dX8_put_162 : decode cX8_put 162 = .ok (.ladd, 1) := by decide +kernel
theorem dX8_put_163 : decode cX8_put 163 = .ok (.ladd, 1) := by decide +kernel
theorem dX8_put_164 : decode cX8_put 164 = .ok (.lastore, 1) := by decide +kernel
theorem dX8_put_165 : decode cX8_put 165 = .ok (.aload_n 0, 1) := by decide +kernel
theorem dX8_put_166 : decode cX8_put 166 = .ok (.getfield 60, 3) := by decide +kernel
theorem dX8_put_169 : decode cX8_put 169 = .ok (.iconst 2, 1) := by decide +kernel
theorem dX8_put_170 : decode cX8_put 170 = .ok (.aload_n 0, 1) := by decide +kernel
theorem dX8_put_171 : decode cX8_put 171 = .ok (.getfield 16, 3) := by decide +kernel
theorem dX8_put_174 : decode cX8_put 174 = .ok (.iload_n 1, 1) := by decide +kernel
theorem dX8_put_175 : decode cX8_put 175 = .ok (.iaload, 1) := by decide +kernel
theorem dX8_put_176 : decode cX8_put 176 = .ok (.i2l, 1) := by decide +kernel
theorem dX8_put_177 : decode cX8_put 177 = .ok (.lastore, 1) := by decide +kernel
theorem dX8_put_178 : decode cX8_put 178 = .ok (.goto 137, 3) := by decide +kernel
theorem dX8_put_181 : decode cX8_put 181 = .ok (.aload_n 0, 1) := by decide +kernel
theorem dX8_put_182 : decode cX8_put 182 = .ok (.getfield 60, 3) := by decide +kernel
theorem dX8_put_185 : decode cX8_put 185 = .ok (.iconst 0, 1) := by decide +kernel
theorem dX8_put_186 : decode cX8_put 186 = .ok (.dup2, 1) := by decide +kernel
theorem dX8_put_187 : decode cX8_put 187 = .ok (.laload, 1) := by decide +kernel
theorem dX8_put_188 : decode cX8_put 188 = .ok (.aload_n 0, 1) := by decide +kernel
theorem dX8_put_189 : decode cX8_put 189 = .ok (.getfield 60, 3) := by decide +kernel
theorem dX8_put_192 : decode cX8_put 192 = .ok (.iconst 2, 1) := by decide +kernel
theorem dX8_put_193 : decode cX8_put 193 = .ok (.laload, 1) := by decide +kernel
theorem dX8_put_194 : decode cX8_put 194 = .ok (.aload_n 0, 1) := by decide +kernel
theorem dX8_put_195 : decode cX8_put 195 = .ok (.getfield 13, 3) := by decide +kernel
theorem dX8_put_198 : decode cX8_put 198 = .ok (.iload_n 1, 1) := by decide +kernel
theorem dX8_put_199 : decode cX8_put 199 = .ok (.iaload, 1) := by decide +kernel
theorem dX8_put_200 : decode cX8_put 200 = .ok (.i2l, 1) := by decide +kernel
theorem dX8_put_201 : decode cX8_put 201 = .ok (.ladd, 1) := by decide +kernel
theorem dX8_put_202 : decode cX8_put 202 = .ok (.ladd, 1) := by decide +kernel
theorem dX8_put_203 : decode cX8_put 203 = .ok (.lastore, 1) := by decide +kernel
theorem dX8_put_204 : decode cX8_put 204 = .ok (.aload_n 0, 1) := by decide +kernel
theorem dX8_put_205 : decode cX8_put 205 = .ok (.getfield 60, 3) := by decide +kernel
theorem dX8_put_208 : decode cX8_put 208 = .ok (.iconst 2, 1) := by decide +kernel
theorem dX8_put_209 : decode cX8_put 209 = .ok (.lconst 0, 1) := by decide +kernel
theorem dX8_put_210 : decode cX8_put 210 = .ok (.lastore, 1) := by decide +kernel
theorem dX8_put_211 : decode cX8_put 211 = .ok (.aload_n 0, 1) := by decide +kernel
theorem dX8_put_212 : decode cX8_put 212 = .ok (.getfield 60, 3) := by decide +kernel
theorem dX8_put_215 : decode cX8_put 215 = .ok (.iconst 3, 1) := by decide +kernel
theorem dX8_put_216 : decode cX8_put 216 = .ok (.aload_n 0, 1) := by decide +kernel
theorem dX8_put_217 : decode cX8_put 217 = .ok (.getfield 19, 3) := by decide +kernel
theorem dX8_put_220 : decode cX8_put 220 = .ok (.iload_n 1, 1) := by decide +kernel
theorem dX8_put_221 : decode cX8_put 221 = .ok (.iaload, 1) := by decide +kernel
theorem dX8_put_222 : decode cX8_put 222 = .ok (.iadd, 1) := by decide +kernel
theorem dX8_put_223 : decode cX8_put 223 = .ok (.dup2, 1) := by decide +kernel
theorem dX8_put_224 : decode cX8_put 224 = .ok (.laload, 1) := by decide +kernel
theorem dX8_put_225 : decode cX8_put 225 = .ok (.aload_n 0, 1) := by decide +kernel
theorem dX8_put_226 : decode cX8_put 226 = .ok (.getfield 16, 3) := by decide +kernel
theorem dX8_put_229 : decode cX8_put 229 = .ok (.iload_n 1, 1) := by decide +kernel
theorem dX8_put_230 : decode cX8_put 230 = .ok (.iaload, 1) := by decide +kernel
theorem dX8_put_231 : decode cX8_put 231 = .ok (.i2l, 1) := by decide +kernel
theorem dX8_put_232 : decode cX8_put 232 = .ok (.ladd, 1) := by decide +kernel
theorem dX8_put_233 : decode cX8_put 233 = .ok (.lastore, 1) := by decide +kernel
theorem dX8_put_234 : decode cX8_put 234 = .ok (.aload_n 0, 1) := by decide +kernel
theorem dX8_put_235 : decode cX8_put 235 = .ok (.getfield 60, 3) := by decide +kernel
theorem dX8_put_238 : decode cX8_put 238 = .ok (.bipush 7, 2) := by decide +kernel
theorem dX8_put_240 : decode cX8_put 240 = .ok (.dup2, 1) := by decide +kernel
theorem dX8_put_241 : decode cX8_put 241 = .ok (.laload, 1) := by decide +kernel
theorem dX8_put_242 : decode cX8_put 242 = .ok (.aload_n 0, 1) := by decide +kernel
theorem dX8_put_243 : decode cX8_put 243 = .ok (.getfield 22, 3) := by decide +kernel
theorem dX8_put_246 : decode cX8_put 246 = .ok (.iload_n 1, 1) := by decide +kernel
theorem dX8_put_247 : decode cX8_put 247 = .ok (.iaload, 1) := by decide +kernel
theorem dX8_put_248 : decode cX8_put 248 = .ok (.i2l, 1) := by decide +kernel
theorem dX8_put_249 : decode cX8_put 249 = .ok (.ladd, 1) := by decide +kernel
theorem dX8_put_250 : decode cX8_put 250 = .ok (.lastore, 1) := by decide +kernel
theorem dX8_put_251 : decode cX8_put 251 = .ok (.goto 64, 3) := by decide +kernel
theorem dX8_put_254 : decode cX8_put 254 = .ok (.aload_n 0, 1) := by decide +kernel
theorem dX8_put_255 : decode cX8_put 255 = .ok (.getfield 60, 3) := by decide +kernel
theorem dX8_put_258 : decode cX8_put 258 = .ok (.iconst 0, 1) := by decide +kernel
theorem dX8_put_259 : decode cX8_put 259 = .ok (.dup2, 1) := by decide +kernel
theorem dX8_put_260 : decode cX8_put 260 = .ok (.laload, 1) := by decide +kernel
theorem dX8_put_261 : decode cX8_put 261 = .ok (.aload_n 0, 1) := by decide +kernel
theorem dX8_put_262 : decode cX8_put 262 = .ok (.getfield 60, 3) := by decide +kernel
theorem dX8_put_265 : decode cX8_put 265 = .ok (.iconst 2, 1) := by decide +kernel
theorem dX8_put_266 : decode cX8_put 266 = .ok (.laload, 1) := by decide +kernel
theorem dX8_put_267 : decode cX8_put 267 = .ok (.aload_n 0, 1) := by decide +kernel
theorem dX8_put_268 : decode cX8_put 268 = .ok (.getfield 13, 3) := by decide +kernel
theorem dX8_put_271 : decode cX8_put 271 = .ok (.iload_n 1, 1) := by decide +kernel
theorem dX8_put_272 : decode cX8_put 272 = .ok (.iaload, 1) := by decide +kernel
theorem dX8_put_273 : decode cX8_put 273 = .ok (.i2l, 1) := by decide +kernel
theorem dX8_put_274 : decode cX8_put 274 = .ok (.ladd, 1) := by decide +kernel
theorem dX8_put_275 : decode cX8_put 275 = .ok (.ladd, 1) := by decide +kernel
theorem dX8_put_276 : decode cX8_put 276 = .ok (.lastore, 1) := by decide +kernel
theorem dX8_put_277 : decode cX8_put 277 = .ok (.aload_n 0, 1) := by decide +kernel
theorem dX8_put_278 : decode cX8_put 278 = .ok (.getfield 60, 3) := by decide +kernel
theorem dX8_put_281 : decode cX8_put 281 = .ok (.iconst 2, 1) := by decide +kernel
theorem dX8_put_282 : decode cX8_put 282 = .ok (.lconst 0, 1) := by decide +kernel
theorem dX8_put_283 : decode cX8_put 283 = .ok (.lastore, 1) := by decide +kernel
theorem dX8_put_284 : decode cX8_put 284 = .ok (.goto 31, 3) := by decide +kernel
theorem dX8_put_287 : decode cX8_put 287 = .ok (.aload_n 0, 1) := by decide +kernel
theorem dX8_put_288 : decode cX8_put 288 = .ok (.aload_n 0, 1) := by decide +kernel
theorem dX8_put_289 : decode cX8_put 289 = .ok (.getfield 13, 3) := by decide +kernel
theorem dX8_put_292 : decode cX8_put 292 = .ok (.iload_n 1, 1) := by decide +kernel
theorem dX8_put_293 : decode cX8_put 293 = .ok (.iaload, 1) := by decide +kernel
theorem dX8_put_294 : decode cX8_put 294 = .ok (.aload_n 0, 1) := by decide +kernel
theorem dX8_put_295 : decode cX8_put 295 = .ok (.getfield 19, 3) := by decide +kernel
theorem dX8_put_298 : decode cX8_put 298 = .ok (.iload_n 1, 1) := by decide +kernel
theorem dX8_put_299 : decode cX8_put 299 = .ok (.iaload, 1) := by decide +kernel
theorem dX8_put_300 : decode cX8_put 300 = .ok (.iconst 1, 1) := by decide +kernel
theorem dX8_put_301 : decode cX8_put 301 = .ok (.if_icmp .ne 7, 3) := by decide +kernel
theorem dX8_put_304 : decode cX8_put 304 = .ok (.iconst 1, 1) := by decide +kernel
theorem dX8_put_305 : decode cX8_put 305 = .ok (.goto 4, 3) := by decide +kernel
theorem dX8_put_308 : decode cX8_put 308 = .ok (.iconst 0, 1) := by decide +kernel
theorem dX8_put_309 : decode cX8_put 309 = .ok (.invokevirtual 193, 3) := by decide +kernel
theorem dX8_put_312 : decode cX8_put 312 = .ok (.goto 3, 3) := by decide +kernel
theorem dX8_put_315 : decode cX8_put 315 = .ok (.aload_n 0, 1) := by decide +kernel
theorem dX8_put_316 : decode cX8_put 316 = .ok (.getfield 7, 3) := by decide +kernel
theorem dX8_put_319 : decode cX8_put 319 = .ok (.iload_n 1, 1) := by decide +kernel
theorem dX8_put_320 : decode cX8_put 320 = .ok (.iaload, 1) := by decide +kernel
theorem dX8_put_321 : decode cX8_put 321 = .ok (.iconst 2, 1) := by decide +kernel
theorem dX8_put_322 : decode cX8_put 322 = .ok (.if_icmp .gt 50, 3) := by decide +kernel
theorem dX8_put_325 : decode cX8_put 325 = .ok (.aload_n 0, 1) := by decide +kernel
theorem dX8_put_326 : decode cX8_put 326 = .ok (.getfield 60, 3) := by decide +kernel
theorem dX8_put_329 : decode cX8_put 329 = .ok (.iconst 2, 1) := by decide +kernel
theorem dX8_put_330 : decode cX8_put 330 = .ok (.laload, 1) := by decide +kernel
theorem dX8_put_331 : decode cX8_put 331 = .ok (.aload_n 0, 1) := by decide +kernel
theorem dX8_put_332 : decode cX8_put 332 = .ok (.getfield 147, 3) := by decide +kernel
theorem dX8_put_335 : decode cX8_put 335 = .ok (.i2l, 1) := by decide +kernel
theorem dX8_put_336 : decode cX8_put 336 = .ok (.lcmp, 1) := by decide +kernel
theorem dX8_put_337 : decode cX8_put 337 = .ok (.ifCond .le 35, 3) := by decide +kernel
theorem dX8_put_340 : decode cX8_put 340 = .ok (.aload_n 0, 1) := by decide +kernel
theorem dX8_put_341 : decode cX8_put 341 = .ok (.getfield 60, 3) := by decide +kernel
theorem dX8_put_344 : decode cX8_put 344 = .ok (.iconst 0, 1) := by decide +kernel
theorem dX8_put_345 : decode cX8_put 345 = .ok (.dup2, 1) := by decide +kernel
theorem dX8_put_346 : decode cX8_put 346 = .ok (.laload, 1) := by decide +kernel
theorem dX8_put_347 : decode cX8_put 347 = .ok (.aload_n 0, 1) := by decide +kernel
theorem dX8_put_348 : decode cX8_put 348 = .ok (.getfield 60, 3) := by decide +kernel
theorem dX8_put_351 : decode cX8_put 351 = .ok (.iconst 2, 1) := by decide +kernel
theorem dX8_put_352 : decode cX8_put 352 = .ok (.laload, 1) := by decide +kernel
theorem dX8_put_353 : decode cX8_put 353 = .ok (.aload_n 0, 1) := by decide +kernel
theorem dX8_put_354 : decode cX8_put 354 = .ok (.getfield 147, 3) := by decide +kernel
theorem dX8_put_357 : decode cX8_put 357 = .ok (.i2l, 1) := by decide +kernel
theorem dX8_put_358 : decode cX8_put 358 = .ok (.lsub, 1) := by decide +kernel
theorem dX8_put_359 : decode cX8_put 359 = .ok (.ladd, 1) := by decide +kernel
theorem dX8_put_360 : decode cX8_put 360 = .ok (.lastore, 1) := by decide +kernel
theorem dX8_put_361 : decode cX8_put 361 = .ok (.aload_n 0, 1) := by decide +kernel
theorem dX8_put_362 : decode cX8_put 362 = .ok (.getfield 60, 3) := by decide +kernel
theorem dX8_put_365 : decode cX8_put 365 = .ok (.iconst 2, 1) := by decide +kernel
theorem dX8_put_366 : decode cX8_put 366 = .ok (.aload_n 0, 1) := by decide +kernel
theorem dX8_put_367 : decode cX8_put 367 = .ok (.getfield 147, 3) := by decide +kernel
theorem dX8_put_370 : decode cX8_put 370 = .ok (.i2l, 1) := by decide +kernel
theorem dX8_put_371 : decode cX8_put 371 = .ok (.lastore, 1) := by decide +kernel
theorem dX8_put_372 : decode cX8_put 372 = .ok (.aload_n 0, 1) := by decide +kernel
theorem dX8_put_373 : decode cX8_put 373 = .ok (.dup, 1) := by decide +kernel
theorem dX8_put_374 : decode cX8_put 374 = .ok (.getfield 115, 3) := by decide +kernel
theorem dX8_put_377 : decode cX8_put 377 = .ok (.iconst 1, 1) := by decide +kernel
theorem dX8_put_378 : decode cX8_put 378 = .ok (.iadd, 1) := by decide +kernel
theorem dX8_put_379 : decode cX8_put 379 = .ok (.putfield 115, 3) := by decide +kernel
theorem dX8_put_382 : decode cX8_put 382 = .ok (.aload_n 0, 1) := by decide +kernel
theorem dX8_put_383 : decode cX8_put 383 = .ok (.invokevirtual 197, 3) := by decide +kernel
theorem dX8_put_386 : decode cX8_put 386 = .ok (.return_, 1) := by decide +kernel
theorem dX8_less_0 : decode cX8_less 0 = .ok (.lload_n 0, 1) := by decide +kernel
theorem dX8_less_1 : decode cX8_less 1 = .ok (.lload_n 2, 1) := by decide +kernel
theorem dX8_less_2 : decode cX8_less 2 = .ok (.lcmp, 1) := by decide +kernel
theorem dX8_less_3 : decode cX8_less 3 = .ok (.ifCond .ge 7, 3) := by decide +kernel
theorem dX8_less_6 : decode cX8_less 6 = .ok (.lload_n 0, 1) := by decide +kernel
theorem dX8_less_7 : decode cX8_less 7 = .ok (.goto 4, 3) := by decide +kernel
theorem dX8_less_10 : decode cX8_less 10 = .ok (.lload_n 2, 1) := by decide +kernel
theorem dX8_less_11 : decode cX8_less 11 = .ok (.lreturn, 1) := by decide +kernel
theorem dX8_putInsert_0 : decode cX8_putInsert 0 = .ok (.aload_n 0, 1) := by decide +kernel
theorem dX8_putInsert_1 : decode cX8_putInsert 1 = .ok (.getfield 44, 3) := by decide +kernel
theorem dX8_putInsert_4 : decode cX8_putInsert 4 = .ok (.iconst 0, 1) := by decide +kernel
theorem dX8_putInsert_5 : decode cX8_putInsert 5 = .ok (.iaload, 1) := by decide +kernel
theorem dX8_putInsert_6 : decode cX8_putInsert 6 = .ok (.i2l, 1) := by decide +kernel
theorem dX8_putInsert_7 : decode cX8_putInsert 7 = .ok (.lstore_n 3, 1) := by decide +kernel
theorem dX8_putInsert_8 : decode cX8_putInsert 8 = .ok (.aload_n 0, 1) := by decide +kernel
theorem dX8_putInsert_9 : decode cX8_putInsert 9 = .ok (.getfield 60, 3) := by decide +kernel
theorem dX8_putInsert_12 : decode cX8_putInsert 12 = .ok (.iconst 1, 1) := by decide +kernel
theorem dX8_putInsert_13 : decode cX8_putInsert 13 = .ok (.dup2, 1) := by decide +kernel
theorem dX8_putInsert_14 : decode cX8_putInsert 14 = .ok (.laload, 1) := by decide +kernel
theorem dX8_putInsert_15 : decode cX8_putInsert 15 = .ok (.aload_n 0, 1) := by decide +kernel
theorem dX8_putInsert_16 : decode cX8_putInsert 16 = .ok (.getfield 64, 3) := by decide +kernel
theorem dX8_putInsert_19 : decode cX8_putInsert 19 = .ok (.iload_n 1, 1) := by decide +kernel
theorem dX8_putInsert_20 : decode cX8_putInsert 20 = .ok (.baload, 1) := by decide +kernel
theorem dX8_putInsert_21 : decode cX8_putInsert 21 = .ok (.ifCond .eq 7, 3) := by decide +kernel
theorem dX8_putInsert_24 : decode cX8_putInsert 24 = .ok (.lconst 0, 1) := by decide +kernel
theorem dX8_putInsert_25 : decode cX8_putInsert 25 = .ok (.goto 10, 3) := by decide +kernel
theorem dX8_putInsert_28 : decode cX8_putInsert 28 = .ok (.aload_n 0, 1) := by decide +kernel
theorem dX8_putInsert_29 : decode cX8_putInsert 29 = .ok (.getfield 31, 3) := by decide +kernel
theorem dX8_putInsert_32 : decode cX8_putInsert 32 = .ok (.iload_n 1, 1) := by decide +kernel
theorem dX8_putInsert_33 : decode cX8_putInsert 33 = .ok (.iaload, 1) := by decide +kernel
theorem dX8_putInsert_34 : decode cX8_putInsert 34 = .ok (.i2l, 1) := by decide +kernel
theorem dX8_putInsert_35 : decode cX8_putInsert 35 = .ok (.lsub, 1) := by decide +kernel
theorem dX8_putInsert_36 : decode cX8_putInsert 36 = .ok (.lastore, 1) := by decide +kernel
theorem dX8_putInsert_37 : decode cX8_putInsert 37 = .ok (.aload_n 0, 1) := by decide +kernel
theorem dX8_putInsert_38 : decode cX8_putInsert 38 = .ok (.getfield 64, 3) := by decide +kernel
theorem dX8_putInsert_41 : decode cX8_putInsert 41 = .ok (.iload_n 1, 1) := by decide +kernel
theorem dX8_putInsert_42 : decode cX8_putInsert 42 = .ok (.iconst 1, 1) := by decide +kernel
theorem dX8_putInsert_43 : decode cX8_putInsert 43 = .ok (.bastore, 1) := by decide +kernel
theorem dX8_putInsert_44 : decode cX8_putInsert 44 = .ok (.lconst 0, 1) := by decide +kernel
theorem dX8_putInsert_45 : decode cX8_putInsert 45 = .ok (.lstore 5, 2) := by decide +kernel
theorem dX8_putInsert_47 : decode cX8_putInsert 47 = .ok (.iconst 0, 1) := by decide +kernel
theorem dX8_putInsert_48 : decode cX8_putInsert 48 = .ok (.istore 7, 2) := by decide +kernel
theorem dX8_putInsert_50 : decode cX8_putInsert 50 = .ok (.aload_n 0, 1) := by decide +kernel
theorem dX8_putInsert_51 : decode cX8_putInsert 51 = .ok (.getfield 67, 3) := by decide +kernel
theorem dX8_putInsert_54 : decode cX8_putInsert 54 = .ok (.iload_n 1, 1) := by decide +kernel
theorem dX8_putInsert_55 : decode cX8_putInsert 55 = .ok (.baload, 1) := by decide +kernel
theorem dX8_putInsert_56 : decode cX8_putInsert 56 = .ok (.ifCond .ne 180, 3) := by decide +kernel
theorem dX8_putInsert_59 : decode cX8_putInsert 59 = .ok (.aload_n 0, 1) := by decide +kernel
theorem dX8_putInsert_60 : decode cX8_putInsert 60 = .ok (.getfield 60, 3) := by decide +kernel
theorem dX8_putInsert_63 : decode cX8_putInsert 63 = .ok (.iconst 1, 1) := by decide +kernel
theorem dX8_putInsert_64 : decode cX8_putInsert 64 = .ok (.laload, 1) := by decide +kernel
theorem dX8_putInsert_65 : decode cX8_putInsert 65 = .ok (.aload_n 0, 1) := by decide +kernel
theorem dX8_putInsert_66 : decode cX8_putInsert 66 = .ok (.getfield 60, 3) := by decide +kernel
theorem dX8_putInsert_69 : decode cX8_putInsert 69 = .ok (.iconst 0, 1) := by decide +kernel
theorem dX8_putInsert_70 : decode cX8_putInsert 70 = .ok (.laload, 1) := by decide +kernel
theorem dX8_putInsert_71 : decode cX8_putInsert 71 = .ok (.lsub, 1) := by decide +kernel
theorem dX8_putInsert_72 : decode cX8_putInsert 72 = .ok (.aload_n 0, 1) := by decide +kernel
theorem dX8_putInsert_73 : decode cX8_putInsert 73 = .ok (.getfield 60, 3) := by decide +kernel
theorem dX8_putInsert_76 : decode cX8_putInsert 76 = .ok (.iconst 2, 1) := by decide +kernel
theorem dX8_putInsert_77 : decode cX8_putInsert 77 = .ok (.laload, 1) := by decide +kernel
theorem dX8_putInsert_78 : decode cX8_putInsert 78 = .ok (.lsub, 1) := by decide +kernel
theorem dX8_putInsert_79 : decode cX8_putInsert 79 = .ok (.lstore 8, 2) := by decide +kernel
theorem dX8_putInsert_81 : decode cX8_putInsert 81 = .ok (.lload_n 3, 1) := by decide +kernel
theorem dX8_putInsert_82 : decode cX8_putInsert 82 = .ok (.aload_n 0, 1) := by decide +kernel
theorem dX8_putInsert_83 : decode cX8_putInsert 83 = .ok (.getfield 28, 3) := by decide +kernel
theorem dX8_putInsert_86 : decode cX8_putInsert 86 = .ok (.iload_n 1, 1) := by decide +kernel
theorem dX8_putInsert_87 : decode cX8_putInsert 87 = .ok (.iaload, 1) := by decide +kernel
theorem dX8_putInsert_88 : decode cX8_putInsert 88 = .ok (.i2l, 1) := by decide +kernel
theorem dX8_putInsert_89 : decode cX8_putInsert 89 = .ok (.lmul, 1) := by decide +kernel
theorem dX8_putInsert_90 : decode cX8_putInsert 90 = .ok (.ldc2_w 200, 3) := by decide +kernel
theorem dX8_putInsert_93 : decode cX8_putInsert 93 = .ok (.ldiv, 1) := by decide +kernel
theorem dX8_putInsert_94 : decode cX8_putInsert 94 = .ok (.lstore 10, 2) := by decide +kernel
theorem dX8_putInsert_96 : decode cX8_putInsert 96 = .ok (.lload 10, 2) := by decide +kernel
theorem dX8_putInsert_98 : decode cX8_putInsert 98 = .ok (.lload 8, 2) := by decide +kernel
theorem dX8_putInsert_100 : decode cX8_putInsert 100 = .ok (.aload_n 0, 1) := by decide +kernel
theorem dX8_putInsert_101 : decode cX8_putInsert 101 = .ok (.getfield 60, 3) := by decide +kernel
theorem dX8_putInsert_104 : decode cX8_putInsert 104 = .ok (.bipush 7, 2) := by decide +kernel
theorem dX8_putInsert_106 : decode cX8_putInsert 106 = .ok (.laload, 1) := by decide +kernel
theorem dX8_putInsert_107 : decode cX8_putInsert 107 = .ok (.ladd, 1) := by decide +kernel
theorem dX8_putInsert_108 : decode cX8_putInsert 108 = .ok (.lcmp, 1) := by decide +kernel
theorem dX8_putInsert_109 : decode cX8_putInsert 109 = .ok (.ifCond .le 10, 3) := by decide +kernel
theorem dX8_putInsert_112 : decode cX8_putInsert 112 = .ok (.lload 10, 2) := by decide +kernel
theorem dX8_putInsert_114 : decode cX8_putInsert 114 = .ok (.lconst 0, 1) := by decide +kernel
theorem dX8_putInsert_115 : decode cX8_putInsert 115 = .ok (.lcmp, 1) := by decide +kernel
theorem dX8_putInsert_116 : decode cX8_putInsert 116 = .ok (.ifCond .ne 29, 3) := by decide +kernel
theorem dX8_putInsert_119 : decode cX8_putInsert 119 = .ok (.aload_n 0, 1) := by decide +kernel
theorem dX8_putInsert_120 : decode cX8_putInsert 120 = .ok (.getfield 60, 3) := by decide +kernel
theorem dX8_putInsert_123 : decode cX8_putInsert 123 = .ok (.bipush 8, 2) := by decide +kernel
theorem dX8_putInsert_125 : decode cX8_putInsert 125 = .ok (.iload_n 1, 1) := by decide +kernel
theorem dX8_putInsert_126 : decode cX8_putInsert 126 = .ok (.iadd, 1) := by decide +kernel
theorem dX8_putInsert_127 : decode cX8_putInsert 127 = .ok (.laload, 1) := by decide +kernel
theorem dX8_putInsert_128 : decode cX8_putInsert 128 = .ok (.lload_n 3, 1) := by decide +kernel
theorem dX8_putInsert_129 : decode cX8_putInsert 129 = .ok (.ladd, 1) := by decide +kernel
theorem dX8_putInsert_130 : decode cX8_putInsert 130 = .ok (.aload_n 0, 1) := by decide +kernel
theorem dX8_putInsert_131 : decode cX8_putInsert 131 = .ok (.getfield 25, 3) := by decide +kernel
theorem dX8_putInsert_134 : decode cX8_putInsert 134 = .ok (.iload_n 1, 1) := by decide +kernel
theorem dX8_putInsert_135 : decode cX8_putInsert 135 = .ok (.iaload, 1) := by decide +kernel
theorem dX8_putInsert_136 : decode cX8_putInsert 136 = .ok (.i2l, 1) := by decide +kernel
theorem dX8_putInsert_137 : decode cX8_putInsert 137 = .ok (.lcmp, 1) := by decide +kernel
theorem dX8_putInsert_138 : decode cX8_putInsert 138 = .ok (.ifCond .gt 7, 3) := by decide +kernel
theorem dX8_putInsert_141 : decode cX8_putInsert 141 = .ok (.iconst 1, 1) := by decide +kernel
theorem dX8_putInsert_142 : decode cX8_putInsert 142 = .ok (.goto 4, 3) := by decide +kernel
theorem dX8_putInsert_145 : decode cX8_putInsert 145 = .ok (.iconst 0, 1) := by decide +kernel
theorem dX8_putInsert_146 : decode cX8_putInsert 146 = .ok (.istore 7, 2) := by decide +kernel
theorem dX8_putInsert_148 : decode cX8_putInsert 148 = .ok (.lload_n 3, 1) := by decide +kernel
theorem dX8_putInsert_149 : decode cX8_putInsert 149 = .ok (.lconst 1, 1) := by decide +kernel
theorem dX8_putInsert_150 : decode cX8_putInsert 150 = .ok (.lsub, 1) := by decide +kernel
theorem dX8_putInsert_151 : decode cX8_putInsert 151 = .ok (.aload_n 0, 1) := by decide +kernel
theorem dX8_putInsert_152 : decode cX8_putInsert 152 = .ok (.getfield 25, 3) := by decide +kernel
theorem dX8_putInsert_155 : decode cX8_putInsert 155 = .ok (.iload_n 1, 1) := by decide +kernel
theorem dX8_putInsert_156 : decode cX8_putInsert 156 = .ok (.iaload, 1) := by decide +kernel
theorem dX8_putInsert_157 : decode cX8_putInsert 157 = .ok (.i2l, 1) := by decide +kernel
theorem dX8_putInsert_158 : decode cX8_putInsert 158 = .ok (.aload_n 0, 1) := by decide +kernel
theorem dX8_putInsert_159 : decode cX8_putInsert 159 = .ok (.getfield 60, 3) := by decide +kernel
theorem dX8_putInsert_162 : decode cX8_putInsert 162 = .ok (.bipush 8, 2) := by decide +kernel
theorem dX8_putInsert_164 : decode cX8_putInsert 164 = .ok (.iload_n 1, 1) := by decide +kernel
theorem dX8_putInsert_165 : decode cX8_putInsert 165 = .ok (.iadd, 1) := by decide +kernel
theorem dX8_putInsert_166 : decode cX8_putInsert 166 = .ok (.laload, 1) := by decide +kernel
theorem dX8_putInsert_167 : decode cX8_putInsert 167 = .ok (.lsub, 1) := by decide +kernel
theorem dX8_putInsert_168 : decode cX8_putInsert 168 = .ok (.invokestatic 202, 3) := by decide +kernel
theorem dX8_putInsert_171 : decode cX8_putInsert 171 = .ok (.lstore 12, 2) := by decide +kernel
theorem dX8_putInsert_173 : decode cX8_putInsert 173 = .ok (.aload_n 0, 1) := by decide +kernel
theorem dX8_putInsert_174 : decode cX8_putInsert 174 = .ok (.getfield 28, 3) := by decide +kernel
theorem dX8_putInsert_177 : decode cX8_putInsert 177 = .ok (.iload_n 1, 1) := by decide +kernel
theorem dX8_putInsert_178 : decode cX8_putInsert 178 = .ok (.iaload, 1) := by decide +kernel
theorem dX8_putInsert_179 : decode cX8_putInsert 179 = .ok (.ifCond .ne 8, 3) := by decide +kernel
theorem dX8_putInsert_182 : decode cX8_putInsert 182 = .ok (.lload 12, 2) := by decide +kernel
theorem dX8_putInsert_184 : decode cX8_putInsert 184 = .ok (.goto 22, 3) := by decide +kernel
theorem dX8_putInsert_187 : decode cX8_putInsert 187 = .ok (.lload 12, 2) := by decide +kernel
theorem dX8_putInsert_189 : decode cX8_putInsert 189 = .ok (.lload 8, 2) := by decide +kernel
theorem dX8_putInsert_191 : decode cX8_putInsert 191 = .ok (.ldc2_w 200, 3) := by decide +kernel
theorem dX8_putInsert_194 : decode cX8_putInsert 194 = .ok (.lmul, 1) := by decide +kernel
theorem dX8_putInsert_195 : decode cX8_putInsert 195 = .ok (.aload_n 0, 1) := by decide +kernel
theorem dX8_putInsert_196 : decode cX8_putInsert 196 = .ok (.getfield 28, 3) := by decide +kernel
theorem dX8_putInsert_199 : decode cX8_putInsert 199 = .ok (.iload_n 1, 1) := by decide +kernel
theorem dX8_putInsert_200 : decode cX8_putInsert 200 = .ok (.iaload, 1) := by decide +kernel
theorem dX8_putInsert_201 : decode cX8_putInsert 201 = .ok (.i2l, 1) := by decide +kernel
theorem dX8_putInsert_202 : decode cX8_putInsert 202 = .ok (.ldiv, 1) := by decide +kernel
theorem dX8_putInsert_203 : decode cX8_putInsert 203 = .ok (.invokestatic 202, 3) := by decide +kernel
theorem dX8_putInsert_206 : decode cX8_putInsert 206 = .ok (.lstore 12, 2) := by decide +kernel
theorem dX8_putInsert_208 : decode cX8_putInsert 208 = .ok (.iload 7, 2) := by decide +kernel
theorem dX8_putInsert_210 : decode cX8_putInsert 210 = .ok (.ifCond .eq 7, 3) := by decide +kernel
