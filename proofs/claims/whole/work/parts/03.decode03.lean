theorem dX7_badnessOf_18 : decode cX7_badnessOf 18 = .ok (.lload_n 0, 1) := by decide +kernel
theorem dX7_badnessOf_19 : decode cX7_badnessOf 19 = .ok (.lstore 4, 2) := by decide +kernel
theorem dX7_badnessOf_21 : decode cX7_badnessOf 21 = .ok (.lload_n 0, 1) := by decide +kernel
theorem dX7_badnessOf_22 : decode cX7_badnessOf 22 = .ok (.ldc2_w 273, 3) := by decide +kernel
theorem dX7_badnessOf_25 : decode cX7_badnessOf 25 = .ok (.lcmp, 1) := by decide +kernel
theorem dX7_badnessOf_26 : decode cX7_badnessOf 26 = .ok (.ifCond .gt 15, 3) := by decide +kernel
theorem dX7_badnessOf_29 : decode cX7_badnessOf 29 = .ok (.ldc2_w 275, 3) := by decide +kernel
theorem dX7_badnessOf_32 : decode cX7_badnessOf 32 = .ok (.lload_n 0, 1) := by decide +kernel
theorem dX7_badnessOf_33 : decode cX7_badnessOf 33 = .ok (.lmul, 1) := by decide +kernel
theorem dX7_badnessOf_34 : decode cX7_badnessOf 34 = .ok (.lload_n 2, 1) := by decide +kernel
theorem dX7_badnessOf_35 : decode cX7_badnessOf 35 = .ok (.ldiv, 1) := by decide +kernel
theorem dX7_badnessOf_36 : decode cX7_badnessOf 36 = .ok (.lstore 4, 2) := by decide +kernel
theorem dX7_badnessOf_38 : decode cX7_badnessOf 38 = .ok (.goto 20, 3) := by decide +kernel
theorem dX7_badnessOf_41 : decode cX7_badnessOf 41 = .ok (.lload_n 2, 1) := by decide +kernel
theorem dX7_badnessOf_42 : decode cX7_badnessOf 42 = .ok (.ldc2_w 277, 3) := by decide +kernel
theorem dX7_badnessOf_45 : decode cX7_badnessOf 45 = .ok (.lcmp, 1) := by decide +kernel
theorem dX7_badnessOf_46 : decode cX7_badnessOf 46 = .ok (.ifCond .lt 12, 3) := by decide +kernel
theorem dX7_badnessOf_49 : decode cX7_badnessOf 49 = .ok (.lload_n 0, 1) := by decide +kernel
theorem dX7_badnessOf_50 : decode cX7_badnessOf 50 = .ok (.lload_n 2, 1) := by decide +kernel
theorem dX7_badnessOf_51 : decode cX7_badnessOf 51 = .ok (.ldc2_w 275, 3) := by decide +kernel
theorem dX7_badnessOf_54 : decode cX7_badnessOf 54 = .ok (.ldiv, 1) := by decide +kernel
theorem dX7_badnessOf_55 : decode cX7_badnessOf 55 = .ok (.ldiv, 1) := by decide +kernel
theorem dX7_badnessOf_56 : decode cX7_badnessOf 56 = .ok (.lstore 4, 2) := by decide +kernel
theorem dX7_badnessOf_58 : decode cX7_badnessOf 58 = .ok (.lload 4, 2) := by decide +kernel
theorem dX7_badnessOf_60 : decode cX7_badnessOf 60 = .ok (.ldc2_w 279, 3) := by decide +kernel
theorem dX7_badnessOf_63 : decode cX7_badnessOf 63 = .ok (.lcmp, 1) := by decide +kernel
theorem dX7_badnessOf_64 : decode cX7_badnessOf 64 = .ok (.ifCond .le 9, 3) := by decide +kernel
theorem dX7_badnessOf_67 : decode cX7_badnessOf 67 = .ok (.sipush 10000, 3) := by decide +kernel
theorem dX7_badnessOf_70 : decode cX7_badnessOf 70 = .ok (.goto 20, 3) := by decide +kernel
theorem dX7_badnessOf_73 : decode cX7_badnessOf 73 = .ok (.lload 4, 2) := by decide +kernel
theorem dX7_badnessOf_75 : decode cX7_badnessOf 75 = .ok (.lload 4, 2) := by decide +kernel
theorem dX7_badnessOf_77 : decode cX7_badnessOf 77 = .ok (.lmul, 1) := by decide +kernel
theorem dX7_badnessOf_78 : decode cX7_badnessOf 78 = .ok (.lload 4, 2) := by decide +kernel
theorem dX7_badnessOf_80 : decode cX7_badnessOf 80 = .ok (.lmul, 1) := by decide +kernel
theorem dX7_badnessOf_81 : decode cX7_badnessOf 81 = .ok (.ldc2_w 281, 3) := by decide +kernel
theorem dX7_badnessOf_84 : decode cX7_badnessOf 84 = .ok (.ladd, 1) := by decide +kernel
theorem dX7_badnessOf_85 : decode cX7_badnessOf 85 = .ok (.ldc2_w 283, 3) := by decide +kernel
theorem dX7_badnessOf_88 : decode cX7_badnessOf 88 = .ok (.ldiv, 1) := by decide +kernel
theorem dX7_badnessOf_89 : decode cX7_badnessOf 89 = .ok (.l2i, 1) := by decide +kernel
theorem dX7_badnessOf_90 : decode cX7_badnessOf 90 = .ok (.ireturn, 1) := by decide +kernel
theorem dX8_init_0 : decode cX8_init 0 = .ok (.aload_n 0, 1) := by decide +kernel
theorem dX8_init_1 : decode cX8_init 1 = .ok (.invokespecial 1, 3) := by decide +kernel
theorem dX8_init_4 : decode cX8_init 4 = .ok (.aload_n 0, 1) := by decide +kernel
theorem dX8_init_5 : decode cX8_init 5 = .ok (.sipush 400, 3) := by decide +kernel
theorem dX8_init_8 : decode cX8_init 8 = .ok (.newarray .int, 2) := by decide +kernel
theorem dX8_init_10 : decode cX8_init 10 = .ok (.putfield 7, 3) := by decide +kernel
theorem dX8_init_13 : decode cX8_init 13 = .ok (.aload_n 0, 1) := by decide +kernel
theorem dX8_init_14 : decode cX8_init 14 = .ok (.sipush 400, 3) := by decide +kernel
theorem dX8_init_17 : decode cX8_init 17 = .ok (.newarray .int, 2) := by decide +kernel
theorem dX8_init_19 : decode cX8_init 19 = .ok (.putfield 13, 3) := by decide +kernel
theorem dX8_init_22 : decode cX8_init 22 = .ok (.aload_n 0, 1) := by decide +kernel
theorem dX8_init_23 : decode cX8_init 23 = .ok (.sipush 400, 3) := by decide +kernel
theorem dX8_init_26 : decode cX8_init 26 = .ok (.newarray .int, 2) := by decide +kernel
theorem dX8_init_28 : decode cX8_init 28 = .ok (.putfield 16, 3) := by decide +kernel
theorem dX8_init_31 : decode cX8_init 31 = .ok (.aload_n 0, 1) := by decide +kernel
theorem dX8_init_32 : decode cX8_init 32 = .ok (.sipush 400, 3) := by decide +kernel
theorem dX8_init_35 : decode cX8_init 35 = .ok (.newarray .int, 2) := by decide +kernel
theorem dX8_init_37 : decode cX8_init 37 = .ok (.putfield 19, 3) := by decide +kernel
theorem dX8_init_40 : decode cX8_init 40 = .ok (.aload_n 0, 1) := by decide +kernel
theorem dX8_init_41 : decode cX8_init 41 = .ok (.sipush 400, 3) := by decide +kernel
theorem dX8_init_44 : decode cX8_init 44 = .ok (.newarray .int, 2) := by decide +kernel
theorem dX8_init_46 : decode cX8_init 46 = .ok (.putfield 22, 3) := by decide +kernel
theorem dX8_init_49 : decode cX8_init 49 = .ok (.aload_n 0, 1) := by decide +kernel
theorem dX8_init_50 : decode cX8_init 50 = .ok (.iconst 4, 1) := by decide +kernel
theorem dX8_init_51 : decode cX8_init 51 = .ok (.newarray .int, 2) := by decide +kernel
theorem dX8_init_53 : decode cX8_init 53 = .ok (.putfield 25, 3) := by decide +kernel
theorem dX8_init_56 : decode cX8_init 56 = .ok (.aload_n 0, 1) := by decide +kernel
theorem dX8_init_57 : decode cX8_init 57 = .ok (.iconst 4, 1) := by decide +kernel
theorem dX8_init_58 : decode cX8_init 58 = .ok (.newarray .int, 2) := by decide +kernel
theorem dX8_init_60 : decode cX8_init 60 = .ok (.putfield 28, 3) := by decide +kernel
theorem dX8_init_63 : decode cX8_init 63 = .ok (.aload_n 0, 1) := by decide +kernel
theorem dX8_init_64 : decode cX8_init 64 = .ok (.iconst 4, 1) := by decide +kernel
theorem dX8_init_65 : decode cX8_init 65 = .ok (.newarray .int, 2) := by decide +kernel
theorem dX8_init_67 : decode cX8_init 67 = .ok (.putfield 31, 3) := by decide +kernel
theorem dX8_init_70 : decode cX8_init 70 = .ok (.aload_n 0, 1) := by decide +kernel
theorem dX8_init_71 : decode cX8_init 71 = .ok (.iconst 4, 1) := by decide +kernel
theorem dX8_init_72 : decode cX8_init 72 = .ok (.newarray .int, 2) := by decide +kernel
theorem dX8_init_74 : decode cX8_init 74 = .ok (.putfield 34, 3) := by decide +kernel
theorem dX8_init_77 : decode cX8_init 77 = .ok (.aload_n 0, 1) := by decide +kernel
theorem dX8_init_78 : decode cX8_init 78 = .ok (.sipush 1000, 3) := by decide +kernel
theorem dX8_init_81 : decode cX8_init 81 = .ok (.putfield 37, 3) := by decide +kernel
theorem dX8_init_84 : decode cX8_init 84 = .ok (.aload_n 0, 1) := by decide +kernel
theorem dX8_init_85 : decode cX8_init 85 = .ok (.sipush 900, 3) := by decide +kernel
theorem dX8_init_88 : decode cX8_init 88 = .ok (.newarray .int, 2) := by decide +kernel
theorem dX8_init_90 : decode cX8_init 90 = .ok (.putfield 41, 3) := by decide +kernel
theorem dX8_init_93 : decode cX8_init 93 = .ok (.aload_n 0, 1) := by decide +kernel
theorem dX8_init_94 : decode cX8_init 94 = .ok (.sipush 900, 3) := by decide +kernel
theorem dX8_init_97 : decode cX8_init 97 = .ok (.newarray .int, 2) := by decide +kernel
theorem dX8_init_99 : decode cX8_init 99 = .ok (.putfield 44, 3) := by decide +kernel
theorem dX8_init_102 : decode cX8_init 102 = .ok (.aload_n 0, 1) := by decide +kernel
theorem dX8_init_103 : decode cX8_init 103 = .ok (.sipush 900, 3) := by decide +kernel
theorem dX8_init_106 : decode cX8_init 106 = .ok (.newarray .int, 2) := by decide +kernel
theorem dX8_init_108 : decode cX8_init 108 = .ok (.putfield 47, 3) := by decide +kernel
theorem dX8_init_111 : decode cX8_init 111 = .ok (.aload_n 0, 1) := by decide +kernel
theorem dX8_init_112 : decode cX8_init 112 = .ok (.sipush 900, 3) := by decide +kernel
theorem dX8_init_115 : decode cX8_init 115 = .ok (.newarray .int, 2) := by decide +kernel
theorem dX8_init_117 : decode cX8_init 117 = .ok (.putfield 50, 3) := by decide +kernel
theorem dX8_init_120 : decode cX8_init 120 = .ok (.aload_n 0, 1) := by decide +kernel
theorem dX8_init_121 : decode cX8_init 121 = .ok (.sipush 900, 3) := by decide +kernel
theorem dX8_init_124 : decode cX8_init 124 = .ok (.newarray .int, 2) := by decide +kernel
theorem dX8_init_126 : decode cX8_init 126 = .ok (.putfield 53, 3) := by decide +kernel
theorem dX8_init_129 : decode cX8_init 129 = .ok (.aload_n 0, 1) := by decide +kernel
theorem dX8_init_130 : decode cX8_init 130 = .ok (.sipush 900, 3) := by decide +kernel
theorem dX8_init_133 : decode cX8_init 133 = .ok (.newarray .boolean, 2) := by decide +kernel
theorem dX8_init_135 : decode cX8_init 135 = .ok (.putfield 56, 3) := by decide +kernel
theorem dX8_init_138 : decode cX8_init 138 = .ok (.aload_n 0, 1) := by decide +kernel
theorem dX8_init_139 : decode cX8_init 139 = .ok (.bipush 24, 2) := by decide +kernel
theorem dX8_init_141 : decode cX8_init 141 = .ok (.newarray .long, 2) := by decide +kernel
theorem dX8_init_143 : decode cX8_init 143 = .ok (.putfield 60, 3) := by decide +kernel
theorem dX8_init_146 : decode cX8_init 146 = .ok (.aload_n 0, 1) := by decide +kernel
theorem dX8_init_147 : decode cX8_init 147 = .ok (.iconst 4, 1) := by decide +kernel
theorem dX8_init_148 : decode cX8_init 148 = .ok (.newarray .boolean, 2) := by decide +kernel
theorem dX8_init_150 : decode cX8_init 150 = .ok (.putfield 64, 3) := by decide +kernel
theorem dX8_init_153 : decode cX8_init 153 = .ok (.aload_n 0, 1) := by decide +kernel
theorem dX8_init_154 : decode cX8_init 154 = .ok (.iconst 4, 1) := by decide +kernel
theorem dX8_init_155 : decode cX8_init 155 = .ok (.newarray .boolean, 2) := by decide +kernel
theorem dX8_init_157 : decode cX8_init 157 = .ok (.putfield 67, 3) := by decide +kernel
theorem dX8_init_160 : decode cX8_init 160 = .ok (.aload_n 0, 1) := by decide +kernel
theorem dX8_init_161 : decode cX8_init 161 = .ok (.bipush 61, 2) := by decide +kernel
theorem dX8_init_163 : decode cX8_init 163 = .ok (.newarray .int, 2) := by decide +kernel
theorem dX8_init_165 : decode cX8_init 165 = .ok (.putfield 70, 3) := by decide +kernel
theorem dX8_init_168 : decode cX8_init 168 = .ok (.aload_n 0, 1) := by decide +kernel
theorem dX8_init_169 : decode cX8_init 169 = .ok (.sipush 25000, 3) := by decide +kernel
theorem dX8_init_172 : decode cX8_init 172 = .ok (.newarray .int, 2) := by decide +kernel
theorem dX8_init_174 : decode cX8_init 174 = .ok (.putfield 73, 3) := by decide +kernel
theorem dX8_init_177 : decode cX8_init 177 = .ok (.aload_n 0, 1) := by decide +kernel
theorem dX8_init_178 : decode cX8_init 178 = .ok (.sipush 25000, 3) := by decide +kernel
theorem dX8_init_181 : decode cX8_init 181 = .ok (.newarray .int, 2) := by decide +kernel
theorem dX8_init_183 : decode cX8_init 183 = .ok (.putfield 76, 3) := by decide +kernel
theorem dX8_init_186 : decode cX8_init 186 = .ok (.aload_n 0, 1) := by decide +kernel
theorem dX8_init_187 : decode cX8_init 187 = .ok (.sipush 720, 3) := by decide +kernel
theorem dX8_init_190 : decode cX8_init 190 = .ok (.newarray .long, 2) := by decide +kernel
theorem dX8_init_192 : decode cX8_init 192 = .ok (.putfield 79, 3) := by decide +kernel
theorem dX8_init_195 : decode cX8_init 195 = .ok (.aload_n 0, 1) := by decide +kernel
theorem dX8_init_196 : decode cX8_init 196 = .ok (.bipush 60, 2) := by decide +kernel
theorem dX8_init_198 : decode cX8_init 198 = .ok (.newarray .long, 2) := by decide +kernel
theorem dX8_init_200 : decode cX8_init 200 = .ok (.putfield 82, 3) := by decide +kernel
theorem dX8_init_203 : decode cX8_init 203 = .ok (.aload_n 0, 1) := by decide +kernel
theorem dX8_init_204 : decode cX8_init 204 = .ok (.bipush 60, 2) := by decide +kernel
theorem dX8_init_206 : decode cX8_init 206 = .ok (.newarray .int, 2) := by decide +kernel
theorem dX8_init_208 : decode cX8_init 208 = .ok (.putfield 85, 3) := by decide +kernel
theorem dX8_init_211 : decode cX8_init 211 = .ok (.aload_n 0, 1) := by decide +kernel
theorem dX8_init_212 : decode cX8_init 212 = .ok (.sipush 180, 3) := by decide +kernel
theorem dX8_init_215 : decode cX8_init 215 = .ok (.newarray .int, 2) := by decide +kernel
theorem dX8_init_217 : decode cX8_init 217 = .ok (.putfield 88, 3) := by decide +kernel
theorem dX8_init_220 : decode cX8_init 220 = .ok (.aload_n 0, 1) := by decide +kernel
theorem dX8_init_221 : decode cX8_init 221 = .ok (.sipush 900, 3) := by decide +kernel
theorem dX8_init_224 : decode cX8_init 224 = .ok (.newarray .int, 2) := by decide +kernel
theorem dX8_init_226 : decode cX8_init 226 = .ok (.putfield 91, 3) := by decide +kernel
theorem dX8_init_229 : decode cX8_init 229 = .ok (.aload_n 0, 1) := by decide +kernel
theorem dX8_init_230 : decode cX8_init 230 = .ok (.sipush 900, 3) := by decide +kernel
theorem dX8_init_233 : decode cX8_init 233 = .ok (.newarray .int, 2) := by decide +kernel
theorem dX8_init_235 : decode cX8_init 235 = .ok (.putfield 94, 3) := by decide +kernel
theorem dX8_init_238 : decode cX8_init 238 = .ok (.aload_n 0, 1) := by decide +kernel
theorem dX8_init_239 : decode cX8_init 239 = .ok (.invokevirtual 97, 3) := by decide +kernel
theorem dX8_init_242 : decode cX8_init 242 = .ok (.return_, 1) := by decide +kernel
theorem dX8_thrown_0 : decode cX8_thrown 0 = .ok (.aload_n 0, 1) := by decide +kernel
theorem dX8_thrown_1 : decode cX8_thrown 1 = .ok (.getfield 100, 3) := by decide +kernel
theorem dX8_thrown_4 : decode cX8_thrown 4 = .ok (.ireturn, 1) := by decide +kernel
theorem dX8_in_0 : decode cX8_in 0 = .ok (.lload_n 0, 1) := by decide +kernel
theorem dX8_in_1 : decode cX8_in 1 = .ok (.lload_n 2, 1) := by decide +kernel
theorem dX8_in_2 : decode cX8_in 2 = .ok (.lcmp, 1) := by decide +kernel
theorem dX8_in_3 : decode cX8_in 3 = .ok (.ifCond .lt 14, 3) := by decide +kernel
theorem dX8_in_6 : decode cX8_in 6 = .ok (.lload_n 0, 1) := by decide +kernel
theorem dX8_in_7 : decode cX8_in 7 = .ok (.lload 4, 2) := by decide +kernel
theorem dX8_in_9 : decode cX8_in 9 = .ok (.lcmp, 1) := by decide +kernel
theorem dX8_in_10 : decode cX8_in 10 = .ok (.ifCond .gt 7, 3) := by decide +kernel
theorem dX8_in_13 : decode cX8_in 13 = .ok (.iconst 1, 1) := by decide +kernel
theorem dX8_in_14 : decode cX8_in 14 = .ok (.goto 4, 3) := by decide +kernel
theorem dX8_in_17 : decode cX8_in 17 = .ok (.iconst 0, 1) := by decide +kernel
theorem dX8_in_18 : decode cX8_in 18 = .ok (.ireturn, 1) := by decide +kernel
theorem dX8_set_0 : decode cX8_set 0 = .ok (.aload_n 0, 1) := by decide +kernel
theorem dX8_set_1 : decode cX8_set 1 = .ok (.iconst 0, 1) := by decide +kernel
theorem dX8_set_2 : decode cX8_set 2 = .ok (.putfield 100, 3) := by decide +kernel
theorem dX8_set_5 : decode cX8_set 5 = .ok (.iload_n 1, 1) := by decide +kernel
theorem dX8_set_6 : decode cX8_set 6 = .ok (.i2l, 1) := by decide +kernel
theorem dX8_set_7 : decode cX8_set 7 = .ok (.lconst 0, 1) := by decide +kernel
theorem dX8_set_8 : decode cX8_set 8 = .ok (.ldc2_w 103, 3) := by decide +kernel
theorem dX8_set_11 : decode cX8_set 11 = .ok (.invokestatic 105, 3) := by decide +kernel
theorem dX8_set_14 : decode cX8_set 14 = .ok (.ifCond .eq 27, 3) := by decide +kernel
theorem dX8_set_17 : decode cX8_set 17 = .ok (.iload_n 2, 1) := by decide +kernel
theorem dX8_set_18 : decode cX8_set 18 = .ok (.i2l, 1) := by decide +kernel
theorem dX8_set_19 : decode cX8_set 19 = .ok (.lconst 0, 1) := by decide +kernel
theorem dX8_set_20 : decode cX8_set 20 = .ok (.ldc2_w 103, 3) := by decide +kernel
theorem dX8_set_23 : decode cX8_set 23 = .ok (.invokestatic 105, 3) := by decide +kernel
theorem dX8_set_26 : decode cX8_set 26 = .ok (.ifCond .eq 15, 3) := by decide +kernel
theorem dX8_set_29 : decode cX8_set 29 = .ok (.iload_n 3, 1) := by decide +kernel
theorem dX8_set_30 : decode cX8_set 30 = .ok (.i2l, 1) := by decide +kernel
theorem dX8_set_31 : decode cX8_set 31 = .ok (.lconst 0, 1) := by decide +kernel
theorem dX8_set_32 : decode cX8_set 32 = .ok (.ldc2_w 103, 3) := by decide +kernel
theorem dX8_set_35 : decode cX8_set 35 = .ok (.invokestatic 105, 3) := by decide +kernel
theorem dX8_set_38 : decode cX8_set 38 = .ok (.ifCond .ne 6, 3) := by decide +kernel
theorem dX8_set_41 : decode cX8_set 41 = .ok (.bipush (-2), 2) := by decide +kernel
theorem dX8_set_43 : decode cX8_set 43 = .ok (.ireturn, 1) := by decide +kernel
theorem dX8_set_44 : decode cX8_set 44 = .ok (.aload_n 0, 1) := by decide +kernel
theorem dX8_set_45 : decode cX8_set 45 = .ok (.iload_n 1, 1) := by decide +kernel
theorem dX8_set_46 : decode cX8_set 46 = .ok (.putfield 37, 3) := by decide +kernel
theorem dX8_set_49 : decode cX8_set 49 = .ok (.aload_n 0, 1) := by decide +kernel
theorem dX8_set_50 : decode cX8_set 50 = .ok (.iload_n 2, 1) := by decide +kernel
theorem dX8_set_51 : decode cX8_set 51 = .ok (.putfield 109, 3) := by decide +kernel
theorem dX8_set_54 : decode cX8_set 54 = .ok (.aload_n 0, 1) := by decide +kernel
theorem dX8_set_55 : decode cX8_set 55 = .ok (.iload_n 3, 1) := by decide +kernel
theorem dX8_set_56 : decode cX8_set 56 = .ok (.putfield 112, 3) := by decide +kernel
theorem dX8_set_59 : decode cX8_set 59 = .ok (.aload_n 0, 1) := by decide +kernel
theorem dX8_set_60 : decode cX8_set 60 = .ok (.getfield 115, 3) := by decide +kernel
theorem dX8_set_63 : decode cX8_set 63 = .ok (.ifCond .ne 7, 3) := by decide +kernel
theorem dX8_set_66 : decode cX8_set 66 = .ok (.aload_n 0, 1) := by decide +kernel
theorem dX8_set_67 : decode cX8_set 67 = .ok (.invokevirtual 97, 3) := by decide +kernel
theorem dX8_set_70 : decode cX8_set 70 = .ok (.iconst 1, 1) := by decide +kernel
theorem dX8_set_71 : decode cX8_set 71 = .ok (.ireturn, 1) := by decide +kernel
theorem dX8_cls_0 : decode cX8_cls 0 = .ok (.aload_n 0, 1) := by decide +kernel
theorem dX8_cls_1 : decode cX8_cls 1 = .ok (.iconst 0, 1) := by decide +kernel
theorem dX8_cls_2 : decode cX8_cls 2 = .ok (.putfield 100, 3) := by decide +kernel
theorem dX8_cls_5 : decode cX8_cls 5 = .ok (.iload_n 1, 1) := by decide +kernel
theorem dX8_cls_6 : decode cX8_cls 6 = .ok (.i2l, 1) := by decide +kernel
theorem dX8_cls_7 : decode cX8_cls 7 = .ok (.lconst 0, 1) := by decide +kernel
theorem dX8_cls_8 : decode cX8_cls 8 = .ok (.ldc2_w 103, 3) := by decide +kernel
theorem dX8_cls_11 : decode cX8_cls 11 = .ok (.invokestatic 105, 3) := by decide +kernel
theorem dX8_cls_14 : decode cX8_cls 14 = .ok (.ifCond .eq 40, 3) := by decide +kernel
theorem dX8_cls_17 : decode cX8_cls 17 = .ok (.iload_n 2, 1) := by decide +kernel
theorem dX8_cls_18 : decode cX8_cls 18 = .ok (.i2l, 1) := by decide +kernel
theorem dX8_cls_19 : decode cX8_cls 19 = .ok (.lconst 0, 1) := by decide +kernel
theorem dX8_cls_20 : decode cX8_cls 20 = .ok (.ldc2_w 118, 3) := by decide +kernel
theorem dX8_cls_23 : decode cX8_cls 23 = .ok (.invokestatic 105, 3) := by decide +kernel
theorem dX8_cls_26 : decode cX8_cls 26 = .ok (.ifCond .eq 28, 3) := by decide +kernel
theorem dX8_cls_29 : decode cX8_cls 29 = .ok (.iload_n 3, 1) := by decide +kernel
theorem dX8_cls_30 : decode cX8_cls 30 = .ok (.i2l, 1) := by decide +kernel
theorem dX8_cls_31 : decode cX8_cls 31 = .ok (.lconst 0, 1) := by decide +kernel
theorem dX8_cls_32 : decode cX8_cls 32 = .ok (.ldc2_w 120, 3) := by decide +kernel
theorem dX8_cls_35 : decode cX8_cls 35 = .ok (.invokestatic 105, 3) := by decide +kernel
theorem dX8_cls_38 : decode cX8_cls 38 = .ok (.ifCond .eq 16, 3) := by decide +kernel
theorem dX8_cls_41 : decode cX8_cls 41 = .ok (.iload 4, 2) := by decide +kernel
theorem dX8_cls_43 : decode cX8_cls 43 = .ok (.i2l, 1) := by decide +kernel
theorem dX8_cls_44 : decode cX8_cls 44 = .ok (.lconst 0, 1) := by decide +kernel
theorem dX8_cls_45 : decode cX8_cls 45 = .ok (.ldc2_w 120, 3) := by decide +kernel
theorem dX8_cls_48 : decode cX8_cls 48 = .ok (.invokestatic 105, 3) := by decide +kernel
theorem dX8_cls_51 : decode cX8_cls 51 = .ok (.ifCond .ne 6, 3) := by decide +kernel
theorem dX8_cls_54 : decode cX8_cls 54 = .ok (.bipush (-2), 2) := by decide +kernel
theorem dX8_cls_56 : decode cX8_cls 56 = .ok (.ireturn, 1) := by decide +kernel
theorem dX8_cls_57 : decode cX8_cls 57 = .ok (.aload_n 0, 1) := by decide +kernel
theorem dX8_cls_58 : decode cX8_cls 58 = .ok (.getfield 122, 3) := by decide +kernel
theorem dX8_cls_61 : decode cX8_cls 61 = .ok (.iconst 4, 1) := by decide +kernel
theorem dX8_cls_62 : decode cX8_cls 62 = .ok (.if_icmp .ne 6, 3) := by decide +kernel
theorem dX8_cls_65 : decode cX8_cls 65 = .ok (.bipush (-4), 2) := by decide +kernel
theorem dX8_cls_67 : decode cX8_cls 67 = .ok (.ireturn, 1) := by decide +kernel
theorem dX8_cls_68 : decode cX8_cls 68 = .ok (.aload_n 0, 1) := by decide +kernel
theorem dX8_cls_69 : decode cX8_cls 69 = .ok (.getfield 25, 3) := by decide +kernel
theorem dX8_cls_72 : decode cX8_cls 72 = .ok (.aload_n 0, 1) := by decide +kernel
theorem dX8_cls_73 : decode cX8_cls 73 = .ok (.getfield 122, 3) := by decide +kernel
theorem dX8_cls_76 : decode cX8_cls 76 = .ok (.iload_n 1, 1) := by decide +kernel
theorem dX8_cls_77 : decode cX8_cls 77 = .ok (.iastore, 1) := by decide +kernel
theorem dX8_cls_78 : decode cX8_cls 78 = .ok (.aload_n 0, 1) := by decide +kernel
theorem dX8_cls_79 : decode cX8_cls 79 = .ok (.getfield 28, 3) := by decide +kernel
theorem dX8_cls_82 : decode cX8_cls 82 = .ok (.aload_n 0, 1) := by decide +kernel
theorem dX8_cls_83 : decode cX8_cls 83 = .ok (.getfield 122, 3) := by decide +kernel
theorem dX8_cls_86 : decode cX8_cls 86 = .ok (.iload_n 2, 1) := by decide +kernel
theorem dX8_cls_87 : decode cX8_cls 87 = .ok (.iastore, 1) := by decide +kernel
theorem dX8_cls_88 : decode cX8_cls 88 = .ok (.aload_n 0, 1) := by decide +kernel
theorem dX8_cls_89 : decode cX8_cls 89 = .ok (.getfield 31, 3) := by decide +kernel
theorem dX8_cls_92 : decode cX8_cls 92 = .ok (.aload_n 0, 1) := by decide +kernel
theorem dX8_cls_93 : decode cX8_cls 93 = .ok (.getfield 122, 3) := by decide +kernel
theorem dX8_cls_96 : decode cX8_cls 96 = .ok (.iload_n 3, 1) := by decide +kernel
theorem dX8_cls_97 : decode cX8_cls 97 = .ok (.iastore, 1) := by decide +kernel
theorem dX8_cls_98 : decode cX8_cls 98 = .ok (.aload_n 0, 1) := by decide +kernel
theorem dX8_cls_99 : decode cX8_cls 99 = .ok (.getfield 34, 3) := by decide +kernel
theorem dX8_cls_102 : decode cX8_cls 102 = .ok (.aload_n 0, 1) := by decide +kernel
theorem dX8_cls_103 : decode cX8_cls 103 = .ok (.getfield 122, 3) := by decide +kernel
theorem dX8_cls_106 : decode cX8_cls 106 = .ok (.iload 4, 2) := by decide +kernel
theorem dX8_cls_108 : decode cX8_cls 108 = .ok (.iastore, 1) := by decide +kernel
theorem dX8_cls_109 : decode cX8_cls 109 = .ok (.aload_n 0, 1) := by decide +kernel
theorem dX8_cls_110 : decode cX8_cls 110 = .ok (.dup, 1) := by decide +kernel
theorem dX8_cls_111 : decode cX8_cls 111 = .ok (.getfield 122, 3) := by decide +kernel
theorem dX8_cls_114 : decode cX8_cls 114 = .ok (.iconst 1, 1) := by decide +kernel
theorem dX8_cls_115 : decode cX8_cls 115 = .ok (.iadd, 1) := by decide +kernel
theorem dX8_cls_116 : decode cX8_cls 116 = .ok (.putfield 122, 3) := by decide +kernel
theorem dX8_cls_119 : decode cX8_cls 119 = .ok (.aload_n 0, 1) := by decide +kernel
theorem dX8_cls_120 : decode cX8_cls 120 = .ok (.getfield 122, 3) := by decide +kernel
theorem dX8_cls_123 : decode cX8_cls 123 = .ok (.iconst 1, 1) := by decide +kernel
theorem dX8_cls_124 : decode cX8_cls 124 = .ok (.isub, 1) := by decide +kernel
theorem dX8_cls_125 : decode cX8_cls 125 = .ok (.ireturn, 1) := by decide +kernel
theorem dX8_add_0 : decode cX8_add 0 = .ok (.aload_n 0, 1) := by decide +kernel
theorem dX8_add_1 : decode cX8_add 1 = .ok (.getfield 125, 3) := by decide +kernel
theorem dX8_add_4 : decode cX8_add 4 = .ok (.sipush 400, 3) := by decide +kernel
theorem dX8_add_7 : decode cX8_add 7 = .ok (.if_icmp .ne 6, 3) := by decide +kernel
theorem dX8_add_10 : decode cX8_add 10 = .ok (.bipush (-4), 2) := by decide +kernel
theorem dX8_add_12 : decode cX8_add 12 = .ok (.ireturn, 1) := by decide +kernel
theorem dX8_add_13 : decode cX8_add 13 = .ok (.aload_n 0, 1) := by decide +kernel
theorem dX8_add_14 : decode cX8_add 14 = .ok (.getfield 7, 3) := by decide +kernel
theorem dX8_add_17 : decode cX8_add 17 = .ok (.aload_n 0, 1) := by decide +kernel
theorem dX8_add_18 : decode cX8_add 18 = .ok (.getfield 125, 3) := by decide +kernel
theorem dX8_add_21 : decode cX8_add 21 = .ok (.iload_n 1, 1) := by decide +kernel
theorem dX8_add_22 : decode cX8_add 22 = .ok (.iastore, 1) := by decide +kernel
theorem dX8_add_23 : decode cX8_add 23 = .ok (.aload_n 0, 1) := by decide +kernel
theorem dX8_add_24 : decode cX8_add 24 = .ok (.getfield 13, 3) := by decide +kernel
theorem dX8_add_27 : decode cX8_add 27 = .ok (.aload_n 0, 1) := by decide +kernel
theorem dX8_add_28 : decode cX8_add 28 = .ok (.getfield 125, 3) := by decide +kernel
theorem dX8_add_31 : decode cX8_add 31 = .ok (.iload_n 2, 1) := by decide +kernel
theorem dX8_add_32 : decode cX8_add 32 = .ok (.iastore, 1) := by decide +kernel
theorem dX8_add_33 : decode cX8_add 33 = .ok (.aload_n 0, 1) := by decide +kernel
theorem dX8_add_34 : decode cX8_add 34 = .ok (.getfield 16, 3) := by decide +kernel
theorem dX8_add_37 : decode cX8_add 37 = .ok (.aload_n 0, 1) := by decide +kernel
theorem dX8_add_38 : decode cX8_add 38 = .ok (.getfield 125, 3) := by decide +kernel
theorem dX8_add_41 : decode cX8_add 41 = .ok (.iload_n 3, 1) := by decide +kernel
theorem dX8_add_42 : decode cX8_add 42 = .ok (.iastore, 1) := by decide +kernel
theorem dX8_add_43 : decode cX8_add 43 = .ok (.aload_n 0, 1) := by decide +kernel
theorem dX8_add_44 : decode cX8_add 44 = .ok (.getfield 19, 3) := by decide +kernel
theorem dX8_add_47 : decode cX8_add 47 = .ok (.aload_n 0, 1) := by decide +kernel
theorem dX8_add_48 : decode cX8_add 48 = .ok (.getfield 125, 3) := by decide +kernel
theorem dX8_add_51 : decode cX8_add 51 = .ok (.iload 4, 2) := by decide +kernel
theorem dX8_add_53 : decode cX8_add 53 = .ok (.iastore, 1) := by decide +kernel
theorem dX8_add_54 : decode cX8_add 54 = .ok (.aload_n 0, 1) := by decide +kernel
theorem dX8_add_55 : decode cX8_add 55 = .ok (.getfield 22, 3) := by decide +kernel
theorem dX8_add_58 : decode cX8_add 58 = .ok (.aload_n 0, 1) := by decide +kernel
theorem dX8_add_59 : decode cX8_add 59 = .ok (.getfield 125, 3) := by decide +kernel
theorem dX8_add_62 : decode cX8_add 62 = .ok (.iload 5, 2) := by decide +kernel
theorem dX8_add_64 : decode cX8_add 64 = .ok (.iastore, 1) := by decide +kernel
theorem dX8_add_65 : decode cX8_add 65 = .ok (.aload_n 0, 1) := by decide +kernel
theorem dX8_add_66 : decode cX8_add 66 = .ok (.getfield 41, 3) := by decide +kernel
theorem dX8_add_69 : decode cX8_add 69 = .ok (.aload_n 0, 1) := by decide +kernel
theorem dX8_add_70 : decode cX8_add 70 = .ok (.getfield 128, 3) := by decide +kernel
theorem dX8_add_73 : decode cX8_add 73 = .ok (.aload_n 0, 1) := by decide +kernel
theorem dX8_add_74 : decode cX8_add 74 = .ok (.getfield 125, 3) := by decide +kernel
theorem dX8_add_77 : decode cX8_add 77 = .ok (.iastore, 1) := by decide +kernel
theorem dX8_add_78 : decode cX8_add 78 = .ok (.aload_n 0, 1) := by decide +kernel
theorem dX8_add_79 : decode cX8_add 79 = .ok (.getfield 44, 3) := by decide +kernel
theorem dX8_add_82 : decode cX8_add 82 = .ok (.aload_n 0, 1) := by decide +kernel
theorem dX8_add_83 : decode cX8_add 83 = .ok (.getfield 128, 3) := by decide +kernel
theorem dX8_add_86 : decode cX8_add 86 = .ok (.iload_n 1, 1) := by decide +kernel
theorem dX8_add_87 : decode cX8_add 87 = .ok (.iconst 4, 1) := by decide +kernel
theorem dX8_add_88 : decode cX8_add 88 = .ok (.if_icmp .ne 7, 3) := by decide +kernel
theorem dX8_add_91 : decode cX8_add 91 = .ok (.iload_n 3, 1) := by decide +kernel
theorem dX8_add_92 : decode cX8_add 92 = .ok (.goto 4, 3) := by decide +kernel
theorem dX8_add_95 : decode cX8_add 95 = .ok (.iconst 0, 1) := by decide +kernel
theorem dX8_add_96 : decode cX8_add 96 = .ok (.iastore, 1) := by decide +kernel
theorem dX8_add_97 : decode cX8_add 97 = .ok (.aload_n 0, 1) := by decide +kernel
theorem dX8_add_98 : decode cX8_add 98 = .ok (.dup, 1) := by decide +kernel
theorem dX8_add_99 : decode cX8_add 99 = .ok (.getfield 128, 3) := by decide +kernel
theorem dX8_add_102 : decode cX8_add 102 = .ok (.iconst 1, 1) := by decide +kernel
theorem dX8_add_103 : decode cX8_add 103 = .ok (.iadd, 1) := by decide +kernel
theorem dX8_add_104 : decode cX8_add 104 = .ok (.putfield 128, 3) := by decide +kernel
theorem dX8_add_107 : decode cX8_add 107 = .ok (.aload_n 0, 1) := by decide +kernel
theorem dX8_add_108 : decode cX8_add 108 = .ok (.dup, 1) := by decide +kernel
theorem dX8_add_109 : decode cX8_add 109 = .ok (.getfield 125, 3) := by decide +kernel
theorem dX8_add_112 : decode cX8_add 112 = .ok (.iconst 1, 1) := by decide +kernel
theorem dX8_add_113 : decode cX8_add 113 = .ok (.iadd, 1) := by decide +kernel
theorem dX8_add_114 : decode cX8_add 114 = .ok (.putfield 125, 3) := by decide +kernel
theorem dX8_add_117 : decode cX8_add 117 = .ok (.aload_n 0, 1) := by decide +kernel
theorem dX8_add_118 : decode cX8_add 118 = .ok (.getfield 125, 3) := by decide +kernel
theorem dX8_add_121 : decode cX8_add 121 = .ok (.iconst 1, 1) := by decide +kernel
theorem dX8_add_122 : decode cX8_add 122 = .ok (.isub, 1) := by decide +kernel
theorem dX8_add_123 : decode cX8_add 123 = .ok (.ireturn, 1) := by decide +kernel
theorem dX8_box_0 : decode cX8_box 0 = .ok (.aload_n 0, 1) := by decide +kernel
theorem dX8_box_1 : decode cX8_box 1 = .ok (.iconst 0, 1) := by decide +kernel
theorem dX8_box_2 : decode cX8_box 2 = .ok (.putfield 100, 3) := by decide +kernel
theorem dX8_box_5 : decode cX8_box 5 = .ok (.iload_n 1, 1) := by decide +kernel
theorem dX8_box_6 : decode cX8_box 6 = .ok (.i2l, 1) := by decide +kernel
theorem dX8_box_7 : decode cX8_box 7 = .ok (.lconst 0, 1) := by decide +kernel
theorem dX8_box_8 : decode cX8_box 8 = .ok (.ldc2_w 131, 3) := by decide +kernel
theorem dX8_box_11 : decode cX8_box 11 = .ok (.invokestatic 105, 3) := by decide +kernel
theorem dX8_box_14 : decode cX8_box 14 = .ok (.ifCond .eq 27, 3) := by decide +kernel
theorem dX8_box_17 : decode cX8_box 17 = .ok (.iload_n 2, 1) := by decide +kernel
theorem dX8_box_18 : decode cX8_box 18 = .ok (.i2l, 1) := by decide +kernel
theorem dX8_box_19 : decode cX8_box 19 = .ok (.lconst 0, 1) := by decide +kernel
theorem dX8_box_20 : decode cX8_box 20 = .ok (.ldc2_w 131, 3) := by decide +kernel
theorem dX8_box_23 : decode cX8_box 23 = .ok (.invokestatic 105, 3) := by decide +kernel
theorem dX8_box_26 : decode cX8_box 26 = .ok (.ifCond .eq 15, 3) := by decide +kernel
theorem dX8_box_29 : decode cX8_box 29 = .ok (.aload_n 0, 1) := by decide +kernel
theorem dX8_box_30 : decode cX8_box 30 = .ok (.iconst 0, 1) := by decide +kernel
theorem dX8_box_31 : decode cX8_box 31 = .ok (.iload_n 1, 1) := by decide +kernel
theorem dX8_box_32 : decode cX8_box 32 = .ok (.iload_n 2, 1) := by decide +kernel
theorem dX8_box_33 : decode cX8_box 33 = .ok (.iconst 0, 1) := by decide +kernel
theorem dX8_box_34 : decode cX8_box 34 = .ok (.iconst 0, 1) := by decide +kernel
theorem dX8_box_35 : decode cX8_box 35 = .ok (.invokevirtual 133, 3) := by decide +kernel
theorem dX8_box_38 : decode cX8_box 38 = .ok (.goto 5, 3) := by decide +kernel
theorem dX8_box_41 : decode cX8_box 41 = .ok (.bipush (-2), 2) := by decide +kernel
theorem dX8_box_43 : decode cX8_box 43 = .ok (.ireturn, 1) := by decide +kernel
theorem dX8_glue_0 : decode cX8_glue 0 = .ok (.aload_n 0, 1) := by decide +kernel
theorem dX8_glue_1 : decode cX8_glue 1 = .ok (.iconst 0, 1) := by decide +kernel
theorem dX8_glue_2 : decode cX8_glue 2 = .ok (.putfield 100, 3) := by decide +kernel
theorem dX8_glue_5 : decode cX8_glue 5 = .ok (.iload_n 1, 1) := by decide +kernel
theorem dX8_glue_6 : decode cX8_glue 6 = .ok (.i2l, 1) := by decide +kernel
theorem dX8_glue_7 : decode cX8_glue 7 = .ok (.ldc2_w 137, 3) := by decide +kernel
theorem dX8_glue_10 : decode cX8_glue 10 = .ok (.ldc2_w 131, 3) := by decide +kernel
theorem dX8_glue_13 : decode cX8_glue 13 = .ok (.invokestatic 105, 3) := by decide +kernel
theorem dX8_glue_16 : decode cX8_glue 16 = .ok (.ifCond .eq 53, 3) := by decide +kernel
theorem dX8_glue_19 : decode cX8_glue 19 = .ok (.iload_n 2, 1) := by decide +kernel
theorem dX8_glue_20 : decode cX8_glue 20 = .ok (.i2l, 1) := by decide +kernel
theorem dX8_glue_21 : decode cX8_glue 21 = .ok (.lconst 0, 1) := by decide +kernel
theorem dX8_glue_22 : decode cX8_glue 22 = .ok (.ldc2_w 131, 3) := by decide +kernel
theorem dX8_glue_25 : decode cX8_glue 25 = .ok (.invokestatic 105, 3) := by decide +kernel
theorem dX8_glue_28 : decode cX8_glue 28 = .ok (.ifCond .eq 41, 3) := by decide +kernel
theorem dX8_glue_31 : decode cX8_glue 31 = .ok (.iload_n 3, 1) := by decide +kernel
theorem dX8_glue_32 : decode cX8_glue 32 = .ok (.i2l, 1) := by decide +kernel
theorem dX8_glue_33 : decode cX8_glue 33 = .ok (.lconst 0, 1) := by decide +kernel
theorem dX8_glue_34 : decode cX8_glue 34 = .ok (.ldc2_w 139, 3) := by decide +kernel
theorem dX8_glue_37 : decode cX8_glue 37 = .ok (.invokestatic 105, 3) := by decide +kernel
theorem dX8_glue_40 : decode cX8_glue 40 = .ok (.ifCond .eq 29, 3) := by decide +kernel
theorem dX8_glue_43 : decode cX8_glue 43 = .ok (.iload 4, 2) := by decide +kernel
theorem dX8_glue_45 : decode cX8_glue 45 = .ok (.i2l, 1) := by decide +kernel
theorem dX8_glue_46 : decode cX8_glue 46 = .ok (.lconst 0, 1) := by decide +kernel
theorem dX8_glue_47 : decode cX8_glue 47 = .ok (.ldc2_w 131, 3) := by decide +kernel
theorem dX8_glue_50 : decode cX8_glue 50 = .ok (.invokestatic 105, 3) := by decide +kernel
theorem dX8_glue_53 : decode cX8_glue 53 = .ok (.ifCond .eq 16, 3) := by decide +kernel
theorem dX8_glue_56 : decode cX8_glue 56 = .ok (.aload_n 0, 1) := by decide +kernel
theorem dX8_glue_57 : decode cX8_glue 57 = .ok (.iconst 1, 1) := by decide +kernel
theorem dX8_glue_58 : decode cX8_glue 58 = .ok (.iload_n 1, 1) := by decide +kernel
theorem dX8_glue_59 : decode cX8_glue 59 = .ok (.iload_n 2, 1) := by decide +kernel
theorem dX8_glue_60 : decode cX8_glue 60 = .ok (.iload_n 3, 1) := by decide +kernel
theorem dX8_glue_61 : decode cX8_glue 61 = .ok (.iload 4, 2) := by decide +kernel
theorem dX8_glue_63 : decode cX8_glue 63 = .ok (.invokevirtual 133, 3) := by decide +kernel
theorem dX8_glue_66 : decode cX8_glue 66 = .ok (.goto 5, 3) := by decide +kernel
theorem dX8_glue_69 : decode cX8_glue 69 = .ok (.bipush (-2), 2) := by decide +kernel
theorem dX8_glue_71 : decode cX8_glue 71 = .ok (.ireturn, 1) := by decide +kernel
theorem dX8_kern_0 : decode cX8_kern 0 = .ok (.aload_n 0, 1) := by decide +kernel
theorem dX8_kern_1 : decode cX8_kern 1 = .ok (.iconst 0, 1) := by decide +kernel
theorem dX8_kern_2 : decode cX8_kern 2 = .ok (.putfield 100, 3) := by decide +kernel
theorem dX8_kern_5 : decode cX8_kern 5 = .ok (.iload_n 1, 1) := by decide +kernel
theorem dX8_kern_6 : decode cX8_kern 6 = .ok (.i2l, 1) := by decide +kernel
theorem dX8_kern_7 : decode cX8_kern 7 = .ok (.ldc2_w 137, 3) := by decide +kernel
theorem dX8_kern_10 : decode cX8_kern 10 = .ok (.ldc2_w 131, 3) := by decide +kernel
theorem dX8_kern_13 : decode cX8_kern 13 = .ok (.invokestatic 105, 3) := by decide +kernel
theorem dX8_kern_16 : decode cX8_kern 16 = .ok (.ifCond .eq 15, 3) := by decide +kernel
theorem dX8_kern_19 : decode cX8_kern 19 = .ok (.aload_n 0, 1) := by decide +kernel
theorem dX8_kern_20 : decode cX8_kern 20 = .ok (.iconst 2, 1) := by decide +kernel
theorem dX8_kern_21 : decode cX8_kern 21 = .ok (.iload_n 1, 1) := by decide +kernel
theorem dX8_kern_22 : decode cX8_kern 22 = .ok (.iconst 0, 1) := by decide +kernel
theorem dX8_kern_23 : decode cX8_kern 23 = .ok (.iconst 0, 1) := by decide +kernel
theorem dX8_kern_24 : decode cX8_kern 24 = .ok (.iconst 0, 1) := by decide +kernel
theorem dX8_kern_25 : decode cX8_kern 25 = .ok (.invokevirtual 133, 3) := by decide +kernel
theorem dX8_kern_28 : decode cX8_kern 28 = .ok (.goto 5, 3) := by decide +kernel
theorem dX8_kern_31 : decode cX8_kern 31 = .ok (.bipush (-2), 2) := by decide +kernel
theorem dX8_kern_33 : decode cX8_kern 33 = .ok (.ireturn, 1) := by decide +kernel
theorem dX8_penalty_0 : decode cX8_penalty 0 = .ok (.aload_n 0, 1) := by decide +kernel
theorem dX8_penalty_1 : decode cX8_penalty 1 = .ok (.iconst 0, 1) := by decide +kernel
theorem dX8_penalty_2 : decode cX8_penalty 2 = .ok (.putfield 100, 3) := by decide +kernel
theorem dX8_penalty_5 : decode cX8_penalty 5 = .ok (.iload_n 1, 1) := by decide +kernel
theorem dX8_penalty_6 : decode cX8_penalty 6 = .ok (.i2l, 1) := by decide +kernel
theorem dX8_penalty_7 : decode cX8_penalty 7 = .ok (.ldc2_w 141, 3) := by decide +kernel
theorem dX8_penalty_10 : decode cX8_penalty 10 = .ok (.ldc2_w 120, 3) := by decide +kernel
theorem dX8_penalty_13 : decode cX8_penalty 13 = .ok (.invokestatic 105, 3) := by decide +kernel
theorem dX8_penalty_16 : decode cX8_penalty 16 = .ok (.ifCond .eq 15, 3) := by decide +kernel
theorem dX8_penalty_19 : decode cX8_penalty 19 = .ok (.aload_n 0, 1) := by decide +kernel
theorem dX8_penalty_20 : decode cX8_penalty 20 = .ok (.iconst 3, 1) := by decide +kernel
theorem dX8_penalty_21 : decode cX8_penalty 21 = .ok (.iload_n 1, 1) := by decide +kernel
theorem dX8_penalty_22 : decode cX8_penalty 22 = .ok (.iconst 0, 1) := by decide +kernel
theorem dX8_penalty_23 : decode cX8_penalty 23 = .ok (.iconst 0, 1) := by decide +kernel
theorem dX8_penalty_24 : decode cX8_penalty 24 = .ok (.iconst 0, 1) := by decide +kernel
theorem dX8_penalty_25 : decode cX8_penalty 25 = .ok (.invokevirtual 133, 3) := by decide +kernel
theorem dX8_penalty_28 : decode cX8_penalty 28 = .ok (.goto 5, 3) := by decide +kernel
theorem dX8_penalty_31 : decode cX8_penalty 31 = .ok (.bipush (-2), 2) := by decide +kernel
theorem dX8_penalty_33 : decode cX8_penalty 33 = .ok (.ireturn, 1) := by decide +kernel
theorem dX8_insert_0 : decode cX8_insert 0 = .ok (.aload_n 0, 1) := by decide +kernel
theorem dX8_insert_1 : decode cX8_insert 1 = .ok (.iconst 0, 1) := by decide +kernel
theorem dX8_insert_2 : decode cX8_insert 2 = .ok (.putfield 100, 3) := by decide +kernel
theorem dX8_insert_5 : decode cX8_insert 5 = .ok (.iload_n 1, 1) := by decide +kernel
theorem dX8_insert_6 : decode cX8_insert 6 = .ok (.ifCond .lt 11, 3) := by decide +kernel
theorem dX8_insert_9 : decode cX8_insert 9 = .ok (.iload_n 1, 1) := by decide +kernel
theorem dX8_insert_10 : decode cX8_insert 10 = .ok (.aload_n 0, 1) := by decide +kernel
theorem dX8_insert_11 : decode cX8_insert 11 = .ok (.getfield 122, 3) := by decide +kernel
theorem dX8_insert_14 : decode cX8_insert 14 = .ok (.if_icmp .lt 5, 3) := by decide +kernel
theorem dX8_insert_17 : decode cX8_insert 17 = .ok (.iconst (-1), 1) := by decide +kernel
theorem dX8_insert_18 : decode cX8_insert 18 = .ok (.ireturn, 1) := by decide +kernel
theorem dX8_insert_19 : decode cX8_insert 19 = .ok (.iload_n 2, 1) := by decide +kernel
theorem dX8_insert_20 : decode cX8_insert 20 = .ok (.i2l, 1) := by decide +kernel
theorem dX8_insert_21 : decode cX8_insert 21 = .ok (.lconst 1, 1) := by decide +kernel
theorem dX8_insert_22 : decode cX8_insert 22 = .ok (.ldc2_w 131, 3) := by decide +kernel
theorem dX8_insert_25 : decode cX8_insert 25 = .ok (.invokestatic 105, 3) := by decide +kernel
theorem dX8_insert_28 : decode cX8_insert 28 = .ok (.ifCond .eq 23, 3) := by decide +kernel
theorem dX8_insert_31 : decode cX8_insert 31 = .ok (.aload_n 0, 1) := by decide +kernel
theorem dX8_insert_32 : decode cX8_insert 32 = .ok (.iconst 4, 1) := by decide +kernel
theorem dX8_insert_33 : decode cX8_insert 33 = .ok (.iload_n 1, 1) := by decide +kernel
theorem dX8_insert_34 : decode cX8_insert 34 = .ok (.iload_n 2, 1) := by decide +kernel
theorem dX8_insert_35 : decode cX8_insert 35 = .ok (.iload_n 3, 1) := by decide +kernel
theorem dX8_insert_36 : decode cX8_insert 36 = .ok (.ifCond .eq 7, 3) := by decide +kernel
theorem dX8_insert_39 : decode cX8_insert 39 = .ok (.iconst 1, 1) := by decide +kernel
theorem dX8_insert_40 : decode cX8_insert 40 = .ok (.goto 4, 3) := by decide +kernel
theorem dX8_insert_43 : decode cX8_insert 43 = .ok (.iconst 0, 1) := by decide +kernel
theorem dX8_insert_44 : decode cX8_insert 44 = .ok (.iconst 0, 1) := by decide +kernel
theorem dX8_insert_45 : decode cX8_insert 45 = .ok (.invokevirtual 133, 3) := by decide +kernel
theorem dX8_insert_48 : decode cX8_insert 48 = .ok (.goto 5, 3) := by decide +kernel
theorem dX8_insert_51 : decode cX8_insert 51 = .ok (.bipush (-2), 2) := by decide +kernel
theorem dX8_insert_53 : decode cX8_insert 53 = .ok (.ireturn, 1) := by decide +kernel
theorem dX8_mark_0 : decode cX8_mark 0 = .ok (.aload_n 0, 1) := by decide +kernel
theorem dX8_mark_1 : decode cX8_mark 1 = .ok (.iconst 0, 1) := by decide +kernel
theorem dX8_mark_2 : decode cX8_mark 2 = .ok (.putfield 100, 3) := by decide +kernel
theorem dX8_mark_5 : decode cX8_mark 5 = .ok (.aload_n 0, 1) := by decide +kernel
theorem dX8_mark_6 : decode cX8_mark 6 = .ok (.iconst 5, 1) := by decide +kernel
theorem dX8_mark_7 : decode cX8_mark 7 = .ok (.iload_n 1, 1) := by decide +kernel
theorem dX8_mark_8 : decode cX8_mark 8 = .ok (.iconst 0, 1) := by decide +kernel
theorem dX8_mark_9 : decode cX8_mark 9 = .ok (.iconst 0, 1) := by decide +kernel
theorem dX8_mark_10 : decode cX8_mark 10 = .ok (.iconst 0, 1) := by decide +kernel
theorem dX8_mark_11 : decode cX8_mark 11 = .ok (.invokevirtual 133, 3) := by decide +kernel
theorem dX8_mark_14 : decode cX8_mark 14 = .ok (.ireturn, 1) := by decide +kernel
theorem dX8_begin_0 : decode cX8_begin 0 = .ok (.aload_n 0, 1) := by decide +kernel
theorem dX8_begin_1 : decode cX8_begin 1 = .ok (.iconst 0, 1) := by decide +kernel
theorem dX8_begin_2 : decode cX8_begin 2 = .ok (.putfield 115, 3) := by decide +kernel
theorem dX8_begin_5 : decode cX8_begin 5 = .ok (.aload_n 0, 1) := by decide +kernel
theorem dX8_begin_6 : decode cX8_begin 6 = .ok (.iconst 0, 1) := by decide +kernel
theorem dX8_begin_7 : decode cX8_begin 7 = .ok (.putfield 143, 3) := by decide +kernel
theorem dX8_begin_10 : decode cX8_begin 10 = .ok (.iconst 0, 1) := by decide +kernel
theorem dX8_begin_11 : decode cX8_begin 11 = .ok (.istore_n 1, 1) := by decide +kernel
theorem dX8_begin_12 : decode cX8_begin 12 = .ok (.iload_n 1, 1) := by decide +kernel
theorem dX8_begin_13 : decode cX8_begin 13 = .ok (.bipush 12, 2) := by decide +kernel
theorem dX8_begin_15 : decode cX8_begin 15 = .ok (.if_icmp .ge 16, 3) := by decide +kernel
theorem dX8_begin_18 : decode cX8_begin 18 = .ok (.aload_n 0, 1) := by decide +kernel
theorem dX8_begin_19 : decode cX8_begin 19 = .ok (.getfield 60, 3) := by decide +kernel
theorem dX8_begin_22 : decode cX8_begin 22 = .ok (.iload_n 1, 1) := by decide +kernel
theorem dX8_begin_23 : decode cX8_begin 23 = .ok (.lconst 0, 1) := by decide +kernel
theorem dX8_begin_24 : decode cX8_begin 24 = .ok (.lastore, 1) := by decide +kernel
theorem dX8_begin_25 : decode cX8_begin 25 = .ok (.iinc 1 1, 3) := by decide +kernel
theorem dX8_begin_28 : decode cX8_begin 28 = .ok (.goto (-16), 3) := by decide +kernel
theorem dX8_begin_31 : decode cX8_begin 31 = .ok (.aload_n 0, 1) := by decide +kernel
theorem dX8_begin_32 : decode cX8_begin 32 = .ok (.getfield 60, 3) := by decide +kernel
theorem dX8_begin_35 : decode cX8_begin 35 = .ok (.iconst 1, 1) := by decide +kernel
theorem dX8_begin_36 : decode cX8_begin 36 = .ok (.aload_n 0, 1) := by decide +kernel
theorem dX8_begin_37 : decode cX8_begin 37 = .ok (.getfield 37, 3) := by decide +kernel
theorem dX8_begin_40 : decode cX8_begin 40 = .ok (.i2l, 1) := by decide +kernel
theorem dX8_begin_41 : decode cX8_begin 41 = .ok (.lastore, 1) := by decide +kernel
theorem dX8_begin_42 : decode cX8_begin 42 = .ok (.aload_n 0, 1) := by decide +kernel
theorem dX8_begin_43 : decode cX8_begin 43 = .ok (.aload_n 0, 1) := by decide +kernel
theorem dX8_begin_44 : decode cX8_begin 44 = .ok (.getfield 109, 3) := by decide +kernel
theorem dX8_begin_47 : decode cX8_begin 47 = .ok (.putfield 147, 3) := by decide +kernel
theorem dX8_begin_50 : decode cX8_begin 50 = .ok (.aload_n 0, 1) := by decide +kernel
theorem dX8_begin_51 : decode cX8_begin 51 = .ok (.aload_n 0, 1) := by decide +kernel
theorem dX8_begin_52 : decode cX8_begin 52 = .ok (.getfield 112, 3) := by decide +kernel
theorem dX8_begin_55 : decode cX8_begin 55 = .ok (.putfield 150, 3) := by decide +kernel
theorem dX8_begin_58 : decode cX8_begin 58 = .ok (.aload_n 0, 1) := by decide +kernel
theorem dX8_begin_59 : decode cX8_begin 59 = .ok (.lconst 0, 1) := by decide +kernel
theorem dX8_begin_60 : decode cX8_begin 60 = .ok (.putfield 153, 3) := by decide +kernel
theorem dX8_begin_63 : decode cX8_begin 63 = .ok (.iconst 0, 1) := by decide +kernel
theorem dX8_begin_64 : decode cX8_begin 64 = .ok (.istore_n 1, 1) := by decide +kernel
theorem dX8_begin_65 : decode cX8_begin 65 = .ok (.iload_n 1, 1) := by decide +kernel
theorem dX8_begin_66 : decode cX8_begin 66 = .ok (.iconst 4, 1) := by decide +kernel
theorem dX8_begin_67 : decode cX8_begin 67 = .ok (.if_icmp .ge 23, 3) := by decide +kernel
theorem dX8_begin_70 : decode cX8_begin 70 = .ok (.aload_n 0, 1) := by decide +kernel
theorem dX8_begin_71 : decode cX8_begin 71 = .ok (.getfield 64, 3) := by decide +kernel
theorem dX8_begin_74 : decode cX8_begin 74 = .ok (.iload_n 1, 1) := by decide +kernel
theorem dX8_begin_75 : decode cX8_begin 75 = .ok (.iconst 0, 1) := by decide +kernel
theorem dX8_begin_76 : decode cX8_begin 76 = .ok (.bastore, 1) := by decide +kernel
theorem dX8_begin_77 : decode cX8_begin 77 = .ok (.aload_n 0, 1) := by decide +kernel
theorem dX8_begin_78 : decode cX8_begin 78 = .ok (.getfield 67, 3) := by decide +kernel
theorem dX8_begin_81 : decode cX8_begin 81 = .ok (.iload_n 1, 1) := by decide +kernel
theorem dX8_begin_82 : decode cX8_begin 82 = .ok (.iconst 0, 1) := by decide +kernel
theorem dX8_begin_83 : decode cX8_begin 83 = .ok (.bastore, 1) := by decide +kernel
theorem dX8_begin_84 : decode cX8_begin 84 = .ok (.iinc 1 1, 3) := by decide +kernel
theorem dX8_begin_87 : decode cX8_begin 87 = .ok (.goto (-22), 3) := by decide +kernel
theorem dX8_begin_90 : decode cX8_begin 90 = .ok (.aload_n 0, 1) := by decide +kernel
theorem dX8_begin_91 : decode cX8_begin 91 = .ok (.iconst 0, 1) := by decide +kernel
theorem dX8_begin_92 : decode cX8_begin 92 = .ok (.putfield 157, 3) := by decide +kernel
theorem dX8_begin_95 : decode cX8_begin 95 = .ok (.return_, 1) := by decide +kernel
theorem dX8_bad_0 : decode cX8_bad 0 = .ok (.lload_n 0, 1) := by decide +kernel
theorem dX8_bad_1 : decode cX8_bad 1 = .ok (.lconst 0, 1) := by decide +kernel
theorem dX8_bad_2 : decode cX8_bad 2 = .ok (.lcmp, 1) := by decide +kernel
theorem dX8_bad_3 : decode cX8_bad 3 = .ok (.ifCond .ne 5, 3) := by decide +kernel
theorem dX8_bad_6 : decode cX8_bad 6 = .ok (.lconst 0, 1) := by decide +kernel
theorem dX8_bad_7 : decode cX8_bad 7 = .ok (.lreturn, 1) := by decide +kernel
theorem dX8_bad_8 : decode cX8_bad 8 = .ok (.lload_n 2, 1) := by decide +kernel
theorem dX8_bad_9 : decode cX8_bad 9 = .ok (.lconst 0, 1) := by decide +kernel
theorem dX8_bad_10 : decode cX8_bad 10 = .ok (.lcmp, 1) := by decide +kernel
theorem dX8_bad_11 : decode cX8_bad 11 = .ok (.ifCond .ne 7, 3) := by decide +kernel
theorem dX8_bad_14 : decode cX8_bad 14 = .ok (.ldc2_w 120, 3) := by decide +kernel
theorem dX8_bad_17 : decode cX8_bad 17 = .ok (.lreturn, 1) := by decide +kernel
theorem dX8_bad_18 : decode cX8_bad 18 = .ok (.lload_n 0, 1) := by decide +kernel
theorem dX8_bad_19 : decode cX8_bad 19 = .ok (.ldc2_w 160, 3) := by decide +kernel
theorem dX8_bad_22 : decode cX8_bad 22 = .ok (.lcmp, 1) := by decide +kernel
theorem dX8_bad_23 : decode cX8_bad 23 = .ok (.ifCond .gt 13, 3) := by decide +kernel
theorem dX8_bad_26 : decode cX8_bad 26 = .ok (.ldc2_w 162, 3) := by decide +kernel
theorem dX8_bad_29 : decode cX8_bad 29 = .ok (.lload_n 0, 1) := by decide +kernel
theorem dX8_bad_30 : decode cX8_bad 30 = .ok (.lmul, 1) := by decide +kernel
theorem dX8_bad_31 : decode cX8_bad 31 = .ok (.lload_n 2, 1) := by decide +kernel
theorem dX8_bad_32 : decode cX8_bad 32 = .ok (.ldiv, 1) := by decide +kernel
theorem dX8_bad_33 : decode cX8_bad 33 = .ok (.goto 22, 3) := by decide +kernel
theorem dX8_bad_36 : decode cX8_bad 36 = .ok (.lload_n 2, 1) := by decide +kernel
theorem dX8_bad_37 : decode cX8_bad 37 = .ok (.ldc2_w 164, 3) := by decide +kernel
theorem dX8_bad_40 : decode cX8_bad 40 = .ok (.lcmp, 1) := by decide +kernel
theorem dX8_bad_41 : decode cX8_bad 41 = .ok (.ifCond .lt 13, 3) := by decide +kernel
theorem dX8_bad_44 : decode cX8_bad 44 = .ok (.lload_n 0, 1) := by decide +kernel
theorem dX8_bad_45 : decode cX8_bad 45 = .ok (.lload_n 2, 1) := by decide +kernel
theorem dX8_bad_46 : decode cX8_bad 46 = .ok (.ldc2_w 162, 3) := by decide +kernel
theorem dX8_bad_49 : decode cX8_bad 49 = .ok (.ldiv, 1) := by decide +kernel
theorem dX8_bad_50 : decode cX8_bad 50 = .ok (.ldiv, 1) := by decide +kernel
theorem dX8_bad_51 : decode cX8_bad 51 = .ok (.goto 4, 3) := by decide +kernel
theorem dX8_bad_54 : decode cX8_bad 54 = .ok (.lload_n 0, 1) := by decide +kernel
theorem dX8_bad_55 : decode cX8_bad 55 = .ok (.lstore 4, 2) := by decide +kernel
theorem dX8_bad_57 : decode cX8_bad 57 = .ok (.lload 4, 2) := by decide +kernel
theorem dX8_bad_59 : decode cX8_bad 59 = .ok (.ldc2_w 166, 3) := by decide +kernel
theorem dX8_bad_62 : decode cX8_bad 62 = .ok (.lcmp, 1) := by decide +kernel
theorem dX8_bad_63 : decode cX8_bad 63 = .ok (.ifCond .le 9, 3) := by decide +kernel
theorem dX8_bad_66 : decode cX8_bad 66 = .ok (.ldc2_w 120, 3) := by decide +kernel
theorem dX8_bad_69 : decode cX8_bad 69 = .ok (.goto 19, 3) := by decide +kernel
theorem dX8_bad_72 : decode cX8_bad 72 = .ok (.lload 4, 2) := by decide +kernel
theorem dX8_bad_74 : decode cX8_bad 74 = .ok (.lload 4, 2) := by decide +kernel
theorem dX8_bad_76 : decode cX8_bad 76 = .ok (.lmul, 1) := by decide +kernel
theorem dX8_bad_77 : decode cX8_bad 77 = .ok (.lload 4, 2) := by decide +kernel
theorem dX8_bad_79 : decode cX8_bad 79 = .ok (.lmul, 1) := by decide +kernel
theorem dX8_bad_80 : decode cX8_bad 80 = .ok (.ldc2_w 168, 3) := by decide +kernel
theorem dX8_bad_83 : decode cX8_bad 83 = .ok (.ladd, 1) := by decide +kernel
theorem dX8_bad_84 : decode cX8_bad 84 = .ok (.ldc2_w 170, 3) := by decide +kernel
theorem dX8_bad_87 : decode cX8_bad 87 = .ok (.ldiv, 1) := by decide +kernel
theorem dX8_bad_88 : decode cX8_bad 88 = .ok (.lreturn, 1) := by decide +kernel
theorem dX8_costAt_0 : decode cX8_costAt 0 = .ok (.aload_n 0, 1) := by decide +kernel
theorem dX8_costAt_1 : decode cX8_costAt 1 = .ok (.getfield 60, 3) := by decide +kernel
theorem dX8_costAt_4 : decode cX8_costAt 4 = .ok (.iconst 0, 1) := by decide +kernel
theorem dX8_costAt_5 : decode cX8_costAt 5 = .ok (.laload, 1) := by decide +kernel
theorem dX8_costAt_6 : decode cX8_costAt 6 = .ok (.aload_n 0, 1) := by decide +kernel
theorem dX8_costAt_7 : decode cX8_costAt 7 = .ok (.getfield 60, 3) := by decide +kernel
theorem dX8_costAt_10 : decode cX8_costAt 10 = .ok (.iconst 1, 1) := by decide +kernel
theorem dX8_costAt_11 : decode cX8_costAt 11 = .ok (.laload, 1) := by decide +kernel
theorem dX8_costAt_12 : decode cX8_costAt 12 = .ok (.lsub, 1) := by decide +kernel
theorem dX8_costAt_13 : decode cX8_costAt 13 = .ok (.lstore_n 2, 1) := by decide +kernel
theorem dX8_costAt_14 : decode cX8_costAt 14 = .ok (.lload_n 2, 1) := by decide +kernel
theorem dX8_costAt_15 : decode cX8_costAt 15 = .ok (.aload_n 0, 1) := by decide +kernel
theorem dX8_costAt_16 : decode cX8_costAt 16 = .ok (.getfield 60, 3) := by decide +kernel
theorem dX8_costAt_19 : decode cX8_costAt 19 = .ok (.bipush 7, 2) := by decide +kernel
theorem dX8_costAt_21 : decode cX8_costAt 21 = .ok (.laload, 1) := by decide +kernel
theorem dX8_costAt_22 : decode cX8_costAt 22 = .ok (.lcmp, 1) := by decide +kernel
theorem dX8_costAt_23 : decode cX8_costAt 23 = .ok (.ifCond .gt 14, 3) := by decide +kernel
theorem dX8_costAt_26 : decode cX8_costAt 26 = .ok (.aload_n 0, 1) := by decide +kernel
theorem dX8_costAt_27 : decode cX8_costAt 27 = .ok (.getfield 153, 3) := by decide +kernel
theorem dX8_costAt_30 : decode cX8_costAt 30 = .ok (.ldc2_w 120, 3) := by decide +kernel
