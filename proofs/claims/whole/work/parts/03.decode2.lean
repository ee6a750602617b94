theorem dX12_told_47 : decode cX12_told 47 = .ok (.aload_n 0, 1) := by decide +kernel
theorem dX12_told_48 : decode cX12_told 48 = .ok (.getfield 23, 3) := by decide +kernel
theorem dX12_told_51 : decode cX12_told 51 = .ok (.iload_n 1, 1) := by decide +kernel
theorem dX12_told_52 : decode cX12_told 52 = .ok (.iaload, 1) := by decide +kernel
theorem dX12_told_53 : decode cX12_told 53 = .ok (.goto 37, 3) := by decide +kernel
theorem dX12_told_56 : decode cX12_told 56 = .ok (.iload_n 2, 1) := by decide +kernel
theorem dX12_told_57 : decode cX12_told 57 = .ok (.iconst 1, 1) := by decide +kernel
theorem dX12_told_58 : decode cX12_told 58 = .ok (.if_icmp .ne 12, 3) := by decide +kernel
theorem dX12_told_61 : decode cX12_told 61 = .ok (.aload_n 0, 1) := by decide +kernel
theorem dX12_told_62 : decode cX12_told 62 = .ok (.getfield 26, 3) := by decide +kernel
theorem dX12_told_65 : decode cX12_told 65 = .ok (.iload_n 1, 1) := by decide +kernel
theorem dX12_told_66 : decode cX12_told 66 = .ok (.iaload, 1) := by decide +kernel
theorem dX12_told_67 : decode cX12_told 67 = .ok (.goto 23, 3) := by decide +kernel
theorem dX12_told_70 : decode cX12_told 70 = .ok (.iload_n 2, 1) := by decide +kernel
theorem dX12_told_71 : decode cX12_told 71 = .ok (.iconst 2, 1) := by decide +kernel
theorem dX12_told_72 : decode cX12_told 72 = .ok (.if_icmp .ne 12, 3) := by decide +kernel
theorem dX12_told_75 : decode cX12_told 75 = .ok (.aload_n 0, 1) := by decide +kernel
theorem dX12_told_76 : decode cX12_told 76 = .ok (.getfield 29, 3) := by decide +kernel
theorem dX12_told_79 : decode cX12_told 79 = .ok (.iload_n 1, 1) := by decide +kernel
theorem dX12_told_80 : decode cX12_told 80 = .ok (.iaload, 1) := by decide +kernel
theorem dX12_told_81 : decode cX12_told 81 = .ok (.goto 9, 3) := by decide +kernel
theorem dX12_told_84 : decode cX12_told 84 = .ok (.aload_n 0, 1) := by decide +kernel
theorem dX12_told_85 : decode cX12_told 85 = .ok (.getfield 32, 3) := by decide +kernel
theorem dX12_told_88 : decode cX12_told 88 = .ok (.iload_n 1, 1) := by decide +kernel
theorem dX12_told_89 : decode cX12_told 89 = .ok (.iaload, 1) := by decide +kernel
theorem dX12_told_90 : decode cX12_told 90 = .ok (.ireturn, 1) := by decide +kernel
theorem dX12_told_91 : decode cX12_told 91 = .ok (.iload_n 2, 1) := by decide +kernel
theorem dX12_told_92 : decode cX12_told 92 = .ok (.iconst 4, 1) := by decide +kernel
theorem dX12_told_93 : decode cX12_told 93 = .ok (.if_icmp .ne 12, 3) := by decide +kernel
theorem dX12_told_96 : decode cX12_told 96 = .ok (.aload_n 0, 1) := by decide +kernel
theorem dX12_told_97 : decode cX12_told 97 = .ok (.getfield 38, 3) := by decide +kernel
theorem dX12_told_100 : decode cX12_told 100 = .ok (.iload_n 1, 1) := by decide +kernel
theorem dX12_told_101 : decode cX12_told 101 = .ok (.iaload, 1) := by decide +kernel
theorem dX12_told_102 : decode cX12_told 102 = .ok (.goto 23, 3) := by decide +kernel
theorem dX12_told_105 : decode cX12_told 105 = .ok (.iload_n 2, 1) := by decide +kernel
theorem dX12_told_106 : decode cX12_told 106 = .ok (.iconst 5, 1) := by decide +kernel
theorem dX12_told_107 : decode cX12_told 107 = .ok (.if_icmp .ne 12, 3) := by decide +kernel
theorem dX12_told_110 : decode cX12_told 110 = .ok (.aload_n 0, 1) := by decide +kernel
theorem dX12_told_111 : decode cX12_told 111 = .ok (.getfield 41, 3) := by decide +kernel
theorem dX12_told_114 : decode cX12_told 114 = .ok (.iload_n 1, 1) := by decide +kernel
theorem dX12_told_115 : decode cX12_told 115 = .ok (.iaload, 1) := by decide +kernel
theorem dX12_told_116 : decode cX12_told 116 = .ok (.goto 9, 3) := by decide +kernel
theorem dX12_told_119 : decode cX12_told 119 = .ok (.aload_n 0, 1) := by decide +kernel
theorem dX12_told_120 : decode cX12_told 120 = .ok (.getfield 35, 3) := by decide +kernel
theorem dX12_told_123 : decode cX12_told 123 = .ok (.iload_n 1, 1) := by decide +kernel
theorem dX12_told_124 : decode cX12_told 124 = .ok (.iaload, 1) := by decide +kernel
theorem dX12_told_125 : decode cX12_told 125 = .ok (.ireturn, 1) := by decide +kernel
theorem dX12_feed_0 : decode cX12_feed 0 = .ok (.iload_n 1, 1) := by decide +kernel
theorem dX12_feed_1 : decode cX12_feed 1 = .ok (.i2l, 1) := by decide +kernel
theorem dX12_feed_2 : decode cX12_feed 2 = .ok (.lconst 0, 1) := by decide +kernel
theorem dX12_feed_3 : decode cX12_feed 3 = .ok (.ldc2_w 119, 3) := by decide +kernel
theorem dX12_feed_6 : decode cX12_feed 6 = .ok (.invokestatic 82, 3) := by decide +kernel
theorem dX12_feed_9 : decode cX12_feed 9 = .ok (.ifCond .ne 6, 3) := by decide +kernel
theorem dX12_feed_12 : decode cX12_feed 12 = .ok (.bipush (-2), 2) := by decide +kernel
theorem dX12_feed_14 : decode cX12_feed 14 = .ok (.ireturn, 1) := by decide +kernel
theorem dX12_feed_15 : decode cX12_feed 15 = .ok (.aload_n 0, 1) := by decide +kernel
theorem dX12_feed_16 : decode cX12_feed 16 = .ok (.getfield 121, 3) := by decide +kernel
theorem dX12_feed_19 : decode cX12_feed 19 = .ok (.sipush 160, 3) := by decide +kernel
theorem dX12_feed_22 : decode cX12_feed 22 = .ok (.if_icmp .ne 6, 3) := by decide +kernel
theorem dX12_feed_25 : decode cX12_feed 25 = .ok (.bipush (-4), 2) := by decide +kernel
theorem dX12_feed_27 : decode cX12_feed 27 = .ok (.ireturn, 1) := by decide +kernel
theorem dX12_feed_28 : decode cX12_feed 28 = .ok (.aload_n 0, 1) := by decide +kernel
theorem dX12_feed_29 : decode cX12_feed 29 = .ok (.getfield 20, 3) := by decide +kernel
theorem dX12_feed_32 : decode cX12_feed 32 = .ok (.aload_n 0, 1) := by decide +kernel
theorem dX12_feed_33 : decode cX12_feed 33 = .ok (.getfield 121, 3) := by decide +kernel
theorem dX12_feed_36 : decode cX12_feed 36 = .ok (.iload_n 1, 1) := by decide +kernel
theorem dX12_feed_37 : decode cX12_feed 37 = .ok (.iastore, 1) := by decide +kernel
theorem dX12_feed_38 : decode cX12_feed 38 = .ok (.aload_n 0, 1) := by decide +kernel
theorem dX12_feed_39 : decode cX12_feed 39 = .ok (.dup, 1) := by decide +kernel
theorem dX12_feed_40 : decode cX12_feed 40 = .ok (.getfield 121, 3) := by decide +kernel
theorem dX12_feed_43 : decode cX12_feed 43 = .ok (.iconst 1, 1) := by decide +kernel
theorem dX12_feed_44 : decode cX12_feed 44 = .ok (.iadd, 1) := by decide +kernel
theorem dX12_feed_45 : decode cX12_feed 45 = .ok (.putfield 121, 3) := by decide +kernel
theorem dX12_feed_48 : decode cX12_feed 48 = .ok (.aload_n 0, 1) := by decide +kernel
theorem dX12_feed_49 : decode cX12_feed 49 = .ok (.getfield 121, 3) := by decide +kernel
theorem dX12_feed_52 : decode cX12_feed 52 = .ok (.ireturn, 1) := by decide +kernel
theorem dX12_byteAt_0 : decode cX12_byteAt 0 = .ok (.iload_n 1, 1) := by decide +kernel
theorem dX12_byteAt_1 : decode cX12_byteAt 1 = .ok (.aload_n 0, 1) := by decide +kernel
theorem dX12_byteAt_2 : decode cX12_byteAt 2 = .ok (.getfield 124, 3) := by decide +kernel
theorem dX12_byteAt_5 : decode cX12_byteAt 5 = .ok (.if_icmp .ge 17, 3) := by decide +kernel
theorem dX12_byteAt_8 : decode cX12_byteAt 8 = .ok (.aload_n 0, 1) := by decide +kernel
theorem dX12_byteAt_9 : decode cX12_byteAt 9 = .ok (.getfield 13, 3) := by decide +kernel
theorem dX12_byteAt_12 : decode cX12_byteAt 12 = .ok (.aload_n 0, 1) := by decide +kernel
theorem dX12_byteAt_13 : decode cX12_byteAt 13 = .ok (.getfield 127, 3) := by decide +kernel
theorem dX12_byteAt_16 : decode cX12_byteAt 16 = .ok (.iload_n 1, 1) := by decide +kernel
theorem dX12_byteAt_17 : decode cX12_byteAt 17 = .ok (.iadd, 1) := by decide +kernel
theorem dX12_byteAt_18 : decode cX12_byteAt 18 = .ok (.iaload, 1) := by decide +kernel
theorem dX12_byteAt_19 : decode cX12_byteAt 19 = .ok (.goto 4, 3) := by decide +kernel
theorem dX12_byteAt_22 : decode cX12_byteAt 22 = .ok (.iconst (-1), 1) := by decide +kernel
theorem dX12_byteAt_23 : decode cX12_byteAt 23 = .ok (.ireturn, 1) := by decide +kernel
theorem dX12_next_0 : decode cX12_next 0 = .ok (.aload_n 0, 1) := by decide +kernel
theorem dX12_next_1 : decode cX12_next 1 = .ok (.aload_n 0, 1) := by decide +kernel
theorem dX12_next_2 : decode cX12_next 2 = .ok (.getfield 130, 3) := by decide +kernel
theorem dX12_next_5 : decode cX12_next 5 = .ok (.invokevirtual 133, 3) := by decide +kernel
theorem dX12_next_8 : decode cX12_next 8 = .ok (.bipush 32, 2) := by decide +kernel
theorem dX12_next_10 : decode cX12_next 10 = .ok (.if_icmp .eq 16, 3) := by decide +kernel
theorem dX12_next_13 : decode cX12_next 13 = .ok (.aload_n 0, 1) := by decide +kernel
theorem dX12_next_14 : decode cX12_next 14 = .ok (.aload_n 0, 1) := by decide +kernel
theorem dX12_next_15 : decode cX12_next 15 = .ok (.getfield 130, 3) := by decide +kernel
theorem dX12_next_18 : decode cX12_next 18 = .ok (.invokevirtual 133, 3) := by decide +kernel
theorem dX12_next_21 : decode cX12_next 21 = .ok (.bipush 10, 2) := by decide +kernel
theorem dX12_next_23 : decode cX12_next 23 = .ok (.if_icmp .ne 16, 3) := by decide +kernel
theorem dX12_next_26 : decode cX12_next 26 = .ok (.aload_n 0, 1) := by decide +kernel
theorem dX12_next_27 : decode cX12_next 27 = .ok (.dup, 1) := by decide +kernel
theorem dX12_next_28 : decode cX12_next 28 = .ok (.getfield 130, 3) := by decide +kernel
theorem dX12_next_31 : decode cX12_next 31 = .ok (.iconst 1, 1) := by decide +kernel
theorem dX12_next_32 : decode cX12_next 32 = .ok (.iadd, 1) := by decide +kernel
theorem dX12_next_33 : decode cX12_next 33 = .ok (.putfield 130, 3) := by decide +kernel
theorem dX12_next_36 : decode cX12_next 36 = .ok (.goto (-36), 3) := by decide +kernel
theorem dX12_next_39 : decode cX12_next 39 = .ok (.aload_n 0, 1) := by decide +kernel
theorem dX12_next_40 : decode cX12_next 40 = .ok (.aload_n 0, 1) := by decide +kernel
theorem dX12_next_41 : decode cX12_next 41 = .ok (.getfield 130, 3) := by decide +kernel
theorem dX12_next_44 : decode cX12_next 44 = .ok (.putfield 137, 3) := by decide +kernel
theorem dX12_next_47 : decode cX12_next 47 = .ok (.aload_n 0, 1) := by decide +kernel
theorem dX12_next_48 : decode cX12_next 48 = .ok (.aload_n 0, 1) := by decide +kernel
theorem dX12_next_49 : decode cX12_next 49 = .ok (.getfield 130, 3) := by decide +kernel
theorem dX12_next_52 : decode cX12_next 52 = .ok (.invokevirtual 133, 3) := by decide +kernel
theorem dX12_next_55 : decode cX12_next 55 = .ok (.istore_n 1, 1) := by decide +kernel
theorem dX12_next_56 : decode cX12_next 56 = .ok (.aload_n 0, 1) := by decide +kernel
theorem dX12_next_57 : decode cX12_next 57 = .ok (.iconst 4, 1) := by decide +kernel
theorem dX12_next_58 : decode cX12_next 58 = .ok (.putfield 140, 3) := by decide +kernel
theorem dX12_next_61 : decode cX12_next 61 = .ok (.iload_n 1, 1) := by decide +kernel
theorem dX12_next_62 : decode cX12_next 62 = .ok (.ifCond .ge 19, 3) := by decide +kernel
theorem dX12_next_65 : decode cX12_next 65 = .ok (.aload_n 0, 1) := by decide +kernel
theorem dX12_next_66 : decode cX12_next 66 = .ok (.iconst 0, 1) := by decide +kernel
theorem dX12_next_67 : decode cX12_next 67 = .ok (.putfield 140, 3) := by decide +kernel
theorem dX12_next_70 : decode cX12_next 70 = .ok (.aload_n 0, 1) := by decide +kernel
theorem dX12_next_71 : decode cX12_next 71 = .ok (.aload_n 0, 1) := by decide +kernel
theorem dX12_next_72 : decode cX12_next 72 = .ok (.getfield 124, 3) := by decide +kernel
theorem dX12_next_75 : decode cX12_next 75 = .ok (.putfield 137, 3) := by decide +kernel
theorem dX12_next_78 : decode cX12_next 78 = .ok (.goto 243, 3) := by decide +kernel
theorem dX12_next_81 : decode cX12_next 81 = .ok (.iload_n 1, 1) := by decide +kernel
theorem dX12_next_82 : decode cX12_next 82 = .ok (.i2l, 1) := by decide +kernel
theorem dX12_next_83 : decode cX12_next 83 = .ok (.ldc2_w 143, 3) := by decide +kernel
theorem dX12_next_86 : decode cX12_next 86 = .ok (.ldc2_w 145, 3) := by decide +kernel
theorem dX12_next_89 : decode cX12_next 89 = .ok (.invokestatic 82, 3) := by decide +kernel
theorem dX12_next_92 : decode cX12_next 92 = .ok (.ifCond .eq 42, 3) := by decide +kernel
theorem dX12_next_95 : decode cX12_next 95 = .ok (.aload_n 0, 1) := by decide +kernel
theorem dX12_next_96 : decode cX12_next 96 = .ok (.iconst 1, 1) := by decide +kernel
theorem dX12_next_97 : decode cX12_next 97 = .ok (.putfield 140, 3) := by decide +kernel
theorem dX12_next_100 : decode cX12_next 100 = .ok (.aload_n 0, 1) := by decide +kernel
theorem dX12_next_101 : decode cX12_next 101 = .ok (.aload_n 0, 1) := by decide +kernel
theorem dX12_next_102 : decode cX12_next 102 = .ok (.getfield 130, 3) := by decide +kernel
theorem dX12_next_105 : decode cX12_next 105 = .ok (.invokevirtual 133, 3) := by decide +kernel
theorem dX12_next_108 : decode cX12_next 108 = .ok (.i2l, 1) := by decide +kernel
theorem dX12_next_109 : decode cX12_next 109 = .ok (.ldc2_w 143, 3) := by decide +kernel
theorem dX12_next_112 : decode cX12_next 112 = .ok (.ldc2_w 145, 3) := by decide +kernel
theorem dX12_next_115 : decode cX12_next 115 = .ok (.invokestatic 82, 3) := by decide +kernel
theorem dX12_next_118 : decode cX12_next 118 = .ok (.ifCond .eq 203, 3) := by decide +kernel
theorem dX12_next_121 : decode cX12_next 121 = .ok (.aload_n 0, 1) := by decide +kernel
theorem dX12_next_122 : decode cX12_next 122 = .ok (.dup, 1) := by decide +kernel
theorem dX12_next_123 : decode cX12_next 123 = .ok (.getfield 130, 3) := by decide +kernel
theorem dX12_next_126 : decode cX12_next 126 = .ok (.iconst 1, 1) := by decide +kernel
theorem dX12_next_127 : decode cX12_next 127 = .ok (.iadd, 1) := by decide +kernel
theorem dX12_next_128 : decode cX12_next 128 = .ok (.putfield 130, 3) := by decide +kernel
theorem dX12_next_131 : decode cX12_next 131 = .ok (.goto (-31), 3) := by decide +kernel
theorem dX12_next_134 : decode cX12_next 134 = .ok (.iload_n 1, 1) := by decide +kernel
theorem dX12_next_135 : decode cX12_next 135 = .ok (.i2l, 1) := by decide +kernel
theorem dX12_next_136 : decode cX12_next 136 = .ok (.ldc2_w 147, 3) := by decide +kernel
theorem dX12_next_139 : decode cX12_next 139 = .ok (.ldc2_w 149, 3) := by decide +kernel
theorem dX12_next_142 : decode cX12_next 142 = .ok (.invokestatic 82, 3) := by decide +kernel
theorem dX12_next_145 : decode cX12_next 145 = .ok (.ifCond .eq 107, 3) := by decide +kernel
theorem dX12_next_148 : decode cX12_next 148 = .ok (.aload_n 0, 1) := by decide +kernel
theorem dX12_next_149 : decode cX12_next 149 = .ok (.iconst 2, 1) := by decide +kernel
theorem dX12_next_150 : decode cX12_next 150 = .ok (.putfield 140, 3) := by decide +kernel
theorem dX12_next_153 : decode cX12_next 153 = .ok (.aload_n 0, 1) := by decide +kernel
theorem dX12_next_154 : decode cX12_next 154 = .ok (.lconst 0, 1) := by decide +kernel
theorem dX12_next_155 : decode cX12_next 155 = .ok (.putfield 151, 3) := by decide +kernel
theorem dX12_next_158 : decode cX12_next 158 = .ok (.iconst 0, 1) := by decide +kernel
theorem dX12_next_159 : decode cX12_next 159 = .ok (.istore_n 2, 1) := by decide +kernel
theorem dX12_next_160 : decode cX12_next 160 = .ok (.aload_n 0, 1) := by decide +kernel
theorem dX12_next_161 : decode cX12_next 161 = .ok (.aload_n 0, 1) := by decide +kernel
theorem dX12_next_162 : decode cX12_next 162 = .ok (.getfield 130, 3) := by decide +kernel
theorem dX12_next_165 : decode cX12_next 165 = .ok (.invokevirtual 133, 3) := by decide +kernel
theorem dX12_next_168 : decode cX12_next 168 = .ok (.i2l, 1) := by decide +kernel
theorem dX12_next_169 : decode cX12_next 169 = .ok (.ldc2_w 147, 3) := by decide +kernel
theorem dX12_next_172 : decode cX12_next 172 = .ok (.ldc2_w 149, 3) := by decide +kernel
theorem dX12_next_175 : decode cX12_next 175 = .ok (.invokestatic 82, 3) := by decide +kernel
theorem dX12_next_178 : decode cX12_next 178 = .ok (.ifCond .eq 57, 3) := by decide +kernel
theorem dX12_next_181 : decode cX12_next 181 = .ok (.aload_n 0, 1) := by decide +kernel
theorem dX12_next_182 : decode cX12_next 182 = .ok (.iload_n 2, 1) := by decide +kernel
theorem dX12_next_183 : decode cX12_next 183 = .ok (.iconst 4, 1) := by decide +kernel
theorem dX12_next_184 : decode cX12_next 184 = .ok (.if_icmp .ge 28, 3) := by decide +kernel
theorem dX12_next_187 : decode cX12_next 187 = .ok (.ldc2_w 155, 3) := by decide +kernel
theorem dX12_next_190 : decode cX12_next 190 = .ok (.aload_n 0, 1) := by decide +kernel
theorem dX12_next_191 : decode cX12_next 191 = .ok (.getfield 151, 3) := by decide +kernel
theorem dX12_next_194 : decode cX12_next 194 = .ok (.lmul, 1) := by decide +kernel
theorem dX12_next_195 : decode cX12_next 195 = .ok (.aload_n 0, 1) := by decide +kernel
theorem dX12_next_196 : decode cX12_next 196 = .ok (.aload_n 0, 1) := by decide +kernel
theorem dX12_next_197 : decode cX12_next 197 = .ok (.getfield 130, 3) := by decide +kernel
theorem dX12_next_200 : decode cX12_next 200 = .ok (.invokevirtual 133, 3) := by decide +kernel
theorem dX12_next_203 : decode cX12_next 203 = .ok (.i2l, 1) := by decide +kernel
theorem dX12_next_204 : decode cX12_next 204 = .ok (.ladd, 1) := by decide +kernel
theorem dX12_next_205 : decode cX12_next 205 = .ok (.ldc2_w 147, 3) := by decide +kernel
theorem dX12_next_208 : decode cX12_next 208 = .ok (.lsub, 1) := by decide +kernel
theorem dX12_next_209 : decode cX12_next 209 = .ok (.goto 7, 3) := by decide +kernel
theorem dX12_next_212 : decode cX12_next 212 = .ok (.aload_n 0, 1) := by decide +kernel
theorem dX12_next_213 : decode cX12_next 213 = .ok (.getfield 151, 3) := by decide +kernel
theorem dX12_next_216 : decode cX12_next 216 = .ok (.putfield 151, 3) := by decide +kernel
theorem dX12_next_219 : decode cX12_next 219 = .ok (.iinc 2 1, 3) := by decide +kernel
theorem dX12_next_222 : decode cX12_next 222 = .ok (.aload_n 0, 1) := by decide +kernel
theorem dX12_next_223 : decode cX12_next 223 = .ok (.dup, 1) := by decide +kernel
theorem dX12_next_224 : decode cX12_next 224 = .ok (.getfield 130, 3) := by decide +kernel
theorem dX12_next_227 : decode cX12_next 227 = .ok (.iconst 1, 1) := by decide +kernel
theorem dX12_next_228 : decode cX12_next 228 = .ok (.iadd, 1) := by decide +kernel
theorem dX12_next_229 : decode cX12_next 229 = .ok (.putfield 130, 3) := by decide +kernel
theorem dX12_next_232 : decode cX12_next 232 = .ok (.goto (-72), 3) := by decide +kernel
theorem dX12_next_235 : decode cX12_next 235 = .ok (.aload_n 0, 1) := by decide +kernel
theorem dX12_next_236 : decode cX12_next 236 = .ok (.iload_n 2, 1) := by decide +kernel
theorem dX12_next_237 : decode cX12_next 237 = .ok (.iconst 4, 1) := by decide +kernel
theorem dX12_next_238 : decode cX12_next 238 = .ok (.if_icmp .le 7, 3) := by decide +kernel
theorem dX12_next_241 : decode cX12_next 241 = .ok (.iconst 4, 1) := by decide +kernel
theorem dX12_next_242 : decode cX12_next 242 = .ok (.goto 4, 3) := by decide +kernel
theorem dX12_next_245 : decode cX12_next 245 = .ok (.iconst 2, 1) := by decide +kernel
theorem dX12_next_246 : decode cX12_next 246 = .ok (.putfield 140, 3) := by decide +kernel
theorem dX12_next_249 : decode cX12_next 249 = .ok (.goto 72, 3) := by decide +kernel
theorem dX12_next_252 : decode cX12_next 252 = .ok (.iload_n 1, 1) := by decide +kernel
theorem dX12_next_253 : decode cX12_next 253 = .ok (.bipush 40, 2) := by decide +kernel
theorem dX12_next_255 : decode cX12_next 255 = .ok (.if_icmp .eq 45, 3) := by decide +kernel
theorem dX12_next_258 : decode cX12_next 258 = .ok (.iload_n 1, 1) := by decide +kernel
theorem dX12_next_259 : decode cX12_next 259 = .ok (.bipush 41, 2) := by decide +kernel
theorem dX12_next_261 : decode cX12_next 261 = .ok (.if_icmp .eq 39, 3) := by decide +kernel
theorem dX12_next_264 : decode cX12_next 264 = .ok (.iload_n 1, 1) := by decide +kernel
theorem dX12_next_265 : decode cX12_next 265 = .ok (.bipush 59, 2) := by decide +kernel
theorem dX12_next_267 : decode cX12_next 267 = .ok (.if_icmp .eq 33, 3) := by decide +kernel
theorem dX12_next_270 : decode cX12_next 270 = .ok (.iload_n 1, 1) := by decide +kernel
theorem dX12_next_271 : decode cX12_next 271 = .ok (.bipush 43, 2) := by decide +kernel
theorem dX12_next_273 : decode cX12_next 273 = .ok (.if_icmp .eq 27, 3) := by decide +kernel
theorem dX12_next_276 : decode cX12_next 276 = .ok (.iload_n 1, 1) := by decide +kernel
theorem dX12_next_277 : decode cX12_next 277 = .ok (.bipush 45, 2) := by decide +kernel
theorem dX12_next_279 : decode cX12_next 279 = .ok (.if_icmp .eq 21, 3) := by decide +kernel
theorem dX12_next_282 : decode cX12_next 282 = .ok (.iload_n 1, 1) := by decide +kernel
theorem dX12_next_283 : decode cX12_next 283 = .ok (.bipush 42, 2) := by decide +kernel
theorem dX12_next_285 : decode cX12_next 285 = .ok (.if_icmp .eq 15, 3) := by decide +kernel
theorem dX12_next_288 : decode cX12_next 288 = .ok (.iload_n 1, 1) := by decide +kernel
theorem dX12_next_289 : decode cX12_next 289 = .ok (.bipush 60, 2) := by decide +kernel
theorem dX12_next_291 : decode cX12_next 291 = .ok (.if_icmp .eq 9, 3) := by decide +kernel
theorem dX12_next_294 : decode cX12_next 294 = .ok (.iload_n 1, 1) := by decide +kernel
theorem dX12_next_295 : decode cX12_next 295 = .ok (.bipush 61, 2) := by decide +kernel
theorem dX12_next_297 : decode cX12_next 297 = .ok (.if_icmp .ne 24, 3) := by decide +kernel
theorem dX12_next_300 : decode cX12_next 300 = .ok (.aload_n 0, 1) := by decide +kernel
theorem dX12_next_301 : decode cX12_next 301 = .ok (.iconst 3, 1) := by decide +kernel
theorem dX12_next_302 : decode cX12_next 302 = .ok (.putfield 140, 3) := by decide +kernel
theorem dX12_next_305 : decode cX12_next 305 = .ok (.aload_n 0, 1) := by decide +kernel
theorem dX12_next_306 : decode cX12_next 306 = .ok (.iload_n 1, 1) := by decide +kernel
theorem dX12_next_307 : decode cX12_next 307 = .ok (.i2l, 1) := by decide +kernel
theorem dX12_next_308 : decode cX12_next 308 = .ok (.putfield 151, 3) := by decide +kernel
theorem dX12_next_311 : decode cX12_next 311 = .ok (.aload_n 0, 1) := by decide +kernel
theorem dX12_next_312 : decode cX12_next 312 = .ok (.dup, 1) := by decide +kernel
theorem dX12_next_313 : decode cX12_next 313 = .ok (.getfield 130, 3) := by decide +kernel
theorem dX12_next_316 : decode cX12_next 316 = .ok (.iconst 1, 1) := by decide +kernel
theorem dX12_next_317 : decode cX12_next 317 = .ok (.iadd, 1) := by decide +kernel
theorem dX12_next_318 : decode cX12_next 318 = .ok (.putfield 130, 3) := by decide +kernel
theorem dX12_next_321 : decode cX12_next 321 = .ok (.return_, 1) := by decide +kernel
theorem dX12_fail_0 : decode cX12_fail 0 = .ok (.aload_n 0, 1) := by decide +kernel
theorem dX12_fail_1 : decode cX12_fail 1 = .ok (.getfield 157, 3) := by decide +kernel
theorem dX12_fail_4 : decode cX12_fail 4 = .ok (.ifCond .ne 16, 3) := by decide +kernel
theorem dX12_fail_7 : decode cX12_fail 7 = .ok (.aload_n 0, 1) := by decide +kernel
theorem dX12_fail_8 : decode cX12_fail 8 = .ok (.iconst 1, 1) := by decide +kernel
theorem dX12_fail_9 : decode cX12_fail 9 = .ok (.putfield 157, 3) := by decide +kernel
theorem dX12_fail_12 : decode cX12_fail 12 = .ok (.aload_n 0, 1) := by decide +kernel
theorem dX12_fail_13 : decode cX12_fail 13 = .ok (.aload_n 0, 1) := by decide +kernel
theorem dX12_fail_14 : decode cX12_fail 14 = .ok (.getfield 137, 3) := by decide +kernel
theorem dX12_fail_17 : decode cX12_fail 17 = .ok (.putfield 161, 3) := by decide +kernel
theorem dX12_fail_20 : decode cX12_fail 20 = .ok (.return_, 1) := by decide +kernel
theorem dX12_isLetter_0 : decode cX12_isLetter 0 = .ok (.aload_n 0, 1) := by decide +kernel
theorem dX12_isLetter_1 : decode cX12_isLetter 1 = .ok (.getfield 137, 3) := by decide +kernel
theorem dX12_isLetter_4 : decode cX12_isLetter 4 = .ok (.iload_n 1, 1) := by decide +kernel
theorem dX12_isLetter_5 : decode cX12_isLetter 5 = .ok (.iadd, 1) := by decide +kernel
theorem dX12_isLetter_6 : decode cX12_isLetter 6 = .ok (.aload_n 0, 1) := by decide +kernel
theorem dX12_isLetter_7 : decode cX12_isLetter 7 = .ok (.getfield 130, 3) := by decide +kernel
theorem dX12_isLetter_10 : decode cX12_isLetter 10 = .ok (.if_icmp .ge 25, 3) := by decide +kernel
theorem dX12_isLetter_13 : decode cX12_isLetter 13 = .ok (.aload_n 0, 1) := by decide +kernel
theorem dX12_isLetter_14 : decode cX12_isLetter 14 = .ok (.aload_n 0, 1) := by decide +kernel
theorem dX12_isLetter_15 : decode cX12_isLetter 15 = .ok (.getfield 137, 3) := by decide +kernel
theorem dX12_isLetter_18 : decode cX12_isLetter 18 = .ok (.iload_n 1, 1) := by decide +kernel
theorem dX12_isLetter_19 : decode cX12_isLetter 19 = .ok (.iadd, 1) := by decide +kernel
theorem dX12_isLetter_20 : decode cX12_isLetter 20 = .ok (.invokevirtual 133, 3) := by decide +kernel
theorem dX12_isLetter_23 : decode cX12_isLetter 23 = .ok (.iload_n 2, 1) := by decide +kernel
theorem dX12_isLetter_24 : decode cX12_isLetter 24 = .ok (.if_icmp .ne 7, 3) := by decide +kernel
theorem dX12_isLetter_27 : decode cX12_isLetter 27 = .ok (.iconst 1, 1) := by decide +kernel
theorem dX12_isLetter_28 : decode cX12_isLetter 28 = .ok (.goto 16, 3) := by decide +kernel
theorem dX12_isLetter_31 : decode cX12_isLetter 31 = .ok (.iconst 0, 1) := by decide +kernel
theorem dX12_isLetter_32 : decode cX12_isLetter 32 = .ok (.goto 12, 3) := by decide +kernel
theorem dX12_isLetter_35 : decode cX12_isLetter 35 = .ok (.iload_n 2, 1) := by decide +kernel
theorem dX12_isLetter_36 : decode cX12_isLetter 36 = .ok (.ifCond .ne 7, 3) := by decide +kernel
theorem dX12_isLetter_39 : decode cX12_isLetter 39 = .ok (.iconst 1, 1) := by decide +kernel
theorem dX12_isLetter_40 : decode cX12_isLetter 40 = .ok (.goto 4, 3) := by decide +kernel
theorem dX12_isLetter_43 : decode cX12_isLetter 43 = .ok (.iconst 0, 1) := by decide +kernel
theorem dX12_isLetter_44 : decode cX12_isLetter 44 = .ok (.ireturn, 1) := by decide +kernel
theorem dX12_isWord_0 : decode cX12_isWord 0 = .ok (.aload_n 0, 1) := by decide +kernel
theorem dX12_isWord_1 : decode cX12_isWord 1 = .ok (.getfield 157, 3) := by decide +kernel
theorem dX12_isWord_4 : decode cX12_isWord 4 = .ok (.ifCond .ne 108, 3) := by decide +kernel
theorem dX12_isWord_7 : decode cX12_isWord 7 = .ok (.aload_n 0, 1) := by decide +kernel
theorem dX12_isWord_8 : decode cX12_isWord 8 = .ok (.getfield 140, 3) := by decide +kernel
theorem dX12_isWord_11 : decode cX12_isWord 11 = .ok (.iconst 1, 1) := by decide +kernel
theorem dX12_isWord_12 : decode cX12_isWord 12 = .ok (.if_icmp .ne 100, 3) := by decide +kernel
theorem dX12_isWord_15 : decode cX12_isWord 15 = .ok (.aload_n 0, 1) := by decide +kernel
theorem dX12_isWord_16 : decode cX12_isWord 16 = .ok (.getfield 130, 3) := by decide +kernel
theorem dX12_isWord_19 : decode cX12_isWord 19 = .ok (.aload_n 0, 1) := by decide +kernel
theorem dX12_isWord_20 : decode cX12_isWord 20 = .ok (.getfield 137, 3) := by decide +kernel
theorem dX12_isWord_23 : decode cX12_isWord 23 = .ok (.bipush 8, 2) := by decide +kernel
theorem dX12_isWord_25 : decode cX12_isWord 25 = .ok (.iadd, 1) := by decide +kernel
theorem dX12_isWord_26 : decode cX12_isWord 26 = .ok (.if_icmp .gt 86, 3) := by decide +kernel
theorem dX12_isWord_29 : decode cX12_isWord 29 = .ok (.aload_n 0, 1) := by decide +kernel
theorem dX12_isWord_30 : decode cX12_isWord 30 = .ok (.iconst 0, 1) := by decide +kernel
theorem dX12_isWord_31 : decode cX12_isWord 31 = .ok (.iload_n 1, 1) := by decide +kernel
theorem dX12_isWord_32 : decode cX12_isWord 32 = .ok (.invokevirtual 164, 3) := by decide +kernel
theorem dX12_isWord_35 : decode cX12_isWord 35 = .ok (.ifCond .eq 77, 3) := by decide +kernel
theorem dX12_isWord_38 : decode cX12_isWord 38 = .ok (.aload_n 0, 1) := by decide +kernel
theorem dX12_isWord_39 : decode cX12_isWord 39 = .ok (.iconst 1, 1) := by decide +kernel
theorem dX12_isWord_40 : decode cX12_isWord 40 = .ok (.iload_n 2, 1) := by decide +kernel
theorem dX12_isWord_41 : decode cX12_isWord 41 = .ok (.invokevirtual 164, 3) := by decide +kernel
theorem dX12_isWord_44 : decode cX12_isWord 44 = .ok (.ifCond .eq 68, 3) := by decide +kernel
theorem dX12_isWord_47 : decode cX12_isWord 47 = .ok (.aload_n 0, 1) := by decide +kernel
theorem dX12_isWord_48 : decode cX12_isWord 48 = .ok (.iconst 2, 1) := by decide +kernel
theorem dX12_isWord_49 : decode cX12_isWord 49 = .ok (.iload_n 3, 1) := by decide +kernel
theorem dX12_isWord_50 : decode cX12_isWord 50 = .ok (.invokevirtual 164, 3) := by decide +kernel
theorem dX12_isWord_53 : decode cX12_isWord 53 = .ok (.ifCond .eq 59, 3) := by decide +kernel
theorem dX12_isWord_56 : decode cX12_isWord 56 = .ok (.aload_n 0, 1) := by decide +kernel
theorem dX12_isWord_57 : decode cX12_isWord 57 = .ok (.iconst 3, 1) := by decide +kernel
theorem dX12_isWord_58 : decode cX12_isWord 58 = .ok (.iload 4, 2) := by decide +kernel
theorem dX12_isWord_60 : decode cX12_isWord 60 = .ok (.invokevirtual 164, 3) := by decide +kernel
theorem dX12_isWord_63 : decode cX12_isWord 63 = .ok (.ifCond .eq 49, 3) := by decide +kernel
theorem dX12_isWord_66 : decode cX12_isWord 66 = .ok (.aload_n 0, 1) := by decide +kernel
theorem dX12_isWord_67 : decode cX12_isWord 67 = .ok (.iconst 4, 1) := by decide +kernel
theorem dX12_isWord_68 : decode cX12_isWord 68 = .ok (.iload 5, 2) := by decide +kernel
theorem dX12_isWord_70 : decode cX12_isWord 70 = .ok (.invokevirtual 164, 3) := by decide +kernel
theorem dX12_isWord_73 : decode cX12_isWord 73 = .ok (.ifCond .eq 39, 3) := by decide +kernel
theorem dX12_isWord_76 : decode cX12_isWord 76 = .ok (.aload_n 0, 1) := by decide +kernel
theorem dX12_isWord_77 : decode cX12_isWord 77 = .ok (.iconst 5, 1) := by decide +kernel
theorem dX12_isWord_78 : decode cX12_isWord 78 = .ok (.iload 6, 2) := by decide +kernel
theorem dX12_isWord_80 : decode cX12_isWord 80 = .ok (.invokevirtual 164, 3) := by decide +kernel
theorem dX12_isWord_83 : decode cX12_isWord 83 = .ok (.ifCond .eq 29, 3) := by decide +kernel
theorem dX12_isWord_86 : decode cX12_isWord 86 = .ok (.aload_n 0, 1) := by decide +kernel
theorem dX12_isWord_87 : decode cX12_isWord 87 = .ok (.bipush 6, 2) := by decide +kernel
theorem dX12_isWord_89 : decode cX12_isWord 89 = .ok (.iload 7, 2) := by decide +kernel
theorem dX12_isWord_91 : decode cX12_isWord 91 = .ok (.invokevirtual 164, 3) := by decide +kernel
theorem dX12_isWord_94 : decode cX12_isWord 94 = .ok (.ifCond .eq 18, 3) := by decide +kernel
theorem dX12_isWord_97 : decode cX12_isWord 97 = .ok (.aload_n 0, 1) := by decide +kernel
theorem dX12_isWord_98 : decode cX12_isWord 98 = .ok (.bipush 7, 2) := by decide +kernel
theorem dX12_isWord_100 : decode cX12_isWord 100 = .ok (.iload 8, 2) := by decide +kernel
theorem dX12_isWord_102 : decode cX12_isWord 102 = .ok (.invokevirtual 164, 3) := by decide +kernel
theorem dX12_isWord_105 : decode cX12_isWord 105 = .ok (.ifCond .eq 7, 3) := by decide +kernel
theorem dX12_isWord_108 : decode cX12_isWord 108 = .ok (.iconst 1, 1) := by decide +kernel
theorem dX12_isWord_109 : decode cX12_isWord 109 = .ok (.goto 4, 3) := by decide +kernel
theorem dX12_isWord_112 : decode cX12_isWord 112 = .ok (.iconst 0, 1) := by decide +kernel
theorem dX12_isWord_113 : decode cX12_isWord 113 = .ok (.ireturn, 1) := by decide +kernel
theorem dX12_isSign_0 : decode cX12_isSign 0 = .ok (.aload_n 0, 1) := by decide +kernel
theorem dX12_isSign_1 : decode cX12_isSign 1 = .ok (.getfield 157, 3) := by decide +kernel
theorem dX12_isSign_4 : decode cX12_isSign 4 = .ok (.ifCond .ne 25, 3) := by decide +kernel
theorem dX12_isSign_7 : decode cX12_isSign 7 = .ok (.aload_n 0, 1) := by decide +kernel
theorem dX12_isSign_8 : decode cX12_isSign 8 = .ok (.getfield 140, 3) := by decide +kernel
theorem dX12_isSign_11 : decode cX12_isSign 11 = .ok (.iconst 3, 1) := by decide +kernel
theorem dX12_isSign_12 : decode cX12_isSign 12 = .ok (.if_icmp .ne 17, 3) := by decide +kernel
theorem dX12_isSign_15 : decode cX12_isSign 15 = .ok (.aload_n 0, 1) := by decide +kernel
theorem dX12_isSign_16 : decode cX12_isSign 16 = .ok (.getfield 151, 3) := by decide +kernel
theorem dX12_isSign_19 : decode cX12_isSign 19 = .ok (.iload_n 1, 1) := by decide +kernel
theorem dX12_isSign_20 : decode cX12_isSign 20 = .ok (.i2l, 1) := by decide +kernel
theorem dX12_isSign_21 : decode cX12_isSign 21 = .ok (.lcmp, 1) := by decide +kernel
theorem dX12_isSign_22 : decode cX12_isSign 22 = .ok (.ifCond .ne 7, 3) := by decide +kernel
theorem dX12_isSign_25 : decode cX12_isSign 25 = .ok (.iconst 1, 1) := by decide +kernel
theorem dX12_isSign_26 : decode cX12_isSign 26 = .ok (.goto 4, 3) := by decide +kernel
theorem dX12_isSign_29 : decode cX12_isSign 29 = .ok (.iconst 0, 1) := by decide +kernel
theorem dX12_isSign_30 : decode cX12_isSign 30 = .ok (.ireturn, 1) := by decide +kernel
theorem dX12_opens_0 : decode cX12_opens 0 = .ok (.aload_n 0, 1) := by decide +kernel
theorem dX12_opens_1 : decode cX12_opens 1 = .ok (.getfield 168, 3) := by decide +kernel
theorem dX12_opens_4 : decode cX12_opens 4 = .ok (.iconst 5, 1) := by decide +kernel
theorem dX12_opens_5 : decode cX12_opens 5 = .ok (.if_icmp .ne 9, 3) := by decide +kernel
theorem dX12_opens_8 : decode cX12_opens 8 = .ok (.aload_n 0, 1) := by decide +kernel
theorem dX12_opens_9 : decode cX12_opens 9 = .ok (.invokevirtual 171, 3) := by decide +kernel
theorem dX12_opens_12 : decode cX12_opens 12 = .ok (.iconst 0, 1) := by decide +kernel
theorem dX12_opens_13 : decode cX12_opens 13 = .ok (.ireturn, 1) := by decide +kernel
theorem dX12_opens_14 : decode cX12_opens 14 = .ok (.aload_n 0, 1) := by decide +kernel
theorem dX12_opens_15 : decode cX12_opens 15 = .ok (.dup, 1) := by decide +kernel
theorem dX12_opens_16 : decode cX12_opens 16 = .ok (.getfield 168, 3) := by decide +kernel
theorem dX12_opens_19 : decode cX12_opens 19 = .ok (.iconst 1, 1) := by decide +kernel
theorem dX12_opens_20 : decode cX12_opens 20 = .ok (.iadd, 1) := by decide +kernel
theorem dX12_opens_21 : decode cX12_opens 21 = .ok (.putfield 168, 3) := by decide +kernel
theorem dX12_opens_24 : decode cX12_opens 24 = .ok (.aload_n 0, 1) := by decide +kernel
theorem dX12_opens_25 : decode cX12_opens 25 = .ok (.invokevirtual 174, 3) := by decide +kernel
theorem dX12_opens_28 : decode cX12_opens 28 = .ok (.iconst 1, 1) := by decide +kernel
theorem dX12_opens_29 : decode cX12_opens 29 = .ok (.ireturn, 1) := by decide +kernel
theorem dX12_name_0 : decode cX12_name 0 = .ok (.aload_n 0, 1) := by decide +kernel
theorem dX12_name_1 : decode cX12_name 1 = .ok (.bipush 102, 2) := by decide +kernel
theorem dX12_name_3 : decode cX12_name 3 = .ok (.bipush 97, 2) := by decide +kernel
theorem dX12_name_5 : decode cX12_name 5 = .ok (.bipush 114, 2) := by decide +kernel
theorem dX12_name_7 : decode cX12_name 7 = .ok (.iconst 0, 1) := by decide +kernel
theorem dX12_name_8 : decode cX12_name 8 = .ok (.iconst 0, 1) := by decide +kernel
theorem dX12_name_9 : decode cX12_name 9 = .ok (.iconst 0, 1) := by decide +kernel
theorem dX12_name_10 : decode cX12_name 10 = .ok (.iconst 0, 1) := by decide +kernel
theorem dX12_name_11 : decode cX12_name 11 = .ok (.iconst 0, 1) := by decide +kernel
theorem dX12_name_12 : decode cX12_name 12 = .ok (.invokevirtual 177, 3) := by decide +kernel
theorem dX12_name_15 : decode cX12_name 15 = .ok (.ifCond .eq 8, 3) := by decide +kernel
theorem dX12_name_18 : decode cX12_name 18 = .ok (.aload_n 0, 1) := by decide +kernel
theorem dX12_name_19 : decode cX12_name 19 = .ok (.getfield 181, 3) := by decide +kernel
theorem dX12_name_22 : decode cX12_name 22 = .ok (.ireturn, 1) := by decide +kernel
theorem dX12_name_23 : decode cX12_name 23 = .ok (.aload_n 0, 1) := by decide +kernel
theorem dX12_name_24 : decode cX12_name 24 = .ok (.bipush 119, 2) := by decide +kernel
theorem dX12_name_26 : decode cX12_name 26 = .ok (.bipush 97, 2) := by decide +kernel
theorem dX12_name_28 : decode cX12_name 28 = .ok (.bipush 114, 2) := by decide +kernel
theorem dX12_name_30 : decode cX12_name 30 = .ok (.bipush 109, 2) := by decide +kernel
theorem dX12_name_32 : decode cX12_name 32 = .ok (.iconst 0, 1) := by decide +kernel
theorem dX12_name_33 : decode cX12_name 33 = .ok (.iconst 0, 1) := by decide +kernel
theorem dX12_name_34 : decode cX12_name 34 = .ok (.iconst 0, 1) := by decide +kernel
theorem dX12_name_35 : decode cX12_name 35 = .ok (.iconst 0, 1) := by decide +kernel
theorem dX12_name_36 : decode cX12_name 36 = .ok (.invokevirtual 177, 3) := by decide +kernel
theorem dX12_name_39 : decode cX12_name 39 = .ok (.ifCond .eq 8, 3) := by decide +kernel
theorem dX12_name_42 : decode cX12_name 42 = .ok (.aload_n 0, 1) := by decide +kernel
theorem dX12_name_43 : decode cX12_name 43 = .ok (.getfield 184, 3) := by decide +kernel
theorem dX12_name_46 : decode cX12_name 46 = .ok (.ireturn, 1) := by decide +kernel
theorem dX12_name_47 : decode cX12_name 47 = .ok (.aload_n 0, 1) := by decide +kernel
theorem dX12_name_48 : decode cX12_name 48 = .ok (.bipush 108, 2) := by decide +kernel
theorem dX12_name_50 : decode cX12_name 50 = .ok (.bipush 101, 2) := by decide +kernel
theorem dX12_name_52 : decode cX12_name 52 = .ok (.bipush 103, 2) := by decide +kernel
theorem dX12_name_54 : decode cX12_name 54 = .ok (.bipush 115, 2) := by decide +kernel
theorem dX12_name_56 : decode cX12_name 56 = .ok (.iconst 0, 1) := by decide +kernel
theorem dX12_name_57 : decode cX12_name 57 = .ok (.iconst 0, 1) := by decide +kernel
theorem dX12_name_58 : decode cX12_name 58 = .ok (.iconst 0, 1) := by decide +kernel
theorem dX12_name_59 : decode cX12_name 59 = .ok (.iconst 0, 1) := by decide +kernel
theorem dX12_name_60 : decode cX12_name 60 = .ok (.invokevirtual 177, 3) := by decide +kernel
theorem dX12_name_63 : decode cX12_name 63 = .ok (.ifCond .eq 8, 3) := by decide +kernel
theorem dX12_name_66 : decode cX12_name 66 = .ok (.aload_n 0, 1) := by decide +kernel
theorem dX12_name_67 : decode cX12_name 67 = .ok (.getfield 187, 3) := by decide +kernel
theorem dX12_name_70 : decode cX12_name 70 = .ok (.ireturn, 1) := by decide +kernel
theorem dX12_name_71 : decode cX12_name 71 = .ok (.aload_n 0, 1) := by decide +kernel
theorem dX12_name_72 : decode cX12_name 72 = .ok (.bipush 113, 2) := by decide +kernel
theorem dX12_name_74 : decode cX12_name 74 = .ok (.bipush 117, 2) := by decide +kernel
theorem dX12_name_76 : decode cX12_name 76 = .ok (.bipush 105, 2) := by decide +kernel
theorem dX12_name_78 : decode cX12_name 78 = .ok (.bipush 99, 2) := by decide +kernel
theorem dX12_name_80 : decode cX12_name 80 = .ok (.bipush 107, 2) := by decide +kernel
theorem dX12_name_82 : decode cX12_name 82 = .ok (.iconst 0, 1) := by decide +kernel
theorem dX12_name_83 : decode cX12_name 83 = .ok (.iconst 0, 1) := by decide +kernel
theorem dX12_name_84 : decode cX12_name 84 = .ok (.iconst 0, 1) := by decide +kernel
theorem dX12_name_85 : decode cX12_name 85 = .ok (.invokevirtual 177, 3) := by decide +kernel
theorem dX12_name_88 : decode cX12_name 88 = .ok (.ifCond .eq 8, 3) := by decide +kernel
theorem dX12_name_91 : decode cX12_name 91 = .ok (.aload_n 0, 1) := by decide +kernel
theorem dX12_name_92 : decode cX12_name 92 = .ok (.getfield 190, 3) := by decide +kernel
theorem dX12_name_95 : decode cX12_name 95 = .ok (.ireturn, 1) := by decide +kernel
theorem dX12_name_96 : decode cX12_name 96 = .ok (.aload_n 0, 1) := by decide +kernel
theorem dX12_name_97 : decode cX12_name 97 = .ok (.bipush 110, 2) := by decide +kernel
theorem dX12_name_99 : decode cX12_name 99 = .ok (.bipush 117, 2) := by decide +kernel
theorem dX12_name_101 : decode cX12_name 101 = .ok (.bipush 109, 2) := by decide +kernel
theorem dX12_name_103 : decode cX12_name 103 = .ok (.bipush 98, 2) := by decide +kernel
theorem dX12_name_105 : decode cX12_name 105 = .ok (.bipush 101, 2) := by decide +kernel
theorem dX12_name_107 : decode cX12_name 107 = .ok (.bipush 114, 2) := by decide +kernel
theorem dX12_name_109 : decode cX12_name 109 = .ok (.iconst 0, 1) := by decide +kernel
theorem dX12_name_110 : decode cX12_name 110 = .ok (.iconst 0, 1) := by decide +kernel
theorem dX12_name_111 : decode cX12_name 111 = .ok (.invokevirtual 177, 3) := by decide +kernel
theorem dX12_name_114 : decode cX12_name 114 = .ok (.ifCond .eq 8, 3) := by decide +kernel
theorem dX12_name_117 : decode cX12_name 117 = .ok (.aload_n 0, 1) := by decide +kernel
theorem dX12_name_118 : decode cX12_name 118 = .ok (.getfield 193, 3) := by decide +kernel
theorem dX12_name_121 : decode cX12_name 121 = .ok (.ireturn, 1) := by decide +kernel
theorem dX12_name_122 : decode cX12_name 122 = .ok (.aload_n 0, 1) := by decide +kernel
theorem dX12_name_123 : decode cX12_name 123 = .ok (.bipush 99, 2) := by decide +kernel
theorem dX12_name_125 : decode cX12_name 125 = .ok (.bipush 101, 2) := by decide +kernel
theorem dX12_name_127 : decode cX12_name 127 = .ok (.bipush 108, 2) := by decide +kernel
theorem dX12_name_129 : decode cX12_name 129 = .ok (.bipush 108, 2) := by decide +kernel
theorem dX12_name_131 : decode cX12_name 131 = .ok (.iconst 0, 1) := by decide +kernel
theorem dX12_name_132 : decode cX12_name 132 = .ok (.iconst 0, 1) := by decide +kernel
theorem dX12_name_133 : decode cX12_name 133 = .ok (.iconst 0, 1) := by decide +kernel
theorem dX12_name_134 : decode cX12_name 134 = .ok (.iconst 0, 1) := by decide +kernel
theorem dX12_name_135 : decode cX12_name 135 = .ok (.invokevirtual 177, 3) := by decide +kernel
theorem dX12_name_138 : decode cX12_name 138 = .ok (.ifCond .eq 8, 3) := by decide +kernel
theorem dX12_name_141 : decode cX12_name 141 = .ok (.aload_n 0, 1) := by decide +kernel
theorem dX12_name_142 : decode cX12_name 142 = .ok (.getfield 196, 3) := by decide +kernel
theorem dX12_name_145 : decode cX12_name 145 = .ok (.ireturn, 1) := by decide +kernel
theorem dX12_name_146 : decode cX12_name 146 = .ok (.aload_n 0, 1) := by decide +kernel
theorem dX12_name_147 : decode cX12_name 147 = .ok (.invokevirtual 171, 3) := by decide +kernel
theorem dX12_name_150 : decode cX12_name 150 = .ok (.iconst 0, 1) := by decide +kernel
theorem dX12_name_151 : decode cX12_name 151 = .ok (.ireturn, 1) := by decide +kernel
theorem dX12_atom_0 : decode cX12_atom 0 = .ok (.iconst 0, 1) := by decide +kernel
theorem dX12_atom_1 : decode cX12_atom 1 = .ok (.istore_n 1, 1) := by decide +kernel
theorem dX12_atom_2 : decode cX12_atom 2 = .ok (.aload_n 0, 1) := by decide +kernel
theorem dX12_atom_3 : decode cX12_atom 3 = .ok (.bipush 45, 2) := by decide +kernel
theorem dX12_atom_5 : decode cX12_atom 5 = .ok (.invokevirtual 199, 3) := by decide +kernel
theorem dX12_atom_8 : decode cX12_atom 8 = .ok (.ifCond .eq 29, 3) := by decide +kernel
theorem dX12_atom_11 : decode cX12_atom 11 = .ok (.aload_n 0, 1) := by decide +kernel
theorem dX12_atom_12 : decode cX12_atom 12 = .ok (.invokevirtual 202, 3) := by decide +kernel
theorem dX12_atom_15 : decode cX12_atom 15 = .ok (.ifCond .eq 146, 3) := by decide +kernel
theorem dX12_atom_18 : decode cX12_atom 18 = .ok (.aload_n 0, 1) := by decide +kernel
theorem dX12_atom_19 : decode cX12_atom 19 = .ok (.invokevirtual 206, 3) := by decide +kernel
theorem dX12_atom_22 : decode cX12_atom 22 = .ok (.ineg, 1) := by decide +kernel
theorem dX12_atom_23 : decode cX12_atom 23 = .ok (.istore_n 1, 1) := by decide +kernel
theorem dX12_atom_24 : decode cX12_atom 24 = .ok (.aload_n 0, 1) := by decide +kernel
theorem dX12_atom_25 : decode cX12_atom 25 = .ok (.dup, 1) := by decide +kernel
theorem dX12_atom_26 : decode cX12_atom 26 = .ok (.getfield 168, 3) := by decide +kernel
theorem dX12_atom_29 : decode cX12_atom 29 = .ok (.iconst 1, 1) := by decide +kernel
theorem dX12_atom_30 : decode cX12_atom 30 = .ok (.isub, 1) := by decide +kernel
theorem dX12_atom_31 : decode cX12_atom 31 = .ok (.putfield 168, 3) := by decide +kernel
theorem dX12_atom_34 : decode cX12_atom 34 = .ok (.goto 127, 3) := by decide +kernel
theorem dX12_atom_37 : decode cX12_atom 37 = .ok (.aload_n 0, 1) := by decide +kernel
theorem dX12_atom_38 : decode cX12_atom 38 = .ok (.bipush 40, 2) := by decide +kernel
theorem dX12_atom_40 : decode cX12_atom 40 = .ok (.invokevirtual 199, 3) := by decide +kernel
theorem dX12_atom_43 : decode cX12_atom 43 = .ok (.ifCond .eq 52, 3) := by decide +kernel
theorem dX12_atom_46 : decode cX12_atom 46 = .ok (.aload_n 0, 1) := by decide +kernel
theorem dX12_atom_47 : decode cX12_atom 47 = .ok (.invokevirtual 202, 3) := by decide +kernel
theorem dX12_atom_50 : decode cX12_atom 50 = .ok (.ifCond .eq 111, 3) := by decide +kernel
theorem dX12_atom_53 : decode cX12_atom 53 = .ok (.aload_n 0, 1) := by decide +kernel
theorem dX12_atom_54 : decode cX12_atom 54 = .ok (.invokevirtual 210, 3) := by decide +kernel
theorem dX12_atom_57 : decode cX12_atom 57 = .ok (.istore_n 1, 1) := by decide +kernel
theorem dX12_atom_58 : decode cX12_atom 58 = .ok (.aload_n 0, 1) := by decide +kernel
theorem dX12_atom_59 : decode cX12_atom 59 = .ok (.bipush 41, 2) := by decide +kernel
theorem dX12_atom_61 : decode cX12_atom 61 = .ok (.invokevirtual 199, 3) := by decide +kernel
theorem dX12_atom_64 : decode cX12_atom 64 = .ok (.ifCond .ne 7, 3) := by decide +kernel
theorem dX12_atom_67 : decode cX12_atom 67 = .ok (.aload_n 0, 1) := by decide +kernel
theorem dX12_atom_68 : decode cX12_atom 68 = .ok (.invokevirtual 171, 3) := by decide +kernel
theorem dX12_atom_71 : decode cX12_atom 71 = .ok (.aload_n 0, 1) := by decide +kernel
theorem dX12_atom_72 : decode cX12_atom 72 = .ok (.dup, 1) := by decide +kernel
theorem dX12_atom_73 : decode cX12_atom 73 = .ok (.getfield 168, 3) := by decide +kernel
theorem dX12_atom_76 : decode cX12_atom 76 = .ok (.iconst 1, 1) := by decide +kernel
theorem dX12_atom_77 : decode cX12_atom 77 = .ok (.isub, 1) := by decide +kernel
theorem dX12_atom_78 : decode cX12_atom 78 = .ok (.putfield 168, 3) := by decide +kernel
theorem dX12_atom_81 : decode cX12_atom 81 = .ok (.aload_n 0, 1) := by decide +kernel
theorem dX12_atom_82 : decode cX12_atom 82 = .ok (.getfield 157, 3) := by decide +kernel
theorem dX12_atom_85 : decode cX12_atom 85 = .ok (.ifCond .ne 76, 3) := by decide +kernel
theorem dX12_atom_88 : decode cX12_atom 88 = .ok (.aload_n 0, 1) := by decide +kernel
theorem dX12_atom_89 : decode cX12_atom 89 = .ok (.invokevirtual 174, 3) := by decide +kernel
theorem dX12_atom_92 : decode cX12_atom 92 = .ok (.goto 69, 3) := by decide +kernel
theorem dX12_atom_95 : decode cX12_atom 95 = .ok (.aload_n 0, 1) := by decide +kernel
theorem dX12_atom_96 : decode cX12_atom 96 = .ok (.getfield 157, 3) := by decide +kernel
theorem dX12_atom_99 : decode cX12_atom 99 = .ok (.ifCond .ne 24, 3) := by decide +kernel
theorem dX12_atom_102 : decode cX12_atom 102 = .ok (.aload_n 0, 1) := by decide +kernel
theorem dX12_atom_103 : decode cX12_atom 103 = .ok (.getfield 140, 3) := by decide +kernel
theorem dX12_atom_106 : decode cX12_atom 106 = .ok (.iconst 2, 1) := by decide +kernel
theorem dX12_atom_107 : decode cX12_atom 107 = .ok (.if_icmp .ne 16, 3) := by decide +kernel
theorem dX12_atom_110 : decode cX12_atom 110 = .ok (.aload_n 0, 1) := by decide +kernel
theorem dX12_atom_111 : decode cX12_atom 111 = .ok (.getfield 151, 3) := by decide +kernel
theorem dX12_atom_114 : decode cX12_atom 114 = .ok (.l2i, 1) := by decide +kernel
theorem dX12_atom_115 : decode cX12_atom 115 = .ok (.istore_n 1, 1) := by decide +kernel
theorem dX12_atom_116 : decode cX12_atom 116 = .ok (.aload_n 0, 1) := by decide +kernel
theorem dX12_atom_117 : decode cX12_atom 117 = .ok (.invokevirtual 174, 3) := by decide +kernel
theorem dX12_atom_120 : decode cX12_atom 120 = .ok (.goto 41, 3) := by decide +kernel
theorem dX12_atom_123 : decode cX12_atom 123 = .ok (.aload_n 0, 1) := by decide +kernel
theorem dX12_atom_124 : decode cX12_atom 124 = .ok (.getfield 157, 3) := by decide +kernel
theorem dX12_atom_127 : decode cX12_atom 127 = .ok (.ifCond .ne 30, 3) := by decide +kernel
theorem dX12_atom_130 : decode cX12_atom 130 = .ok (.aload_n 0, 1) := by decide +kernel
theorem dX12_atom_131 : decode cX12_atom 131 = .ok (.getfield 140, 3) := by decide +kernel
theorem dX12_atom_134 : decode cX12_atom 134 = .ok (.iconst 1, 1) := by decide +kernel
theorem dX12_atom_135 : decode cX12_atom 135 = .ok (.if_icmp .ne 22, 3) := by decide +kernel
theorem dX12_atom_138 : decode cX12_atom 138 = .ok (.aload_n 0, 1) := by decide +kernel
theorem dX12_atom_139 : decode cX12_atom 139 = .ok (.invokevirtual 213, 3) := by decide +kernel
theorem dX12_atom_142 : decode cX12_atom 142 = .ok (.istore_n 1, 1) := by decide +kernel
theorem dX12_atom_143 : decode cX12_atom 143 = .ok (.aload_n 0, 1) := by decide +kernel
theorem dX12_atom_144 : decode cX12_atom 144 = .ok (.getfield 157, 3) := by decide +kernel
theorem dX12_atom_147 : decode cX12_atom 147 = .ok (.ifCond .ne 14, 3) := by decide +kernel
theorem dX12_atom_150 : decode cX12_atom 150 = .ok (.aload_n 0, 1) := by decide +kernel
theorem dX12_atom_151 : decode cX12_atom 151 = .ok (.invokevirtual 174, 3) := by decide +kernel
theorem dX12_atom_154 : decode cX12_atom 154 = .ok (.goto 7, 3) := by decide +kernel
theorem dX12_atom_157 : decode cX12_atom 157 = .ok (.aload_n 0, 1) := by decide +kernel
theorem dX12_atom_158 : decode cX12_atom 158 = .ok (.invokevirtual 171, 3) := by decide +kernel
theorem dX12_atom_161 : decode cX12_atom 161 = .ok (.iload_n 1, 1) := by decide +kernel
theorem dX12_atom_162 : decode cX12_atom 162 = .ok (.ireturn, 1) := by decide +kernel
theorem dX12_term_0 : decode cX12_term 0 = .ok (.aload_n 0, 1) := by decide +kernel
theorem dX12_term_1 : decode cX12_term 1 = .ok (.invokevirtual 206, 3) := by decide +kernel
theorem dX12_term_4 : decode cX12_term 4 = .ok (.istore_n 1, 1) := by decide +kernel
theorem dX12_term_5 : decode cX12_term 5 = .ok (.aload_n 0, 1) := by decide +kernel
theorem dX12_term_6 : decode cX12_term 6 = .ok (.bipush 42, 2) := by decide +kernel
theorem dX12_term_8 : decode cX12_term 8 = .ok (.invokevirtual 199, 3) := by decide +kernel
theorem dX12_term_11 : decode cX12_term 11 = .ok (.ifCond .eq 17, 3) := by decide +kernel
theorem dX12_term_14 : decode cX12_term 14 = .ok (.aload_n 0, 1) := by decide +kernel
theorem dX12_term_15 : decode cX12_term 15 = .ok (.invokevirtual 174, 3) := by decide +kernel
theorem dX12_term_18 : decode cX12_term 18 = .ok (.iload_n 1, 1) := by decide +kernel
theorem dX12_term_19 : decode cX12_term 19 = .ok (.aload_n 0, 1) := by decide +kernel
theorem dX12_term_20 : decode cX12_term 20 = .ok (.invokevirtual 206, 3) := by decide +kernel
theorem dX12_term_23 : decode cX12_term 23 = .ok (.imul, 1) := by decide +kernel
theorem dX12_term_24 : decode cX12_term 24 = .ok (.istore_n 1, 1) := by decide +kernel
theorem dX12_term_25 : decode cX12_term 25 = .ok (.goto (-20), 3) := by decide +kernel
theorem dX12_term_28 : decode cX12_term 28 = .ok (.iload_n 1, 1) := by decide +kernel
theorem dX12_term_29 : decode cX12_term 29 = .ok (.ireturn, 1) := by decide +kernel
theorem dX12_added_0 : decode cX12_added 0 = .ok (.aload_n 0, 1) := by decide +kernel
theorem dX12_added_1 : decode cX12_added 1 = .ok (.invokevirtual 216, 3) := by decide +kernel
theorem dX12_added_4 : decode cX12_added 4 = .ok (.istore_n 1, 1) := by decide +kernel
theorem dX12_added_5 : decode cX12_added 5 = .ok (.aload_n 0, 1) := by decide +kernel
theorem dX12_added_6 : decode cX12_added 6 = .ok (.bipush 43, 2) := by decide +kernel
theorem dX12_added_8 : decode cX12_added 8 = .ok (.invokevirtual 199, 3) := by decide +kernel
theorem dX12_added_11 : decode cX12_added 11 = .ok (.ifCond .ne 12, 3) := by decide +kernel
theorem dX12_added_14 : decode cX12_added 14 = .ok (.aload_n 0, 1) := by decide +kernel
theorem dX12_added_15 : decode cX12_added 15 = .ok (.bipush 45, 2) := by decide +kernel
theorem dX12_added_17 : decode cX12_added 17 = .ok (.invokevirtual 199, 3) := by decide +kernel
theorem dX12_added_20 : decode cX12_added 20 = .ok (.ifCond .eq 46, 3) := by decide +kernel
theorem dX12_added_23 : decode cX12_added 23 = .ok (.aload_n 0, 1) := by decide +kernel
theorem dX12_added_24 : decode cX12_added 24 = .ok (.getfield 151, 3) := by decide +kernel
theorem dX12_added_27 : decode cX12_added 27 = .ok (.ldc2_w 219, 3) := by decide +kernel
theorem dX12_added_30 : decode cX12_added 30 = .ok (.lcmp, 1) := by decide +kernel
theorem dX12_added_31 : decode cX12_added 31 = .ok (.ifCond .ne 7, 3) := by decide +kernel
theorem dX12_added_34 : decode cX12_added 34 = .ok (.iconst 1, 1) := by decide +kernel
theorem dX12_added_35 : decode cX12_added 35 = .ok (.goto 4, 3) := by decide +kernel
theorem dX12_added_38 : decode cX12_added 38 = .ok (.iconst 0, 1) := by decide +kernel
theorem dX12_added_39 : decode cX12_added 39 = .ok (.istore_n 2, 1) := by decide +kernel
theorem dX12_added_40 : decode cX12_added 40 = .ok (.aload_n 0, 1) := by decide +kernel
theorem dX12_added_41 : decode cX12_added 41 = .ok (.invokevirtual 174, 3) := by decide +kernel
theorem dX12_added_44 : decode cX12_added 44 = .ok (.aload_n 0, 1) := by decide +kernel
theorem dX12_added_45 : decode cX12_added 45 = .ok (.invokevirtual 216, 3) := by decide +kernel
theorem dX12_added_48 : decode cX12_added 48 = .ok (.istore_n 3, 1) := by decide +kernel
theorem dX12_added_49 : decode cX12_added 49 = .ok (.iload_n 2, 1) := by decide +kernel
theorem dX12_added_50 : decode cX12_added 50 = .ok (.ifCond .eq 9, 3) := by decide +kernel
theorem dX12_added_53 : decode cX12_added 53 = .ok (.iload_n 1, 1) := by decide +kernel
theorem dX12_added_54 : decode cX12_added 54 = .ok (.iload_n 3, 1) := by decide +kernel
theorem dX12_added_55 : decode cX12_added 55 = .ok (.iadd, 1) := by decide +kernel
theorem dX12_added_56 : decode cX12_added 56 = .ok (.goto 6, 3) := by decide +kernel
theorem dX12_added_59 : decode cX12_added 59 = .ok (.iload_n 1, 1) := by decide +kernel
theorem dX12_added_60 : decode cX12_added 60 = .ok (.iload_n 3, 1) := by decide +kernel
theorem dX12_added_61 : decode cX12_added 61 = .ok (.isub, 1) := by decide +kernel
theorem dX12_added_62 : decode cX12_added 62 = .ok (.istore_n 1, 1) := by decide +kernel
theorem dX12_added_63 : decode cX12_added 63 = .ok (.goto (-58), 3) := by decide +kernel
theorem dX12_added_66 : decode cX12_added 66 = .ok (.iload_n 1, 1) := by decide +kernel
theorem dX12_added_67 : decode cX12_added 67 = .ok (.ireturn, 1) := by decide +kernel
theorem dX12_not_0 : decode cX12_not 0 = .ok (.aload_n 0, 1) := by decide +kernel
theorem dX12_not_1 : decode cX12_not 1 = .ok (.bipush 110, 2) := by decide +kernel
theorem dX12_not_3 : decode cX12_not 3 = .ok (.bipush 111, 2) := by decide +kernel
theorem dX12_not_5 : decode cX12_not 5 = .ok (.bipush 116, 2) := by decide +kernel
theorem dX12_not_7 : decode cX12_not 7 = .ok (.iconst 0, 1) := by decide +kernel
theorem dX12_not_8 : decode cX12_not 8 = .ok (.iconst 0, 1) := by decide +kernel
theorem dX12_not_9 : decode cX12_not 9 = .ok (.iconst 0, 1) := by decide +kernel
theorem dX12_not_10 : decode cX12_not 10 = .ok (.iconst 0, 1) := by decide +kernel
theorem dX12_not_11 : decode cX12_not 11 = .ok (.iconst 0, 1) := by decide +kernel
theorem dX12_not_12 : decode cX12_not 12 = .ok (.invokevirtual 177, 3) := by decide +kernel
theorem dX12_not_15 : decode cX12_not 15 = .ok (.ifCond .eq 37, 3) := by decide +kernel
theorem dX12_not_18 : decode cX12_not 18 = .ok (.aload_n 0, 1) := by decide +kernel
theorem dX12_not_19 : decode cX12_not 19 = .ok (.invokevirtual 202, 3) := by decide +kernel
theorem dX12_not_22 : decode cX12_not 22 = .ok (.ifCond .ne 5, 3) := by decide +kernel
theorem dX12_not_25 : decode cX12_not 25 = .ok (.iconst 0, 1) := by decide +kernel
theorem dX12_not_26 : decode cX12_not 26 = .ok (.ireturn, 1) := by decide +kernel
theorem dX12_not_27 : decode cX12_not 27 = .ok (.aload_n 0, 1) := by decide +kernel
theorem dX12_not_28 : decode cX12_not 28 = .ok (.invokevirtual 221, 3) := by decide +kernel
theorem dX12_not_31 : decode cX12_not 31 = .ok (.istore_n 1, 1) := by decide +kernel
theorem dX12_not_32 : decode cX12_not 32 = .ok (.aload_n 0, 1) := by decide +kernel
theorem dX12_not_33 : decode cX12_not 33 = .ok (.dup, 1) := by decide +kernel
theorem dX12_not_34 : decode cX12_not 34 = .ok (.getfield 168, 3) := by decide +kernel
theorem dX12_not_37 : decode cX12_not 37 = .ok (.iconst 1, 1) := by decide +kernel
theorem dX12_not_38 : decode cX12_not 38 = .ok (.isub, 1) := by decide +kernel
theorem dX12_not_39 : decode cX12_not 39 = .ok (.putfield 168, 3) := by decide +kernel
theorem dX12_not_42 : decode cX12_not 42 = .ok (.iload_n 1, 1) := by decide +kernel
theorem dX12_not_43 : decode cX12_not 43 = .ok (.ifCond .ne 7, 3) := by decide +kernel
theorem dX12_not_46 : decode cX12_not 46 = .ok (.iconst 1, 1) := by decide +kernel
theorem dX12_not_47 : decode cX12_not 47 = .ok (.goto 4, 3) := by decide +kernel
theorem dX12_not_50 : decode cX12_not 50 = .ok (.iconst 0, 1) := by decide +kernel
theorem dX12_not_51 : decode cX12_not 51 = .ok (.ireturn, 1) := by decide +kernel
theorem dX12_not_52 : decode cX12_not 52 = .ok (.aload_n 0, 1) := by decide +kernel
theorem dX12_not_53 : decode cX12_not 53 = .ok (.invokevirtual 224, 3) := by decide +kernel
theorem dX12_not_56 : decode cX12_not 56 = .ok (.istore_n 1, 1) := by decide +kernel
theorem dX12_not_57 : decode cX12_not 57 = .ok (.aload_n 0, 1) := by decide +kernel
theorem dX12_not_58 : decode cX12_not 58 = .ok (.bipush 60, 2) := by decide +kernel
theorem dX12_not_60 : decode cX12_not 60 = .ok (.invokevirtual 199, 3) := by decide +kernel
theorem dX12_not_63 : decode cX12_not 63 = .ok (.ifCond .ne 14, 3) := by decide +kernel
theorem dX12_not_66 : decode cX12_not 66 = .ok (.aload_n 0, 1) := by decide +kernel
theorem dX12_not_67 : decode cX12_not 67 = .ok (.bipush 61, 2) := by decide +kernel
theorem dX12_not_69 : decode cX12_not 69 = .ok (.invokevirtual 199, 3) := by decide +kernel
theorem dX12_not_72 : decode cX12_not 72 = .ok (.ifCond .ne 5, 3) := by decide +kernel
theorem dX12_not_75 : decode cX12_not 75 = .ok (.iload_n 1, 1) := by decide +kernel
theorem dX12_not_76 : decode cX12_not 76 = .ok (.ireturn, 1) := by decide +kernel
theorem dX12_not_77 : decode cX12_not 77 = .ok (.aload_n 0, 1) := by decide +kernel
theorem dX12_not_78 : decode cX12_not 78 = .ok (.getfield 151, 3) := by decide +kernel
theorem dX12_not_81 : decode cX12_not 81 = .ok (.ldc2_w 227, 3) := by decide +kernel
theorem dX12_not_84 : decode cX12_not 84 = .ok (.lcmp, 1) := by decide +kernel
theorem dX12_not_85 : decode cX12_not 85 = .ok (.ifCond .ne 7, 3) := by decide +kernel
theorem dX12_not_88 : decode cX12_not 88 = .ok (.iconst 1, 1) := by decide +kernel
theorem dX12_not_89 : decode cX12_not 89 = .ok (.goto 4, 3) := by decide +kernel
theorem dX12_not_92 : decode cX12_not 92 = .ok (.iconst 0, 1) := by decide +kernel
theorem dX12_not_93 : decode cX12_not 93 = .ok (.istore_n 2, 1) := by decide +kernel
theorem dX12_not_94 : decode cX12_not 94 = .ok (.aload_n 0, 1) := by decide +kernel
theorem dX12_not_95 : decode cX12_not 95 = .ok (.invokevirtual 174, 3) := by decide +kernel
theorem dX12_not_98 : decode cX12_not 98 = .ok (.aload_n 0, 1) := by decide +kernel
theorem dX12_not_99 : decode cX12_not 99 = .ok (.invokevirtual 224, 3) := by decide +kernel
theorem dX12_not_102 : decode cX12_not 102 = .ok (.istore_n 3, 1) := by decide +kernel
theorem dX12_not_103 : decode cX12_not 103 = .ok (.iload_n 2, 1) := by decide +kernel
theorem dX12_not_104 : decode cX12_not 104 = .ok (.ifCond .eq 11, 3) := by decide +kernel
theorem dX12_not_107 : decode cX12_not 107 = .ok (.iload_n 1, 1) := by decide +kernel
theorem dX12_not_108 : decode cX12_not 108 = .ok (.iload_n 3, 1) := by decide +kernel
theorem dX12_not_109 : decode cX12_not 109 = .ok (.if_icmp .ge 15, 3) := by decide +kernel
theorem dX12_not_112 : decode cX12_not 112 = .ok (.goto 8, 3) := by decide +kernel
theorem dX12_not_115 : decode cX12_not 115 = .ok (.iload_n 1, 1) := by decide +kernel
theorem dX12_not_116 : decode cX12_not 116 = .ok (.iload_n 3, 1) := by decide +kernel
theorem dX12_not_117 : decode cX12_not 117 = .ok (.if_icmp .ne 7, 3) := by decide +kernel
theorem dX12_not_120 : decode cX12_not 120 = .ok (.iconst 1, 1) := by decide +kernel
theorem dX12_not_121 : decode cX12_not 121 = .ok (.goto 4, 3) := by decide +kernel
theorem dX12_not_124 : decode cX12_not 124 = .ok (.iconst 0, 1) := by decide +kernel
theorem dX12_not_125 : decode cX12_not 125 = .ok (.ireturn, 1) := by decide +kernel
theorem dX12_both_0 : decode cX12_both 0 = .ok (.aload_n 0, 1) := by decide +kernel
theorem dX12_both_1 : decode cX12_both 1 = .ok (.invokevirtual 221, 3) := by decide +kernel
theorem dX12_both_4 : decode cX12_both 4 = .ok (.istore_n 1, 1) := by decide +kernel
theorem dX12_both_5 : decode cX12_both 5 = .ok (.aload_n 0, 1) := by decide +kernel
theorem dX12_both_6 : decode cX12_both 6 = .ok (.bipush 97, 2) := by decide +kernel
theorem dX12_both_8 : decode cX12_both 8 = .ok (.bipush 110, 2) := by decide +kernel
theorem dX12_both_10 : decode cX12_both 10 = .ok (.bipush 100, 2) := by decide +kernel
theorem dX12_both_12 : decode cX12_both 12 = .ok (.iconst 0, 1) := by decide +kernel
theorem dX12_both_13 : decode cX12_both 13 = .ok (.iconst 0, 1) := by decide +kernel
theorem dX12_both_14 : decode cX12_both 14 = .ok (.iconst 0, 1) := by decide +kernel
theorem dX12_both_15 : decode cX12_both 15 = .ok (.iconst 0, 1) := by decide +kernel
theorem dX12_both_16 : decode cX12_both 16 = .ok (.iconst 0, 1) := by decide +kernel
theorem dX12_both_17 : decode cX12_both 17 = .ok (.invokevirtual 177, 3) := by decide +kernel
theorem dX12_both_20 : decode cX12_both 20 = .ok (.ifCond .eq 29, 3) := by decide +kernel
theorem dX12_both_23 : decode cX12_both 23 = .ok (.aload_n 0, 1) := by decide +kernel
theorem dX12_both_24 : decode cX12_both 24 = .ok (.invokevirtual 174, 3) := by decide +kernel
theorem dX12_both_27 : decode cX12_both 27 = .ok (.aload_n 0, 1) := by decide +kernel
theorem dX12_both_28 : decode cX12_both 28 = .ok (.invokevirtual 221, 3) := by decide +kernel
theorem dX12_both_31 : decode cX12_both 31 = .ok (.istore_n 2, 1) := by decide +kernel
theorem dX12_both_32 : decode cX12_both 32 = .ok (.iload_n 1, 1) := by decide +kernel
theorem dX12_both_33 : decode cX12_both 33 = .ok (.ifCond .eq 11, 3) := by decide +kernel
theorem dX12_both_36 : decode cX12_both 36 = .ok (.iload_n 2, 1) := by decide +kernel
theorem dX12_both_37 : decode cX12_both 37 = .ok (.ifCond .eq 7, 3) := by decide +kernel
theorem dX12_both_40 : decode cX12_both 40 = .ok (.iconst 1, 1) := by decide +kernel
theorem dX12_both_41 : decode cX12_both 41 = .ok (.goto 4, 3) := by decide +kernel
theorem dX12_both_44 : decode cX12_both 44 = .ok (.iconst 0, 1) := by decide +kernel
theorem dX12_both_45 : decode cX12_both 45 = .ok (.istore_n 1, 1) := by decide +kernel
theorem dX12_both_46 : decode cX12_both 46 = .ok (.goto (-41), 3) := by decide +kernel
theorem dX12_both_49 : decode cX12_both 49 = .ok (.iload_n 1, 1) := by decide +kernel
theorem dX12_both_50 : decode cX12_both 50 = .ok (.ireturn, 1) := by decide +kernel
theorem dX12_either_0 : decode cX12_either 0 = .ok (.aload_n 0, 1) := by decide +kernel
theorem dX12_either_1 : decode cX12_either 1 = .ok (.invokevirtual 229, 3) := by decide +kernel
theorem dX12_either_4 : decode cX12_either 4 = .ok (.istore_n 1, 1) := by decide +kernel
theorem dX12_either_5 : decode cX12_either 5 = .ok (.aload_n 0, 1) := by decide +kernel
theorem dX12_either_6 : decode cX12_either 6 = .ok (.bipush 111, 2) := by decide +kernel
theorem dX12_either_8 : decode cX12_either 8 = .ok (.bipush 114, 2) := by decide +kernel
theorem dX12_either_10 : decode cX12_either 10 = .ok (.iconst 0, 1) := by decide +kernel
theorem dX12_either_11 : decode cX12_either 11 = .ok (.iconst 0, 1) := by decide +kernel
theorem dX12_either_12 : decode cX12_either 12 = .ok (.iconst 0, 1) := by decide +kernel
theorem dX12_either_13 : decode cX12_either 13 = .ok (.iconst 0, 1) := by decide +kernel
theorem dX12_either_14 : decode cX12_either 14 = .ok (.iconst 0, 1) := by decide +kernel
theorem dX12_either_15 : decode cX12_either 15 = .ok (.iconst 0, 1) := by decide +kernel
theorem dX12_either_16 : decode cX12_either 16 = .ok (.invokevirtual 177, 3) := by decide +kernel
theorem dX12_either_19 : decode cX12_either 19 = .ok (.ifCond .eq 29, 3) := by decide +kernel
theorem dX12_either_22 : decode cX12_either 22 = .ok (.aload_n 0, 1) := by decide +kernel
theorem dX12_either_23 : decode cX12_either 23 = .ok (.invokevirtual 174, 3) := by decide +kernel
theorem dX12_either_26 : decode cX12_either 26 = .ok (.aload_n 0, 1) := by decide +kernel
theorem dX12_either_27 : decode cX12_either 27 = .ok (.invokevirtual 229, 3) := by decide +kernel
theorem dX12_either_30 : decode cX12_either 30 = .ok (.istore_n 2, 1) := by decide +kernel
theorem dX12_either_31 : decode cX12_either 31 = .ok (.iload_n 1, 1) := by decide +kernel
theorem dX12_either_32 : decode cX12_either 32 = .ok (.ifCond .ne 7, 3) := by decide +kernel
theorem dX12_either_35 : decode cX12_either 35 = .ok (.iload_n 2, 1) := by decide +kernel
theorem dX12_either_36 : decode cX12_either 36 = .ok (.ifCond .eq 7, 3) := by decide +kernel
theorem dX12_either_39 : decode cX12_either 39 = .ok (.iconst 1, 1) := by decide +kernel
theorem dX12_either_40 : decode cX12_either 40 = .ok (.goto 4, 3) := by decide +kernel
theorem dX12_either_43 : decode cX12_either 43 = .ok (.iconst 0, 1) := by decide +kernel
theorem dX12_either_44 : decode cX12_either 44 = .ok (.istore_n 1, 1) := by decide +kernel
theorem dX12_either_45 : decode cX12_either 45 = .ok (.goto (-40), 3) := by decide +kernel
theorem dX12_either_48 : decode cX12_either 48 = .ok (.iload_n 1, 1) := by decide +kernel
theorem dX12_either_49 : decode cX12_either 49 = .ok (.ireturn, 1) := by decide +kernel
theorem dX12_part_0 : decode cX12_part 0 = .ok (.iload_n 1, 1) := by decide +kernel
theorem dX12_part_1 : decode cX12_part 1 = .ok (.ifCond .ne 7, 3) := by decide +kernel
theorem dX12_part_4 : decode cX12_part 4 = .ok (.aload_n 0, 1) := by decide +kernel
theorem dX12_part_5 : decode cX12_part 5 = .ok (.invokevirtual 171, 3) := by decide +kernel
theorem dX12_part_8 : decode cX12_part 8 = .ok (.aload_n 0, 1) := by decide +kernel
theorem dX12_part_9 : decode cX12_part 9 = .ok (.getfield 157, 3) := by decide +kernel
theorem dX12_part_12 : decode cX12_part 12 = .ok (.ifCond .ne 7, 3) := by decide +kernel
theorem dX12_part_15 : decode cX12_part 15 = .ok (.aload_n 0, 1) := by decide +kernel
theorem dX12_part_16 : decode cX12_part 16 = .ok (.invokevirtual 174, 3) := by decide +kernel
theorem dX12_part_19 : decode cX12_part 19 = .ok (.aload_n 0, 1) := by decide +kernel
theorem dX12_part_20 : decode cX12_part 20 = .ok (.getfield 157, 3) := by decide +kernel
theorem dX12_part_23 : decode cX12_part 23 = .ok (.ifCond .eq 7, 3) := by decide +kernel
theorem dX12_part_26 : decode cX12_part 26 = .ok (.iconst 0, 1) := by decide +kernel
theorem dX12_part_27 : decode cX12_part 27 = .ok (.goto 7, 3) := by decide +kernel
theorem dX12_part_30 : decode cX12_part 30 = .ok (.aload_n 0, 1) := by decide +kernel
theorem dX12_part_31 : decode cX12_part 31 = .ok (.invokevirtual 210, 3) := by decide +kernel
theorem dX12_part_34 : decode cX12_part 34 = .ok (.istore_n 2, 1) := by decide +kernel
theorem dX12_part_35 : decode cX12_part 35 = .ok (.aload_n 0, 1) := by decide +kernel
theorem dX12_part_36 : decode cX12_part 36 = .ok (.bipush 59, 2) := by decide +kernel
theorem dX12_part_38 : decode cX12_part 38 = .ok (.invokevirtual 199, 3) := by decide +kernel
theorem dX12_part_41 : decode cX12_part 41 = .ok (.ifCond .ne 7, 3) := by decide +kernel
theorem dX12_part_44 : decode cX12_part 44 = .ok (.aload_n 0, 1) := by decide +kernel
theorem dX12_part_45 : decode cX12_part 45 = .ok (.invokevirtual 171, 3) := by decide +kernel
theorem dX12_part_48 : decode cX12_part 48 = .ok (.aload_n 0, 1) := by decide +kernel
theorem dX12_part_49 : decode cX12_part 49 = .ok (.getfield 157, 3) := by decide +kernel
theorem dX12_part_52 : decode cX12_part 52 = .ok (.ifCond .ne 7, 3) := by decide +kernel
theorem dX12_part_55 : decode cX12_part 55 = .ok (.aload_n 0, 1) := by decide +kernel
theorem dX12_part_56 : decode cX12_part 56 = .ok (.invokevirtual 174, 3) := by decide +kernel
theorem dX12_part_59 : decode cX12_part 59 = .ok (.iload_n 2, 1) := by decide +kernel
theorem dX12_part_60 : decode cX12_part 60 = .ok (.ireturn, 1) := by decide +kernel
theorem dX12_read_0 : decode cX12_read 0 = .ok (.aload_n 0, 1) := by decide +kernel
theorem dX12_read_1 : decode cX12_read 1 = .ok (.sipush 160, 3) := by decide +kernel
theorem dX12_read_4 : decode cX12_read 4 = .ok (.iload_n 1, 1) := by decide +kernel
theorem dX12_read_5 : decode cX12_read 5 = .ok (.imul, 1) := by decide +kernel
theorem dX12_read_6 : decode cX12_read 6 = .ok (.putfield 127, 3) := by decide +kernel
theorem dX12_read_9 : decode cX12_read 9 = .ok (.aload_n 0, 1) := by decide +kernel
theorem dX12_read_10 : decode cX12_read 10 = .ok (.aload_n 0, 1) := by decide +kernel
theorem dX12_read_11 : decode cX12_read 11 = .ok (.getfield 17, 3) := by decide +kernel
theorem dX12_read_14 : decode cX12_read 14 = .ok (.iload_n 1, 1) := by decide +kernel
theorem dX12_read_15 : decode cX12_read 15 = .ok (.iaload, 1) := by decide +kernel
theorem dX12_read_16 : decode cX12_read 16 = .ok (.putfield 124, 3) := by decide +kernel
theorem dX12_read_19 : decode cX12_read 19 = .ok (.aload_n 0, 1) := by decide +kernel
theorem dX12_read_20 : decode cX12_read 20 = .ok (.iconst 0, 1) := by decide +kernel
theorem dX12_read_21 : decode cX12_read 21 = .ok (.putfield 130, 3) := by decide +kernel
theorem dX12_read_24 : decode cX12_read 24 = .ok (.aload_n 0, 1) := by decide +kernel
theorem dX12_read_25 : decode cX12_read 25 = .ok (.iconst 0, 1) := by decide +kernel
theorem dX12_read_26 : decode cX12_read 26 = .ok (.putfield 168, 3) := by decide +kernel
theorem dX12_read_29 : decode cX12_read 29 = .ok (.aload_n 0, 1) := by decide +kernel
theorem dX12_read_30 : decode cX12_read 30 = .ok (.iconst 0, 1) := by decide +kernel
theorem dX12_read_31 : decode cX12_read 31 = .ok (.putfield 157, 3) := by decide +kernel
theorem dX12_read_34 : decode cX12_read 34 = .ok (.aload_n 0, 1) := by decide +kernel
theorem dX12_read_35 : decode cX12_read 35 = .ok (.invokevirtual 174, 3) := by decide +kernel
theorem dX12_read_38 : decode cX12_read 38 = .ok (.aload_n 0, 1) := by decide +kernel
theorem dX12_read_39 : decode cX12_read 39 = .ok (.aload_n 0, 1) := by decide +kernel
theorem dX12_read_40 : decode cX12_read 40 = .ok (.bipush 102, 2) := by decide +kernel
theorem dX12_read_42 : decode cX12_read 42 = .ok (.bipush 108, 2) := by decide +kernel
theorem dX12_read_44 : decode cX12_read 44 = .ok (.bipush 105, 2) := by decide +kernel
theorem dX12_read_46 : decode cX12_read 46 = .ok (.bipush 101, 2) := by decide +kernel
theorem dX12_read_48 : decode cX12_read 48 = .ok (.bipush 115, 2) := by decide +kernel
theorem dX12_read_50 : decode cX12_read 50 = .ok (.iconst 0, 1) := by decide +kernel
theorem dX12_read_51 : decode cX12_read 51 = .ok (.iconst 0, 1) := by decide +kernel
theorem dX12_read_52 : decode cX12_read 52 = .ok (.iconst 0, 1) := by decide +kernel
theorem dX12_read_53 : decode cX12_read 53 = .ok (.invokevirtual 177, 3) := by decide +kernel
theorem dX12_read_56 : decode cX12_read 56 = .ok (.invokevirtual 232, 3) := by decide +kernel
theorem dX12_read_59 : decode cX12_read 59 = .ok (.istore_n 3, 1) := by decide +kernel
theorem dX12_read_60 : decode cX12_read 60 = .ok (.aload_n 0, 1) := by decide +kernel
theorem dX12_read_61 : decode cX12_read 61 = .ok (.getfield 157, 3) := by decide +kernel
theorem dX12_read_64 : decode cX12_read 64 = .ok (.ifCond .eq 7, 3) := by decide +kernel
theorem dX12_read_67 : decode cX12_read 67 = .ok (.iconst 0, 1) := by decide +kernel
theorem dX12_read_68 : decode cX12_read 68 = .ok (.goto 24, 3) := by decide +kernel
theorem dX12_read_71 : decode cX12_read 71 = .ok (.aload_n 0, 1) := by decide +kernel
theorem dX12_read_72 : decode cX12_read 72 = .ok (.aload_n 0, 1) := by decide +kernel
theorem dX12_read_73 : decode cX12_read 73 = .ok (.bipush 115, 2) := by decide +kernel
theorem dX12_read_75 : decode cX12_read 75 = .ok (.bipush 116, 2) := by decide +kernel
theorem dX12_read_77 : decode cX12_read 77 = .ok (.bipush 101, 2) := by decide +kernel
theorem dX12_read_79 : decode cX12_read 79 = .ok (.bipush 112, 2) := by decide +kernel
theorem dX12_read_81 : decode cX12_read 81 = .ok (.bipush 115, 2) := by decide +kernel
theorem dX12_read_83 : decode cX12_read 83 = .ok (.iconst 0, 1) := by decide +kernel
theorem dX12_read_84 : decode cX12_read 84 = .ok (.iconst 0, 1) := by decide +kernel
theorem dX12_read_85 : decode cX12_read 85 = .ok (.iconst 0, 1) := by decide +kernel
theorem dX12_read_86 : decode cX12_read 86 = .ok (.invokevirtual 177, 3) := by decide +kernel
theorem dX12_read_89 : decode cX12_read 89 = .ok (.invokevirtual 232, 3) := by decide +kernel
theorem dX12_read_92 : decode cX12_read 92 = .ok (.istore 4, 2) := by decide +kernel
theorem dX12_read_94 : decode cX12_read 94 = .ok (.aload_n 0, 1) := by decide +kernel
theorem dX12_read_95 : decode cX12_read 95 = .ok (.getfield 157, 3) := by decide +kernel
theorem dX12_read_98 : decode cX12_read 98 = .ok (.ifCond .eq 7, 3) := by decide +kernel
theorem dX12_read_101 : decode cX12_read 101 = .ok (.iconst 0, 1) := by decide +kernel
theorem dX12_read_102 : decode cX12_read 102 = .ok (.goto 24, 3) := by decide +kernel
theorem dX12_read_105 : decode cX12_read 105 = .ok (.aload_n 0, 1) := by decide +kernel
theorem dX12_read_106 : decode cX12_read 106 = .ok (.aload_n 0, 1) := by decide +kernel
theorem dX12_read_107 : decode cX12_read 107 = .ok (.bipush 115, 2) := by decide +kernel
theorem dX12_read_109 : decode cX12_read 109 = .ok (.bipush 108, 2) := by decide +kernel
theorem dX12_read_111 : decode cX12_read 111 = .ok (.bipush 105, 2) := by decide +kernel
theorem dX12_read_113 : decode cX12_read 113 = .ok (.bipush 112, 2) := by decide +kernel
theorem dX12_read_115 : decode cX12_read 115 = .ok (.bipush 115, 2) := by decide +kernel
theorem dX12_read_117 : decode cX12_read 117 = .ok (.iconst 0, 1) := by decide +kernel
theorem dX12_read_118 : decode cX12_read 118 = .ok (.iconst 0, 1) := by decide +kernel
theorem dX12_read_119 : decode cX12_read 119 = .ok (.iconst 0, 1) := by decide +kernel
theorem dX12_read_120 : decode cX12_read 120 = .ok (.invokevirtual 177, 3) := by decide +kernel
theorem dX12_read_123 : decode cX12_read 123 = .ok (.invokevirtual 232, 3) := by decide +kernel
theorem dX12_read_126 : decode cX12_read 126 = .ok (.istore 5, 2) := by decide +kernel
theorem dX12_read_128 : decode cX12_read 128 = .ok (.aload_n 0, 1) := by decide +kernel
theorem dX12_read_129 : decode cX12_read 129 = .ok (.getfield 157, 3) := by decide +kernel
theorem dX12_read_132 : decode cX12_read 132 = .ok (.ifCond .ne 14, 3) := by decide +kernel
theorem dX12_read_135 : decode cX12_read 135 = .ok (.aload_n 0, 1) := by decide +kernel
theorem dX12_read_136 : decode cX12_read 136 = .ok (.getfield 140, 3) := by decide +kernel
theorem dX12_read_139 : decode cX12_read 139 = .ok (.ifCond .eq 7, 3) := by decide +kernel
theorem dX12_read_142 : decode cX12_read 142 = .ok (.aload_n 0, 1) := by decide +kernel
theorem dX12_read_143 : decode cX12_read 143 = .ok (.invokevirtual 171, 3) := by decide +kernel
theorem dX12_read_146 : decode cX12_read 146 = .ok (.iload_n 2, 1) := by decide +kernel
theorem dX12_read_147 : decode cX12_read 147 = .ok (.ifCond .ne 7, 3) := by decide +kernel
theorem dX12_read_150 : decode cX12_read 150 = .ok (.iload_n 3, 1) := by decide +kernel
theorem dX12_read_151 : decode cX12_read 151 = .ok (.goto 15, 3) := by decide +kernel
theorem dX12_read_154 : decode cX12_read 154 = .ok (.iload_n 2, 1) := by decide +kernel
theorem dX12_read_155 : decode cX12_read 155 = .ok (.iconst 1, 1) := by decide +kernel
theorem dX12_read_156 : decode cX12_read 156 = .ok (.if_icmp .ne 8, 3) := by decide +kernel
theorem dX12_read_159 : decode cX12_read 159 = .ok (.iload 4, 2) := by decide +kernel
theorem dX12_read_161 : decode cX12_read 161 = .ok (.goto 5, 3) := by decide +kernel
theorem dX12_read_164 : decode cX12_read 164 = .ok (.iload 5, 2) := by decide +kernel
theorem dX12_read_166 : decode cX12_read 166 = .ok (.ireturn, 1) := by decide +kernel
theorem dX12_text_0 : decode cX12_text 0 = .ok (.aload_n 0, 1) := by decide +kernel
theorem dX12_text_1 : decode cX12_text 1 = .ok (.getfield 76, 3) := by decide +kernel
theorem dX12_text_4 : decode cX12_text 4 = .ok (.bipush 6, 2) := by decide +kernel
theorem dX12_text_6 : decode cX12_text 6 = .ok (.if_icmp .ne 6, 3) := by decide +kernel
theorem dX12_text_9 : decode cX12_text 9 = .ok (.bipush (-4), 2) := by decide +kernel
theorem dX12_text_11 : decode cX12_text 11 = .ok (.ireturn, 1) := by decide +kernel
theorem dX12_text_12 : decode cX12_text 12 = .ok (.iconst 0, 1) := by decide +kernel
theorem dX12_text_13 : decode cX12_text 13 = .ok (.istore_n 1, 1) := by decide +kernel
theorem dX12_text_14 : decode cX12_text 14 = .ok (.iload_n 1, 1) := by decide +kernel
theorem dX12_text_15 : decode cX12_text 15 = .ok (.aload_n 0, 1) := by decide +kernel
theorem dX12_text_16 : decode cX12_text 16 = .ok (.getfield 121, 3) := by decide +kernel
theorem dX12_text_19 : decode cX12_text 19 = .ok (.if_icmp .ge 30, 3) := by decide +kernel
theorem dX12_text_22 : decode cX12_text 22 = .ok (.aload_n 0, 1) := by decide +kernel
theorem dX12_text_23 : decode cX12_text 23 = .ok (.getfield 13, 3) := by decide +kernel
theorem dX12_text_26 : decode cX12_text 26 = .ok (.sipush 160, 3) := by decide +kernel
theorem dX12_text_29 : decode cX12_text 29 = .ok (.aload_n 0, 1) := by decide +kernel
theorem dX12_text_30 : decode cX12_text 30 = .ok (.getfield 76, 3) := by decide +kernel
theorem dX12_text_33 : decode cX12_text 33 = .ok (.imul, 1) := by decide +kernel
theorem dX12_text_34 : decode cX12_text 34 = .ok (.iload_n 1, 1) := by decide +kernel
theorem dX12_text_35 : decode cX12_text 35 = .ok (.iadd, 1) := by decide +kernel
theorem dX12_text_36 : decode cX12_text 36 = .ok (.aload_n 0, 1) := by decide +kernel
theorem dX12_text_37 : decode cX12_text 37 = .ok (.getfield 20, 3) := by decide +kernel
theorem dX12_text_40 : decode cX12_text 40 = .ok (.iload_n 1, 1) := by decide +kernel
theorem dX12_text_41 : decode cX12_text 41 = .ok (.iaload, 1) := by decide +kernel
theorem dX12_text_42 : decode cX12_text 42 = .ok (.iastore, 1) := by decide +kernel
theorem dX12_text_43 : decode cX12_text 43 = .ok (.iinc 1 1, 3) := by decide +kernel
theorem dX12_text_46 : decode cX12_text 46 = .ok (.goto (-32), 3) := by decide +kernel
theorem dX12_text_49 : decode cX12_text 49 = .ok (.aload_n 0, 1) := by decide +kernel
theorem dX12_text_50 : decode cX12_text 50 = .ok (.getfield 17, 3) := by decide +kernel
theorem dX12_text_53 : decode cX12_text 53 = .ok (.aload_n 0, 1) := by decide +kernel
theorem dX12_text_54 : decode cX12_text 54 = .ok (.getfield 76, 3) := by decide +kernel
theorem dX12_text_57 : decode cX12_text 57 = .ok (.aload_n 0, 1) := by decide +kernel
theorem dX12_text_58 : decode cX12_text 58 = .ok (.getfield 121, 3) := by decide +kernel
theorem dX12_text_61 : decode cX12_text 61 = .ok (.iastore, 1) := by decide +kernel
theorem dX12_text_62 : decode cX12_text 62 = .ok (.aload_n 0, 1) := by decide +kernel
theorem dX12_text_63 : decode cX12_text 63 = .ok (.iconst 0, 1) := by decide +kernel
theorem dX12_text_64 : decode cX12_text 64 = .ok (.putfield 121, 3) := by decide +kernel
theorem dX12_text_67 : decode cX12_text 67 = .ok (.aload_n 0, 1) := by decide +kernel
theorem dX12_text_68 : decode cX12_text 68 = .ok (.aload_n 0, 1) := by decide +kernel
theorem dX12_text_69 : decode cX12_text 69 = .ok (.getfield 76, 3) := by decide +kernel
theorem dX12_text_72 : decode cX12_text 72 = .ok (.iconst 0, 1) := by decide +kernel
theorem dX12_text_73 : decode cX12_text 73 = .ok (.invokevirtual 236, 3) := by decide +kernel
theorem dX12_text_76 : decode cX12_text 76 = .ok (.istore_n 1, 1) := by decide +kernel
theorem dX12_text_77 : decode cX12_text 77 = .ok (.aload_n 0, 1) := by decide +kernel
theorem dX12_text_78 : decode cX12_text 78 = .ok (.getfield 157, 3) := by decide +kernel
theorem dX12_text_81 : decode cX12_text 81 = .ok (.ifCond .eq 11, 3) := by decide +kernel
theorem dX12_text_84 : decode cX12_text 84 = .ok (.bipush (-100), 2) := by decide +kernel
theorem dX12_text_86 : decode cX12_text 86 = .ok (.aload_n 0, 1) := by decide +kernel
theorem dX12_text_87 : decode cX12_text 87 = .ok (.getfield 161, 3) := by decide +kernel
theorem dX12_text_90 : decode cX12_text 90 = .ok (.isub, 1) := by decide +kernel
theorem dX12_text_91 : decode cX12_text 91 = .ok (.ireturn, 1) := by decide +kernel
theorem dX12_text_92 : decode cX12_text 92 = .ok (.aload_n 0, 1) := by decide +kernel
theorem dX12_text_93 : decode cX12_text 93 = .ok (.dup, 1) := by decide +kernel
theorem dX12_text_94 : decode cX12_text 94 = .ok (.getfield 76, 3) := by decide +kernel
theorem dX12_text_97 : decode cX12_text 97 = .ok (.iconst 1, 1) := by decide +kernel
theorem dX12_text_98 : decode cX12_text 98 = .ok (.iadd, 1) := by decide +kernel
theorem dX12_text_99 : decode cX12_text 99 = .ok (.putfield 76, 3) := by decide +kernel
theorem dX12_text_102 : decode cX12_text 102 = .ok (.aload_n 0, 1) := by decide +kernel
theorem dX12_text_103 : decode cX12_text 103 = .ok (.getfield 76, 3) := by decide +kernel
theorem dX12_text_106 : decode cX12_text 106 = .ok (.iconst 1, 1) := by decide +kernel
theorem dX12_text_107 : decode cX12_text 107 = .ok (.isub, 1) := by decide +kernel
theorem dX12_text_108 : decode cX12_text 108 = .ok (.ireturn, 1) := by decide +kernel
theorem dX12_force_0 : decode cX12_force 0 = .ok (.iload_n 1, 1) := by decide +kernel
theorem dX12_force_1 : decode cX12_force 1 = .ok (.i2l, 1) := by decide +kernel
theorem dX12_force_2 : decode cX12_force 2 = .ok (.lconst 0, 1) := by decide +kernel
theorem dX12_force_3 : decode cX12_force 3 = .ok (.aload_n 0, 1) := by decide +kernel
theorem dX12_force_4 : decode cX12_force 4 = .ok (.getfield 76, 3) := by decide +kernel
theorem dX12_force_7 : decode cX12_force 7 = .ok (.iconst 1, 1) := by decide +kernel
theorem dX12_force_8 : decode cX12_force 8 = .ok (.isub, 1) := by decide +kernel
theorem dX12_force_9 : decode cX12_force 9 = .ok (.i2l, 1) := by decide +kernel
theorem dX12_force_10 : decode cX12_force 10 = .ok (.invokestatic 82, 3) := by decide +kernel
theorem dX12_force_13 : decode cX12_force 13 = .ok (.ifCond .ne 6, 3) := by decide +kernel
theorem dX12_force_16 : decode cX12_force 16 = .ok (.bipush (-2), 2) := by decide +kernel
theorem dX12_force_18 : decode cX12_force 18 = .ok (.ireturn, 1) := by decide +kernel
theorem dX12_force_19 : decode cX12_force 19 = .ok (.aload_n 0, 1) := by decide +kernel
theorem dX12_force_20 : decode cX12_force 20 = .ok (.getfield 239, 3) := by decide +kernel
theorem dX12_force_23 : decode cX12_force 23 = .ok (.istore_n 2, 1) := by decide +kernel
theorem dX12_force_24 : decode cX12_force 24 = .ok (.aload_n 0, 1) := by decide +kernel
theorem dX12_force_25 : decode cX12_force 25 = .ok (.iload_n 1, 1) := by decide +kernel
theorem dX12_force_26 : decode cX12_force 26 = .ok (.putfield 239, 3) := by decide +kernel
theorem dX12_force_29 : decode cX12_force 29 = .ok (.iload_n 2, 1) := by decide +kernel
theorem dX12_force_30 : decode cX12_force 30 = .ok (.ireturn, 1) := by decide +kernel
theorem dX12_says_0 : decode cX12_says 0 = .ok (.aload_n 0, 1) := by decide +kernel
theorem dX12_says_1 : decode cX12_says 1 = .ok (.iload_n 3, 1) := by decide +kernel
theorem dX12_says_2 : decode cX12_says 2 = .ok (.putfield 181, 3) := by decide +kernel
theorem dX12_says_5 : decode cX12_says 5 = .ok (.aload_n 0, 1) := by decide +kernel
theorem dX12_says_6 : decode cX12_says 6 = .ok (.aload_n 0, 1) := by decide +kernel
theorem dX12_says_7 : decode cX12_says 7 = .ok (.getfield 109, 3) := by decide +kernel
theorem dX12_says_10 : decode cX12_says 10 = .ok (.putfield 184, 3) := by decide +kernel
theorem dX12_says_13 : decode cX12_says 13 = .ok (.aload_n 0, 1) := by decide +kernel
theorem dX12_says_14 : decode cX12_says 14 = .ok (.aload_n 0, 1) := by decide +kernel
theorem dX12_says_15 : decode cX12_says 15 = .ok (.getfield 26, 3) := by decide +kernel
theorem dX12_says_18 : decode cX12_says 18 = .ok (.iload_n 2, 1) := by decide +kernel
theorem dX12_says_19 : decode cX12_says 19 = .ok (.iaload, 1) := by decide +kernel
theorem dX12_says_20 : decode cX12_says 20 = .ok (.putfield 187, 3) := by decide +kernel
theorem dX12_says_23 : decode cX12_says 23 = .ok (.aload_n 0, 1) := by decide +kernel
theorem dX12_says_24 : decode cX12_says 24 = .ok (.aload_n 0, 1) := by decide +kernel
theorem dX12_says_25 : decode cX12_says 25 = .ok (.getfield 29, 3) := by decide +kernel
theorem dX12_says_28 : decode cX12_says 28 = .ok (.iload_n 2, 1) := by decide +kernel
theorem dX12_says_29 : decode cX12_says 29 = .ok (.iaload, 1) := by decide +kernel
theorem dX12_says_30 : decode cX12_says 30 = .ok (.putfield 190, 3) := by decide +kernel
theorem dX12_says_33 : decode cX12_says 33 = .ok (.aload_n 0, 1) := by decide +kernel
theorem dX12_says_34 : decode cX12_says 34 = .ok (.iload 4, 2) := by decide +kernel
theorem dX12_says_36 : decode cX12_says 36 = .ok (.putfield 193, 3) := by decide +kernel
theorem dX12_says_39 : decode cX12_says 39 = .ok (.aload_n 0, 1) := by decide +kernel
theorem dX12_says_40 : decode cX12_says 40 = .ok (.iload 5, 2) := by decide +kernel
theorem dX12_says_42 : decode cX12_says 42 = .ok (.putfield 196, 3) := by decide +kernel
theorem dX12_says_45 : decode cX12_says 45 = .ok (.aload_n 0, 1) := by decide +kernel
theorem dX12_says_46 : decode cX12_says 46 = .ok (.aload_n 0, 1) := by decide +kernel
theorem dX12_says_47 : decode cX12_says 47 = .ok (.getfield 239, 3) := by decide +kernel
theorem dX12_says_50 : decode cX12_says 50 = .ok (.iload_n 1, 1) := by decide +kernel
theorem dX12_says_51 : decode cX12_says 51 = .ok (.invokevirtual 236, 3) := by decide +kernel
theorem dX12_says_54 : decode cX12_says 54 = .ok (.iconst 0, 1) := by decide +kernel
theorem dX12_says_55 : decode cX12_says 55 = .ok (.iload_n 1, 1) := by decide +kernel
theorem dX12_says_56 : decode cX12_says 56 = .ok (.iconst 2, 1) := by decide +kernel
theorem dX12_says_57 : decode cX12_says 57 = .ok (.if_icmp .ne 8, 3) := by decide +kernel
theorem dX12_says_60 : decode cX12_says 60 = .ok (.bipush 100, 2) := by decide +kernel
theorem dX12_says_62 : decode cX12_says 62 = .ok (.goto 5, 3) := by decide +kernel
theorem dX12_says_65 : decode cX12_says 65 = .ok (.bipush 99, 2) := by decide +kernel
theorem dX12_says_67 : decode cX12_says 67 = .ok (.invokestatic 242, 3) := by decide +kernel
theorem dX12_says_70 : decode cX12_says 70 = .ok (.ireturn, 1) := by decide +kernel
theorem dX12_plain_0 : decode cX12_plain 0 = .ok (.iload_n 0, 1) := by decide +kernel
theorem dX12_plain_1 : decode cX12_plain 1 = .ok (.ifCond .ge 8, 3) := by decide +kernel
theorem dX12_plain_4 : decode cX12_plain 4 = .ok (.iload_n 0, 1) := by decide +kernel
theorem dX12_plain_5 : decode cX12_plain 5 = .ok (.ineg, 1) := by decide +kernel
theorem dX12_plain_6 : decode cX12_plain 6 = .ok (.goto 4, 3) := by decide +kernel
theorem dX12_plain_9 : decode cX12_plain 9 = .ok (.iload_n 0, 1) := by decide +kernel
theorem dX12_plain_10 : decode cX12_plain 10 = .ok (.ireturn, 1) := by decide +kernel
theorem dX12_farOf_0 : decode cX12_farOf 0 = .ok (.iload_n 0, 1) := by decide +kernel
theorem dX12_farOf_1 : decode cX12_farOf 1 = .ok (.iconst 5, 1) := by decide +kernel
theorem dX12_farOf_2 : decode cX12_farOf 2 = .ok (.irem, 1) := by decide +kernel
theorem dX12_farOf_3 : decode cX12_farOf 3 = .ok (.iload_n 1, 1) := by decide +kernel
theorem dX12_farOf_4 : decode cX12_farOf 4 = .ok (.iconst 5, 1) := by decide +kernel
theorem dX12_farOf_5 : decode cX12_farOf 5 = .ok (.irem, 1) := by decide +kernel
theorem dX12_farOf_6 : decode cX12_farOf 6 = .ok (.isub, 1) := by decide +kernel
theorem dX12_farOf_7 : decode cX12_farOf 7 = .ok (.invokestatic 246, 3) := by decide +kernel
theorem dX12_farOf_10 : decode cX12_farOf 10 = .ok (.istore_n 2, 1) := by decide +kernel
theorem dX12_farOf_11 : decode cX12_farOf 11 = .ok (.iload_n 0, 1) := by decide +kernel
theorem dX12_farOf_12 : decode cX12_farOf 12 = .ok (.iconst 5, 1) := by decide +kernel
theorem dX12_farOf_13 : decode cX12_farOf 13 = .ok (.idiv, 1) := by decide +kernel
theorem dX12_farOf_14 : decode cX12_farOf 14 = .ok (.iload_n 1, 1) := by decide +kernel
theorem dX12_farOf_15 : decode cX12_farOf 15 = .ok (.iconst 5, 1) := by decide +kernel
theorem dX12_farOf_16 : decode cX12_farOf 16 = .ok (.idiv, 1) := by decide +kernel
theorem dX12_farOf_17 : decode cX12_farOf 17 = .ok (.isub, 1) := by decide +kernel
theorem dX12_farOf_18 : decode cX12_farOf 18 = .ok (.invokestatic 246, 3) := by decide +kernel
theorem dX12_farOf_21 : decode cX12_farOf 21 = .ok (.istore_n 3, 1) := by decide +kernel
theorem dX12_farOf_22 : decode cX12_farOf 22 = .ok (.iload_n 2, 1) := by decide +kernel
theorem dX12_farOf_23 : decode cX12_farOf 23 = .ok (.iload_n 3, 1) := by decide +kernel
theorem dX12_farOf_24 : decode cX12_farOf 24 = .ok (.if_icmp .le 7, 3) := by decide +kernel
theorem dX12_farOf_27 : decode cX12_farOf 27 = .ok (.iload_n 2, 1) := by decide +kernel
theorem dX12_farOf_28 : decode cX12_farOf 28 = .ok (.goto 4, 3) := by decide +kernel
theorem dX12_farOf_31 : decode cX12_farOf 31 = .ok (.iload_n 3, 1) := by decide +kernel
theorem dX12_farOf_32 : decode cX12_farOf 32 = .ok (.ireturn, 1) := by decide +kernel
theorem dX12_across_0 : decode cX12_across 0 = .ok (.iload_n 0, 1) := by decide +kernel
theorem dX12_across_1 : decode cX12_across 1 = .ok (.iload_n 0, 1) := by decide +kernel
theorem dX12_across_2 : decode cX12_across 2 = .ok (.iconst 5, 1) := by decide +kernel
theorem dX12_across_3 : decode cX12_across 3 = .ok (.irem, 1) := by decide +kernel
theorem dX12_across_4 : decode cX12_across 4 = .ok (.isub, 1) := by decide +kernel
theorem dX12_across_5 : decode cX12_across 5 = .ok (.iconst 4, 1) := by decide +kernel
theorem dX12_across_6 : decode cX12_across 6 = .ok (.iadd, 1) := by decide +kernel
theorem dX12_across_7 : decode cX12_across 7 = .ok (.iload_n 0, 1) := by decide +kernel
theorem dX12_across_8 : decode cX12_across 8 = .ok (.iconst 5, 1) := by decide +kernel
theorem dX12_across_9 : decode cX12_across 9 = .ok (.irem, 1) := by decide +kernel
theorem dX12_across_10 : decode cX12_across 10 = .ok (.isub, 1) := by decide +kernel
theorem dX12_across_11 : decode cX12_across 11 = .ok (.ireturn, 1) := by decide +kernel
theorem dX12_comesTo_0 : decode cX12_comesTo 0 = .ok (.aload_n 0, 1) := by decide +kernel
theorem dX12_comesTo_1 : decode cX12_comesTo 1 = .ok (.getfield 35, 3) := by decide +kernel
theorem dX12_comesTo_4 : decode cX12_comesTo 4 = .ok (.iload_n 1, 1) := by decide +kernel
theorem dX12_comesTo_5 : decode cX12_comesTo 5 = .ok (.iaload, 1) := by decide +kernel
theorem dX12_comesTo_6 : decode cX12_comesTo 6 = .ok (.istore_n 3, 1) := by decide +kernel
theorem dX12_comesTo_7 : decode cX12_comesTo 7 = .ok (.aload_n 0, 1) := by decide +kernel
theorem dX12_comesTo_8 : decode cX12_comesTo 8 = .ok (.getfield 41, 3) := by decide +kernel
theorem dX12_comesTo_11 : decode cX12_comesTo 11 = .ok (.iload_n 1, 1) := by decide +kernel
theorem dX12_comesTo_12 : decode cX12_comesTo 12 = .ok (.iaload, 1) := by decide +kernel
theorem dX12_comesTo_13 : decode cX12_comesTo 13 = .ok (.istore 4, 2) := by decide +kernel
theorem dX12_comesTo_15 : decode cX12_comesTo 15 = .ok (.iload_n 3, 1) := by decide +kernel
theorem dX12_comesTo_16 : decode cX12_comesTo 16 = .ok (.iconst 3, 1) := by decide +kernel
theorem dX12_comesTo_17 : decode cX12_comesTo 17 = .ok (.if_icmp .ne 20, 3) := by decide +kernel
theorem dX12_comesTo_20 : decode cX12_comesTo 20 = .ok (.iload 4, 2) := by decide +kernel
theorem dX12_comesTo_22 : decode cX12_comesTo 22 = .ok (.bipush 20, 2) := by decide +kernel
theorem dX12_comesTo_24 : decode cX12_comesTo 24 = .ok (.if_icmp .ge 10, 3) := by decide +kernel
theorem dX12_comesTo_27 : decode cX12_comesTo 27 = .ok (.iload 4, 2) := by decide +kernel
theorem dX12_comesTo_29 : decode cX12_comesTo 29 = .ok (.iconst 5, 1) := by decide +kernel
theorem dX12_comesTo_30 : decode cX12_comesTo 30 = .ok (.iadd, 1) := by decide +kernel
theorem dX12_comesTo_31 : decode cX12_comesTo 31 = .ok (.goto 5, 3) := by decide +kernel
theorem dX12_comesTo_34 : decode cX12_comesTo 34 = .ok (.iload 4, 2) := by decide +kernel
theorem dX12_comesTo_36 : decode cX12_comesTo 36 = .ok (.ireturn, 1) := by decide +kernel
theorem dX12_comesTo_37 : decode cX12_comesTo 37 = .ok (.iload_n 3, 1) := by decide +kernel
theorem dX12_comesTo_38 : decode cX12_comesTo 38 = .ok (.iconst 4, 1) := by decide +kernel
theorem dX12_comesTo_39 : decode cX12_comesTo 39 = .ok (.if_icmp .eq 15, 3) := by decide +kernel
theorem dX12_comesTo_42 : decode cX12_comesTo 42 = .ok (.iload_n 3, 1) := by decide +kernel
theorem dX12_comesTo_43 : decode cX12_comesTo 43 = .ok (.iconst 5, 1) := by decide +kernel
theorem dX12_comesTo_44 : decode cX12_comesTo 44 = .ok (.if_icmp .ne 18, 3) := by decide +kernel
theorem dX12_comesTo_47 : decode cX12_comesTo 47 = .ok (.iload_n 2, 1) := by decide +kernel
theorem dX12_comesTo_48 : decode cX12_comesTo 48 = .ok (.iconst 5, 1) := by decide +kernel
theorem dX12_comesTo_49 : decode cX12_comesTo 49 = .ok (.irem, 1) := by decide +kernel
theorem dX12_comesTo_50 : decode cX12_comesTo 50 = .ok (.iconst 2, 1) := by decide +kernel
theorem dX12_comesTo_51 : decode cX12_comesTo 51 = .ok (.if_icmp .ge 11, 3) := by decide +kernel
theorem dX12_comesTo_54 : decode cX12_comesTo 54 = .ok (.iload 4, 2) := by decide +kernel
theorem dX12_comesTo_56 : decode cX12_comesTo 56 = .ok (.invokestatic 249, 3) := by decide +kernel
theorem dX12_comesTo_59 : decode cX12_comesTo 59 = .ok (.goto 5, 3) := by decide +kernel
theorem dX12_comesTo_62 : decode cX12_comesTo 62 = .ok (.iload 4, 2) := by decide +kernel
theorem dX12_comesTo_64 : decode cX12_comesTo 64 = .ok (.ireturn, 1) := by decide +kernel
theorem dX12_tenthsOf_0 : decode cX12_tenthsOf 0 = .ok (.aload_n 0, 1) := by decide +kernel
theorem dX12_tenthsOf_1 : decode cX12_tenthsOf 1 = .ok (.getfield 35, 3) := by decide +kernel
theorem dX12_tenthsOf_4 : decode cX12_tenthsOf 4 = .ok (.iload_n 2, 1) := by decide +kernel
theorem dX12_tenthsOf_5 : decode cX12_tenthsOf 5 = .ok (.iaload, 1) := by decide +kernel
theorem dX12_tenthsOf_6 : decode cX12_tenthsOf 6 = .ok (.istore_n 3, 1) := by decide +kernel
theorem dX12_tenthsOf_7 : decode cX12_tenthsOf 7 = .ok (.aload_n 0, 1) := by decide +kernel
theorem dX12_tenthsOf_8 : decode cX12_tenthsOf 8 = .ok (.iload_n 2, 1) := by decide +kernel
theorem dX12_tenthsOf_9 : decode cX12_tenthsOf 9 = .ok (.aload_n 0, 1) := by decide +kernel
theorem dX12_tenthsOf_10 : decode cX12_tenthsOf 10 = .ok (.getfield 23, 3) := by decide +kernel
theorem dX12_tenthsOf_13 : decode cX12_tenthsOf 13 = .ok (.iload_n 1, 1) := by decide +kernel
theorem dX12_tenthsOf_14 : decode cX12_tenthsOf 14 = .ok (.iaload, 1) := by decide +kernel
theorem dX12_tenthsOf_15 : decode cX12_tenthsOf 15 = .ok (.invokevirtual 252, 3) := by decide +kernel
theorem dX12_tenthsOf_18 : decode cX12_tenthsOf 18 = .ok (.istore 4, 2) := by decide +kernel
theorem dX12_tenthsOf_20 : decode cX12_tenthsOf 20 = .ok (.aload_n 0, 1) := by decide +kernel
theorem dX12_tenthsOf_21 : decode cX12_tenthsOf 21 = .ok (.iconst 0, 1) := by decide +kernel
theorem dX12_tenthsOf_22 : decode cX12_tenthsOf 22 = .ok (.iload_n 1, 1) := by decide +kernel
theorem dX12_tenthsOf_23 : decode cX12_tenthsOf 23 = .ok (.aload_n 0, 1) := by decide +kernel
theorem dX12_tenthsOf_24 : decode cX12_tenthsOf 24 = .ok (.getfield 23, 3) := by decide +kernel
theorem dX12_tenthsOf_27 : decode cX12_tenthsOf 27 = .ok (.iload_n 1, 1) := by decide +kernel
theorem dX12_tenthsOf_28 : decode cX12_tenthsOf 28 = .ok (.iaload, 1) := by decide +kernel
theorem dX12_tenthsOf_29 : decode cX12_tenthsOf 29 = .ok (.iload 4, 2) := by decide +kernel
theorem dX12_tenthsOf_31 : decode cX12_tenthsOf 31 = .ok (.invokestatic 255, 3) := by decide +kernel
theorem dX12_tenthsOf_34 : decode cX12_tenthsOf 34 = .ok (.aload_n 0, 1) := by decide +kernel
theorem dX12_tenthsOf_35 : decode cX12_tenthsOf 35 = .ok (.getfield 38, 3) := by decide +kernel
theorem dX12_tenthsOf_38 : decode cX12_tenthsOf 38 = .ok (.iload_n 2, 1) := by decide +kernel
theorem dX12_tenthsOf_39 : decode cX12_tenthsOf 39 = .ok (.iaload, 1) := by decide +kernel
theorem dX12_tenthsOf_40 : decode cX12_tenthsOf 40 = .ok (.iload 4, 2) := by decide +kernel
theorem dX12_tenthsOf_42 : decode cX12_tenthsOf 42 = .ok (.invokevirtual 258, 3) := by decide +kernel
theorem dX12_tenthsOf_45 : decode cX12_tenthsOf 45 = .ok (.istore 5, 2) := by decide +kernel
theorem dX12_tenthsOf_47 : decode cX12_tenthsOf 47 = .ok (.iload_n 3, 1) := by decide +kernel
theorem dX12_tenthsOf_48 : decode cX12_tenthsOf 48 = .ok (.ifCond .ne 6, 3) := by decide +kernel
theorem dX12_tenthsOf_51 : decode cX12_tenthsOf 51 = .ok (.iload 5, 2) := by decide +kernel
theorem dX12_tenthsOf_53 : decode cX12_tenthsOf 53 = .ok (.ireturn, 1) := by decide +kernel
theorem dX12_tenthsOf_54 : decode cX12_tenthsOf 54 = .ok (.aload_n 0, 1) := by decide +kernel
theorem dX12_tenthsOf_55 : decode cX12_tenthsOf 55 = .ok (.getfield 109, 3) := by decide +kernel
theorem dX12_tenthsOf_58 : decode cX12_tenthsOf 58 = .ok (.bipush 20, 2) := by decide +kernel
theorem dX12_tenthsOf_60 : decode cX12_tenthsOf 60 = .ok (.if_icmp .ge 10, 3) := by decide +kernel
theorem dX12_tenthsOf_63 : decode cX12_tenthsOf 63 = .ok (.iload 5, 2) := by decide +kernel
theorem dX12_tenthsOf_65 : decode cX12_tenthsOf 65 = .ok (.iconst 2, 1) := by decide +kernel
theorem dX12_tenthsOf_66 : decode cX12_tenthsOf 66 = .ok (.idiv, 1) := by decide +kernel
theorem dX12_tenthsOf_67 : decode cX12_tenthsOf 67 = .ok (.goto 5, 3) := by decide +kernel
theorem dX12_tenthsOf_70 : decode cX12_tenthsOf 70 = .ok (.iload 5, 2) := by decide +kernel
theorem dX12_tenthsOf_72 : decode cX12_tenthsOf 72 = .ok (.istore 6, 2) := by decide +kernel
theorem dX12_tenthsOf_74 : decode cX12_tenthsOf 74 = .ok (.iload_n 3, 1) := by decide +kernel
theorem dX12_tenthsOf_75 : decode cX12_tenthsOf 75 = .ok (.iconst 2, 1) := by decide +kernel
theorem dX12_tenthsOf_76 : decode cX12_tenthsOf 76 = .ok (.if_icmp .eq 8, 3) := by decide +kernel
theorem dX12_tenthsOf_79 : decode cX12_tenthsOf 79 = .ok (.iload_n 3, 1) := by decide +kernel
theorem dX12_tenthsOf_80 : decode cX12_tenthsOf 80 = .ok (.iconst 4, 1) := by decide +kernel
theorem dX12_tenthsOf_81 : decode cX12_tenthsOf 81 = .ok (.if_icmp .ne 18, 3) := by decide +kernel
theorem dX12_tenthsOf_84 : decode cX12_tenthsOf 84 = .ok (.iload_n 3, 1) := by decide +kernel
theorem dX12_tenthsOf_85 : decode cX12_tenthsOf 85 = .ok (.iconst 4, 1) := by decide +kernel
theorem dX12_tenthsOf_86 : decode cX12_tenthsOf 86 = .ok (.if_icmp .ne 10, 3) := by decide +kernel
theorem dX12_tenthsOf_89 : decode cX12_tenthsOf 89 = .ok (.iload 6, 2) := by decide +kernel
theorem dX12_tenthsOf_91 : decode cX12_tenthsOf 91 = .ok (.iconst 3, 1) := by decide +kernel
theorem dX12_tenthsOf_92 : decode cX12_tenthsOf 92 = .ok (.iadd, 1) := by decide +kernel
theorem dX12_tenthsOf_93 : decode cX12_tenthsOf 93 = .ok (.goto 5, 3) := by decide +kernel
theorem dX12_tenthsOf_96 : decode cX12_tenthsOf 96 = .ok (.iload 6, 2) := by decide +kernel
theorem dX12_tenthsOf_98 : decode cX12_tenthsOf 98 = .ok (.ireturn, 1) := by decide +kernel
theorem dX12_tenthsOf_99 : decode cX12_tenthsOf 99 = .ok (.iload 5, 2) := by decide +kernel
theorem dX12_tenthsOf_101 : decode cX12_tenthsOf 101 = .ok (.aload_n 0, 1) := by decide +kernel
theorem dX12_tenthsOf_102 : decode cX12_tenthsOf 102 = .ok (.getfield 38, 3) := by decide +kernel
theorem dX12_tenthsOf_105 : decode cX12_tenthsOf 105 = .ok (.iload_n 2, 1) := by decide +kernel
theorem dX12_tenthsOf_106 : decode cX12_tenthsOf 106 = .ok (.iaload, 1) := by decide +kernel
theorem dX12_tenthsOf_107 : decode cX12_tenthsOf 107 = .ok (.iadd, 1) := by decide +kernel
theorem dX12_tenthsOf_108 : decode cX12_tenthsOf 108 = .ok (.istore 7, 2) := by decide +kernel
theorem dX12_tenthsOf_110 : decode cX12_tenthsOf 110 = .ok (.iload_n 3, 1) := by decide +kernel
theorem dX12_tenthsOf_111 : decode cX12_tenthsOf 111 = .ok (.iconst 3, 1) := by decide +kernel
theorem dX12_tenthsOf_112 : decode cX12_tenthsOf 112 = .ok (.if_icmp .ne 11, 3) := by decide +kernel
theorem dX12_tenthsOf_115 : decode cX12_tenthsOf 115 = .ok (.iload 7, 2) := by decide +kernel
theorem dX12_tenthsOf_117 : decode cX12_tenthsOf 117 = .ok (.bipush 10, 2) := by decide +kernel
theorem dX12_tenthsOf_119 : decode cX12_tenthsOf 119 = .ok (.iadd, 1) := by decide +kernel
theorem dX12_tenthsOf_120 : decode cX12_tenthsOf 120 = .ok (.goto 17, 3) := by decide +kernel
theorem dX12_tenthsOf_123 : decode cX12_tenthsOf 123 = .ok (.iload_n 3, 1) := by decide +kernel
theorem dX12_tenthsOf_124 : decode cX12_tenthsOf 124 = .ok (.iconst 5, 1) := by decide +kernel
theorem dX12_tenthsOf_125 : decode cX12_tenthsOf 125 = .ok (.if_icmp .ne 10, 3) := by decide +kernel
theorem dX12_tenthsOf_128 : decode cX12_tenthsOf 128 = .ok (.iload 7, 2) := by decide +kernel
theorem dX12_tenthsOf_130 : decode cX12_tenthsOf 130 = .ok (.iconst 2, 1) := by decide +kernel
theorem dX12_tenthsOf_131 : decode cX12_tenthsOf 131 = .ok (.isub, 1) := by decide +kernel
theorem dX12_tenthsOf_132 : decode cX12_tenthsOf 132 = .ok (.goto 5, 3) := by decide +kernel
theorem dX12_tenthsOf_135 : decode cX12_tenthsOf 135 = .ok (.iload 7, 2) := by decide +kernel
theorem dX12_tenthsOf_137 : decode cX12_tenthsOf 137 = .ok (.istore 8, 2) := by decide +kernel
theorem dX12_tenthsOf_139 : decode cX12_tenthsOf 139 = .ok (.iload 8, 2) := by decide +kernel
theorem dX12_tenthsOf_141 : decode cX12_tenthsOf 141 = .ok (.ifCond .ge 7, 3) := by decide +kernel
theorem dX12_tenthsOf_144 : decode cX12_tenthsOf 144 = .ok (.iconst 0, 1) := by decide +kernel
theorem dX12_tenthsOf_145 : decode cX12_tenthsOf 145 = .ok (.goto 5, 3) := by decide +kernel
theorem dX12_tenthsOf_148 : decode cX12_tenthsOf 148 = .ok (.iload 8, 2) := by decide +kernel
theorem dX12_tenthsOf_150 : decode cX12_tenthsOf 150 = .ok (.ireturn, 1) := by decide +kernel
theorem dX12_slipsOf_0 : decode cX12_slipsOf 0 = .ok (.aload_n 0, 1) := by decide +kernel
theorem dX12_slipsOf_1 : decode cX12_slipsOf 1 = .ok (.iload_n 2, 1) := by decide +kernel
theorem dX12_slipsOf_2 : decode cX12_slipsOf 2 = .ok (.aload_n 0, 1) := by decide +kernel
theorem dX12_slipsOf_3 : decode cX12_slipsOf 3 = .ok (.getfield 23, 3) := by decide +kernel
theorem dX12_slipsOf_6 : decode cX12_slipsOf 6 = .ok (.iload_n 1, 1) := by decide +kernel
theorem dX12_slipsOf_7 : decode cX12_slipsOf 7 = .ok (.iaload, 1) := by decide +kernel
theorem dX12_slipsOf_8 : decode cX12_slipsOf 8 = .ok (.invokevirtual 252, 3) := by decide +kernel
theorem dX12_slipsOf_11 : decode cX12_slipsOf 11 = .ok (.istore_n 3, 1) := by decide +kernel
theorem dX12_slipsOf_12 : decode cX12_slipsOf 12 = .ok (.aload_n 0, 1) := by decide +kernel
theorem dX12_slipsOf_13 : decode cX12_slipsOf 13 = .ok (.iconst 2, 1) := by decide +kernel
theorem dX12_slipsOf_14 : decode cX12_slipsOf 14 = .ok (.iload_n 1, 1) := by decide +kernel
theorem dX12_slipsOf_15 : decode cX12_slipsOf 15 = .ok (.aload_n 0, 1) := by decide +kernel
theorem dX12_slipsOf_16 : decode cX12_slipsOf 16 = .ok (.getfield 23, 3) := by decide +kernel
theorem dX12_slipsOf_19 : decode cX12_slipsOf 19 = .ok (.iload_n 1, 1) := by decide +kernel
theorem dX12_slipsOf_20 : decode cX12_slipsOf 20 = .ok (.iaload, 1) := by decide +kernel
theorem dX12_slipsOf_21 : decode cX12_slipsOf 21 = .ok (.iload_n 3, 1) := by decide +kernel
theorem dX12_slipsOf_22 : decode cX12_slipsOf 22 = .ok (.invokestatic 255, 3) := by decide +kernel
theorem dX12_slipsOf_25 : decode cX12_slipsOf 25 = .ok (.aload_n 0, 1) := by decide +kernel
theorem dX12_slipsOf_26 : decode cX12_slipsOf 26 = .ok (.getfield 38, 3) := by decide +kernel
theorem dX12_slipsOf_29 : decode cX12_slipsOf 29 = .ok (.iload_n 2, 1) := by decide +kernel
theorem dX12_slipsOf_30 : decode cX12_slipsOf 30 = .ok (.iaload, 1) := by decide +kernel
theorem dX12_slipsOf_31 : decode cX12_slipsOf 31 = .ok (.iload_n 3, 1) := by decide +kernel
theorem dX12_slipsOf_32 : decode cX12_slipsOf 32 = .ok (.invokevirtual 258, 3) := by decide +kernel
theorem dX12_slipsOf_35 : decode cX12_slipsOf 35 = .ok (.ireturn, 1) := by decide +kernel
theorem dX12_spendsOf_0 : decode cX12_spendsOf 0 = .ok (.aload_n 0, 1) := by decide +kernel
theorem dX12_spendsOf_1 : decode cX12_spendsOf 1 = .ok (.getfield 35, 3) := by decide +kernel
theorem dX12_spendsOf_4 : decode cX12_spendsOf 4 = .ok (.iload_n 1, 1) := by decide +kernel
theorem dX12_spendsOf_5 : decode cX12_spendsOf 5 = .ok (.iaload, 1) := by decide +kernel
theorem dX12_spendsOf_6 : decode cX12_spendsOf 6 = .ok (.istore_n 2, 1) := by decide +kernel
theorem dX12_spendsOf_7 : decode cX12_spendsOf 7 = .ok (.iload_n 2, 1) := by decide +kernel
theorem dX12_spendsOf_8 : decode cX12_spendsOf 8 = .ok (.iconst 3, 1) := by decide +kernel
theorem dX12_spendsOf_9 : decode cX12_spendsOf 9 = .ok (.if_icmp .ne 7, 3) := by decide +kernel
theorem dX12_spendsOf_12 : decode cX12_spendsOf 12 = .ok (.iconst 0, 1) := by decide +kernel
theorem dX12_spendsOf_13 : decode cX12_spendsOf 13 = .ok (.goto 36, 3) := by decide +kernel
theorem dX12_spendsOf_16 : decode cX12_spendsOf 16 = .ok (.iload_n 2, 1) := by decide +kernel
theorem dX12_spendsOf_17 : decode cX12_spendsOf 17 = .ok (.iconst 5, 1) := by decide +kernel
theorem dX12_spendsOf_18 : decode cX12_spendsOf 18 = .ok (.if_icmp .ne 7, 3) := by decide +kernel
theorem dX12_spendsOf_21 : decode cX12_spendsOf 21 = .ok (.iconst 3, 1) := by decide +kernel
theorem dX12_spendsOf_22 : decode cX12_spendsOf 22 = .ok (.goto 27, 3) := by decide +kernel
theorem dX12_spendsOf_25 : decode cX12_spendsOf 25 = .ok (.iload_n 2, 1) := by decide +kernel
theorem dX12_spendsOf_26 : decode cX12_spendsOf 26 = .ok (.iconst 2, 1) := by decide +kernel
theorem dX12_spendsOf_27 : decode cX12_spendsOf 27 = .ok (.if_icmp .eq 8, 3) := by decide +kernel
theorem dX12_spendsOf_30 : decode cX12_spendsOf 30 = .ok (.iload_n 2, 1) := by decide +kernel
theorem dX12_spendsOf_31 : decode cX12_spendsOf 31 = .ok (.iconst 4, 1) := by decide +kernel
theorem dX12_spendsOf_32 : decode cX12_spendsOf 32 = .ok (.if_icmp .ne 16, 3) := by decide +kernel
theorem dX12_spendsOf_35 : decode cX12_spendsOf 35 = .ok (.iconst 1, 1) := by decide +kernel
theorem dX12_spendsOf_36 : decode cX12_spendsOf 36 = .ok (.aload_n 0, 1) := by decide +kernel
theorem dX12_spendsOf_37 : decode cX12_spendsOf 37 = .ok (.getfield 38, 3) := by decide +kernel
theorem dX12_spendsOf_40 : decode cX12_spendsOf 40 = .ok (.iload_n 1, 1) := by decide +kernel
theorem dX12_spendsOf_41 : decode cX12_spendsOf 41 = .ok (.iaload, 1) := by decide +kernel
theorem dX12_spendsOf_42 : decode cX12_spendsOf 42 = .ok (.iconst 2, 1) := by decide +kernel
theorem dX12_spendsOf_43 : decode cX12_spendsOf 43 = .ok (.idiv, 1) := by decide +kernel
theorem dX12_spendsOf_44 : decode cX12_spendsOf 44 = .ok (.iadd, 1) := by decide +kernel
theorem dX12_spendsOf_45 : decode cX12_spendsOf 45 = .ok (.goto 4, 3) := by decide +kernel
theorem dX12_spendsOf_48 : decode cX12_spendsOf 48 = .ok (.iconst 1, 1) := by decide +kernel
theorem dX12_spendsOf_49 : decode cX12_spendsOf 49 = .ok (.ireturn, 1) := by decide +kernel
theorem dX12_needsOf_0 : decode cX12_needsOf 0 = .ok (.iload_n 2, 1) := by decide +kernel
theorem dX12_needsOf_1 : decode cX12_needsOf 1 = .ok (.iload_n 3, 1) := by decide +kernel
theorem dX12_needsOf_2 : decode cX12_needsOf 2 = .ok (.invokestatic 255, 3) := by decide +kernel
theorem dX12_needsOf_5 : decode cX12_needsOf 5 = .ok (.istore 4, 2) := by decide +kernel
theorem dX12_needsOf_7 : decode cX12_needsOf 7 = .ok (.aload_n 0, 1) := by decide +kernel
theorem dX12_needsOf_8 : decode cX12_needsOf 8 = .ok (.iconst 1, 1) := by decide +kernel
theorem dX12_needsOf_9 : decode cX12_needsOf 9 = .ok (.iload_n 1, 1) := by decide +kernel
theorem dX12_needsOf_10 : decode cX12_needsOf 10 = .ok (.iload 4, 2) := by decide +kernel
theorem dX12_needsOf_12 : decode cX12_needsOf 12 = .ok (.iconst 0, 1) := by decide +kernel
theorem dX12_needsOf_13 : decode cX12_needsOf 13 = .ok (.iload_n 2, 1) := by decide +kernel
theorem dX12_needsOf_14 : decode cX12_needsOf 14 = .ok (.invokevirtual 258, 3) := by decide +kernel
theorem dX12_needsOf_17 : decode cX12_needsOf 17 = .ok (.iload 4, 2) := by decide +kernel
theorem dX12_needsOf_19 : decode cX12_needsOf 19 = .ok (.imul, 1) := by decide +kernel
theorem dX12_needsOf_20 : decode cX12_needsOf 20 = .ok (.ireturn, 1) := by decide +kernel
theorem dX12_needs_0 : decode cX12_needs 0 = .ok (.iload_n 1, 1) := by decide +kernel
theorem dX12_needs_1 : decode cX12_needs 1 = .ok (.invokestatic 90, 3) := by decide +kernel
theorem dX12_needs_4 : decode cX12_needs 4 = .ok (.ifCond .eq 35, 3) := by decide +kernel
theorem dX12_needs_7 : decode cX12_needs 7 = .ok (.iload_n 2, 1) := by decide +kernel
theorem dX12_needs_8 : decode cX12_needs 8 = .ok (.i2l, 1) := by decide +kernel
theorem dX12_needs_9 : decode cX12_needs 9 = .ok (.lconst 0, 1) := by decide +kernel
theorem dX12_needs_10 : decode cX12_needs 10 = .ok (.ldc2_w 262, 3) := by decide +kernel
theorem dX12_needs_13 : decode cX12_needs 13 = .ok (.invokestatic 82, 3) := by decide +kernel
theorem dX12_needs_16 : decode cX12_needs 16 = .ok (.ifCond .eq 23, 3) := by decide +kernel
theorem dX12_needs_19 : decode cX12_needs 19 = .ok (.iload_n 2, 1) := by decide +kernel
theorem dX12_needs_20 : decode cX12_needs 20 = .ok (.bipush 100, 2) := by decide +kernel
theorem dX12_needs_22 : decode cX12_needs 22 = .ok (.idiv, 1) := by decide +kernel
theorem dX12_needs_23 : decode cX12_needs 23 = .ok (.invokestatic 116, 3) := by decide +kernel
theorem dX12_needs_26 : decode cX12_needs 26 = .ok (.ifCond .eq 13, 3) := by decide +kernel
theorem dX12_needs_29 : decode cX12_needs 29 = .ok (.iload_n 2, 1) := by decide +kernel
theorem dX12_needs_30 : decode cX12_needs 30 = .ok (.bipush 100, 2) := by decide +kernel
theorem dX12_needs_32 : decode cX12_needs 32 = .ok (.irem, 1) := by decide +kernel
theorem dX12_needs_33 : decode cX12_needs 33 = .ok (.invokestatic 116, 3) := by decide +kernel
theorem dX12_needs_36 : decode cX12_needs 36 = .ok (.ifCond .ne 6, 3) := by decide +kernel
theorem dX12_needs_39 : decode cX12_needs 39 = .ok (.bipush (-2), 2) := by decide +kernel
theorem dX12_needs_41 : decode cX12_needs 41 = .ok (.ireturn, 1) := by decide +kernel
theorem dX12_needs_42 : decode cX12_needs 42 = .ok (.aload_n 0, 1) := by decide +kernel
theorem dX12_needs_43 : decode cX12_needs 43 = .ok (.iload_n 1, 1) := by decide +kernel
theorem dX12_needs_44 : decode cX12_needs 44 = .ok (.iload_n 2, 1) := by decide +kernel
theorem dX12_needs_45 : decode cX12_needs 45 = .ok (.bipush 100, 2) := by decide +kernel
theorem dX12_needs_47 : decode cX12_needs 47 = .ok (.idiv, 1) := by decide +kernel
theorem dX12_needs_48 : decode cX12_needs 48 = .ok (.iload_n 2, 1) := by decide +kernel
theorem dX12_needs_49 : decode cX12_needs 49 = .ok (.bipush 100, 2) := by decide +kernel
theorem dX12_needs_51 : decode cX12_needs 51 = .ok (.irem, 1) := by decide +kernel
theorem dX12_needs_52 : decode cX12_needs 52 = .ok (.invokevirtual 264, 3) := by decide +kernel
theorem dX12_needs_55 : decode cX12_needs 55 = .ok (.ireturn, 1) := by decide +kernel
theorem dX12_shot_0 : decode cX12_shot 0 = .ok (.iload_n 1, 1) := by decide +kernel
theorem dX12_shot_1 : decode cX12_shot 1 = .ok (.invokestatic 90, 3) := by decide +kernel
theorem dX12_shot_4 : decode cX12_shot 4 = .ok (.ifCond .eq 23, 3) := by decide +kernel
theorem dX12_shot_7 : decode cX12_shot 7 = .ok (.aload_n 0, 1) := by decide +kernel
theorem dX12_shot_8 : decode cX12_shot 8 = .ok (.iload_n 2, 1) := by decide +kernel
theorem dX12_shot_9 : decode cX12_shot 9 = .ok (.invokevirtual 98, 3) := by decide +kernel
theorem dX12_shot_12 : decode cX12_shot 12 = .ok (.ifCond .eq 15, 3) := by decide +kernel
theorem dX12_shot_15 : decode cX12_shot 15 = .ok (.iload_n 3, 1) := by decide +kernel
theorem dX12_shot_16 : decode cX12_shot 16 = .ok (.i2l, 1) := by decide +kernel
theorem dX12_shot_17 : decode cX12_shot 17 = .ok (.lconst 0, 1) := by decide +kernel
theorem dX12_shot_18 : decode cX12_shot 18 = .ok (.ldc2_w 94, 3) := by decide +kernel
theorem dX12_shot_21 : decode cX12_shot 21 = .ok (.invokestatic 82, 3) := by decide +kernel
theorem dX12_shot_24 : decode cX12_shot 24 = .ok (.ifCond .ne 6, 3) := by decide +kernel
theorem dX12_shot_27 : decode cX12_shot 27 = .ok (.bipush (-2), 2) := by decide +kernel
theorem dX12_shot_29 : decode cX12_shot 29 = .ok (.ireturn, 1) := by decide +kernel
theorem dX12_shot_30 : decode cX12_shot 30 = .ok (.aload_n 0, 1) := by decide +kernel
theorem dX12_shot_31 : decode cX12_shot 31 = .ok (.iload_n 2, 1) := by decide +kernel
theorem dX12_shot_32 : decode cX12_shot 32 = .ok (.aload_n 0, 1) := by decide +kernel
theorem dX12_shot_33 : decode cX12_shot 33 = .ok (.getfield 23, 3) := by decide +kernel
theorem dX12_shot_36 : decode cX12_shot 36 = .ok (.iload_n 1, 1) := by decide +kernel
theorem dX12_shot_37 : decode cX12_shot 37 = .ok (.iaload, 1) := by decide +kernel
theorem dX12_shot_38 : decode cX12_shot 38 = .ok (.invokevirtual 252, 3) := by decide +kernel
theorem dX12_shot_41 : decode cX12_shot 41 = .ok (.istore 4, 2) := by decide +kernel
theorem dX12_shot_43 : decode cX12_shot 43 = .ok (.iload_n 3, 1) := by decide +kernel
theorem dX12_shot_44 : decode cX12_shot 44 = .ok (.iconst 3, 1) := by decide +kernel
theorem dX12_shot_45 : decode cX12_shot 45 = .ok (.if_icmp .ge 33, 3) := by decide +kernel
theorem dX12_shot_48 : decode cX12_shot 48 = .ok (.iload_n 3, 1) := by decide +kernel
theorem dX12_shot_49 : decode cX12_shot 49 = .ok (.ifCond .ne 8, 3) := by decide +kernel
theorem dX12_shot_52 : decode cX12_shot 52 = .ok (.iload 4, 2) := by decide +kernel
theorem dX12_shot_54 : decode cX12_shot 54 = .ok (.goto 23, 3) := by decide +kernel
theorem dX12_shot_57 : decode cX12_shot 57 = .ok (.iload_n 3, 1) := by decide +kernel
theorem dX12_shot_58 : decode cX12_shot 58 = .ok (.iconst 1, 1) := by decide +kernel
theorem dX12_shot_59 : decode cX12_shot 59 = .ok (.if_icmp .ne 12, 3) := by decide +kernel
theorem dX12_shot_62 : decode cX12_shot 62 = .ok (.aload_n 0, 1) := by decide +kernel
theorem dX12_shot_63 : decode cX12_shot 63 = .ok (.iload_n 1, 1) := by decide +kernel
theorem dX12_shot_64 : decode cX12_shot 64 = .ok (.iload_n 2, 1) := by decide +kernel
theorem dX12_shot_65 : decode cX12_shot 65 = .ok (.invokevirtual 267, 3) := by decide +kernel
theorem dX12_shot_68 : decode cX12_shot 68 = .ok (.goto 9, 3) := by decide +kernel
theorem dX12_shot_71 : decode cX12_shot 71 = .ok (.aload_n 0, 1) := by decide +kernel
theorem dX12_shot_72 : decode cX12_shot 72 = .ok (.iload_n 1, 1) := by decide +kernel
theorem dX12_shot_73 : decode cX12_shot 73 = .ok (.iload_n 2, 1) := by decide +kernel
theorem dX12_shot_74 : decode cX12_shot 74 = .ok (.invokevirtual 270, 3) := by decide +kernel
theorem dX12_shot_77 : decode cX12_shot 77 = .ok (.ireturn, 1) := by decide +kernel
theorem dX12_shot_78 : decode cX12_shot 78 = .ok (.iload_n 3, 1) := by decide +kernel
theorem dX12_shot_79 : decode cX12_shot 79 = .ok (.iconst 3, 1) := by decide +kernel
theorem dX12_shot_80 : decode cX12_shot 80 = .ok (.if_icmp .ne 11, 3) := by decide +kernel
theorem dX12_shot_83 : decode cX12_shot 83 = .ok (.aload_n 0, 1) := by decide +kernel
theorem dX12_shot_84 : decode cX12_shot 84 = .ok (.iload_n 2, 1) := by decide +kernel
theorem dX12_shot_85 : decode cX12_shot 85 = .ok (.invokevirtual 273, 3) := by decide +kernel
theorem dX12_shot_88 : decode cX12_shot 88 = .ok (.goto 20, 3) := by decide +kernel
theorem dX12_shot_91 : decode cX12_shot 91 = .ok (.aload_n 0, 1) := by decide +kernel
theorem dX12_shot_92 : decode cX12_shot 92 = .ok (.iconst 1, 1) := by decide +kernel
theorem dX12_shot_93 : decode cX12_shot 93 = .ok (.iload_n 1, 1) := by decide +kernel
theorem dX12_shot_94 : decode cX12_shot 94 = .ok (.isub, 1) := by decide +kernel
theorem dX12_shot_95 : decode cX12_shot 95 = .ok (.aload_n 0, 1) := by decide +kernel
theorem dX12_shot_96 : decode cX12_shot 96 = .ok (.getfield 23, 3) := by decide +kernel
theorem dX12_shot_99 : decode cX12_shot 99 = .ok (.iconst 1, 1) := by decide +kernel
theorem dX12_shot_100 : decode cX12_shot 100 = .ok (.iload_n 1, 1) := by decide +kernel
theorem dX12_shot_101 : decode cX12_shot 101 = .ok (.isub, 1) := by decide +kernel
theorem dX12_shot_102 : decode cX12_shot 102 = .ok (.iaload, 1) := by decide +kernel
theorem dX12_shot_103 : decode cX12_shot 103 = .ok (.iload 4, 2) := by decide +kernel
theorem dX12_shot_105 : decode cX12_shot 105 = .ok (.invokevirtual 264, 3) := by decide +kernel
theorem dX12_shot_108 : decode cX12_shot 108 = .ok (.ireturn, 1) := by decide +kernel
theorem dX12_tire_0 : decode cX12_tire 0 = .ok (.aload_n 0, 1) := by decide +kernel
theorem dX12_tire_1 : decode cX12_tire 1 = .ok (.getfield 26, 3) := by decide +kernel
theorem dX12_tire_4 : decode cX12_tire 4 = .ok (.iload_n 1, 1) := by decide +kernel
theorem dX12_tire_5 : decode cX12_tire 5 = .ok (.aload_n 0, 1) := by decide +kernel
theorem dX12_tire_6 : decode cX12_tire 6 = .ok (.getfield 26, 3) := by decide +kernel
theorem dX12_tire_9 : decode cX12_tire 9 = .ok (.iload_n 1, 1) := by decide +kernel
theorem dX12_tire_10 : decode cX12_tire 10 = .ok (.iaload, 1) := by decide +kernel
theorem dX12_tire_11 : decode cX12_tire 11 = .ok (.iload_n 2, 1) := by decide +kernel
theorem dX12_tire_12 : decode cX12_tire 12 = .ok (.isub, 1) := by decide +kernel
theorem dX12_tire_13 : decode cX12_tire 13 = .ok (.iconst 0, 1) := by decide +kernel
theorem dX12_tire_14 : decode cX12_tire 14 = .ok (.sipush 999, 3) := by decide +kernel
theorem dX12_tire_17 : decode cX12_tire 17 = .ok (.invokestatic 242, 3) := by decide +kernel
theorem dX12_tire_20 : decode cX12_tire 20 = .ok (.iastore, 1) := by decide +kernel
theorem dX12_tire_21 : decode cX12_tire 21 = .ok (.return_, 1) := by decide +kernel
theorem dX12_strikes_0 : decode cX12_strikes 0 = .ok (.iconst 1, 1) := by decide +kernel
theorem dX12_strikes_1 : decode cX12_strikes 1 = .ok (.iload_n 1, 1) := by decide +kernel
theorem dX12_strikes_2 : decode cX12_strikes 2 = .ok (.isub, 1) := by decide +kernel
theorem dX12_strikes_3 : decode cX12_strikes 3 = .ok (.istore_n 3, 1) := by decide +kernel
theorem dX12_strikes_4 : decode cX12_strikes 4 = .ok (.aload_n 0, 1) := by decide +kernel
theorem dX12_strikes_5 : decode cX12_strikes 5 = .ok (.aload_n 0, 1) := by decide +kernel
theorem dX12_strikes_6 : decode cX12_strikes 6 = .ok (.iload_n 2, 1) := by decide +kernel
theorem dX12_strikes_7 : decode cX12_strikes 7 = .ok (.aload_n 0, 1) := by decide +kernel
theorem dX12_strikes_8 : decode cX12_strikes 8 = .ok (.getfield 23, 3) := by decide +kernel
theorem dX12_strikes_11 : decode cX12_strikes 11 = .ok (.iload_n 1, 1) := by decide +kernel
theorem dX12_strikes_12 : decode cX12_strikes 12 = .ok (.iaload, 1) := by decide +kernel
theorem dX12_strikes_13 : decode cX12_strikes 13 = .ok (.invokevirtual 252, 3) := by decide +kernel
theorem dX12_strikes_16 : decode cX12_strikes 16 = .ok (.putfield 276, 3) := by decide +kernel
theorem dX12_strikes_19 : decode cX12_strikes 19 = .ok (.aload_n 0, 1) := by decide +kernel
theorem dX12_strikes_20 : decode cX12_strikes 20 = .ok (.iload_n 1, 1) := by decide +kernel
theorem dX12_strikes_21 : decode cX12_strikes 21 = .ok (.iload_n 2, 1) := by decide +kernel
theorem dX12_strikes_22 : decode cX12_strikes 22 = .ok (.invokevirtual 267, 3) := by decide +kernel
theorem dX12_strikes_25 : decode cX12_strikes 25 = .ok (.istore 4, 2) := by decide +kernel
theorem dX12_strikes_27 : decode cX12_strikes 27 = .ok (.aload_n 0, 1) := by decide +kernel
theorem dX12_strikes_28 : decode cX12_strikes 28 = .ok (.iload_n 1, 1) := by decide +kernel
theorem dX12_strikes_29 : decode cX12_strikes 29 = .ok (.aload_n 0, 1) := by decide +kernel
theorem dX12_strikes_30 : decode cX12_strikes 30 = .ok (.iload_n 2, 1) := by decide +kernel
theorem dX12_strikes_31 : decode cX12_strikes 31 = .ok (.invokevirtual 273, 3) := by decide +kernel
theorem dX12_strikes_34 : decode cX12_strikes 34 = .ok (.invokevirtual 279, 3) := by decide +kernel
theorem dX12_strikes_37 : decode cX12_strikes 37 = .ok (.aload_n 0, 1) := by decide +kernel
theorem dX12_strikes_38 : decode cX12_strikes 38 = .ok (.iload_n 3, 1) := by decide +kernel
theorem dX12_strikes_39 : decode cX12_strikes 39 = .ok (.aload_n 0, 1) := by decide +kernel
theorem dX12_strikes_40 : decode cX12_strikes 40 = .ok (.getfield 23, 3) := by decide +kernel
theorem dX12_strikes_43 : decode cX12_strikes 43 = .ok (.iload_n 3, 1) := by decide +kernel
theorem dX12_strikes_44 : decode cX12_strikes 44 = .ok (.iaload, 1) := by decide +kernel
theorem dX12_strikes_45 : decode cX12_strikes 45 = .ok (.aload_n 0, 1) := by decide +kernel
theorem dX12_strikes_46 : decode cX12_strikes 46 = .ok (.getfield 276, 3) := by decide +kernel
theorem dX12_strikes_49 : decode cX12_strikes 49 = .ok (.invokevirtual 264, 3) := by decide +kernel
theorem dX12_strikes_52 : decode cX12_strikes 52 = .ok (.iload 4, 2) := by decide +kernel
theorem dX12_strikes_54 : decode cX12_strikes 54 = .ok (.if_icmp .le 5, 3) := by decide +kernel
theorem dX12_strikes_57 : decode cX12_strikes 57 = .ok (.iconst 1, 1) := by decide +kernel
theorem dX12_strikes_58 : decode cX12_strikes 58 = .ok (.ireturn, 1) := by decide +kernel
theorem dX12_strikes_59 : decode cX12_strikes 59 = .ok (.aload_n 0, 1) := by decide +kernel
theorem dX12_strikes_60 : decode cX12_strikes 60 = .ok (.iload_n 3, 1) := by decide +kernel
theorem dX12_strikes_61 : decode cX12_strikes 61 = .ok (.aload_n 0, 1) := by decide +kernel
theorem dX12_strikes_62 : decode cX12_strikes 62 = .ok (.getfield 23, 3) := by decide +kernel
theorem dX12_strikes_65 : decode cX12_strikes 65 = .ok (.iload_n 3, 1) := by decide +kernel
theorem dX12_strikes_66 : decode cX12_strikes 66 = .ok (.iaload, 1) := by decide +kernel
theorem dX12_strikes_67 : decode cX12_strikes 67 = .ok (.aload_n 0, 1) := by decide +kernel
theorem dX12_strikes_68 : decode cX12_strikes 68 = .ok (.getfield 276, 3) := by decide +kernel
theorem dX12_strikes_71 : decode cX12_strikes 71 = .ok (.invokestatic 255, 3) := by decide +kernel
theorem dX12_strikes_74 : decode cX12_strikes 74 = .ok (.invokevirtual 279, 3) := by decide +kernel
theorem dX12_strikes_77 : decode cX12_strikes 77 = .ok (.aload_n 0, 1) := by decide +kernel
theorem dX12_strikes_78 : decode cX12_strikes 78 = .ok (.getfield 23, 3) := by decide +kernel
theorem dX12_strikes_81 : decode cX12_strikes 81 = .ok (.iload_n 3, 1) := by decide +kernel
theorem dX12_strikes_82 : decode cX12_strikes 82 = .ok (.aload_n 0, 1) := by decide +kernel
theorem dX12_strikes_83 : decode cX12_strikes 83 = .ok (.getfield 276, 3) := by decide +kernel
theorem dX12_strikes_86 : decode cX12_strikes 86 = .ok (.iastore, 1) := by decide +kernel
theorem dX12_strikes_87 : decode cX12_strikes 87 = .ok (.aload_n 0, 1) := by decide +kernel
theorem dX12_strikes_88 : decode cX12_strikes 88 = .ok (.getfield 32, 3) := by decide +kernel
theorem dX12_strikes_91 : decode cX12_strikes 91 = .ok (.iload_n 1, 1) := by decide +kernel
theorem dX12_strikes_92 : decode cX12_strikes 92 = .ok (.iaload, 1) := by decide +kernel
theorem dX12_strikes_93 : decode cX12_strikes 93 = .ok (.iconst (-1), 1) := by decide +kernel
theorem dX12_strikes_94 : decode cX12_strikes 94 = .ok (.if_icmp .eq 57, 3) := by decide +kernel
theorem dX12_strikes_97 : decode cX12_strikes 97 = .ok (.aload_n 0, 1) := by decide +kernel
theorem dX12_strikes_98 : decode cX12_strikes 98 = .ok (.iload_n 1, 1) := by decide +kernel
theorem dX12_strikes_99 : decode cX12_strikes 99 = .ok (.aload_n 0, 1) := by decide +kernel
theorem dX12_strikes_100 : decode cX12_strikes 100 = .ok (.getfield 23, 3) := by decide +kernel
theorem dX12_strikes_103 : decode cX12_strikes 103 = .ok (.iload_n 1, 1) := by decide +kernel
theorem dX12_strikes_104 : decode cX12_strikes 104 = .ok (.iaload, 1) := by decide +kernel
theorem dX12_strikes_105 : decode cX12_strikes 105 = .ok (.aload_n 0, 1) := by decide +kernel
theorem dX12_strikes_106 : decode cX12_strikes 106 = .ok (.getfield 32, 3) := by decide +kernel
theorem dX12_strikes_109 : decode cX12_strikes 109 = .ok (.iload_n 1, 1) := by decide +kernel
theorem dX12_strikes_110 : decode cX12_strikes 110 = .ok (.iaload, 1) := by decide +kernel
theorem dX12_strikes_111 : decode cX12_strikes 111 = .ok (.invokevirtual 264, 3) := by decide +kernel
theorem dX12_strikes_114 : decode cX12_strikes 114 = .ok (.iload 4, 2) := by decide +kernel
theorem dX12_strikes_116 : decode cX12_strikes 116 = .ok (.if_icmp .gt 35, 3) := by decide +kernel
theorem dX12_strikes_119 : decode cX12_strikes 119 = .ok (.aload_n 0, 1) := by decide +kernel
theorem dX12_strikes_120 : decode cX12_strikes 120 = .ok (.iload_n 1, 1) := by decide +kernel
theorem dX12_strikes_121 : decode cX12_strikes 121 = .ok (.aload_n 0, 1) := by decide +kernel
theorem dX12_strikes_122 : decode cX12_strikes 122 = .ok (.getfield 23, 3) := by decide +kernel
theorem dX12_strikes_125 : decode cX12_strikes 125 = .ok (.iload_n 1, 1) := by decide +kernel
theorem dX12_strikes_126 : decode cX12_strikes 126 = .ok (.iaload, 1) := by decide +kernel
theorem dX12_strikes_127 : decode cX12_strikes 127 = .ok (.aload_n 0, 1) := by decide +kernel
theorem dX12_strikes_128 : decode cX12_strikes 128 = .ok (.getfield 32, 3) := by decide +kernel
theorem dX12_strikes_131 : decode cX12_strikes 131 = .ok (.iload_n 1, 1) := by decide +kernel
theorem dX12_strikes_132 : decode cX12_strikes 132 = .ok (.iaload, 1) := by decide +kernel
theorem dX12_strikes_133 : decode cX12_strikes 133 = .ok (.invokestatic 255, 3) := by decide +kernel
theorem dX12_strikes_136 : decode cX12_strikes 136 = .ok (.invokevirtual 279, 3) := by decide +kernel
theorem dX12_strikes_139 : decode cX12_strikes 139 = .ok (.aload_n 0, 1) := by decide +kernel
theorem dX12_strikes_140 : decode cX12_strikes 140 = .ok (.getfield 23, 3) := by decide +kernel
theorem dX12_strikes_143 : decode cX12_strikes 143 = .ok (.iload_n 1, 1) := by decide +kernel
theorem dX12_strikes_144 : decode cX12_strikes 144 = .ok (.aload_n 0, 1) := by decide +kernel
theorem dX12_strikes_145 : decode cX12_strikes 145 = .ok (.getfield 32, 3) := by decide +kernel
theorem dX12_strikes_148 : decode cX12_strikes 148 = .ok (.iload_n 1, 1) := by decide +kernel
theorem dX12_strikes_149 : decode cX12_strikes 149 = .ok (.iaload, 1) := by decide +kernel
theorem dX12_strikes_150 : decode cX12_strikes 150 = .ok (.iastore, 1) := by decide +kernel
theorem dX12_strikes_151 : decode cX12_strikes 151 = .ok (.aload_n 0, 1) := by decide +kernel
theorem dX12_strikes_152 : decode cX12_strikes 152 = .ok (.aload_n 0, 1) := by decide +kernel
theorem dX12_strikes_153 : decode cX12_strikes 153 = .ok (.getfield 109, 3) := by decide +kernel
theorem dX12_strikes_156 : decode cX12_strikes 156 = .ok (.iconst 1, 1) := by decide +kernel
theorem dX12_strikes_157 : decode cX12_strikes 157 = .ok (.iadd, 1) := by decide +kernel
theorem dX12_strikes_158 : decode cX12_strikes 158 = .ok (.iconst 0, 1) := by decide +kernel
theorem dX12_strikes_159 : decode cX12_strikes 159 = .ok (.bipush 99, 2) := by decide +kernel
theorem dX12_strikes_161 : decode cX12_strikes 161 = .ok (.invokestatic 242, 3) := by decide +kernel
theorem dX12_strikes_164 : decode cX12_strikes 164 = .ok (.putfield 109, 3) := by decide +kernel
theorem dX12_strikes_167 : decode cX12_strikes 167 = .ok (.iconst 0, 1) := by decide +kernel
theorem dX12_strikes_168 : decode cX12_strikes 168 = .ok (.ireturn, 1) := by decide +kernel
theorem dX12_layAside_0 : decode cX12_layAside 0 = .ok (.iconst 0, 1) := by decide +kernel
theorem dX12_layAside_1 : decode cX12_layAside 1 = .ok (.istore_n 1, 1) := by decide +kernel
theorem dX12_layAside_2 : decode cX12_layAside 2 = .ok (.iload_n 1, 1) := by decide +kernel
theorem dX12_layAside_3 : decode cX12_layAside 3 = .ok (.iconst 2, 1) := by decide +kernel
theorem dX12_layAside_4 : decode cX12_layAside 4 = .ok (.if_icmp .ge 45, 3) := by decide +kernel
theorem dX12_layAside_7 : decode cX12_layAside 7 = .ok (.aload_n 0, 1) := by decide +kernel
theorem dX12_layAside_8 : decode cX12_layAside 8 = .ok (.getfield 44, 3) := by decide +kernel
theorem dX12_layAside_11 : decode cX12_layAside 11 = .ok (.aload_n 0, 1) := by decide +kernel
theorem dX12_layAside_12 : decode cX12_layAside 12 = .ok (.getfield 283, 3) := by decide +kernel
theorem dX12_layAside_15 : decode cX12_layAside 15 = .ok (.iload_n 1, 1) := by decide +kernel
theorem dX12_layAside_16 : decode cX12_layAside 16 = .ok (.iadd, 1) := by decide +kernel
theorem dX12_layAside_17 : decode cX12_layAside 17 = .ok (.aload_n 0, 1) := by decide +kernel
theorem dX12_layAside_18 : decode cX12_layAside 18 = .ok (.getfield 23, 3) := by decide +kernel
theorem dX12_layAside_21 : decode cX12_layAside 21 = .ok (.iload_n 1, 1) := by decide +kernel
theorem dX12_layAside_22 : decode cX12_layAside 22 = .ok (.iaload, 1) := by decide +kernel
theorem dX12_layAside_23 : decode cX12_layAside 23 = .ok (.iastore, 1) := by decide +kernel
theorem dX12_layAside_24 : decode cX12_layAside 24 = .ok (.aload_n 0, 1) := by decide +kernel
theorem dX12_layAside_25 : decode cX12_layAside 25 = .ok (.getfield 44, 3) := by decide +kernel
theorem dX12_layAside_28 : decode cX12_layAside 28 = .ok (.aload_n 0, 1) := by decide +kernel
theorem dX12_layAside_29 : decode cX12_layAside 29 = .ok (.getfield 283, 3) := by decide +kernel
theorem dX12_layAside_32 : decode cX12_layAside 32 = .ok (.iconst 2, 1) := by decide +kernel
theorem dX12_layAside_33 : decode cX12_layAside 33 = .ok (.iadd, 1) := by decide +kernel
theorem dX12_layAside_34 : decode cX12_layAside 34 = .ok (.iload_n 1, 1) := by decide +kernel
theorem dX12_layAside_35 : decode cX12_layAside 35 = .ok (.iadd, 1) := by decide +kernel
theorem dX12_layAside_36 : decode cX12_layAside 36 = .ok (.aload_n 0, 1) := by decide +kernel
theorem dX12_layAside_37 : decode cX12_layAside 37 = .ok (.getfield 26, 3) := by decide +kernel
theorem dX12_layAside_40 : decode cX12_layAside 40 = .ok (.iload_n 1, 1) := by decide +kernel
theorem dX12_layAside_41 : decode cX12_layAside 41 = .ok (.iaload, 1) := by decide +kernel
theorem dX12_layAside_42 : decode cX12_layAside 42 = .ok (.iastore, 1) := by decide +kernel
theorem dX12_layAside_43 : decode cX12_layAside 43 = .ok (.iinc 1 1, 3) := by decide +kernel
theorem dX12_layAside_46 : decode cX12_layAside 46 = .ok (.goto (-44), 3) := by decide +kernel
theorem dX12_layAside_49 : decode cX12_layAside 49 = .ok (.aload_n 0, 1) := by decide +kernel
theorem dX12_layAside_50 : decode cX12_layAside 50 = .ok (.getfield 44, 3) := by decide +kernel
theorem dX12_layAside_53 : decode cX12_layAside 53 = .ok (.aload_n 0, 1) := by decide +kernel
theorem dX12_layAside_54 : decode cX12_layAside 54 = .ok (.getfield 283, 3) := by decide +kernel
theorem dX12_layAside_57 : decode cX12_layAside 57 = .ok (.iconst 4, 1) := by decide +kernel
theorem dX12_layAside_58 : decode cX12_layAside 58 = .ok (.iadd, 1) := by decide +kernel
theorem dX12_layAside_59 : decode cX12_layAside 59 = .ok (.aload_n 0, 1) := by decide +kernel
theorem dX12_layAside_60 : decode cX12_layAside 60 = .ok (.getfield 109, 3) := by decide +kernel
theorem dX12_layAside_63 : decode cX12_layAside 63 = .ok (.iastore, 1) := by decide +kernel
theorem dX12_layAside_64 : decode cX12_layAside 64 = .ok (.aload_n 0, 1) := by decide +kernel
theorem dX12_layAside_65 : decode cX12_layAside 65 = .ok (.dup, 1) := by decide +kernel
theorem dX12_layAside_66 : decode cX12_layAside 66 = .ok (.getfield 283, 3) := by decide +kernel
theorem dX12_layAside_69 : decode cX12_layAside 69 = .ok (.iconst 5, 1) := by decide +kernel
theorem dX12_layAside_70 : decode cX12_layAside 70 = .ok (.iadd, 1) := by decide +kernel
theorem dX12_layAside_71 : decode cX12_layAside 71 = .ok (.putfield 283, 3) := by decide +kernel
theorem dX12_layAside_74 : decode cX12_layAside 74 = .ok (.return_, 1) := by decide +kernel
theorem dX12_takeBack_0 : decode cX12_takeBack 0 = .ok (.aload_n 0, 1) := by decide +kernel
theorem dX12_takeBack_1 : decode cX12_takeBack 1 = .ok (.dup, 1) := by decide +kernel
theorem dX12_takeBack_2 : decode cX12_takeBack 2 = .ok (.getfield 283, 3) := by decide +kernel
theorem dX12_takeBack_5 : decode cX12_takeBack 5 = .ok (.iconst 5, 1) := by decide +kernel
theorem dX12_takeBack_6 : decode cX12_takeBack 6 = .ok (.isub, 1) := by decide +kernel
theorem dX12_takeBack_7 : decode cX12_takeBack 7 = .ok (.putfield 283, 3) := by decide +kernel
theorem dX12_takeBack_10 : decode cX12_takeBack 10 = .ok (.iconst 0, 1) := by decide +kernel
theorem dX12_takeBack_11 : decode cX12_takeBack 11 = .ok (.istore_n 1, 1) := by decide +kernel
theorem dX12_takeBack_12 : decode cX12_takeBack 12 = .ok (.iload_n 1, 1) := by decide +kernel
theorem dX12_takeBack_13 : decode cX12_takeBack 13 = .ok (.iconst 2, 1) := by decide +kernel
theorem dX12_takeBack_14 : decode cX12_takeBack 14 = .ok (.if_icmp .ge 45, 3) := by decide +kernel
theorem dX12_takeBack_17 : decode cX12_takeBack 17 = .ok (.aload_n 0, 1) := by decide +kernel
theorem dX12_takeBack_18 : decode cX12_takeBack 18 = .ok (.getfield 23, 3) := by decide +kernel
theorem dX12_takeBack_21 : decode cX12_takeBack 21 = .ok (.iload_n 1, 1) := by decide +kernel
theorem dX12_takeBack_22 : decode cX12_takeBack 22 = .ok (.aload_n 0, 1) := by decide +kernel
theorem dX12_takeBack_23 : decode cX12_takeBack 23 = .ok (.getfield 44, 3) := by decide +kernel
theorem dX12_takeBack_26 : decode cX12_takeBack 26 = .ok (.aload_n 0, 1) := by decide +kernel
theorem dX12_takeBack_27 : decode cX12_takeBack 27 = .ok (.getfield 283, 3) := by decide +kernel
theorem dX12_takeBack_30 : decode cX12_takeBack 30 = .ok (.iload_n 1, 1) := by decide +kernel
theorem dX12_takeBack_31 : decode cX12_takeBack 31 = .ok (.iadd, 1) := by decide +kernel
theorem dX12_takeBack_32 : decode cX12_takeBack 32 = .ok (.iaload, 1) := by decide +kernel
theorem dX12_takeBack_33 : decode cX12_takeBack 33 = .ok (.iastore, 1) := by decide +kernel
theorem dX12_takeBack_34 : decode cX12_takeBack 34 = .ok (.aload_n 0, 1) := by decide +kernel
theorem dX12_takeBack_35 : decode cX12_takeBack 35 = .ok (.getfield 26, 3) := by decide +kernel
theorem dX12_takeBack_38 : decode cX12_takeBack 38 = .ok (.iload_n 1, 1) := by decide +kernel
theorem dX12_takeBack_39 : decode cX12_takeBack 39 = .ok (.aload_n 0, 1) := by decide +kernel
theorem dX12_takeBack_40 : decode cX12_takeBack 40 = .ok (.getfield 44, 3) := by decide +kernel
theorem dX12_takeBack_43 : decode cX12_takeBack 43 = .ok (.aload_n 0, 1) := by decide +kernel
theorem dX12_takeBack_44 : decode cX12_takeBack 44 = .ok (.getfield 283, 3) := by decide +kernel
theorem dX12_takeBack_47 : decode cX12_takeBack 47 = .ok (.iconst 2, 1) := by decide +kernel
theorem dX12_takeBack_48 : decode cX12_takeBack 48 = .ok (.iadd, 1) := by decide +kernel
theorem dX12_takeBack_49 : decode cX12_takeBack 49 = .ok (.iload_n 1, 1) := by decide +kernel
theorem dX12_takeBack_50 : decode cX12_takeBack 50 = .ok (.iadd, 1) := by decide +kernel
theorem dX12_takeBack_51 : decode cX12_takeBack 51 = .ok (.iaload, 1) := by decide +kernel
theorem dX12_takeBack_52 : decode cX12_takeBack 52 = .ok (.iastore, 1) := by decide +kernel
theorem dX12_takeBack_53 : decode cX12_takeBack 53 = .ok (.iinc 1 1, 3) := by decide +kernel
theorem dX12_takeBack_56 : decode cX12_takeBack 56 = .ok (.goto (-44), 3) := by decide +kernel
theorem dX12_takeBack_59 : decode cX12_takeBack 59 = .ok (.aload_n 0, 1) := by decide +kernel
theorem dX12_takeBack_60 : decode cX12_takeBack 60 = .ok (.aload_n 0, 1) := by decide +kernel
theorem dX12_takeBack_61 : decode cX12_takeBack 61 = .ok (.getfield 44, 3) := by decide +kernel
theorem dX12_takeBack_64 : decode cX12_takeBack 64 = .ok (.aload_n 0, 1) := by decide +kernel
theorem dX12_takeBack_65 : decode cX12_takeBack 65 = .ok (.getfield 283, 3) := by decide +kernel
theorem dX12_takeBack_68 : decode cX12_takeBack 68 = .ok (.iconst 4, 1) := by decide +kernel
theorem dX12_takeBack_69 : decode cX12_takeBack 69 = .ok (.iadd, 1) := by decide +kernel
theorem dX12_takeBack_70 : decode cX12_takeBack 70 = .ok (.iaload, 1) := by decide +kernel
theorem dX12_takeBack_71 : decode cX12_takeBack 71 = .ok (.putfield 109, 3) := by decide +kernel
theorem dX12_takeBack_74 : decode cX12_takeBack 74 = .ok (.return_, 1) := by decide +kernel
theorem dX12_goesOver_0 : decode cX12_goesOver 0 = .ok (.iload_n 0, 1) := by decide +kernel
theorem dX12_goesOver_1 : decode cX12_goesOver 1 = .ok (.iconst 5, 1) := by decide +kernel
theorem dX12_goesOver_2 : decode cX12_goesOver 2 = .ok (.irem, 1) := by decide +kernel
theorem dX12_goesOver_3 : decode cX12_goesOver 3 = .ok (.istore_n 3, 1) := by decide +kernel
theorem dX12_goesOver_4 : decode cX12_goesOver 4 = .ok (.iload_n 0, 1) := by decide +kernel
theorem dX12_goesOver_5 : decode cX12_goesOver 5 = .ok (.iconst 5, 1) := by decide +kernel
theorem dX12_goesOver_6 : decode cX12_goesOver 6 = .ok (.idiv, 1) := by decide +kernel
theorem dX12_goesOver_7 : decode cX12_goesOver 7 = .ok (.istore 4, 2) := by decide +kernel
theorem dX12_goesOver_9 : decode cX12_goesOver 9 = .ok (.iconst 0, 1) := by decide +kernel
theorem dX12_goesOver_10 : decode cX12_goesOver 10 = .ok (.istore 5, 2) := by decide +kernel
theorem dX12_goesOver_12 : decode cX12_goesOver 12 = .ok (.iload_n 3, 1) := by decide +kernel
theorem dX12_goesOver_13 : decode cX12_goesOver 13 = .ok (.iload_n 1, 1) := by decide +kernel
theorem dX12_goesOver_14 : decode cX12_goesOver 14 = .ok (.iconst 5, 1) := by decide +kernel
theorem dX12_goesOver_15 : decode cX12_goesOver 15 = .ok (.irem, 1) := by decide +kernel
theorem dX12_goesOver_16 : decode cX12_goesOver 16 = .ok (.if_icmp .ne 11, 3) := by decide +kernel
theorem dX12_goesOver_19 : decode cX12_goesOver 19 = .ok (.iload 4, 2) := by decide +kernel
theorem dX12_goesOver_21 : decode cX12_goesOver 21 = .ok (.iload_n 1, 1) := by decide +kernel
theorem dX12_goesOver_22 : decode cX12_goesOver 22 = .ok (.iconst 5, 1) := by decide +kernel
theorem dX12_goesOver_23 : decode cX12_goesOver 23 = .ok (.idiv, 1) := by decide +kernel
theorem dX12_goesOver_24 : decode cX12_goesOver 24 = .ok (.if_icmp .eq 84, 3) := by decide +kernel
theorem dX12_goesOver_27 : decode cX12_goesOver 27 = .ok (.iload_n 3, 1) := by decide +kernel
theorem dX12_goesOver_28 : decode cX12_goesOver 28 = .ok (.iload_n 3, 1) := by decide +kernel
theorem dX12_goesOver_29 : decode cX12_goesOver 29 = .ok (.iload_n 1, 1) := by decide +kernel
theorem dX12_goesOver_30 : decode cX12_goesOver 30 = .ok (.iconst 5, 1) := by decide +kernel
theorem dX12_goesOver_31 : decode cX12_goesOver 31 = .ok (.irem, 1) := by decide +kernel
theorem dX12_goesOver_32 : decode cX12_goesOver 32 = .ok (.if_icmp .ge 7, 3) := by decide +kernel
theorem dX12_goesOver_35 : decode cX12_goesOver 35 = .ok (.iconst 1, 1) := by decide +kernel
theorem dX12_goesOver_36 : decode cX12_goesOver 36 = .ok (.goto 15, 3) := by decide +kernel
theorem dX12_goesOver_39 : decode cX12_goesOver 39 = .ok (.iload_n 3, 1) := by decide +kernel
theorem dX12_goesOver_40 : decode cX12_goesOver 40 = .ok (.iload_n 1, 1) := by decide +kernel
theorem dX12_goesOver_41 : decode cX12_goesOver 41 = .ok (.iconst 5, 1) := by decide +kernel
theorem dX12_goesOver_42 : decode cX12_goesOver 42 = .ok (.irem, 1) := by decide +kernel
theorem dX12_goesOver_43 : decode cX12_goesOver 43 = .ok (.if_icmp .le 7, 3) := by decide +kernel
theorem dX12_goesOver_46 : decode cX12_goesOver 46 = .ok (.iconst (-1), 1) := by decide +kernel
theorem dX12_goesOver_47 : decode cX12_goesOver 47 = .ok (.goto 4, 3) := by decide +kernel
theorem dX12_goesOver_50 : decode cX12_goesOver 50 = .ok (.iconst 0, 1) := by decide +kernel
theorem dX12_goesOver_51 : decode cX12_goesOver 51 = .ok (.iadd, 1) := by decide +kernel
theorem dX12_goesOver_52 : decode cX12_goesOver 52 = .ok (.istore_n 3, 1) := by decide +kernel
theorem dX12_goesOver_53 : decode cX12_goesOver 53 = .ok (.iload 4, 2) := by decide +kernel
theorem dX12_goesOver_55 : decode cX12_goesOver 55 = .ok (.iload 4, 2) := by decide +kernel
theorem dX12_goesOver_57 : decode cX12_goesOver 57 = .ok (.iload_n 1, 1) := by decide +kernel
theorem dX12_goesOver_58 : decode cX12_goesOver 58 = .ok (.iconst 5, 1) := by decide +kernel
theorem dX12_goesOver_59 : decode cX12_goesOver 59 = .ok (.idiv, 1) := by decide +kernel
theorem dX12_goesOver_60 : decode cX12_goesOver 60 = .ok (.if_icmp .ge 7, 3) := by decide +kernel
theorem dX12_goesOver_63 : decode cX12_goesOver 63 = .ok (.iconst 1, 1) := by decide +kernel
theorem dX12_goesOver_64 : decode cX12_goesOver 64 = .ok (.goto 16, 3) := by decide +kernel
theorem dX12_goesOver_67 : decode cX12_goesOver 67 = .ok (.iload 4, 2) := by decide +kernel
theorem dX12_goesOver_69 : decode cX12_goesOver 69 = .ok (.iload_n 1, 1) := by decide +kernel
theorem dX12_goesOver_70 : decode cX12_goesOver 70 = .ok (.iconst 5, 1) := by decide +kernel
theorem dX12_goesOver_71 : decode cX12_goesOver 71 = .ok (.idiv, 1) := by decide +kernel
theorem dX12_goesOver_72 : decode cX12_goesOver 72 = .ok (.if_icmp .le 7, 3) := by decide +kernel
theorem dX12_goesOver_75 : decode cX12_goesOver 75 = .ok (.iconst (-1), 1) := by decide +kernel
theorem dX12_goesOver_76 : decode cX12_goesOver 76 = .ok (.goto 4, 3) := by decide +kernel
theorem dX12_goesOver_79 : decode cX12_goesOver 79 = .ok (.iconst 0, 1) := by decide +kernel
theorem dX12_goesOver_80 : decode cX12_goesOver 80 = .ok (.iadd, 1) := by decide +kernel
theorem dX12_goesOver_81 : decode cX12_goesOver 81 = .ok (.istore 4, 2) := by decide +kernel
theorem dX12_goesOver_83 : decode cX12_goesOver 83 = .ok (.iload 5, 2) := by decide +kernel
theorem dX12_goesOver_85 : decode cX12_goesOver 85 = .ok (.ifCond .ne 13, 3) := by decide +kernel
theorem dX12_goesOver_88 : decode cX12_goesOver 88 = .ok (.iconst 5, 1) := by decide +kernel
theorem dX12_goesOver_89 : decode cX12_goesOver 89 = .ok (.iload 4, 2) := by decide +kernel
theorem dX12_goesOver_91 : decode cX12_goesOver 91 = .ok (.imul, 1) := by decide +kernel
theorem dX12_goesOver_92 : decode cX12_goesOver 92 = .ok (.iload_n 3, 1) := by decide +kernel
theorem dX12_goesOver_93 : decode cX12_goesOver 93 = .ok (.iadd, 1) := by decide +kernel
theorem dX12_goesOver_94 : decode cX12_goesOver 94 = .ok (.iload_n 2, 1) := by decide +kernel
theorem dX12_goesOver_95 : decode cX12_goesOver 95 = .ok (.if_icmp .ne 7, 3) := by decide +kernel
theorem dX12_goesOver_98 : decode cX12_goesOver 98 = .ok (.iconst 1, 1) := by decide +kernel
theorem dX12_goesOver_99 : decode cX12_goesOver 99 = .ok (.goto 4, 3) := by decide +kernel
theorem dX12_goesOver_102 : decode cX12_goesOver 102 = .ok (.iconst 0, 1) := by decide +kernel
theorem dX12_goesOver_103 : decode cX12_goesOver 103 = .ok (.istore 5, 2) := by decide +kernel
theorem dX12_goesOver_105 : decode cX12_goesOver 105 = .ok (.goto (-93), 3) := by decide +kernel
theorem dX12_goesOver_108 : decode cX12_goesOver 108 = .ok (.iload 5, 2) := by decide +kernel
theorem dX12_goesOver_110 : decode cX12_goesOver 110 = .ok (.ireturn, 1) := by decide +kernel
theorem dX12_rallies_0 : decode cX12_rallies 0 = .ok (.aload_n 0, 1) := by decide +kernel
theorem dX12_rallies_1 : decode cX12_rallies 1 = .ok (.iconst (-1), 1) := by decide +kernel
theorem dX12_rallies_2 : decode cX12_rallies 2 = .ok (.putfield 286, 3) := by decide +kernel
theorem dX12_rallies_5 : decode cX12_rallies 5 = .ok (.aload_n 0, 1) := by decide +kernel
theorem dX12_rallies_6 : decode cX12_rallies 6 = .ok (.iconst 0, 1) := by decide +kernel
theorem dX12_rallies_7 : decode cX12_rallies 7 = .ok (.putfield 289, 3) := by decide +kernel
theorem dX12_rallies_10 : decode cX12_rallies 10 = .ok (.aload_n 0, 1) := by decide +kernel
theorem dX12_rallies_11 : decode cX12_rallies 11 = .ok (.ldc2_w 292, 3) := by decide +kernel
theorem dX12_rallies_14 : decode cX12_rallies 14 = .ok (.putfield 294, 3) := by decide +kernel
theorem dX12_rallies_17 : decode cX12_rallies 17 = .ok (.aload_n 0, 1) := by decide +kernel
theorem dX12_rallies_18 : decode cX12_rallies 18 = .ok (.iconst (-1), 1) := by decide +kernel
theorem dX12_rallies_19 : decode cX12_rallies 19 = .ok (.putfield 297, 3) := by decide +kernel
theorem dX12_rallies_22 : decode cX12_rallies 22 = .ok (.aload_n 0, 1) := by decide +kernel
theorem dX12_rallies_23 : decode cX12_rallies 23 = .ok (.getfield 286, 3) := by decide +kernel
theorem dX12_rallies_26 : decode cX12_rallies 26 = .ok (.iconst (-1), 1) := by decide +kernel
theorem dX12_rallies_27 : decode cX12_rallies 27 = .ok (.if_icmp .ne 152, 3) := by decide +kernel
theorem dX12_rallies_30 : decode cX12_rallies 30 = .ok (.aload_n 0, 1) := by decide +kernel
theorem dX12_rallies_31 : decode cX12_rallies 31 = .ok (.getfield 289, 3) := by decide +kernel
theorem dX12_rallies_34 : decode cX12_rallies 34 = .ok (.aload_n 0, 1) := by decide +kernel
theorem dX12_rallies_35 : decode cX12_rallies 35 = .ok (.getfield 66, 3) := by decide +kernel
theorem dX12_rallies_38 : decode cX12_rallies 38 = .ok (.iload_n 1, 1) := by decide +kernel
theorem dX12_rallies_39 : decode cX12_rallies 39 = .ok (.iaload, 1) := by decide +kernel
theorem dX12_rallies_40 : decode cX12_rallies 40 = .ok (.if_icmp .ge 139, 3) := by decide +kernel
theorem dX12_rallies_43 : decode cX12_rallies 43 = .ok (.aload_n 0, 1) := by decide +kernel
theorem dX12_rallies_44 : decode cX12_rallies 44 = .ok (.getfield 289, 3) := by decide +kernel
theorem dX12_rallies_47 : decode cX12_rallies 47 = .ok (.iconst 2, 1) := by decide +kernel
theorem dX12_rallies_48 : decode cX12_rallies 48 = .ok (.irem, 1) := by decide +kernel
theorem dX12_rallies_49 : decode cX12_rallies 49 = .ok (.istore_n 2, 1) := by decide +kernel
theorem dX12_rallies_50 : decode cX12_rallies 50 = .ok (.aload_n 0, 1) := by decide +kernel
theorem dX12_rallies_51 : decode cX12_rallies 51 = .ok (.getfield 69, 3) := by decide +kernel
theorem dX12_rallies_54 : decode cX12_rallies 54 = .ok (.bipush 40, 2) := by decide +kernel
theorem dX12_rallies_56 : decode cX12_rallies 56 = .ok (.iload_n 1, 1) := by decide +kernel
theorem dX12_rallies_57 : decode cX12_rallies 57 = .ok (.imul, 1) := by decide +kernel
theorem dX12_rallies_58 : decode cX12_rallies 58 = .ok (.aload_n 0, 1) := by decide +kernel
theorem dX12_rallies_59 : decode cX12_rallies 59 = .ok (.getfield 289, 3) := by decide +kernel
theorem dX12_rallies_62 : decode cX12_rallies 62 = .ok (.iadd, 1) := by decide +kernel
theorem dX12_rallies_63 : decode cX12_rallies 63 = .ok (.iaload, 1) := by decide +kernel
theorem dX12_rallies_64 : decode cX12_rallies 64 = .ok (.istore_n 3, 1) := by decide +kernel
theorem dX12_rallies_65 : decode cX12_rallies 65 = .ok (.aload_n 0, 1) := by decide +kernel
theorem dX12_rallies_66 : decode cX12_rallies 66 = .ok (.getfield 23, 3) := by decide +kernel
theorem dX12_rallies_69 : decode cX12_rallies 69 = .ok (.iload_n 2, 1) := by decide +kernel
theorem dX12_rallies_70 : decode cX12_rallies 70 = .ok (.iaload, 1) := by decide +kernel
theorem dX12_rallies_71 : decode cX12_rallies 71 = .ok (.istore 4, 2) := by decide +kernel
theorem dX12_rallies_73 : decode cX12_rallies 73 = .ok (.aload_n 0, 1) := by decide +kernel
theorem dX12_rallies_74 : decode cX12_rallies 74 = .ok (.getfield 23, 3) := by decide +kernel
theorem dX12_rallies_77 : decode cX12_rallies 77 = .ok (.iconst 1, 1) := by decide +kernel
theorem dX12_rallies_78 : decode cX12_rallies 78 = .ok (.iload_n 2, 1) := by decide +kernel
theorem dX12_rallies_79 : decode cX12_rallies 79 = .ok (.isub, 1) := by decide +kernel
theorem dX12_rallies_80 : decode cX12_rallies 80 = .ok (.iaload, 1) := by decide +kernel
theorem dX12_rallies_81 : decode cX12_rallies 81 = .ok (.istore 5, 2) := by decide +kernel
theorem dX12_rallies_83 : decode cX12_rallies 83 = .ok (.aload_n 0, 1) := by decide +kernel
theorem dX12_rallies_84 : decode cX12_rallies 84 = .ok (.aload_n 0, 1) := by decide +kernel
theorem dX12_rallies_85 : decode cX12_rallies 85 = .ok (.getfield 294, 3) := by decide +kernel
theorem dX12_rallies_88 : decode cX12_rallies 88 = .ok (.bipush 100, 2) := by decide +kernel
theorem dX12_rallies_90 : decode cX12_rallies 90 = .ok (.aload_n 0, 1) := by decide +kernel
theorem dX12_rallies_91 : decode cX12_rallies 91 = .ok (.iload_n 2, 1) := by decide +kernel
theorem dX12_rallies_92 : decode cX12_rallies 92 = .ok (.iload_n 3, 1) := by decide +kernel
theorem dX12_rallies_93 : decode cX12_rallies 93 = .ok (.invokevirtual 270, 3) := by decide +kernel
theorem dX12_rallies_96 : decode cX12_rallies 96 = .ok (.isub, 1) := by decide +kernel
theorem dX12_rallies_97 : decode cX12_rallies 97 = .ok (.i2l, 1) := by decide +kernel
theorem dX12_rallies_98 : decode cX12_rallies 98 = .ok (.lmul, 1) := by decide +kernel
theorem dX12_rallies_99 : decode cX12_rallies 99 = .ok (.ldc2_w 300, 3) := by decide +kernel
theorem dX12_rallies_102 : decode cX12_rallies 102 = .ok (.ldiv, 1) := by decide +kernel
theorem dX12_rallies_103 : decode cX12_rallies 103 = .ok (.putfield 294, 3) := by decide +kernel
theorem dX12_rallies_106 : decode cX12_rallies 106 = .ok (.aload_n 0, 1) := by decide +kernel
theorem dX12_rallies_107 : decode cX12_rallies 107 = .ok (.iload_n 2, 1) := by decide +kernel
theorem dX12_rallies_108 : decode cX12_rallies 108 = .ok (.iload_n 3, 1) := by decide +kernel
theorem dX12_rallies_109 : decode cX12_rallies 109 = .ok (.invokevirtual 302, 3) := by decide +kernel
theorem dX12_rallies_112 : decode cX12_rallies 112 = .ok (.ifCond .eq 11, 3) := by decide +kernel
theorem dX12_rallies_115 : decode cX12_rallies 115 = .ok (.aload_n 0, 1) := by decide +kernel
theorem dX12_rallies_116 : decode cX12_rallies 116 = .ok (.iload_n 2, 1) := by decide +kernel
theorem dX12_rallies_117 : decode cX12_rallies 117 = .ok (.putfield 286, 3) := by decide +kernel
theorem dX12_rallies_120 : decode cX12_rallies 120 = .ok (.goto 33, 3) := by decide +kernel
theorem dX12_rallies_123 : decode cX12_rallies 123 = .ok (.aload_n 0, 1) := by decide +kernel
theorem dX12_rallies_124 : decode cX12_rallies 124 = .ok (.getfield 297, 3) := by decide +kernel
theorem dX12_rallies_127 : decode cX12_rallies 127 = .ok (.iconst (-1), 1) := by decide +kernel
theorem dX12_rallies_128 : decode cX12_rallies 128 = .ok (.if_icmp .ne 25, 3) := by decide +kernel
theorem dX12_rallies_131 : decode cX12_rallies 131 = .ok (.iload 5, 2) := by decide +kernel
theorem dX12_rallies_133 : decode cX12_rallies 133 = .ok (.aload_n 0, 1) := by decide +kernel
theorem dX12_rallies_134 : decode cX12_rallies 134 = .ok (.getfield 276, 3) := by decide +kernel
theorem dX12_rallies_137 : decode cX12_rallies 137 = .ok (.iload 4, 2) := by decide +kernel
theorem dX12_rallies_139 : decode cX12_rallies 139 = .ok (.invokestatic 305, 3) := by decide +kernel
theorem dX12_rallies_142 : decode cX12_rallies 142 = .ok (.ifCond .eq 11, 3) := by decide +kernel
theorem dX12_rallies_145 : decode cX12_rallies 145 = .ok (.aload_n 0, 1) := by decide +kernel
theorem dX12_rallies_146 : decode cX12_rallies 146 = .ok (.aload_n 0, 1) := by decide +kernel
theorem dX12_rallies_147 : decode cX12_rallies 147 = .ok (.getfield 289, 3) := by decide +kernel
theorem dX12_rallies_150 : decode cX12_rallies 150 = .ok (.putfield 297, 3) := by decide +kernel
theorem dX12_rallies_153 : decode cX12_rallies 153 = .ok (.aload_n 0, 1) := by decide +kernel
theorem dX12_rallies_154 : decode cX12_rallies 154 = .ok (.getfield 47, 3) := by decide +kernel
theorem dX12_rallies_157 : decode cX12_rallies 157 = .ok (.aload_n 0, 1) := by decide +kernel
theorem dX12_rallies_158 : decode cX12_rallies 158 = .ok (.getfield 289, 3) := by decide +kernel
theorem dX12_rallies_161 : decode cX12_rallies 161 = .ok (.aload_n 0, 1) := by decide +kernel
theorem dX12_rallies_162 : decode cX12_rallies 162 = .ok (.getfield 276, 3) := by decide +kernel
theorem dX12_rallies_165 : decode cX12_rallies 165 = .ok (.iastore, 1) := by decide +kernel
theorem dX12_rallies_166 : decode cX12_rallies 166 = .ok (.aload_n 0, 1) := by decide +kernel
theorem dX12_rallies_167 : decode cX12_rallies 167 = .ok (.dup, 1) := by decide +kernel
theorem dX12_rallies_168 : decode cX12_rallies 168 = .ok (.getfield 289, 3) := by decide +kernel
theorem dX12_rallies_171 : decode cX12_rallies 171 = .ok (.iconst 1, 1) := by decide +kernel
theorem dX12_rallies_172 : decode cX12_rallies 172 = .ok (.iadd, 1) := by decide +kernel
theorem dX12_rallies_173 : decode cX12_rallies 173 = .ok (.putfield 289, 3) := by decide +kernel
theorem dX12_rallies_176 : decode cX12_rallies 176 = .ok (.goto (-154), 3) := by decide +kernel
theorem dX12_rallies_179 : decode cX12_rallies 179 = .ok (.return_, 1) := by decide +kernel
theorem dX12_rallyBad_0 : decode cX12_rallyBad 0 = .ok (.iload_n 1, 1) := by decide +kernel
theorem dX12_rallyBad_1 : decode cX12_rallyBad 1 = .ok (.invokestatic 309, 3) := by decide +kernel
theorem dX12_rallyBad_4 : decode cX12_rallyBad 4 = .ok (.ifCond .ne 6, 3) := by decide +kernel
theorem dX12_rallyBad_7 : decode cX12_rallyBad 7 = .ok (.bipush (-2), 2) := by decide +kernel
theorem dX12_rallyBad_9 : decode cX12_rallyBad 9 = .ok (.ireturn, 1) := by decide +kernel
theorem dX12_rallyBad_10 : decode cX12_rallyBad 10 = .ok (.aload_n 0, 1) := by decide +kernel
theorem dX12_rallyBad_11 : decode cX12_rallyBad 11 = .ok (.getfield 59, 3) := by decide +kernel
theorem dX12_rallyBad_14 : decode cX12_rallyBad 14 = .ok (.iload_n 1, 1) := by decide +kernel
theorem dX12_rallyBad_15 : decode cX12_rallyBad 15 = .ok (.baload, 1) := by decide +kernel
theorem dX12_rallyBad_16 : decode cX12_rallyBad 16 = .ok (.ifCond .ne 6, 3) := by decide +kernel
theorem dX12_rallyBad_19 : decode cX12_rallyBad 19 = .ok (.bipush (-11), 2) := by decide +kernel
theorem dX12_rallyBad_21 : decode cX12_rallyBad 21 = .ok (.ireturn, 1) := by decide +kernel
theorem dX12_rallyBad_22 : decode cX12_rallyBad 22 = .ok (.iconst 0, 1) := by decide +kernel
theorem dX12_rallyBad_23 : decode cX12_rallyBad 23 = .ok (.istore_n 2, 1) := by decide +kernel
theorem dX12_rallyBad_24 : decode cX12_rallyBad 24 = .ok (.iload_n 2, 1) := by decide +kernel
theorem dX12_rallyBad_25 : decode cX12_rallyBad 25 = .ok (.aload_n 0, 1) := by decide +kernel
theorem dX12_rallyBad_26 : decode cX12_rallyBad 26 = .ok (.getfield 66, 3) := by decide +kernel
theorem dX12_rallyBad_29 : decode cX12_rallyBad 29 = .ok (.iload_n 1, 1) := by decide +kernel
theorem dX12_rallyBad_30 : decode cX12_rallyBad 30 = .ok (.iaload, 1) := by decide +kernel
theorem dX12_rallyBad_31 : decode cX12_rallyBad 31 = .ok (.if_icmp .ge 30, 3) := by decide +kernel
theorem dX12_rallyBad_34 : decode cX12_rallyBad 34 = .ok (.aload_n 0, 1) := by decide +kernel
theorem dX12_rallyBad_35 : decode cX12_rallyBad 35 = .ok (.aload_n 0, 1) := by decide +kernel
theorem dX12_rallyBad_36 : decode cX12_rallyBad 36 = .ok (.getfield 69, 3) := by decide +kernel
theorem dX12_rallyBad_39 : decode cX12_rallyBad 39 = .ok (.bipush 40, 2) := by decide +kernel
theorem dX12_rallyBad_41 : decode cX12_rallyBad 41 = .ok (.iload_n 1, 1) := by decide +kernel
theorem dX12_rallyBad_42 : decode cX12_rallyBad 42 = .ok (.imul, 1) := by decide +kernel
theorem dX12_rallyBad_43 : decode cX12_rallyBad 43 = .ok (.iload_n 2, 1) := by decide +kernel
theorem dX12_rallyBad_44 : decode cX12_rallyBad 44 = .ok (.iadd, 1) := by decide +kernel
theorem dX12_rallyBad_45 : decode cX12_rallyBad 45 = .ok (.iaload, 1) := by decide +kernel
theorem dX12_rallyBad_46 : decode cX12_rallyBad 46 = .ok (.invokevirtual 98, 3) := by decide +kernel
theorem dX12_rallyBad_49 : decode cX12_rallyBad 49 = .ok (.ifCond .ne 6, 3) := by decide +kernel
theorem dX12_rallyBad_52 : decode cX12_rallyBad 52 = .ok (.bipush (-2), 2) := by decide +kernel
theorem dX12_rallyBad_54 : decode cX12_rallyBad 54 = .ok (.ireturn, 1) := by decide +kernel
theorem dX12_rallyBad_55 : decode cX12_rallyBad 55 = .ok (.iinc 2 1, 3) := by decide +kernel
theorem dX12_rallyBad_58 : decode cX12_rallyBad 58 = .ok (.goto (-34), 3) := by decide +kernel
theorem dX12_rallyBad_61 : decode cX12_rallyBad 61 = .ok (.iconst 0, 1) := by decide +kernel
theorem dX12_rallyBad_62 : decode cX12_rallyBad 62 = .ok (.ireturn, 1) := by decide +kernel
theorem dX12_rally_0 : decode cX12_rally 0 = .ok (.iload_n 1, 1) := by decide +kernel
theorem dX12_rally_1 : decode cX12_rally 1 = .ok (.invokestatic 309, 3) := by decide +kernel
theorem dX12_rally_4 : decode cX12_rally 4 = .ok (.ifCond .eq 15, 3) := by decide +kernel
theorem dX12_rally_7 : decode cX12_rally 7 = .ok (.iload_n 2, 1) := by decide +kernel
theorem dX12_rally_8 : decode cX12_rally 8 = .ok (.i2l, 1) := by decide +kernel
theorem dX12_rally_9 : decode cX12_rally 9 = .ok (.lconst 0, 1) := by decide +kernel
theorem dX12_rally_10 : decode cX12_rally 10 = .ok (.ldc2_w 88, 3) := by decide +kernel
theorem dX12_rally_13 : decode cX12_rally 13 = .ok (.invokestatic 82, 3) := by decide +kernel
theorem dX12_rally_16 : decode cX12_rally 16 = .ok (.ifCond .ne 6, 3) := by decide +kernel
theorem dX12_rally_19 : decode cX12_rally 19 = .ok (.bipush (-2), 2) := by decide +kernel
theorem dX12_rally_21 : decode cX12_rally 21 = .ok (.ireturn, 1) := by decide +kernel
theorem dX12_rally_22 : decode cX12_rally 22 = .ok (.aload_n 0, 1) := by decide +kernel
theorem dX12_rally_23 : decode cX12_rally 23 = .ok (.iload_n 1, 1) := by decide +kernel
theorem dX12_rally_24 : decode cX12_rally 24 = .ok (.invokevirtual 312, 3) := by decide +kernel
theorem dX12_rally_27 : decode cX12_rally 27 = .ok (.istore_n 3, 1) := by decide +kernel
theorem dX12_rally_28 : decode cX12_rally 28 = .ok (.iload_n 3, 1) := by decide +kernel
theorem dX12_rally_29 : decode cX12_rally 29 = .ok (.ifCond .eq 5, 3) := by decide +kernel
theorem dX12_rally_32 : decode cX12_rally 32 = .ok (.iload_n 3, 1) := by decide +kernel
theorem dX12_rally_33 : decode cX12_rally 33 = .ok (.ireturn, 1) := by decide +kernel
theorem dX12_rally_34 : decode cX12_rally 34 = .ok (.aload_n 0, 1) := by decide +kernel
theorem dX12_rally_35 : decode cX12_rally 35 = .ok (.invokevirtual 315, 3) := by decide +kernel
theorem dX12_rally_38 : decode cX12_rally 38 = .ok (.aload_n 0, 1) := by decide +kernel
theorem dX12_rally_39 : decode cX12_rally 39 = .ok (.iload_n 1, 1) := by decide +kernel
theorem dX12_rally_40 : decode cX12_rally 40 = .ok (.invokevirtual 318, 3) := by decide +kernel
theorem dX12_rally_43 : decode cX12_rally 43 = .ok (.iload_n 2, 1) := by decide +kernel
theorem dX12_rally_44 : decode cX12_rally 44 = .ok (.ifCond .ne 10, 3) := by decide +kernel
theorem dX12_rally_47 : decode cX12_rally 47 = .ok (.aload_n 0, 1) := by decide +kernel
theorem dX12_rally_48 : decode cX12_rally 48 = .ok (.getfield 286, 3) := by decide +kernel
theorem dX12_rally_51 : decode cX12_rally 51 = .ok (.goto 52, 3) := by decide +kernel
theorem dX12_rally_54 : decode cX12_rally 54 = .ok (.iload_n 2, 1) := by decide +kernel
theorem dX12_rally_55 : decode cX12_rally 55 = .ok (.iconst 1, 1) := by decide +kernel
theorem dX12_rally_56 : decode cX12_rally 56 = .ok (.if_icmp .ne 10, 3) := by decide +kernel
theorem dX12_rally_59 : decode cX12_rally 59 = .ok (.aload_n 0, 1) := by decide +kernel
theorem dX12_rally_60 : decode cX12_rally 60 = .ok (.getfield 289, 3) := by decide +kernel
theorem dX12_rally_63 : decode cX12_rally 63 = .ok (.goto 40, 3) := by decide +kernel
theorem dX12_rally_66 : decode cX12_rally 66 = .ok (.iload_n 2, 1) := by decide +kernel
theorem dX12_rally_67 : decode cX12_rally 67 = .ok (.iconst 4, 1) := by decide +kernel
theorem dX12_rally_68 : decode cX12_rally 68 = .ok (.if_icmp .ge 14, 3) := by decide +kernel
theorem dX12_rally_71 : decode cX12_rally 71 = .ok (.aload_n 0, 1) := by decide +kernel
theorem dX12_rally_72 : decode cX12_rally 72 = .ok (.getfield 26, 3) := by decide +kernel
theorem dX12_rally_75 : decode cX12_rally 75 = .ok (.iload_n 2, 1) := by decide +kernel
theorem dX12_rally_76 : decode cX12_rally 76 = .ok (.iconst 2, 1) := by decide +kernel
theorem dX12_rally_77 : decode cX12_rally 77 = .ok (.isub, 1) := by decide +kernel
theorem dX12_rally_78 : decode cX12_rally 78 = .ok (.iaload, 1) := by decide +kernel
theorem dX12_rally_79 : decode cX12_rally 79 = .ok (.goto 24, 3) := by decide +kernel
theorem dX12_rally_82 : decode cX12_rally 82 = .ok (.iload_n 2, 1) := by decide +kernel
theorem dX12_rally_83 : decode cX12_rally 83 = .ok (.bipush 6, 2) := by decide +kernel
theorem dX12_rally_85 : decode cX12_rally 85 = .ok (.if_icmp .ge 14, 3) := by decide +kernel
theorem dX12_rally_88 : decode cX12_rally 88 = .ok (.aload_n 0, 1) := by decide +kernel
theorem dX12_rally_89 : decode cX12_rally 89 = .ok (.getfield 23, 3) := by decide +kernel
theorem dX12_rally_92 : decode cX12_rally 92 = .ok (.iload_n 2, 1) := by decide +kernel
theorem dX12_rally_93 : decode cX12_rally 93 = .ok (.iconst 4, 1) := by decide +kernel
theorem dX12_rally_94 : decode cX12_rally 94 = .ok (.isub, 1) := by decide +kernel
theorem dX12_rally_95 : decode cX12_rally 95 = .ok (.iaload, 1) := by decide +kernel
theorem dX12_rally_96 : decode cX12_rally 96 = .ok (.goto 7, 3) := by decide +kernel
theorem dX12_rally_99 : decode cX12_rally 99 = .ok (.aload_n 0, 1) := by decide +kernel
theorem dX12_rally_100 : decode cX12_rally 100 = .ok (.getfield 109, 3) := by decide +kernel
theorem dX12_rally_103 : decode cX12_rally 103 = .ok (.istore 4, 2) := by decide +kernel
theorem dX12_rally_105 : decode cX12_rally 105 = .ok (.aload_n 0, 1) := by decide +kernel
theorem dX12_rally_106 : decode cX12_rally 106 = .ok (.invokevirtual 322, 3) := by decide +kernel
theorem dX12_rally_109 : decode cX12_rally 109 = .ok (.iload 4, 2) := by decide +kernel
theorem dX12_rally_111 : decode cX12_rally 111 = .ok (.ireturn, 1) := by decide +kernel
theorem dX12_play_0 : decode cX12_play 0 = .ok (.aload_n 0, 1) := by decide +kernel
theorem dX12_play_1 : decode cX12_play 1 = .ok (.iload_n 1, 1) := by decide +kernel
theorem dX12_play_2 : decode cX12_play 2 = .ok (.invokevirtual 312, 3) := by decide +kernel
theorem dX12_play_5 : decode cX12_play 5 = .ok (.istore_n 2, 1) := by decide +kernel
theorem dX12_play_6 : decode cX12_play 6 = .ok (.iload_n 2, 1) := by decide +kernel
theorem dX12_play_7 : decode cX12_play 7 = .ok (.ifCond .eq 5, 3) := by decide +kernel
theorem dX12_play_10 : decode cX12_play 10 = .ok (.iload_n 2, 1) := by decide +kernel
theorem dX12_play_11 : decode cX12_play 11 = .ok (.ireturn, 1) := by decide +kernel
theorem dX12_play_12 : decode cX12_play 12 = .ok (.aload_n 0, 1) := by decide +kernel
theorem dX12_play_13 : decode cX12_play 13 = .ok (.iload_n 1, 1) := by decide +kernel
theorem dX12_play_14 : decode cX12_play 14 = .ok (.invokevirtual 318, 3) := by decide +kernel
theorem dX12_play_17 : decode cX12_play 17 = .ok (.aload_n 0, 1) := by decide +kernel
theorem dX12_play_18 : decode cX12_play 18 = .ok (.getfield 286, 3) := by decide +kernel
theorem dX12_play_21 : decode cX12_play 21 = .ok (.ireturn, 1) := by decide +kernel
theorem dX12_likely_0 : decode cX12_likely 0 = .ok (.aload_n 0, 1) := by decide +kernel
theorem dX12_likely_1 : decode cX12_likely 1 = .ok (.iload_n 1, 1) := by decide +kernel
theorem dX12_likely_2 : decode cX12_likely 2 = .ok (.invokevirtual 312, 3) := by decide +kernel
theorem dX12_likely_5 : decode cX12_likely 5 = .ok (.ifCond .eq 7, 3) := by decide +kernel
theorem dX12_likely_8 : decode cX12_likely 8 = .ok (.ldc2_w 325, 3) := by decide +kernel
theorem dX12_likely_11 : decode cX12_likely 11 = .ok (.lreturn, 1) := by decide +kernel
theorem dX12_likely_12 : decode cX12_likely 12 = .ok (.aload_n 0, 1) := by decide +kernel
theorem dX12_likely_13 : decode cX12_likely 13 = .ok (.invokevirtual 315, 3) := by decide +kernel
theorem dX12_likely_16 : decode cX12_likely 16 = .ok (.aload_n 0, 1) := by decide +kernel
theorem dX12_likely_17 : decode cX12_likely 17 = .ok (.iload_n 1, 1) := by decide +kernel
theorem dX12_likely_18 : decode cX12_likely 18 = .ok (.invokevirtual 318, 3) := by decide +kernel
theorem dX12_likely_21 : decode cX12_likely 21 = .ok (.aload_n 0, 1) := by decide +kernel
theorem dX12_likely_22 : decode cX12_likely 22 = .ok (.invokevirtual 322, 3) := by decide +kernel
theorem dX12_likely_25 : decode cX12_likely 25 = .ok (.aload_n 0, 1) := by decide +kernel
theorem dX12_likely_26 : decode cX12_likely 26 = .ok (.getfield 294, 3) := by decide +kernel
theorem dX12_likely_29 : decode cX12_likely 29 = .ok (.lreturn, 1) := by decide +kernel
theorem dX12_valueOf_0 : decode cX12_valueOf 0 = .ok (.bipush (-2), 2) := by decide +kernel
theorem dX12_valueOf_2 : decode cX12_valueOf 2 = .ok (.istore_n 3, 1) := by decide +kernel
theorem dX12_valueOf_3 : decode cX12_valueOf 3 = .ok (.iconst (-1), 1) := by decide +kernel
theorem dX12_valueOf_4 : decode cX12_valueOf 4 = .ok (.istore 4, 2) := by decide +kernel
theorem dX12_valueOf_6 : decode cX12_valueOf 6 = .ok (.iload_n 2, 1) := by decide +kernel
theorem dX12_valueOf_7 : decode cX12_valueOf 7 = .ok (.ifCond .eq 10, 3) := by decide +kernel
theorem dX12_valueOf_10 : decode cX12_valueOf 10 = .ok (.aload_n 0, 1) := by decide +kernel
theorem dX12_valueOf_11 : decode cX12_valueOf 11 = .ok (.getfield 79, 3) := by decide +kernel
theorem dX12_valueOf_14 : decode cX12_valueOf 14 = .ok (.ifCond .ne 10, 3) := by decide +kernel
theorem dX12_valueOf_17 : decode cX12_valueOf 17 = .ok (.aload_n 0, 1) := by decide +kernel
theorem dX12_valueOf_18 : decode cX12_valueOf 18 = .ok (.iconst (-1), 1) := by decide +kernel
theorem dX12_valueOf_19 : decode cX12_valueOf 19 = .ok (.putfield 327, 3) := by decide +kernel
theorem dX12_valueOf_22 : decode cX12_valueOf 22 = .ok (.iconst 0, 1) := by decide +kernel
theorem dX12_valueOf_23 : decode cX12_valueOf 23 = .ok (.ireturn, 1) := by decide +kernel
theorem dX12_valueOf_24 : decode cX12_valueOf 24 = .ok (.iconst 0, 1) := by decide +kernel
theorem dX12_valueOf_25 : decode cX12_valueOf 25 = .ok (.istore 5, 2) := by decide +kernel
theorem dX12_valueOf_27 : decode cX12_valueOf 27 = .ok (.iload 5, 2) := by decide +kernel
theorem dX12_valueOf_29 : decode cX12_valueOf 29 = .ok (.aload_n 0, 1) := by decide +kernel
theorem dX12_valueOf_30 : decode cX12_valueOf 30 = .ok (.getfield 79, 3) := by decide +kernel
theorem dX12_valueOf_33 : decode cX12_valueOf 33 = .ok (.if_icmp .ge 62, 3) := by decide +kernel
theorem dX12_valueOf_36 : decode cX12_valueOf 36 = .ok (.iload_n 3, 1) := by decide +kernel
theorem dX12_valueOf_37 : decode cX12_valueOf 37 = .ok (.iconst 1, 1) := by decide +kernel
theorem dX12_valueOf_38 : decode cX12_valueOf 38 = .ok (.if_icmp .ge 57, 3) := by decide +kernel
theorem dX12_valueOf_41 : decode cX12_valueOf 41 = .ok (.aload_n 0, 1) := by decide +kernel
theorem dX12_valueOf_42 : decode cX12_valueOf 42 = .ok (.invokevirtual 315, 3) := by decide +kernel
theorem dX12_valueOf_45 : decode cX12_valueOf 45 = .ok (.aload_n 0, 1) := by decide +kernel
theorem dX12_valueOf_46 : decode cX12_valueOf 46 = .ok (.iload_n 1, 1) := by decide +kernel
theorem dX12_valueOf_47 : decode cX12_valueOf 47 = .ok (.iload 5, 2) := by decide +kernel
theorem dX12_valueOf_49 : decode cX12_valueOf 49 = .ok (.invokevirtual 302, 3) := by decide +kernel
theorem dX12_valueOf_52 : decode cX12_valueOf 52 = .ok (.ifCond .eq 7, 3) := by decide +kernel
theorem dX12_valueOf_55 : decode cX12_valueOf 55 = .ok (.iconst 1, 1) := by decide +kernel
theorem dX12_valueOf_56 : decode cX12_valueOf 56 = .ok (.goto 14, 3) := by decide +kernel
theorem dX12_valueOf_59 : decode cX12_valueOf 59 = .ok (.aload_n 0, 1) := by decide +kernel
theorem dX12_valueOf_60 : decode cX12_valueOf 60 = .ok (.iconst 1, 1) := by decide +kernel
theorem dX12_valueOf_61 : decode cX12_valueOf 61 = .ok (.iload_n 1, 1) := by decide +kernel
theorem dX12_valueOf_62 : decode cX12_valueOf 62 = .ok (.isub, 1) := by decide +kernel
theorem dX12_valueOf_63 : decode cX12_valueOf 63 = .ok (.iload_n 2, 1) := by decide +kernel
theorem dX12_valueOf_64 : decode cX12_valueOf 64 = .ok (.iconst 1, 1) := by decide +kernel
theorem dX12_valueOf_65 : decode cX12_valueOf 65 = .ok (.isub, 1) := by decide +kernel
theorem dX12_valueOf_66 : decode cX12_valueOf 66 = .ok (.invokevirtual 330, 3) := by decide +kernel
theorem dX12_valueOf_69 : decode cX12_valueOf 69 = .ok (.ineg, 1) := by decide +kernel
theorem dX12_valueOf_70 : decode cX12_valueOf 70 = .ok (.istore 6, 2) := by decide +kernel
theorem dX12_valueOf_72 : decode cX12_valueOf 72 = .ok (.aload_n 0, 1) := by decide +kernel
theorem dX12_valueOf_73 : decode cX12_valueOf 73 = .ok (.invokevirtual 322, 3) := by decide +kernel
theorem dX12_valueOf_76 : decode cX12_valueOf 76 = .ok (.iload 6, 2) := by decide +kernel
theorem dX12_valueOf_78 : decode cX12_valueOf 78 = .ok (.iload_n 3, 1) := by decide +kernel
theorem dX12_valueOf_79 : decode cX12_valueOf 79 = .ok (.if_icmp .le 10, 3) := by decide +kernel
theorem dX12_valueOf_82 : decode cX12_valueOf 82 = .ok (.iload 6, 2) := by decide +kernel
theorem dX12_valueOf_84 : decode cX12_valueOf 84 = .ok (.istore_n 3, 1) := by decide +kernel
theorem dX12_valueOf_85 : decode cX12_valueOf 85 = .ok (.iload 5, 2) := by decide +kernel
theorem dX12_valueOf_87 : decode cX12_valueOf 87 = .ok (.istore 4, 2) := by decide +kernel
theorem dX12_valueOf_89 : decode cX12_valueOf 89 = .ok (.iinc 5 1, 3) := by decide +kernel
theorem dX12_valueOf_92 : decode cX12_valueOf 92 = .ok (.goto (-65), 3) := by decide +kernel
theorem dX12_valueOf_95 : decode cX12_valueOf 95 = .ok (.aload_n 0, 1) := by decide +kernel
theorem dX12_valueOf_96 : decode cX12_valueOf 96 = .ok (.iload 4, 2) := by decide +kernel
theorem dX12_valueOf_98 : decode cX12_valueOf 98 = .ok (.putfield 327, 3) := by decide +kernel
theorem dX12_valueOf_101 : decode cX12_valueOf 101 = .ok (.iload_n 3, 1) := by decide +kernel
theorem dX12_valueOf_102 : decode cX12_valueOf 102 = .ok (.ireturn, 1) := by decide +kernel
theorem dX12_best_0 : decode cX12_best 0 = .ok (.iload_n 1, 1) := by decide +kernel
theorem dX12_best_1 : decode cX12_best 1 = .ok (.invokestatic 90, 3) := by decide +kernel
theorem dX12_best_4 : decode cX12_best 4 = .ok (.ifCond .eq 25, 3) := by decide +kernel
theorem dX12_best_7 : decode cX12_best 7 = .ok (.iload_n 2, 1) := by decide +kernel
theorem dX12_best_8 : decode cX12_best 8 = .ok (.i2l, 1) := by decide +kernel
theorem dX12_best_9 : decode cX12_best 9 = .ok (.lconst 0, 1) := by decide +kernel
theorem dX12_best_10 : decode cX12_best 10 = .ok (.ldc2_w 96, 3) := by decide +kernel
theorem dX12_best_13 : decode cX12_best 13 = .ok (.invokestatic 82, 3) := by decide +kernel
theorem dX12_best_16 : decode cX12_best 16 = .ok (.ifCond .eq 13, 3) := by decide +kernel
theorem dX12_best_19 : decode cX12_best 19 = .ok (.iload_n 3, 1) := by decide +kernel
theorem dX12_best_20 : decode cX12_best 20 = .ok (.i2l, 1) := by decide +kernel
theorem dX12_best_21 : decode cX12_best 21 = .ok (.lconst 0, 1) := by decide +kernel
theorem dX12_best_22 : decode cX12_best 22 = .ok (.lconst 1, 1) := by decide +kernel
theorem dX12_best_23 : decode cX12_best 23 = .ok (.invokestatic 82, 3) := by decide +kernel
theorem dX12_best_26 : decode cX12_best 26 = .ok (.ifCond .ne 6, 3) := by decide +kernel
theorem dX12_best_29 : decode cX12_best 29 = .ok (.bipush (-100), 2) := by decide +kernel
theorem dX12_best_31 : decode cX12_best 31 = .ok (.ireturn, 1) := by decide +kernel
theorem dX12_best_32 : decode cX12_best 32 = .ok (.aload_n 0, 1) := by decide +kernel
theorem dX12_best_33 : decode cX12_best 33 = .ok (.iload_n 1, 1) := by decide +kernel
theorem dX12_best_34 : decode cX12_best 34 = .ok (.iload_n 2, 1) := by decide +kernel
theorem dX12_best_35 : decode cX12_best 35 = .ok (.invokevirtual 330, 3) := by decide +kernel
theorem dX12_best_38 : decode cX12_best 38 = .ok (.istore 4, 2) := by decide +kernel
theorem dX12_best_40 : decode cX12_best 40 = .ok (.iload_n 3, 1) := by decide +kernel
theorem dX12_best_41 : decode cX12_best 41 = .ok (.ifCond .ne 8, 3) := by decide +kernel
theorem dX12_best_44 : decode cX12_best 44 = .ok (.iload 4, 2) := by decide +kernel
theorem dX12_best_46 : decode cX12_best 46 = .ok (.goto 7, 3) := by decide +kernel
theorem dX12_best_49 : decode cX12_best 49 = .ok (.aload_n 0, 1) := by decide +kernel
theorem dX12_best_50 : decode cX12_best 50 = .ok (.getfield 327, 3) := by decide +kernel
theorem dX12_best_53 : decode cX12_best 53 = .ok (.ireturn, 1) := by decide +kernel
theorem dX12_sure_0 : decode cX12_sure 0 = .ok (.iload_n 1, 1) := by decide +kernel
theorem dX12_sure_1 : decode cX12_sure 1 = .ok (.invokestatic 90, 3) := by decide +kernel
theorem dX12_sure_4 : decode cX12_sure 4 = .ok (.ifCond .ne 6, 3) := by decide +kernel
theorem dX12_sure_7 : decode cX12_sure 7 = .ok (.bipush (-2), 2) := by decide +kernel
theorem dX12_sure_9 : decode cX12_sure 9 = .ok (.ireturn, 1) := by decide +kernel
theorem dX12_sure_10 : decode cX12_sure 10 = .ok (.iconst 1, 1) := by decide +kernel
theorem dX12_sure_11 : decode cX12_sure 11 = .ok (.istore_n 2, 1) := by decide +kernel
theorem dX12_sure_12 : decode cX12_sure 12 = .ok (.iload_n 2, 1) := by decide +kernel
theorem dX12_sure_13 : decode cX12_sure 13 = .ok (.bipush 6, 2) := by decide +kernel
theorem dX12_sure_15 : decode cX12_sure 15 = .ok (.if_icmp .ge 21, 3) := by decide +kernel
theorem dX12_sure_18 : decode cX12_sure 18 = .ok (.aload_n 0, 1) := by decide +kernel
theorem dX12_sure_19 : decode cX12_sure 19 = .ok (.iload_n 1, 1) := by decide +kernel
theorem dX12_sure_20 : decode cX12_sure 20 = .ok (.iload_n 2, 1) := by decide +kernel
theorem dX12_sure_21 : decode cX12_sure 21 = .ok (.invokevirtual 330, 3) := by decide +kernel
theorem dX12_sure_24 : decode cX12_sure 24 = .ok (.iconst 1, 1) := by decide +kernel
theorem dX12_sure_25 : decode cX12_sure 25 = .ok (.if_icmp .ne 5, 3) := by decide +kernel
theorem dX12_sure_28 : decode cX12_sure 28 = .ok (.iload_n 2, 1) := by decide +kernel
theorem dX12_sure_29 : decode cX12_sure 29 = .ok (.ireturn, 1) := by decide +kernel
theorem dX12_sure_30 : decode cX12_sure 30 = .ok (.iinc 2 2, 3) := by decide +kernel
theorem dX12_sure_33 : decode cX12_sure 33 = .ok (.goto (-21), 3) := by decide +kernel
theorem dX12_sure_36 : decode cX12_sure 36 = .ok (.iconst (-1), 1) := by decide +kernel
theorem dX12_sure_37 : decode cX12_sure 37 = .ok (.ireturn, 1) := by decide +kernel
theorem dX12_badness_0 : decode cX12_badness 0 = .ok (.iconst 0, 1) := by decide +kernel
theorem dX12_badness_1 : decode cX12_badness 1 = .ok (.istore_n 3, 1) := by decide +kernel
theorem dX12_badness_2 : decode cX12_badness 2 = .ok (.iconst 1, 1) := by decide +kernel
theorem dX12_badness_3 : decode cX12_badness 3 = .ok (.istore 4, 2) := by decide +kernel
theorem dX12_badness_5 : decode cX12_badness 5 = .ok (.iconst 0, 1) := by decide +kernel
theorem dX12_badness_6 : decode cX12_badness 6 = .ok (.istore 5, 2) := by decide +kernel
theorem dX12_badness_8 : decode cX12_badness 8 = .ok (.iload 5, 2) := by decide +kernel
theorem dX12_badness_10 : decode cX12_badness 10 = .ok (.aload_n 0, 1) := by decide +kernel
theorem dX12_badness_11 : decode cX12_badness 11 = .ok (.getfield 79, 3) := by decide +kernel
theorem dX12_badness_14 : decode cX12_badness 14 = .ok (.if_icmp .ge 58, 3) := by decide +kernel
theorem dX12_badness_17 : decode cX12_badness 17 = .ok (.aload_n 0, 1) := by decide +kernel
theorem dX12_badness_18 : decode cX12_badness 18 = .ok (.iload_n 1, 1) := by decide +kernel
theorem dX12_badness_19 : decode cX12_badness 19 = .ok (.iload_n 2, 1) := by decide +kernel
theorem dX12_badness_20 : decode cX12_badness 20 = .ok (.aload_n 0, 1) := by decide +kernel
theorem dX12_badness_21 : decode cX12_badness 21 = .ok (.iload 5, 2) := by decide +kernel
theorem dX12_badness_23 : decode cX12_badness 23 = .ok (.aload_n 0, 1) := by decide +kernel
theorem dX12_badness_24 : decode cX12_badness 24 = .ok (.getfield 23, 3) := by decide +kernel
theorem dX12_badness_27 : decode cX12_badness 27 = .ok (.iconst 1, 1) := by decide +kernel
theorem dX12_badness_28 : decode cX12_badness 28 = .ok (.iload_n 1, 1) := by decide +kernel
theorem dX12_badness_29 : decode cX12_badness 29 = .ok (.isub, 1) := by decide +kernel
theorem dX12_badness_30 : decode cX12_badness 30 = .ok (.iaload, 1) := by decide +kernel
theorem dX12_badness_31 : decode cX12_badness 31 = .ok (.invokevirtual 252, 3) := by decide +kernel
theorem dX12_badness_34 : decode cX12_badness 34 = .ok (.invokevirtual 264, 3) := by decide +kernel
theorem dX12_badness_37 : decode cX12_badness 37 = .ok (.aload_n 0, 1) := by decide +kernel
theorem dX12_badness_38 : decode cX12_badness 38 = .ok (.iconst 1, 1) := by decide +kernel
theorem dX12_badness_39 : decode cX12_badness 39 = .ok (.iload_n 1, 1) := by decide +kernel
theorem dX12_badness_40 : decode cX12_badness 40 = .ok (.isub, 1) := by decide +kernel
theorem dX12_badness_41 : decode cX12_badness 41 = .ok (.iload 5, 2) := by decide +kernel
theorem dX12_badness_43 : decode cX12_badness 43 = .ok (.invokevirtual 267, 3) := by decide +kernel
theorem dX12_badness_46 : decode cX12_badness 46 = .ok (.isub, 1) := by decide +kernel
theorem dX12_badness_47 : decode cX12_badness 47 = .ok (.istore 6, 2) := by decide +kernel
theorem dX12_badness_49 : decode cX12_badness 49 = .ok (.iload 4, 2) := by decide +kernel
theorem dX12_badness_51 : decode cX12_badness 51 = .ok (.ifCond .ne 9, 3) := by decide +kernel
theorem dX12_badness_54 : decode cX12_badness 54 = .ok (.iload 6, 2) := by decide +kernel
theorem dX12_badness_56 : decode cX12_badness 56 = .ok (.iload_n 3, 1) := by decide +kernel
theorem dX12_badness_57 : decode cX12_badness 57 = .ok (.if_icmp .le 6, 3) := by decide +kernel
theorem dX12_badness_60 : decode cX12_badness 60 = .ok (.iload 6, 2) := by decide +kernel
theorem dX12_badness_62 : decode cX12_badness 62 = .ok (.istore_n 3, 1) := by decide +kernel
theorem dX12_badness_63 : decode cX12_badness 63 = .ok (.iconst 0, 1) := by decide +kernel
theorem dX12_badness_64 : decode cX12_badness 64 = .ok (.istore 4, 2) := by decide +kernel
theorem dX12_badness_66 : decode cX12_badness 66 = .ok (.iinc 5 1, 3) := by decide +kernel
theorem dX12_badness_69 : decode cX12_badness 69 = .ok (.goto (-61), 3) := by decide +kernel
theorem dX12_badness_72 : decode cX12_badness 72 = .ok (.iload_n 3, 1) := by decide +kernel
theorem dX12_badness_73 : decode cX12_badness 73 = .ok (.ireturn, 1) := by decide +kernel
theorem dX12_stand_0 : decode cX12_stand 0 = .ok (.iload_n 1, 1) := by decide +kernel
theorem dX12_stand_1 : decode cX12_stand 1 = .ok (.invokestatic 90, 3) := by decide +kernel
theorem dX12_stand_4 : decode cX12_stand 4 = .ok (.ifCond .eq 13, 3) := by decide +kernel
theorem dX12_stand_7 : decode cX12_stand 7 = .ok (.iload_n 2, 1) := by decide +kernel
theorem dX12_stand_8 : decode cX12_stand 8 = .ok (.i2l, 1) := by decide +kernel
theorem dX12_stand_9 : decode cX12_stand 9 = .ok (.lconst 0, 1) := by decide +kernel
theorem dX12_stand_10 : decode cX12_stand 10 = .ok (.lconst 1, 1) := by decide +kernel
theorem dX12_stand_11 : decode cX12_stand 11 = .ok (.invokestatic 82, 3) := by decide +kernel
theorem dX12_stand_14 : decode cX12_stand 14 = .ok (.ifCond .ne 7, 3) := by decide +kernel
theorem dX12_stand_17 : decode cX12_stand 17 = .ok (.ldc_w 333, 3) := by decide +kernel
theorem dX12_stand_20 : decode cX12_stand 20 = .ok (.ireturn, 1) := by decide +kernel
theorem dX12_stand_21 : decode cX12_stand 21 = .ok (.iconst (-1), 1) := by decide +kernel
theorem dX12_stand_22 : decode cX12_stand 22 = .ok (.istore_n 3, 1) := by decide +kernel
theorem dX12_stand_23 : decode cX12_stand 23 = .ok (.iconst 0, 1) := by decide +kernel
theorem dX12_stand_24 : decode cX12_stand 24 = .ok (.istore 4, 2) := by decide +kernel
theorem dX12_stand_26 : decode cX12_stand 26 = .ok (.iconst 0, 1) := by decide +kernel
theorem dX12_stand_27 : decode cX12_stand 27 = .ok (.istore 5, 2) := by decide +kernel
theorem dX12_stand_29 : decode cX12_stand 29 = .ok (.iload 5, 2) := by decide +kernel
theorem dX12_stand_31 : decode cX12_stand 31 = .ok (.bipush 25, 2) := by decide +kernel
theorem dX12_stand_33 : decode cX12_stand 33 = .ok (.if_icmp .ge 37, 3) := by decide +kernel
